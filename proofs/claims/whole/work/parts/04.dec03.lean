theorem dX6_volumeIf_0 : decode cX6_volumeIf 0 = .ok (.aload_n 0, 1) := by decide +kernel
theorem dX6_volumeIf_1 : decode cX6_volumeIf 1 = .ok (.getfield 12, 3) := by decide +kernel
theorem dX6_volumeIf_4 : decode cX6_volumeIf 4 = .ok (.iload_n 1, 1) := by decide +kernel
theorem dX6_volumeIf_5 : decode cX6_volumeIf 5 = .ok (.invokevirtual 97, 3) := by decide +kernel
theorem dX6_volumeIf_8 : decode cX6_volumeIf 8 = .ok (.invokestatic 101, 3) := by decide +kernel
theorem dX6_volumeIf_11 : decode cX6_volumeIf 11 = .ok (.iload_n 2, 1) := by decide +kernel
theorem dX6_volumeIf_12 : decode cX6_volumeIf 12 = .ok (.iconst 0, 1) := by decide +kernel
theorem dX6_volumeIf_13 : decode cX6_volumeIf 13 = .ok (.iconst 2, 1) := by decide +kernel
theorem dX6_volumeIf_14 : decode cX6_volumeIf 14 = .ok (.invokestatic 56, 3) := by decide +kernel
theorem dX6_volumeIf_17 : decode cX6_volumeIf 17 = .ok (.ifCond .eq 22, 3) := by decide +kernel
theorem dX6_volumeIf_20 : decode cX6_volumeIf 20 = .ok (.iload_n 3, 1) := by decide +kernel
theorem dX6_volumeIf_21 : decode cX6_volumeIf 21 = .ok (.invokestatic 157, 3) := by decide +kernel
theorem dX6_volumeIf_24 : decode cX6_volumeIf 24 = .ok (.ifCond .eq 15, 3) := by decide +kernel
theorem dX6_volumeIf_27 : decode cX6_volumeIf 27 = .ok (.iload 4, 2) := by decide +kernel
theorem dX6_volumeIf_29 : decode cX6_volumeIf 29 = .ok (.invokestatic 157, 3) := by decide +kernel
theorem dX6_volumeIf_32 : decode cX6_volumeIf 32 = .ok (.ifCond .eq 7, 3) := by decide +kernel
theorem dX6_volumeIf_35 : decode cX6_volumeIf 35 = .ok (.iconst 1, 1) := by decide +kernel
theorem dX6_volumeIf_36 : decode cX6_volumeIf 36 = .ok (.goto 4, 3) := by decide +kernel
theorem dX6_volumeIf_39 : decode cX6_volumeIf 39 = .ok (.iconst 0, 1) := by decide +kernel
theorem dX6_volumeIf_40 : decode cX6_volumeIf 40 = .ok (.invokestatic 60, 3) := by decide +kernel
theorem dX6_volumeIf_43 : decode cX6_volumeIf 43 = .ok (.aload_n 0, 1) := by decide +kernel
theorem dX6_volumeIf_44 : decode cX6_volumeIf 44 = .ok (.getfield 22, 3) := by decide +kernel
theorem dX6_volumeIf_47 : decode cX6_volumeIf 47 = .ok (.aload_n 0, 1) := by decide +kernel
theorem dX6_volumeIf_48 : decode cX6_volumeIf 48 = .ok (.getfield 12, 3) := by decide +kernel
theorem dX6_volumeIf_51 : decode cX6_volumeIf 51 = .ok (.bipush 63, 2) := by decide +kernel
theorem dX6_volumeIf_53 : decode cX6_volumeIf 53 = .ok (.invokevirtual 202, 3) := by decide +kernel
theorem dX6_volumeIf_56 : decode cX6_volumeIf 56 = .ok (.aload_n 0, 1) := by decide +kernel
theorem dX6_volumeIf_57 : decode cX6_volumeIf 57 = .ok (.getfield 22, 3) := by decide +kernel
theorem dX6_volumeIf_60 : decode cX6_volumeIf 60 = .ok (.iload_n 2, 1) := by decide +kernel
theorem dX6_volumeIf_61 : decode cX6_volumeIf 61 = .ok (.iload_n 3, 1) := by decide +kernel
theorem dX6_volumeIf_62 : decode cX6_volumeIf 62 = .ok (.iload 4, 2) := by decide +kernel
theorem dX6_volumeIf_64 : decode cX6_volumeIf 64 = .ok (.invokevirtual 206, 3) := by decide +kernel
theorem dX6_volumeIf_67 : decode cX6_volumeIf 67 = .ok (.aload_n 0, 1) := by decide +kernel
theorem dX6_volumeIf_68 : decode cX6_volumeIf 68 = .ok (.getfield 22, 3) := by decide +kernel
theorem dX6_volumeIf_71 : decode cX6_volumeIf 71 = .ok (.invokevirtual 208, 3) := by decide +kernel
theorem dX6_volumeIf_74 : decode cX6_volumeIf 74 = .ok (.aload_n 0, 1) := by decide +kernel
theorem dX6_volumeIf_75 : decode cX6_volumeIf 75 = .ok (.getfield 22, 3) := by decide +kernel
theorem dX6_volumeIf_78 : decode cX6_volumeIf 78 = .ok (.getfield 192, 3) := by decide +kernel
theorem dX6_volumeIf_81 : decode cX6_volumeIf 81 = .ok (.ireturn, 1) := by decide +kernel
theorem dX6_priceFor_0 : decode cX6_priceFor 0 = .ok (.iload_n 1, 1) := by decide +kernel
theorem dX6_priceFor_1 : decode cX6_priceFor 1 = .ok (.invokestatic 157, 3) := by decide +kernel
theorem dX6_priceFor_4 : decode cX6_priceFor 4 = .ok (.invokestatic 60, 3) := by decide +kernel
theorem dX6_priceFor_7 : decode cX6_priceFor 7 = .ok (.iconst 1, 1) := by decide +kernel
theorem dX6_priceFor_8 : decode cX6_priceFor 8 = .ok (.istore_n 2, 1) := by decide +kernel
theorem dX6_priceFor_9 : decode cX6_priceFor 9 = .ok (.iload_n 2, 1) := by decide +kernel
theorem dX6_priceFor_10 : decode cX6_priceFor 10 = .ok (.bipush 99, 2) := by decide +kernel
theorem dX6_priceFor_12 : decode cX6_priceFor 12 = .ok (.if_icmp .gt 32, 3) := by decide +kernel
theorem dX6_priceFor_15 : decode cX6_priceFor 15 = .ok (.aload_n 0, 1) := by decide +kernel
theorem dX6_priceFor_16 : decode cX6_priceFor 16 = .ok (.getfield 12, 3) := by decide +kernel
theorem dX6_priceFor_19 : decode cX6_priceFor 19 = .ok (.iload_n 2, 1) := by decide +kernel
theorem dX6_priceFor_20 : decode cX6_priceFor 20 = .ok (.invokevirtual 189, 3) := by decide +kernel
theorem dX6_priceFor_23 : decode cX6_priceFor 23 = .ok (.aload_n 0, 1) := by decide +kernel
theorem dX6_priceFor_24 : decode cX6_priceFor 24 = .ok (.getfield 12, 3) := by decide +kernel
theorem dX6_priceFor_27 : decode cX6_priceFor 27 = .ok (.iload_n 2, 1) := by decide +kernel
theorem dX6_priceFor_28 : decode cX6_priceFor 28 = .ok (.invokevirtual 186, 3) := by decide +kernel
theorem dX6_priceFor_31 : decode cX6_priceFor 31 = .ok (.isub, 1) := by decide +kernel
theorem dX6_priceFor_32 : decode cX6_priceFor 32 = .ok (.iload_n 1, 1) := by decide +kernel
theorem dX6_priceFor_33 : decode cX6_priceFor 33 = .ok (.if_icmp .lt 5, 3) := by decide +kernel
theorem dX6_priceFor_36 : decode cX6_priceFor 36 = .ok (.iload_n 2, 1) := by decide +kernel
theorem dX6_priceFor_37 : decode cX6_priceFor 37 = .ok (.ireturn, 1) := by decide +kernel
theorem dX6_priceFor_38 : decode cX6_priceFor 38 = .ok (.iinc 2 1, 3) := by decide +kernel
theorem dX6_priceFor_41 : decode cX6_priceFor 41 = .ok (.goto (-32), 3) := by decide +kernel
theorem dX6_priceFor_44 : decode cX6_priceFor 44 = .ok (.bipush (-9), 2) := by decide +kernel
theorem dX6_priceFor_46 : decode cX6_priceFor 46 = .ok (.ireturn, 1) := by decide +kernel
theorem dX6_share_0 : decode cX6_share 0 = .ok (.aload_n 0, 1) := by decide +kernel
theorem dX6_share_1 : decode cX6_share 1 = .ok (.getfield 12, 3) := by decide +kernel
theorem dX6_share_4 : decode cX6_share 4 = .ok (.iload_n 1, 1) := by decide +kernel
theorem dX6_share_5 : decode cX6_share 5 = .ok (.invokevirtual 97, 3) := by decide +kernel
theorem dX6_share_8 : decode cX6_share 8 = .ok (.invokestatic 101, 3) := by decide +kernel
theorem dX6_share_11 : decode cX6_share 11 = .ok (.aload_n 0, 1) := by decide +kernel
theorem dX6_share_12 : decode cX6_share 12 = .ok (.getfield 12, 3) := by decide +kernel
theorem dX6_share_15 : decode cX6_share 15 = .ok (.getfield 90, 3) := by decide +kernel
theorem dX6_share_18 : decode cX6_share 18 = .ok (.iconst 1, 1) := by decide +kernel
theorem dX6_share_19 : decode cX6_share 19 = .ok (.isub, 1) := by decide +kernel
theorem dX6_share_20 : decode cX6_share 20 = .ok (.istore_n 3, 1) := by decide +kernel
theorem dX6_share_21 : decode cX6_share 21 = .ok (.iconst 1, 1) := by decide +kernel
theorem dX6_share_22 : decode cX6_share 22 = .ok (.iload_n 1, 1) := by decide +kernel
theorem dX6_share_23 : decode cX6_share 23 = .ok (.ishl, 1) := by decide +kernel
theorem dX6_share_24 : decode cX6_share 24 = .ok (.istore 4, 2) := by decide +kernel
theorem dX6_share_26 : decode cX6_share 26 = .ok (.lconst 0, 1) := by decide +kernel
theorem dX6_share_27 : decode cX6_share 27 = .ok (.lstore 5, 2) := by decide +kernel
theorem dX6_share_29 : decode cX6_share 29 = .ok (.iconst 0, 1) := by decide +kernel
theorem dX6_share_30 : decode cX6_share 30 = .ok (.istore 7, 2) := by decide +kernel
theorem dX6_share_32 : decode cX6_share 32 = .ok (.iload 7, 2) := by decide +kernel
theorem dX6_share_34 : decode cX6_share 34 = .ok (.iconst 1, 1) := by decide +kernel
theorem dX6_share_35 : decode cX6_share 35 = .ok (.aload_n 0, 1) := by decide +kernel
theorem dX6_share_36 : decode cX6_share 36 = .ok (.getfield 12, 3) := by decide +kernel
theorem dX6_share_39 : decode cX6_share 39 = .ok (.getfield 90, 3) := by decide +kernel
theorem dX6_share_42 : decode cX6_share 42 = .ok (.ishl, 1) := by decide +kernel
theorem dX6_share_43 : decode cX6_share 43 = .ok (.if_icmp .ge 66, 3) := by decide +kernel
theorem dX6_share_46 : decode cX6_share 46 = .ok (.iload 7, 2) := by decide +kernel
theorem dX6_share_48 : decode cX6_share 48 = .ok (.iload 4, 2) := by decide +kernel
theorem dX6_share_50 : decode cX6_share 50 = .ok (.iand, 1) := by decide +kernel
theorem dX6_share_51 : decode cX6_share 51 = .ok (.ifCond .ne 52, 3) := by decide +kernel
theorem dX6_share_54 : decode cX6_share 54 = .ok (.iload 7, 2) := by decide +kernel
theorem dX6_share_56 : decode cX6_share 56 = .ok (.invokestatic 211, 3) := by decide +kernel
theorem dX6_share_59 : decode cX6_share 59 = .ok (.istore 8, 2) := by decide +kernel
theorem dX6_share_61 : decode cX6_share 61 = .ok (.aload_n 0, 1) := by decide +kernel
theorem dX6_share_62 : decode cX6_share 62 = .ok (.iload 7, 2) := by decide +kernel
theorem dX6_share_64 : decode cX6_share 64 = .ok (.iload 4, 2) := by decide +kernel
theorem dX6_share_66 : decode cX6_share 66 = .ok (.ior, 1) := by decide +kernel
theorem dX6_share_67 : decode cX6_share 67 = .ok (.invokevirtual 216, 3) := by decide +kernel
theorem dX6_share_70 : decode cX6_share 70 = .ok (.aload_n 0, 1) := by decide +kernel
theorem dX6_share_71 : decode cX6_share 71 = .ok (.iload 7, 2) := by decide +kernel
theorem dX6_share_73 : decode cX6_share 73 = .ok (.invokevirtual 216, 3) := by decide +kernel
theorem dX6_share_76 : decode cX6_share 76 = .ok (.isub, 1) := by decide +kernel
theorem dX6_share_77 : decode cX6_share 77 = .ok (.i2l, 1) := by decide +kernel
theorem dX6_share_78 : decode cX6_share 78 = .ok (.lstore 9, 2) := by decide +kernel
theorem dX6_share_80 : decode cX6_share 80 = .ok (.lload 5, 2) := by decide +kernel
theorem dX6_share_82 : decode cX6_share 82 = .ok (.lload 9, 2) := by decide +kernel
theorem dX6_share_84 : decode cX6_share 84 = .ok (.iload 8, 2) := by decide +kernel
theorem dX6_share_86 : decode cX6_share 86 = .ok (.invokestatic 219, 3) := by decide +kernel
theorem dX6_share_89 : decode cX6_share 89 = .ok (.i2l, 1) := by decide +kernel
theorem dX6_share_90 : decode cX6_share 90 = .ok (.lmul, 1) := by decide +kernel
theorem dX6_share_91 : decode cX6_share 91 = .ok (.iload_n 3, 1) := by decide +kernel
theorem dX6_share_92 : decode cX6_share 92 = .ok (.iload 8, 2) := by decide +kernel
theorem dX6_share_94 : decode cX6_share 94 = .ok (.isub, 1) := by decide +kernel
theorem dX6_share_95 : decode cX6_share 95 = .ok (.invokestatic 219, 3) := by decide +kernel
theorem dX6_share_98 : decode cX6_share 98 = .ok (.i2l, 1) := by decide +kernel
theorem dX6_share_99 : decode cX6_share 99 = .ok (.lmul, 1) := by decide +kernel
theorem dX6_share_100 : decode cX6_share 100 = .ok (.ladd, 1) := by decide +kernel
theorem dX6_share_101 : decode cX6_share 101 = .ok (.lstore 5, 2) := by decide +kernel
theorem dX6_share_103 : decode cX6_share 103 = .ok (.iinc 7 1, 3) := by decide +kernel
theorem dX6_share_106 : decode cX6_share 106 = .ok (.goto (-74), 3) := by decide +kernel
theorem dX6_share_109 : decode cX6_share 109 = .ok (.lload 5, 2) := by decide +kernel
theorem dX6_share_111 : decode cX6_share 111 = .ok (.aload_n 0, 1) := by decide +kernel
theorem dX6_share_112 : decode cX6_share 112 = .ok (.getfield 12, 3) := by decide +kernel
theorem dX6_share_115 : decode cX6_share 115 = .ok (.getfield 90, 3) := by decide +kernel
theorem dX6_share_118 : decode cX6_share 118 = .ok (.invokestatic 219, 3) := by decide +kernel
theorem dX6_share_121 : decode cX6_share 121 = .ok (.i2l, 1) := by decide +kernel
theorem dX6_share_122 : decode cX6_share 122 = .ok (.iload_n 2, 1) := by decide +kernel
theorem dX6_share_123 : decode cX6_share 123 = .ok (.invokestatic 222, 3) := by decide +kernel
theorem dX6_share_126 : decode cX6_share 126 = .ok (.l2i, 1) := by decide +kernel
theorem dX6_share_127 : decode cX6_share 127 = .ok (.ireturn, 1) := by decide +kernel
theorem dX6_ahead_0 : decode cX6_ahead 0 = .ok (.aload_n 0, 1) := by decide +kernel
theorem dX6_ahead_1 : decode cX6_ahead 1 = .ok (.getfield 12, 3) := by decide +kernel
theorem dX6_ahead_4 : decode cX6_ahead 4 = .ok (.iload_n 2, 1) := by decide +kernel
theorem dX6_ahead_5 : decode cX6_ahead 5 = .ok (.invokevirtual 97, 3) := by decide +kernel
theorem dX6_ahead_8 : decode cX6_ahead 8 = .ok (.invokestatic 101, 3) := by decide +kernel
theorem dX6_ahead_11 : decode cX6_ahead 11 = .ok (.iload_n 1, 1) := by decide +kernel
theorem dX6_ahead_12 : decode cX6_ahead 12 = .ok (.iconst 0, 1) := by decide +kernel
theorem dX6_ahead_13 : decode cX6_ahead 13 = .ok (.bipush 99, 2) := by decide +kernel
theorem dX6_ahead_15 : decode cX6_ahead 15 = .ok (.invokestatic 56, 3) := by decide +kernel
theorem dX6_ahead_18 : decode cX6_ahead 18 = .ok (.ifCond .eq 17, 3) := by decide +kernel
theorem dX6_ahead_21 : decode cX6_ahead 21 = .ok (.iload_n 3, 1) := by decide +kernel
theorem dX6_ahead_22 : decode cX6_ahead 22 = .ok (.iconst 0, 1) := by decide +kernel
theorem dX6_ahead_23 : decode cX6_ahead 23 = .ok (.bipush 11, 2) := by decide +kernel
theorem dX6_ahead_25 : decode cX6_ahead 25 = .ok (.invokestatic 56, 3) := by decide +kernel
theorem dX6_ahead_28 : decode cX6_ahead 28 = .ok (.ifCond .eq 7, 3) := by decide +kernel
theorem dX6_ahead_31 : decode cX6_ahead 31 = .ok (.iconst 1, 1) := by decide +kernel
theorem dX6_ahead_32 : decode cX6_ahead 32 = .ok (.goto 4, 3) := by decide +kernel
theorem dX6_ahead_35 : decode cX6_ahead 35 = .ok (.iconst 0, 1) := by decide +kernel
theorem dX6_ahead_36 : decode cX6_ahead 36 = .ok (.invokestatic 60, 3) := by decide +kernel
theorem dX6_ahead_39 : decode cX6_ahead 39 = .ok (.aload_n 0, 1) := by decide +kernel
theorem dX6_ahead_40 : decode cX6_ahead 40 = .ok (.getfield 16, 3) := by decide +kernel
theorem dX6_ahead_43 : decode cX6_ahead 43 = .ok (.aload_n 0, 1) := by decide +kernel
theorem dX6_ahead_44 : decode cX6_ahead 44 = .ok (.getfield 12, 3) := by decide +kernel
theorem dX6_ahead_47 : decode cX6_ahead 47 = .ok (.invokevirtual 83, 3) := by decide +kernel
theorem dX6_ahead_50 : decode cX6_ahead 50 = .ok (.aload_n 0, 1) := by decide +kernel
theorem dX6_ahead_51 : decode cX6_ahead 51 = .ok (.getfield 16, 3) := by decide +kernel
theorem dX6_ahead_54 : decode cX6_ahead 54 = .ok (.iload_n 1, 1) := by decide +kernel
theorem dX6_ahead_55 : decode cX6_ahead 55 = .ok (.aload_n 0, 1) := by decide +kernel
theorem dX6_ahead_56 : decode cX6_ahead 56 = .ok (.getfield 22, 3) := by decide +kernel
theorem dX6_ahead_59 : decode cX6_ahead 59 = .ok (.invokevirtual 170, 3) := by decide +kernel
theorem dX6_ahead_62 : decode cX6_ahead 62 = .ok (.pop, 1) := by decide +kernel
theorem dX6_ahead_63 : decode cX6_ahead 63 = .ok (.aload_n 0, 1) := by decide +kernel
theorem dX6_ahead_64 : decode cX6_ahead 64 = .ok (.getfield 16, 3) := by decide +kernel
theorem dX6_ahead_67 : decode cX6_ahead 67 = .ok (.iload_n 2, 1) := by decide +kernel
theorem dX6_ahead_68 : decode cX6_ahead 68 = .ok (.iload_n 3, 1) := by decide +kernel
theorem dX6_ahead_69 : decode cX6_ahead 69 = .ok (.invokevirtual 104, 3) := by decide +kernel
theorem dX6_ahead_72 : decode cX6_ahead 72 = .ok (.ireturn, 1) := by decide +kernel
theorem dX6_sentAfter_0 : decode cX6_sentAfter 0 = .ok (.aload_n 0, 1) := by decide +kernel
theorem dX6_sentAfter_1 : decode cX6_sentAfter 1 = .ok (.getfield 12, 3) := by decide +kernel
theorem dX6_sentAfter_4 : decode cX6_sentAfter 4 = .ok (.iload_n 1, 1) := by decide +kernel
theorem dX6_sentAfter_5 : decode cX6_sentAfter 5 = .ok (.invokevirtual 97, 3) := by decide +kernel
theorem dX6_sentAfter_8 : decode cX6_sentAfter 8 = .ok (.invokestatic 101, 3) := by decide +kernel
theorem dX6_sentAfter_11 : decode cX6_sentAfter 11 = .ok (.iload_n 2, 1) := by decide +kernel
theorem dX6_sentAfter_12 : decode cX6_sentAfter 12 = .ok (.invokestatic 108, 3) := by decide +kernel
theorem dX6_sentAfter_15 : decode cX6_sentAfter 15 = .ok (.invokestatic 60, 3) := by decide +kernel
theorem dX6_sentAfter_18 : decode cX6_sentAfter 18 = .ok (.aload_n 0, 1) := by decide +kernel
theorem dX6_sentAfter_19 : decode cX6_sentAfter 19 = .ok (.getfield 12, 3) := by decide +kernel
theorem dX6_sentAfter_22 : decode cX6_sentAfter 22 = .ok (.getfield 111, 3) := by decide +kernel
theorem dX6_sentAfter_25 : decode cX6_sentAfter 25 = .ok (.iload_n 1, 1) := by decide +kernel
theorem dX6_sentAfter_26 : decode cX6_sentAfter 26 = .ok (.aaload, 1) := by decide +kernel
theorem dX6_sentAfter_27 : decode cX6_sentAfter 27 = .ok (.getfield 226, 3) := by decide +kernel
theorem dX6_sentAfter_30 : decode cX6_sentAfter 30 = .ok (.istore_n 3, 1) := by decide +kernel
theorem dX6_sentAfter_31 : decode cX6_sentAfter 31 = .ok (.iload_n 2, 1) := by decide +kernel
theorem dX6_sentAfter_32 : decode cX6_sentAfter 32 = .ok (.iload_n 3, 1) := by decide +kernel
theorem dX6_sentAfter_33 : decode cX6_sentAfter 33 = .ok (.if_icmp .lt 6, 3) := by decide +kernel
theorem dX6_sentAfter_36 : decode cX6_sentAfter 36 = .ok (.bipush (-9), 2) := by decide +kernel
theorem dX6_sentAfter_38 : decode cX6_sentAfter 38 = .ok (.ireturn, 1) := by decide +kernel
theorem dX6_sentAfter_39 : decode cX6_sentAfter 39 = .ok (.aload_n 0, 1) := by decide +kernel
theorem dX6_sentAfter_40 : decode cX6_sentAfter 40 = .ok (.getfield 16, 3) := by decide +kernel
theorem dX6_sentAfter_43 : decode cX6_sentAfter 43 = .ok (.aload_n 0, 1) := by decide +kernel
theorem dX6_sentAfter_44 : decode cX6_sentAfter 44 = .ok (.getfield 12, 3) := by decide +kernel
theorem dX6_sentAfter_47 : decode cX6_sentAfter 47 = .ok (.invokevirtual 83, 3) := by decide +kernel
theorem dX6_sentAfter_50 : decode cX6_sentAfter 50 = .ok (.iconst 1, 1) := by decide +kernel
theorem dX6_sentAfter_51 : decode cX6_sentAfter 51 = .ok (.istore 4, 2) := by decide +kernel
theorem dX6_sentAfter_53 : decode cX6_sentAfter 53 = .ok (.iload 4, 2) := by decide +kernel
theorem dX6_sentAfter_55 : decode cX6_sentAfter 55 = .ok (.bipush 99, 2) := by decide +kernel
theorem dX6_sentAfter_57 : decode cX6_sentAfter 57 = .ok (.if_icmp .gt 43, 3) := by decide +kernel
theorem dX6_sentAfter_60 : decode cX6_sentAfter 60 = .ok (.aload_n 0, 1) := by decide +kernel
theorem dX6_sentAfter_61 : decode cX6_sentAfter 61 = .ok (.getfield 16, 3) := by decide +kernel
theorem dX6_sentAfter_64 : decode cX6_sentAfter 64 = .ok (.iconst 1, 1) := by decide +kernel
theorem dX6_sentAfter_65 : decode cX6_sentAfter 65 = .ok (.aload_n 0, 1) := by decide +kernel
theorem dX6_sentAfter_66 : decode cX6_sentAfter 66 = .ok (.getfield 22, 3) := by decide +kernel
theorem dX6_sentAfter_69 : decode cX6_sentAfter 69 = .ok (.invokevirtual 170, 3) := by decide +kernel
theorem dX6_sentAfter_72 : decode cX6_sentAfter 72 = .ok (.pop, 1) := by decide +kernel
theorem dX6_sentAfter_73 : decode cX6_sentAfter 73 = .ok (.iload_n 3, 1) := by decide +kernel
theorem dX6_sentAfter_74 : decode cX6_sentAfter 74 = .ok (.aload_n 0, 1) := by decide +kernel
theorem dX6_sentAfter_75 : decode cX6_sentAfter 75 = .ok (.getfield 16, 3) := by decide +kernel
theorem dX6_sentAfter_78 : decode cX6_sentAfter 78 = .ok (.getfield 111, 3) := by decide +kernel
theorem dX6_sentAfter_81 : decode cX6_sentAfter 81 = .ok (.iload_n 1, 1) := by decide +kernel
theorem dX6_sentAfter_82 : decode cX6_sentAfter 82 = .ok (.aaload, 1) := by decide +kernel
theorem dX6_sentAfter_83 : decode cX6_sentAfter 83 = .ok (.getfield 226, 3) := by decide +kernel
theorem dX6_sentAfter_86 : decode cX6_sentAfter 86 = .ok (.isub, 1) := by decide +kernel
theorem dX6_sentAfter_87 : decode cX6_sentAfter 87 = .ok (.iload_n 2, 1) := by decide +kernel
theorem dX6_sentAfter_88 : decode cX6_sentAfter 88 = .ok (.if_icmp .le 6, 3) := by decide +kernel
theorem dX6_sentAfter_91 : decode cX6_sentAfter 91 = .ok (.iload 4, 2) := by decide +kernel
theorem dX6_sentAfter_93 : decode cX6_sentAfter 93 = .ok (.ireturn, 1) := by decide +kernel
theorem dX6_sentAfter_94 : decode cX6_sentAfter 94 = .ok (.iinc 4 1, 3) := by decide +kernel
theorem dX6_sentAfter_97 : decode cX6_sentAfter 97 = .ok (.goto (-44), 3) := by decide +kernel
theorem dX6_sentAfter_100 : decode cX6_sentAfter 100 = .ok (.bipush (-9), 2) := by decide +kernel
theorem dX6_sentAfter_102 : decode cX6_sentAfter 102 = .ok (.ireturn, 1) := by decide +kernel
theorem dX6_unused_0 : decode cX6_unused 0 = .ok (.iload_n 1, 1) := by decide +kernel
theorem dX6_unused_1 : decode cX6_unused 1 = .ok (.iconst 1, 1) := by decide +kernel
theorem dX6_unused_2 : decode cX6_unused 2 = .ok (.bipush 99, 2) := by decide +kernel
theorem dX6_unused_4 : decode cX6_unused 4 = .ok (.invokestatic 56, 3) := by decide +kernel
theorem dX6_unused_7 : decode cX6_unused 7 = .ok (.invokestatic 60, 3) := by decide +kernel
theorem dX6_unused_10 : decode cX6_unused 10 = .ok (.aload_n 0, 1) := by decide +kernel
theorem dX6_unused_11 : decode cX6_unused 11 = .ok (.getfield 16, 3) := by decide +kernel
theorem dX6_unused_14 : decode cX6_unused 14 = .ok (.aload_n 0, 1) := by decide +kernel
theorem dX6_unused_15 : decode cX6_unused 15 = .ok (.getfield 12, 3) := by decide +kernel
theorem dX6_unused_18 : decode cX6_unused 18 = .ok (.invokevirtual 83, 3) := by decide +kernel
theorem dX6_unused_21 : decode cX6_unused 21 = .ok (.iload_n 1, 1) := by decide +kernel
theorem dX6_unused_22 : decode cX6_unused 22 = .ok (.aload_n 0, 1) := by decide +kernel
theorem dX6_unused_23 : decode cX6_unused 23 = .ok (.getfield 12, 3) := by decide +kernel
theorem dX6_unused_26 : decode cX6_unused 26 = .ok (.getfield 177, 3) := by decide +kernel
theorem dX6_unused_29 : decode cX6_unused 29 = .ok (.imul, 1) := by decide +kernel
theorem dX6_unused_30 : decode cX6_unused 30 = .ok (.aload_n 0, 1) := by decide +kernel
theorem dX6_unused_31 : decode cX6_unused 31 = .ok (.getfield 16, 3) := by decide +kernel
theorem dX6_unused_34 : decode cX6_unused 34 = .ok (.iload_n 1, 1) := by decide +kernel
theorem dX6_unused_35 : decode cX6_unused 35 = .ok (.aload_n 0, 1) := by decide +kernel
theorem dX6_unused_36 : decode cX6_unused 36 = .ok (.getfield 22, 3) := by decide +kernel
theorem dX6_unused_39 : decode cX6_unused 39 = .ok (.invokevirtual 170, 3) := by decide +kernel
theorem dX6_unused_42 : decode cX6_unused 42 = .ok (.isub, 1) := by decide +kernel
theorem dX6_unused_43 : decode cX6_unused 43 = .ok (.ireturn, 1) := by decide +kernel
theorem dX6_fairness_0 : decode cX6_fairness 0 = .ok (.lconst 0, 1) := by decide +kernel
theorem dX6_fairness_1 : decode cX6_fairness 1 = .ok (.lstore_n 2, 1) := by decide +kernel
theorem dX6_fairness_2 : decode cX6_fairness 2 = .ok (.lconst 0, 1) := by decide +kernel
theorem dX6_fairness_3 : decode cX6_fairness 3 = .ok (.lstore 4, 2) := by decide +kernel
theorem dX6_fairness_5 : decode cX6_fairness 5 = .ok (.iconst 0, 1) := by decide +kernel
theorem dX6_fairness_6 : decode cX6_fairness 6 = .ok (.istore 6, 2) := by decide +kernel
theorem dX6_fairness_8 : decode cX6_fairness 8 = .ok (.iload 6, 2) := by decide +kernel
theorem dX6_fairness_10 : decode cX6_fairness 10 = .ok (.aload_n 0, 1) := by decide +kernel
theorem dX6_fairness_11 : decode cX6_fairness 11 = .ok (.getfield 12, 3) := by decide +kernel
theorem dX6_fairness_14 : decode cX6_fairness 14 = .ok (.getfield 90, 3) := by decide +kernel
theorem dX6_fairness_17 : decode cX6_fairness 17 = .ok (.if_icmp .ge 40, 3) := by decide +kernel
theorem dX6_fairness_20 : decode cX6_fairness 20 = .ok (.aload_n 0, 1) := by decide +kernel
theorem dX6_fairness_21 : decode cX6_fairness 21 = .ok (.getfield 12, 3) := by decide +kernel
theorem dX6_fairness_24 : decode cX6_fairness 24 = .ok (.getfield 111, 3) := by decide +kernel
theorem dX6_fairness_27 : decode cX6_fairness 27 = .ok (.iload 6, 2) := by decide +kernel
theorem dX6_fairness_29 : decode cX6_fairness 29 = .ok (.aaload, 1) := by decide +kernel
theorem dX6_fairness_30 : decode cX6_fairness 30 = .ok (.getfield 229, 3) := by decide +kernel
theorem dX6_fairness_33 : decode cX6_fairness 33 = .ok (.i2l, 1) := by decide +kernel
theorem dX6_fairness_34 : decode cX6_fairness 34 = .ok (.lstore 7, 2) := by decide +kernel
theorem dX6_fairness_36 : decode cX6_fairness 36 = .ok (.lload_n 2, 1) := by decide +kernel
theorem dX6_fairness_37 : decode cX6_fairness 37 = .ok (.lload 7, 2) := by decide +kernel
theorem dX6_fairness_39 : decode cX6_fairness 39 = .ok (.ladd, 1) := by decide +kernel
theorem dX6_fairness_40 : decode cX6_fairness 40 = .ok (.lstore_n 2, 1) := by decide +kernel
theorem dX6_fairness_41 : decode cX6_fairness 41 = .ok (.lload 4, 2) := by decide +kernel
theorem dX6_fairness_43 : decode cX6_fairness 43 = .ok (.lload 7, 2) := by decide +kernel
theorem dX6_fairness_45 : decode cX6_fairness 45 = .ok (.lload 7, 2) := by decide +kernel
theorem dX6_fairness_47 : decode cX6_fairness 47 = .ok (.lmul, 1) := by decide +kernel
theorem dX6_fairness_48 : decode cX6_fairness 48 = .ok (.ladd, 1) := by decide +kernel
theorem dX6_fairness_49 : decode cX6_fairness 49 = .ok (.lstore 4, 2) := by decide +kernel
theorem dX6_fairness_51 : decode cX6_fairness 51 = .ok (.iinc 6 1, 3) := by decide +kernel
theorem dX6_fairness_54 : decode cX6_fairness 54 = .ok (.goto (-46), 3) := by decide +kernel
theorem dX6_fairness_57 : decode cX6_fairness 57 = .ok (.lload 4, 2) := by decide +kernel
theorem dX6_fairness_59 : decode cX6_fairness 59 = .ok (.lconst 0, 1) := by decide +kernel
theorem dX6_fairness_60 : decode cX6_fairness 60 = .ok (.lcmp, 1) := by decide +kernel
theorem dX6_fairness_61 : decode cX6_fairness 61 = .ok (.ifCond .ne 5, 3) := by decide +kernel
theorem dX6_fairness_64 : decode cX6_fairness 64 = .ok (.lconst 1, 1) := by decide +kernel
theorem dX6_fairness_65 : decode cX6_fairness 65 = .ok (.lreturn, 1) := by decide +kernel
theorem dX6_fairness_66 : decode cX6_fairness 66 = .ok (.lload_n 2, 1) := by decide +kernel
theorem dX6_fairness_67 : decode cX6_fairness 67 = .ok (.lload_n 2, 1) := by decide +kernel
theorem dX6_fairness_68 : decode cX6_fairness 68 = .ok (.lmul, 1) := by decide +kernel
theorem dX6_fairness_69 : decode cX6_fairness 69 = .ok (.aload_n 0, 1) := by decide +kernel
theorem dX6_fairness_70 : decode cX6_fairness 70 = .ok (.getfield 12, 3) := by decide +kernel
theorem dX6_fairness_73 : decode cX6_fairness 73 = .ok (.getfield 90, 3) := by decide +kernel
theorem dX6_fairness_76 : decode cX6_fairness 76 = .ok (.i2l, 1) := by decide +kernel
theorem dX6_fairness_77 : decode cX6_fairness 77 = .ok (.lload 4, 2) := by decide +kernel
theorem dX6_fairness_79 : decode cX6_fairness 79 = .ok (.lmul, 1) := by decide +kernel
theorem dX6_fairness_80 : decode cX6_fairness 80 = .ok (.iload_n 1, 1) := by decide +kernel
theorem dX6_fairness_81 : decode cX6_fairness 81 = .ok (.invokestatic 222, 3) := by decide +kernel
theorem dX6_fairness_84 : decode cX6_fairness 84 = .ok (.lreturn, 1) := by decide +kernel
theorem dX6_wealthiest_0 : decode cX6_wealthiest 0 = .ok (.aload_n 0, 1) := by decide +kernel
theorem dX6_wealthiest_1 : decode cX6_wealthiest 1 = .ok (.getfield 12, 3) := by decide +kernel
theorem dX6_wealthiest_4 : decode cX6_wealthiest 4 = .ok (.iload_n 1, 1) := by decide +kernel
theorem dX6_wealthiest_5 : decode cX6_wealthiest 5 = .ok (.invokevirtual 97, 3) := by decide +kernel
theorem dX6_wealthiest_8 : decode cX6_wealthiest 8 = .ok (.invokestatic 101, 3) := by decide +kernel
theorem dX6_wealthiest_11 : decode cX6_wealthiest 11 = .ok (.iconst 0, 1) := by decide +kernel
theorem dX6_wealthiest_12 : decode cX6_wealthiest 12 = .ok (.istore_n 2, 1) := by decide +kernel
theorem dX6_wealthiest_13 : decode cX6_wealthiest 13 = .ok (.iload_n 2, 1) := by decide +kernel
theorem dX6_wealthiest_14 : decode cX6_wealthiest 14 = .ok (.aload_n 0, 1) := by decide +kernel
theorem dX6_wealthiest_15 : decode cX6_wealthiest 15 = .ok (.getfield 12, 3) := by decide +kernel
theorem dX6_wealthiest_18 : decode cX6_wealthiest 18 = .ok (.getfield 90, 3) := by decide +kernel
theorem dX6_wealthiest_21 : decode cX6_wealthiest 21 = .ok (.if_icmp .ge 23, 3) := by decide +kernel
theorem dX6_wealthiest_24 : decode cX6_wealthiest 24 = .ok (.aload_n 0, 1) := by decide +kernel
theorem dX6_wealthiest_25 : decode cX6_wealthiest 25 = .ok (.getfield 12, 3) := by decide +kernel
theorem dX6_wealthiest_28 : decode cX6_wealthiest 28 = .ok (.iload_n 2, 1) := by decide +kernel
theorem dX6_wealthiest_29 : decode cX6_wealthiest 29 = .ok (.invokevirtual 232, 3) := by decide +kernel
theorem dX6_wealthiest_32 : decode cX6_wealthiest 32 = .ok (.iload_n 1, 1) := by decide +kernel
theorem dX6_wealthiest_33 : decode cX6_wealthiest 33 = .ok (.if_icmp .ne 5, 3) := by decide +kernel
theorem dX6_wealthiest_36 : decode cX6_wealthiest 36 = .ok (.iload_n 2, 1) := by decide +kernel
theorem dX6_wealthiest_37 : decode cX6_wealthiest 37 = .ok (.ireturn, 1) := by decide +kernel
theorem dX6_wealthiest_38 : decode cX6_wealthiest 38 = .ok (.iinc 2 1, 3) := by decide +kernel
theorem dX6_wealthiest_41 : decode cX6_wealthiest 41 = .ok (.goto (-28), 3) := by decide +kernel
theorem dX6_wealthiest_44 : decode cX6_wealthiest 44 = .ok (.bipush (-9), 2) := by decide +kernel
theorem dX6_wealthiest_46 : decode cX6_wealthiest 46 = .ok (.ireturn, 1) := by decide +kernel
theorem dX6_runScript_0 : decode cX6_runScript 0 = .ok (.iload_n 1, 1) := by decide +kernel
theorem dX6_runScript_1 : decode cX6_runScript 1 = .ok (.iconst 1, 1) := by decide +kernel
theorem dX6_runScript_2 : decode cX6_runScript 2 = .ok (.iconst 3, 1) := by decide +kernel
theorem dX6_runScript_3 : decode cX6_runScript 3 = .ok (.invokestatic 56, 3) := by decide +kernel
theorem dX6_runScript_6 : decode cX6_runScript 6 = .ok (.invokestatic 60, 3) := by decide +kernel
theorem dX6_runScript_9 : decode cX6_runScript 9 = .ok (.lload_n 2, 1) := by decide +kernel
theorem dX6_runScript_10 : decode cX6_runScript 10 = .ok (.lconst 0, 1) := by decide +kernel
theorem dX6_runScript_11 : decode cX6_runScript 11 = .ok (.lcmp, 1) := by decide +kernel
theorem dX6_runScript_12 : decode cX6_runScript 12 = .ok (.ifCond .lt 16, 3) := by decide +kernel
theorem dX6_runScript_15 : decode cX6_runScript 15 = .ok (.lload_n 2, 1) := by decide +kernel
theorem dX6_runScript_16 : decode cX6_runScript 16 = .ok (.iload_n 1, 1) := by decide +kernel
theorem dX6_runScript_17 : decode cX6_runScript 17 = .ok (.invokestatic 235, 3) := by decide +kernel
theorem dX6_runScript_20 : decode cX6_runScript 20 = .ok (.lcmp, 1) := by decide +kernel
theorem dX6_runScript_21 : decode cX6_runScript 21 = .ok (.ifCond .ge 7, 3) := by decide +kernel
theorem dX6_runScript_24 : decode cX6_runScript 24 = .ok (.iconst 1, 1) := by decide +kernel
theorem dX6_runScript_25 : decode cX6_runScript 25 = .ok (.goto 4, 3) := by decide +kernel
theorem dX6_runScript_28 : decode cX6_runScript 28 = .ok (.iconst 0, 1) := by decide +kernel
theorem dX6_runScript_29 : decode cX6_runScript 29 = .ok (.invokestatic 60, 3) := by decide +kernel
theorem dX6_runScript_32 : decode cX6_runScript 32 = .ok (.aload_n 0, 1) := by decide +kernel
theorem dX6_runScript_33 : decode cX6_runScript 33 = .ok (.getfield 16, 3) := by decide +kernel
theorem dX6_runScript_36 : decode cX6_runScript 36 = .ok (.aload_n 0, 1) := by decide +kernel
theorem dX6_runScript_37 : decode cX6_runScript 37 = .ok (.getfield 12, 3) := by decide +kernel
theorem dX6_runScript_40 : decode cX6_runScript 40 = .ok (.invokevirtual 83, 3) := by decide +kernel
theorem dX6_runScript_43 : decode cX6_runScript 43 = .ok (.iconst 0, 1) := by decide +kernel
theorem dX6_runScript_44 : decode cX6_runScript 44 = .ok (.istore 4, 2) := by decide +kernel
theorem dX6_runScript_46 : decode cX6_runScript 46 = .ok (.iload 4, 2) := by decide +kernel
theorem dX6_runScript_48 : decode cX6_runScript 48 = .ok (.iload_n 1, 1) := by decide +kernel
theorem dX6_runScript_49 : decode cX6_runScript 49 = .ok (.if_icmp .ge 39, 3) := by decide +kernel
theorem dX6_runScript_52 : decode cX6_runScript 52 = .ok (.lload_n 2, 1) := by decide +kernel
theorem dX6_runScript_53 : decode cX6_runScript 53 = .ok (.iload_n 1, 1) := by decide +kernel
theorem dX6_runScript_54 : decode cX6_runScript 54 = .ok (.iconst 1, 1) := by decide +kernel
theorem dX6_runScript_55 : decode cX6_runScript 55 = .ok (.isub, 1) := by decide +kernel
theorem dX6_runScript_56 : decode cX6_runScript 56 = .ok (.iload 4, 2) := by decide +kernel
theorem dX6_runScript_58 : decode cX6_runScript 58 = .ok (.isub, 1) := by decide +kernel
theorem dX6_runScript_59 : decode cX6_runScript 59 = .ok (.invokestatic 235, 3) := by decide +kernel
theorem dX6_runScript_62 : decode cX6_runScript 62 = .ok (.ldiv, 1) := by decide +kernel
theorem dX6_runScript_63 : decode cX6_runScript 63 = .ok (.ldc2_w 239, 3) := by decide +kernel
theorem dX6_runScript_66 : decode cX6_runScript 66 = .ok (.lrem, 1) := by decide +kernel
theorem dX6_runScript_67 : decode cX6_runScript 67 = .ok (.l2i, 1) := by decide +kernel
theorem dX6_runScript_68 : decode cX6_runScript 68 = .ok (.istore 5, 2) := by decide +kernel
theorem dX6_runScript_70 : decode cX6_runScript 70 = .ok (.aload_n 0, 1) := by decide +kernel
theorem dX6_runScript_71 : decode cX6_runScript 71 = .ok (.iload 5, 2) := by decide +kernel
theorem dX6_runScript_73 : decode cX6_runScript 73 = .ok (.invokevirtual 241, 3) := by decide +kernel
theorem dX6_runScript_76 : decode cX6_runScript 76 = .ok (.ifCond .ne 6, 3) := by decide +kernel
theorem dX6_runScript_79 : decode cX6_runScript 79 = .ok (.iload 4, 2) := by decide +kernel
theorem dX6_runScript_81 : decode cX6_runScript 81 = .ok (.ireturn, 1) := by decide +kernel
theorem dX6_runScript_82 : decode cX6_runScript 82 = .ok (.iinc 4 1, 3) := by decide +kernel
theorem dX6_runScript_85 : decode cX6_runScript 85 = .ok (.goto (-39), 3) := by decide +kernel
theorem dX6_runScript_88 : decode cX6_runScript 88 = .ok (.bipush (-9), 2) := by decide +kernel
theorem dX6_runScript_90 : decode cX6_runScript 90 = .ok (.ireturn, 1) := by decide +kernel
theorem dX6_simulate_0 : decode cX6_simulate 0 = .ok (.iload_n 3, 1) := by decide +kernel
theorem dX6_simulate_1 : decode cX6_simulate 1 = .ok (.iconst 1, 1) := by decide +kernel
theorem dX6_simulate_2 : decode cX6_simulate 2 = .ok (.bipush 60, 2) := by decide +kernel
theorem dX6_simulate_4 : decode cX6_simulate 4 = .ok (.invokestatic 56, 3) := by decide +kernel
theorem dX6_simulate_7 : decode cX6_simulate 7 = .ok (.invokestatic 60, 3) := by decide +kernel
theorem dX6_simulate_10 : decode cX6_simulate 10 = .ok (.aload_n 0, 1) := by decide +kernel
theorem dX6_simulate_11 : decode cX6_simulate 11 = .ok (.getfield 16, 3) := by decide +kernel
theorem dX6_simulate_14 : decode cX6_simulate 14 = .ok (.aload_n 0, 1) := by decide +kernel
theorem dX6_simulate_15 : decode cX6_simulate 15 = .ok (.getfield 12, 3) := by decide +kernel
theorem dX6_simulate_18 : decode cX6_simulate 18 = .ok (.invokevirtual 83, 3) := by decide +kernel
theorem dX6_simulate_21 : decode cX6_simulate 21 = .ok (.lload_n 1, 1) := by decide +kernel
theorem dX6_simulate_22 : decode cX6_simulate 22 = .ok (.lstore 4, 2) := by decide +kernel
theorem dX6_simulate_24 : decode cX6_simulate 24 = .ok (.iconst 0, 1) := by decide +kernel
theorem dX6_simulate_25 : decode cX6_simulate 25 = .ok (.istore 6, 2) := by decide +kernel
theorem dX6_simulate_27 : decode cX6_simulate 27 = .ok (.iconst 0, 1) := by decide +kernel
theorem dX6_simulate_28 : decode cX6_simulate 28 = .ok (.istore 7, 2) := by decide +kernel
theorem dX6_simulate_30 : decode cX6_simulate 30 = .ok (.iload 7, 2) := by decide +kernel
theorem dX6_simulate_32 : decode cX6_simulate 32 = .ok (.iload_n 3, 1) := by decide +kernel
theorem dX6_simulate_33 : decode cX6_simulate 33 = .ok (.if_icmp .ge 48, 3) := by decide +kernel
theorem dX6_simulate_36 : decode cX6_simulate 36 = .ok (.lload 4, 2) := by decide +kernel
theorem dX6_simulate_38 : decode cX6_simulate 38 = .ok (.ldc2_w 244, 3) := by decide +kernel
theorem dX6_simulate_41 : decode cX6_simulate 41 = .ok (.lmul, 1) := by decide +kernel
theorem dX6_simulate_42 : decode cX6_simulate 42 = .ok (.ldc2_w 246, 3) := by decide +kernel
theorem dX6_simulate_45 : decode cX6_simulate 45 = .ok (.ladd, 1) := by decide +kernel
theorem dX6_simulate_46 : decode cX6_simulate 46 = .ok (.lstore 4, 2) := by decide +kernel
theorem dX6_simulate_48 : decode cX6_simulate 48 = .ok (.aload_n 0, 1) := by decide +kernel
theorem dX6_simulate_49 : decode cX6_simulate 49 = .ok (.lload 4, 2) := by decide +kernel
theorem dX6_simulate_51 : decode cX6_simulate 51 = .ok (.bipush 33, 2) := by decide +kernel
theorem dX6_simulate_53 : decode cX6_simulate 53 = .ok (.lushr, 1) := by decide +kernel
theorem dX6_simulate_54 : decode cX6_simulate 54 = .ok (.l2i, 1) := by decide +kernel
theorem dX6_simulate_55 : decode cX6_simulate 55 = .ok (.invokevirtual 248, 3) := by decide +kernel
theorem dX6_simulate_58 : decode cX6_simulate 58 = .ok (.iload 6, 2) := by decide +kernel
theorem dX6_simulate_60 : decode cX6_simulate 60 = .ok (.aload_n 0, 1) := by decide +kernel
theorem dX6_simulate_61 : decode cX6_simulate 61 = .ok (.getfield 16, 3) := by decide +kernel
theorem dX6_simulate_64 : decode cX6_simulate 64 = .ok (.iconst 1, 1) := by decide +kernel
theorem dX6_simulate_65 : decode cX6_simulate 65 = .ok (.aload_n 0, 1) := by decide +kernel
theorem dX6_simulate_66 : decode cX6_simulate 66 = .ok (.getfield 22, 3) := by decide +kernel
theorem dX6_simulate_69 : decode cX6_simulate 69 = .ok (.invokevirtual 170, 3) := by decide +kernel
theorem dX6_simulate_72 : decode cX6_simulate 72 = .ok (.iadd, 1) := by decide +kernel
theorem dX6_simulate_73 : decode cX6_simulate 73 = .ok (.istore 6, 2) := by decide +kernel
theorem dX6_simulate_75 : decode cX6_simulate 75 = .ok (.iinc 7 1, 3) := by decide +kernel
theorem dX6_simulate_78 : decode cX6_simulate 78 = .ok (.goto (-48), 3) := by decide +kernel
theorem dX6_simulate_81 : decode cX6_simulate 81 = .ok (.iload 6, 2) := by decide +kernel
theorem dX6_simulate_83 : decode cX6_simulate 83 = .ok (.ireturn, 1) := by decide +kernel
theorem dX6_save_0 : decode cX6_save 0 = .ok (.iload_n 1, 1) := by decide +kernel
theorem dX6_save_1 : decode cX6_save 1 = .ok (.invokestatic 252, 3) := by decide +kernel
theorem dX6_save_4 : decode cX6_save 4 = .ok (.invokestatic 101, 3) := by decide +kernel
theorem dX6_save_7 : decode cX6_save 7 = .ok (.aload_n 0, 1) := by decide +kernel
theorem dX6_save_8 : decode cX6_save 8 = .ok (.getfield 33, 3) := by decide +kernel
theorem dX6_save_11 : decode cX6_save 11 = .ok (.iload_n 1, 1) := by decide +kernel
theorem dX6_save_12 : decode cX6_save 12 = .ok (.aaload, 1) := by decide +kernel
theorem dX6_save_13 : decode cX6_save 13 = .ok (.astore_n 2, 1) := by decide +kernel
theorem dX6_save_14 : decode cX6_save 14 = .ok (.aload_n 2, 1) := by decide +kernel
theorem dX6_save_15 : decode cX6_save 15 = .ok (.ifnonnull 18, 3) := by decide +kernel
theorem dX6_save_18 : decode cX6_save 18 = .ok (.new 9, 3) := by decide +kernel
theorem dX6_save_21 : decode cX6_save 21 = .ok (.dup, 1) := by decide +kernel
theorem dX6_save_22 : decode cX6_save 22 = .ok (.invokespecial 11, 3) := by decide +kernel
theorem dX6_save_25 : decode cX6_save 25 = .ok (.astore_n 2, 1) := by decide +kernel
theorem dX6_save_26 : decode cX6_save 26 = .ok (.aload_n 0, 1) := by decide +kernel
theorem dX6_save_27 : decode cX6_save 27 = .ok (.getfield 33, 3) := by decide +kernel
theorem dX6_save_30 : decode cX6_save 30 = .ok (.iload_n 1, 1) := by decide +kernel
theorem dX6_save_31 : decode cX6_save 31 = .ok (.aload_n 2, 1) := by decide +kernel
theorem dX6_save_32 : decode cX6_save 32 = .ok (.aastore, 1) := by decide +kernel
theorem dX6_save_33 : decode cX6_save 33 = .ok (.aload_n 2, 1) := by decide +kernel
theorem dX6_save_34 : decode cX6_save 34 = .ok (.aload_n 0, 1) := by decide +kernel
theorem dX6_save_35 : decode cX6_save 35 = .ok (.getfield 12, 3) := by decide +kernel
theorem dX6_save_38 : decode cX6_save 38 = .ok (.invokevirtual 83, 3) := by decide +kernel
theorem dX6_save_41 : decode cX6_save 41 = .ok (.aload_n 0, 1) := by decide +kernel
theorem dX6_save_42 : decode cX6_save 42 = .ok (.getfield 37, 3) := by decide +kernel
theorem dX6_save_45 : decode cX6_save 45 = .ok (.iload_n 1, 1) := by decide +kernel
theorem dX6_save_46 : decode cX6_save 46 = .ok (.iconst 1, 1) := by decide +kernel
theorem dX6_save_47 : decode cX6_save 47 = .ok (.bastore, 1) := by decide +kernel
theorem dX6_save_48 : decode cX6_save 48 = .ok (.aload_n 0, 1) := by decide +kernel
theorem dX6_save_49 : decode cX6_save 49 = .ok (.getfield 12, 3) := by decide +kernel
theorem dX6_save_52 : decode cX6_save 52 = .ok (.getfield 255, 3) := by decide +kernel
theorem dX6_save_55 : decode cX6_save 55 = .ok (.ireturn, 1) := by decide +kernel
theorem dX6_restore_0 : decode cX6_restore 0 = .ok (.iload_n 1, 1) := by decide +kernel
theorem dX6_restore_1 : decode cX6_restore 1 = .ok (.invokestatic 252, 3) := by decide +kernel
theorem dX6_restore_4 : decode cX6_restore 4 = .ok (.invokestatic 101, 3) := by decide +kernel
theorem dX6_restore_7 : decode cX6_restore 7 = .ok (.aload_n 0, 1) := by decide +kernel
theorem dX6_restore_8 : decode cX6_restore 8 = .ok (.getfield 33, 3) := by decide +kernel
theorem dX6_restore_11 : decode cX6_restore 11 = .ok (.iload_n 1, 1) := by decide +kernel
theorem dX6_restore_12 : decode cX6_restore 12 = .ok (.aaload, 1) := by decide +kernel
theorem dX6_restore_13 : decode cX6_restore 13 = .ok (.astore_n 2, 1) := by decide +kernel
theorem dX6_restore_14 : decode cX6_restore 14 = .ok (.aload_n 2, 1) := by decide +kernel
theorem dX6_restore_15 : decode cX6_restore 15 = .ok (.ifnull 12, 3) := by decide +kernel
theorem dX6_restore_18 : decode cX6_restore 18 = .ok (.aload_n 0, 1) := by decide +kernel
theorem dX6_restore_19 : decode cX6_restore 19 = .ok (.getfield 37, 3) := by decide +kernel
theorem dX6_restore_22 : decode cX6_restore 22 = .ok (.iload_n 1, 1) := by decide +kernel
theorem dX6_restore_23 : decode cX6_restore 23 = .ok (.baload, 1) := by decide +kernel
theorem dX6_restore_24 : decode cX6_restore 24 = .ok (.ifCond .ne 14, 3) := by decide +kernel
theorem dX6_restore_27 : decode cX6_restore 27 = .ok (.new 258, 3) := by decide +kernel
theorem dX6_restore_30 : decode cX6_restore 30 = .ok (.dup, 1) := by decide +kernel
theorem dX6_restore_31 : decode cX6_restore 31 = .ok (.ldc_w 260, 3) := by decide +kernel
theorem dX6_restore_34 : decode cX6_restore 34 = .ok (.invokespecial 262, 3) := by decide +kernel
theorem dX6_restore_37 : decode cX6_restore 37 = .ok (.athrow, 1) := by decide +kernel
theorem dX6_restore_38 : decode cX6_restore 38 = .ok (.aload_n 0, 1) := by decide +kernel
theorem dX6_restore_39 : decode cX6_restore 39 = .ok (.getfield 12, 3) := by decide +kernel
theorem dX6_restore_42 : decode cX6_restore 42 = .ok (.aload_n 2, 1) := by decide +kernel
theorem dX6_restore_43 : decode cX6_restore 43 = .ok (.invokevirtual 83, 3) := by decide +kernel
theorem dX6_restore_46 : decode cX6_restore 46 = .ok (.aload_n 0, 1) := by decide +kernel
theorem dX6_restore_47 : decode cX6_restore 47 = .ok (.getfield 29, 3) := by decide +kernel
theorem dX6_restore_50 : decode cX6_restore 50 = .ok (.invokevirtual 87, 3) := by decide +kernel
theorem dX6_restore_53 : decode cX6_restore 53 = .ok (.aload_n 0, 1) := by decide +kernel
theorem dX6_restore_54 : decode cX6_restore 54 = .ok (.getfield 12, 3) := by decide +kernel
theorem dX6_restore_57 : decode cX6_restore 57 = .ok (.getfield 255, 3) := by decide +kernel
theorem dX6_restore_60 : decode cX6_restore 60 = .ok (.ireturn, 1) := by decide +kernel
theorem dX6_requireThere_0 : decode cX6_requireThere 0 = .ok (.iload_n 0, 1) := by decide +kernel
theorem dX6_requireThere_1 : decode cX6_requireThere 1 = .ok (.ifCond .ne 14, 3) := by decide +kernel
theorem dX6_requireThere_4 : decode cX6_requireThere 4 = .ok (.new 265, 3) := by decide +kernel
theorem dX6_requireThere_7 : decode cX6_requireThere 7 = .ok (.dup, 1) := by decide +kernel
theorem dX6_requireThere_8 : decode cX6_requireThere 8 = .ok (.ldc_w 267, 3) := by decide +kernel
theorem dX6_requireThere_11 : decode cX6_requireThere 11 = .ok (.invokespecial 269, 3) := by decide +kernel
theorem dX6_requireThere_14 : decode cX6_requireThere 14 = .ok (.athrow, 1) := by decide +kernel
theorem dX6_requireThere_15 : decode cX6_requireThere 15 = .ok (.return_, 1) := by decide +kernel
theorem dX6_requireArgument_0 : decode cX6_requireArgument 0 = .ok (.iload_n 0, 1) := by decide +kernel
theorem dX6_requireArgument_1 : decode cX6_requireArgument 1 = .ok (.ifCond .ne 14, 3) := by decide +kernel
theorem dX6_requireArgument_4 : decode cX6_requireArgument 4 = .ok (.new 270, 3) := by decide +kernel
theorem dX6_requireArgument_7 : decode cX6_requireArgument 7 = .ok (.dup, 1) := by decide +kernel
theorem dX6_requireArgument_8 : decode cX6_requireArgument 8 = .ok (.ldc_w 272, 3) := by decide +kernel
theorem dX6_requireArgument_11 : decode cX6_requireArgument 11 = .ok (.invokespecial 274, 3) := by decide +kernel
theorem dX6_requireArgument_14 : decode cX6_requireArgument 14 = .ok (.athrow, 1) := by decide +kernel
theorem dX6_requireArgument_15 : decode cX6_requireArgument 15 = .ok (.return_, 1) := by decide +kernel
theorem dX6_requirePossible_0 : decode cX6_requirePossible 0 = .ok (.iload_n 0, 1) := by decide +kernel
theorem dX6_requirePossible_1 : decode cX6_requirePossible 1 = .ok (.ifCond .ne 14, 3) := by decide +kernel
theorem dX6_requirePossible_4 : decode cX6_requirePossible 4 = .ok (.new 258, 3) := by decide +kernel
theorem dX6_requirePossible_7 : decode cX6_requirePossible 7 = .ok (.dup, 1) := by decide +kernel
theorem dX6_requirePossible_8 : decode cX6_requirePossible 8 = .ok (.ldc_w 275, 3) := by decide +kernel
theorem dX6_requirePossible_11 : decode cX6_requirePossible 11 = .ok (.invokespecial 262, 3) := by decide +kernel
theorem dX6_requirePossible_14 : decode cX6_requirePossible 14 = .ok (.athrow, 1) := by decide +kernel
theorem dX6_requirePossible_15 : decode cX6_requirePossible 15 = .ok (.return_, 1) := by decide +kernel
theorem dX6_isWithin_0 : decode cX6_isWithin 0 = .ok (.iload_n 0, 1) := by decide +kernel
theorem dX6_isWithin_1 : decode cX6_isWithin 1 = .ok (.iload_n 1, 1) := by decide +kernel
theorem dX6_isWithin_2 : decode cX6_isWithin 2 = .ok (.if_icmp .lt 12, 3) := by decide +kernel
theorem dX6_isWithin_5 : decode cX6_isWithin 5 = .ok (.iload_n 0, 1) := by decide +kernel
theorem dX6_isWithin_6 : decode cX6_isWithin 6 = .ok (.iload_n 2, 1) := by decide +kernel
theorem dX6_isWithin_7 : decode cX6_isWithin 7 = .ok (.if_icmp .gt 7, 3) := by decide +kernel
theorem dX6_isWithin_10 : decode cX6_isWithin 10 = .ok (.iconst 1, 1) := by decide +kernel
theorem dX6_isWithin_11 : decode cX6_isWithin 11 = .ok (.goto 4, 3) := by decide +kernel
theorem dX6_isWithin_14 : decode cX6_isWithin 14 = .ok (.iconst 0, 1) := by decide +kernel
theorem dX6_isWithin_15 : decode cX6_isWithin 15 = .ok (.ireturn, 1) := by decide +kernel
theorem dX6_isTwoDigits_0 : decode cX6_isTwoDigits 0 = .ok (.iload_n 0, 1) := by decide +kernel
theorem dX6_isTwoDigits_1 : decode cX6_isTwoDigits 1 = .ok (.iconst 1, 1) := by decide +kernel
theorem dX6_isTwoDigits_2 : decode cX6_isTwoDigits 2 = .ok (.bipush 99, 2) := by decide +kernel
theorem dX6_isTwoDigits_4 : decode cX6_isTwoDigits 4 = .ok (.invokestatic 56, 3) := by decide +kernel
theorem dX6_isTwoDigits_7 : decode cX6_isTwoDigits 7 = .ok (.ireturn, 1) := by decide +kernel
theorem dX6_isPlaceInQueue_0 : decode cX6_isPlaceInQueue 0 = .ok (.iload_n 0, 1) := by decide +kernel
theorem dX6_isPlaceInQueue_1 : decode cX6_isPlaceInQueue 1 = .ok (.iconst 0, 1) := by decide +kernel
theorem dX6_isPlaceInQueue_2 : decode cX6_isPlaceInQueue 2 = .ok (.bipush 7, 2) := by decide +kernel
theorem dX6_isPlaceInQueue_4 : decode cX6_isPlaceInQueue 4 = .ok (.invokestatic 56, 3) := by decide +kernel
theorem dX6_isPlaceInQueue_7 : decode cX6_isPlaceInQueue 7 = .ok (.ireturn, 1) := by decide +kernel
theorem dX6_isSlot_0 : decode cX6_isSlot 0 = .ok (.iload_n 0, 1) := by decide +kernel
theorem dX6_isSlot_1 : decode cX6_isSlot 1 = .ok (.iconst 0, 1) := by decide +kernel
theorem dX6_isSlot_2 : decode cX6_isSlot 2 = .ok (.iconst 1, 1) := by decide +kernel
theorem dX6_isSlot_3 : decode cX6_isSlot 3 = .ok (.invokestatic 56, 3) := by decide +kernel
theorem dX6_isSlot_6 : decode cX6_isSlot 6 = .ok (.ireturn, 1) := by decide +kernel
theorem dX6_addOrder_0 : decode cX6_addOrder 0 = .ok (.aload_n 0, 1) := by decide +kernel
theorem dX6_addOrder_1 : decode cX6_addOrder 1 = .ok (.getfield 12, 3) := by decide +kernel
theorem dX6_addOrder_4 : decode cX6_addOrder 4 = .ok (.iload_n 2, 1) := by decide +kernel
theorem dX6_addOrder_5 : decode cX6_addOrder 5 = .ok (.invokevirtual 97, 3) := by decide +kernel
theorem dX6_addOrder_8 : decode cX6_addOrder 8 = .ok (.invokestatic 101, 3) := by decide +kernel
theorem dX6_addOrder_11 : decode cX6_addOrder 11 = .ok (.iload_n 3, 1) := by decide +kernel
theorem dX6_addOrder_12 : decode cX6_addOrder 12 = .ok (.invokestatic 157, 3) := by decide +kernel
theorem dX6_addOrder_15 : decode cX6_addOrder 15 = .ok (.ifCond .eq 15, 3) := by decide +kernel
theorem dX6_addOrder_18 : decode cX6_addOrder 18 = .ok (.iload 4, 2) := by decide +kernel
theorem dX6_addOrder_20 : decode cX6_addOrder 20 = .ok (.invokestatic 157, 3) := by decide +kernel
theorem dX6_addOrder_23 : decode cX6_addOrder 23 = .ok (.ifCond .eq 7, 3) := by decide +kernel
theorem dX6_addOrder_26 : decode cX6_addOrder 26 = .ok (.iconst 1, 1) := by decide +kernel
theorem dX6_addOrder_27 : decode cX6_addOrder 27 = .ok (.goto 4, 3) := by decide +kernel
theorem dX6_addOrder_30 : decode cX6_addOrder 30 = .ok (.iconst 0, 1) := by decide +kernel
theorem dX6_addOrder_31 : decode cX6_addOrder 31 = .ok (.invokestatic 60, 3) := by decide +kernel
theorem dX6_addOrder_34 : decode cX6_addOrder 34 = .ok (.aload_n 0, 1) := by decide +kernel
theorem dX6_addOrder_35 : decode cX6_addOrder 35 = .ok (.getfield 12, 3) := by decide +kernel
theorem dX6_addOrder_38 : decode cX6_addOrder 38 = .ok (.iload_n 1, 1) := by decide +kernel
theorem dX6_addOrder_39 : decode cX6_addOrder 39 = .ok (.iload_n 2, 1) := by decide +kernel
theorem dX6_addOrder_40 : decode cX6_addOrder 40 = .ok (.iload_n 3, 1) := by decide +kernel
theorem dX6_addOrder_41 : decode cX6_addOrder 41 = .ok (.iload 4, 2) := by decide +kernel
theorem dX6_addOrder_43 : decode cX6_addOrder 43 = .ok (.invokevirtual 277, 3) := by decide +kernel
theorem dX6_addOrder_46 : decode cX6_addOrder 46 = .ok (.invokestatic 68, 3) := by decide +kernel
theorem dX6_addOrder_49 : decode cX6_addOrder 49 = .ok (.aload_n 0, 1) := by decide +kernel
theorem dX6_addOrder_50 : decode cX6_addOrder 50 = .ok (.getfield 29, 3) := by decide +kernel
theorem dX6_addOrder_53 : decode cX6_addOrder 53 = .ok (.aload_n 0, 1) := by decide +kernel
theorem dX6_addOrder_54 : decode cX6_addOrder 54 = .ok (.getfield 12, 3) := by decide +kernel
theorem dX6_addOrder_57 : decode cX6_addOrder 57 = .ok (.invokevirtual 151, 3) := by decide +kernel
theorem dX6_addOrder_60 : decode cX6_addOrder 60 = .ok (.aload_n 0, 1) := by decide +kernel
theorem dX6_addOrder_61 : decode cX6_addOrder 61 = .ok (.getfield 12, 3) := by decide +kernel
theorem dX6_addOrder_64 : decode cX6_addOrder 64 = .ok (.iload_n 1, 1) := by decide +kernel
theorem dX6_addOrder_65 : decode cX6_addOrder 65 = .ok (.iload_n 2, 1) := by decide +kernel
theorem dX6_addOrder_66 : decode cX6_addOrder 66 = .ok (.iload_n 3, 1) := by decide +kernel
theorem dX6_addOrder_67 : decode cX6_addOrder 67 = .ok (.iload 4, 2) := by decide +kernel
theorem dX6_addOrder_69 : decode cX6_addOrder 69 = .ok (.invokevirtual 281, 3) := by decide +kernel
theorem dX6_addOrder_72 : decode cX6_addOrder 72 = .ok (.ireturn, 1) := by decide +kernel
theorem dX6_surplusOf_0 : decode cX6_surplusOf 0 = .ok (.aload_n 0, 1) := by decide +kernel
theorem dX6_surplusOf_1 : decode cX6_surplusOf 1 = .ok (.getfield 22, 3) := by decide +kernel
theorem dX6_surplusOf_4 : decode cX6_surplusOf 4 = .ok (.aload_n 0, 1) := by decide +kernel
theorem dX6_surplusOf_5 : decode cX6_surplusOf 5 = .ok (.getfield 12, 3) := by decide +kernel
theorem dX6_surplusOf_8 : decode cX6_surplusOf 8 = .ok (.iload_n 1, 1) := by decide +kernel
theorem dX6_surplusOf_9 : decode cX6_surplusOf 9 = .ok (.invokevirtual 202, 3) := by decide +kernel
theorem dX6_surplusOf_12 : decode cX6_surplusOf 12 = .ok (.aload_n 0, 1) := by decide +kernel
theorem dX6_surplusOf_13 : decode cX6_surplusOf 13 = .ok (.getfield 22, 3) := by decide +kernel
theorem dX6_surplusOf_16 : decode cX6_surplusOf 16 = .ok (.invokevirtual 208, 3) := by decide +kernel
theorem dX6_surplusOf_19 : decode cX6_surplusOf 19 = .ok (.aload_n 0, 1) := by decide +kernel
theorem dX6_surplusOf_20 : decode cX6_surplusOf 20 = .ok (.getfield 22, 3) := by decide +kernel
theorem dX6_surplusOf_23 : decode cX6_surplusOf 23 = .ok (.getfield 196, 3) := by decide +kernel
theorem dX6_surplusOf_26 : decode cX6_surplusOf 26 = .ok (.ireturn, 1) := by decide +kernel
theorem dX6_factorial_0 : decode cX6_factorial 0 = .ok (.iload_n 0, 1) := by decide +kernel
theorem dX6_factorial_1 : decode cX6_factorial 1 = .ok (.ifCond .lt 19, 3) := by decide +kernel
theorem dX6_factorial_4 : decode cX6_factorial 4 = .ok (.iload_n 0, 1) := by decide +kernel
theorem dX6_factorial_5 : decode cX6_factorial 5 = .ok (.getstatic 284, 3) := by decide +kernel
theorem dX6_factorial_8 : decode cX6_factorial 8 = .ok (.arraylength, 1) := by decide +kernel
theorem dX6_factorial_9 : decode cX6_factorial 9 = .ok (.if_icmp .ge 11, 3) := by decide +kernel
theorem dX6_factorial_12 : decode cX6_factorial 12 = .ok (.getstatic 284, 3) := by decide +kernel
theorem dX6_factorial_15 : decode cX6_factorial 15 = .ok (.iload_n 0, 1) := by decide +kernel
theorem dX6_factorial_16 : decode cX6_factorial 16 = .ok (.iaload, 1) := by decide +kernel
theorem dX6_factorial_17 : decode cX6_factorial 17 = .ok (.goto 4, 3) := by decide +kernel
theorem dX6_factorial_20 : decode cX6_factorial 20 = .ok (.iconst 1, 1) := by decide +kernel
theorem dX6_factorial_21 : decode cX6_factorial 21 = .ok (.ireturn, 1) := by decide +kernel
theorem dX6_inLowestTerms_0 : decode cX6_inLowestTerms 0 = .ok (.lload_n 0, 1) := by decide +kernel
theorem dX6_inLowestTerms_1 : decode cX6_inLowestTerms 1 = .ok (.invokestatic 288, 3) := by decide +kernel
theorem dX6_inLowestTerms_4 : decode cX6_inLowestTerms 4 = .ok (.lstore 5, 2) := by decide +kernel
theorem dX6_inLowestTerms_6 : decode cX6_inLowestTerms 6 = .ok (.lload_n 2, 1) := by decide +kernel
theorem dX6_inLowestTerms_7 : decode cX6_inLowestTerms 7 = .ok (.lstore 7, 2) := by decide +kernel
theorem dX6_inLowestTerms_9 : decode cX6_inLowestTerms 9 = .ok (.iconst 0, 1) := by decide +kernel
theorem dX6_inLowestTerms_10 : decode cX6_inLowestTerms 10 = .ok (.istore 9, 2) := by decide +kernel
theorem dX6_inLowestTerms_12 : decode cX6_inLowestTerms 12 = .ok (.iload 9, 2) := by decide +kernel
theorem dX6_inLowestTerms_14 : decode cX6_inLowestTerms 14 = .ok (.bipush 100, 2) := by decide +kernel
theorem dX6_inLowestTerms_16 : decode cX6_inLowestTerms 16 = .ok (.if_icmp .ge 31, 3) := by decide +kernel
theorem dX6_inLowestTerms_19 : decode cX6_inLowestTerms 19 = .ok (.lload 7, 2) := by decide +kernel
theorem dX6_inLowestTerms_21 : decode cX6_inLowestTerms 21 = .ok (.lconst 0, 1) := by decide +kernel
theorem dX6_inLowestTerms_22 : decode cX6_inLowestTerms 22 = .ok (.lcmp, 1) := by decide +kernel
theorem dX6_inLowestTerms_23 : decode cX6_inLowestTerms 23 = .ok (.ifCond .eq 24, 3) := by decide +kernel
theorem dX6_inLowestTerms_26 : decode cX6_inLowestTerms 26 = .ok (.lload 5, 2) := by decide +kernel
theorem dX6_inLowestTerms_28 : decode cX6_inLowestTerms 28 = .ok (.lload 7, 2) := by decide +kernel
theorem dX6_inLowestTerms_30 : decode cX6_inLowestTerms 30 = .ok (.lrem, 1) := by decide +kernel
theorem dX6_inLowestTerms_31 : decode cX6_inLowestTerms 31 = .ok (.lstore 10, 2) := by decide +kernel
theorem dX6_inLowestTerms_33 : decode cX6_inLowestTerms 33 = .ok (.lload 7, 2) := by decide +kernel
theorem dX6_inLowestTerms_35 : decode cX6_inLowestTerms 35 = .ok (.lstore 5, 2) := by decide +kernel
theorem dX6_inLowestTerms_37 : decode cX6_inLowestTerms 37 = .ok (.lload 10, 2) := by decide +kernel
theorem dX6_inLowestTerms_39 : decode cX6_inLowestTerms 39 = .ok (.lstore 7, 2) := by decide +kernel
theorem dX6_inLowestTerms_41 : decode cX6_inLowestTerms 41 = .ok (.iinc 9 1, 3) := by decide +kernel
theorem dX6_inLowestTerms_44 : decode cX6_inLowestTerms 44 = .ok (.goto (-32), 3) := by decide +kernel
theorem dX6_inLowestTerms_47 : decode cX6_inLowestTerms 47 = .ok (.iload 4, 2) := by decide +kernel
theorem dX6_inLowestTerms_49 : decode cX6_inLowestTerms 49 = .ok (.ifCond .eq 7, 3) := by decide +kernel
theorem dX6_inLowestTerms_52 : decode cX6_inLowestTerms 52 = .ok (.lload_n 0, 1) := by decide +kernel
theorem dX6_inLowestTerms_53 : decode cX6_inLowestTerms 53 = .ok (.goto 4, 3) := by decide +kernel
theorem dX6_inLowestTerms_56 : decode cX6_inLowestTerms 56 = .ok (.lload_n 2, 1) := by decide +kernel
theorem dX6_inLowestTerms_57 : decode cX6_inLowestTerms 57 = .ok (.lconst 1, 1) := by decide +kernel
theorem dX6_inLowestTerms_58 : decode cX6_inLowestTerms 58 = .ok (.lload 5, 2) := by decide +kernel
theorem dX6_inLowestTerms_60 : decode cX6_inLowestTerms 60 = .ok (.invokestatic 294, 3) := by decide +kernel
theorem dX6_inLowestTerms_63 : decode cX6_inLowestTerms 63 = .ok (.ldiv, 1) := by decide +kernel
theorem dX6_inLowestTerms_64 : decode cX6_inLowestTerms 64 = .ok (.lreturn, 1) := by decide +kernel
theorem dX6_unitOfGroup_0 : decode cX6_unitOfGroup 0 = .ok (.lconst 1, 1) := by decide +kernel
theorem dX6_unitOfGroup_1 : decode cX6_unitOfGroup 1 = .ok (.lstore_n 1, 1) := by decide +kernel
theorem dX6_unitOfGroup_2 : decode cX6_unitOfGroup 2 = .ok (.iconst 0, 1) := by decide +kernel
theorem dX6_unitOfGroup_3 : decode cX6_unitOfGroup 3 = .ok (.istore_n 3, 1) := by decide +kernel
theorem dX6_unitOfGroup_4 : decode cX6_unitOfGroup 4 = .ok (.iload_n 3, 1) := by decide +kernel
theorem dX6_unitOfGroup_5 : decode cX6_unitOfGroup 5 = .ok (.iload_n 0, 1) := by decide +kernel
theorem dX6_unitOfGroup_6 : decode cX6_unitOfGroup 6 = .ok (.if_icmp .ge 15, 3) := by decide +kernel
theorem dX6_unitOfGroup_9 : decode cX6_unitOfGroup 9 = .ok (.lload_n 1, 1) := by decide +kernel
theorem dX6_unitOfGroup_10 : decode cX6_unitOfGroup 10 = .ok (.ldc2_w 239, 3) := by decide +kernel
theorem dX6_unitOfGroup_13 : decode cX6_unitOfGroup 13 = .ok (.lmul, 1) := by decide +kernel
theorem dX6_unitOfGroup_14 : decode cX6_unitOfGroup 14 = .ok (.lstore_n 1, 1) := by decide +kernel
theorem dX6_unitOfGroup_15 : decode cX6_unitOfGroup 15 = .ok (.iinc 3 1, 3) := by decide +kernel
theorem dX6_unitOfGroup_18 : decode cX6_unitOfGroup 18 = .ok (.goto (-14), 3) := by decide +kernel
theorem dX6_unitOfGroup_21 : decode cX6_unitOfGroup 21 = .ok (.lload_n 1, 1) := by decide +kernel
theorem dX6_unitOfGroup_22 : decode cX6_unitOfGroup 22 = .ok (.lreturn, 1) := by decide +kernel
theorem dX6_succeeds_0 : decode cX6_succeeds 0 = .ok (.iload_n 1, 1) := by decide +kernel
theorem dX6_succeeds_1 : decode cX6_succeeds 1 = .ok (.ldc_w 298, 3) := by decide +kernel
theorem dX6_succeeds_4 : decode cX6_succeeds 4 = .ok (.idiv, 1) := by decide +kernel
theorem dX6_succeeds_5 : decode cX6_succeeds 5 = .ok (.istore_n 2, 1) := by decide +kernel
theorem dX6_succeeds_6 : decode cX6_succeeds 6 = .ok (.iload_n 1, 1) := by decide +kernel
theorem dX6_succeeds_7 : decode cX6_succeeds 7 = .ok (.sipush 10000, 3) := by decide +kernel
theorem dX6_succeeds_10 : decode cX6_succeeds 10 = .ok (.idiv, 1) := by decide +kernel
theorem dX6_succeeds_11 : decode cX6_succeeds 11 = .ok (.bipush 10, 2) := by decide +kernel
theorem dX6_succeeds_13 : decode cX6_succeeds 13 = .ok (.irem, 1) := by decide +kernel
theorem dX6_succeeds_14 : decode cX6_succeeds 14 = .ok (.istore_n 3, 1) := by decide +kernel
theorem dX6_succeeds_15 : decode cX6_succeeds 15 = .ok (.iload_n 1, 1) := by decide +kernel
theorem dX6_succeeds_16 : decode cX6_succeeds 16 = .ok (.bipush 100, 2) := by decide +kernel
theorem dX6_succeeds_18 : decode cX6_succeeds 18 = .ok (.idiv, 1) := by decide +kernel
theorem dX6_succeeds_19 : decode cX6_succeeds 19 = .ok (.bipush 100, 2) := by decide +kernel
theorem dX6_succeeds_21 : decode cX6_succeeds 21 = .ok (.irem, 1) := by decide +kernel
theorem dX6_succeeds_22 : decode cX6_succeeds 22 = .ok (.istore 4, 2) := by decide +kernel
theorem dX6_succeeds_24 : decode cX6_succeeds 24 = .ok (.iload_n 1, 1) := by decide +kernel
theorem dX6_succeeds_25 : decode cX6_succeeds 25 = .ok (.bipush 100, 2) := by decide +kernel
theorem dX6_succeeds_27 : decode cX6_succeeds 27 = .ok (.irem, 1) := by decide +kernel
theorem dX6_succeeds_28 : decode cX6_succeeds 28 = .ok (.istore 5, 2) := by decide +kernel
theorem dX6_succeeds_30 : decode cX6_succeeds 30 = .ok (.iload_n 2, 1) := by decide +kernel
theorem dX6_succeeds_31 : decode cX6_succeeds 31 = .ok (.tableswitch 230 1 8 #[45, 45, 45, 61, 99, 123, 163, 203], 45) := by decide +kernel
theorem dX6_succeeds_76 : decode cX6_succeeds 76 = .ok (.aload_n 0, 1) := by decide +kernel
theorem dX6_succeeds_77 : decode cX6_succeeds 77 = .ok (.getfield 16, 3) := by decide +kernel
theorem dX6_succeeds_80 : decode cX6_succeeds 80 = .ok (.iload_n 2, 1) := by decide +kernel
theorem dX6_succeeds_81 : decode cX6_succeeds 81 = .ok (.iconst 1, 1) := by decide +kernel
theorem dX6_succeeds_82 : decode cX6_succeeds 82 = .ok (.isub, 1) := by decide +kernel
theorem dX6_succeeds_83 : decode cX6_succeeds 83 = .ok (.iload_n 3, 1) := by decide +kernel
theorem dX6_succeeds_84 : decode cX6_succeeds 84 = .ok (.iload 4, 2) := by decide +kernel
theorem dX6_succeeds_86 : decode cX6_succeeds 86 = .ok (.iload 5, 2) := by decide +kernel
theorem dX6_succeeds_88 : decode cX6_succeeds 88 = .ok (.invokevirtual 299, 3) := by decide +kernel
theorem dX6_succeeds_91 : decode cX6_succeeds 91 = .ok (.ireturn, 1) := by decide +kernel
theorem dX6_succeeds_92 : decode cX6_succeeds 92 = .ok (.iload_n 3, 1) := by decide +kernel
theorem dX6_succeeds_93 : decode cX6_succeeds 93 = .ok (.ifCond .ne 19, 3) := by decide +kernel
theorem dX6_succeeds_96 : decode cX6_succeeds 96 = .ok (.iload 4, 2) := by decide +kernel
theorem dX6_succeeds_98 : decode cX6_succeeds 98 = .ok (.ifCond .ne 14, 3) := by decide +kernel
theorem dX6_succeeds_101 : decode cX6_succeeds 101 = .ok (.iload 5, 2) := by decide +kernel
theorem dX6_succeeds_103 : decode cX6_succeeds 103 = .ok (.iconst 1, 1) := by decide +kernel
theorem dX6_succeeds_104 : decode cX6_succeeds 104 = .ok (.bipush 50, 2) := by decide +kernel
theorem dX6_succeeds_106 : decode cX6_succeeds 106 = .ok (.invokestatic 56, 3) := by decide +kernel
theorem dX6_succeeds_109 : decode cX6_succeeds 109 = .ok (.ifCond .ne 5, 3) := by decide +kernel
theorem dX6_succeeds_112 : decode cX6_succeeds 112 = .ok (.iconst 0, 1) := by decide +kernel
theorem dX6_succeeds_113 : decode cX6_succeeds 113 = .ok (.ireturn, 1) := by decide +kernel
theorem dX6_succeeds_114 : decode cX6_succeeds 114 = .ok (.aload_n 0, 1) := by decide +kernel
theorem dX6_succeeds_115 : decode cX6_succeeds 115 = .ok (.getfield 16, 3) := by decide +kernel
theorem dX6_succeeds_118 : decode cX6_succeeds 118 = .ok (.iload 5, 2) := by decide +kernel
theorem dX6_succeeds_120 : decode cX6_succeeds 120 = .ok (.aload_n 0, 1) := by decide +kernel
theorem dX6_succeeds_121 : decode cX6_succeeds 121 = .ok (.getfield 22, 3) := by decide +kernel
theorem dX6_succeeds_124 : decode cX6_succeeds 124 = .ok (.invokevirtual 170, 3) := by decide +kernel
theorem dX6_succeeds_127 : decode cX6_succeeds 127 = .ok (.pop, 1) := by decide +kernel
theorem dX6_succeeds_128 : decode cX6_succeeds 128 = .ok (.iconst 1, 1) := by decide +kernel
theorem dX6_succeeds_129 : decode cX6_succeeds 129 = .ok (.ireturn, 1) := by decide +kernel
theorem dX6_succeeds_130 : decode cX6_succeeds 130 = .ok (.iload 4, 2) := by decide +kernel
theorem dX6_succeeds_132 : decode cX6_succeeds 132 = .ok (.ifCond .ne 20, 3) := by decide +kernel
theorem dX6_succeeds_135 : decode cX6_succeeds 135 = .ok (.aload_n 0, 1) := by decide +kernel
theorem dX6_succeeds_136 : decode cX6_succeeds 136 = .ok (.getfield 16, 3) := by decide +kernel
theorem dX6_succeeds_139 : decode cX6_succeeds 139 = .ok (.iload_n 3, 1) := by decide +kernel
theorem dX6_succeeds_140 : decode cX6_succeeds 140 = .ok (.iload 5, 2) := by decide +kernel
theorem dX6_succeeds_142 : decode cX6_succeeds 142 = .ok (.invokevirtual 302, 3) := by decide +kernel
theorem dX6_succeeds_145 : decode cX6_succeeds 145 = .ok (.ifCond .eq 7, 3) := by decide +kernel
theorem dX6_succeeds_148 : decode cX6_succeeds 148 = .ok (.iconst 1, 1) := by decide +kernel
theorem dX6_succeeds_149 : decode cX6_succeeds 149 = .ok (.goto 4, 3) := by decide +kernel
theorem dX6_succeeds_152 : decode cX6_succeeds 152 = .ok (.iconst 0, 1) := by decide +kernel
theorem dX6_succeeds_153 : decode cX6_succeeds 153 = .ok (.ireturn, 1) := by decide +kernel
theorem dX6_succeeds_154 : decode cX6_succeeds 154 = .ok (.aload_n 0, 1) := by decide +kernel
theorem dX6_succeeds_155 : decode cX6_succeeds 155 = .ok (.getfield 16, 3) := by decide +kernel
theorem dX6_succeeds_158 : decode cX6_succeeds 158 = .ok (.iload_n 3, 1) := by decide +kernel
theorem dX6_succeeds_159 : decode cX6_succeeds 159 = .ok (.invokevirtual 97, 3) := by decide +kernel
theorem dX6_succeeds_162 : decode cX6_succeeds 162 = .ok (.ifCond .eq 30, 3) := by decide +kernel
theorem dX6_succeeds_165 : decode cX6_succeeds 165 = .ok (.aload_n 0, 1) := by decide +kernel
theorem dX6_succeeds_166 : decode cX6_succeeds 166 = .ok (.getfield 16, 3) := by decide +kernel
theorem dX6_succeeds_169 : decode cX6_succeeds 169 = .ok (.getfield 111, 3) := by decide +kernel
theorem dX6_succeeds_172 : decode cX6_succeeds 172 = .ok (.iload_n 3, 1) := by decide +kernel
theorem dX6_succeeds_173 : decode cX6_succeeds 173 = .ok (.aaload, 1) := by decide +kernel
theorem dX6_succeeds_174 : decode cX6_succeeds 174 = .ok (.getfield 166, 3) := by decide +kernel
theorem dX6_succeeds_177 : decode cX6_succeeds 177 = .ok (.bipush 100, 2) := by decide +kernel
theorem dX6_succeeds_179 : decode cX6_succeeds 179 = .ok (.iload 4, 2) := by decide +kernel
theorem dX6_succeeds_181 : decode cX6_succeeds 181 = .ok (.imul, 1) := by decide +kernel
theorem dX6_succeeds_182 : decode cX6_succeeds 182 = .ok (.iload 5, 2) := by decide +kernel
theorem dX6_succeeds_184 : decode cX6_succeeds 184 = .ok (.iadd, 1) := by decide +kernel
theorem dX6_succeeds_185 : decode cX6_succeeds 185 = .ok (.if_icmp .lt 7, 3) := by decide +kernel
theorem dX6_succeeds_188 : decode cX6_succeeds 188 = .ok (.iconst 1, 1) := by decide +kernel
theorem dX6_succeeds_189 : decode cX6_succeeds 189 = .ok (.goto 4, 3) := by decide +kernel
theorem dX6_succeeds_192 : decode cX6_succeeds 192 = .ok (.iconst 0, 1) := by decide +kernel
theorem dX6_succeeds_193 : decode cX6_succeeds 193 = .ok (.ireturn, 1) := by decide +kernel
theorem dX6_succeeds_194 : decode cX6_succeeds 194 = .ok (.aload_n 0, 1) := by decide +kernel
theorem dX6_succeeds_195 : decode cX6_succeeds 195 = .ok (.getfield 16, 3) := by decide +kernel
theorem dX6_succeeds_198 : decode cX6_succeeds 198 = .ok (.iload_n 3, 1) := by decide +kernel
theorem dX6_succeeds_199 : decode cX6_succeeds 199 = .ok (.invokevirtual 97, 3) := by decide +kernel
theorem dX6_succeeds_202 : decode cX6_succeeds 202 = .ok (.ifCond .eq 30, 3) := by decide +kernel
theorem dX6_succeeds_205 : decode cX6_succeeds 205 = .ok (.aload_n 0, 1) := by decide +kernel
theorem dX6_succeeds_206 : decode cX6_succeeds 206 = .ok (.getfield 16, 3) := by decide +kernel
theorem dX6_succeeds_209 : decode cX6_succeeds 209 = .ok (.getfield 111, 3) := by decide +kernel
theorem dX6_succeeds_212 : decode cX6_succeeds 212 = .ok (.iload_n 3, 1) := by decide +kernel
theorem dX6_succeeds_213 : decode cX6_succeeds 213 = .ok (.aaload, 1) := by decide +kernel
theorem dX6_succeeds_214 : decode cX6_succeeds 214 = .ok (.invokevirtual 306, 3) := by decide +kernel
theorem dX6_succeeds_217 : decode cX6_succeeds 217 = .ok (.bipush 100, 2) := by decide +kernel
theorem dX6_succeeds_219 : decode cX6_succeeds 219 = .ok (.iload 4, 2) := by decide +kernel
theorem dX6_succeeds_221 : decode cX6_succeeds 221 = .ok (.imul, 1) := by decide +kernel
theorem dX6_succeeds_222 : decode cX6_succeeds 222 = .ok (.iload 5, 2) := by decide +kernel
theorem dX6_succeeds_224 : decode cX6_succeeds 224 = .ok (.iadd, 1) := by decide +kernel
theorem dX6_succeeds_225 : decode cX6_succeeds 225 = .ok (.if_icmp .lt 7, 3) := by decide +kernel
theorem dX6_succeeds_228 : decode cX6_succeeds 228 = .ok (.iconst 1, 1) := by decide +kernel
theorem dX6_succeeds_229 : decode cX6_succeeds 229 = .ok (.goto 4, 3) := by decide +kernel
theorem dX6_succeeds_232 : decode cX6_succeeds 232 = .ok (.iconst 0, 1) := by decide +kernel
theorem dX6_succeeds_233 : decode cX6_succeeds 233 = .ok (.ireturn, 1) := by decide +kernel
theorem dX6_succeeds_234 : decode cX6_succeeds 234 = .ok (.iload_n 3, 1) := by decide +kernel
theorem dX6_succeeds_235 : decode cX6_succeeds 235 = .ok (.ifCond .ne 24, 3) := by decide +kernel
theorem dX6_succeeds_238 : decode cX6_succeeds 238 = .ok (.iload 4, 2) := by decide +kernel
theorem dX6_succeeds_240 : decode cX6_succeeds 240 = .ok (.ifCond .ne 19, 3) := by decide +kernel
theorem dX6_succeeds_243 : decode cX6_succeeds 243 = .ok (.aload_n 0, 1) := by decide +kernel
theorem dX6_succeeds_244 : decode cX6_succeeds 244 = .ok (.getfield 16, 3) := by decide +kernel
theorem dX6_succeeds_247 : decode cX6_succeeds 247 = .ok (.getfield 309, 3) := by decide +kernel
theorem dX6_succeeds_250 : decode cX6_succeeds 250 = .ok (.iload 5, 2) := by decide +kernel
theorem dX6_succeeds_252 : decode cX6_succeeds 252 = .ok (.if_icmp .ne 7, 3) := by decide +kernel
theorem dX6_succeeds_255 : decode cX6_succeeds 255 = .ok (.iconst 1, 1) := by decide +kernel
theorem dX6_succeeds_256 : decode cX6_succeeds 256 = .ok (.goto 4, 3) := by decide +kernel
theorem dX6_succeeds_259 : decode cX6_succeeds 259 = .ok (.iconst 0, 1) := by decide +kernel
theorem dX6_succeeds_260 : decode cX6_succeeds 260 = .ok (.ireturn, 1) := by decide +kernel
theorem dX6_succeeds_261 : decode cX6_succeeds 261 = .ok (.iconst 0, 1) := by decide +kernel
theorem dX6_succeeds_262 : decode cX6_succeeds 262 = .ok (.ireturn, 1) := by decide +kernel
theorem dX6_tryRandomAction_0 : decode cX6_tryRandomAction 0 = .ok (.aload_n 0, 1) := by decide +kernel
theorem dX6_tryRandomAction_1 : decode cX6_tryRandomAction 1 = .ok (.getfield 16, 3) := by decide +kernel
theorem dX6_tryRandomAction_4 : decode cX6_tryRandomAction 4 = .ok (.getfield 90, 3) := by decide +kernel
theorem dX6_tryRandomAction_7 : decode cX6_tryRandomAction 7 = .ok (.iconst 1, 1) := by decide +kernel
theorem dX6_tryRandomAction_8 : decode cX6_tryRandomAction 8 = .ok (.if_icmp .ge 4, 3) := by decide +kernel
theorem dX6_tryRandomAction_11 : decode cX6_tryRandomAction 11 = .ok (.return_, 1) := by decide +kernel
theorem dX6_tryRandomAction_12 : decode cX6_tryRandomAction 12 = .ok (.iload_n 1, 1) := by decide +kernel
theorem dX6_tryRandomAction_13 : decode cX6_tryRandomAction 13 = .ok (.aload_n 0, 1) := by decide +kernel
theorem dX6_tryRandomAction_14 : decode cX6_tryRandomAction 14 = .ok (.getfield 16, 3) := by decide +kernel
theorem dX6_tryRandomAction_17 : decode cX6_tryRandomAction 17 = .ok (.getfield 90, 3) := by decide +kernel
theorem dX6_tryRandomAction_20 : decode cX6_tryRandomAction 20 = .ok (.irem, 1) := by decide +kernel
theorem dX6_tryRandomAction_21 : decode cX6_tryRandomAction 21 = .ok (.istore_n 2, 1) := by decide +kernel
theorem dX6_tryRandomAction_22 : decode cX6_tryRandomAction 22 = .ok (.iconst 1, 1) := by decide +kernel
theorem dX6_tryRandomAction_23 : decode cX6_tryRandomAction 23 = .ok (.iload_n 1, 1) := by decide +kernel
theorem dX6_tryRandomAction_24 : decode cX6_tryRandomAction 24 = .ok (.bipush 8, 2) := by decide +kernel
theorem dX6_tryRandomAction_26 : decode cX6_tryRandomAction 26 = .ok (.idiv, 1) := by decide +kernel
theorem dX6_tryRandomAction_27 : decode cX6_tryRandomAction 27 = .ok (.bipush 99, 2) := by decide +kernel
theorem dX6_tryRandomAction_29 : decode cX6_tryRandomAction 29 = .ok (.irem, 1) := by decide +kernel
theorem dX6_tryRandomAction_30 : decode cX6_tryRandomAction 30 = .ok (.iadd, 1) := by decide +kernel
theorem dX6_tryRandomAction_31 : decode cX6_tryRandomAction 31 = .ok (.istore_n 3, 1) := by decide +kernel
theorem dX6_tryRandomAction_32 : decode cX6_tryRandomAction 32 = .ok (.iconst 1, 1) := by decide +kernel
theorem dX6_tryRandomAction_33 : decode cX6_tryRandomAction 33 = .ok (.iload_n 1, 1) := by decide +kernel
theorem dX6_tryRandomAction_34 : decode cX6_tryRandomAction 34 = .ok (.sipush 1024, 3) := by decide +kernel
theorem dX6_tryRandomAction_37 : decode cX6_tryRandomAction 37 = .ok (.idiv, 1) := by decide +kernel
theorem dX6_tryRandomAction_38 : decode cX6_tryRandomAction 38 = .ok (.bipush 20, 2) := by decide +kernel
theorem dX6_tryRandomAction_40 : decode cX6_tryRandomAction 40 = .ok (.irem, 1) := by decide +kernel
theorem dX6_tryRandomAction_41 : decode cX6_tryRandomAction 41 = .ok (.iadd, 1) := by decide +kernel
theorem dX6_tryRandomAction_42 : decode cX6_tryRandomAction 42 = .ok (.istore 4, 2) := by decide +kernel
theorem dX6_tryRandomAction_44 : decode cX6_tryRandomAction 44 = .ok (.iload_n 1, 1) := by decide +kernel
theorem dX6_tryRandomAction_45 : decode cX6_tryRandomAction 45 = .ok (.ldc_w 312, 3) := by decide +kernel
theorem dX6_tryRandomAction_48 : decode cX6_tryRandomAction 48 = .ok (.idiv, 1) := by decide +kernel
theorem dX6_tryRandomAction_49 : decode cX6_tryRandomAction 49 = .ok (.iconst 4, 1) := by decide +kernel
theorem dX6_tryRandomAction_50 : decode cX6_tryRandomAction 50 = .ok (.irem, 1) := by decide +kernel
theorem dX6_tryRandomAction_51 : decode cX6_tryRandomAction 51 = .ok (.istore 5, 2) := by decide +kernel
theorem dX6_tryRandomAction_53 : decode cX6_tryRandomAction 53 = .ok (.iload 5, 2) := by decide +kernel
theorem dX6_tryRandomAction_55 : decode cX6_tryRandomAction 55 = .ok (.iconst 3, 1) := by decide +kernel
theorem dX6_tryRandomAction_56 : decode cX6_tryRandomAction 56 = .ok (.if_icmp .ne 17, 3) := by decide +kernel
theorem dX6_tryRandomAction_59 : decode cX6_tryRandomAction 59 = .ok (.aload_n 0, 1) := by decide +kernel
theorem dX6_tryRandomAction_60 : decode cX6_tryRandomAction 60 = .ok (.getfield 16, 3) := by decide +kernel
theorem dX6_tryRandomAction_63 : decode cX6_tryRandomAction 63 = .ok (.iload_n 2, 1) := by decide +kernel
theorem dX6_tryRandomAction_64 : decode cX6_tryRandomAction 64 = .ok (.iload 4, 2) := by decide +kernel
theorem dX6_tryRandomAction_66 : decode cX6_tryRandomAction 66 = .ok (.invokevirtual 302, 3) := by decide +kernel
theorem dX6_tryRandomAction_69 : decode cX6_tryRandomAction 69 = .ok (.pop, 1) := by decide +kernel
theorem dX6_tryRandomAction_70 : decode cX6_tryRandomAction 70 = .ok (.goto 17, 3) := by decide +kernel
theorem dX6_tryRandomAction_73 : decode cX6_tryRandomAction 73 = .ok (.aload_n 0, 1) := by decide +kernel
theorem dX6_tryRandomAction_74 : decode cX6_tryRandomAction 74 = .ok (.getfield 16, 3) := by decide +kernel
theorem dX6_tryRandomAction_77 : decode cX6_tryRandomAction 77 = .ok (.iload 5, 2) := by decide +kernel
theorem dX6_tryRandomAction_79 : decode cX6_tryRandomAction 79 = .ok (.iload_n 2, 1) := by decide +kernel
theorem dX6_tryRandomAction_80 : decode cX6_tryRandomAction 80 = .ok (.iload_n 3, 1) := by decide +kernel
theorem dX6_tryRandomAction_81 : decode cX6_tryRandomAction 81 = .ok (.iload 4, 2) := by decide +kernel
theorem dX6_tryRandomAction_83 : decode cX6_tryRandomAction 83 = .ok (.invokevirtual 299, 3) := by decide +kernel
theorem dX6_tryRandomAction_86 : decode cX6_tryRandomAction 86 = .ok (.pop, 1) := by decide +kernel
theorem dX6_tryRandomAction_87 : decode cX6_tryRandomAction 87 = .ok (.return_, 1) := by decide +kernel
theorem dX7_init_0 : decode cX7_init 0 = .ok (.aload_n 0, 1) := by decide +kernel
theorem dX7_init_1 : decode cX7_init 1 = .ok (.invokespecial 1, 3) := by decide +kernel
theorem dX7_init_4 : decode cX7_init 4 = .ok (.aload_n 0, 1) := by decide +kernel
theorem dX7_init_5 : decode cX7_init 5 = .ok (.sipush 1360, 3) := by decide +kernel
theorem dX7_init_8 : decode cX7_init 8 = .ok (.newarray .int, 2) := by decide +kernel
theorem dX7_init_10 : decode cX7_init 10 = .ok (.putfield 7, 3) := by decide +kernel
theorem dX7_init_13 : decode cX7_init 13 = .ok (.aload_n 0, 1) := by decide +kernel
theorem dX7_init_14 : decode cX7_init 14 = .ok (.sipush 1360, 3) := by decide +kernel
theorem dX7_init_17 : decode cX7_init 17 = .ok (.newarray .int, 2) := by decide +kernel
theorem dX7_init_19 : decode cX7_init 19 = .ok (.putfield 13, 3) := by decide +kernel
theorem dX7_init_22 : decode cX7_init 22 = .ok (.aload_n 0, 1) := by decide +kernel
theorem dX7_init_23 : decode cX7_init 23 = .ok (.sipush 19040, 3) := by decide +kernel
theorem dX7_init_26 : decode cX7_init 26 = .ok (.newarray .int, 2) := by decide +kernel
theorem dX7_init_28 : decode cX7_init 28 = .ok (.putfield 16, 3) := by decide +kernel
theorem dX7_init_31 : decode cX7_init 31 = .ok (.aload_n 0, 1) := by decide +kernel
theorem dX7_init_32 : decode cX7_init 32 = .ok (.sipush 2720, 3) := by decide +kernel
theorem dX7_init_35 : decode cX7_init 35 = .ok (.newarray .int, 2) := by decide +kernel
theorem dX7_init_37 : decode cX7_init 37 = .ok (.putfield 19, 3) := by decide +kernel
theorem dX7_init_40 : decode cX7_init 40 = .ok (.aload_n 0, 1) := by decide +kernel
theorem dX7_init_41 : decode cX7_init 41 = .ok (.iconst 2, 1) := by decide +kernel
theorem dX7_init_42 : decode cX7_init 42 = .ok (.newarray .boolean, 2) := by decide +kernel
theorem dX7_init_44 : decode cX7_init 44 = .ok (.putfield 22, 3) := by decide +kernel
theorem dX7_init_47 : decode cX7_init 47 = .ok (.aload_n 0, 1) := by decide +kernel
theorem dX7_init_48 : decode cX7_init 48 = .ok (.sipush 160, 3) := by decide +kernel
theorem dX7_init_51 : decode cX7_init 51 = .ok (.newarray .int, 2) := by decide +kernel
theorem dX7_init_53 : decode cX7_init 53 = .ok (.putfield 26, 3) := by decide +kernel
theorem dX7_init_56 : decode cX7_init 56 = .ok (.aload_n 0, 1) := by decide +kernel
theorem dX7_init_57 : decode cX7_init 57 = .ok (.sipush 1360, 3) := by decide +kernel
theorem dX7_init_60 : decode cX7_init 60 = .ok (.newarray .int, 2) := by decide +kernel
theorem dX7_init_62 : decode cX7_init 62 = .ok (.putfield 29, 3) := by decide +kernel
theorem dX7_init_65 : decode cX7_init 65 = .ok (.aload_n 0, 1) := by decide +kernel
theorem dX7_init_66 : decode cX7_init 66 = .ok (.bipush 52, 2) := by decide +kernel
theorem dX7_init_68 : decode cX7_init 68 = .ok (.newarray .int, 2) := by decide +kernel
theorem dX7_init_70 : decode cX7_init 70 = .ok (.putfield 32, 3) := by decide +kernel
theorem dX7_init_73 : decode cX7_init 73 = .ok (.aload_n 0, 1) := by decide +kernel
theorem dX7_init_74 : decode cX7_init 74 = .ok (.bipush 13, 2) := by decide +kernel
theorem dX7_init_76 : decode cX7_init 76 = .ok (.newarray .int, 2) := by decide +kernel
theorem dX7_init_78 : decode cX7_init 78 = .ok (.putfield 35, 3) := by decide +kernel
theorem dX7_init_81 : decode cX7_init 81 = .ok (.aload_n 0, 1) := by decide +kernel
theorem dX7_init_82 : decode cX7_init 82 = .ok (.bipush 13, 2) := by decide +kernel
theorem dX7_init_84 : decode cX7_init 84 = .ok (.newarray .int, 2) := by decide +kernel
theorem dX7_init_86 : decode cX7_init 86 = .ok (.putfield 38, 3) := by decide +kernel
theorem dX7_init_89 : decode cX7_init 89 = .ok (.aload_n 0, 1) := by decide +kernel
theorem dX7_init_90 : decode cX7_init 90 = .ok (.bipush 13, 2) := by decide +kernel
theorem dX7_init_92 : decode cX7_init 92 = .ok (.newarray .int, 2) := by decide +kernel
theorem dX7_init_94 : decode cX7_init 94 = .ok (.putfield 41, 3) := by decide +kernel
theorem dX7_init_97 : decode cX7_init 97 = .ok (.aload_n 0, 1) := by decide +kernel
theorem dX7_init_98 : decode cX7_init 98 = .ok (.bipush 64, 2) := by decide +kernel
theorem dX7_init_100 : decode cX7_init 100 = .ok (.newarray .int, 2) := by decide +kernel
theorem dX7_init_102 : decode cX7_init 102 = .ok (.putfield 44, 3) := by decide +kernel
theorem dX7_init_105 : decode cX7_init 105 = .ok (.aload_n 0, 1) := by decide +kernel
theorem dX7_init_106 : decode cX7_init 106 = .ok (.getfield 7, 3) := by decide +kernel
theorem dX7_init_109 : decode cX7_init 109 = .ok (.invokestatic 47, 3) := by decide +kernel
theorem dX7_init_112 : decode cX7_init 112 = .ok (.aload_n 0, 1) := by decide +kernel
theorem dX7_init_113 : decode cX7_init 113 = .ok (.getfield 7, 3) := by decide +kernel
theorem dX7_init_116 : decode cX7_init 116 = .ok (.iconst 0, 1) := by decide +kernel
theorem dX7_init_117 : decode cX7_init 117 = .ok (.iconst 1, 1) := by decide +kernel
theorem dX7_init_118 : decode cX7_init 118 = .ok (.iastore, 1) := by decide +kernel
theorem dX7_init_119 : decode cX7_init 119 = .ok (.aload_n 0, 1) := by decide +kernel
theorem dX7_init_120 : decode cX7_init 120 = .ok (.getfield 7, 3) := by decide +kernel
theorem dX7_init_123 : decode cX7_init 123 = .ok (.iconst 1, 1) := by decide +kernel
theorem dX7_init_124 : decode cX7_init 124 = .ok (.iconst 1, 1) := by decide +kernel
theorem dX7_init_125 : decode cX7_init 125 = .ok (.iastore, 1) := by decide +kernel
theorem dX7_init_126 : decode cX7_init 126 = .ok (.aload_n 0, 1) := by decide +kernel
theorem dX7_init_127 : decode cX7_init 127 = .ok (.getfield 7, 3) := by decide +kernel
theorem dX7_init_130 : decode cX7_init 130 = .ok (.iconst 2, 1) := by decide +kernel
theorem dX7_init_131 : decode cX7_init 131 = .ok (.iconst 1, 1) := by decide +kernel
theorem dX7_init_132 : decode cX7_init 132 = .ok (.iastore, 1) := by decide +kernel
theorem dX7_init_133 : decode cX7_init 133 = .ok (.aload_n 0, 1) := by decide +kernel
theorem dX7_init_134 : decode cX7_init 134 = .ok (.getfield 7, 3) := by decide +kernel
theorem dX7_init_137 : decode cX7_init 137 = .ok (.iconst 3, 1) := by decide +kernel
theorem dX7_init_138 : decode cX7_init 138 = .ok (.iconst 1, 1) := by decide +kernel
theorem dX7_init_139 : decode cX7_init 139 = .ok (.iastore, 1) := by decide +kernel
theorem dX7_init_140 : decode cX7_init 140 = .ok (.aload_n 0, 1) := by decide +kernel
theorem dX7_init_141 : decode cX7_init 141 = .ok (.getfield 7, 3) := by decide +kernel
theorem dX7_init_144 : decode cX7_init 144 = .ok (.bipush 58, 2) := by decide +kernel
theorem dX7_init_146 : decode cX7_init 146 = .ok (.iconst 1, 1) := by decide +kernel
theorem dX7_init_147 : decode cX7_init 147 = .ok (.iastore, 1) := by decide +kernel
theorem dX7_init_148 : decode cX7_init 148 = .ok (.aload_n 0, 1) := by decide +kernel
theorem dX7_init_149 : decode cX7_init 149 = .ok (.getfield 7, 3) := by decide +kernel
theorem dX7_init_152 : decode cX7_init 152 = .ok (.bipush 60, 2) := by decide +kernel
theorem dX7_init_154 : decode cX7_init 154 = .ok (.iconst 1, 1) := by decide +kernel
theorem dX7_init_155 : decode cX7_init 155 = .ok (.iastore, 1) := by decide +kernel
theorem dX7_init_156 : decode cX7_init 156 = .ok (.return_, 1) := by decide +kernel
theorem dX7_thrown_0 : decode cX7_thrown 0 = .ok (.aload_n 0, 1) := by decide +kernel
theorem dX7_thrown_1 : decode cX7_thrown 1 = .ok (.getfield 51, 3) := by decide +kernel
theorem dX7_thrown_4 : decode cX7_thrown 4 = .ok (.ireturn, 1) := by decide +kernel
