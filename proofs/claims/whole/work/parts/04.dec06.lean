theorem dX7_auctionOn_0 : decode cX7_auctionOn 0 = .ok (.aload_n 0, 1) := by decide +kernel
theorem dX7_auctionOn_1 : decode cX7_auctionOn 1 = .ok (.aload_n 1, 1) := by decide +kernel
theorem dX7_auctionOn_2 : decode cX7_auctionOn 2 = .ok (.bipush 63, 2) := by decide +kernel
theorem dX7_auctionOn_4 : decode cX7_auctionOn 4 = .ok (.invokevirtual 146, 3) := by decide +kernel
theorem dX7_auctionOn_7 : decode cX7_auctionOn 7 = .ok (.aload_n 0, 1) := by decide +kernel
theorem dX7_auctionOn_8 : decode cX7_auctionOn 8 = .ok (.invokevirtual 150, 3) := by decide +kernel
theorem dX7_auctionOn_11 : decode cX7_auctionOn 11 = .ok (.iconst 0, 1) := by decide +kernel
theorem dX7_auctionOn_12 : decode cX7_auctionOn 12 = .ok (.istore_n 2, 1) := by decide +kernel
theorem dX7_auctionOn_13 : decode cX7_auctionOn 13 = .ok (.iload_n 2, 1) := by decide +kernel
theorem dX7_auctionOn_14 : decode cX7_auctionOn 14 = .ok (.aload_n 1, 1) := by decide +kernel
theorem dX7_auctionOn_15 : decode cX7_auctionOn 15 = .ok (.bipush 8, 2) := by decide +kernel
theorem dX7_auctionOn_17 : decode cX7_auctionOn 17 = .ok (.iaload, 1) := by decide +kernel
theorem dX7_auctionOn_18 : decode cX7_auctionOn 18 = .ok (.if_icmp .ge 15, 3) := by decide +kernel
theorem dX7_auctionOn_21 : decode cX7_auctionOn 21 = .ok (.aload_n 0, 1) := by decide +kernel
theorem dX7_auctionOn_22 : decode cX7_auctionOn 22 = .ok (.aload_n 1, 1) := by decide +kernel
theorem dX7_auctionOn_23 : decode cX7_auctionOn 23 = .ok (.iload_n 2, 1) := by decide +kernel
theorem dX7_auctionOn_24 : decode cX7_auctionOn 24 = .ok (.invokevirtual 176, 3) := by decide +kernel
theorem dX7_auctionOn_27 : decode cX7_auctionOn 27 = .ok (.iinc 2 1, 3) := by decide +kernel
theorem dX7_auctionOn_30 : decode cX7_auctionOn 30 = .ok (.goto (-17), 3) := by decide +kernel
theorem dX7_auctionOn_33 : decode cX7_auctionOn 33 = .ok (.aload_n 1, 1) := by decide +kernel
theorem dX7_auctionOn_34 : decode cX7_auctionOn 34 = .ok (.bipush 7, 2) := by decide +kernel
theorem dX7_auctionOn_36 : decode cX7_auctionOn 36 = .ok (.aload_n 0, 1) := by decide +kernel
theorem dX7_auctionOn_37 : decode cX7_auctionOn 37 = .ok (.getfield 164, 3) := by decide +kernel
theorem dX7_auctionOn_40 : decode cX7_auctionOn 40 = .ok (.ifCond .le 10, 3) := by decide +kernel
theorem dX7_auctionOn_43 : decode cX7_auctionOn 43 = .ok (.aload_n 0, 1) := by decide +kernel
theorem dX7_auctionOn_44 : decode cX7_auctionOn 44 = .ok (.getfield 167, 3) := by decide +kernel
theorem dX7_auctionOn_47 : decode cX7_auctionOn 47 = .ok (.goto 7, 3) := by decide +kernel
theorem dX7_auctionOn_50 : decode cX7_auctionOn 50 = .ok (.aload_n 1, 1) := by decide +kernel
theorem dX7_auctionOn_51 : decode cX7_auctionOn 51 = .ok (.bipush 7, 2) := by decide +kernel
theorem dX7_auctionOn_53 : decode cX7_auctionOn 53 = .ok (.iaload, 1) := by decide +kernel
theorem dX7_auctionOn_54 : decode cX7_auctionOn 54 = .ok (.iastore, 1) := by decide +kernel
theorem dX7_auctionOn_55 : decode cX7_auctionOn 55 = .ok (.aload_n 1, 1) := by decide +kernel
theorem dX7_auctionOn_56 : decode cX7_auctionOn 56 = .ok (.bipush 8, 2) := by decide +kernel
theorem dX7_auctionOn_58 : decode cX7_auctionOn 58 = .ok (.iaload, 1) := by decide +kernel
theorem dX7_auctionOn_59 : decode cX7_auctionOn 59 = .ok (.iconst 1, 1) := by decide +kernel
theorem dX7_auctionOn_60 : decode cX7_auctionOn 60 = .ok (.isub, 1) := by decide +kernel
theorem dX7_auctionOn_61 : decode cX7_auctionOn 61 = .ok (.istore_n 2, 1) := by decide +kernel
theorem dX7_auctionOn_62 : decode cX7_auctionOn 62 = .ok (.iload_n 2, 1) := by decide +kernel
theorem dX7_auctionOn_63 : decode cX7_auctionOn 63 = .ok (.ifCond .lt 25, 3) := by decide +kernel
theorem dX7_auctionOn_66 : decode cX7_auctionOn 66 = .ok (.aload_n 1, 1) := by decide +kernel
theorem dX7_auctionOn_67 : decode cX7_auctionOn 67 = .ok (.iload_n 2, 1) := by decide +kernel
theorem dX7_auctionOn_68 : decode cX7_auctionOn 68 = .ok (.invokestatic 119, 3) := by decide +kernel
theorem dX7_auctionOn_71 : decode cX7_auctionOn 71 = .ok (.iconst 3, 1) := by decide +kernel
theorem dX7_auctionOn_72 : decode cX7_auctionOn 72 = .ok (.iadd, 1) := by decide +kernel
theorem dX7_auctionOn_73 : decode cX7_auctionOn 73 = .ok (.iaload, 1) := by decide +kernel
theorem dX7_auctionOn_74 : decode cX7_auctionOn 74 = .ok (.ifCond .ne 8, 3) := by decide +kernel
theorem dX7_auctionOn_77 : decode cX7_auctionOn 77 = .ok (.aload_n 1, 1) := by decide +kernel
theorem dX7_auctionOn_78 : decode cX7_auctionOn 78 = .ok (.iload_n 2, 1) := by decide +kernel
theorem dX7_auctionOn_79 : decode cX7_auctionOn 79 = .ok (.invokestatic 173, 3) := by decide +kernel
theorem dX7_auctionOn_82 : decode cX7_auctionOn 82 = .ok (.iinc 2 (-1), 3) := by decide +kernel
theorem dX7_auctionOn_85 : decode cX7_auctionOn 85 = .ok (.goto (-23), 3) := by decide +kernel
theorem dX7_auctionOn_88 : decode cX7_auctionOn 88 = .ok (.return_, 1) := by decide +kernel
theorem dX7_sends_0 : decode cX7_sends 0 = .ok (.iload_n 1, 1) := by decide +kernel
theorem dX7_sends_1 : decode cX7_sends 1 = .ok (.invokestatic 90, 3) := by decide +kernel
theorem dX7_sends_4 : decode cX7_sends 4 = .ok (.istore_n 2, 1) := by decide +kernel
theorem dX7_sends_5 : decode cX7_sends 5 = .ok (.aload_n 0, 1) := by decide +kernel
theorem dX7_sends_6 : decode cX7_sends 6 = .ok (.iload_n 2, 1) := by decide +kernel
theorem dX7_sends_7 : decode cX7_sends 7 = .ok (.bipush 8, 2) := by decide +kernel
theorem dX7_sends_9 : decode cX7_sends 9 = .ok (.iadd, 1) := by decide +kernel
theorem dX7_sends_10 : decode cX7_sends 10 = .ok (.iaload, 1) := by decide +kernel
theorem dX7_sends_11 : decode cX7_sends 11 = .ok (.istore_n 3, 1) := by decide +kernel
theorem dX7_sends_12 : decode cX7_sends 12 = .ok (.aload_n 0, 1) := by decide +kernel
theorem dX7_sends_13 : decode cX7_sends 13 = .ok (.iload_n 2, 1) := by decide +kernel
theorem dX7_sends_14 : decode cX7_sends 14 = .ok (.bipush 7, 2) := by decide +kernel
theorem dX7_sends_16 : decode cX7_sends 16 = .ok (.iadd, 1) := by decide +kernel
theorem dX7_sends_17 : decode cX7_sends 17 = .ok (.iaload, 1) := by decide +kernel
theorem dX7_sends_18 : decode cX7_sends 18 = .ok (.ifCond .eq 32, 3) := by decide +kernel
theorem dX7_sends_21 : decode cX7_sends 21 = .ok (.aload_n 0, 1) := by decide +kernel
theorem dX7_sends_22 : decode cX7_sends 22 = .ok (.iload_n 1, 1) := by decide +kernel
theorem dX7_sends_23 : decode cX7_sends 23 = .ok (.invokestatic 130, 3) := by decide +kernel
theorem dX7_sends_26 : decode cX7_sends 26 = .ok (.ifCond .ne 24, 3) := by decide +kernel
theorem dX7_sends_29 : decode cX7_sends 29 = .ok (.iload_n 3, 1) := by decide +kernel
theorem dX7_sends_30 : decode cX7_sends 30 = .ok (.aload_n 0, 1) := by decide +kernel
theorem dX7_sends_31 : decode cX7_sends 31 = .ok (.iload_n 1, 1) := by decide +kernel
theorem dX7_sends_32 : decode cX7_sends 32 = .ok (.invokestatic 179, 3) := by decide +kernel
theorem dX7_sends_35 : decode cX7_sends 35 = .ok (.if_icmp .gt 15, 3) := by decide +kernel
theorem dX7_sends_38 : decode cX7_sends 38 = .ok (.iload_n 3, 1) := by decide +kernel
theorem dX7_sends_39 : decode cX7_sends 39 = .ok (.aload_n 0, 1) := by decide +kernel
theorem dX7_sends_40 : decode cX7_sends 40 = .ok (.bipush 9, 2) := by decide +kernel
theorem dX7_sends_42 : decode cX7_sends 42 = .ok (.iaload, 1) := by decide +kernel
theorem dX7_sends_43 : decode cX7_sends 43 = .ok (.iadd, 1) := by decide +kernel
theorem dX7_sends_44 : decode cX7_sends 44 = .ok (.aload_n 0, 1) := by decide +kernel
theorem dX7_sends_45 : decode cX7_sends 45 = .ok (.iconst 1, 1) := by decide +kernel
theorem dX7_sends_46 : decode cX7_sends 46 = .ok (.iaload, 1) := by decide +kernel
theorem dX7_sends_47 : decode cX7_sends 47 = .ok (.if_icmp .le 5, 3) := by decide +kernel
theorem dX7_sends_50 : decode cX7_sends 50 = .ok (.iconst 0, 1) := by decide +kernel
theorem dX7_sends_51 : decode cX7_sends 51 = .ok (.ireturn, 1) := by decide +kernel
theorem dX7_sends_52 : decode cX7_sends 52 = .ok (.aload_n 0, 1) := by decide +kernel
theorem dX7_sends_53 : decode cX7_sends 53 = .ok (.iload_n 1, 1) := by decide +kernel
theorem dX7_sends_54 : decode cX7_sends 54 = .ok (.iload_n 3, 1) := by decide +kernel
theorem dX7_sends_55 : decode cX7_sends 55 = .ok (.invokestatic 182, 3) := by decide +kernel
theorem dX7_sends_58 : decode cX7_sends 58 = .ok (.pop, 1) := by decide +kernel
theorem dX7_sends_59 : decode cX7_sends 59 = .ok (.aload_n 0, 1) := by decide +kernel
theorem dX7_sends_60 : decode cX7_sends 60 = .ok (.bipush 9, 2) := by decide +kernel
theorem dX7_sends_62 : decode cX7_sends 62 = .ok (.dup2, 1) := by decide +kernel
theorem dX7_sends_63 : decode cX7_sends 63 = .ok (.iaload, 1) := by decide +kernel
theorem dX7_sends_64 : decode cX7_sends 64 = .ok (.iload_n 3, 1) := by decide +kernel
theorem dX7_sends_65 : decode cX7_sends 65 = .ok (.iadd, 1) := by decide +kernel
theorem dX7_sends_66 : decode cX7_sends 66 = .ok (.iastore, 1) := by decide +kernel
theorem dX7_sends_67 : decode cX7_sends 67 = .ok (.aload_n 0, 1) := by decide +kernel
theorem dX7_sends_68 : decode cX7_sends 68 = .ok (.iload_n 2, 1) := by decide +kernel
theorem dX7_sends_69 : decode cX7_sends 69 = .ok (.iconst 5, 1) := by decide +kernel
theorem dX7_sends_70 : decode cX7_sends 70 = .ok (.iadd, 1) := by decide +kernel
theorem dX7_sends_71 : decode cX7_sends 71 = .ok (.dup2, 1) := by decide +kernel
theorem dX7_sends_72 : decode cX7_sends 72 = .ok (.iaload, 1) := by decide +kernel
theorem dX7_sends_73 : decode cX7_sends 73 = .ok (.iload_n 3, 1) := by decide +kernel
theorem dX7_sends_74 : decode cX7_sends 74 = .ok (.iadd, 1) := by decide +kernel
theorem dX7_sends_75 : decode cX7_sends 75 = .ok (.iastore, 1) := by decide +kernel
theorem dX7_sends_76 : decode cX7_sends 76 = .ok (.aload_n 0, 1) := by decide +kernel
theorem dX7_sends_77 : decode cX7_sends 77 = .ok (.iload_n 2, 1) := by decide +kernel
theorem dX7_sends_78 : decode cX7_sends 78 = .ok (.bipush 7, 2) := by decide +kernel
theorem dX7_sends_80 : decode cX7_sends 80 = .ok (.iadd, 1) := by decide +kernel
theorem dX7_sends_81 : decode cX7_sends 81 = .ok (.dup2, 1) := by decide +kernel
theorem dX7_sends_82 : decode cX7_sends 82 = .ok (.iaload, 1) := by decide +kernel
theorem dX7_sends_83 : decode cX7_sends 83 = .ok (.iconst 1, 1) := by decide +kernel
theorem dX7_sends_84 : decode cX7_sends 84 = .ok (.isub, 1) := by decide +kernel
theorem dX7_sends_85 : decode cX7_sends 85 = .ok (.iastore, 1) := by decide +kernel
theorem dX7_sends_86 : decode cX7_sends 86 = .ok (.iconst 0, 1) := by decide +kernel
theorem dX7_sends_87 : decode cX7_sends 87 = .ok (.istore 4, 2) := by decide +kernel
theorem dX7_sends_89 : decode cX7_sends 89 = .ok (.iload 4, 2) := by decide +kernel
theorem dX7_sends_91 : decode cX7_sends 91 = .ok (.aload_n 0, 1) := by decide +kernel
theorem dX7_sends_92 : decode cX7_sends 92 = .ok (.iload_n 2, 1) := by decide +kernel
theorem dX7_sends_93 : decode cX7_sends 93 = .ok (.bipush 7, 2) := by decide +kernel
theorem dX7_sends_95 : decode cX7_sends 95 = .ok (.iadd, 1) := by decide +kernel
theorem dX7_sends_96 : decode cX7_sends 96 = .ok (.iaload, 1) := by decide +kernel
theorem dX7_sends_97 : decode cX7_sends 97 = .ok (.if_icmp .ge 29, 3) := by decide +kernel
theorem dX7_sends_100 : decode cX7_sends 100 = .ok (.aload_n 0, 1) := by decide +kernel
theorem dX7_sends_101 : decode cX7_sends 101 = .ok (.iload_n 2, 1) := by decide +kernel
theorem dX7_sends_102 : decode cX7_sends 102 = .ok (.bipush 8, 2) := by decide +kernel
theorem dX7_sends_104 : decode cX7_sends 104 = .ok (.iadd, 1) := by decide +kernel
theorem dX7_sends_105 : decode cX7_sends 105 = .ok (.iload 4, 2) := by decide +kernel
theorem dX7_sends_107 : decode cX7_sends 107 = .ok (.iadd, 1) := by decide +kernel
theorem dX7_sends_108 : decode cX7_sends 108 = .ok (.aload_n 0, 1) := by decide +kernel
theorem dX7_sends_109 : decode cX7_sends 109 = .ok (.iload_n 2, 1) := by decide +kernel
theorem dX7_sends_110 : decode cX7_sends 110 = .ok (.bipush 8, 2) := by decide +kernel
theorem dX7_sends_112 : decode cX7_sends 112 = .ok (.iadd, 1) := by decide +kernel
theorem dX7_sends_113 : decode cX7_sends 113 = .ok (.iload 4, 2) := by decide +kernel
theorem dX7_sends_115 : decode cX7_sends 115 = .ok (.iadd, 1) := by decide +kernel
theorem dX7_sends_116 : decode cX7_sends 116 = .ok (.iconst 1, 1) := by decide +kernel
theorem dX7_sends_117 : decode cX7_sends 117 = .ok (.iadd, 1) := by decide +kernel
theorem dX7_sends_118 : decode cX7_sends 118 = .ok (.iaload, 1) := by decide +kernel
theorem dX7_sends_119 : decode cX7_sends 119 = .ok (.iastore, 1) := by decide +kernel
theorem dX7_sends_120 : decode cX7_sends 120 = .ok (.iinc 4 1, 3) := by decide +kernel
theorem dX7_sends_123 : decode cX7_sends 123 = .ok (.goto (-34), 3) := by decide +kernel
theorem dX7_sends_126 : decode cX7_sends 126 = .ok (.aload_n 0, 1) := by decide +kernel
theorem dX7_sends_127 : decode cX7_sends 127 = .ok (.iload_n 2, 1) := by decide +kernel
theorem dX7_sends_128 : decode cX7_sends 128 = .ok (.bipush 8, 2) := by decide +kernel
theorem dX7_sends_130 : decode cX7_sends 130 = .ok (.iadd, 1) := by decide +kernel
theorem dX7_sends_131 : decode cX7_sends 131 = .ok (.aload_n 0, 1) := by decide +kernel
theorem dX7_sends_132 : decode cX7_sends 132 = .ok (.iload_n 2, 1) := by decide +kernel
theorem dX7_sends_133 : decode cX7_sends 133 = .ok (.bipush 7, 2) := by decide +kernel
theorem dX7_sends_135 : decode cX7_sends 135 = .ok (.iadd, 1) := by decide +kernel
theorem dX7_sends_136 : decode cX7_sends 136 = .ok (.iaload, 1) := by decide +kernel
theorem dX7_sends_137 : decode cX7_sends 137 = .ok (.iadd, 1) := by decide +kernel
theorem dX7_sends_138 : decode cX7_sends 138 = .ok (.iconst 0, 1) := by decide +kernel
theorem dX7_sends_139 : decode cX7_sends 139 = .ok (.iastore, 1) := by decide +kernel
theorem dX7_sends_140 : decode cX7_sends 140 = .ok (.iconst 1, 1) := by decide +kernel
theorem dX7_sends_141 : decode cX7_sends 141 = .ok (.ireturn, 1) := by decide +kernel
theorem dX7_sendAll_0 : decode cX7_sendAll 0 = .ok (.aload_n 0, 1) := by decide +kernel
theorem dX7_sendAll_1 : decode cX7_sendAll 1 = .ok (.bipush 9, 2) := by decide +kernel
theorem dX7_sendAll_3 : decode cX7_sendAll 3 = .ok (.iconst 0, 1) := by decide +kernel
theorem dX7_sendAll_4 : decode cX7_sendAll 4 = .ok (.iastore, 1) := by decide +kernel
theorem dX7_sendAll_5 : decode cX7_sendAll 5 = .ok (.iconst 1, 1) := by decide +kernel
theorem dX7_sendAll_6 : decode cX7_sendAll 6 = .ok (.istore_n 1, 1) := by decide +kernel
theorem dX7_sendAll_7 : decode cX7_sendAll 7 = .ok (.iload_n 1, 1) := by decide +kernel
theorem dX7_sendAll_8 : decode cX7_sendAll 8 = .ok (.ifCond .eq 49, 3) := by decide +kernel
theorem dX7_sendAll_11 : decode cX7_sendAll 11 = .ok (.iconst 0, 1) := by decide +kernel
theorem dX7_sendAll_12 : decode cX7_sendAll 12 = .ok (.istore_n 1, 1) := by decide +kernel
theorem dX7_sendAll_13 : decode cX7_sendAll 13 = .ok (.iconst 0, 1) := by decide +kernel
theorem dX7_sendAll_14 : decode cX7_sendAll 14 = .ok (.istore_n 2, 1) := by decide +kernel
theorem dX7_sendAll_15 : decode cX7_sendAll 15 = .ok (.iload_n 2, 1) := by decide +kernel
theorem dX7_sendAll_16 : decode cX7_sendAll 16 = .ok (.aload_n 0, 1) := by decide +kernel
theorem dX7_sendAll_17 : decode cX7_sendAll 17 = .ok (.iconst 0, 1) := by decide +kernel
theorem dX7_sendAll_18 : decode cX7_sendAll 18 = .ok (.iaload, 1) := by decide +kernel
theorem dX7_sendAll_19 : decode cX7_sendAll 19 = .ok (.if_icmp .ge 35, 3) := by decide +kernel
theorem dX7_sendAll_22 : decode cX7_sendAll 22 = .ok (.aload_n 0, 1) := by decide +kernel
theorem dX7_sendAll_23 : decode cX7_sendAll 23 = .ok (.aload_n 0, 1) := by decide +kernel
theorem dX7_sendAll_24 : decode cX7_sendAll 24 = .ok (.iconst 5, 1) := by decide +kernel
theorem dX7_sendAll_25 : decode cX7_sendAll 25 = .ok (.iaload, 1) := by decide +kernel
theorem dX7_sendAll_26 : decode cX7_sendAll 26 = .ok (.iload_n 2, 1) := by decide +kernel
theorem dX7_sendAll_27 : decode cX7_sendAll 27 = .ok (.iadd, 1) := by decide +kernel
theorem dX7_sendAll_28 : decode cX7_sendAll 28 = .ok (.aload_n 0, 1) := by decide +kernel
theorem dX7_sendAll_29 : decode cX7_sendAll 29 = .ok (.iconst 0, 1) := by decide +kernel
theorem dX7_sendAll_30 : decode cX7_sendAll 30 = .ok (.iaload, 1) := by decide +kernel
theorem dX7_sendAll_31 : decode cX7_sendAll 31 = .ok (.irem, 1) := by decide +kernel
theorem dX7_sendAll_32 : decode cX7_sendAll 32 = .ok (.invokestatic 185, 3) := by decide +kernel
theorem dX7_sendAll_35 : decode cX7_sendAll 35 = .ok (.ifCond .ne 7, 3) := by decide +kernel
theorem dX7_sendAll_38 : decode cX7_sendAll 38 = .ok (.iload_n 1, 1) := by decide +kernel
theorem dX7_sendAll_39 : decode cX7_sendAll 39 = .ok (.ifCond .eq 7, 3) := by decide +kernel
theorem dX7_sendAll_42 : decode cX7_sendAll 42 = .ok (.iconst 1, 1) := by decide +kernel
theorem dX7_sendAll_43 : decode cX7_sendAll 43 = .ok (.goto 4, 3) := by decide +kernel
theorem dX7_sendAll_46 : decode cX7_sendAll 46 = .ok (.iconst 0, 1) := by decide +kernel
theorem dX7_sendAll_47 : decode cX7_sendAll 47 = .ok (.istore_n 1, 1) := by decide +kernel
theorem dX7_sendAll_48 : decode cX7_sendAll 48 = .ok (.iinc 2 1, 3) := by decide +kernel
theorem dX7_sendAll_51 : decode cX7_sendAll 51 = .ok (.goto (-36), 3) := by decide +kernel
theorem dX7_sendAll_54 : decode cX7_sendAll 54 = .ok (.goto (-47), 3) := by decide +kernel
theorem dX7_sendAll_57 : decode cX7_sendAll 57 = .ok (.return_, 1) := by decide +kernel
theorem dX7_withdrawAll_0 : decode cX7_withdrawAll 0 = .ok (.iconst 0, 1) := by decide +kernel
theorem dX7_withdrawAll_1 : decode cX7_withdrawAll 1 = .ok (.istore_n 2, 1) := by decide +kernel
theorem dX7_withdrawAll_2 : decode cX7_withdrawAll 2 = .ok (.iload_n 2, 1) := by decide +kernel
theorem dX7_withdrawAll_3 : decode cX7_withdrawAll 3 = .ok (.aload_n 0, 1) := by decide +kernel
theorem dX7_withdrawAll_4 : decode cX7_withdrawAll 4 = .ok (.bipush 8, 2) := by decide +kernel
theorem dX7_withdrawAll_6 : decode cX7_withdrawAll 6 = .ok (.iaload, 1) := by decide +kernel
theorem dX7_withdrawAll_7 : decode cX7_withdrawAll 7 = .ok (.if_icmp .ge 29, 3) := by decide +kernel
theorem dX7_withdrawAll_10 : decode cX7_withdrawAll 10 = .ok (.aload_n 0, 1) := by decide +kernel
theorem dX7_withdrawAll_11 : decode cX7_withdrawAll 11 = .ok (.iload_n 2, 1) := by decide +kernel
theorem dX7_withdrawAll_12 : decode cX7_withdrawAll 12 = .ok (.invokestatic 119, 3) := by decide +kernel
theorem dX7_withdrawAll_15 : decode cX7_withdrawAll 15 = .ok (.iconst 0, 1) := by decide +kernel
theorem dX7_withdrawAll_16 : decode cX7_withdrawAll 16 = .ok (.iadd, 1) := by decide +kernel
theorem dX7_withdrawAll_17 : decode cX7_withdrawAll 17 = .ok (.iaload, 1) := by decide +kernel
theorem dX7_withdrawAll_18 : decode cX7_withdrawAll 18 = .ok (.iload_n 1, 1) := by decide +kernel
theorem dX7_withdrawAll_19 : decode cX7_withdrawAll 19 = .ok (.if_icmp .ne 11, 3) := by decide +kernel
theorem dX7_withdrawAll_22 : decode cX7_withdrawAll 22 = .ok (.aload_n 0, 1) := by decide +kernel
theorem dX7_withdrawAll_23 : decode cX7_withdrawAll 23 = .ok (.iload_n 2, 1) := by decide +kernel
theorem dX7_withdrawAll_24 : decode cX7_withdrawAll 24 = .ok (.invokestatic 188, 3) := by decide +kernel
theorem dX7_withdrawAll_27 : decode cX7_withdrawAll 27 = .ok (.goto (-25), 3) := by decide +kernel
theorem dX7_withdrawAll_30 : decode cX7_withdrawAll 30 = .ok (.iinc 2 1, 3) := by decide +kernel
theorem dX7_withdrawAll_33 : decode cX7_withdrawAll 33 = .ok (.goto (-31), 3) := by decide +kernel
theorem dX7_withdrawAll_36 : decode cX7_withdrawAll 36 = .ok (.return_, 1) := by decide +kernel
theorem dX7_collect_0 : decode cX7_collect 0 = .ok (.iload_n 1, 1) := by decide +kernel
theorem dX7_collect_1 : decode cX7_collect 1 = .ok (.invokestatic 90, 3) := by decide +kernel
theorem dX7_collect_4 : decode cX7_collect 4 = .ok (.istore_n 2, 1) := by decide +kernel
theorem dX7_collect_5 : decode cX7_collect 5 = .ok (.aload_n 0, 1) := by decide +kernel
theorem dX7_collect_6 : decode cX7_collect 6 = .ok (.iload_n 1, 1) := by decide +kernel
theorem dX7_collect_7 : decode cX7_collect 7 = .ok (.aload_n 0, 1) := by decide +kernel
theorem dX7_collect_8 : decode cX7_collect 8 = .ok (.iload_n 2, 1) := by decide +kernel
theorem dX7_collect_9 : decode cX7_collect 9 = .ok (.bipush 17, 2) := by decide +kernel
theorem dX7_collect_11 : decode cX7_collect 11 = .ok (.iadd, 1) := by decide +kernel
theorem dX7_collect_12 : decode cX7_collect 12 = .ok (.iaload, 1) := by decide +kernel
theorem dX7_collect_13 : decode cX7_collect 13 = .ok (.invokestatic 182, 3) := by decide +kernel
theorem dX7_collect_16 : decode cX7_collect 16 = .ok (.istore_n 3, 1) := by decide +kernel
theorem dX7_collect_17 : decode cX7_collect 17 = .ok (.iload_n 3, 1) := by decide +kernel
theorem dX7_collect_18 : decode cX7_collect 18 = .ok (.ifCond .le 15, 3) := by decide +kernel
theorem dX7_collect_21 : decode cX7_collect 21 = .ok (.aload_n 0, 1) := by decide +kernel
theorem dX7_collect_22 : decode cX7_collect 22 = .ok (.iload_n 1, 1) := by decide +kernel
theorem dX7_collect_23 : decode cX7_collect 23 = .ok (.invokestatic 191, 3) := by decide +kernel
theorem dX7_collect_26 : decode cX7_collect 26 = .ok (.aload_n 0, 1) := by decide +kernel
theorem dX7_collect_27 : decode cX7_collect 27 = .ok (.iload_n 1, 1) := by decide +kernel
theorem dX7_collect_28 : decode cX7_collect 28 = .ok (.iload_n 3, 1) := by decide +kernel
theorem dX7_collect_29 : decode cX7_collect 29 = .ok (.invokestatic 182, 3) := by decide +kernel
theorem dX7_collect_32 : decode cX7_collect 32 = .ok (.istore_n 3, 1) := by decide +kernel
theorem dX7_collect_33 : decode cX7_collect 33 = .ok (.iload_n 3, 1) := by decide +kernel
theorem dX7_collect_34 : decode cX7_collect 34 = .ok (.ifCond .le 41, 3) := by decide +kernel
theorem dX7_collect_37 : decode cX7_collect 37 = .ok (.aload_n 0, 1) := by decide +kernel
theorem dX7_collect_38 : decode cX7_collect 38 = .ok (.iload_n 2, 1) := by decide +kernel
theorem dX7_collect_39 : decode cX7_collect 39 = .ok (.iconst 4, 1) := by decide +kernel
theorem dX7_collect_40 : decode cX7_collect 40 = .ok (.iadd, 1) := by decide +kernel
theorem dX7_collect_41 : decode cX7_collect 41 = .ok (.iaload, 1) := by decide +kernel
theorem dX7_collect_42 : decode cX7_collect 42 = .ok (.aload_n 0, 1) := by decide +kernel
theorem dX7_collect_43 : decode cX7_collect 43 = .ok (.iconst 4, 1) := by decide +kernel
theorem dX7_collect_44 : decode cX7_collect 44 = .ok (.iaload, 1) := by decide +kernel
theorem dX7_collect_45 : decode cX7_collect 45 = .ok (.if_icmp .lt 30, 3) := by decide +kernel
theorem dX7_collect_48 : decode cX7_collect 48 = .ok (.aload_n 0, 1) := by decide +kernel
theorem dX7_collect_49 : decode cX7_collect 49 = .ok (.iload_n 2, 1) := by decide +kernel
theorem dX7_collect_50 : decode cX7_collect 50 = .ok (.iconst 4, 1) := by decide +kernel
theorem dX7_collect_51 : decode cX7_collect 51 = .ok (.iadd, 1) := by decide +kernel
theorem dX7_collect_52 : decode cX7_collect 52 = .ok (.dup2, 1) := by decide +kernel
theorem dX7_collect_53 : decode cX7_collect 53 = .ok (.iaload, 1) := by decide +kernel
theorem dX7_collect_54 : decode cX7_collect 54 = .ok (.aload_n 0, 1) := by decide +kernel
theorem dX7_collect_55 : decode cX7_collect 55 = .ok (.iconst 4, 1) := by decide +kernel
theorem dX7_collect_56 : decode cX7_collect 56 = .ok (.iaload, 1) := by decide +kernel
theorem dX7_collect_57 : decode cX7_collect 57 = .ok (.isub, 1) := by decide +kernel
theorem dX7_collect_58 : decode cX7_collect 58 = .ok (.iastore, 1) := by decide +kernel
theorem dX7_collect_59 : decode cX7_collect 59 = .ok (.aload_n 0, 1) := by decide +kernel
theorem dX7_collect_60 : decode cX7_collect 60 = .ok (.bipush 6, 2) := by decide +kernel
theorem dX7_collect_62 : decode cX7_collect 62 = .ok (.dup2, 1) := by decide +kernel
theorem dX7_collect_63 : decode cX7_collect 63 = .ok (.iaload, 1) := by decide +kernel
theorem dX7_collect_64 : decode cX7_collect 64 = .ok (.aload_n 0, 1) := by decide +kernel
theorem dX7_collect_65 : decode cX7_collect 65 = .ok (.iconst 4, 1) := by decide +kernel
theorem dX7_collect_66 : decode cX7_collect 66 = .ok (.iaload, 1) := by decide +kernel
theorem dX7_collect_67 : decode cX7_collect 67 = .ok (.iadd, 1) := by decide +kernel
theorem dX7_collect_68 : decode cX7_collect 68 = .ok (.iastore, 1) := by decide +kernel
theorem dX7_collect_69 : decode cX7_collect 69 = .ok (.iinc 3 (-1), 3) := by decide +kernel
theorem dX7_collect_72 : decode cX7_collect 72 = .ok (.goto (-39), 3) := by decide +kernel
theorem dX7_collect_75 : decode cX7_collect 75 = .ok (.iload_n 3, 1) := by decide +kernel
theorem dX7_collect_76 : decode cX7_collect 76 = .ok (.ifCond .le 18, 3) := by decide +kernel
theorem dX7_collect_79 : decode cX7_collect 79 = .ok (.aload_n 0, 1) := by decide +kernel
theorem dX7_collect_80 : decode cX7_collect 80 = .ok (.iload_n 2, 1) := by decide +kernel
theorem dX7_collect_81 : decode cX7_collect 81 = .ok (.bipush 6, 2) := by decide +kernel
theorem dX7_collect_83 : decode cX7_collect 83 = .ok (.iadd, 1) := by decide +kernel
theorem dX7_collect_84 : decode cX7_collect 84 = .ok (.aload_n 0, 1) := by decide +kernel
theorem dX7_collect_85 : decode cX7_collect 85 = .ok (.iconst 5, 1) := by decide +kernel
theorem dX7_collect_86 : decode cX7_collect 86 = .ok (.iaload, 1) := by decide +kernel
theorem dX7_collect_87 : decode cX7_collect 87 = .ok (.iconst 2, 1) := by decide +kernel
theorem dX7_collect_88 : decode cX7_collect 88 = .ok (.aload_n 0, 1) := by decide +kernel
theorem dX7_collect_89 : decode cX7_collect 89 = .ok (.iconst 3, 1) := by decide +kernel
theorem dX7_collect_90 : decode cX7_collect 90 = .ok (.iaload, 1) := by decide +kernel
theorem dX7_collect_91 : decode cX7_collect 91 = .ok (.imul, 1) := by decide +kernel
theorem dX7_collect_92 : decode cX7_collect 92 = .ok (.iadd, 1) := by decide +kernel
theorem dX7_collect_93 : decode cX7_collect 93 = .ok (.iastore, 1) := by decide +kernel
theorem dX7_collect_94 : decode cX7_collect 94 = .ok (.aload_n 0, 1) := by decide +kernel
theorem dX7_collect_95 : decode cX7_collect 95 = .ok (.iload_n 2, 1) := by decide +kernel
theorem dX7_collect_96 : decode cX7_collect 96 = .ok (.bipush 16, 2) := by decide +kernel
theorem dX7_collect_98 : decode cX7_collect 98 = .ok (.iadd, 1) := by decide +kernel
theorem dX7_collect_99 : decode cX7_collect 99 = .ok (.dup2, 1) := by decide +kernel
theorem dX7_collect_100 : decode cX7_collect 100 = .ok (.iaload, 1) := by decide +kernel
theorem dX7_collect_101 : decode cX7_collect 101 = .ok (.iconst 1, 1) := by decide +kernel
theorem dX7_collect_102 : decode cX7_collect 102 = .ok (.isub, 1) := by decide +kernel
theorem dX7_collect_103 : decode cX7_collect 103 = .ok (.iastore, 1) := by decide +kernel
theorem dX7_collect_104 : decode cX7_collect 104 = .ok (.iconst 0, 1) := by decide +kernel
theorem dX7_collect_105 : decode cX7_collect 105 = .ok (.istore 4, 2) := by decide +kernel
theorem dX7_collect_107 : decode cX7_collect 107 = .ok (.iload 4, 2) := by decide +kernel
theorem dX7_collect_109 : decode cX7_collect 109 = .ok (.iconst 2, 1) := by decide +kernel
theorem dX7_collect_110 : decode cX7_collect 110 = .ok (.aload_n 0, 1) := by decide +kernel
theorem dX7_collect_111 : decode cX7_collect 111 = .ok (.iload_n 2, 1) := by decide +kernel
theorem dX7_collect_112 : decode cX7_collect 112 = .ok (.bipush 16, 2) := by decide +kernel
theorem dX7_collect_114 : decode cX7_collect 114 = .ok (.iadd, 1) := by decide +kernel
theorem dX7_collect_115 : decode cX7_collect 115 = .ok (.iaload, 1) := by decide +kernel
theorem dX7_collect_116 : decode cX7_collect 116 = .ok (.imul, 1) := by decide +kernel
theorem dX7_collect_117 : decode cX7_collect 117 = .ok (.if_icmp .ge 29, 3) := by decide +kernel
theorem dX7_collect_120 : decode cX7_collect 120 = .ok (.aload_n 0, 1) := by decide +kernel
theorem dX7_collect_121 : decode cX7_collect 121 = .ok (.iload_n 2, 1) := by decide +kernel
theorem dX7_collect_122 : decode cX7_collect 122 = .ok (.bipush 17, 2) := by decide +kernel
theorem dX7_collect_124 : decode cX7_collect 124 = .ok (.iadd, 1) := by decide +kernel
theorem dX7_collect_125 : decode cX7_collect 125 = .ok (.iload 4, 2) := by decide +kernel
theorem dX7_collect_127 : decode cX7_collect 127 = .ok (.iadd, 1) := by decide +kernel
theorem dX7_collect_128 : decode cX7_collect 128 = .ok (.aload_n 0, 1) := by decide +kernel
theorem dX7_collect_129 : decode cX7_collect 129 = .ok (.iload_n 2, 1) := by decide +kernel
theorem dX7_collect_130 : decode cX7_collect 130 = .ok (.bipush 17, 2) := by decide +kernel
theorem dX7_collect_132 : decode cX7_collect 132 = .ok (.iadd, 1) := by decide +kernel
theorem dX7_collect_133 : decode cX7_collect 133 = .ok (.iload 4, 2) := by decide +kernel
theorem dX7_collect_135 : decode cX7_collect 135 = .ok (.iadd, 1) := by decide +kernel
theorem dX7_collect_136 : decode cX7_collect 136 = .ok (.iconst 2, 1) := by decide +kernel
theorem dX7_collect_137 : decode cX7_collect 137 = .ok (.iadd, 1) := by decide +kernel
theorem dX7_collect_138 : decode cX7_collect 138 = .ok (.iaload, 1) := by decide +kernel
theorem dX7_collect_139 : decode cX7_collect 139 = .ok (.iastore, 1) := by decide +kernel
theorem dX7_collect_140 : decode cX7_collect 140 = .ok (.iinc 4 1, 3) := by decide +kernel
theorem dX7_collect_143 : decode cX7_collect 143 = .ok (.goto (-36), 3) := by decide +kernel
theorem dX7_collect_146 : decode cX7_collect 146 = .ok (.return_, 1) := by decide +kernel
theorem dX7_tickOn_0 : decode cX7_tickOn 0 = .ok (.aload_n 1, 1) := by decide +kernel
theorem dX7_tickOn_1 : decode cX7_tickOn 1 = .ok (.iconst 5, 1) := by decide +kernel
theorem dX7_tickOn_2 : decode cX7_tickOn 2 = .ok (.dup2, 1) := by decide +kernel
theorem dX7_tickOn_3 : decode cX7_tickOn 3 = .ok (.iaload, 1) := by decide +kernel
theorem dX7_tickOn_4 : decode cX7_tickOn 4 = .ok (.iconst 1, 1) := by decide +kernel
theorem dX7_tickOn_5 : decode cX7_tickOn 5 = .ok (.iadd, 1) := by decide +kernel
theorem dX7_tickOn_6 : decode cX7_tickOn 6 = .ok (.iastore, 1) := by decide +kernel
theorem dX7_tickOn_7 : decode cX7_tickOn 7 = .ok (.iconst 0, 1) := by decide +kernel
theorem dX7_tickOn_8 : decode cX7_tickOn 8 = .ok (.istore_n 2, 1) := by decide +kernel
theorem dX7_tickOn_9 : decode cX7_tickOn 9 = .ok (.iload_n 2, 1) := by decide +kernel
theorem dX7_tickOn_10 : decode cX7_tickOn 10 = .ok (.aload_n 1, 1) := by decide +kernel
theorem dX7_tickOn_11 : decode cX7_tickOn 11 = .ok (.iconst 0, 1) := by decide +kernel
theorem dX7_tickOn_12 : decode cX7_tickOn 12 = .ok (.iaload, 1) := by decide +kernel
theorem dX7_tickOn_13 : decode cX7_tickOn 13 = .ok (.if_icmp .ge 54, 3) := by decide +kernel
theorem dX7_tickOn_16 : decode cX7_tickOn 16 = .ok (.iload_n 2, 1) := by decide +kernel
theorem dX7_tickOn_17 : decode cX7_tickOn 17 = .ok (.invokestatic 90, 3) := by decide +kernel
theorem dX7_tickOn_20 : decode cX7_tickOn 20 = .ok (.istore_n 3, 1) := by decide +kernel
theorem dX7_tickOn_21 : decode cX7_tickOn 21 = .ok (.aload_n 1, 1) := by decide +kernel
theorem dX7_tickOn_22 : decode cX7_tickOn 22 = .ok (.iload_n 3, 1) := by decide +kernel
theorem dX7_tickOn_23 : decode cX7_tickOn 23 = .ok (.iconst 2, 1) := by decide +kernel
theorem dX7_tickOn_24 : decode cX7_tickOn 24 = .ok (.iadd, 1) := by decide +kernel
theorem dX7_tickOn_25 : decode cX7_tickOn 25 = .ok (.aload_n 1, 1) := by decide +kernel
theorem dX7_tickOn_26 : decode cX7_tickOn 26 = .ok (.iload_n 2, 1) := by decide +kernel
theorem dX7_tickOn_27 : decode cX7_tickOn 27 = .ok (.invokestatic 130, 3) := by decide +kernel
theorem dX7_tickOn_30 : decode cX7_tickOn 30 = .ok (.ifCond .eq 11, 3) := by decide +kernel
theorem dX7_tickOn_33 : decode cX7_tickOn 33 = .ok (.aload_n 1, 1) := by decide +kernel
theorem dX7_tickOn_34 : decode cX7_tickOn 34 = .ok (.iload_n 3, 1) := by decide +kernel
theorem dX7_tickOn_35 : decode cX7_tickOn 35 = .ok (.iconst 2, 1) := by decide +kernel
theorem dX7_tickOn_36 : decode cX7_tickOn 36 = .ok (.iadd, 1) := by decide +kernel
theorem dX7_tickOn_37 : decode cX7_tickOn 37 = .ok (.iaload, 1) := by decide +kernel
theorem dX7_tickOn_38 : decode cX7_tickOn 38 = .ok (.goto 22, 3) := by decide +kernel
theorem dX7_tickOn_41 : decode cX7_tickOn 41 = .ok (.aload_n 1, 1) := by decide +kernel
theorem dX7_tickOn_42 : decode cX7_tickOn 42 = .ok (.iload_n 3, 1) := by decide +kernel
theorem dX7_tickOn_43 : decode cX7_tickOn 43 = .ok (.iconst 0, 1) := by decide +kernel
theorem dX7_tickOn_44 : decode cX7_tickOn 44 = .ok (.iadd, 1) := by decide +kernel
theorem dX7_tickOn_45 : decode cX7_tickOn 45 = .ok (.iaload, 1) := by decide +kernel
theorem dX7_tickOn_46 : decode cX7_tickOn 46 = .ok (.aload_n 1, 1) := by decide +kernel
theorem dX7_tickOn_47 : decode cX7_tickOn 47 = .ok (.iload_n 3, 1) := by decide +kernel
theorem dX7_tickOn_48 : decode cX7_tickOn 48 = .ok (.iconst 2, 1) := by decide +kernel
theorem dX7_tickOn_49 : decode cX7_tickOn 49 = .ok (.iadd, 1) := by decide +kernel
theorem dX7_tickOn_50 : decode cX7_tickOn 50 = .ok (.iaload, 1) := by decide +kernel
theorem dX7_tickOn_51 : decode cX7_tickOn 51 = .ok (.aload_n 1, 1) := by decide +kernel
theorem dX7_tickOn_52 : decode cX7_tickOn 52 = .ok (.iload_n 3, 1) := by decide +kernel
theorem dX7_tickOn_53 : decode cX7_tickOn 53 = .ok (.iconst 1, 1) := by decide +kernel
theorem dX7_tickOn_54 : decode cX7_tickOn 54 = .ok (.iadd, 1) := by decide +kernel
theorem dX7_tickOn_55 : decode cX7_tickOn 55 = .ok (.iaload, 1) := by decide +kernel
theorem dX7_tickOn_56 : decode cX7_tickOn 56 = .ok (.iadd, 1) := by decide +kernel
theorem dX7_tickOn_57 : decode cX7_tickOn 57 = .ok (.invokestatic 115, 3) := by decide +kernel
theorem dX7_tickOn_60 : decode cX7_tickOn 60 = .ok (.iastore, 1) := by decide +kernel
theorem dX7_tickOn_61 : decode cX7_tickOn 61 = .ok (.iinc 2 1, 3) := by decide +kernel
theorem dX7_tickOn_64 : decode cX7_tickOn 64 = .ok (.goto (-55), 3) := by decide +kernel
theorem dX7_tickOn_67 : decode cX7_tickOn 67 = .ok (.aload_n 1, 1) := by decide +kernel
theorem dX7_tickOn_68 : decode cX7_tickOn 68 = .ok (.invokestatic 194, 3) := by decide +kernel
theorem dX7_tickOn_71 : decode cX7_tickOn 71 = .ok (.aload_n 1, 1) := by decide +kernel
theorem dX7_tickOn_72 : decode cX7_tickOn 72 = .ok (.iconst 5, 1) := by decide +kernel
theorem dX7_tickOn_73 : decode cX7_tickOn 73 = .ok (.iaload, 1) := by decide +kernel
theorem dX7_tickOn_74 : decode cX7_tickOn 74 = .ok (.aload_n 1, 1) := by decide +kernel
theorem dX7_tickOn_75 : decode cX7_tickOn 75 = .ok (.iconst 2, 1) := by decide +kernel
theorem dX7_tickOn_76 : decode cX7_tickOn 76 = .ok (.iaload, 1) := by decide +kernel
theorem dX7_tickOn_77 : decode cX7_tickOn 77 = .ok (.irem, 1) := by decide +kernel
theorem dX7_tickOn_78 : decode cX7_tickOn 78 = .ok (.ifCond .ne 8, 3) := by decide +kernel
theorem dX7_tickOn_81 : decode cX7_tickOn 81 = .ok (.aload_n 0, 1) := by decide +kernel
theorem dX7_tickOn_82 : decode cX7_tickOn 82 = .ok (.aload_n 1, 1) := by decide +kernel
theorem dX7_tickOn_83 : decode cX7_tickOn 83 = .ok (.invokevirtual 197, 3) := by decide +kernel
theorem dX7_tickOn_86 : decode cX7_tickOn 86 = .ok (.iconst 0, 1) := by decide +kernel
theorem dX7_tickOn_87 : decode cX7_tickOn 87 = .ok (.istore_n 2, 1) := by decide +kernel
theorem dX7_tickOn_88 : decode cX7_tickOn 88 = .ok (.iload_n 2, 1) := by decide +kernel
theorem dX7_tickOn_89 : decode cX7_tickOn 89 = .ok (.aload_n 1, 1) := by decide +kernel
theorem dX7_tickOn_90 : decode cX7_tickOn 90 = .ok (.iconst 0, 1) := by decide +kernel
theorem dX7_tickOn_91 : decode cX7_tickOn 91 = .ok (.iaload, 1) := by decide +kernel
theorem dX7_tickOn_92 : decode cX7_tickOn 92 = .ok (.if_icmp .ge 46, 3) := by decide +kernel
theorem dX7_tickOn_95 : decode cX7_tickOn 95 = .ok (.aload_n 1, 1) := by decide +kernel
theorem dX7_tickOn_96 : decode cX7_tickOn 96 = .ok (.iload_n 2, 1) := by decide +kernel
theorem dX7_tickOn_97 : decode cX7_tickOn 97 = .ok (.invokestatic 90, 3) := by decide +kernel
theorem dX7_tickOn_100 : decode cX7_tickOn 100 = .ok (.bipush 16, 2) := by decide +kernel
theorem dX7_tickOn_102 : decode cX7_tickOn 102 = .ok (.iadd, 1) := by decide +kernel
theorem dX7_tickOn_103 : decode cX7_tickOn 103 = .ok (.iaload, 1) := by decide +kernel
theorem dX7_tickOn_104 : decode cX7_tickOn 104 = .ok (.ifCond .le 28, 3) := by decide +kernel
theorem dX7_tickOn_107 : decode cX7_tickOn 107 = .ok (.aload_n 1, 1) := by decide +kernel
theorem dX7_tickOn_108 : decode cX7_tickOn 108 = .ok (.iload_n 2, 1) := by decide +kernel
theorem dX7_tickOn_109 : decode cX7_tickOn 109 = .ok (.invokestatic 90, 3) := by decide +kernel
theorem dX7_tickOn_112 : decode cX7_tickOn 112 = .ok (.bipush 17, 2) := by decide +kernel
theorem dX7_tickOn_114 : decode cX7_tickOn 114 = .ok (.iadd, 1) := by decide +kernel
theorem dX7_tickOn_115 : decode cX7_tickOn 115 = .ok (.iconst 1, 1) := by decide +kernel
theorem dX7_tickOn_116 : decode cX7_tickOn 116 = .ok (.iadd, 1) := by decide +kernel
theorem dX7_tickOn_117 : decode cX7_tickOn 117 = .ok (.iaload, 1) := by decide +kernel
theorem dX7_tickOn_118 : decode cX7_tickOn 118 = .ok (.aload_n 1, 1) := by decide +kernel
theorem dX7_tickOn_119 : decode cX7_tickOn 119 = .ok (.iconst 5, 1) := by decide +kernel
theorem dX7_tickOn_120 : decode cX7_tickOn 120 = .ok (.iaload, 1) := by decide +kernel
theorem dX7_tickOn_121 : decode cX7_tickOn 121 = .ok (.if_icmp .gt 11, 3) := by decide +kernel
theorem dX7_tickOn_124 : decode cX7_tickOn 124 = .ok (.aload_n 1, 1) := by decide +kernel
theorem dX7_tickOn_125 : decode cX7_tickOn 125 = .ok (.iload_n 2, 1) := by decide +kernel
theorem dX7_tickOn_126 : decode cX7_tickOn 126 = .ok (.invokestatic 200, 3) := by decide +kernel
theorem dX7_tickOn_129 : decode cX7_tickOn 129 = .ok (.goto (-34), 3) := by decide +kernel
theorem dX7_tickOn_132 : decode cX7_tickOn 132 = .ok (.iinc 2 1, 3) := by decide +kernel
theorem dX7_tickOn_135 : decode cX7_tickOn 135 = .ok (.goto (-47), 3) := by decide +kernel
theorem dX7_tickOn_138 : decode cX7_tickOn 138 = .ok (.return_, 1) := by decide +kernel
theorem dX7_ticksOn_0 : decode cX7_ticksOn 0 = .ok (.iconst 0, 1) := by decide +kernel
theorem dX7_ticksOn_1 : decode cX7_ticksOn 1 = .ok (.istore_n 3, 1) := by decide +kernel
theorem dX7_ticksOn_2 : decode cX7_ticksOn 2 = .ok (.iconst 0, 1) := by decide +kernel
theorem dX7_ticksOn_3 : decode cX7_ticksOn 3 = .ok (.istore 4, 2) := by decide +kernel
theorem dX7_ticksOn_5 : decode cX7_ticksOn 5 = .ok (.iload 4, 2) := by decide +kernel
theorem dX7_ticksOn_7 : decode cX7_ticksOn 7 = .ok (.iload_n 2, 1) := by decide +kernel
theorem dX7_ticksOn_8 : decode cX7_ticksOn 8 = .ok (.if_icmp .ge 21, 3) := by decide +kernel
theorem dX7_ticksOn_11 : decode cX7_ticksOn 11 = .ok (.aload_n 0, 1) := by decide +kernel
theorem dX7_ticksOn_12 : decode cX7_ticksOn 12 = .ok (.aload_n 1, 1) := by decide +kernel
theorem dX7_ticksOn_13 : decode cX7_ticksOn 13 = .ok (.invokevirtual 203, 3) := by decide +kernel
theorem dX7_ticksOn_16 : decode cX7_ticksOn 16 = .ok (.iload_n 3, 1) := by decide +kernel
theorem dX7_ticksOn_17 : decode cX7_ticksOn 17 = .ok (.aload_n 1, 1) := by decide +kernel
theorem dX7_ticksOn_18 : decode cX7_ticksOn 18 = .ok (.bipush 9, 2) := by decide +kernel
theorem dX7_ticksOn_20 : decode cX7_ticksOn 20 = .ok (.iaload, 1) := by decide +kernel
theorem dX7_ticksOn_21 : decode cX7_ticksOn 21 = .ok (.iadd, 1) := by decide +kernel
theorem dX7_ticksOn_22 : decode cX7_ticksOn 22 = .ok (.istore_n 3, 1) := by decide +kernel
theorem dX7_ticksOn_23 : decode cX7_ticksOn 23 = .ok (.iinc 4 1, 3) := by decide +kernel
theorem dX7_ticksOn_26 : decode cX7_ticksOn 26 = .ok (.goto (-21), 3) := by decide +kernel
theorem dX7_ticksOn_29 : decode cX7_ticksOn 29 = .ok (.iload_n 3, 1) := by decide +kernel
theorem dX7_ticksOn_30 : decode cX7_ticksOn 30 = .ok (.ireturn, 1) := by decide +kernel
theorem dX7_whyNot_0 : decode cX7_whyNot 0 = .ok (.aload_n 0, 1) := by decide +kernel
theorem dX7_whyNot_1 : decode cX7_whyNot 1 = .ok (.iload_n 1, 1) := by decide +kernel
theorem dX7_whyNot_2 : decode cX7_whyNot 2 = .ok (.invokestatic 94, 3) := by decide +kernel
theorem dX7_whyNot_5 : decode cX7_whyNot 5 = .ok (.ifCond .ne 5, 3) := by decide +kernel
theorem dX7_whyNot_8 : decode cX7_whyNot 8 = .ok (.iconst 1, 1) := by decide +kernel
theorem dX7_whyNot_9 : decode cX7_whyNot 9 = .ok (.ireturn, 1) := by decide +kernel
theorem dX7_whyNot_10 : decode cX7_whyNot 10 = .ok (.iload_n 3, 1) := by decide +kernel
theorem dX7_whyNot_11 : decode cX7_whyNot 11 = .ok (.i2l, 1) := by decide +kernel
theorem dX7_whyNot_12 : decode cX7_whyNot 12 = .ok (.lconst 1, 1) := by decide +kernel
theorem dX7_whyNot_13 : decode cX7_whyNot 13 = .ok (.ldc2_w 206, 3) := by decide +kernel
theorem dX7_whyNot_16 : decode cX7_whyNot 16 = .ok (.invokestatic 65, 3) := by decide +kernel
theorem dX7_whyNot_19 : decode cX7_whyNot 19 = .ok (.ifCond .eq 16, 3) := by decide +kernel
theorem dX7_whyNot_22 : decode cX7_whyNot 22 = .ok (.iload 4, 2) := by decide +kernel
theorem dX7_whyNot_24 : decode cX7_whyNot 24 = .ok (.i2l, 1) := by decide +kernel
theorem dX7_whyNot_25 : decode cX7_whyNot 25 = .ok (.lconst 1, 1) := by decide +kernel
theorem dX7_whyNot_26 : decode cX7_whyNot 26 = .ok (.ldc2_w 206, 3) := by decide +kernel
theorem dX7_whyNot_29 : decode cX7_whyNot 29 = .ok (.invokestatic 65, 3) := by decide +kernel
theorem dX7_whyNot_32 : decode cX7_whyNot 32 = .ok (.ifCond .ne 5, 3) := by decide +kernel
theorem dX7_whyNot_35 : decode cX7_whyNot 35 = .ok (.iconst 2, 1) := by decide +kernel
theorem dX7_whyNot_36 : decode cX7_whyNot 36 = .ok (.ireturn, 1) := by decide +kernel
theorem dX7_whyNot_37 : decode cX7_whyNot 37 = .ok (.aload_n 0, 1) := by decide +kernel
theorem dX7_whyNot_38 : decode cX7_whyNot 38 = .ok (.bipush 8, 2) := by decide +kernel
theorem dX7_whyNot_40 : decode cX7_whyNot 40 = .ok (.iaload, 1) := by decide +kernel
theorem dX7_whyNot_41 : decode cX7_whyNot 41 = .ok (.bipush 12, 2) := by decide +kernel
theorem dX7_whyNot_43 : decode cX7_whyNot 43 = .ok (.if_icmp .ge 15, 3) := by decide +kernel
theorem dX7_whyNot_46 : decode cX7_whyNot 46 = .ok (.aload_n 0, 1) := by decide +kernel
theorem dX7_whyNot_47 : decode cX7_whyNot 47 = .ok (.iload_n 1, 1) := by decide +kernel
theorem dX7_whyNot_48 : decode cX7_whyNot 48 = .ok (.invokestatic 130, 3) := by decide +kernel
theorem dX7_whyNot_51 : decode cX7_whyNot 51 = .ok (.ifCond .ne 7, 3) := by decide +kernel
theorem dX7_whyNot_54 : decode cX7_whyNot 54 = .ok (.iconst 1, 1) := by decide +kernel
theorem dX7_whyNot_55 : decode cX7_whyNot 55 = .ok (.goto 4, 3) := by decide +kernel
theorem dX7_whyNot_58 : decode cX7_whyNot 58 = .ok (.iconst 0, 1) := by decide +kernel
theorem dX7_whyNot_59 : decode cX7_whyNot 59 = .ok (.istore 5, 2) := by decide +kernel
theorem dX7_whyNot_61 : decode cX7_whyNot 61 = .ok (.iload_n 2, 1) := by decide +kernel
theorem dX7_whyNot_62 : decode cX7_whyNot 62 = .ok (.ifCond .ne 33, 3) := by decide +kernel
theorem dX7_whyNot_65 : decode cX7_whyNot 65 = .ok (.iload 5, 2) := by decide +kernel
theorem dX7_whyNot_67 : decode cX7_whyNot 67 = .ok (.ifCond .eq 22, 3) := by decide +kernel
theorem dX7_whyNot_70 : decode cX7_whyNot 70 = .ok (.aload_n 0, 1) := by decide +kernel
theorem dX7_whyNot_71 : decode cX7_whyNot 71 = .ok (.iload_n 1, 1) := by decide +kernel
theorem dX7_whyNot_72 : decode cX7_whyNot 72 = .ok (.invokestatic 90, 3) := by decide +kernel
theorem dX7_whyNot_75 : decode cX7_whyNot 75 = .ok (.iconst 4, 1) := by decide +kernel
theorem dX7_whyNot_76 : decode cX7_whyNot 76 = .ok (.iadd, 1) := by decide +kernel
theorem dX7_whyNot_77 : decode cX7_whyNot 77 = .ok (.iaload, 1) := by decide +kernel
theorem dX7_whyNot_78 : decode cX7_whyNot 78 = .ok (.iload_n 3, 1) := by decide +kernel
theorem dX7_whyNot_79 : decode cX7_whyNot 79 = .ok (.iload 4, 2) := by decide +kernel
theorem dX7_whyNot_81 : decode cX7_whyNot 81 = .ok (.imul, 1) := by decide +kernel
theorem dX7_whyNot_82 : decode cX7_whyNot 82 = .ok (.if_icmp .lt 7, 3) := by decide +kernel
theorem dX7_whyNot_85 : decode cX7_whyNot 85 = .ok (.iconst 1, 1) := by decide +kernel
theorem dX7_whyNot_86 : decode cX7_whyNot 86 = .ok (.goto 4, 3) := by decide +kernel
theorem dX7_whyNot_89 : decode cX7_whyNot 89 = .ok (.iconst 0, 1) := by decide +kernel
theorem dX7_whyNot_90 : decode cX7_whyNot 90 = .ok (.istore 5, 2) := by decide +kernel
theorem dX7_whyNot_92 : decode cX7_whyNot 92 = .ok (.goto 66, 3) := by decide +kernel
theorem dX7_whyNot_95 : decode cX7_whyNot 95 = .ok (.iload_n 2, 1) := by decide +kernel
theorem dX7_whyNot_96 : decode cX7_whyNot 96 = .ok (.iconst 1, 1) := by decide +kernel
theorem dX7_whyNot_97 : decode cX7_whyNot 97 = .ok (.if_icmp .ne 28, 3) := by decide +kernel
theorem dX7_whyNot_100 : decode cX7_whyNot 100 = .ok (.iload 5, 2) := by decide +kernel
theorem dX7_whyNot_102 : decode cX7_whyNot 102 = .ok (.ifCond .eq 17, 3) := by decide +kernel
theorem dX7_whyNot_105 : decode cX7_whyNot 105 = .ok (.aload_n 0, 1) := by decide +kernel
theorem dX7_whyNot_106 : decode cX7_whyNot 106 = .ok (.iload_n 1, 1) := by decide +kernel
theorem dX7_whyNot_107 : decode cX7_whyNot 107 = .ok (.invokestatic 179, 3) := by decide +kernel
theorem dX7_whyNot_110 : decode cX7_whyNot 110 = .ok (.iload 4, 2) := by decide +kernel
theorem dX7_whyNot_112 : decode cX7_whyNot 112 = .ok (.if_icmp .lt 7, 3) := by decide +kernel
theorem dX7_whyNot_115 : decode cX7_whyNot 115 = .ok (.iconst 1, 1) := by decide +kernel
theorem dX7_whyNot_116 : decode cX7_whyNot 116 = .ok (.goto 4, 3) := by decide +kernel
theorem dX7_whyNot_119 : decode cX7_whyNot 119 = .ok (.iconst 0, 1) := by decide +kernel
theorem dX7_whyNot_120 : decode cX7_whyNot 120 = .ok (.istore 5, 2) := by decide +kernel
theorem dX7_whyNot_122 : decode cX7_whyNot 122 = .ok (.goto 36, 3) := by decide +kernel
theorem dX7_whyNot_125 : decode cX7_whyNot 125 = .ok (.iload 5, 2) := by decide +kernel
theorem dX7_whyNot_127 : decode cX7_whyNot 127 = .ok (.ifCond .eq 28, 3) := by decide +kernel
theorem dX7_whyNot_130 : decode cX7_whyNot 130 = .ok (.aload_n 0, 1) := by decide +kernel
theorem dX7_whyNot_131 : decode cX7_whyNot 131 = .ok (.iload_n 1, 1) := by decide +kernel
theorem dX7_whyNot_132 : decode cX7_whyNot 132 = .ok (.invokestatic 126, 3) := by decide +kernel
theorem dX7_whyNot_135 : decode cX7_whyNot 135 = .ok (.aload_n 0, 1) := by decide +kernel
theorem dX7_whyNot_136 : decode cX7_whyNot 136 = .ok (.iload_n 1, 1) := by decide +kernel
theorem dX7_whyNot_137 : decode cX7_whyNot 137 = .ok (.iconst 2, 1) := by decide +kernel
theorem dX7_whyNot_138 : decode cX7_whyNot 138 = .ok (.iconst 0, 1) := by decide +kernel
theorem dX7_whyNot_139 : decode cX7_whyNot 139 = .ok (.invokestatic 122, 3) := by decide +kernel
theorem dX7_whyNot_142 : decode cX7_whyNot 142 = .ok (.iadd, 1) := by decide +kernel
theorem dX7_whyNot_143 : decode cX7_whyNot 143 = .ok (.iload 4, 2) := by decide +kernel
theorem dX7_whyNot_145 : decode cX7_whyNot 145 = .ok (.iadd, 1) := by decide +kernel
theorem dX7_whyNot_146 : decode cX7_whyNot 146 = .ok (.bipush 99, 2) := by decide +kernel
theorem dX7_whyNot_148 : decode cX7_whyNot 148 = .ok (.if_icmp .gt 7, 3) := by decide +kernel
theorem dX7_whyNot_151 : decode cX7_whyNot 151 = .ok (.iconst 1, 1) := by decide +kernel
theorem dX7_whyNot_152 : decode cX7_whyNot 152 = .ok (.goto 4, 3) := by decide +kernel
theorem dX7_whyNot_155 : decode cX7_whyNot 155 = .ok (.iconst 0, 1) := by decide +kernel
theorem dX7_whyNot_156 : decode cX7_whyNot 156 = .ok (.istore 5, 2) := by decide +kernel
theorem dX7_whyNot_158 : decode cX7_whyNot 158 = .ok (.iload 5, 2) := by decide +kernel
theorem dX7_whyNot_160 : decode cX7_whyNot 160 = .ok (.ifCond .eq 7, 3) := by decide +kernel
theorem dX7_whyNot_163 : decode cX7_whyNot 163 = .ok (.iconst 0, 1) := by decide +kernel
theorem dX7_whyNot_164 : decode cX7_whyNot 164 = .ok (.goto 4, 3) := by decide +kernel
theorem dX7_whyNot_167 : decode cX7_whyNot 167 = .ok (.iconst 3, 1) := by decide +kernel
theorem dX7_whyNot_168 : decode cX7_whyNot 168 = .ok (.ireturn, 1) := by decide +kernel
theorem dX7_addOrder_0 : decode cX7_addOrder 0 = .ok (.aload_n 0, 1) := by decide +kernel
theorem dX7_addOrder_1 : decode cX7_addOrder 1 = .ok (.bipush 8, 2) := by decide +kernel
theorem dX7_addOrder_3 : decode cX7_addOrder 3 = .ok (.iaload, 1) := by decide +kernel
theorem dX7_addOrder_4 : decode cX7_addOrder 4 = .ok (.invokestatic 119, 3) := by decide +kernel
theorem dX7_addOrder_7 : decode cX7_addOrder 7 = .ok (.istore 5, 2) := by decide +kernel
theorem dX7_addOrder_9 : decode cX7_addOrder 9 = .ok (.iload_n 2, 1) := by decide +kernel
theorem dX7_addOrder_10 : decode cX7_addOrder 10 = .ok (.ifCond .ne 18, 3) := by decide +kernel
theorem dX7_addOrder_13 : decode cX7_addOrder 13 = .ok (.aload_n 0, 1) := by decide +kernel
theorem dX7_addOrder_14 : decode cX7_addOrder 14 = .ok (.iload_n 1, 1) := by decide +kernel
theorem dX7_addOrder_15 : decode cX7_addOrder 15 = .ok (.invokestatic 90, 3) := by decide +kernel
theorem dX7_addOrder_18 : decode cX7_addOrder 18 = .ok (.iconst 4, 1) := by decide +kernel
theorem dX7_addOrder_19 : decode cX7_addOrder 19 = .ok (.iadd, 1) := by decide +kernel
theorem dX7_addOrder_20 : decode cX7_addOrder 20 = .ok (.dup2, 1) := by decide +kernel
theorem dX7_addOrder_21 : decode cX7_addOrder 21 = .ok (.iaload, 1) := by decide +kernel
theorem dX7_addOrder_22 : decode cX7_addOrder 22 = .ok (.iload_n 3, 1) := by decide +kernel
theorem dX7_addOrder_23 : decode cX7_addOrder 23 = .ok (.iload 4, 2) := by decide +kernel
theorem dX7_addOrder_25 : decode cX7_addOrder 25 = .ok (.imul, 1) := by decide +kernel
theorem dX7_addOrder_26 : decode cX7_addOrder 26 = .ok (.isub, 1) := by decide +kernel
theorem dX7_addOrder_27 : decode cX7_addOrder 27 = .ok (.iastore, 1) := by decide +kernel
theorem dX7_addOrder_28 : decode cX7_addOrder 28 = .ok (.iload_n 2, 1) := by decide +kernel
theorem dX7_addOrder_29 : decode cX7_addOrder 29 = .ok (.iconst 1, 1) := by decide +kernel
theorem dX7_addOrder_30 : decode cX7_addOrder 30 = .ok (.if_icmp .ne 11, 3) := by decide +kernel
theorem dX7_addOrder_33 : decode cX7_addOrder 33 = .ok (.aload_n 0, 1) := by decide +kernel
theorem dX7_addOrder_34 : decode cX7_addOrder 34 = .ok (.iload_n 1, 1) := by decide +kernel
theorem dX7_addOrder_35 : decode cX7_addOrder 35 = .ok (.iload 4, 2) := by decide +kernel
theorem dX7_addOrder_37 : decode cX7_addOrder 37 = .ok (.invokestatic 182, 3) := by decide +kernel
theorem dX7_addOrder_40 : decode cX7_addOrder 40 = .ok (.pop, 1) := by decide +kernel
theorem dX7_addOrder_41 : decode cX7_addOrder 41 = .ok (.aload_n 0, 1) := by decide +kernel
theorem dX7_addOrder_42 : decode cX7_addOrder 42 = .ok (.iload 5, 2) := by decide +kernel
theorem dX7_addOrder_44 : decode cX7_addOrder 44 = .ok (.iconst 0, 1) := by decide +kernel
theorem dX7_addOrder_45 : decode cX7_addOrder 45 = .ok (.iadd, 1) := by decide +kernel
theorem dX7_addOrder_46 : decode cX7_addOrder 46 = .ok (.iload_n 1, 1) := by decide +kernel
theorem dX7_addOrder_47 : decode cX7_addOrder 47 = .ok (.iastore, 1) := by decide +kernel
theorem dX7_addOrder_48 : decode cX7_addOrder 48 = .ok (.aload_n 0, 1) := by decide +kernel
theorem dX7_addOrder_49 : decode cX7_addOrder 49 = .ok (.iload 5, 2) := by decide +kernel
theorem dX7_addOrder_51 : decode cX7_addOrder 51 = .ok (.iconst 1, 1) := by decide +kernel
theorem dX7_addOrder_52 : decode cX7_addOrder 52 = .ok (.iadd, 1) := by decide +kernel
theorem dX7_addOrder_53 : decode cX7_addOrder 53 = .ok (.iload_n 2, 1) := by decide +kernel
theorem dX7_addOrder_54 : decode cX7_addOrder 54 = .ok (.iastore, 1) := by decide +kernel
theorem dX7_addOrder_55 : decode cX7_addOrder 55 = .ok (.aload_n 0, 1) := by decide +kernel
theorem dX7_addOrder_56 : decode cX7_addOrder 56 = .ok (.iload 5, 2) := by decide +kernel
theorem dX7_addOrder_58 : decode cX7_addOrder 58 = .ok (.iconst 2, 1) := by decide +kernel
theorem dX7_addOrder_59 : decode cX7_addOrder 59 = .ok (.iadd, 1) := by decide +kernel
theorem dX7_addOrder_60 : decode cX7_addOrder 60 = .ok (.iload_n 3, 1) := by decide +kernel
theorem dX7_addOrder_61 : decode cX7_addOrder 61 = .ok (.iastore, 1) := by decide +kernel
theorem dX7_addOrder_62 : decode cX7_addOrder 62 = .ok (.aload_n 0, 1) := by decide +kernel
theorem dX7_addOrder_63 : decode cX7_addOrder 63 = .ok (.iload 5, 2) := by decide +kernel
theorem dX7_addOrder_65 : decode cX7_addOrder 65 = .ok (.iconst 3, 1) := by decide +kernel
theorem dX7_addOrder_66 : decode cX7_addOrder 66 = .ok (.iadd, 1) := by decide +kernel
theorem dX7_addOrder_67 : decode cX7_addOrder 67 = .ok (.iload 4, 2) := by decide +kernel
theorem dX7_addOrder_69 : decode cX7_addOrder 69 = .ok (.iastore, 1) := by decide +kernel
theorem dX7_addOrder_70 : decode cX7_addOrder 70 = .ok (.aload_n 0, 1) := by decide +kernel
theorem dX7_addOrder_71 : decode cX7_addOrder 71 = .ok (.bipush 8, 2) := by decide +kernel
theorem dX7_addOrder_73 : decode cX7_addOrder 73 = .ok (.dup2, 1) := by decide +kernel
theorem dX7_addOrder_74 : decode cX7_addOrder 74 = .ok (.iaload, 1) := by decide +kernel
theorem dX7_addOrder_75 : decode cX7_addOrder 75 = .ok (.iconst 1, 1) := by decide +kernel
theorem dX7_addOrder_76 : decode cX7_addOrder 76 = .ok (.iadd, 1) := by decide +kernel
theorem dX7_addOrder_77 : decode cX7_addOrder 77 = .ok (.iastore, 1) := by decide +kernel
theorem dX7_addOrder_78 : decode cX7_addOrder 78 = .ok (.aload_n 0, 1) := by decide +kernel
theorem dX7_addOrder_79 : decode cX7_addOrder 79 = .ok (.bipush 8, 2) := by decide +kernel
theorem dX7_addOrder_81 : decode cX7_addOrder 81 = .ok (.iaload, 1) := by decide +kernel
theorem dX7_addOrder_82 : decode cX7_addOrder 82 = .ok (.iconst 1, 1) := by decide +kernel
theorem dX7_addOrder_83 : decode cX7_addOrder 83 = .ok (.isub, 1) := by decide +kernel
theorem dX7_addOrder_84 : decode cX7_addOrder 84 = .ok (.ireturn, 1) := by decide +kernel
theorem dX7_orderBy_0 : decode cX7_orderBy 0 = .ok (.aload_n 0, 1) := by decide +kernel
theorem dX7_orderBy_1 : decode cX7_orderBy 1 = .ok (.aload_n 0, 1) := by decide +kernel
theorem dX7_orderBy_2 : decode cX7_orderBy 2 = .ok (.getfield 7, 3) := by decide +kernel
theorem dX7_orderBy_5 : decode cX7_orderBy 5 = .ok (.iload_n 1, 1) := by decide +kernel
theorem dX7_orderBy_6 : decode cX7_orderBy 6 = .ok (.iload_n 2, 1) := by decide +kernel
theorem dX7_orderBy_7 : decode cX7_orderBy 7 = .ok (.iload_n 3, 1) := by decide +kernel
theorem dX7_orderBy_8 : decode cX7_orderBy 8 = .ok (.iload 4, 2) := by decide +kernel
theorem dX7_orderBy_10 : decode cX7_orderBy 10 = .ok (.invokestatic 208, 3) := by decide +kernel
theorem dX7_orderBy_13 : decode cX7_orderBy 13 = .ok (.invokevirtual 74, 3) := by decide +kernel
theorem dX7_orderBy_16 : decode cX7_orderBy 16 = .ok (.ifCond .eq 5, 3) := by decide +kernel
theorem dX7_orderBy_19 : decode cX7_orderBy 19 = .ok (.iconst 0, 1) := by decide +kernel
theorem dX7_orderBy_20 : decode cX7_orderBy 20 = .ok (.ireturn, 1) := by decide +kernel
theorem dX7_orderBy_21 : decode cX7_orderBy 21 = .ok (.aload_n 0, 1) := by decide +kernel
theorem dX7_orderBy_22 : decode cX7_orderBy 22 = .ok (.invokevirtual 212, 3) := by decide +kernel
theorem dX7_orderBy_25 : decode cX7_orderBy 25 = .ok (.aload_n 0, 1) := by decide +kernel
theorem dX7_orderBy_26 : decode cX7_orderBy 26 = .ok (.getfield 7, 3) := by decide +kernel
theorem dX7_orderBy_29 : decode cX7_orderBy 29 = .ok (.iload_n 1, 1) := by decide +kernel
theorem dX7_orderBy_30 : decode cX7_orderBy 30 = .ok (.iload_n 2, 1) := by decide +kernel
theorem dX7_orderBy_31 : decode cX7_orderBy 31 = .ok (.iload_n 3, 1) := by decide +kernel
theorem dX7_orderBy_32 : decode cX7_orderBy 32 = .ok (.iload 4, 2) := by decide +kernel
theorem dX7_orderBy_34 : decode cX7_orderBy 34 = .ok (.invokestatic 215, 3) := by decide +kernel
theorem dX7_orderBy_37 : decode cX7_orderBy 37 = .ok (.ireturn, 1) := by decide +kernel
theorem dX7_bid_0 : decode cX7_bid 0 = .ok (.aload_n 0, 1) := by decide +kernel
theorem dX7_bid_1 : decode cX7_bid 1 = .ok (.iload_n 1, 1) := by decide +kernel
theorem dX7_bid_2 : decode cX7_bid 2 = .ok (.iconst 0, 1) := by decide +kernel
theorem dX7_bid_3 : decode cX7_bid 3 = .ok (.iload_n 2, 1) := by decide +kernel
theorem dX7_bid_4 : decode cX7_bid 4 = .ok (.iload_n 3, 1) := by decide +kernel
theorem dX7_bid_5 : decode cX7_bid 5 = .ok (.invokevirtual 218, 3) := by decide +kernel
theorem dX7_bid_8 : decode cX7_bid 8 = .ok (.ireturn, 1) := by decide +kernel
theorem dX7_ask_0 : decode cX7_ask 0 = .ok (.aload_n 0, 1) := by decide +kernel
theorem dX7_ask_1 : decode cX7_ask 1 = .ok (.iload_n 1, 1) := by decide +kernel
theorem dX7_ask_2 : decode cX7_ask 2 = .ok (.iconst 1, 1) := by decide +kernel
theorem dX7_ask_3 : decode cX7_ask 3 = .ok (.iload_n 2, 1) := by decide +kernel
theorem dX7_ask_4 : decode cX7_ask 4 = .ok (.iload_n 3, 1) := by decide +kernel
theorem dX7_ask_5 : decode cX7_ask 5 = .ok (.invokevirtual 218, 3) := by decide +kernel
theorem dX7_ask_8 : decode cX7_ask 8 = .ok (.ireturn, 1) := by decide +kernel
theorem dX7_askShort_0 : decode cX7_askShort 0 = .ok (.aload_n 0, 1) := by decide +kernel
theorem dX7_askShort_1 : decode cX7_askShort 1 = .ok (.iload_n 1, 1) := by decide +kernel
theorem dX7_askShort_2 : decode cX7_askShort 2 = .ok (.iconst 2, 1) := by decide +kernel
theorem dX7_askShort_3 : decode cX7_askShort 3 = .ok (.iload_n 2, 1) := by decide +kernel
theorem dX7_askShort_4 : decode cX7_askShort 4 = .ok (.iload_n 3, 1) := by decide +kernel
theorem dX7_askShort_5 : decode cX7_askShort 5 = .ok (.invokevirtual 218, 3) := by decide +kernel
theorem dX7_askShort_8 : decode cX7_askShort 8 = .ok (.ireturn, 1) := by decide +kernel
theorem dX7_withdraw_0 : decode cX7_withdraw 0 = .ok (.aload_n 0, 1) := by decide +kernel
theorem dX7_withdraw_1 : decode cX7_withdraw 1 = .ok (.aload_n 0, 1) := by decide +kernel
theorem dX7_withdraw_2 : decode cX7_withdraw 2 = .ok (.iload_n 1, 1) := by decide +kernel
theorem dX7_withdraw_3 : decode cX7_withdraw 3 = .ok (.invokevirtual 141, 3) := by decide +kernel
theorem dX7_withdraw_6 : decode cX7_withdraw 6 = .ok (.ifCond .eq 7, 3) := by decide +kernel
theorem dX7_withdraw_9 : decode cX7_withdraw 9 = .ok (.iconst 0, 1) := by decide +kernel
theorem dX7_withdraw_10 : decode cX7_withdraw 10 = .ok (.goto 4, 3) := by decide +kernel
theorem dX7_withdraw_13 : decode cX7_withdraw 13 = .ok (.iconst 1, 1) := by decide +kernel
theorem dX7_withdraw_14 : decode cX7_withdraw 14 = .ok (.invokevirtual 74, 3) := by decide +kernel
theorem dX7_withdraw_17 : decode cX7_withdraw 17 = .ok (.ifCond .eq 5, 3) := by decide +kernel
theorem dX7_withdraw_20 : decode cX7_withdraw 20 = .ok (.iconst 0, 1) := by decide +kernel
theorem dX7_withdraw_21 : decode cX7_withdraw 21 = .ok (.ireturn, 1) := by decide +kernel
theorem dX7_withdraw_22 : decode cX7_withdraw 22 = .ok (.aload_n 0, 1) := by decide +kernel
theorem dX7_withdraw_23 : decode cX7_withdraw 23 = .ok (.invokevirtual 212, 3) := by decide +kernel
theorem dX7_withdraw_26 : decode cX7_withdraw 26 = .ok (.aload_n 0, 1) := by decide +kernel
theorem dX7_withdraw_27 : decode cX7_withdraw 27 = .ok (.getfield 7, 3) := by decide +kernel
theorem dX7_withdraw_30 : decode cX7_withdraw 30 = .ok (.iload_n 1, 1) := by decide +kernel
theorem dX7_withdraw_31 : decode cX7_withdraw 31 = .ok (.invokestatic 119, 3) := by decide +kernel
theorem dX7_withdraw_34 : decode cX7_withdraw 34 = .ok (.iconst 3, 1) := by decide +kernel
theorem dX7_withdraw_35 : decode cX7_withdraw 35 = .ok (.iadd, 1) := by decide +kernel
theorem dX7_withdraw_36 : decode cX7_withdraw 36 = .ok (.iaload, 1) := by decide +kernel
theorem dX7_withdraw_37 : decode cX7_withdraw 37 = .ok (.istore_n 2, 1) := by decide +kernel
theorem dX7_withdraw_38 : decode cX7_withdraw 38 = .ok (.aload_n 0, 1) := by decide +kernel
theorem dX7_withdraw_39 : decode cX7_withdraw 39 = .ok (.getfield 7, 3) := by decide +kernel
theorem dX7_withdraw_42 : decode cX7_withdraw 42 = .ok (.iload_n 1, 1) := by decide +kernel
theorem dX7_withdraw_43 : decode cX7_withdraw 43 = .ok (.invokestatic 188, 3) := by decide +kernel
theorem dX7_withdraw_46 : decode cX7_withdraw 46 = .ok (.iload_n 2, 1) := by decide +kernel
theorem dX7_withdraw_47 : decode cX7_withdraw 47 = .ok (.ireturn, 1) := by decide +kernel
theorem dX7_whyNotPushed_0 : decode cX7_whyNotPushed 0 = .ok (.aload_n 0, 1) := by decide +kernel
theorem dX7_whyNotPushed_1 : decode cX7_whyNotPushed 1 = .ok (.iload_n 1, 1) := by decide +kernel
theorem dX7_whyNotPushed_2 : decode cX7_whyNotPushed 2 = .ok (.invokestatic 94, 3) := by decide +kernel
theorem dX7_whyNotPushed_5 : decode cX7_whyNotPushed 5 = .ok (.ifCond .ne 7, 3) := by decide +kernel
theorem dX7_whyNotPushed_8 : decode cX7_whyNotPushed 8 = .ok (.iconst 1, 1) := by decide +kernel
theorem dX7_whyNotPushed_9 : decode cX7_whyNotPushed 9 = .ok (.goto 38, 3) := by decide +kernel
theorem dX7_whyNotPushed_12 : decode cX7_whyNotPushed 12 = .ok (.iload_n 2, 1) := by decide +kernel
theorem dX7_whyNotPushed_13 : decode cX7_whyNotPushed 13 = .ok (.i2l, 1) := by decide +kernel
theorem dX7_whyNotPushed_14 : decode cX7_whyNotPushed 14 = .ok (.lconst 1, 1) := by decide +kernel
theorem dX7_whyNotPushed_15 : decode cX7_whyNotPushed 15 = .ok (.ldc2_w 206, 3) := by decide +kernel
theorem dX7_whyNotPushed_18 : decode cX7_whyNotPushed 18 = .ok (.invokestatic 65, 3) := by decide +kernel
theorem dX7_whyNotPushed_21 : decode cX7_whyNotPushed 21 = .ok (.ifCond .ne 7, 3) := by decide +kernel
theorem dX7_whyNotPushed_24 : decode cX7_whyNotPushed 24 = .ok (.iconst 2, 1) := by decide +kernel
theorem dX7_whyNotPushed_25 : decode cX7_whyNotPushed 25 = .ok (.goto 22, 3) := by decide +kernel
theorem dX7_whyNotPushed_28 : decode cX7_whyNotPushed 28 = .ok (.aload_n 0, 1) := by decide +kernel
theorem dX7_whyNotPushed_29 : decode cX7_whyNotPushed 29 = .ok (.iload_n 1, 1) := by decide +kernel
theorem dX7_whyNotPushed_30 : decode cX7_whyNotPushed 30 = .ok (.invokestatic 90, 3) := by decide +kernel
theorem dX7_whyNotPushed_33 : decode cX7_whyNotPushed 33 = .ok (.bipush 7, 2) := by decide +kernel
theorem dX7_whyNotPushed_35 : decode cX7_whyNotPushed 35 = .ok (.iadd, 1) := by decide +kernel
theorem dX7_whyNotPushed_36 : decode cX7_whyNotPushed 36 = .ok (.iaload, 1) := by decide +kernel
theorem dX7_whyNotPushed_37 : decode cX7_whyNotPushed 37 = .ok (.bipush 8, 2) := by decide +kernel
theorem dX7_whyNotPushed_39 : decode cX7_whyNotPushed 39 = .ok (.if_icmp .ne 7, 3) := by decide +kernel
theorem dX7_whyNotPushed_42 : decode cX7_whyNotPushed 42 = .ok (.iconst 3, 1) := by decide +kernel
theorem dX7_whyNotPushed_43 : decode cX7_whyNotPushed 43 = .ok (.goto 4, 3) := by decide +kernel
theorem dX7_whyNotPushed_46 : decode cX7_whyNotPushed 46 = .ok (.iconst 0, 1) := by decide +kernel
theorem dX7_whyNotPushed_47 : decode cX7_whyNotPushed 47 = .ok (.ireturn, 1) := by decide +kernel
theorem dX7_pushOn_0 : decode cX7_pushOn 0 = .ok (.iload_n 1, 1) := by decide +kernel
theorem dX7_pushOn_1 : decode cX7_pushOn 1 = .ok (.invokestatic 90, 3) := by decide +kernel
theorem dX7_pushOn_4 : decode cX7_pushOn 4 = .ok (.istore_n 3, 1) := by decide +kernel
theorem dX7_pushOn_5 : decode cX7_pushOn 5 = .ok (.aload_n 0, 1) := by decide +kernel
theorem dX7_pushOn_6 : decode cX7_pushOn 6 = .ok (.iload_n 3, 1) := by decide +kernel
theorem dX7_pushOn_7 : decode cX7_pushOn 7 = .ok (.bipush 8, 2) := by decide +kernel
theorem dX7_pushOn_9 : decode cX7_pushOn 9 = .ok (.iadd, 1) := by decide +kernel
theorem dX7_pushOn_10 : decode cX7_pushOn 10 = .ok (.aload_n 0, 1) := by decide +kernel
theorem dX7_pushOn_11 : decode cX7_pushOn 11 = .ok (.iload_n 3, 1) := by decide +kernel
theorem dX7_pushOn_12 : decode cX7_pushOn 12 = .ok (.bipush 7, 2) := by decide +kernel
theorem dX7_pushOn_14 : decode cX7_pushOn 14 = .ok (.iadd, 1) := by decide +kernel
theorem dX7_pushOn_15 : decode cX7_pushOn 15 = .ok (.iaload, 1) := by decide +kernel
theorem dX7_pushOn_16 : decode cX7_pushOn 16 = .ok (.iadd, 1) := by decide +kernel
theorem dX7_pushOn_17 : decode cX7_pushOn 17 = .ok (.iload_n 2, 1) := by decide +kernel
theorem dX7_pushOn_18 : decode cX7_pushOn 18 = .ok (.iastore, 1) := by decide +kernel
theorem dX7_pushOn_19 : decode cX7_pushOn 19 = .ok (.aload_n 0, 1) := by decide +kernel
theorem dX7_pushOn_20 : decode cX7_pushOn 20 = .ok (.iload_n 3, 1) := by decide +kernel
theorem dX7_pushOn_21 : decode cX7_pushOn 21 = .ok (.bipush 7, 2) := by decide +kernel
theorem dX7_pushOn_23 : decode cX7_pushOn 23 = .ok (.iadd, 1) := by decide +kernel
theorem dX7_pushOn_24 : decode cX7_pushOn 24 = .ok (.dup2, 1) := by decide +kernel
theorem dX7_pushOn_25 : decode cX7_pushOn 25 = .ok (.iaload, 1) := by decide +kernel
theorem dX7_pushOn_26 : decode cX7_pushOn 26 = .ok (.iconst 1, 1) := by decide +kernel
theorem dX7_pushOn_27 : decode cX7_pushOn 27 = .ok (.iadd, 1) := by decide +kernel
theorem dX7_pushOn_28 : decode cX7_pushOn 28 = .ok (.iastore, 1) := by decide +kernel
theorem dX7_pushOn_29 : decode cX7_pushOn 29 = .ok (.aload_n 0, 1) := by decide +kernel
theorem dX7_pushOn_30 : decode cX7_pushOn 30 = .ok (.iload_n 3, 1) := by decide +kernel
theorem dX7_pushOn_31 : decode cX7_pushOn 31 = .ok (.bipush 7, 2) := by decide +kernel
theorem dX7_pushOn_33 : decode cX7_pushOn 33 = .ok (.iadd, 1) := by decide +kernel
theorem dX7_pushOn_34 : decode cX7_pushOn 34 = .ok (.iaload, 1) := by decide +kernel
theorem dX7_pushOn_35 : decode cX7_pushOn 35 = .ok (.ireturn, 1) := by decide +kernel
theorem dX7_push_0 : decode cX7_push 0 = .ok (.aload_n 0, 1) := by decide +kernel
theorem dX7_push_1 : decode cX7_push 1 = .ok (.aload_n 0, 1) := by decide +kernel
theorem dX7_push_2 : decode cX7_push 2 = .ok (.getfield 7, 3) := by decide +kernel
theorem dX7_push_5 : decode cX7_push 5 = .ok (.iload_n 1, 1) := by decide +kernel
theorem dX7_push_6 : decode cX7_push 6 = .ok (.iload_n 2, 1) := by decide +kernel
theorem dX7_push_7 : decode cX7_push 7 = .ok (.invokestatic 222, 3) := by decide +kernel
theorem dX7_push_10 : decode cX7_push 10 = .ok (.invokevirtual 74, 3) := by decide +kernel
theorem dX7_push_13 : decode cX7_push 13 = .ok (.ifCond .eq 5, 3) := by decide +kernel
theorem dX7_push_16 : decode cX7_push 16 = .ok (.iconst 0, 1) := by decide +kernel
theorem dX7_push_17 : decode cX7_push 17 = .ok (.ireturn, 1) := by decide +kernel
theorem dX7_push_18 : decode cX7_push 18 = .ok (.aload_n 0, 1) := by decide +kernel
theorem dX7_push_19 : decode cX7_push 19 = .ok (.invokevirtual 212, 3) := by decide +kernel
theorem dX7_push_22 : decode cX7_push 22 = .ok (.aload_n 0, 1) := by decide +kernel
theorem dX7_push_23 : decode cX7_push 23 = .ok (.getfield 7, 3) := by decide +kernel
theorem dX7_push_26 : decode cX7_push 26 = .ok (.iload_n 1, 1) := by decide +kernel
theorem dX7_push_27 : decode cX7_push 27 = .ok (.iload_n 2, 1) := by decide +kernel
theorem dX7_push_28 : decode cX7_push 28 = .ok (.invokestatic 225, 3) := by decide +kernel
theorem dX7_push_31 : decode cX7_push 31 = .ok (.ireturn, 1) := by decide +kernel
theorem dX7_deposit_0 : decode cX7_deposit 0 = .ok (.aload_n 0, 1) := by decide +kernel
theorem dX7_deposit_1 : decode cX7_deposit 1 = .ok (.aload_n 0, 1) := by decide +kernel
theorem dX7_deposit_2 : decode cX7_deposit 2 = .ok (.getfield 7, 3) := by decide +kernel
theorem dX7_deposit_5 : decode cX7_deposit 5 = .ok (.iload_n 1, 1) := by decide +kernel
theorem dX7_deposit_6 : decode cX7_deposit 6 = .ok (.invokestatic 94, 3) := by decide +kernel
theorem dX7_deposit_9 : decode cX7_deposit 9 = .ok (.ifCond .ne 7, 3) := by decide +kernel
theorem dX7_deposit_12 : decode cX7_deposit 12 = .ok (.iconst 1, 1) := by decide +kernel
theorem dX7_deposit_13 : decode cX7_deposit 13 = .ok (.goto 42, 3) := by decide +kernel
theorem dX7_deposit_16 : decode cX7_deposit 16 = .ok (.iload_n 2, 1) := by decide +kernel
theorem dX7_deposit_17 : decode cX7_deposit 17 = .ok (.i2l, 1) := by decide +kernel
theorem dX7_deposit_18 : decode cX7_deposit 18 = .ok (.lconst 1, 1) := by decide +kernel
theorem dX7_deposit_19 : decode cX7_deposit 19 = .ok (.ldc2_w 228, 3) := by decide +kernel
theorem dX7_deposit_22 : decode cX7_deposit 22 = .ok (.invokestatic 65, 3) := by decide +kernel
theorem dX7_deposit_25 : decode cX7_deposit 25 = .ok (.ifCond .ne 7, 3) := by decide +kernel
theorem dX7_deposit_28 : decode cX7_deposit 28 = .ok (.iconst 2, 1) := by decide +kernel
theorem dX7_deposit_29 : decode cX7_deposit 29 = .ok (.goto 26, 3) := by decide +kernel
theorem dX7_deposit_32 : decode cX7_deposit 32 = .ok (.aload_n 0, 1) := by decide +kernel
theorem dX7_deposit_33 : decode cX7_deposit 33 = .ok (.getfield 7, 3) := by decide +kernel
theorem dX7_deposit_36 : decode cX7_deposit 36 = .ok (.iload_n 1, 1) := by decide +kernel
theorem dX7_deposit_37 : decode cX7_deposit 37 = .ok (.invokestatic 90, 3) := by decide +kernel
theorem dX7_deposit_40 : decode cX7_deposit 40 = .ok (.iconst 4, 1) := by decide +kernel
theorem dX7_deposit_41 : decode cX7_deposit 41 = .ok (.iadd, 1) := by decide +kernel
theorem dX7_deposit_42 : decode cX7_deposit 42 = .ok (.iaload, 1) := by decide +kernel
theorem dX7_deposit_43 : decode cX7_deposit 43 = .ok (.iload_n 2, 1) := by decide +kernel
theorem dX7_deposit_44 : decode cX7_deposit 44 = .ok (.iadd, 1) := by decide +kernel
theorem dX7_deposit_45 : decode cX7_deposit 45 = .ok (.ldc 230, 2) := by decide +kernel
theorem dX7_deposit_47 : decode cX7_deposit 47 = .ok (.if_icmp .le 7, 3) := by decide +kernel
theorem dX7_deposit_50 : decode cX7_deposit 50 = .ok (.iconst 3, 1) := by decide +kernel
theorem dX7_deposit_51 : decode cX7_deposit 51 = .ok (.goto 4, 3) := by decide +kernel
theorem dX7_deposit_54 : decode cX7_deposit 54 = .ok (.iconst 0, 1) := by decide +kernel
theorem dX7_deposit_55 : decode cX7_deposit 55 = .ok (.invokevirtual 74, 3) := by decide +kernel
theorem dX7_deposit_58 : decode cX7_deposit 58 = .ok (.ifCond .eq 5, 3) := by decide +kernel
theorem dX7_deposit_61 : decode cX7_deposit 61 = .ok (.iconst 0, 1) := by decide +kernel
theorem dX7_deposit_62 : decode cX7_deposit 62 = .ok (.ireturn, 1) := by decide +kernel
theorem dX7_deposit_63 : decode cX7_deposit 63 = .ok (.aload_n 0, 1) := by decide +kernel
theorem dX7_deposit_64 : decode cX7_deposit 64 = .ok (.invokevirtual 212, 3) := by decide +kernel
theorem dX7_deposit_67 : decode cX7_deposit 67 = .ok (.aload_n 0, 1) := by decide +kernel
theorem dX7_deposit_68 : decode cX7_deposit 68 = .ok (.getfield 7, 3) := by decide +kernel
theorem dX7_deposit_71 : decode cX7_deposit 71 = .ok (.iload_n 1, 1) := by decide +kernel
theorem dX7_deposit_72 : decode cX7_deposit 72 = .ok (.invokestatic 90, 3) := by decide +kernel
theorem dX7_deposit_75 : decode cX7_deposit 75 = .ok (.iconst 4, 1) := by decide +kernel
theorem dX7_deposit_76 : decode cX7_deposit 76 = .ok (.iadd, 1) := by decide +kernel
theorem dX7_deposit_77 : decode cX7_deposit 77 = .ok (.dup2, 1) := by decide +kernel
theorem dX7_deposit_78 : decode cX7_deposit 78 = .ok (.iaload, 1) := by decide +kernel
theorem dX7_deposit_79 : decode cX7_deposit 79 = .ok (.iload_n 2, 1) := by decide +kernel
theorem dX7_deposit_80 : decode cX7_deposit 80 = .ok (.iadd, 1) := by decide +kernel
theorem dX7_deposit_81 : decode cX7_deposit 81 = .ok (.iastore, 1) := by decide +kernel
theorem dX7_deposit_82 : decode cX7_deposit 82 = .ok (.aload_n 0, 1) := by decide +kernel
theorem dX7_deposit_83 : decode cX7_deposit 83 = .ok (.getfield 7, 3) := by decide +kernel
theorem dX7_deposit_86 : decode cX7_deposit 86 = .ok (.iload_n 1, 1) := by decide +kernel
theorem dX7_deposit_87 : decode cX7_deposit 87 = .ok (.invokestatic 90, 3) := by decide +kernel
theorem dX7_deposit_90 : decode cX7_deposit 90 = .ok (.iconst 4, 1) := by decide +kernel
theorem dX7_deposit_91 : decode cX7_deposit 91 = .ok (.iadd, 1) := by decide +kernel
theorem dX7_deposit_92 : decode cX7_deposit 92 = .ok (.iaload, 1) := by decide +kernel
theorem dX7_deposit_93 : decode cX7_deposit 93 = .ok (.ireturn, 1) := by decide +kernel
theorem dX7_tick_0 : decode cX7_tick 0 = .ok (.aload_n 0, 1) := by decide +kernel
theorem dX7_tick_1 : decode cX7_tick 1 = .ok (.iload_n 1, 1) := by decide +kernel
theorem dX7_tick_2 : decode cX7_tick 2 = .ok (.i2l, 1) := by decide +kernel
theorem dX7_tick_3 : decode cX7_tick 3 = .ok (.lconst 1, 1) := by decide +kernel
theorem dX7_tick_4 : decode cX7_tick 4 = .ok (.ldc2_w 231, 3) := by decide +kernel
theorem dX7_tick_7 : decode cX7_tick 7 = .ok (.invokestatic 65, 3) := by decide +kernel
theorem dX7_tick_10 : decode cX7_tick 10 = .ok (.ifCond .eq 7, 3) := by decide +kernel
theorem dX7_tick_13 : decode cX7_tick 13 = .ok (.iconst 0, 1) := by decide +kernel
theorem dX7_tick_14 : decode cX7_tick 14 = .ok (.goto 4, 3) := by decide +kernel
theorem dX7_tick_17 : decode cX7_tick 17 = .ok (.iconst 1, 1) := by decide +kernel
theorem dX7_tick_18 : decode cX7_tick 18 = .ok (.invokevirtual 74, 3) := by decide +kernel
theorem dX7_tick_21 : decode cX7_tick 21 = .ok (.ifCond .eq 5, 3) := by decide +kernel
theorem dX7_tick_24 : decode cX7_tick 24 = .ok (.iconst 0, 1) := by decide +kernel
theorem dX7_tick_25 : decode cX7_tick 25 = .ok (.ireturn, 1) := by decide +kernel
theorem dX7_tick_26 : decode cX7_tick 26 = .ok (.aload_n 0, 1) := by decide +kernel
theorem dX7_tick_27 : decode cX7_tick 27 = .ok (.invokevirtual 212, 3) := by decide +kernel
theorem dX7_tick_30 : decode cX7_tick 30 = .ok (.aload_n 0, 1) := by decide +kernel
theorem dX7_tick_31 : decode cX7_tick 31 = .ok (.aload_n 0, 1) := by decide +kernel
theorem dX7_tick_32 : decode cX7_tick 32 = .ok (.getfield 7, 3) := by decide +kernel
theorem dX7_tick_35 : decode cX7_tick 35 = .ok (.iload_n 1, 1) := by decide +kernel
theorem dX7_tick_36 : decode cX7_tick 36 = .ok (.invokevirtual 233, 3) := by decide +kernel
theorem dX7_tick_39 : decode cX7_tick 39 = .ok (.ireturn, 1) := by decide +kernel
theorem dX7_setRate_0 : decode cX7_setRate 0 = .ok (.aload_n 0, 1) := by decide +kernel
theorem dX7_setRate_1 : decode cX7_setRate 1 = .ok (.aload_n 0, 1) := by decide +kernel
theorem dX7_setRate_2 : decode cX7_setRate 2 = .ok (.getfield 7, 3) := by decide +kernel
theorem dX7_setRate_5 : decode cX7_setRate 5 = .ok (.iload_n 1, 1) := by decide +kernel
theorem dX7_setRate_6 : decode cX7_setRate 6 = .ok (.invokestatic 94, 3) := by decide +kernel
theorem dX7_setRate_9 : decode cX7_setRate 9 = .ok (.ifCond .ne 7, 3) := by decide +kernel
theorem dX7_setRate_12 : decode cX7_setRate 12 = .ok (.iconst 1, 1) := by decide +kernel
theorem dX7_setRate_13 : decode cX7_setRate 13 = .ok (.goto 20, 3) := by decide +kernel
theorem dX7_setRate_16 : decode cX7_setRate 16 = .ok (.iload_n 2, 1) := by decide +kernel
theorem dX7_setRate_17 : decode cX7_setRate 17 = .ok (.i2l, 1) := by decide +kernel
theorem dX7_setRate_18 : decode cX7_setRate 18 = .ok (.lconst 0, 1) := by decide +kernel
theorem dX7_setRate_19 : decode cX7_setRate 19 = .ok (.ldc2_w 206, 3) := by decide +kernel
theorem dX7_setRate_22 : decode cX7_setRate 22 = .ok (.invokestatic 65, 3) := by decide +kernel
theorem dX7_setRate_25 : decode cX7_setRate 25 = .ok (.ifCond .ne 7, 3) := by decide +kernel
theorem dX7_setRate_28 : decode cX7_setRate 28 = .ok (.iconst 2, 1) := by decide +kernel
theorem dX7_setRate_29 : decode cX7_setRate 29 = .ok (.goto 4, 3) := by decide +kernel
theorem dX7_setRate_32 : decode cX7_setRate 32 = .ok (.iconst 0, 1) := by decide +kernel
theorem dX7_setRate_33 : decode cX7_setRate 33 = .ok (.invokevirtual 74, 3) := by decide +kernel
theorem dX7_setRate_36 : decode cX7_setRate 36 = .ok (.ifCond .eq 5, 3) := by decide +kernel
theorem dX7_setRate_39 : decode cX7_setRate 39 = .ok (.iconst 0, 1) := by decide +kernel
theorem dX7_setRate_40 : decode cX7_setRate 40 = .ok (.ireturn, 1) := by decide +kernel
theorem dX7_setRate_41 : decode cX7_setRate 41 = .ok (.aload_n 0, 1) := by decide +kernel
theorem dX7_setRate_42 : decode cX7_setRate 42 = .ok (.invokevirtual 212, 3) := by decide +kernel
theorem dX7_setRate_45 : decode cX7_setRate 45 = .ok (.aload_n 0, 1) := by decide +kernel
theorem dX7_setRate_46 : decode cX7_setRate 46 = .ok (.getfield 7, 3) := by decide +kernel
theorem dX7_setRate_49 : decode cX7_setRate 49 = .ok (.iload_n 1, 1) := by decide +kernel
theorem dX7_setRate_50 : decode cX7_setRate 50 = .ok (.invokestatic 90, 3) := by decide +kernel
theorem dX7_setRate_53 : decode cX7_setRate 53 = .ok (.iconst 1, 1) := by decide +kernel
theorem dX7_setRate_54 : decode cX7_setRate 54 = .ok (.iadd, 1) := by decide +kernel
theorem dX7_setRate_55 : decode cX7_setRate 55 = .ok (.iaload, 1) := by decide +kernel
theorem dX7_setRate_56 : decode cX7_setRate 56 = .ok (.istore_n 3, 1) := by decide +kernel
theorem dX7_setRate_57 : decode cX7_setRate 57 = .ok (.aload_n 0, 1) := by decide +kernel
theorem dX7_setRate_58 : decode cX7_setRate 58 = .ok (.getfield 7, 3) := by decide +kernel
theorem dX7_setRate_61 : decode cX7_setRate 61 = .ok (.iload_n 1, 1) := by decide +kernel
theorem dX7_setRate_62 : decode cX7_setRate 62 = .ok (.invokestatic 90, 3) := by decide +kernel
theorem dX7_setRate_65 : decode cX7_setRate 65 = .ok (.iconst 1, 1) := by decide +kernel
theorem dX7_setRate_66 : decode cX7_setRate 66 = .ok (.iadd, 1) := by decide +kernel
theorem dX7_setRate_67 : decode cX7_setRate 67 = .ok (.iload_n 2, 1) := by decide +kernel
theorem dX7_setRate_68 : decode cX7_setRate 68 = .ok (.iastore, 1) := by decide +kernel
theorem dX7_setRate_69 : decode cX7_setRate 69 = .ok (.iload_n 3, 1) := by decide +kernel
theorem dX7_setRate_70 : decode cX7_setRate 70 = .ok (.ireturn, 1) := by decide +kernel
theorem dX7_setWidth_0 : decode cX7_setWidth 0 = .ok (.aload_n 0, 1) := by decide +kernel
theorem dX7_setWidth_1 : decode cX7_setWidth 1 = .ok (.iload_n 1, 1) := by decide +kernel
theorem dX7_setWidth_2 : decode cX7_setWidth 2 = .ok (.i2l, 1) := by decide +kernel
theorem dX7_setWidth_3 : decode cX7_setWidth 3 = .ok (.lconst 1, 1) := by decide +kernel
theorem dX7_setWidth_4 : decode cX7_setWidth 4 = .ok (.ldc2_w 236, 3) := by decide +kernel
theorem dX7_setWidth_7 : decode cX7_setWidth 7 = .ok (.invokestatic 65, 3) := by decide +kernel
theorem dX7_setWidth_10 : decode cX7_setWidth 10 = .ok (.ifCond .eq 7, 3) := by decide +kernel
theorem dX7_setWidth_13 : decode cX7_setWidth 13 = .ok (.iconst 0, 1) := by decide +kernel
theorem dX7_setWidth_14 : decode cX7_setWidth 14 = .ok (.goto 4, 3) := by decide +kernel
theorem dX7_setWidth_17 : decode cX7_setWidth 17 = .ok (.iconst 1, 1) := by decide +kernel
theorem dX7_setWidth_18 : decode cX7_setWidth 18 = .ok (.invokevirtual 74, 3) := by decide +kernel
theorem dX7_setWidth_21 : decode cX7_setWidth 21 = .ok (.ifCond .eq 5, 3) := by decide +kernel
theorem dX7_setWidth_24 : decode cX7_setWidth 24 = .ok (.iconst 0, 1) := by decide +kernel
theorem dX7_setWidth_25 : decode cX7_setWidth 25 = .ok (.ireturn, 1) := by decide +kernel
theorem dX7_setWidth_26 : decode cX7_setWidth 26 = .ok (.aload_n 0, 1) := by decide +kernel
theorem dX7_setWidth_27 : decode cX7_setWidth 27 = .ok (.invokevirtual 212, 3) := by decide +kernel
theorem dX7_setWidth_30 : decode cX7_setWidth 30 = .ok (.aload_n 0, 1) := by decide +kernel
theorem dX7_setWidth_31 : decode cX7_setWidth 31 = .ok (.getfield 7, 3) := by decide +kernel
theorem dX7_setWidth_34 : decode cX7_setWidth 34 = .ok (.iconst 1, 1) := by decide +kernel
theorem dX7_setWidth_35 : decode cX7_setWidth 35 = .ok (.iaload, 1) := by decide +kernel
theorem dX7_setWidth_36 : decode cX7_setWidth 36 = .ok (.istore_n 2, 1) := by decide +kernel
theorem dX7_setWidth_37 : decode cX7_setWidth 37 = .ok (.aload_n 0, 1) := by decide +kernel
theorem dX7_setWidth_38 : decode cX7_setWidth 38 = .ok (.getfield 7, 3) := by decide +kernel
theorem dX7_setWidth_41 : decode cX7_setWidth 41 = .ok (.iconst 1, 1) := by decide +kernel
theorem dX7_setWidth_42 : decode cX7_setWidth 42 = .ok (.iload_n 1, 1) := by decide +kernel
theorem dX7_setWidth_43 : decode cX7_setWidth 43 = .ok (.iastore, 1) := by decide +kernel
theorem dX7_setWidth_44 : decode cX7_setWidth 44 = .ok (.iload_n 2, 1) := by decide +kernel
theorem dX7_setWidth_45 : decode cX7_setWidth 45 = .ok (.ireturn, 1) := by decide +kernel
