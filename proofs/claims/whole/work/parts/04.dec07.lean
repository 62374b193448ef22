theorem dX7_undo_0 : decode cX7_undo 0 = .ok (.aload_n 0, 1) := by decide +kernel
theorem dX7_undo_1 : decode cX7_undo 1 = .ok (.aload_n 0, 1) := by decide +kernel
theorem dX7_undo_2 : decode cX7_undo 2 = .ok (.getfield 62, 3) := by decide +kernel
theorem dX7_undo_5 : decode cX7_undo 5 = .ok (.ifCond .ne 7, 3) := by decide +kernel
theorem dX7_undo_8 : decode cX7_undo 8 = .ok (.iconst 1, 1) := by decide +kernel
theorem dX7_undo_9 : decode cX7_undo 9 = .ok (.goto 4, 3) := by decide +kernel
theorem dX7_undo_12 : decode cX7_undo 12 = .ok (.iconst 0, 1) := by decide +kernel
theorem dX7_undo_13 : decode cX7_undo 13 = .ok (.invokevirtual 74, 3) := by decide +kernel
theorem dX7_undo_16 : decode cX7_undo 16 = .ok (.ifCond .eq 5, 3) := by decide +kernel
theorem dX7_undo_19 : decode cX7_undo 19 = .ok (.iconst 0, 1) := by decide +kernel
theorem dX7_undo_20 : decode cX7_undo 20 = .ok (.ireturn, 1) := by decide +kernel
theorem dX7_undo_21 : decode cX7_undo 21 = .ok (.aload_n 0, 1) := by decide +kernel
theorem dX7_undo_22 : decode cX7_undo 22 = .ok (.dup, 1) := by decide +kernel
theorem dX7_undo_23 : decode cX7_undo 23 = .ok (.getfield 62, 3) := by decide +kernel
theorem dX7_undo_26 : decode cX7_undo 26 = .ok (.iconst 1, 1) := by decide +kernel
theorem dX7_undo_27 : decode cX7_undo 27 = .ok (.isub, 1) := by decide +kernel
theorem dX7_undo_28 : decode cX7_undo 28 = .ok (.putfield 62, 3) := by decide +kernel
theorem dX7_undo_31 : decode cX7_undo 31 = .ok (.aload_n 0, 1) := by decide +kernel
theorem dX7_undo_32 : decode cX7_undo 32 = .ok (.aload_n 0, 1) := by decide +kernel
theorem dX7_undo_33 : decode cX7_undo 33 = .ok (.getfield 55, 3) := by decide +kernel
theorem dX7_undo_36 : decode cX7_undo 36 = .ok (.bipush 14, 2) := by decide +kernel
theorem dX7_undo_38 : decode cX7_undo 38 = .ok (.iadd, 1) := by decide +kernel
theorem dX7_undo_39 : decode cX7_undo 39 = .ok (.iconst 1, 1) := by decide +kernel
theorem dX7_undo_40 : decode cX7_undo 40 = .ok (.isub, 1) := by decide +kernel
theorem dX7_undo_41 : decode cX7_undo 41 = .ok (.bipush 14, 2) := by decide +kernel
theorem dX7_undo_43 : decode cX7_undo 43 = .ok (.irem, 1) := by decide +kernel
theorem dX7_undo_44 : decode cX7_undo 44 = .ok (.putfield 55, 3) := by decide +kernel
theorem dX7_undo_47 : decode cX7_undo 47 = .ok (.aload_n 0, 1) := by decide +kernel
theorem dX7_undo_48 : decode cX7_undo 48 = .ok (.getfield 16, 3) := by decide +kernel
theorem dX7_undo_51 : decode cX7_undo 51 = .ok (.sipush 1360, 3) := by decide +kernel
theorem dX7_undo_54 : decode cX7_undo 54 = .ok (.aload_n 0, 1) := by decide +kernel
theorem dX7_undo_55 : decode cX7_undo 55 = .ok (.getfield 55, 3) := by decide +kernel
theorem dX7_undo_58 : decode cX7_undo 58 = .ok (.imul, 1) := by decide +kernel
theorem dX7_undo_59 : decode cX7_undo 59 = .ok (.aload_n 0, 1) := by decide +kernel
theorem dX7_undo_60 : decode cX7_undo 60 = .ok (.getfield 7, 3) := by decide +kernel
theorem dX7_undo_63 : decode cX7_undo 63 = .ok (.iconst 0, 1) := by decide +kernel
theorem dX7_undo_64 : decode cX7_undo 64 = .ok (.invokestatic 58, 3) := by decide +kernel
theorem dX7_undo_67 : decode cX7_undo 67 = .ok (.aload_n 0, 1) := by decide +kernel
theorem dX7_undo_68 : decode cX7_undo 68 = .ok (.getfield 62, 3) := by decide +kernel
theorem dX7_undo_71 : decode cX7_undo 71 = .ok (.ireturn, 1) := by decide +kernel
theorem dX7_atLeast_0 : decode cX7_atLeast 0 = .ok (.iconst 0, 1) := by decide +kernel
theorem dX7_atLeast_1 : decode cX7_atLeast 1 = .ok (.istore_n 3, 1) := by decide +kernel
theorem dX7_atLeast_2 : decode cX7_atLeast 2 = .ok (.iconst 0, 1) := by decide +kernel
theorem dX7_atLeast_3 : decode cX7_atLeast 3 = .ok (.istore 4, 2) := by decide +kernel
theorem dX7_atLeast_5 : decode cX7_atLeast 5 = .ok (.iload 4, 2) := by decide +kernel
theorem dX7_atLeast_7 : decode cX7_atLeast 7 = .ok (.aload_n 0, 1) := by decide +kernel
theorem dX7_atLeast_8 : decode cX7_atLeast 8 = .ok (.getfield 7, 3) := by decide +kernel
theorem dX7_atLeast_11 : decode cX7_atLeast 11 = .ok (.bipush 8, 2) := by decide +kernel
theorem dX7_atLeast_13 : decode cX7_atLeast 13 = .ok (.iaload, 1) := by decide +kernel
theorem dX7_atLeast_14 : decode cX7_atLeast 14 = .ok (.if_icmp .ge 98, 3) := by decide +kernel
theorem dX7_atLeast_17 : decode cX7_atLeast 17 = .ok (.iload 4, 2) := by decide +kernel
theorem dX7_atLeast_19 : decode cX7_atLeast 19 = .ok (.invokestatic 119, 3) := by decide +kernel
theorem dX7_atLeast_22 : decode cX7_atLeast 22 = .ok (.istore 5, 2) := by decide +kernel
theorem dX7_atLeast_24 : decode cX7_atLeast 24 = .ok (.aload_n 0, 1) := by decide +kernel
theorem dX7_atLeast_25 : decode cX7_atLeast 25 = .ok (.getfield 7, 3) := by decide +kernel
theorem dX7_atLeast_28 : decode cX7_atLeast 28 = .ok (.iload 5, 2) := by decide +kernel
theorem dX7_atLeast_30 : decode cX7_atLeast 30 = .ok (.iconst 1, 1) := by decide +kernel
theorem dX7_atLeast_31 : decode cX7_atLeast 31 = .ok (.iadd, 1) := by decide +kernel
theorem dX7_atLeast_32 : decode cX7_atLeast 32 = .ok (.iaload, 1) := by decide +kernel
theorem dX7_atLeast_33 : decode cX7_atLeast 33 = .ok (.ifCond .ne 7, 3) := by decide +kernel
theorem dX7_atLeast_36 : decode cX7_atLeast 36 = .ok (.iconst 1, 1) := by decide +kernel
theorem dX7_atLeast_37 : decode cX7_atLeast 37 = .ok (.goto 4, 3) := by decide +kernel
theorem dX7_atLeast_40 : decode cX7_atLeast 40 = .ok (.iconst 0, 1) := by decide +kernel
theorem dX7_atLeast_41 : decode cX7_atLeast 41 = .ok (.iload_n 1, 1) := by decide +kernel
theorem dX7_atLeast_42 : decode cX7_atLeast 42 = .ok (.if_icmp .ne 40, 3) := by decide +kernel
theorem dX7_atLeast_45 : decode cX7_atLeast 45 = .ok (.iload_n 1, 1) := by decide +kernel
theorem dX7_atLeast_46 : decode cX7_atLeast 46 = .ok (.ifCond .eq 19, 3) := by decide +kernel
theorem dX7_atLeast_49 : decode cX7_atLeast 49 = .ok (.aload_n 0, 1) := by decide +kernel
theorem dX7_atLeast_50 : decode cX7_atLeast 50 = .ok (.getfield 7, 3) := by decide +kernel
theorem dX7_atLeast_53 : decode cX7_atLeast 53 = .ok (.iload 5, 2) := by decide +kernel
theorem dX7_atLeast_55 : decode cX7_atLeast 55 = .ok (.iconst 2, 1) := by decide +kernel
theorem dX7_atLeast_56 : decode cX7_atLeast 56 = .ok (.iadd, 1) := by decide +kernel
theorem dX7_atLeast_57 : decode cX7_atLeast 57 = .ok (.iaload, 1) := by decide +kernel
theorem dX7_atLeast_58 : decode cX7_atLeast 58 = .ok (.iload_n 2, 1) := by decide +kernel
theorem dX7_atLeast_59 : decode cX7_atLeast 59 = .ok (.if_icmp .lt 23, 3) := by decide +kernel
theorem dX7_atLeast_62 : decode cX7_atLeast 62 = .ok (.goto 16, 3) := by decide +kernel
theorem dX7_atLeast_65 : decode cX7_atLeast 65 = .ok (.aload_n 0, 1) := by decide +kernel
theorem dX7_atLeast_66 : decode cX7_atLeast 66 = .ok (.getfield 7, 3) := by decide +kernel
theorem dX7_atLeast_69 : decode cX7_atLeast 69 = .ok (.iload 5, 2) := by decide +kernel
theorem dX7_atLeast_71 : decode cX7_atLeast 71 = .ok (.iconst 2, 1) := by decide +kernel
theorem dX7_atLeast_72 : decode cX7_atLeast 72 = .ok (.iadd, 1) := by decide +kernel
theorem dX7_atLeast_73 : decode cX7_atLeast 73 = .ok (.iaload, 1) := by decide +kernel
theorem dX7_atLeast_74 : decode cX7_atLeast 74 = .ok (.iload_n 2, 1) := by decide +kernel
theorem dX7_atLeast_75 : decode cX7_atLeast 75 = .ok (.if_icmp .gt 7, 3) := by decide +kernel
theorem dX7_atLeast_78 : decode cX7_atLeast 78 = .ok (.iconst 1, 1) := by decide +kernel
theorem dX7_atLeast_79 : decode cX7_atLeast 79 = .ok (.goto 4, 3) := by decide +kernel
theorem dX7_atLeast_82 : decode cX7_atLeast 82 = .ok (.iconst 0, 1) := by decide +kernel
theorem dX7_atLeast_83 : decode cX7_atLeast 83 = .ok (.istore 6, 2) := by decide +kernel
theorem dX7_atLeast_85 : decode cX7_atLeast 85 = .ok (.iload_n 3, 1) := by decide +kernel
theorem dX7_atLeast_86 : decode cX7_atLeast 86 = .ok (.iload 6, 2) := by decide +kernel
theorem dX7_atLeast_88 : decode cX7_atLeast 88 = .ok (.ifCond .eq 15, 3) := by decide +kernel
theorem dX7_atLeast_91 : decode cX7_atLeast 91 = .ok (.aload_n 0, 1) := by decide +kernel
theorem dX7_atLeast_92 : decode cX7_atLeast 92 = .ok (.getfield 7, 3) := by decide +kernel
theorem dX7_atLeast_95 : decode cX7_atLeast 95 = .ok (.iload 5, 2) := by decide +kernel
theorem dX7_atLeast_97 : decode cX7_atLeast 97 = .ok (.iconst 3, 1) := by decide +kernel
theorem dX7_atLeast_98 : decode cX7_atLeast 98 = .ok (.iadd, 1) := by decide +kernel
theorem dX7_atLeast_99 : decode cX7_atLeast 99 = .ok (.iaload, 1) := by decide +kernel
theorem dX7_atLeast_100 : decode cX7_atLeast 100 = .ok (.goto 4, 3) := by decide +kernel
theorem dX7_atLeast_103 : decode cX7_atLeast 103 = .ok (.iconst 0, 1) := by decide +kernel
theorem dX7_atLeast_104 : decode cX7_atLeast 104 = .ok (.iadd, 1) := by decide +kernel
theorem dX7_atLeast_105 : decode cX7_atLeast 105 = .ok (.istore_n 3, 1) := by decide +kernel
theorem dX7_atLeast_106 : decode cX7_atLeast 106 = .ok (.iinc 4 1, 3) := by decide +kernel
theorem dX7_atLeast_109 : decode cX7_atLeast 109 = .ok (.goto (-104), 3) := by decide +kernel
theorem dX7_atLeast_112 : decode cX7_atLeast 112 = .ok (.iload_n 3, 1) := by decide +kernel
theorem dX7_atLeast_113 : decode cX7_atLeast 113 = .ok (.ireturn, 1) := by decide +kernel
theorem dX7_demand_0 : decode cX7_demand 0 = .ok (.aload_n 0, 1) := by decide +kernel
theorem dX7_demand_1 : decode cX7_demand 1 = .ok (.iload_n 1, 1) := by decide +kernel
theorem dX7_demand_2 : decode cX7_demand 2 = .ok (.i2l, 1) := by decide +kernel
theorem dX7_demand_3 : decode cX7_demand 3 = .ok (.lconst 1, 1) := by decide +kernel
theorem dX7_demand_4 : decode cX7_demand 4 = .ok (.ldc2_w 206, 3) := by decide +kernel
theorem dX7_demand_7 : decode cX7_demand 7 = .ok (.invokestatic 65, 3) := by decide +kernel
theorem dX7_demand_10 : decode cX7_demand 10 = .ok (.ifCond .eq 7, 3) := by decide +kernel
theorem dX7_demand_13 : decode cX7_demand 13 = .ok (.iconst 0, 1) := by decide +kernel
theorem dX7_demand_14 : decode cX7_demand 14 = .ok (.goto 4, 3) := by decide +kernel
theorem dX7_demand_17 : decode cX7_demand 17 = .ok (.iconst 1, 1) := by decide +kernel
theorem dX7_demand_18 : decode cX7_demand 18 = .ok (.invokevirtual 74, 3) := by decide +kernel
theorem dX7_demand_21 : decode cX7_demand 21 = .ok (.ifCond .eq 5, 3) := by decide +kernel
theorem dX7_demand_24 : decode cX7_demand 24 = .ok (.iconst 0, 1) := by decide +kernel
theorem dX7_demand_25 : decode cX7_demand 25 = .ok (.ireturn, 1) := by decide +kernel
theorem dX7_demand_26 : decode cX7_demand 26 = .ok (.aload_n 0, 1) := by decide +kernel
theorem dX7_demand_27 : decode cX7_demand 27 = .ok (.iconst 1, 1) := by decide +kernel
theorem dX7_demand_28 : decode cX7_demand 28 = .ok (.iload_n 1, 1) := by decide +kernel
theorem dX7_demand_29 : decode cX7_demand 29 = .ok (.invokevirtual 238, 3) := by decide +kernel
theorem dX7_demand_32 : decode cX7_demand 32 = .ok (.ireturn, 1) := by decide +kernel
theorem dX7_supply_0 : decode cX7_supply 0 = .ok (.aload_n 0, 1) := by decide +kernel
theorem dX7_supply_1 : decode cX7_supply 1 = .ok (.iload_n 1, 1) := by decide +kernel
theorem dX7_supply_2 : decode cX7_supply 2 = .ok (.i2l, 1) := by decide +kernel
theorem dX7_supply_3 : decode cX7_supply 3 = .ok (.lconst 1, 1) := by decide +kernel
theorem dX7_supply_4 : decode cX7_supply 4 = .ok (.ldc2_w 206, 3) := by decide +kernel
theorem dX7_supply_7 : decode cX7_supply 7 = .ok (.invokestatic 65, 3) := by decide +kernel
theorem dX7_supply_10 : decode cX7_supply 10 = .ok (.ifCond .eq 7, 3) := by decide +kernel
theorem dX7_supply_13 : decode cX7_supply 13 = .ok (.iconst 0, 1) := by decide +kernel
theorem dX7_supply_14 : decode cX7_supply 14 = .ok (.goto 4, 3) := by decide +kernel
theorem dX7_supply_17 : decode cX7_supply 17 = .ok (.iconst 1, 1) := by decide +kernel
theorem dX7_supply_18 : decode cX7_supply 18 = .ok (.invokevirtual 74, 3) := by decide +kernel
theorem dX7_supply_21 : decode cX7_supply 21 = .ok (.ifCond .eq 5, 3) := by decide +kernel
theorem dX7_supply_24 : decode cX7_supply 24 = .ok (.iconst 0, 1) := by decide +kernel
theorem dX7_supply_25 : decode cX7_supply 25 = .ok (.ireturn, 1) := by decide +kernel
theorem dX7_supply_26 : decode cX7_supply 26 = .ok (.aload_n 0, 1) := by decide +kernel
theorem dX7_supply_27 : decode cX7_supply 27 = .ok (.iconst 0, 1) := by decide +kernel
theorem dX7_supply_28 : decode cX7_supply 28 = .ok (.iload_n 1, 1) := by decide +kernel
theorem dX7_supply_29 : decode cX7_supply 29 = .ok (.invokevirtual 238, 3) := by decide +kernel
theorem dX7_supply_32 : decode cX7_supply 32 = .ok (.ireturn, 1) := by decide +kernel
theorem dX7_goneBy_0 : decode cX7_goneBy 0 = .ok (.iconst 0, 1) := by decide +kernel
theorem dX7_goneBy_1 : decode cX7_goneBy 1 = .ok (.istore_n 1, 1) := by decide +kernel
theorem dX7_goneBy_2 : decode cX7_goneBy 2 = .ok (.iconst 0, 1) := by decide +kernel
theorem dX7_goneBy_3 : decode cX7_goneBy 3 = .ok (.istore_n 2, 1) := by decide +kernel
theorem dX7_goneBy_4 : decode cX7_goneBy 4 = .ok (.iload_n 2, 1) := by decide +kernel
theorem dX7_goneBy_5 : decode cX7_goneBy 5 = .ok (.aload_n 0, 1) := by decide +kernel
theorem dX7_goneBy_6 : decode cX7_goneBy 6 = .ok (.getfield 153, 3) := by decide +kernel
theorem dX7_goneBy_9 : decode cX7_goneBy 9 = .ok (.if_icmp .ge 36, 3) := by decide +kernel
theorem dX7_goneBy_12 : decode cX7_goneBy 12 = .ok (.iload_n 1, 1) := by decide +kernel
theorem dX7_goneBy_13 : decode cX7_goneBy 13 = .ok (.aload_n 0, 1) := by decide +kernel
theorem dX7_goneBy_14 : decode cX7_goneBy 14 = .ok (.getfield 41, 3) := by decide +kernel
theorem dX7_goneBy_17 : decode cX7_goneBy 17 = .ok (.iload_n 2, 1) := by decide +kernel
theorem dX7_goneBy_18 : decode cX7_goneBy 18 = .ok (.iaload, 1) := by decide +kernel
theorem dX7_goneBy_19 : decode cX7_goneBy 19 = .ok (.aload_n 0, 1) := by decide +kernel
theorem dX7_goneBy_20 : decode cX7_goneBy 20 = .ok (.getfield 32, 3) := by decide +kernel
theorem dX7_goneBy_23 : decode cX7_goneBy 23 = .ok (.iconst 4, 1) := by decide +kernel
theorem dX7_goneBy_24 : decode cX7_goneBy 24 = .ok (.iload_n 2, 1) := by decide +kernel
theorem dX7_goneBy_25 : decode cX7_goneBy 25 = .ok (.imul, 1) := by decide +kernel
theorem dX7_goneBy_26 : decode cX7_goneBy 26 = .ok (.iconst 3, 1) := by decide +kernel
theorem dX7_goneBy_27 : decode cX7_goneBy 27 = .ok (.iadd, 1) := by decide +kernel
theorem dX7_goneBy_28 : decode cX7_goneBy 28 = .ok (.iaload, 1) := by decide +kernel
theorem dX7_goneBy_29 : decode cX7_goneBy 29 = .ok (.if_icmp .ne 7, 3) := by decide +kernel
theorem dX7_goneBy_32 : decode cX7_goneBy 32 = .ok (.iconst 1, 1) := by decide +kernel
theorem dX7_goneBy_33 : decode cX7_goneBy 33 = .ok (.goto 4, 3) := by decide +kernel
theorem dX7_goneBy_36 : decode cX7_goneBy 36 = .ok (.iconst 0, 1) := by decide +kernel
theorem dX7_goneBy_37 : decode cX7_goneBy 37 = .ok (.iadd, 1) := by decide +kernel
theorem dX7_goneBy_38 : decode cX7_goneBy 38 = .ok (.istore_n 1, 1) := by decide +kernel
theorem dX7_goneBy_39 : decode cX7_goneBy 39 = .ok (.iinc 2 1, 3) := by decide +kernel
theorem dX7_goneBy_42 : decode cX7_goneBy 42 = .ok (.goto (-38), 3) := by decide +kernel
theorem dX7_goneBy_45 : decode cX7_goneBy 45 = .ok (.iload_n 1, 1) := by decide +kernel
theorem dX7_goneBy_46 : decode cX7_goneBy 46 = .ok (.ireturn, 1) := by decide +kernel
theorem dX7_auction_0 : decode cX7_auction 0 = .ok (.aload_n 0, 1) := by decide +kernel
theorem dX7_auction_1 : decode cX7_auction 1 = .ok (.iload_n 1, 1) := by decide +kernel
theorem dX7_auction_2 : decode cX7_auction 2 = .ok (.i2l, 1) := by decide +kernel
theorem dX7_auction_3 : decode cX7_auction 3 = .ok (.lconst 0, 1) := by decide +kernel
theorem dX7_auction_4 : decode cX7_auction 4 = .ok (.ldc2_w 242, 3) := by decide +kernel
theorem dX7_auction_7 : decode cX7_auction 7 = .ok (.invokestatic 65, 3) := by decide +kernel
theorem dX7_auction_10 : decode cX7_auction 10 = .ok (.ifCond .eq 7, 3) := by decide +kernel
theorem dX7_auction_13 : decode cX7_auction 13 = .ok (.iconst 0, 1) := by decide +kernel
theorem dX7_auction_14 : decode cX7_auction 14 = .ok (.goto 4, 3) := by decide +kernel
theorem dX7_auction_17 : decode cX7_auction 17 = .ok (.iconst 1, 1) := by decide +kernel
theorem dX7_auction_18 : decode cX7_auction 18 = .ok (.invokevirtual 74, 3) := by decide +kernel
theorem dX7_auction_21 : decode cX7_auction 21 = .ok (.ifCond .eq 5, 3) := by decide +kernel
theorem dX7_auction_24 : decode cX7_auction 24 = .ok (.iconst 0, 1) := by decide +kernel
theorem dX7_auction_25 : decode cX7_auction 25 = .ok (.ireturn, 1) := by decide +kernel
theorem dX7_auction_26 : decode cX7_auction 26 = .ok (.aload_n 0, 1) := by decide +kernel
theorem dX7_auction_27 : decode cX7_auction 27 = .ok (.aload_n 0, 1) := by decide +kernel
theorem dX7_auction_28 : decode cX7_auction 28 = .ok (.getfield 7, 3) := by decide +kernel
theorem dX7_auction_31 : decode cX7_auction 31 = .ok (.bipush 63, 2) := by decide +kernel
theorem dX7_auction_33 : decode cX7_auction 33 = .ok (.invokevirtual 146, 3) := by decide +kernel
theorem dX7_auction_36 : decode cX7_auction 36 = .ok (.aload_n 0, 1) := by decide +kernel
theorem dX7_auction_37 : decode cX7_auction 37 = .ok (.invokevirtual 150, 3) := by decide +kernel
theorem dX7_auction_40 : decode cX7_auction 40 = .ok (.iload_n 1, 1) := by decide +kernel
theorem dX7_auction_41 : decode cX7_auction 41 = .ok (.ifCond .ne 10, 3) := by decide +kernel
theorem dX7_auction_44 : decode cX7_auction 44 = .ok (.aload_n 0, 1) := by decide +kernel
theorem dX7_auction_45 : decode cX7_auction 45 = .ok (.getfield 164, 3) := by decide +kernel
theorem dX7_auction_48 : decode cX7_auction 48 = .ok (.goto 31, 3) := by decide +kernel
theorem dX7_auction_51 : decode cX7_auction 51 = .ok (.iload_n 1, 1) := by decide +kernel
theorem dX7_auction_52 : decode cX7_auction 52 = .ok (.iconst 1, 1) := by decide +kernel
theorem dX7_auction_53 : decode cX7_auction 53 = .ok (.if_icmp .ne 10, 3) := by decide +kernel
theorem dX7_auction_56 : decode cX7_auction 56 = .ok (.aload_n 0, 1) := by decide +kernel
theorem dX7_auction_57 : decode cX7_auction 57 = .ok (.getfield 167, 3) := by decide +kernel
theorem dX7_auction_60 : decode cX7_auction 60 = .ok (.goto 19, 3) := by decide +kernel
theorem dX7_auction_63 : decode cX7_auction 63 = .ok (.iload_n 1, 1) := by decide +kernel
theorem dX7_auction_64 : decode cX7_auction 64 = .ok (.iconst 2, 1) := by decide +kernel
theorem dX7_auction_65 : decode cX7_auction 65 = .ok (.if_icmp .ne 10, 3) := by decide +kernel
theorem dX7_auction_68 : decode cX7_auction 68 = .ok (.aload_n 0, 1) := by decide +kernel
theorem dX7_auction_69 : decode cX7_auction 69 = .ok (.getfield 170, 3) := by decide +kernel
theorem dX7_auction_72 : decode cX7_auction 72 = .ok (.goto 7, 3) := by decide +kernel
theorem dX7_auction_75 : decode cX7_auction 75 = .ok (.aload_n 0, 1) := by decide +kernel
theorem dX7_auction_76 : decode cX7_auction 76 = .ok (.invokevirtual 244, 3) := by decide +kernel
theorem dX7_auction_79 : decode cX7_auction 79 = .ok (.ireturn, 1) := by decide +kernel
theorem dX7_volumeIf_0 : decode cX7_volumeIf 0 = .ok (.iload_n 2, 1) := by decide +kernel
theorem dX7_volumeIf_1 : decode cX7_volumeIf 1 = .ok (.i2l, 1) := by decide +kernel
theorem dX7_volumeIf_2 : decode cX7_volumeIf 2 = .ok (.lconst 0, 1) := by decide +kernel
theorem dX7_volumeIf_3 : decode cX7_volumeIf 3 = .ok (.ldc2_w 247, 3) := by decide +kernel
theorem dX7_volumeIf_6 : decode cX7_volumeIf 6 = .ok (.invokestatic 65, 3) := by decide +kernel
theorem dX7_volumeIf_9 : decode cX7_volumeIf 9 = .ok (.ifCond .eq 32, 3) := by decide +kernel
theorem dX7_volumeIf_12 : decode cX7_volumeIf 12 = .ok (.iload_n 3, 1) := by decide +kernel
theorem dX7_volumeIf_13 : decode cX7_volumeIf 13 = .ok (.i2l, 1) := by decide +kernel
theorem dX7_volumeIf_14 : decode cX7_volumeIf 14 = .ok (.lconst 1, 1) := by decide +kernel
theorem dX7_volumeIf_15 : decode cX7_volumeIf 15 = .ok (.ldc2_w 206, 3) := by decide +kernel
theorem dX7_volumeIf_18 : decode cX7_volumeIf 18 = .ok (.invokestatic 65, 3) := by decide +kernel
theorem dX7_volumeIf_21 : decode cX7_volumeIf 21 = .ok (.ifCond .eq 20, 3) := by decide +kernel
theorem dX7_volumeIf_24 : decode cX7_volumeIf 24 = .ok (.iload 4, 2) := by decide +kernel
theorem dX7_volumeIf_26 : decode cX7_volumeIf 26 = .ok (.i2l, 1) := by decide +kernel
theorem dX7_volumeIf_27 : decode cX7_volumeIf 27 = .ok (.lconst 1, 1) := by decide +kernel
theorem dX7_volumeIf_28 : decode cX7_volumeIf 28 = .ok (.ldc2_w 206, 3) := by decide +kernel
theorem dX7_volumeIf_31 : decode cX7_volumeIf 31 = .ok (.invokestatic 65, 3) := by decide +kernel
theorem dX7_volumeIf_34 : decode cX7_volumeIf 34 = .ok (.ifCond .eq 7, 3) := by decide +kernel
theorem dX7_volumeIf_37 : decode cX7_volumeIf 37 = .ok (.iconst 1, 1) := by decide +kernel
theorem dX7_volumeIf_38 : decode cX7_volumeIf 38 = .ok (.goto 4, 3) := by decide +kernel
theorem dX7_volumeIf_41 : decode cX7_volumeIf 41 = .ok (.iconst 0, 1) := by decide +kernel
theorem dX7_volumeIf_42 : decode cX7_volumeIf 42 = .ok (.istore 5, 2) := by decide +kernel
theorem dX7_volumeIf_44 : decode cX7_volumeIf 44 = .ok (.aload_n 0, 1) := by decide +kernel
theorem dX7_volumeIf_45 : decode cX7_volumeIf 45 = .ok (.aload_n 0, 1) := by decide +kernel
theorem dX7_volumeIf_46 : decode cX7_volumeIf 46 = .ok (.getfield 7, 3) := by decide +kernel
theorem dX7_volumeIf_49 : decode cX7_volumeIf 49 = .ok (.iload_n 1, 1) := by decide +kernel
theorem dX7_volumeIf_50 : decode cX7_volumeIf 50 = .ok (.invokestatic 94, 3) := by decide +kernel
theorem dX7_volumeIf_53 : decode cX7_volumeIf 53 = .ok (.ifCond .ne 7, 3) := by decide +kernel
theorem dX7_volumeIf_56 : decode cX7_volumeIf 56 = .ok (.iconst 1, 1) := by decide +kernel
theorem dX7_volumeIf_57 : decode cX7_volumeIf 57 = .ok (.goto 13, 3) := by decide +kernel
theorem dX7_volumeIf_60 : decode cX7_volumeIf 60 = .ok (.iload 5, 2) := by decide +kernel
theorem dX7_volumeIf_62 : decode cX7_volumeIf 62 = .ok (.ifCond .ne 7, 3) := by decide +kernel
theorem dX7_volumeIf_65 : decode cX7_volumeIf 65 = .ok (.iconst 2, 1) := by decide +kernel
theorem dX7_volumeIf_66 : decode cX7_volumeIf 66 = .ok (.goto 4, 3) := by decide +kernel
theorem dX7_volumeIf_69 : decode cX7_volumeIf 69 = .ok (.iconst 0, 1) := by decide +kernel
theorem dX7_volumeIf_70 : decode cX7_volumeIf 70 = .ok (.invokevirtual 74, 3) := by decide +kernel
theorem dX7_volumeIf_73 : decode cX7_volumeIf 73 = .ok (.ifCond .eq 5, 3) := by decide +kernel
theorem dX7_volumeIf_76 : decode cX7_volumeIf 76 = .ok (.iconst 0, 1) := by decide +kernel
theorem dX7_volumeIf_77 : decode cX7_volumeIf 77 = .ok (.ireturn, 1) := by decide +kernel
theorem dX7_volumeIf_78 : decode cX7_volumeIf 78 = .ok (.aload_n 0, 1) := by decide +kernel
theorem dX7_volumeIf_79 : decode cX7_volumeIf 79 = .ok (.aload_n 0, 1) := by decide +kernel
theorem dX7_volumeIf_80 : decode cX7_volumeIf 80 = .ok (.getfield 7, 3) := by decide +kernel
theorem dX7_volumeIf_83 : decode cX7_volumeIf 83 = .ok (.bipush 63, 2) := by decide +kernel
theorem dX7_volumeIf_85 : decode cX7_volumeIf 85 = .ok (.invokevirtual 146, 3) := by decide +kernel
theorem dX7_volumeIf_88 : decode cX7_volumeIf 88 = .ok (.aload_n 0, 1) := by decide +kernel
theorem dX7_volumeIf_89 : decode cX7_volumeIf 89 = .ok (.iload_n 1, 1) := by decide +kernel
theorem dX7_volumeIf_90 : decode cX7_volumeIf 90 = .ok (.iload_n 2, 1) := by decide +kernel
theorem dX7_volumeIf_91 : decode cX7_volumeIf 91 = .ok (.iload_n 3, 1) := by decide +kernel
theorem dX7_volumeIf_92 : decode cX7_volumeIf 92 = .ok (.iload 4, 2) := by decide +kernel
theorem dX7_volumeIf_94 : decode cX7_volumeIf 94 = .ok (.invokevirtual 249, 3) := by decide +kernel
theorem dX7_volumeIf_97 : decode cX7_volumeIf 97 = .ok (.aload_n 0, 1) := by decide +kernel
theorem dX7_volumeIf_98 : decode cX7_volumeIf 98 = .ok (.invokevirtual 150, 3) := by decide +kernel
theorem dX7_volumeIf_101 : decode cX7_volumeIf 101 = .ok (.aload_n 0, 1) := by decide +kernel
theorem dX7_volumeIf_102 : decode cX7_volumeIf 102 = .ok (.getfield 164, 3) := by decide +kernel
theorem dX7_volumeIf_105 : decode cX7_volumeIf 105 = .ok (.ireturn, 1) := by decide +kernel
theorem dX7_priceFor_0 : decode cX7_priceFor 0 = .ok (.aload_n 0, 1) := by decide +kernel
theorem dX7_priceFor_1 : decode cX7_priceFor 1 = .ok (.iload_n 1, 1) := by decide +kernel
theorem dX7_priceFor_2 : decode cX7_priceFor 2 = .ok (.i2l, 1) := by decide +kernel
theorem dX7_priceFor_3 : decode cX7_priceFor 3 = .ok (.lconst 1, 1) := by decide +kernel
theorem dX7_priceFor_4 : decode cX7_priceFor 4 = .ok (.ldc2_w 206, 3) := by decide +kernel
theorem dX7_priceFor_7 : decode cX7_priceFor 7 = .ok (.invokestatic 65, 3) := by decide +kernel
theorem dX7_priceFor_10 : decode cX7_priceFor 10 = .ok (.ifCond .eq 7, 3) := by decide +kernel
theorem dX7_priceFor_13 : decode cX7_priceFor 13 = .ok (.iconst 0, 1) := by decide +kernel
theorem dX7_priceFor_14 : decode cX7_priceFor 14 = .ok (.goto 4, 3) := by decide +kernel
theorem dX7_priceFor_17 : decode cX7_priceFor 17 = .ok (.iconst 1, 1) := by decide +kernel
theorem dX7_priceFor_18 : decode cX7_priceFor 18 = .ok (.invokevirtual 74, 3) := by decide +kernel
theorem dX7_priceFor_21 : decode cX7_priceFor 21 = .ok (.ifCond .eq 5, 3) := by decide +kernel
theorem dX7_priceFor_24 : decode cX7_priceFor 24 = .ok (.iconst 0, 1) := by decide +kernel
theorem dX7_priceFor_25 : decode cX7_priceFor 25 = .ok (.ireturn, 1) := by decide +kernel
theorem dX7_priceFor_26 : decode cX7_priceFor 26 = .ok (.iconst 1, 1) := by decide +kernel
theorem dX7_priceFor_27 : decode cX7_priceFor 27 = .ok (.istore_n 2, 1) := by decide +kernel
theorem dX7_priceFor_28 : decode cX7_priceFor 28 = .ok (.iload_n 2, 1) := by decide +kernel
theorem dX7_priceFor_29 : decode cX7_priceFor 29 = .ok (.bipush 100, 2) := by decide +kernel
theorem dX7_priceFor_31 : decode cX7_priceFor 31 = .ok (.if_icmp .ge 48, 3) := by decide +kernel
theorem dX7_priceFor_34 : decode cX7_priceFor 34 = .ok (.aload_n 0, 1) := by decide +kernel
theorem dX7_priceFor_35 : decode cX7_priceFor 35 = .ok (.aload_n 0, 1) := by decide +kernel
theorem dX7_priceFor_36 : decode cX7_priceFor 36 = .ok (.getfield 7, 3) := by decide +kernel
theorem dX7_priceFor_39 : decode cX7_priceFor 39 = .ok (.bipush 63, 2) := by decide +kernel
theorem dX7_priceFor_41 : decode cX7_priceFor 41 = .ok (.invokevirtual 146, 3) := by decide +kernel
theorem dX7_priceFor_44 : decode cX7_priceFor 44 = .ok (.aload_n 0, 1) := by decide +kernel
theorem dX7_priceFor_45 : decode cX7_priceFor 45 = .ok (.iconst 0, 1) := by decide +kernel
theorem dX7_priceFor_46 : decode cX7_priceFor 46 = .ok (.iconst 0, 1) := by decide +kernel
theorem dX7_priceFor_47 : decode cX7_priceFor 47 = .ok (.iload_n 2, 1) := by decide +kernel
theorem dX7_priceFor_48 : decode cX7_priceFor 48 = .ok (.iload_n 1, 1) := by decide +kernel
theorem dX7_priceFor_49 : decode cX7_priceFor 49 = .ok (.invokevirtual 249, 3) := by decide +kernel
theorem dX7_priceFor_52 : decode cX7_priceFor 52 = .ok (.aload_n 0, 1) := by decide +kernel
theorem dX7_priceFor_53 : decode cX7_priceFor 53 = .ok (.invokevirtual 150, 3) := by decide +kernel
theorem dX7_priceFor_56 : decode cX7_priceFor 56 = .ok (.aload_n 0, 1) := by decide +kernel
theorem dX7_priceFor_57 : decode cX7_priceFor 57 = .ok (.getfield 41, 3) := by decide +kernel
theorem dX7_priceFor_60 : decode cX7_priceFor 60 = .ok (.aload_n 0, 1) := by decide +kernel
theorem dX7_priceFor_61 : decode cX7_priceFor 61 = .ok (.getfield 153, 3) := by decide +kernel
theorem dX7_priceFor_64 : decode cX7_priceFor 64 = .ok (.iconst 1, 1) := by decide +kernel
theorem dX7_priceFor_65 : decode cX7_priceFor 65 = .ok (.isub, 1) := by decide +kernel
theorem dX7_priceFor_66 : decode cX7_priceFor 66 = .ok (.iaload, 1) := by decide +kernel
theorem dX7_priceFor_67 : decode cX7_priceFor 67 = .ok (.iload_n 1, 1) := by decide +kernel
theorem dX7_priceFor_68 : decode cX7_priceFor 68 = .ok (.if_icmp .ne 5, 3) := by decide +kernel
theorem dX7_priceFor_71 : decode cX7_priceFor 71 = .ok (.iload_n 2, 1) := by decide +kernel
theorem dX7_priceFor_72 : decode cX7_priceFor 72 = .ok (.ireturn, 1) := by decide +kernel
theorem dX7_priceFor_73 : decode cX7_priceFor 73 = .ok (.iinc 2 1, 3) := by decide +kernel
theorem dX7_priceFor_76 : decode cX7_priceFor 76 = .ok (.goto (-48), 3) := by decide +kernel
theorem dX7_priceFor_79 : decode cX7_priceFor 79 = .ok (.bipush (-9), 2) := by decide +kernel
theorem dX7_priceFor_81 : decode cX7_priceFor 81 = .ok (.ireturn, 1) := by decide +kernel
theorem dX7_ones_0 : decode cX7_ones 0 = .ok (.iconst 0, 1) := by decide +kernel
theorem dX7_ones_1 : decode cX7_ones 1 = .ok (.istore_n 1, 1) := by decide +kernel
theorem dX7_ones_2 : decode cX7_ones 2 = .ok (.iconst 0, 1) := by decide +kernel
theorem dX7_ones_3 : decode cX7_ones 3 = .ok (.istore_n 2, 1) := by decide +kernel
theorem dX7_ones_4 : decode cX7_ones 4 = .ok (.iload_n 2, 1) := by decide +kernel
theorem dX7_ones_5 : decode cX7_ones 5 = .ok (.bipush 6, 2) := by decide +kernel
theorem dX7_ones_7 : decode cX7_ones 7 = .ok (.if_icmp .ge 17, 3) := by decide +kernel
theorem dX7_ones_10 : decode cX7_ones 10 = .ok (.iload_n 1, 1) := by decide +kernel
theorem dX7_ones_11 : decode cX7_ones 11 = .ok (.iload_n 0, 1) := by decide +kernel
theorem dX7_ones_12 : decode cX7_ones 12 = .ok (.iload_n 2, 1) := by decide +kernel
theorem dX7_ones_13 : decode cX7_ones 13 = .ok (.ishr, 1) := by decide +kernel
theorem dX7_ones_14 : decode cX7_ones 14 = .ok (.iconst 1, 1) := by decide +kernel
theorem dX7_ones_15 : decode cX7_ones 15 = .ok (.iand, 1) := by decide +kernel
theorem dX7_ones_16 : decode cX7_ones 16 = .ok (.iadd, 1) := by decide +kernel
theorem dX7_ones_17 : decode cX7_ones 17 = .ok (.istore_n 1, 1) := by decide +kernel
theorem dX7_ones_18 : decode cX7_ones 18 = .ok (.iinc 2 1, 3) := by decide +kernel
theorem dX7_ones_21 : decode cX7_ones 21 = .ok (.goto (-17), 3) := by decide +kernel
theorem dX7_ones_24 : decode cX7_ones 24 = .ok (.iload_n 1, 1) := by decide +kernel
theorem dX7_ones_25 : decode cX7_ones 25 = .ok (.ireturn, 1) := by decide +kernel
theorem dX7_factorial_0 : decode cX7_factorial 0 = .ok (.iconst 1, 1) := by decide +kernel
theorem dX7_factorial_1 : decode cX7_factorial 1 = .ok (.istore_n 1, 1) := by decide +kernel
theorem dX7_factorial_2 : decode cX7_factorial 2 = .ok (.iconst 2, 1) := by decide +kernel
theorem dX7_factorial_3 : decode cX7_factorial 3 = .ok (.istore_n 2, 1) := by decide +kernel
theorem dX7_factorial_4 : decode cX7_factorial 4 = .ok (.iload_n 2, 1) := by decide +kernel
theorem dX7_factorial_5 : decode cX7_factorial 5 = .ok (.iload_n 0, 1) := by decide +kernel
theorem dX7_factorial_6 : decode cX7_factorial 6 = .ok (.if_icmp .gt 13, 3) := by decide +kernel
theorem dX7_factorial_9 : decode cX7_factorial 9 = .ok (.iload_n 1, 1) := by decide +kernel
theorem dX7_factorial_10 : decode cX7_factorial 10 = .ok (.iload_n 2, 1) := by decide +kernel
theorem dX7_factorial_11 : decode cX7_factorial 11 = .ok (.imul, 1) := by decide +kernel
theorem dX7_factorial_12 : decode cX7_factorial 12 = .ok (.istore_n 1, 1) := by decide +kernel
theorem dX7_factorial_13 : decode cX7_factorial 13 = .ok (.iinc 2 1, 3) := by decide +kernel
theorem dX7_factorial_16 : decode cX7_factorial 16 = .ok (.goto (-12), 3) := by decide +kernel
theorem dX7_factorial_19 : decode cX7_factorial 19 = .ok (.iload_n 1, 1) := by decide +kernel
theorem dX7_factorial_20 : decode cX7_factorial 20 = .ok (.ireturn, 1) := by decide +kernel
theorem dX7_divisor_0 : decode cX7_divisor 0 = .ok (.lload_n 0, 1) := by decide +kernel
theorem dX7_divisor_1 : decode cX7_divisor 1 = .ok (.lconst 0, 1) := by decide +kernel
theorem dX7_divisor_2 : decode cX7_divisor 2 = .ok (.lcmp, 1) := by decide +kernel
theorem dX7_divisor_3 : decode cX7_divisor 3 = .ok (.ifCond .ge 8, 3) := by decide +kernel
theorem dX7_divisor_6 : decode cX7_divisor 6 = .ok (.lload_n 0, 1) := by decide +kernel
theorem dX7_divisor_7 : decode cX7_divisor 7 = .ok (.lneg, 1) := by decide +kernel
theorem dX7_divisor_8 : decode cX7_divisor 8 = .ok (.goto 4, 3) := by decide +kernel
theorem dX7_divisor_11 : decode cX7_divisor 11 = .ok (.lload_n 0, 1) := by decide +kernel
theorem dX7_divisor_12 : decode cX7_divisor 12 = .ok (.lstore 4, 2) := by decide +kernel
theorem dX7_divisor_14 : decode cX7_divisor 14 = .ok (.lload_n 2, 1) := by decide +kernel
theorem dX7_divisor_15 : decode cX7_divisor 15 = .ok (.lstore 6, 2) := by decide +kernel
theorem dX7_divisor_17 : decode cX7_divisor 17 = .ok (.lload 6, 2) := by decide +kernel
theorem dX7_divisor_19 : decode cX7_divisor 19 = .ok (.lconst 0, 1) := by decide +kernel
theorem dX7_divisor_20 : decode cX7_divisor 20 = .ok (.lcmp, 1) := by decide +kernel
theorem dX7_divisor_21 : decode cX7_divisor 21 = .ok (.ifCond .eq 21, 3) := by decide +kernel
theorem dX7_divisor_24 : decode cX7_divisor 24 = .ok (.lload 4, 2) := by decide +kernel
theorem dX7_divisor_26 : decode cX7_divisor 26 = .ok (.lload 6, 2) := by decide +kernel
theorem dX7_divisor_28 : decode cX7_divisor 28 = .ok (.lrem, 1) := by decide +kernel
theorem dX7_divisor_29 : decode cX7_divisor 29 = .ok (.lstore 8, 2) := by decide +kernel
theorem dX7_divisor_31 : decode cX7_divisor 31 = .ok (.lload 6, 2) := by decide +kernel
theorem dX7_divisor_33 : decode cX7_divisor 33 = .ok (.lstore 4, 2) := by decide +kernel
theorem dX7_divisor_35 : decode cX7_divisor 35 = .ok (.lload 8, 2) := by decide +kernel
theorem dX7_divisor_37 : decode cX7_divisor 37 = .ok (.lstore 6, 2) := by decide +kernel
theorem dX7_divisor_39 : decode cX7_divisor 39 = .ok (.goto (-22), 3) := by decide +kernel
theorem dX7_divisor_42 : decode cX7_divisor 42 = .ok (.lload 4, 2) := by decide +kernel
theorem dX7_divisor_44 : decode cX7_divisor 44 = .ok (.lreturn, 1) := by decide +kernel
theorem dX7_share_0 : decode cX7_share 0 = .ok (.aload_n 0, 1) := by decide +kernel
theorem dX7_share_1 : decode cX7_share 1 = .ok (.aload_n 0, 1) := by decide +kernel
theorem dX7_share_2 : decode cX7_share 2 = .ok (.getfield 7, 3) := by decide +kernel
theorem dX7_share_5 : decode cX7_share 5 = .ok (.iload_n 1, 1) := by decide +kernel
theorem dX7_share_6 : decode cX7_share 6 = .ok (.invokestatic 94, 3) := by decide +kernel
theorem dX7_share_9 : decode cX7_share 9 = .ok (.ifCond .eq 7, 3) := by decide +kernel
theorem dX7_share_12 : decode cX7_share 12 = .ok (.iconst 0, 1) := by decide +kernel
theorem dX7_share_13 : decode cX7_share 13 = .ok (.goto 4, 3) := by decide +kernel
theorem dX7_share_16 : decode cX7_share 16 = .ok (.iconst 1, 1) := by decide +kernel
theorem dX7_share_17 : decode cX7_share 17 = .ok (.invokevirtual 74, 3) := by decide +kernel
theorem dX7_share_20 : decode cX7_share 20 = .ok (.ifCond .eq 5, 3) := by decide +kernel
theorem dX7_share_23 : decode cX7_share 23 = .ok (.iconst 0, 1) := by decide +kernel
theorem dX7_share_24 : decode cX7_share 24 = .ok (.ireturn, 1) := by decide +kernel
theorem dX7_share_25 : decode cX7_share 25 = .ok (.aload_n 0, 1) := by decide +kernel
theorem dX7_share_26 : decode cX7_share 26 = .ok (.getfield 7, 3) := by decide +kernel
theorem dX7_share_29 : decode cX7_share 29 = .ok (.iconst 0, 1) := by decide +kernel
theorem dX7_share_30 : decode cX7_share 30 = .ok (.iaload, 1) := by decide +kernel
theorem dX7_share_31 : decode cX7_share 31 = .ok (.istore_n 3, 1) := by decide +kernel
theorem dX7_share_32 : decode cX7_share 32 = .ok (.iconst 0, 1) := by decide +kernel
theorem dX7_share_33 : decode cX7_share 33 = .ok (.istore 4, 2) := by decide +kernel
theorem dX7_share_35 : decode cX7_share 35 = .ok (.iload 4, 2) := by decide +kernel
theorem dX7_share_37 : decode cX7_share 37 = .ok (.iconst 1, 1) := by decide +kernel
theorem dX7_share_38 : decode cX7_share 38 = .ok (.iload_n 3, 1) := by decide +kernel
theorem dX7_share_39 : decode cX7_share 39 = .ok (.ishl, 1) := by decide +kernel
theorem dX7_share_40 : decode cX7_share 40 = .ok (.if_icmp .ge 34, 3) := by decide +kernel
theorem dX7_share_43 : decode cX7_share 43 = .ok (.aload_n 0, 1) := by decide +kernel
theorem dX7_share_44 : decode cX7_share 44 = .ok (.aload_n 0, 1) := by decide +kernel
theorem dX7_share_45 : decode cX7_share 45 = .ok (.getfield 7, 3) := by decide +kernel
theorem dX7_share_48 : decode cX7_share 48 = .ok (.iload 4, 2) := by decide +kernel
theorem dX7_share_50 : decode cX7_share 50 = .ok (.invokevirtual 146, 3) := by decide +kernel
theorem dX7_share_53 : decode cX7_share 53 = .ok (.aload_n 0, 1) := by decide +kernel
theorem dX7_share_54 : decode cX7_share 54 = .ok (.invokevirtual 150, 3) := by decide +kernel
theorem dX7_share_57 : decode cX7_share 57 = .ok (.aload_n 0, 1) := by decide +kernel
theorem dX7_share_58 : decode cX7_share 58 = .ok (.getfield 44, 3) := by decide +kernel
theorem dX7_share_61 : decode cX7_share 61 = .ok (.iload 4, 2) := by decide +kernel
theorem dX7_share_63 : decode cX7_share 63 = .ok (.aload_n 0, 1) := by decide +kernel
theorem dX7_share_64 : decode cX7_share 64 = .ok (.getfield 170, 3) := by decide +kernel
theorem dX7_share_67 : decode cX7_share 67 = .ok (.iastore, 1) := by decide +kernel
theorem dX7_share_68 : decode cX7_share 68 = .ok (.iinc 4 1, 3) := by decide +kernel
theorem dX7_share_71 : decode cX7_share 71 = .ok (.goto (-36), 3) := by decide +kernel
theorem dX7_share_74 : decode cX7_share 74 = .ok (.iconst 0, 1) := by decide +kernel
theorem dX7_share_75 : decode cX7_share 75 = .ok (.istore 4, 2) := by decide +kernel
theorem dX7_share_77 : decode cX7_share 77 = .ok (.iconst 0, 1) := by decide +kernel
theorem dX7_share_78 : decode cX7_share 78 = .ok (.istore 5, 2) := by decide +kernel
theorem dX7_share_80 : decode cX7_share 80 = .ok (.iload 5, 2) := by decide +kernel
theorem dX7_share_82 : decode cX7_share 82 = .ok (.iconst 1, 1) := by decide +kernel
theorem dX7_share_83 : decode cX7_share 83 = .ok (.iload_n 3, 1) := by decide +kernel
theorem dX7_share_84 : decode cX7_share 84 = .ok (.ishl, 1) := by decide +kernel
theorem dX7_share_85 : decode cX7_share 85 = .ok (.if_icmp .ge 65, 3) := by decide +kernel
theorem dX7_share_88 : decode cX7_share 88 = .ok (.iload 5, 2) := by decide +kernel
theorem dX7_share_90 : decode cX7_share 90 = .ok (.iload_n 1, 1) := by decide +kernel
theorem dX7_share_91 : decode cX7_share 91 = .ok (.ishr, 1) := by decide +kernel
theorem dX7_share_92 : decode cX7_share 92 = .ok (.iconst 1, 1) := by decide +kernel
theorem dX7_share_93 : decode cX7_share 93 = .ok (.iand, 1) := by decide +kernel
theorem dX7_share_94 : decode cX7_share 94 = .ok (.ifCond .ne 50, 3) := by decide +kernel
theorem dX7_share_97 : decode cX7_share 97 = .ok (.iload 5, 2) := by decide +kernel
theorem dX7_share_99 : decode cX7_share 99 = .ok (.invokestatic 253, 3) := by decide +kernel
theorem dX7_share_102 : decode cX7_share 102 = .ok (.istore 6, 2) := by decide +kernel
theorem dX7_share_104 : decode cX7_share 104 = .ok (.iload 4, 2) := by decide +kernel
theorem dX7_share_106 : decode cX7_share 106 = .ok (.iload 6, 2) := by decide +kernel
theorem dX7_share_108 : decode cX7_share 108 = .ok (.invokestatic 256, 3) := by decide +kernel
theorem dX7_share_111 : decode cX7_share 111 = .ok (.iload_n 3, 1) := by decide +kernel
theorem dX7_share_112 : decode cX7_share 112 = .ok (.iconst 1, 1) := by decide +kernel
theorem dX7_share_113 : decode cX7_share 113 = .ok (.isub, 1) := by decide +kernel
theorem dX7_share_114 : decode cX7_share 114 = .ok (.iload 6, 2) := by decide +kernel
theorem dX7_share_116 : decode cX7_share 116 = .ok (.isub, 1) := by decide +kernel
theorem dX7_share_117 : decode cX7_share 117 = .ok (.invokestatic 256, 3) := by decide +kernel
theorem dX7_share_120 : decode cX7_share 120 = .ok (.imul, 1) := by decide +kernel
theorem dX7_share_121 : decode cX7_share 121 = .ok (.aload_n 0, 1) := by decide +kernel
theorem dX7_share_122 : decode cX7_share 122 = .ok (.getfield 44, 3) := by decide +kernel
theorem dX7_share_125 : decode cX7_share 125 = .ok (.iload 5, 2) := by decide +kernel
theorem dX7_share_127 : decode cX7_share 127 = .ok (.iconst 1, 1) := by decide +kernel
theorem dX7_share_128 : decode cX7_share 128 = .ok (.iload_n 1, 1) := by decide +kernel
theorem dX7_share_129 : decode cX7_share 129 = .ok (.ishl, 1) := by decide +kernel
theorem dX7_share_130 : decode cX7_share 130 = .ok (.ior, 1) := by decide +kernel
theorem dX7_share_131 : decode cX7_share 131 = .ok (.iaload, 1) := by decide +kernel
theorem dX7_share_132 : decode cX7_share 132 = .ok (.aload_n 0, 1) := by decide +kernel
theorem dX7_share_133 : decode cX7_share 133 = .ok (.getfield 44, 3) := by decide +kernel
theorem dX7_share_136 : decode cX7_share 136 = .ok (.iload 5, 2) := by decide +kernel
theorem dX7_share_138 : decode cX7_share 138 = .ok (.iaload, 1) := by decide +kernel
theorem dX7_share_139 : decode cX7_share 139 = .ok (.isub, 1) := by decide +kernel
theorem dX7_share_140 : decode cX7_share 140 = .ok (.imul, 1) := by decide +kernel
theorem dX7_share_141 : decode cX7_share 141 = .ok (.iadd, 1) := by decide +kernel
theorem dX7_share_142 : decode cX7_share 142 = .ok (.istore 4, 2) := by decide +kernel
theorem dX7_share_144 : decode cX7_share 144 = .ok (.iinc 5 1, 3) := by decide +kernel
theorem dX7_share_147 : decode cX7_share 147 = .ok (.goto (-67), 3) := by decide +kernel
theorem dX7_share_150 : decode cX7_share 150 = .ok (.iload_n 3, 1) := by decide +kernel
theorem dX7_share_151 : decode cX7_share 151 = .ok (.invokestatic 256, 3) := by decide +kernel
theorem dX7_share_154 : decode cX7_share 154 = .ok (.istore 5, 2) := by decide +kernel
theorem dX7_share_156 : decode cX7_share 156 = .ok (.iload 4, 2) := by decide +kernel
theorem dX7_share_158 : decode cX7_share 158 = .ok (.i2l, 1) := by decide +kernel
theorem dX7_share_159 : decode cX7_share 159 = .ok (.iload 5, 2) := by decide +kernel
theorem dX7_share_161 : decode cX7_share 161 = .ok (.i2l, 1) := by decide +kernel
theorem dX7_share_162 : decode cX7_share 162 = .ok (.invokestatic 259, 3) := by decide +kernel
theorem dX7_share_165 : decode cX7_share 165 = .ok (.l2i, 1) := by decide +kernel
theorem dX7_share_166 : decode cX7_share 166 = .ok (.istore 6, 2) := by decide +kernel
theorem dX7_share_168 : decode cX7_share 168 = .ok (.iload_n 2, 1) := by decide +kernel
theorem dX7_share_169 : decode cX7_share 169 = .ok (.ifCond .eq 11, 3) := by decide +kernel
theorem dX7_share_172 : decode cX7_share 172 = .ok (.iload 4, 2) := by decide +kernel
theorem dX7_share_174 : decode cX7_share 174 = .ok (.iload 6, 2) := by decide +kernel
theorem dX7_share_176 : decode cX7_share 176 = .ok (.idiv, 1) := by decide +kernel
theorem dX7_share_177 : decode cX7_share 177 = .ok (.goto 8, 3) := by decide +kernel
theorem dX7_share_180 : decode cX7_share 180 = .ok (.iload 5, 2) := by decide +kernel
theorem dX7_share_182 : decode cX7_share 182 = .ok (.iload 6, 2) := by decide +kernel
theorem dX7_share_184 : decode cX7_share 184 = .ok (.idiv, 1) := by decide +kernel
theorem dX7_share_185 : decode cX7_share 185 = .ok (.ireturn, 1) := by decide +kernel
theorem dX7_ahead_0 : decode cX7_ahead 0 = .ok (.aload_n 0, 1) := by decide +kernel
theorem dX7_ahead_1 : decode cX7_ahead 1 = .ok (.aload_n 0, 1) := by decide +kernel
theorem dX7_ahead_2 : decode cX7_ahead 2 = .ok (.getfield 7, 3) := by decide +kernel
theorem dX7_ahead_5 : decode cX7_ahead 5 = .ok (.iload_n 2, 1) := by decide +kernel
theorem dX7_ahead_6 : decode cX7_ahead 6 = .ok (.invokestatic 94, 3) := by decide +kernel
theorem dX7_ahead_9 : decode cX7_ahead 9 = .ok (.ifCond .ne 7, 3) := by decide +kernel
theorem dX7_ahead_12 : decode cX7_ahead 12 = .ok (.iconst 1, 1) := by decide +kernel
theorem dX7_ahead_13 : decode cX7_ahead 13 = .ok (.goto 32, 3) := by decide +kernel
theorem dX7_ahead_16 : decode cX7_ahead 16 = .ok (.iload_n 1, 1) := by decide +kernel
theorem dX7_ahead_17 : decode cX7_ahead 17 = .ok (.i2l, 1) := by decide +kernel
theorem dX7_ahead_18 : decode cX7_ahead 18 = .ok (.lconst 0, 1) := by decide +kernel
theorem dX7_ahead_19 : decode cX7_ahead 19 = .ok (.ldc2_w 206, 3) := by decide +kernel
theorem dX7_ahead_22 : decode cX7_ahead 22 = .ok (.invokestatic 65, 3) := by decide +kernel
theorem dX7_ahead_25 : decode cX7_ahead 25 = .ok (.ifCond .eq 15, 3) := by decide +kernel
theorem dX7_ahead_28 : decode cX7_ahead 28 = .ok (.iload_n 3, 1) := by decide +kernel
theorem dX7_ahead_29 : decode cX7_ahead 29 = .ok (.i2l, 1) := by decide +kernel
theorem dX7_ahead_30 : decode cX7_ahead 30 = .ok (.lconst 0, 1) := by decide +kernel
theorem dX7_ahead_31 : decode cX7_ahead 31 = .ok (.ldc2_w 133, 3) := by decide +kernel
theorem dX7_ahead_34 : decode cX7_ahead 34 = .ok (.invokestatic 65, 3) := by decide +kernel
theorem dX7_ahead_37 : decode cX7_ahead 37 = .ok (.ifCond .ne 7, 3) := by decide +kernel
theorem dX7_ahead_40 : decode cX7_ahead 40 = .ok (.iconst 2, 1) := by decide +kernel
theorem dX7_ahead_41 : decode cX7_ahead 41 = .ok (.goto 4, 3) := by decide +kernel
theorem dX7_ahead_44 : decode cX7_ahead 44 = .ok (.iconst 0, 1) := by decide +kernel
theorem dX7_ahead_45 : decode cX7_ahead 45 = .ok (.invokevirtual 74, 3) := by decide +kernel
theorem dX7_ahead_48 : decode cX7_ahead 48 = .ok (.ifCond .eq 5, 3) := by decide +kernel
theorem dX7_ahead_51 : decode cX7_ahead 51 = .ok (.iconst 0, 1) := by decide +kernel
theorem dX7_ahead_52 : decode cX7_ahead 52 = .ok (.ireturn, 1) := by decide +kernel
theorem dX7_ahead_53 : decode cX7_ahead 53 = .ok (.aload_n 0, 1) := by decide +kernel
theorem dX7_ahead_54 : decode cX7_ahead 54 = .ok (.getfield 7, 3) := by decide +kernel
theorem dX7_ahead_57 : decode cX7_ahead 57 = .ok (.iconst 0, 1) := by decide +kernel
theorem dX7_ahead_58 : decode cX7_ahead 58 = .ok (.aload_n 0, 1) := by decide +kernel
theorem dX7_ahead_59 : decode cX7_ahead 59 = .ok (.getfield 13, 3) := by decide +kernel
theorem dX7_ahead_62 : decode cX7_ahead 62 = .ok (.iconst 0, 1) := by decide +kernel
theorem dX7_ahead_63 : decode cX7_ahead 63 = .ok (.invokestatic 58, 3) := by decide +kernel
theorem dX7_ahead_66 : decode cX7_ahead 66 = .ok (.aload_n 0, 1) := by decide +kernel
theorem dX7_ahead_67 : decode cX7_ahead 67 = .ok (.aload_n 0, 1) := by decide +kernel
theorem dX7_ahead_68 : decode cX7_ahead 68 = .ok (.getfield 13, 3) := by decide +kernel
theorem dX7_ahead_71 : decode cX7_ahead 71 = .ok (.iload_n 1, 1) := by decide +kernel
theorem dX7_ahead_72 : decode cX7_ahead 72 = .ok (.invokevirtual 233, 3) := by decide +kernel
theorem dX7_ahead_75 : decode cX7_ahead 75 = .ok (.pop, 1) := by decide +kernel
theorem dX7_ahead_76 : decode cX7_ahead 76 = .ok (.aload_n 0, 1) := by decide +kernel
theorem dX7_ahead_77 : decode cX7_ahead 77 = .ok (.getfield 13, 3) := by decide +kernel
theorem dX7_ahead_80 : decode cX7_ahead 80 = .ok (.iload_n 2, 1) := by decide +kernel
theorem dX7_ahead_81 : decode cX7_ahead 81 = .ok (.iload_n 3, 1) := by decide +kernel
theorem dX7_ahead_82 : decode cX7_ahead 82 = .ok (.invokestatic 135, 3) := by decide +kernel
theorem dX7_ahead_85 : decode cX7_ahead 85 = .ok (.ireturn, 1) := by decide +kernel
theorem dX7_sentAfter_0 : decode cX7_sentAfter 0 = .ok (.aload_n 0, 1) := by decide +kernel
theorem dX7_sentAfter_1 : decode cX7_sentAfter 1 = .ok (.aload_n 0, 1) := by decide +kernel
theorem dX7_sentAfter_2 : decode cX7_sentAfter 2 = .ok (.getfield 7, 3) := by decide +kernel
theorem dX7_sentAfter_5 : decode cX7_sentAfter 5 = .ok (.iload_n 1, 1) := by decide +kernel
theorem dX7_sentAfter_6 : decode cX7_sentAfter 6 = .ok (.invokestatic 94, 3) := by decide +kernel
theorem dX7_sentAfter_9 : decode cX7_sentAfter 9 = .ok (.ifCond .ne 7, 3) := by decide +kernel
theorem dX7_sentAfter_12 : decode cX7_sentAfter 12 = .ok (.iconst 1, 1) := by decide +kernel
theorem dX7_sentAfter_13 : decode cX7_sentAfter 13 = .ok (.goto 20, 3) := by decide +kernel
theorem dX7_sentAfter_16 : decode cX7_sentAfter 16 = .ok (.iload_n 2, 1) := by decide +kernel
theorem dX7_sentAfter_17 : decode cX7_sentAfter 17 = .ok (.i2l, 1) := by decide +kernel
theorem dX7_sentAfter_18 : decode cX7_sentAfter 18 = .ok (.lconst 0, 1) := by decide +kernel
theorem dX7_sentAfter_19 : decode cX7_sentAfter 19 = .ok (.ldc2_w 139, 3) := by decide +kernel
theorem dX7_sentAfter_22 : decode cX7_sentAfter 22 = .ok (.invokestatic 65, 3) := by decide +kernel
theorem dX7_sentAfter_25 : decode cX7_sentAfter 25 = .ok (.ifCond .ne 7, 3) := by decide +kernel
theorem dX7_sentAfter_28 : decode cX7_sentAfter 28 = .ok (.iconst 2, 1) := by decide +kernel
theorem dX7_sentAfter_29 : decode cX7_sentAfter 29 = .ok (.goto 4, 3) := by decide +kernel
theorem dX7_sentAfter_32 : decode cX7_sentAfter 32 = .ok (.iconst 0, 1) := by decide +kernel
theorem dX7_sentAfter_33 : decode cX7_sentAfter 33 = .ok (.invokevirtual 74, 3) := by decide +kernel
theorem dX7_sentAfter_36 : decode cX7_sentAfter 36 = .ok (.ifCond .eq 5, 3) := by decide +kernel
theorem dX7_sentAfter_39 : decode cX7_sentAfter 39 = .ok (.iconst 0, 1) := by decide +kernel
theorem dX7_sentAfter_40 : decode cX7_sentAfter 40 = .ok (.ireturn, 1) := by decide +kernel
theorem dX7_sentAfter_41 : decode cX7_sentAfter 41 = .ok (.aload_n 0, 1) := by decide +kernel
theorem dX7_sentAfter_42 : decode cX7_sentAfter 42 = .ok (.getfield 7, 3) := by decide +kernel
theorem dX7_sentAfter_45 : decode cX7_sentAfter 45 = .ok (.iload_n 1, 1) := by decide +kernel
theorem dX7_sentAfter_46 : decode cX7_sentAfter 46 = .ok (.invokestatic 90, 3) := by decide +kernel
theorem dX7_sentAfter_49 : decode cX7_sentAfter 49 = .ok (.bipush 7, 2) := by decide +kernel
theorem dX7_sentAfter_51 : decode cX7_sentAfter 51 = .ok (.iadd, 1) := by decide +kernel
theorem dX7_sentAfter_52 : decode cX7_sentAfter 52 = .ok (.iaload, 1) := by decide +kernel
theorem dX7_sentAfter_53 : decode cX7_sentAfter 53 = .ok (.istore_n 3, 1) := by decide +kernel
theorem dX7_sentAfter_54 : decode cX7_sentAfter 54 = .ok (.iload_n 2, 1) := by decide +kernel
theorem dX7_sentAfter_55 : decode cX7_sentAfter 55 = .ok (.iload_n 3, 1) := by decide +kernel
theorem dX7_sentAfter_56 : decode cX7_sentAfter 56 = .ok (.if_icmp .lt 6, 3) := by decide +kernel
theorem dX7_sentAfter_59 : decode cX7_sentAfter 59 = .ok (.bipush (-9), 2) := by decide +kernel
theorem dX7_sentAfter_61 : decode cX7_sentAfter 61 = .ok (.ireturn, 1) := by decide +kernel
theorem dX7_sentAfter_62 : decode cX7_sentAfter 62 = .ok (.aload_n 0, 1) := by decide +kernel
theorem dX7_sentAfter_63 : decode cX7_sentAfter 63 = .ok (.getfield 7, 3) := by decide +kernel
theorem dX7_sentAfter_66 : decode cX7_sentAfter 66 = .ok (.iconst 0, 1) := by decide +kernel
theorem dX7_sentAfter_67 : decode cX7_sentAfter 67 = .ok (.aload_n 0, 1) := by decide +kernel
theorem dX7_sentAfter_68 : decode cX7_sentAfter 68 = .ok (.getfield 13, 3) := by decide +kernel
theorem dX7_sentAfter_71 : decode cX7_sentAfter 71 = .ok (.iconst 0, 1) := by decide +kernel
theorem dX7_sentAfter_72 : decode cX7_sentAfter 72 = .ok (.invokestatic 58, 3) := by decide +kernel
theorem dX7_sentAfter_75 : decode cX7_sentAfter 75 = .ok (.iconst 1, 1) := by decide +kernel
theorem dX7_sentAfter_76 : decode cX7_sentAfter 76 = .ok (.istore 4, 2) := by decide +kernel
theorem dX7_sentAfter_78 : decode cX7_sentAfter 78 = .ok (.iload 4, 2) := by decide +kernel
theorem dX7_sentAfter_80 : decode cX7_sentAfter 80 = .ok (.bipush 100, 2) := by decide +kernel
theorem dX7_sentAfter_82 : decode cX7_sentAfter 82 = .ok (.if_icmp .ge 38, 3) := by decide +kernel
theorem dX7_sentAfter_85 : decode cX7_sentAfter 85 = .ok (.aload_n 0, 1) := by decide +kernel
theorem dX7_sentAfter_86 : decode cX7_sentAfter 86 = .ok (.aload_n 0, 1) := by decide +kernel
theorem dX7_sentAfter_87 : decode cX7_sentAfter 87 = .ok (.getfield 13, 3) := by decide +kernel
theorem dX7_sentAfter_90 : decode cX7_sentAfter 90 = .ok (.invokevirtual 203, 3) := by decide +kernel
theorem dX7_sentAfter_93 : decode cX7_sentAfter 93 = .ok (.iload_n 3, 1) := by decide +kernel
theorem dX7_sentAfter_94 : decode cX7_sentAfter 94 = .ok (.aload_n 0, 1) := by decide +kernel
theorem dX7_sentAfter_95 : decode cX7_sentAfter 95 = .ok (.getfield 13, 3) := by decide +kernel
theorem dX7_sentAfter_98 : decode cX7_sentAfter 98 = .ok (.iload_n 1, 1) := by decide +kernel
theorem dX7_sentAfter_99 : decode cX7_sentAfter 99 = .ok (.invokestatic 90, 3) := by decide +kernel
theorem dX7_sentAfter_102 : decode cX7_sentAfter 102 = .ok (.bipush 7, 2) := by decide +kernel
theorem dX7_sentAfter_104 : decode cX7_sentAfter 104 = .ok (.iadd, 1) := by decide +kernel
theorem dX7_sentAfter_105 : decode cX7_sentAfter 105 = .ok (.iaload, 1) := by decide +kernel
theorem dX7_sentAfter_106 : decode cX7_sentAfter 106 = .ok (.isub, 1) := by decide +kernel
theorem dX7_sentAfter_107 : decode cX7_sentAfter 107 = .ok (.iload_n 2, 1) := by decide +kernel
theorem dX7_sentAfter_108 : decode cX7_sentAfter 108 = .ok (.if_icmp .le 6, 3) := by decide +kernel
theorem dX7_sentAfter_111 : decode cX7_sentAfter 111 = .ok (.iload 4, 2) := by decide +kernel
theorem dX7_sentAfter_113 : decode cX7_sentAfter 113 = .ok (.ireturn, 1) := by decide +kernel
theorem dX7_sentAfter_114 : decode cX7_sentAfter 114 = .ok (.iinc 4 1, 3) := by decide +kernel
theorem dX7_sentAfter_117 : decode cX7_sentAfter 117 = .ok (.goto (-39), 3) := by decide +kernel
theorem dX7_sentAfter_120 : decode cX7_sentAfter 120 = .ok (.bipush (-9), 2) := by decide +kernel
theorem dX7_sentAfter_122 : decode cX7_sentAfter 122 = .ok (.ireturn, 1) := by decide +kernel
theorem dX7_unused_0 : decode cX7_unused 0 = .ok (.aload_n 0, 1) := by decide +kernel
theorem dX7_unused_1 : decode cX7_unused 1 = .ok (.iload_n 1, 1) := by decide +kernel
theorem dX7_unused_2 : decode cX7_unused 2 = .ok (.i2l, 1) := by decide +kernel
theorem dX7_unused_3 : decode cX7_unused 3 = .ok (.lconst 1, 1) := by decide +kernel
theorem dX7_unused_4 : decode cX7_unused 4 = .ok (.ldc2_w 206, 3) := by decide +kernel
theorem dX7_unused_7 : decode cX7_unused 7 = .ok (.invokestatic 65, 3) := by decide +kernel
theorem dX7_unused_10 : decode cX7_unused 10 = .ok (.ifCond .eq 7, 3) := by decide +kernel
theorem dX7_unused_13 : decode cX7_unused 13 = .ok (.iconst 0, 1) := by decide +kernel
theorem dX7_unused_14 : decode cX7_unused 14 = .ok (.goto 4, 3) := by decide +kernel
theorem dX7_unused_17 : decode cX7_unused 17 = .ok (.iconst 1, 1) := by decide +kernel
theorem dX7_unused_18 : decode cX7_unused 18 = .ok (.invokevirtual 74, 3) := by decide +kernel
theorem dX7_unused_21 : decode cX7_unused 21 = .ok (.ifCond .eq 5, 3) := by decide +kernel
theorem dX7_unused_24 : decode cX7_unused 24 = .ok (.iconst 0, 1) := by decide +kernel
theorem dX7_unused_25 : decode cX7_unused 25 = .ok (.ireturn, 1) := by decide +kernel
theorem dX7_unused_26 : decode cX7_unused 26 = .ok (.aload_n 0, 1) := by decide +kernel
theorem dX7_unused_27 : decode cX7_unused 27 = .ok (.getfield 7, 3) := by decide +kernel
theorem dX7_unused_30 : decode cX7_unused 30 = .ok (.iconst 0, 1) := by decide +kernel
theorem dX7_unused_31 : decode cX7_unused 31 = .ok (.aload_n 0, 1) := by decide +kernel
theorem dX7_unused_32 : decode cX7_unused 32 = .ok (.getfield 13, 3) := by decide +kernel
theorem dX7_unused_35 : decode cX7_unused 35 = .ok (.iconst 0, 1) := by decide +kernel
theorem dX7_unused_36 : decode cX7_unused 36 = .ok (.invokestatic 58, 3) := by decide +kernel
theorem dX7_unused_39 : decode cX7_unused 39 = .ok (.iload_n 1, 1) := by decide +kernel
theorem dX7_unused_40 : decode cX7_unused 40 = .ok (.aload_n 0, 1) := by decide +kernel
theorem dX7_unused_41 : decode cX7_unused 41 = .ok (.getfield 7, 3) := by decide +kernel
theorem dX7_unused_44 : decode cX7_unused 44 = .ok (.iconst 1, 1) := by decide +kernel
theorem dX7_unused_45 : decode cX7_unused 45 = .ok (.iaload, 1) := by decide +kernel
theorem dX7_unused_46 : decode cX7_unused 46 = .ok (.imul, 1) := by decide +kernel
theorem dX7_unused_47 : decode cX7_unused 47 = .ok (.aload_n 0, 1) := by decide +kernel
theorem dX7_unused_48 : decode cX7_unused 48 = .ok (.aload_n 0, 1) := by decide +kernel
theorem dX7_unused_49 : decode cX7_unused 49 = .ok (.getfield 13, 3) := by decide +kernel
theorem dX7_unused_52 : decode cX7_unused 52 = .ok (.iload_n 1, 1) := by decide +kernel
theorem dX7_unused_53 : decode cX7_unused 53 = .ok (.invokevirtual 233, 3) := by decide +kernel
theorem dX7_unused_56 : decode cX7_unused 56 = .ok (.isub, 1) := by decide +kernel
theorem dX7_unused_57 : decode cX7_unused 57 = .ok (.ireturn, 1) := by decide +kernel
theorem dX7_fairness_0 : decode cX7_fairness 0 = .ok (.aload_n 0, 1) := by decide +kernel
theorem dX7_fairness_1 : decode cX7_fairness 1 = .ok (.iconst 0, 1) := by decide +kernel
theorem dX7_fairness_2 : decode cX7_fairness 2 = .ok (.putfield 51, 3) := by decide +kernel
theorem dX7_fairness_5 : decode cX7_fairness 5 = .ok (.lconst 0, 1) := by decide +kernel
theorem dX7_fairness_6 : decode cX7_fairness 6 = .ok (.lstore_n 2, 1) := by decide +kernel
theorem dX7_fairness_7 : decode cX7_fairness 7 = .ok (.lconst 0, 1) := by decide +kernel
theorem dX7_fairness_8 : decode cX7_fairness 8 = .ok (.lstore 4, 2) := by decide +kernel
theorem dX7_fairness_10 : decode cX7_fairness 10 = .ok (.iconst 0, 1) := by decide +kernel
theorem dX7_fairness_11 : decode cX7_fairness 11 = .ok (.istore 6, 2) := by decide +kernel
theorem dX7_fairness_13 : decode cX7_fairness 13 = .ok (.iload 6, 2) := by decide +kernel
theorem dX7_fairness_15 : decode cX7_fairness 15 = .ok (.aload_n 0, 1) := by decide +kernel
theorem dX7_fairness_16 : decode cX7_fairness 16 = .ok (.getfield 7, 3) := by decide +kernel
theorem dX7_fairness_19 : decode cX7_fairness 19 = .ok (.iconst 0, 1) := by decide +kernel
theorem dX7_fairness_20 : decode cX7_fairness 20 = .ok (.iaload, 1) := by decide +kernel
theorem dX7_fairness_21 : decode cX7_fairness 21 = .ok (.if_icmp .ge 39, 3) := by decide +kernel
theorem dX7_fairness_24 : decode cX7_fairness 24 = .ok (.aload_n 0, 1) := by decide +kernel
theorem dX7_fairness_25 : decode cX7_fairness 25 = .ok (.getfield 7, 3) := by decide +kernel
theorem dX7_fairness_28 : decode cX7_fairness 28 = .ok (.iload 6, 2) := by decide +kernel
theorem dX7_fairness_30 : decode cX7_fairness 30 = .ok (.invokestatic 90, 3) := by decide +kernel
theorem dX7_fairness_33 : decode cX7_fairness 33 = .ok (.iconst 5, 1) := by decide +kernel
theorem dX7_fairness_34 : decode cX7_fairness 34 = .ok (.iadd, 1) := by decide +kernel
theorem dX7_fairness_35 : decode cX7_fairness 35 = .ok (.iaload, 1) := by decide +kernel
theorem dX7_fairness_36 : decode cX7_fairness 36 = .ok (.i2l, 1) := by decide +kernel
theorem dX7_fairness_37 : decode cX7_fairness 37 = .ok (.lstore 7, 2) := by decide +kernel
theorem dX7_fairness_39 : decode cX7_fairness 39 = .ok (.lload_n 2, 1) := by decide +kernel
theorem dX7_fairness_40 : decode cX7_fairness 40 = .ok (.lload 7, 2) := by decide +kernel
theorem dX7_fairness_42 : decode cX7_fairness 42 = .ok (.ladd, 1) := by decide +kernel
theorem dX7_fairness_43 : decode cX7_fairness 43 = .ok (.lstore_n 2, 1) := by decide +kernel
theorem dX7_fairness_44 : decode cX7_fairness 44 = .ok (.lload 4, 2) := by decide +kernel
theorem dX7_fairness_46 : decode cX7_fairness 46 = .ok (.lload 7, 2) := by decide +kernel
theorem dX7_fairness_48 : decode cX7_fairness 48 = .ok (.lload 7, 2) := by decide +kernel
theorem dX7_fairness_50 : decode cX7_fairness 50 = .ok (.lmul, 1) := by decide +kernel
theorem dX7_fairness_51 : decode cX7_fairness 51 = .ok (.ladd, 1) := by decide +kernel
theorem dX7_fairness_52 : decode cX7_fairness 52 = .ok (.lstore 4, 2) := by decide +kernel
theorem dX7_fairness_54 : decode cX7_fairness 54 = .ok (.iinc 6 1, 3) := by decide +kernel
theorem dX7_fairness_57 : decode cX7_fairness 57 = .ok (.goto (-44), 3) := by decide +kernel
theorem dX7_fairness_60 : decode cX7_fairness 60 = .ok (.lload_n 2, 1) := by decide +kernel
theorem dX7_fairness_61 : decode cX7_fairness 61 = .ok (.lconst 0, 1) := by decide +kernel
theorem dX7_fairness_62 : decode cX7_fairness 62 = .ok (.lcmp, 1) := by decide +kernel
theorem dX7_fairness_63 : decode cX7_fairness 63 = .ok (.ifCond .ne 5, 3) := by decide +kernel
theorem dX7_fairness_66 : decode cX7_fairness 66 = .ok (.lconst 1, 1) := by decide +kernel
theorem dX7_fairness_67 : decode cX7_fairness 67 = .ok (.lreturn, 1) := by decide +kernel
theorem dX7_fairness_68 : decode cX7_fairness 68 = .ok (.lload_n 2, 1) := by decide +kernel
theorem dX7_fairness_69 : decode cX7_fairness 69 = .ok (.lload_n 2, 1) := by decide +kernel
theorem dX7_fairness_70 : decode cX7_fairness 70 = .ok (.lmul, 1) := by decide +kernel
theorem dX7_fairness_71 : decode cX7_fairness 71 = .ok (.lstore 6, 2) := by decide +kernel
theorem dX7_fairness_73 : decode cX7_fairness 73 = .ok (.aload_n 0, 1) := by decide +kernel
theorem dX7_fairness_74 : decode cX7_fairness 74 = .ok (.getfield 7, 3) := by decide +kernel
theorem dX7_fairness_77 : decode cX7_fairness 77 = .ok (.iconst 0, 1) := by decide +kernel
theorem dX7_fairness_78 : decode cX7_fairness 78 = .ok (.iaload, 1) := by decide +kernel
theorem dX7_fairness_79 : decode cX7_fairness 79 = .ok (.i2l, 1) := by decide +kernel
theorem dX7_fairness_80 : decode cX7_fairness 80 = .ok (.lload 4, 2) := by decide +kernel
theorem dX7_fairness_82 : decode cX7_fairness 82 = .ok (.lmul, 1) := by decide +kernel
theorem dX7_fairness_83 : decode cX7_fairness 83 = .ok (.lstore 8, 2) := by decide +kernel
theorem dX7_fairness_85 : decode cX7_fairness 85 = .ok (.lload 6, 2) := by decide +kernel
theorem dX7_fairness_87 : decode cX7_fairness 87 = .ok (.lload 8, 2) := by decide +kernel
theorem dX7_fairness_89 : decode cX7_fairness 89 = .ok (.invokestatic 259, 3) := by decide +kernel
theorem dX7_fairness_92 : decode cX7_fairness 92 = .ok (.lstore 10, 2) := by decide +kernel
theorem dX7_fairness_94 : decode cX7_fairness 94 = .ok (.iload_n 1, 1) := by decide +kernel
theorem dX7_fairness_95 : decode cX7_fairness 95 = .ok (.ifCond .eq 11, 3) := by decide +kernel
theorem dX7_fairness_98 : decode cX7_fairness 98 = .ok (.lload 6, 2) := by decide +kernel
theorem dX7_fairness_100 : decode cX7_fairness 100 = .ok (.lload 10, 2) := by decide +kernel
theorem dX7_fairness_102 : decode cX7_fairness 102 = .ok (.ldiv, 1) := by decide +kernel
theorem dX7_fairness_103 : decode cX7_fairness 103 = .ok (.goto 8, 3) := by decide +kernel
theorem dX7_fairness_106 : decode cX7_fairness 106 = .ok (.lload 8, 2) := by decide +kernel
theorem dX7_fairness_108 : decode cX7_fairness 108 = .ok (.lload 10, 2) := by decide +kernel
theorem dX7_fairness_110 : decode cX7_fairness 110 = .ok (.ldiv, 1) := by decide +kernel
theorem dX7_fairness_111 : decode cX7_fairness 111 = .ok (.lreturn, 1) := by decide +kernel
theorem dX7_wealth_0 : decode cX7_wealth 0 = .ok (.aload_n 0, 1) := by decide +kernel
theorem dX7_wealth_1 : decode cX7_wealth 1 = .ok (.getfield 7, 3) := by decide +kernel
theorem dX7_wealth_4 : decode cX7_wealth 4 = .ok (.bipush 7, 2) := by decide +kernel
theorem dX7_wealth_6 : decode cX7_wealth 6 = .ok (.iaload, 1) := by decide +kernel
theorem dX7_wealth_7 : decode cX7_wealth 7 = .ok (.bipush (-9), 2) := by decide +kernel
theorem dX7_wealth_9 : decode cX7_wealth 9 = .ok (.if_icmp .ne 7, 3) := by decide +kernel
theorem dX7_wealth_12 : decode cX7_wealth 12 = .ok (.lconst 0, 1) := by decide +kernel
theorem dX7_wealth_13 : decode cX7_wealth 13 = .ok (.goto 11, 3) := by decide +kernel
theorem dX7_wealth_16 : decode cX7_wealth 16 = .ok (.aload_n 0, 1) := by decide +kernel
theorem dX7_wealth_17 : decode cX7_wealth 17 = .ok (.getfield 7, 3) := by decide +kernel
theorem dX7_wealth_20 : decode cX7_wealth 20 = .ok (.bipush 7, 2) := by decide +kernel
theorem dX7_wealth_22 : decode cX7_wealth 22 = .ok (.iaload, 1) := by decide +kernel
theorem dX7_wealth_23 : decode cX7_wealth 23 = .ok (.i2l, 1) := by decide +kernel
theorem dX7_wealth_24 : decode cX7_wealth 24 = .ok (.lstore_n 2, 1) := by decide +kernel
theorem dX7_wealth_25 : decode cX7_wealth 25 = .ok (.aload_n 0, 1) := by decide +kernel
theorem dX7_wealth_26 : decode cX7_wealth 26 = .ok (.getfield 7, 3) := by decide +kernel
theorem dX7_wealth_29 : decode cX7_wealth 29 = .ok (.iload_n 1, 1) := by decide +kernel
theorem dX7_wealth_30 : decode cX7_wealth 30 = .ok (.invokestatic 90, 3) := by decide +kernel
theorem dX7_wealth_33 : decode cX7_wealth 33 = .ok (.iconst 4, 1) := by decide +kernel
theorem dX7_wealth_34 : decode cX7_wealth 34 = .ok (.iadd, 1) := by decide +kernel
theorem dX7_wealth_35 : decode cX7_wealth 35 = .ok (.iaload, 1) := by decide +kernel
theorem dX7_wealth_36 : decode cX7_wealth 36 = .ok (.aload_n 0, 1) := by decide +kernel
theorem dX7_wealth_37 : decode cX7_wealth 37 = .ok (.getfield 7, 3) := by decide +kernel
theorem dX7_wealth_40 : decode cX7_wealth 40 = .ok (.iload_n 1, 1) := by decide +kernel
theorem dX7_wealth_41 : decode cX7_wealth 41 = .ok (.iconst 0, 1) := by decide +kernel
theorem dX7_wealth_42 : decode cX7_wealth 42 = .ok (.iconst 1, 1) := by decide +kernel
theorem dX7_wealth_43 : decode cX7_wealth 43 = .ok (.invokestatic 122, 3) := by decide +kernel
theorem dX7_wealth_46 : decode cX7_wealth 46 = .ok (.iadd, 1) := by decide +kernel
theorem dX7_wealth_47 : decode cX7_wealth 47 = .ok (.i2l, 1) := by decide +kernel
theorem dX7_wealth_48 : decode cX7_wealth 48 = .ok (.lload_n 2, 1) := by decide +kernel
theorem dX7_wealth_49 : decode cX7_wealth 49 = .ok (.aload_n 0, 1) := by decide +kernel
theorem dX7_wealth_50 : decode cX7_wealth 50 = .ok (.getfield 7, 3) := by decide +kernel
theorem dX7_wealth_53 : decode cX7_wealth 53 = .ok (.iload_n 1, 1) := by decide +kernel
theorem dX7_wealth_54 : decode cX7_wealth 54 = .ok (.invokestatic 179, 3) := by decide +kernel
theorem dX7_wealth_57 : decode cX7_wealth 57 = .ok (.aload_n 0, 1) := by decide +kernel
theorem dX7_wealth_58 : decode cX7_wealth 58 = .ok (.getfield 7, 3) := by decide +kernel
theorem dX7_wealth_61 : decode cX7_wealth 61 = .ok (.iload_n 1, 1) := by decide +kernel
theorem dX7_wealth_62 : decode cX7_wealth 62 = .ok (.iconst 1, 1) := by decide +kernel
theorem dX7_wealth_63 : decode cX7_wealth 63 = .ok (.iconst 0, 1) := by decide +kernel
theorem dX7_wealth_64 : decode cX7_wealth 64 = .ok (.invokestatic 122, 3) := by decide +kernel
theorem dX7_wealth_67 : decode cX7_wealth 67 = .ok (.iadd, 1) := by decide +kernel
theorem dX7_wealth_68 : decode cX7_wealth 68 = .ok (.aload_n 0, 1) := by decide +kernel
theorem dX7_wealth_69 : decode cX7_wealth 69 = .ok (.getfield 7, 3) := by decide +kernel
theorem dX7_wealth_72 : decode cX7_wealth 72 = .ok (.iload_n 1, 1) := by decide +kernel
theorem dX7_wealth_73 : decode cX7_wealth 73 = .ok (.invokestatic 126, 3) := by decide +kernel
theorem dX7_wealth_76 : decode cX7_wealth 76 = .ok (.isub, 1) := by decide +kernel
theorem dX7_wealth_77 : decode cX7_wealth 77 = .ok (.i2l, 1) := by decide +kernel
theorem dX7_wealth_78 : decode cX7_wealth 78 = .ok (.lmul, 1) := by decide +kernel
theorem dX7_wealth_79 : decode cX7_wealth 79 = .ok (.ladd, 1) := by decide +kernel
theorem dX7_wealth_80 : decode cX7_wealth 80 = .ok (.lreturn, 1) := by decide +kernel
theorem dX7_wealthiest_0 : decode cX7_wealthiest 0 = .ok (.aload_n 0, 1) := by decide +kernel
theorem dX7_wealthiest_1 : decode cX7_wealthiest 1 = .ok (.aload_n 0, 1) := by decide +kernel
theorem dX7_wealthiest_2 : decode cX7_wealthiest 2 = .ok (.getfield 7, 3) := by decide +kernel
theorem dX7_wealthiest_5 : decode cX7_wealthiest 5 = .ok (.iload_n 1, 1) := by decide +kernel
theorem dX7_wealthiest_6 : decode cX7_wealthiest 6 = .ok (.invokestatic 94, 3) := by decide +kernel
theorem dX7_wealthiest_9 : decode cX7_wealthiest 9 = .ok (.ifCond .eq 7, 3) := by decide +kernel
theorem dX7_wealthiest_12 : decode cX7_wealthiest 12 = .ok (.iconst 0, 1) := by decide +kernel
theorem dX7_wealthiest_13 : decode cX7_wealthiest 13 = .ok (.goto 4, 3) := by decide +kernel
theorem dX7_wealthiest_16 : decode cX7_wealthiest 16 = .ok (.iconst 1, 1) := by decide +kernel
theorem dX7_wealthiest_17 : decode cX7_wealthiest 17 = .ok (.invokevirtual 74, 3) := by decide +kernel
theorem dX7_wealthiest_20 : decode cX7_wealthiest 20 = .ok (.ifCond .eq 5, 3) := by decide +kernel
theorem dX7_wealthiest_23 : decode cX7_wealthiest 23 = .ok (.iconst 0, 1) := by decide +kernel
theorem dX7_wealthiest_24 : decode cX7_wealthiest 24 = .ok (.ireturn, 1) := by decide +kernel
theorem dX7_wealthiest_25 : decode cX7_wealthiest 25 = .ok (.iconst 0, 1) := by decide +kernel
theorem dX7_wealthiest_26 : decode cX7_wealthiest 26 = .ok (.istore_n 2, 1) := by decide +kernel
theorem dX7_wealthiest_27 : decode cX7_wealthiest 27 = .ok (.iconst 0, 1) := by decide +kernel
theorem dX7_wealthiest_28 : decode cX7_wealthiest 28 = .ok (.istore_n 3, 1) := by decide +kernel
theorem dX7_wealthiest_29 : decode cX7_wealthiest 29 = .ok (.iload_n 3, 1) := by decide +kernel
theorem dX7_wealthiest_30 : decode cX7_wealthiest 30 = .ok (.aload_n 0, 1) := by decide +kernel
theorem dX7_wealthiest_31 : decode cX7_wealthiest 31 = .ok (.getfield 7, 3) := by decide +kernel
theorem dX7_wealthiest_34 : decode cX7_wealthiest 34 = .ok (.iconst 0, 1) := by decide +kernel
theorem dX7_wealthiest_35 : decode cX7_wealthiest 35 = .ok (.iaload, 1) := by decide +kernel
theorem dX7_wealthiest_36 : decode cX7_wealthiest 36 = .ok (.if_icmp .ge 90, 3) := by decide +kernel
theorem dX7_wealthiest_39 : decode cX7_wealthiest 39 = .ok (.iconst 0, 1) := by decide +kernel
theorem dX7_wealthiest_40 : decode cX7_wealthiest 40 = .ok (.istore 4, 2) := by decide +kernel
theorem dX7_wealthiest_42 : decode cX7_wealthiest 42 = .ok (.iconst 0, 1) := by decide +kernel
theorem dX7_wealthiest_43 : decode cX7_wealthiest 43 = .ok (.istore 5, 2) := by decide +kernel
theorem dX7_wealthiest_45 : decode cX7_wealthiest 45 = .ok (.iload 5, 2) := by decide +kernel
theorem dX7_wealthiest_47 : decode cX7_wealthiest 47 = .ok (.aload_n 0, 1) := by decide +kernel
theorem dX7_wealthiest_48 : decode cX7_wealthiest 48 = .ok (.getfield 7, 3) := by decide +kernel
theorem dX7_wealthiest_51 : decode cX7_wealthiest 51 = .ok (.iconst 0, 1) := by decide +kernel
theorem dX7_wealthiest_52 : decode cX7_wealthiest 52 = .ok (.iaload, 1) := by decide +kernel
theorem dX7_wealthiest_53 : decode cX7_wealthiest 53 = .ok (.if_icmp .ge 55, 3) := by decide +kernel
theorem dX7_wealthiest_56 : decode cX7_wealthiest 56 = .ok (.iload 4, 2) := by decide +kernel
theorem dX7_wealthiest_58 : decode cX7_wealthiest 58 = .ok (.aload_n 0, 1) := by decide +kernel
theorem dX7_wealthiest_59 : decode cX7_wealthiest 59 = .ok (.iload 5, 2) := by decide +kernel
theorem dX7_wealthiest_61 : decode cX7_wealthiest 61 = .ok (.invokevirtual 263, 3) := by decide +kernel
theorem dX7_wealthiest_64 : decode cX7_wealthiest 64 = .ok (.aload_n 0, 1) := by decide +kernel
theorem dX7_wealthiest_65 : decode cX7_wealthiest 65 = .ok (.iload_n 3, 1) := by decide +kernel
theorem dX7_wealthiest_66 : decode cX7_wealthiest 66 = .ok (.invokevirtual 263, 3) := by decide +kernel
theorem dX7_wealthiest_69 : decode cX7_wealthiest 69 = .ok (.lcmp, 1) := by decide +kernel
theorem dX7_wealthiest_70 : decode cX7_wealthiest 70 = .ok (.ifCond .gt 24, 3) := by decide +kernel
theorem dX7_wealthiest_73 : decode cX7_wealthiest 73 = .ok (.aload_n 0, 1) := by decide +kernel
theorem dX7_wealthiest_74 : decode cX7_wealthiest 74 = .ok (.iload 5, 2) := by decide +kernel
theorem dX7_wealthiest_76 : decode cX7_wealthiest 76 = .ok (.invokevirtual 263, 3) := by decide +kernel
theorem dX7_wealthiest_79 : decode cX7_wealthiest 79 = .ok (.aload_n 0, 1) := by decide +kernel
theorem dX7_wealthiest_80 : decode cX7_wealthiest 80 = .ok (.iload_n 3, 1) := by decide +kernel
theorem dX7_wealthiest_81 : decode cX7_wealthiest 81 = .ok (.invokevirtual 263, 3) := by decide +kernel
theorem dX7_wealthiest_84 : decode cX7_wealthiest 84 = .ok (.lcmp, 1) := by decide +kernel
theorem dX7_wealthiest_85 : decode cX7_wealthiest 85 = .ok (.ifCond .ne 13, 3) := by decide +kernel
theorem dX7_wealthiest_88 : decode cX7_wealthiest 88 = .ok (.iload 5, 2) := by decide +kernel
theorem dX7_wealthiest_90 : decode cX7_wealthiest 90 = .ok (.iload_n 3, 1) := by decide +kernel
theorem dX7_wealthiest_91 : decode cX7_wealthiest 91 = .ok (.if_icmp .ge 7, 3) := by decide +kernel
theorem dX7_wealthiest_94 : decode cX7_wealthiest 94 = .ok (.iconst 1, 1) := by decide +kernel
theorem dX7_wealthiest_95 : decode cX7_wealthiest 95 = .ok (.goto 4, 3) := by decide +kernel
theorem dX7_wealthiest_98 : decode cX7_wealthiest 98 = .ok (.iconst 0, 1) := by decide +kernel
theorem dX7_wealthiest_99 : decode cX7_wealthiest 99 = .ok (.iadd, 1) := by decide +kernel
theorem dX7_wealthiest_100 : decode cX7_wealthiest 100 = .ok (.istore 4, 2) := by decide +kernel
theorem dX7_wealthiest_102 : decode cX7_wealthiest 102 = .ok (.iinc 5 1, 3) := by decide +kernel
theorem dX7_wealthiest_105 : decode cX7_wealthiest 105 = .ok (.goto (-60), 3) := by decide +kernel
theorem dX7_wealthiest_108 : decode cX7_wealthiest 108 = .ok (.iload 4, 2) := by decide +kernel
theorem dX7_wealthiest_110 : decode cX7_wealthiest 110 = .ok (.iload_n 1, 1) := by decide +kernel
theorem dX7_wealthiest_111 : decode cX7_wealthiest 111 = .ok (.if_icmp .ne 7, 3) := by decide +kernel
theorem dX7_wealthiest_114 : decode cX7_wealthiest 114 = .ok (.iload_n 3, 1) := by decide +kernel
theorem dX7_wealthiest_115 : decode cX7_wealthiest 115 = .ok (.goto 4, 3) := by decide +kernel
theorem dX7_wealthiest_118 : decode cX7_wealthiest 118 = .ok (.iload_n 2, 1) := by decide +kernel
theorem dX7_wealthiest_119 : decode cX7_wealthiest 119 = .ok (.istore_n 2, 1) := by decide +kernel
theorem dX7_wealthiest_120 : decode cX7_wealthiest 120 = .ok (.iinc 3 1, 3) := by decide +kernel
theorem dX7_wealthiest_123 : decode cX7_wealthiest 123 = .ok (.goto (-94), 3) := by decide +kernel
theorem dX7_wealthiest_126 : decode cX7_wealthiest 126 = .ok (.iload_n 2, 1) := by decide +kernel
theorem dX7_wealthiest_127 : decode cX7_wealthiest 127 = .ok (.ireturn, 1) := by decide +kernel
theorem dX7_orders_0 : decode cX7_orders 0 = .ok (.aload_n 0, 1) := by decide +kernel
theorem dX7_orders_1 : decode cX7_orders 1 = .ok (.iload_n 1, 1) := by decide +kernel
theorem dX7_orders_2 : decode cX7_orders 2 = .ok (.iload_n 2, 1) := by decide +kernel
theorem dX7_orders_3 : decode cX7_orders 3 = .ok (.iload_n 3, 1) := by decide +kernel
theorem dX7_orders_4 : decode cX7_orders 4 = .ok (.iload 4, 2) := by decide +kernel
theorem dX7_orders_6 : decode cX7_orders 6 = .ok (.invokestatic 208, 3) := by decide +kernel
theorem dX7_orders_9 : decode cX7_orders 9 = .ok (.ifCond .ne 7, 3) := by decide +kernel
theorem dX7_orders_12 : decode cX7_orders 12 = .ok (.iconst 1, 1) := by decide +kernel
theorem dX7_orders_13 : decode cX7_orders 13 = .ok (.goto 4, 3) := by decide +kernel
theorem dX7_orders_16 : decode cX7_orders 16 = .ok (.iconst 0, 1) := by decide +kernel
theorem dX7_orders_17 : decode cX7_orders 17 = .ok (.istore 5, 2) := by decide +kernel
theorem dX7_orders_19 : decode cX7_orders 19 = .ok (.iload 5, 2) := by decide +kernel
theorem dX7_orders_21 : decode cX7_orders 21 = .ok (.ifCond .eq 13, 3) := by decide +kernel
theorem dX7_orders_24 : decode cX7_orders 24 = .ok (.aload_n 0, 1) := by decide +kernel
theorem dX7_orders_25 : decode cX7_orders 25 = .ok (.iload_n 1, 1) := by decide +kernel
theorem dX7_orders_26 : decode cX7_orders 26 = .ok (.iload_n 2, 1) := by decide +kernel
theorem dX7_orders_27 : decode cX7_orders 27 = .ok (.iload_n 3, 1) := by decide +kernel
theorem dX7_orders_28 : decode cX7_orders 28 = .ok (.iload 4, 2) := by decide +kernel
theorem dX7_orders_30 : decode cX7_orders 30 = .ok (.invokestatic 215, 3) := by decide +kernel
theorem dX7_orders_33 : decode cX7_orders 33 = .ok (.pop, 1) := by decide +kernel
theorem dX7_orders_34 : decode cX7_orders 34 = .ok (.iload 5, 2) := by decide +kernel
theorem dX7_orders_36 : decode cX7_orders 36 = .ok (.ireturn, 1) := by decide +kernel
theorem dX7_pushes_0 : decode cX7_pushes 0 = .ok (.aload_n 0, 1) := by decide +kernel
theorem dX7_pushes_1 : decode cX7_pushes 1 = .ok (.iload_n 1, 1) := by decide +kernel
theorem dX7_pushes_2 : decode cX7_pushes 2 = .ok (.iload_n 2, 1) := by decide +kernel
theorem dX7_pushes_3 : decode cX7_pushes 3 = .ok (.invokestatic 222, 3) := by decide +kernel
theorem dX7_pushes_6 : decode cX7_pushes 6 = .ok (.ifCond .ne 7, 3) := by decide +kernel
theorem dX7_pushes_9 : decode cX7_pushes 9 = .ok (.iconst 1, 1) := by decide +kernel
theorem dX7_pushes_10 : decode cX7_pushes 10 = .ok (.goto 4, 3) := by decide +kernel
theorem dX7_pushes_13 : decode cX7_pushes 13 = .ok (.iconst 0, 1) := by decide +kernel
theorem dX7_pushes_14 : decode cX7_pushes 14 = .ok (.istore_n 3, 1) := by decide +kernel
theorem dX7_pushes_15 : decode cX7_pushes 15 = .ok (.iload_n 3, 1) := by decide +kernel
theorem dX7_pushes_16 : decode cX7_pushes 16 = .ok (.ifCond .eq 10, 3) := by decide +kernel
theorem dX7_pushes_19 : decode cX7_pushes 19 = .ok (.aload_n 0, 1) := by decide +kernel
theorem dX7_pushes_20 : decode cX7_pushes 20 = .ok (.iload_n 1, 1) := by decide +kernel
theorem dX7_pushes_21 : decode cX7_pushes 21 = .ok (.iload_n 2, 1) := by decide +kernel
theorem dX7_pushes_22 : decode cX7_pushes 22 = .ok (.invokestatic 225, 3) := by decide +kernel
theorem dX7_pushes_25 : decode cX7_pushes 25 = .ok (.pop, 1) := by decide +kernel
theorem dX7_pushes_26 : decode cX7_pushes 26 = .ok (.iload_n 3, 1) := by decide +kernel
theorem dX7_pushes_27 : decode cX7_pushes 27 = .ok (.ireturn, 1) := by decide +kernel
