theorem dX7_refused_0 : decode cX7_refused 0 = .ok (.aload_n 0, 1) := by decide +kernel
theorem dX7_refused_1 : decode cX7_refused 1 = .ok (.iload_n 1, 1) := by decide +kernel
theorem dX7_refused_2 : decode cX7_refused 2 = .ok (.putfield 51, 3) := by decide +kernel
theorem dX7_refused_5 : decode cX7_refused 5 = .ok (.iload_n 1, 1) := by decide +kernel
theorem dX7_refused_6 : decode cX7_refused 6 = .ok (.ifCond .le 7, 3) := by decide +kernel
theorem dX7_refused_9 : decode cX7_refused 9 = .ok (.iconst 1, 1) := by decide +kernel
theorem dX7_refused_10 : decode cX7_refused 10 = .ok (.goto 4, 3) := by decide +kernel
theorem dX7_refused_13 : decode cX7_refused 13 = .ok (.iconst 0, 1) := by decide +kernel
theorem dX7_refused_14 : decode cX7_refused 14 = .ok (.ireturn, 1) := by decide +kernel
theorem dX7_clear_0 : decode cX7_clear 0 = .ok (.iconst 0, 1) := by decide +kernel
theorem dX7_clear_1 : decode cX7_clear 1 = .ok (.istore_n 1, 1) := by decide +kernel
theorem dX7_clear_2 : decode cX7_clear 2 = .ok (.iload_n 1, 1) := by decide +kernel
theorem dX7_clear_3 : decode cX7_clear 3 = .ok (.sipush 1360, 3) := by decide +kernel
theorem dX7_clear_6 : decode cX7_clear 6 = .ok (.if_icmp .ge 13, 3) := by decide +kernel
theorem dX7_clear_9 : decode cX7_clear 9 = .ok (.aload_n 0, 1) := by decide +kernel
theorem dX7_clear_10 : decode cX7_clear 10 = .ok (.iload_n 1, 1) := by decide +kernel
theorem dX7_clear_11 : decode cX7_clear 11 = .ok (.iconst 0, 1) := by decide +kernel
theorem dX7_clear_12 : decode cX7_clear 12 = .ok (.iastore, 1) := by decide +kernel
theorem dX7_clear_13 : decode cX7_clear 13 = .ok (.iinc 1 1, 3) := by decide +kernel
theorem dX7_clear_16 : decode cX7_clear 16 = .ok (.goto (-14), 3) := by decide +kernel
theorem dX7_clear_19 : decode cX7_clear 19 = .ok (.aload_n 0, 1) := by decide +kernel
theorem dX7_clear_20 : decode cX7_clear 20 = .ok (.bipush 7, 2) := by decide +kernel
theorem dX7_clear_22 : decode cX7_clear 22 = .ok (.bipush (-9), 2) := by decide +kernel
theorem dX7_clear_24 : decode cX7_clear 24 = .ok (.iastore, 1) := by decide +kernel
theorem dX7_clear_25 : decode cX7_clear 25 = .ok (.return_, 1) := by decide +kernel
theorem dX7_in_0 : decode cX7_in 0 = .ok (.lload_n 0, 1) := by decide +kernel
theorem dX7_in_1 : decode cX7_in 1 = .ok (.lload_n 2, 1) := by decide +kernel
theorem dX7_in_2 : decode cX7_in 2 = .ok (.lcmp, 1) := by decide +kernel
theorem dX7_in_3 : decode cX7_in 3 = .ok (.ifCond .lt 14, 3) := by decide +kernel
theorem dX7_in_6 : decode cX7_in 6 = .ok (.lload_n 0, 1) := by decide +kernel
theorem dX7_in_7 : decode cX7_in 7 = .ok (.lload 4, 2) := by decide +kernel
theorem dX7_in_9 : decode cX7_in 9 = .ok (.lcmp, 1) := by decide +kernel
theorem dX7_in_10 : decode cX7_in 10 = .ok (.ifCond .gt 7, 3) := by decide +kernel
theorem dX7_in_13 : decode cX7_in 13 = .ok (.iconst 1, 1) := by decide +kernel
theorem dX7_in_14 : decode cX7_in 14 = .ok (.goto 4, 3) := by decide +kernel
theorem dX7_in_17 : decode cX7_in 17 = .ok (.iconst 0, 1) := by decide +kernel
theorem dX7_in_18 : decode cX7_in 18 = .ok (.ireturn, 1) := by decide +kernel
theorem dX7_lesser_0 : decode cX7_lesser 0 = .ok (.iload_n 0, 1) := by decide +kernel
theorem dX7_lesser_1 : decode cX7_lesser 1 = .ok (.iload_n 1, 1) := by decide +kernel
theorem dX7_lesser_2 : decode cX7_lesser 2 = .ok (.if_icmp .ge 7, 3) := by decide +kernel
theorem dX7_lesser_5 : decode cX7_lesser 5 = .ok (.iload_n 0, 1) := by decide +kernel
theorem dX7_lesser_6 : decode cX7_lesser 6 = .ok (.goto 4, 3) := by decide +kernel
theorem dX7_lesser_9 : decode cX7_lesser 9 = .ok (.iload_n 1, 1) := by decide +kernel
theorem dX7_lesser_10 : decode cX7_lesser 10 = .ok (.ireturn, 1) := by decide +kernel
theorem dX7_copy_0 : decode cX7_copy 0 = .ok (.iconst 0, 1) := by decide +kernel
theorem dX7_copy_1 : decode cX7_copy 1 = .ok (.istore 4, 2) := by decide +kernel
theorem dX7_copy_3 : decode cX7_copy 3 = .ok (.iload 4, 2) := by decide +kernel
theorem dX7_copy_5 : decode cX7_copy 5 = .ok (.sipush 1360, 3) := by decide +kernel
theorem dX7_copy_8 : decode cX7_copy 8 = .ok (.if_icmp .ge 21, 3) := by decide +kernel
theorem dX7_copy_11 : decode cX7_copy 11 = .ok (.aload_n 2, 1) := by decide +kernel
theorem dX7_copy_12 : decode cX7_copy 12 = .ok (.iload_n 3, 1) := by decide +kernel
theorem dX7_copy_13 : decode cX7_copy 13 = .ok (.iload 4, 2) := by decide +kernel
theorem dX7_copy_15 : decode cX7_copy 15 = .ok (.iadd, 1) := by decide +kernel
theorem dX7_copy_16 : decode cX7_copy 16 = .ok (.aload_n 0, 1) := by decide +kernel
theorem dX7_copy_17 : decode cX7_copy 17 = .ok (.iload_n 1, 1) := by decide +kernel
theorem dX7_copy_18 : decode cX7_copy 18 = .ok (.iload 4, 2) := by decide +kernel
theorem dX7_copy_20 : decode cX7_copy 20 = .ok (.iadd, 1) := by decide +kernel
theorem dX7_copy_21 : decode cX7_copy 21 = .ok (.iaload, 1) := by decide +kernel
theorem dX7_copy_22 : decode cX7_copy 22 = .ok (.iastore, 1) := by decide +kernel
theorem dX7_copy_23 : decode cX7_copy 23 = .ok (.iinc 4 1, 3) := by decide +kernel
theorem dX7_copy_26 : decode cX7_copy 26 = .ok (.goto (-23), 3) := by decide +kernel
theorem dX7_copy_29 : decode cX7_copy 29 = .ok (.return_, 1) := by decide +kernel
theorem dX7_note_0 : decode cX7_note 0 = .ok (.aload_n 0, 1) := by decide +kernel
theorem dX7_note_1 : decode cX7_note 1 = .ok (.getfield 7, 3) := by decide +kernel
theorem dX7_note_4 : decode cX7_note 4 = .ok (.iconst 0, 1) := by decide +kernel
theorem dX7_note_5 : decode cX7_note 5 = .ok (.aload_n 0, 1) := by decide +kernel
theorem dX7_note_6 : decode cX7_note 6 = .ok (.getfield 16, 3) := by decide +kernel
theorem dX7_note_9 : decode cX7_note 9 = .ok (.sipush 1360, 3) := by decide +kernel
theorem dX7_note_12 : decode cX7_note 12 = .ok (.aload_n 0, 1) := by decide +kernel
theorem dX7_note_13 : decode cX7_note 13 = .ok (.getfield 55, 3) := by decide +kernel
theorem dX7_note_16 : decode cX7_note 16 = .ok (.imul, 1) := by decide +kernel
theorem dX7_note_17 : decode cX7_note 17 = .ok (.invokestatic 58, 3) := by decide +kernel
theorem dX7_note_20 : decode cX7_note 20 = .ok (.aload_n 0, 1) := by decide +kernel
theorem dX7_note_21 : decode cX7_note 21 = .ok (.aload_n 0, 1) := by decide +kernel
theorem dX7_note_22 : decode cX7_note 22 = .ok (.getfield 55, 3) := by decide +kernel
theorem dX7_note_25 : decode cX7_note 25 = .ok (.iconst 1, 1) := by decide +kernel
theorem dX7_note_26 : decode cX7_note 26 = .ok (.iadd, 1) := by decide +kernel
theorem dX7_note_27 : decode cX7_note 27 = .ok (.bipush 14, 2) := by decide +kernel
theorem dX7_note_29 : decode cX7_note 29 = .ok (.irem, 1) := by decide +kernel
theorem dX7_note_30 : decode cX7_note 30 = .ok (.putfield 55, 3) := by decide +kernel
theorem dX7_note_33 : decode cX7_note 33 = .ok (.aload_n 0, 1) := by decide +kernel
theorem dX7_note_34 : decode cX7_note 34 = .ok (.aload_n 0, 1) := by decide +kernel
theorem dX7_note_35 : decode cX7_note 35 = .ok (.getfield 62, 3) := by decide +kernel
theorem dX7_note_38 : decode cX7_note 38 = .ok (.bipush 14, 2) := by decide +kernel
theorem dX7_note_40 : decode cX7_note 40 = .ok (.if_icmp .ge 12, 3) := by decide +kernel
theorem dX7_note_43 : decode cX7_note 43 = .ok (.aload_n 0, 1) := by decide +kernel
theorem dX7_note_44 : decode cX7_note 44 = .ok (.getfield 62, 3) := by decide +kernel
theorem dX7_note_47 : decode cX7_note 47 = .ok (.iconst 1, 1) := by decide +kernel
theorem dX7_note_48 : decode cX7_note 48 = .ok (.iadd, 1) := by decide +kernel
theorem dX7_note_49 : decode cX7_note 49 = .ok (.goto 5, 3) := by decide +kernel
theorem dX7_note_52 : decode cX7_note 52 = .ok (.bipush 14, 2) := by decide +kernel
theorem dX7_note_54 : decode cX7_note 54 = .ok (.putfield 62, 3) := by decide +kernel
theorem dX7_note_57 : decode cX7_note 57 = .ok (.return_, 1) := by decide +kernel
theorem dX7_at_0 : decode cX7_at 0 = .ok (.bipush 58, 2) := by decide +kernel
theorem dX7_at_2 : decode cX7_at 2 = .ok (.sipush 217, 3) := by decide +kernel
theorem dX7_at_5 : decode cX7_at 5 = .ok (.iload_n 0, 1) := by decide +kernel
theorem dX7_at_6 : decode cX7_at 6 = .ok (.imul, 1) := by decide +kernel
theorem dX7_at_7 : decode cX7_at 7 = .ok (.iadd, 1) := by decide +kernel
theorem dX7_at_8 : decode cX7_at 8 = .ok (.ireturn, 1) := by decide +kernel
theorem dX7_orderAt_0 : decode cX7_orderAt 0 = .ok (.bipush 10, 2) := by decide +kernel
theorem dX7_orderAt_2 : decode cX7_orderAt 2 = .ok (.iconst 4, 1) := by decide +kernel
theorem dX7_orderAt_3 : decode cX7_orderAt 3 = .ok (.iload_n 0, 1) := by decide +kernel
theorem dX7_orderAt_4 : decode cX7_orderAt 4 = .ok (.imul, 1) := by decide +kernel
theorem dX7_orderAt_5 : decode cX7_orderAt 5 = .ok (.iadd, 1) := by decide +kernel
theorem dX7_orderAt_6 : decode cX7_orderAt 6 = .ok (.ireturn, 1) := by decide +kernel
theorem dX7_isTenant_0 : decode cX7_isTenant 0 = .ok (.iload_n 1, 1) := by decide +kernel
theorem dX7_isTenant_1 : decode cX7_isTenant 1 = .ok (.i2l, 1) := by decide +kernel
theorem dX7_isTenant_2 : decode cX7_isTenant 2 = .ok (.lconst 0, 1) := by decide +kernel
theorem dX7_isTenant_3 : decode cX7_isTenant 3 = .ok (.aload_n 0, 1) := by decide +kernel
theorem dX7_isTenant_4 : decode cX7_isTenant 4 = .ok (.iconst 0, 1) := by decide +kernel
theorem dX7_isTenant_5 : decode cX7_isTenant 5 = .ok (.iaload, 1) := by decide +kernel
theorem dX7_isTenant_6 : decode cX7_isTenant 6 = .ok (.iconst 1, 1) := by decide +kernel
theorem dX7_isTenant_7 : decode cX7_isTenant 7 = .ok (.isub, 1) := by decide +kernel
theorem dX7_isTenant_8 : decode cX7_isTenant 8 = .ok (.i2l, 1) := by decide +kernel
theorem dX7_isTenant_9 : decode cX7_isTenant 9 = .ok (.invokestatic 65, 3) := by decide +kernel
theorem dX7_isTenant_12 : decode cX7_isTenant 12 = .ok (.ireturn, 1) := by decide +kernel
theorem dX7_isOrder_0 : decode cX7_isOrder 0 = .ok (.iload_n 1, 1) := by decide +kernel
theorem dX7_isOrder_1 : decode cX7_isOrder 1 = .ok (.i2l, 1) := by decide +kernel
theorem dX7_isOrder_2 : decode cX7_isOrder 2 = .ok (.lconst 0, 1) := by decide +kernel
theorem dX7_isOrder_3 : decode cX7_isOrder 3 = .ok (.aload_n 0, 1) := by decide +kernel
theorem dX7_isOrder_4 : decode cX7_isOrder 4 = .ok (.getfield 7, 3) := by decide +kernel
theorem dX7_isOrder_7 : decode cX7_isOrder 7 = .ok (.bipush 8, 2) := by decide +kernel
theorem dX7_isOrder_9 : decode cX7_isOrder 9 = .ok (.iaload, 1) := by decide +kernel
theorem dX7_isOrder_10 : decode cX7_isOrder 10 = .ok (.iconst 1, 1) := by decide +kernel
theorem dX7_isOrder_11 : decode cX7_isOrder 11 = .ok (.isub, 1) := by decide +kernel
theorem dX7_isOrder_12 : decode cX7_isOrder 12 = .ok (.i2l, 1) := by decide +kernel
theorem dX7_isOrder_13 : decode cX7_isOrder 13 = .ok (.invokestatic 65, 3) := by decide +kernel
theorem dX7_isOrder_16 : decode cX7_isOrder 16 = .ok (.ireturn, 1) := by decide +kernel
theorem dX7_append_0 : decode cX7_append 0 = .ok (.aload_n 0, 1) := by decide +kernel
theorem dX7_append_1 : decode cX7_append 1 = .ok (.iload_n 1, 1) := by decide +kernel
theorem dX7_append_2 : decode cX7_append 2 = .ok (.i2l, 1) := by decide +kernel
theorem dX7_append_3 : decode cX7_append 3 = .ok (.lconst 0, 1) := by decide +kernel
theorem dX7_append_4 : decode cX7_append 4 = .ok (.ldc2_w 69, 3) := by decide +kernel
theorem dX7_append_7 : decode cX7_append 7 = .ok (.invokestatic 65, 3) := by decide +kernel
theorem dX7_append_10 : decode cX7_append 10 = .ok (.ifCond .ne 7, 3) := by decide +kernel
theorem dX7_append_13 : decode cX7_append 13 = .ok (.iconst 1, 1) := by decide +kernel
theorem dX7_append_14 : decode cX7_append 14 = .ok (.goto 18, 3) := by decide +kernel
theorem dX7_append_17 : decode cX7_append 17 = .ok (.aload_n 0, 1) := by decide +kernel
theorem dX7_append_18 : decode cX7_append 18 = .ok (.getfield 71, 3) := by decide +kernel
theorem dX7_append_21 : decode cX7_append 21 = .ok (.sipush 160, 3) := by decide +kernel
theorem dX7_append_24 : decode cX7_append 24 = .ok (.if_icmp .ne 7, 3) := by decide +kernel
theorem dX7_append_27 : decode cX7_append 27 = .ok (.iconst 2, 1) := by decide +kernel
theorem dX7_append_28 : decode cX7_append 28 = .ok (.goto 4, 3) := by decide +kernel
theorem dX7_append_31 : decode cX7_append 31 = .ok (.iconst 0, 1) := by decide +kernel
theorem dX7_append_32 : decode cX7_append 32 = .ok (.invokevirtual 74, 3) := by decide +kernel
theorem dX7_append_35 : decode cX7_append 35 = .ok (.ifCond .eq 5, 3) := by decide +kernel
theorem dX7_append_38 : decode cX7_append 38 = .ok (.iconst 0, 1) := by decide +kernel
theorem dX7_append_39 : decode cX7_append 39 = .ok (.ireturn, 1) := by decide +kernel
theorem dX7_append_40 : decode cX7_append 40 = .ok (.aload_n 0, 1) := by decide +kernel
theorem dX7_append_41 : decode cX7_append 41 = .ok (.getfield 26, 3) := by decide +kernel
theorem dX7_append_44 : decode cX7_append 44 = .ok (.aload_n 0, 1) := by decide +kernel
theorem dX7_append_45 : decode cX7_append 45 = .ok (.getfield 71, 3) := by decide +kernel
theorem dX7_append_48 : decode cX7_append 48 = .ok (.iload_n 1, 1) := by decide +kernel
theorem dX7_append_49 : decode cX7_append 49 = .ok (.iastore, 1) := by decide +kernel
theorem dX7_append_50 : decode cX7_append 50 = .ok (.aload_n 0, 1) := by decide +kernel
theorem dX7_append_51 : decode cX7_append 51 = .ok (.dup, 1) := by decide +kernel
theorem dX7_append_52 : decode cX7_append 52 = .ok (.getfield 71, 3) := by decide +kernel
theorem dX7_append_55 : decode cX7_append 55 = .ok (.iconst 1, 1) := by decide +kernel
theorem dX7_append_56 : decode cX7_append 56 = .ok (.iadd, 1) := by decide +kernel
theorem dX7_append_57 : decode cX7_append 57 = .ok (.putfield 71, 3) := by decide +kernel
theorem dX7_append_60 : decode cX7_append 60 = .ok (.aload_n 0, 1) := by decide +kernel
theorem dX7_append_61 : decode cX7_append 61 = .ok (.getfield 71, 3) := by decide +kernel
theorem dX7_append_64 : decode cX7_append 64 = .ok (.ireturn, 1) := by decide +kernel
theorem dX7_clearText_0 : decode cX7_clearText 0 = .ok (.aload_n 0, 1) := by decide +kernel
theorem dX7_clearText_1 : decode cX7_clearText 1 = .ok (.iconst 0, 1) := by decide +kernel
theorem dX7_clearText_2 : decode cX7_clearText 2 = .ok (.putfield 51, 3) := by decide +kernel
theorem dX7_clearText_5 : decode cX7_clearText 5 = .ok (.aload_n 0, 1) := by decide +kernel
theorem dX7_clearText_6 : decode cX7_clearText 6 = .ok (.getfield 71, 3) := by decide +kernel
theorem dX7_clearText_9 : decode cX7_clearText 9 = .ok (.istore_n 1, 1) := by decide +kernel
theorem dX7_clearText_10 : decode cX7_clearText 10 = .ok (.aload_n 0, 1) := by decide +kernel
theorem dX7_clearText_11 : decode cX7_clearText 11 = .ok (.iconst 0, 1) := by decide +kernel
theorem dX7_clearText_12 : decode cX7_clearText 12 = .ok (.putfield 71, 3) := by decide +kernel
theorem dX7_clearText_15 : decode cX7_clearText 15 = .ok (.iload_n 1, 1) := by decide +kernel
theorem dX7_clearText_16 : decode cX7_clearText 16 = .ok (.ireturn, 1) := by decide +kernel
theorem dX7_passes_0 : decode cX7_passes 0 = .ok (.aload_n 0, 1) := by decide +kernel
theorem dX7_passes_1 : decode cX7_passes 1 = .ok (.getfield 78, 3) := by decide +kernel
theorem dX7_passes_4 : decode cX7_passes 4 = .ok (.aload_n 0, 1) := by decide +kernel
theorem dX7_passes_5 : decode cX7_passes 5 = .ok (.getfield 71, 3) := by decide +kernel
theorem dX7_passes_8 : decode cX7_passes 8 = .ok (.if_icmp .ge 20, 3) := by decide +kernel
theorem dX7_passes_11 : decode cX7_passes 11 = .ok (.aload_n 0, 1) := by decide +kernel
theorem dX7_passes_12 : decode cX7_passes 12 = .ok (.getfield 26, 3) := by decide +kernel
theorem dX7_passes_15 : decode cX7_passes 15 = .ok (.aload_n 0, 1) := by decide +kernel
theorem dX7_passes_16 : decode cX7_passes 16 = .ok (.getfield 78, 3) := by decide +kernel
theorem dX7_passes_19 : decode cX7_passes 19 = .ok (.iaload, 1) := by decide +kernel
theorem dX7_passes_20 : decode cX7_passes 20 = .ok (.iload_n 1, 1) := by decide +kernel
theorem dX7_passes_21 : decode cX7_passes 21 = .ok (.if_icmp .ne 7, 3) := by decide +kernel
theorem dX7_passes_24 : decode cX7_passes 24 = .ok (.iconst 1, 1) := by decide +kernel
theorem dX7_passes_25 : decode cX7_passes 25 = .ok (.goto 4, 3) := by decide +kernel
theorem dX7_passes_28 : decode cX7_passes 28 = .ok (.iconst 0, 1) := by decide +kernel
theorem dX7_passes_29 : decode cX7_passes 29 = .ok (.istore_n 2, 1) := by decide +kernel
theorem dX7_passes_30 : decode cX7_passes 30 = .ok (.aload_n 0, 1) := by decide +kernel
theorem dX7_passes_31 : decode cX7_passes 31 = .ok (.dup, 1) := by decide +kernel
theorem dX7_passes_32 : decode cX7_passes 32 = .ok (.getfield 78, 3) := by decide +kernel
theorem dX7_passes_35 : decode cX7_passes 35 = .ok (.iload_n 2, 1) := by decide +kernel
theorem dX7_passes_36 : decode cX7_passes 36 = .ok (.ifCond .eq 7, 3) := by decide +kernel
theorem dX7_passes_39 : decode cX7_passes 39 = .ok (.iconst 1, 1) := by decide +kernel
theorem dX7_passes_40 : decode cX7_passes 40 = .ok (.goto 4, 3) := by decide +kernel
theorem dX7_passes_43 : decode cX7_passes 43 = .ok (.iconst 0, 1) := by decide +kernel
theorem dX7_passes_44 : decode cX7_passes 44 = .ok (.iadd, 1) := by decide +kernel
theorem dX7_passes_45 : decode cX7_passes 45 = .ok (.putfield 78, 3) := by decide +kernel
theorem dX7_passes_48 : decode cX7_passes 48 = .ok (.iload_n 2, 1) := by decide +kernel
theorem dX7_passes_49 : decode cX7_passes 49 = .ok (.ireturn, 1) := by decide +kernel
theorem dX7_number_0 : decode cX7_number 0 = .ok (.iconst 0, 1) := by decide +kernel
theorem dX7_number_1 : decode cX7_number 1 = .ok (.istore 4, 2) := by decide +kernel
theorem dX7_number_3 : decode cX7_number 3 = .ok (.iconst 1, 1) := by decide +kernel
theorem dX7_number_4 : decode cX7_number 4 = .ok (.istore 5, 2) := by decide +kernel
theorem dX7_number_6 : decode cX7_number 6 = .ok (.iconst 1, 1) := by decide +kernel
theorem dX7_number_7 : decode cX7_number 7 = .ok (.istore 6, 2) := by decide +kernel
theorem dX7_number_9 : decode cX7_number 9 = .ok (.iload 6, 2) := by decide +kernel
theorem dX7_number_11 : decode cX7_number 11 = .ok (.iload_n 1, 1) := by decide +kernel
theorem dX7_number_12 : decode cX7_number 12 = .ok (.if_icmp .ge 16, 3) := by decide +kernel
theorem dX7_number_15 : decode cX7_number 15 = .ok (.iload 5, 2) := by decide +kernel
theorem dX7_number_17 : decode cX7_number 17 = .ok (.bipush 10, 2) := by decide +kernel
theorem dX7_number_19 : decode cX7_number 19 = .ok (.imul, 1) := by decide +kernel
theorem dX7_number_20 : decode cX7_number 20 = .ok (.istore 5, 2) := by decide +kernel
theorem dX7_number_22 : decode cX7_number 22 = .ok (.iinc 6 1, 3) := by decide +kernel
theorem dX7_number_25 : decode cX7_number 25 = .ok (.goto (-16), 3) := by decide +kernel
theorem dX7_number_28 : decode cX7_number 28 = .ok (.iconst 0, 1) := by decide +kernel
theorem dX7_number_29 : decode cX7_number 29 = .ok (.istore 6, 2) := by decide +kernel
theorem dX7_number_31 : decode cX7_number 31 = .ok (.iload 6, 2) := by decide +kernel
theorem dX7_number_33 : decode cX7_number 33 = .ok (.iload_n 1, 1) := by decide +kernel
theorem dX7_number_34 : decode cX7_number 34 = .ok (.if_icmp .ge 105, 3) := by decide +kernel
theorem dX7_number_37 : decode cX7_number 37 = .ok (.aload_n 0, 1) := by decide +kernel
theorem dX7_number_38 : decode cX7_number 38 = .ok (.getfield 78, 3) := by decide +kernel
theorem dX7_number_41 : decode cX7_number 41 = .ok (.aload_n 0, 1) := by decide +kernel
theorem dX7_number_42 : decode cX7_number 42 = .ok (.getfield 71, 3) := by decide +kernel
theorem dX7_number_45 : decode cX7_number 45 = .ok (.if_icmp .ge 18, 3) := by decide +kernel
theorem dX7_number_48 : decode cX7_number 48 = .ok (.aload_n 0, 1) := by decide +kernel
theorem dX7_number_49 : decode cX7_number 49 = .ok (.getfield 26, 3) := by decide +kernel
theorem dX7_number_52 : decode cX7_number 52 = .ok (.aload_n 0, 1) := by decide +kernel
theorem dX7_number_53 : decode cX7_number 53 = .ok (.getfield 78, 3) := by decide +kernel
theorem dX7_number_56 : decode cX7_number 56 = .ok (.iaload, 1) := by decide +kernel
theorem dX7_number_57 : decode cX7_number 57 = .ok (.bipush 48, 2) := by decide +kernel
theorem dX7_number_59 : decode cX7_number 59 = .ok (.isub, 1) := by decide +kernel
theorem dX7_number_60 : decode cX7_number 60 = .ok (.goto 5, 3) := by decide +kernel
theorem dX7_number_63 : decode cX7_number 63 = .ok (.bipush (-9), 2) := by decide +kernel
theorem dX7_number_65 : decode cX7_number 65 = .ok (.istore 7, 2) := by decide +kernel
theorem dX7_number_67 : decode cX7_number 67 = .ok (.bipush 10, 2) := by decide +kernel
theorem dX7_number_69 : decode cX7_number 69 = .ok (.iload 4, 2) := by decide +kernel
theorem dX7_number_71 : decode cX7_number 71 = .ok (.imul, 1) := by decide +kernel
theorem dX7_number_72 : decode cX7_number 72 = .ok (.iload 7, 2) := by decide +kernel
theorem dX7_number_74 : decode cX7_number 74 = .ok (.iadd, 1) := by decide +kernel
theorem dX7_number_75 : decode cX7_number 75 = .ok (.istore 4, 2) := by decide +kernel
theorem dX7_number_77 : decode cX7_number 77 = .ok (.iload 7, 2) := by decide +kernel
theorem dX7_number_79 : decode cX7_number 79 = .ok (.i2l, 1) := by decide +kernel
theorem dX7_number_80 : decode cX7_number 80 = .ok (.lconst 0, 1) := by decide +kernel
theorem dX7_number_81 : decode cX7_number 81 = .ok (.ldc2_w 81, 3) := by decide +kernel
theorem dX7_number_84 : decode cX7_number 84 = .ok (.invokestatic 65, 3) := by decide +kernel
theorem dX7_number_87 : decode cX7_number 87 = .ok (.ifCond .eq 26, 3) := by decide +kernel
theorem dX7_number_90 : decode cX7_number 90 = .ok (.iload 4, 2) := by decide +kernel
theorem dX7_number_92 : decode cX7_number 92 = .ok (.iload 5, 2) := by decide +kernel
theorem dX7_number_94 : decode cX7_number 94 = .ok (.imul, 1) := by decide +kernel
theorem dX7_number_95 : decode cX7_number 95 = .ok (.iload_n 3, 1) := by decide +kernel
theorem dX7_number_96 : decode cX7_number 96 = .ok (.if_icmp .gt 17, 3) := by decide +kernel
theorem dX7_number_99 : decode cX7_number 99 = .ok (.iload 4, 2) := by decide +kernel
theorem dX7_number_101 : decode cX7_number 101 = .ok (.iload 5, 2) := by decide +kernel
theorem dX7_number_103 : decode cX7_number 103 = .ok (.imul, 1) := by decide +kernel
theorem dX7_number_104 : decode cX7_number 104 = .ok (.iload 5, 2) := by decide +kernel
theorem dX7_number_106 : decode cX7_number 106 = .ok (.iadd, 1) := by decide +kernel
theorem dX7_number_107 : decode cX7_number 107 = .ok (.iconst 1, 1) := by decide +kernel
theorem dX7_number_108 : decode cX7_number 108 = .ok (.isub, 1) := by decide +kernel
theorem dX7_number_109 : decode cX7_number 109 = .ok (.iload_n 2, 1) := by decide +kernel
theorem dX7_number_110 : decode cX7_number 110 = .ok (.if_icmp .ge 6, 3) := by decide +kernel
theorem dX7_number_113 : decode cX7_number 113 = .ok (.bipush (-9), 2) := by decide +kernel
theorem dX7_number_115 : decode cX7_number 115 = .ok (.ireturn, 1) := by decide +kernel
theorem dX7_number_116 : decode cX7_number 116 = .ok (.iload 5, 2) := by decide +kernel
theorem dX7_number_118 : decode cX7_number 118 = .ok (.bipush 10, 2) := by decide +kernel
theorem dX7_number_120 : decode cX7_number 120 = .ok (.idiv, 1) := by decide +kernel
theorem dX7_number_121 : decode cX7_number 121 = .ok (.istore 5, 2) := by decide +kernel
theorem dX7_number_123 : decode cX7_number 123 = .ok (.aload_n 0, 1) := by decide +kernel
theorem dX7_number_124 : decode cX7_number 124 = .ok (.dup, 1) := by decide +kernel
theorem dX7_number_125 : decode cX7_number 125 = .ok (.getfield 78, 3) := by decide +kernel
theorem dX7_number_128 : decode cX7_number 128 = .ok (.iconst 1, 1) := by decide +kernel
theorem dX7_number_129 : decode cX7_number 129 = .ok (.iadd, 1) := by decide +kernel
theorem dX7_number_130 : decode cX7_number 130 = .ok (.putfield 78, 3) := by decide +kernel
theorem dX7_number_133 : decode cX7_number 133 = .ok (.iinc 6 1, 3) := by decide +kernel
theorem dX7_number_136 : decode cX7_number 136 = .ok (.goto (-105), 3) := by decide +kernel
theorem dX7_number_139 : decode cX7_number 139 = .ok (.iload 4, 2) := by decide +kernel
theorem dX7_number_141 : decode cX7_number 141 = .ok (.ireturn, 1) := by decide +kernel
theorem dX7_readHead_0 : decode cX7_readHead 0 = .ok (.aload_n 0, 1) := by decide +kernel
theorem dX7_readHead_1 : decode cX7_readHead 1 = .ok (.bipush 76, 2) := by decide +kernel
theorem dX7_readHead_3 : decode cX7_readHead 3 = .ok (.invokevirtual 83, 3) := by decide +kernel
theorem dX7_readHead_6 : decode cX7_readHead 6 = .ok (.ifCond .ne 5, 3) := by decide +kernel
theorem dX7_readHead_9 : decode cX7_readHead 9 = .ok (.iconst 0, 1) := by decide +kernel
theorem dX7_readHead_10 : decode cX7_readHead 10 = .ok (.ireturn, 1) := by decide +kernel
theorem dX7_readHead_11 : decode cX7_readHead 11 = .ok (.aload_n 0, 1) := by decide +kernel
theorem dX7_readHead_12 : decode cX7_readHead 12 = .ok (.getfield 29, 3) := by decide +kernel
theorem dX7_readHead_15 : decode cX7_readHead 15 = .ok (.iconst 1, 1) := by decide +kernel
theorem dX7_readHead_16 : decode cX7_readHead 16 = .ok (.aload_n 0, 1) := by decide +kernel
theorem dX7_readHead_17 : decode cX7_readHead 17 = .ok (.iconst 3, 1) := by decide +kernel
theorem dX7_readHead_18 : decode cX7_readHead 18 = .ok (.iconst 1, 1) := by decide +kernel
theorem dX7_readHead_19 : decode cX7_readHead 19 = .ok (.sipush 999, 3) := by decide +kernel
theorem dX7_readHead_22 : decode cX7_readHead 22 = .ok (.invokevirtual 86, 3) := by decide +kernel
theorem dX7_readHead_25 : decode cX7_readHead 25 = .ok (.iastore, 1) := by decide +kernel
theorem dX7_readHead_26 : decode cX7_readHead 26 = .ok (.aload_n 0, 1) := by decide +kernel
theorem dX7_readHead_27 : decode cX7_readHead 27 = .ok (.getfield 29, 3) := by decide +kernel
theorem dX7_readHead_30 : decode cX7_readHead 30 = .ok (.iconst 2, 1) := by decide +kernel
theorem dX7_readHead_31 : decode cX7_readHead 31 = .ok (.aload_n 0, 1) := by decide +kernel
theorem dX7_readHead_32 : decode cX7_readHead 32 = .ok (.getfield 29, 3) := by decide +kernel
theorem dX7_readHead_35 : decode cX7_readHead 35 = .ok (.iconst 1, 1) := by decide +kernel
theorem dX7_readHead_36 : decode cX7_readHead 36 = .ok (.iaload, 1) := by decide +kernel
theorem dX7_readHead_37 : decode cX7_readHead 37 = .ok (.bipush (-9), 2) := by decide +kernel
theorem dX7_readHead_39 : decode cX7_readHead 39 = .ok (.if_icmp .ne 8, 3) := by decide +kernel
theorem dX7_readHead_42 : decode cX7_readHead 42 = .ok (.bipush (-9), 2) := by decide +kernel
theorem dX7_readHead_44 : decode cX7_readHead 44 = .ok (.goto 11, 3) := by decide +kernel
theorem dX7_readHead_47 : decode cX7_readHead 47 = .ok (.aload_n 0, 1) := by decide +kernel
theorem dX7_readHead_48 : decode cX7_readHead 48 = .ok (.iconst 2, 1) := by decide +kernel
theorem dX7_readHead_49 : decode cX7_readHead 49 = .ok (.iconst 1, 1) := by decide +kernel
theorem dX7_readHead_50 : decode cX7_readHead 50 = .ok (.bipush 20, 2) := by decide +kernel
theorem dX7_readHead_52 : decode cX7_readHead 52 = .ok (.invokevirtual 86, 3) := by decide +kernel
theorem dX7_readHead_55 : decode cX7_readHead 55 = .ok (.iastore, 1) := by decide +kernel
theorem dX7_readHead_56 : decode cX7_readHead 56 = .ok (.aload_n 0, 1) := by decide +kernel
theorem dX7_readHead_57 : decode cX7_readHead 57 = .ok (.getfield 29, 3) := by decide +kernel
theorem dX7_readHead_60 : decode cX7_readHead 60 = .ok (.iconst 3, 1) := by decide +kernel
theorem dX7_readHead_61 : decode cX7_readHead 61 = .ok (.aload_n 0, 1) := by decide +kernel
theorem dX7_readHead_62 : decode cX7_readHead 62 = .ok (.getfield 29, 3) := by decide +kernel
theorem dX7_readHead_65 : decode cX7_readHead 65 = .ok (.iconst 2, 1) := by decide +kernel
theorem dX7_readHead_66 : decode cX7_readHead 66 = .ok (.iaload, 1) := by decide +kernel
theorem dX7_readHead_67 : decode cX7_readHead 67 = .ok (.bipush (-9), 2) := by decide +kernel
theorem dX7_readHead_69 : decode cX7_readHead 69 = .ok (.if_icmp .ne 8, 3) := by decide +kernel
theorem dX7_readHead_72 : decode cX7_readHead 72 = .ok (.bipush (-9), 2) := by decide +kernel
theorem dX7_readHead_74 : decode cX7_readHead 74 = .ok (.goto 11, 3) := by decide +kernel
theorem dX7_readHead_77 : decode cX7_readHead 77 = .ok (.aload_n 0, 1) := by decide +kernel
theorem dX7_readHead_78 : decode cX7_readHead 78 = .ok (.iconst 2, 1) := by decide +kernel
theorem dX7_readHead_79 : decode cX7_readHead 79 = .ok (.iconst 1, 1) := by decide +kernel
theorem dX7_readHead_80 : decode cX7_readHead 80 = .ok (.bipush 50, 2) := by decide +kernel
theorem dX7_readHead_82 : decode cX7_readHead 82 = .ok (.invokevirtual 86, 3) := by decide +kernel
theorem dX7_readHead_85 : decode cX7_readHead 85 = .ok (.iastore, 1) := by decide +kernel
theorem dX7_readHead_86 : decode cX7_readHead 86 = .ok (.aload_n 0, 1) := by decide +kernel
theorem dX7_readHead_87 : decode cX7_readHead 87 = .ok (.getfield 29, 3) := by decide +kernel
theorem dX7_readHead_90 : decode cX7_readHead 90 = .ok (.iconst 4, 1) := by decide +kernel
theorem dX7_readHead_91 : decode cX7_readHead 91 = .ok (.aload_n 0, 1) := by decide +kernel
theorem dX7_readHead_92 : decode cX7_readHead 92 = .ok (.getfield 29, 3) := by decide +kernel
theorem dX7_readHead_95 : decode cX7_readHead 95 = .ok (.iconst 3, 1) := by decide +kernel
theorem dX7_readHead_96 : decode cX7_readHead 96 = .ok (.iaload, 1) := by decide +kernel
theorem dX7_readHead_97 : decode cX7_readHead 97 = .ok (.bipush (-9), 2) := by decide +kernel
theorem dX7_readHead_99 : decode cX7_readHead 99 = .ok (.if_icmp .ne 8, 3) := by decide +kernel
theorem dX7_readHead_102 : decode cX7_readHead 102 = .ok (.bipush (-9), 2) := by decide +kernel
theorem dX7_readHead_104 : decode cX7_readHead 104 = .ok (.goto 11, 3) := by decide +kernel
theorem dX7_readHead_107 : decode cX7_readHead 107 = .ok (.aload_n 0, 1) := by decide +kernel
theorem dX7_readHead_108 : decode cX7_readHead 108 = .ok (.iconst 2, 1) := by decide +kernel
theorem dX7_readHead_109 : decode cX7_readHead 109 = .ok (.iconst 0, 1) := by decide +kernel
theorem dX7_readHead_110 : decode cX7_readHead 110 = .ok (.bipush 99, 2) := by decide +kernel
theorem dX7_readHead_112 : decode cX7_readHead 112 = .ok (.invokevirtual 86, 3) := by decide +kernel
theorem dX7_readHead_115 : decode cX7_readHead 115 = .ok (.iastore, 1) := by decide +kernel
theorem dX7_readHead_116 : decode cX7_readHead 116 = .ok (.aload_n 0, 1) := by decide +kernel
theorem dX7_readHead_117 : decode cX7_readHead 117 = .ok (.getfield 29, 3) := by decide +kernel
theorem dX7_readHead_120 : decode cX7_readHead 120 = .ok (.iconst 4, 1) := by decide +kernel
theorem dX7_readHead_121 : decode cX7_readHead 121 = .ok (.iaload, 1) := by decide +kernel
theorem dX7_readHead_122 : decode cX7_readHead 122 = .ok (.bipush (-9), 2) := by decide +kernel
theorem dX7_readHead_124 : decode cX7_readHead 124 = .ok (.if_icmp .eq 7, 3) := by decide +kernel
theorem dX7_readHead_127 : decode cX7_readHead 127 = .ok (.iconst 1, 1) := by decide +kernel
theorem dX7_readHead_128 : decode cX7_readHead 128 = .ok (.goto 4, 3) := by decide +kernel
theorem dX7_readHead_131 : decode cX7_readHead 131 = .ok (.iconst 0, 1) := by decide +kernel
theorem dX7_readHead_132 : decode cX7_readHead 132 = .ok (.ireturn, 1) := by decide +kernel
theorem dX7_readTenant_0 : decode cX7_readTenant 0 = .ok (.aload_n 0, 1) := by decide +kernel
theorem dX7_readTenant_1 : decode cX7_readTenant 1 = .ok (.getfield 29, 3) := by decide +kernel
theorem dX7_readTenant_4 : decode cX7_readTenant 4 = .ok (.iconst 0, 1) := by decide +kernel
theorem dX7_readTenant_5 : decode cX7_readTenant 5 = .ok (.iaload, 1) := by decide +kernel
theorem dX7_readTenant_6 : decode cX7_readTenant 6 = .ok (.invokestatic 90, 3) := by decide +kernel
theorem dX7_readTenant_9 : decode cX7_readTenant 9 = .ok (.istore_n 1, 1) := by decide +kernel
theorem dX7_readTenant_10 : decode cX7_readTenant 10 = .ok (.aload_n 0, 1) := by decide +kernel
theorem dX7_readTenant_11 : decode cX7_readTenant 11 = .ok (.getfield 29, 3) := by decide +kernel
theorem dX7_readTenant_14 : decode cX7_readTenant 14 = .ok (.iload_n 1, 1) := by decide +kernel
theorem dX7_readTenant_15 : decode cX7_readTenant 15 = .ok (.iconst 0, 1) := by decide +kernel
theorem dX7_readTenant_16 : decode cX7_readTenant 16 = .ok (.iadd, 1) := by decide +kernel
theorem dX7_readTenant_17 : decode cX7_readTenant 17 = .ok (.aload_n 0, 1) := by decide +kernel
theorem dX7_readTenant_18 : decode cX7_readTenant 18 = .ok (.iconst 3, 1) := by decide +kernel
theorem dX7_readTenant_19 : decode cX7_readTenant 19 = .ok (.iconst 1, 1) := by decide +kernel
theorem dX7_readTenant_20 : decode cX7_readTenant 20 = .ok (.sipush 999, 3) := by decide +kernel
theorem dX7_readTenant_23 : decode cX7_readTenant 23 = .ok (.invokevirtual 86, 3) := by decide +kernel
theorem dX7_readTenant_26 : decode cX7_readTenant 26 = .ok (.iastore, 1) := by decide +kernel
theorem dX7_readTenant_27 : decode cX7_readTenant 27 = .ok (.aload_n 0, 1) := by decide +kernel
theorem dX7_readTenant_28 : decode cX7_readTenant 28 = .ok (.getfield 29, 3) := by decide +kernel
theorem dX7_readTenant_31 : decode cX7_readTenant 31 = .ok (.iload_n 1, 1) := by decide +kernel
theorem dX7_readTenant_32 : decode cX7_readTenant 32 = .ok (.iconst 1, 1) := by decide +kernel
theorem dX7_readTenant_33 : decode cX7_readTenant 33 = .ok (.iadd, 1) := by decide +kernel
theorem dX7_readTenant_34 : decode cX7_readTenant 34 = .ok (.aload_n 0, 1) := by decide +kernel
theorem dX7_readTenant_35 : decode cX7_readTenant 35 = .ok (.getfield 29, 3) := by decide +kernel
theorem dX7_readTenant_38 : decode cX7_readTenant 38 = .ok (.iload_n 1, 1) := by decide +kernel
theorem dX7_readTenant_39 : decode cX7_readTenant 39 = .ok (.iconst 0, 1) := by decide +kernel
theorem dX7_readTenant_40 : decode cX7_readTenant 40 = .ok (.iadd, 1) := by decide +kernel
theorem dX7_readTenant_41 : decode cX7_readTenant 41 = .ok (.iaload, 1) := by decide +kernel
theorem dX7_readTenant_42 : decode cX7_readTenant 42 = .ok (.bipush (-9), 2) := by decide +kernel
theorem dX7_readTenant_44 : decode cX7_readTenant 44 = .ok (.if_icmp .ne 8, 3) := by decide +kernel
theorem dX7_readTenant_47 : decode cX7_readTenant 47 = .ok (.bipush (-9), 2) := by decide +kernel
theorem dX7_readTenant_49 : decode cX7_readTenant 49 = .ok (.goto 11, 3) := by decide +kernel
theorem dX7_readTenant_52 : decode cX7_readTenant 52 = .ok (.aload_n 0, 1) := by decide +kernel
theorem dX7_readTenant_53 : decode cX7_readTenant 53 = .ok (.iconst 2, 1) := by decide +kernel
theorem dX7_readTenant_54 : decode cX7_readTenant 54 = .ok (.iconst 0, 1) := by decide +kernel
theorem dX7_readTenant_55 : decode cX7_readTenant 55 = .ok (.bipush 99, 2) := by decide +kernel
theorem dX7_readTenant_57 : decode cX7_readTenant 57 = .ok (.invokevirtual 86, 3) := by decide +kernel
theorem dX7_readTenant_60 : decode cX7_readTenant 60 = .ok (.iastore, 1) := by decide +kernel
theorem dX7_readTenant_61 : decode cX7_readTenant 61 = .ok (.aload_n 0, 1) := by decide +kernel
theorem dX7_readTenant_62 : decode cX7_readTenant 62 = .ok (.getfield 29, 3) := by decide +kernel
theorem dX7_readTenant_65 : decode cX7_readTenant 65 = .ok (.iload_n 1, 1) := by decide +kernel
theorem dX7_readTenant_66 : decode cX7_readTenant 66 = .ok (.iconst 4, 1) := by decide +kernel
theorem dX7_readTenant_67 : decode cX7_readTenant 67 = .ok (.iadd, 1) := by decide +kernel
theorem dX7_readTenant_68 : decode cX7_readTenant 68 = .ok (.aload_n 0, 1) := by decide +kernel
theorem dX7_readTenant_69 : decode cX7_readTenant 69 = .ok (.getfield 29, 3) := by decide +kernel
theorem dX7_readTenant_72 : decode cX7_readTenant 72 = .ok (.iload_n 1, 1) := by decide +kernel
theorem dX7_readTenant_73 : decode cX7_readTenant 73 = .ok (.iconst 1, 1) := by decide +kernel
theorem dX7_readTenant_74 : decode cX7_readTenant 74 = .ok (.iadd, 1) := by decide +kernel
theorem dX7_readTenant_75 : decode cX7_readTenant 75 = .ok (.iaload, 1) := by decide +kernel
theorem dX7_readTenant_76 : decode cX7_readTenant 76 = .ok (.bipush (-9), 2) := by decide +kernel
theorem dX7_readTenant_78 : decode cX7_readTenant 78 = .ok (.if_icmp .ne 8, 3) := by decide +kernel
theorem dX7_readTenant_81 : decode cX7_readTenant 81 = .ok (.bipush (-9), 2) := by decide +kernel
theorem dX7_readTenant_83 : decode cX7_readTenant 83 = .ok (.goto 12, 3) := by decide +kernel
theorem dX7_readTenant_86 : decode cX7_readTenant 86 = .ok (.aload_n 0, 1) := by decide +kernel
theorem dX7_readTenant_87 : decode cX7_readTenant 87 = .ok (.iconst 4, 1) := by decide +kernel
theorem dX7_readTenant_88 : decode cX7_readTenant 88 = .ok (.iconst 0, 1) := by decide +kernel
theorem dX7_readTenant_89 : decode cX7_readTenant 89 = .ok (.sipush 9999, 3) := by decide +kernel
theorem dX7_readTenant_92 : decode cX7_readTenant 92 = .ok (.invokevirtual 86, 3) := by decide +kernel
theorem dX7_readTenant_95 : decode cX7_readTenant 95 = .ok (.iastore, 1) := by decide +kernel
theorem dX7_readTenant_96 : decode cX7_readTenant 96 = .ok (.aload_n 0, 1) := by decide +kernel
theorem dX7_readTenant_97 : decode cX7_readTenant 97 = .ok (.getfield 29, 3) := by decide +kernel
theorem dX7_readTenant_100 : decode cX7_readTenant 100 = .ok (.iload_n 1, 1) := by decide +kernel
theorem dX7_readTenant_101 : decode cX7_readTenant 101 = .ok (.iconst 2, 1) := by decide +kernel
theorem dX7_readTenant_102 : decode cX7_readTenant 102 = .ok (.iadd, 1) := by decide +kernel
theorem dX7_readTenant_103 : decode cX7_readTenant 103 = .ok (.aload_n 0, 1) := by decide +kernel
theorem dX7_readTenant_104 : decode cX7_readTenant 104 = .ok (.getfield 29, 3) := by decide +kernel
theorem dX7_readTenant_107 : decode cX7_readTenant 107 = .ok (.iload_n 1, 1) := by decide +kernel
theorem dX7_readTenant_108 : decode cX7_readTenant 108 = .ok (.iconst 0, 1) := by decide +kernel
theorem dX7_readTenant_109 : decode cX7_readTenant 109 = .ok (.iadd, 1) := by decide +kernel
theorem dX7_readTenant_110 : decode cX7_readTenant 110 = .ok (.iaload, 1) := by decide +kernel
theorem dX7_readTenant_111 : decode cX7_readTenant 111 = .ok (.iastore, 1) := by decide +kernel
theorem dX7_readTenant_112 : decode cX7_readTenant 112 = .ok (.aload_n 0, 1) := by decide +kernel
theorem dX7_readTenant_113 : decode cX7_readTenant 113 = .ok (.getfield 29, 3) := by decide +kernel
theorem dX7_readTenant_116 : decode cX7_readTenant 116 = .ok (.iconst 0, 1) := by decide +kernel
theorem dX7_readTenant_117 : decode cX7_readTenant 117 = .ok (.dup2, 1) := by decide +kernel
theorem dX7_readTenant_118 : decode cX7_readTenant 118 = .ok (.iaload, 1) := by decide +kernel
theorem dX7_readTenant_119 : decode cX7_readTenant 119 = .ok (.iconst 1, 1) := by decide +kernel
theorem dX7_readTenant_120 : decode cX7_readTenant 120 = .ok (.iadd, 1) := by decide +kernel
theorem dX7_readTenant_121 : decode cX7_readTenant 121 = .ok (.iastore, 1) := by decide +kernel
theorem dX7_readTenant_122 : decode cX7_readTenant 122 = .ok (.aload_n 0, 1) := by decide +kernel
theorem dX7_readTenant_123 : decode cX7_readTenant 123 = .ok (.getfield 29, 3) := by decide +kernel
theorem dX7_readTenant_126 : decode cX7_readTenant 126 = .ok (.iload_n 1, 1) := by decide +kernel
theorem dX7_readTenant_127 : decode cX7_readTenant 127 = .ok (.iconst 4, 1) := by decide +kernel
theorem dX7_readTenant_128 : decode cX7_readTenant 128 = .ok (.iadd, 1) := by decide +kernel
theorem dX7_readTenant_129 : decode cX7_readTenant 129 = .ok (.iaload, 1) := by decide +kernel
theorem dX7_readTenant_130 : decode cX7_readTenant 130 = .ok (.bipush (-9), 2) := by decide +kernel
theorem dX7_readTenant_132 : decode cX7_readTenant 132 = .ok (.if_icmp .eq 7, 3) := by decide +kernel
theorem dX7_readTenant_135 : decode cX7_readTenant 135 = .ok (.iconst 1, 1) := by decide +kernel
theorem dX7_readTenant_136 : decode cX7_readTenant 136 = .ok (.goto 4, 3) := by decide +kernel
theorem dX7_readTenant_139 : decode cX7_readTenant 139 = .ok (.iconst 0, 1) := by decide +kernel
theorem dX7_readTenant_140 : decode cX7_readTenant 140 = .ok (.ireturn, 1) := by decide +kernel
theorem dX7_isRoomLeft_0 : decode cX7_isRoomLeft 0 = .ok (.iconst 0, 1) := by decide +kernel
theorem dX7_isRoomLeft_1 : decode cX7_isRoomLeft 1 = .ok (.istore_n 1, 1) := by decide +kernel
theorem dX7_isRoomLeft_2 : decode cX7_isRoomLeft 2 = .ok (.iconst 0, 1) := by decide +kernel
theorem dX7_isRoomLeft_3 : decode cX7_isRoomLeft 3 = .ok (.istore_n 2, 1) := by decide +kernel
theorem dX7_isRoomLeft_4 : decode cX7_isRoomLeft 4 = .ok (.iload_n 2, 1) := by decide +kernel
theorem dX7_isRoomLeft_5 : decode cX7_isRoomLeft 5 = .ok (.aload_n 0, 1) := by decide +kernel
theorem dX7_isRoomLeft_6 : decode cX7_isRoomLeft 6 = .ok (.getfield 29, 3) := by decide +kernel
theorem dX7_isRoomLeft_9 : decode cX7_isRoomLeft 9 = .ok (.iconst 0, 1) := by decide +kernel
theorem dX7_isRoomLeft_10 : decode cX7_isRoomLeft 10 = .ok (.iaload, 1) := by decide +kernel
theorem dX7_isRoomLeft_11 : decode cX7_isRoomLeft 11 = .ok (.if_icmp .ge 36, 3) := by decide +kernel
theorem dX7_isRoomLeft_14 : decode cX7_isRoomLeft 14 = .ok (.iload_n 1, 1) := by decide +kernel
theorem dX7_isRoomLeft_15 : decode cX7_isRoomLeft 15 = .ok (.ifCond .ne 20, 3) := by decide +kernel
theorem dX7_isRoomLeft_18 : decode cX7_isRoomLeft 18 = .ok (.aload_n 0, 1) := by decide +kernel
theorem dX7_isRoomLeft_19 : decode cX7_isRoomLeft 19 = .ok (.getfield 29, 3) := by decide +kernel
theorem dX7_isRoomLeft_22 : decode cX7_isRoomLeft 22 = .ok (.iload_n 2, 1) := by decide +kernel
theorem dX7_isRoomLeft_23 : decode cX7_isRoomLeft 23 = .ok (.invokestatic 90, 3) := by decide +kernel
theorem dX7_isRoomLeft_26 : decode cX7_isRoomLeft 26 = .ok (.bipush 7, 2) := by decide +kernel
theorem dX7_isRoomLeft_28 : decode cX7_isRoomLeft 28 = .ok (.iadd, 1) := by decide +kernel
theorem dX7_isRoomLeft_29 : decode cX7_isRoomLeft 29 = .ok (.iaload, 1) := by decide +kernel
theorem dX7_isRoomLeft_30 : decode cX7_isRoomLeft 30 = .ok (.bipush 8, 2) := by decide +kernel
theorem dX7_isRoomLeft_32 : decode cX7_isRoomLeft 32 = .ok (.if_icmp .ge 7, 3) := by decide +kernel
theorem dX7_isRoomLeft_35 : decode cX7_isRoomLeft 35 = .ok (.iconst 1, 1) := by decide +kernel
theorem dX7_isRoomLeft_36 : decode cX7_isRoomLeft 36 = .ok (.goto 4, 3) := by decide +kernel
theorem dX7_isRoomLeft_39 : decode cX7_isRoomLeft 39 = .ok (.iconst 0, 1) := by decide +kernel
theorem dX7_isRoomLeft_40 : decode cX7_isRoomLeft 40 = .ok (.istore_n 1, 1) := by decide +kernel
theorem dX7_isRoomLeft_41 : decode cX7_isRoomLeft 41 = .ok (.iinc 2 1, 3) := by decide +kernel
theorem dX7_isRoomLeft_44 : decode cX7_isRoomLeft 44 = .ok (.goto (-40), 3) := by decide +kernel
theorem dX7_isRoomLeft_47 : decode cX7_isRoomLeft 47 = .ok (.iload_n 1, 1) := by decide +kernel
theorem dX7_isRoomLeft_48 : decode cX7_isRoomLeft 48 = .ok (.ireturn, 1) := by decide +kernel
theorem dX7_readMessage_0 : decode cX7_readMessage 0 = .ok (.aload_n 0, 1) := by decide +kernel
theorem dX7_readMessage_1 : decode cX7_readMessage 1 = .ok (.getfield 78, 3) := by decide +kernel
theorem dX7_readMessage_4 : decode cX7_readMessage 4 = .ok (.aload_n 0, 1) := by decide +kernel
theorem dX7_readMessage_5 : decode cX7_readMessage 5 = .ok (.getfield 71, 3) := by decide +kernel
theorem dX7_readMessage_8 : decode cX7_readMessage 8 = .ok (.if_icmp .ge 18, 3) := by decide +kernel
theorem dX7_readMessage_11 : decode cX7_readMessage 11 = .ok (.aload_n 0, 1) := by decide +kernel
theorem dX7_readMessage_12 : decode cX7_readMessage 12 = .ok (.getfield 26, 3) := by decide +kernel
theorem dX7_readMessage_15 : decode cX7_readMessage 15 = .ok (.aload_n 0, 1) := by decide +kernel
theorem dX7_readMessage_16 : decode cX7_readMessage 16 = .ok (.getfield 78, 3) := by decide +kernel
theorem dX7_readMessage_19 : decode cX7_readMessage 19 = .ok (.iaload, 1) := by decide +kernel
theorem dX7_readMessage_20 : decode cX7_readMessage 20 = .ok (.bipush 48, 2) := by decide +kernel
theorem dX7_readMessage_22 : decode cX7_readMessage 22 = .ok (.isub, 1) := by decide +kernel
theorem dX7_readMessage_23 : decode cX7_readMessage 23 = .ok (.goto 5, 3) := by decide +kernel
theorem dX7_readMessage_26 : decode cX7_readMessage 26 = .ok (.bipush (-9), 2) := by decide +kernel
theorem dX7_readMessage_28 : decode cX7_readMessage 28 = .ok (.istore_n 1, 1) := by decide +kernel
theorem dX7_readMessage_29 : decode cX7_readMessage 29 = .ok (.aload_n 0, 1) := by decide +kernel
theorem dX7_readMessage_30 : decode cX7_readMessage 30 = .ok (.getfield 29, 3) := by decide +kernel
theorem dX7_readMessage_33 : decode cX7_readMessage 33 = .ok (.iload_n 1, 1) := by decide +kernel
theorem dX7_readMessage_34 : decode cX7_readMessage 34 = .ok (.invokestatic 94, 3) := by decide +kernel
theorem dX7_readMessage_37 : decode cX7_readMessage 37 = .ok (.ifCond .eq 20, 3) := by decide +kernel
theorem dX7_readMessage_40 : decode cX7_readMessage 40 = .ok (.aload_n 0, 1) := by decide +kernel
theorem dX7_readMessage_41 : decode cX7_readMessage 41 = .ok (.getfield 29, 3) := by decide +kernel
theorem dX7_readMessage_44 : decode cX7_readMessage 44 = .ok (.iload_n 1, 1) := by decide +kernel
theorem dX7_readMessage_45 : decode cX7_readMessage 45 = .ok (.invokestatic 90, 3) := by decide +kernel
theorem dX7_readMessage_48 : decode cX7_readMessage 48 = .ok (.bipush 7, 2) := by decide +kernel
theorem dX7_readMessage_50 : decode cX7_readMessage 50 = .ok (.iadd, 1) := by decide +kernel
theorem dX7_readMessage_51 : decode cX7_readMessage 51 = .ok (.iaload, 1) := by decide +kernel
theorem dX7_readMessage_52 : decode cX7_readMessage 52 = .ok (.bipush 8, 2) := by decide +kernel
theorem dX7_readMessage_54 : decode cX7_readMessage 54 = .ok (.if_icmp .ne 5, 3) := by decide +kernel
theorem dX7_readMessage_57 : decode cX7_readMessage 57 = .ok (.iconst 0, 1) := by decide +kernel
theorem dX7_readMessage_58 : decode cX7_readMessage 58 = .ok (.ireturn, 1) := by decide +kernel
theorem dX7_readMessage_59 : decode cX7_readMessage 59 = .ok (.aload_n 0, 1) := by decide +kernel
theorem dX7_readMessage_60 : decode cX7_readMessage 60 = .ok (.dup, 1) := by decide +kernel
theorem dX7_readMessage_61 : decode cX7_readMessage 61 = .ok (.getfield 78, 3) := by decide +kernel
theorem dX7_readMessage_64 : decode cX7_readMessage 64 = .ok (.iconst 1, 1) := by decide +kernel
theorem dX7_readMessage_65 : decode cX7_readMessage 65 = .ok (.iadd, 1) := by decide +kernel
theorem dX7_readMessage_66 : decode cX7_readMessage 66 = .ok (.putfield 78, 3) := by decide +kernel
theorem dX7_readMessage_69 : decode cX7_readMessage 69 = .ok (.aload_n 0, 1) := by decide +kernel
theorem dX7_readMessage_70 : decode cX7_readMessage 70 = .ok (.iconst 2, 1) := by decide +kernel
theorem dX7_readMessage_71 : decode cX7_readMessage 71 = .ok (.iconst 1, 1) := by decide +kernel
theorem dX7_readMessage_72 : decode cX7_readMessage 72 = .ok (.bipush 99, 2) := by decide +kernel
theorem dX7_readMessage_74 : decode cX7_readMessage 74 = .ok (.invokevirtual 86, 3) := by decide +kernel
theorem dX7_readMessage_77 : decode cX7_readMessage 77 = .ok (.istore_n 2, 1) := by decide +kernel
theorem dX7_readMessage_78 : decode cX7_readMessage 78 = .ok (.iload_n 2, 1) := by decide +kernel
theorem dX7_readMessage_79 : decode cX7_readMessage 79 = .ok (.bipush (-9), 2) := by decide +kernel
theorem dX7_readMessage_81 : decode cX7_readMessage 81 = .ok (.if_icmp .ne 5, 3) := by decide +kernel
theorem dX7_readMessage_84 : decode cX7_readMessage 84 = .ok (.iconst 0, 1) := by decide +kernel
theorem dX7_readMessage_85 : decode cX7_readMessage 85 = .ok (.ireturn, 1) := by decide +kernel
theorem dX7_readMessage_86 : decode cX7_readMessage 86 = .ok (.aload_n 0, 1) := by decide +kernel
theorem dX7_readMessage_87 : decode cX7_readMessage 87 = .ok (.getfield 29, 3) := by decide +kernel
theorem dX7_readMessage_90 : decode cX7_readMessage 90 = .ok (.iload_n 1, 1) := by decide +kernel
theorem dX7_readMessage_91 : decode cX7_readMessage 91 = .ok (.invokestatic 90, 3) := by decide +kernel
theorem dX7_readMessage_94 : decode cX7_readMessage 94 = .ok (.bipush 8, 2) := by decide +kernel
theorem dX7_readMessage_96 : decode cX7_readMessage 96 = .ok (.iadd, 1) := by decide +kernel
theorem dX7_readMessage_97 : decode cX7_readMessage 97 = .ok (.aload_n 0, 1) := by decide +kernel
theorem dX7_readMessage_98 : decode cX7_readMessage 98 = .ok (.getfield 29, 3) := by decide +kernel
theorem dX7_readMessage_101 : decode cX7_readMessage 101 = .ok (.iload_n 1, 1) := by decide +kernel
theorem dX7_readMessage_102 : decode cX7_readMessage 102 = .ok (.invokestatic 90, 3) := by decide +kernel
theorem dX7_readMessage_105 : decode cX7_readMessage 105 = .ok (.bipush 7, 2) := by decide +kernel
theorem dX7_readMessage_107 : decode cX7_readMessage 107 = .ok (.iadd, 1) := by decide +kernel
theorem dX7_readMessage_108 : decode cX7_readMessage 108 = .ok (.iaload, 1) := by decide +kernel
theorem dX7_readMessage_109 : decode cX7_readMessage 109 = .ok (.iadd, 1) := by decide +kernel
theorem dX7_readMessage_110 : decode cX7_readMessage 110 = .ok (.iload_n 2, 1) := by decide +kernel
theorem dX7_readMessage_111 : decode cX7_readMessage 111 = .ok (.iastore, 1) := by decide +kernel
theorem dX7_readMessage_112 : decode cX7_readMessage 112 = .ok (.aload_n 0, 1) := by decide +kernel
theorem dX7_readMessage_113 : decode cX7_readMessage 113 = .ok (.getfield 29, 3) := by decide +kernel
theorem dX7_readMessage_116 : decode cX7_readMessage 116 = .ok (.iload_n 1, 1) := by decide +kernel
theorem dX7_readMessage_117 : decode cX7_readMessage 117 = .ok (.invokestatic 90, 3) := by decide +kernel
theorem dX7_readMessage_120 : decode cX7_readMessage 120 = .ok (.bipush 7, 2) := by decide +kernel
theorem dX7_readMessage_122 : decode cX7_readMessage 122 = .ok (.iadd, 1) := by decide +kernel
theorem dX7_readMessage_123 : decode cX7_readMessage 123 = .ok (.dup2, 1) := by decide +kernel
theorem dX7_readMessage_124 : decode cX7_readMessage 124 = .ok (.iaload, 1) := by decide +kernel
theorem dX7_readMessage_125 : decode cX7_readMessage 125 = .ok (.iconst 1, 1) := by decide +kernel
theorem dX7_readMessage_126 : decode cX7_readMessage 126 = .ok (.iadd, 1) := by decide +kernel
theorem dX7_readMessage_127 : decode cX7_readMessage 127 = .ok (.iastore, 1) := by decide +kernel
theorem dX7_readMessage_128 : decode cX7_readMessage 128 = .ok (.iconst 1, 1) := by decide +kernel
theorem dX7_readMessage_129 : decode cX7_readMessage 129 = .ok (.ireturn, 1) := by decide +kernel
theorem dX7_readText_0 : decode cX7_readText 0 = .ok (.aload_n 0, 1) := by decide +kernel
theorem dX7_readText_1 : decode cX7_readText 1 = .ok (.getfield 29, 3) := by decide +kernel
theorem dX7_readText_4 : decode cX7_readText 4 = .ok (.invokestatic 47, 3) := by decide +kernel
theorem dX7_readText_7 : decode cX7_readText 7 = .ok (.aload_n 0, 1) := by decide +kernel
theorem dX7_readText_8 : decode cX7_readText 8 = .ok (.iconst 0, 1) := by decide +kernel
theorem dX7_readText_9 : decode cX7_readText 9 = .ok (.putfield 78, 3) := by decide +kernel
theorem dX7_readText_12 : decode cX7_readText 12 = .ok (.aload_n 0, 1) := by decide +kernel
theorem dX7_readText_13 : decode cX7_readText 13 = .ok (.invokevirtual 98, 3) := by decide +kernel
theorem dX7_readText_16 : decode cX7_readText 16 = .ok (.ifCond .ne 8, 3) := by decide +kernel
theorem dX7_readText_19 : decode cX7_readText 19 = .ok (.aload_n 0, 1) := by decide +kernel
theorem dX7_readText_20 : decode cX7_readText 20 = .ok (.getfield 78, 3) := by decide +kernel
theorem dX7_readText_23 : decode cX7_readText 23 = .ok (.ireturn, 1) := by decide +kernel
theorem dX7_readText_24 : decode cX7_readText 24 = .ok (.aload_n 0, 1) := by decide +kernel
theorem dX7_readText_25 : decode cX7_readText 25 = .ok (.getfield 29, 3) := by decide +kernel
theorem dX7_readText_28 : decode cX7_readText 28 = .ok (.iconst 0, 1) := by decide +kernel
theorem dX7_readText_29 : decode cX7_readText 29 = .ok (.iaload, 1) := by decide +kernel
theorem dX7_readText_30 : decode cX7_readText 30 = .ok (.bipush 6, 2) := by decide +kernel
theorem dX7_readText_32 : decode cX7_readText 32 = .ok (.if_icmp .ge 24, 3) := by decide +kernel
theorem dX7_readText_35 : decode cX7_readText 35 = .ok (.aload_n 0, 1) := by decide +kernel
theorem dX7_readText_36 : decode cX7_readText 36 = .ok (.bipush 116, 2) := by decide +kernel
theorem dX7_readText_38 : decode cX7_readText 38 = .ok (.invokevirtual 83, 3) := by decide +kernel
theorem dX7_readText_41 : decode cX7_readText 41 = .ok (.ifCond .eq 15, 3) := by decide +kernel
theorem dX7_readText_44 : decode cX7_readText 44 = .ok (.aload_n 0, 1) := by decide +kernel
theorem dX7_readText_45 : decode cX7_readText 45 = .ok (.invokevirtual 102, 3) := by decide +kernel
theorem dX7_readText_48 : decode cX7_readText 48 = .ok (.ifCond .ne (-24), 3) := by decide +kernel
theorem dX7_readText_51 : decode cX7_readText 51 = .ok (.aload_n 0, 1) := by decide +kernel
theorem dX7_readText_52 : decode cX7_readText 52 = .ok (.getfield 78, 3) := by decide +kernel
theorem dX7_readText_55 : decode cX7_readText 55 = .ok (.ireturn, 1) := by decide +kernel
theorem dX7_readText_56 : decode cX7_readText 56 = .ok (.aload_n 0, 1) := by decide +kernel
theorem dX7_readText_57 : decode cX7_readText 57 = .ok (.getfield 29, 3) := by decide +kernel
theorem dX7_readText_60 : decode cX7_readText 60 = .ok (.iconst 0, 1) := by decide +kernel
theorem dX7_readText_61 : decode cX7_readText 61 = .ok (.iaload, 1) := by decide +kernel
theorem dX7_readText_62 : decode cX7_readText 62 = .ok (.ifCond .ne 8, 3) := by decide +kernel
theorem dX7_readText_65 : decode cX7_readText 65 = .ok (.aload_n 0, 1) := by decide +kernel
theorem dX7_readText_66 : decode cX7_readText 66 = .ok (.getfield 78, 3) := by decide +kernel
theorem dX7_readText_69 : decode cX7_readText 69 = .ok (.ireturn, 1) := by decide +kernel
theorem dX7_readText_70 : decode cX7_readText 70 = .ok (.aload_n 0, 1) := by decide +kernel
theorem dX7_readText_71 : decode cX7_readText 71 = .ok (.invokevirtual 105, 3) := by decide +kernel
theorem dX7_readText_74 : decode cX7_readText 74 = .ok (.ifCond .eq 24, 3) := by decide +kernel
theorem dX7_readText_77 : decode cX7_readText 77 = .ok (.aload_n 0, 1) := by decide +kernel
theorem dX7_readText_78 : decode cX7_readText 78 = .ok (.bipush 109, 2) := by decide +kernel
theorem dX7_readText_80 : decode cX7_readText 80 = .ok (.invokevirtual 83, 3) := by decide +kernel
theorem dX7_readText_83 : decode cX7_readText 83 = .ok (.ifCond .eq 15, 3) := by decide +kernel
theorem dX7_readText_86 : decode cX7_readText 86 = .ok (.aload_n 0, 1) := by decide +kernel
theorem dX7_readText_87 : decode cX7_readText 87 = .ok (.invokevirtual 108, 3) := by decide +kernel
theorem dX7_readText_90 : decode cX7_readText 90 = .ok (.ifCond .ne (-20), 3) := by decide +kernel
theorem dX7_readText_93 : decode cX7_readText 93 = .ok (.aload_n 0, 1) := by decide +kernel
theorem dX7_readText_94 : decode cX7_readText 94 = .ok (.getfield 78, 3) := by decide +kernel
theorem dX7_readText_97 : decode cX7_readText 97 = .ok (.ireturn, 1) := by decide +kernel
theorem dX7_readText_98 : decode cX7_readText 98 = .ok (.aload_n 0, 1) := by decide +kernel
theorem dX7_readText_99 : decode cX7_readText 99 = .ok (.getfield 78, 3) := by decide +kernel
theorem dX7_readText_102 : decode cX7_readText 102 = .ok (.aload_n 0, 1) := by decide +kernel
theorem dX7_readText_103 : decode cX7_readText 103 = .ok (.getfield 71, 3) := by decide +kernel
theorem dX7_readText_106 : decode cX7_readText 106 = .ok (.if_icmp .ne 8, 3) := by decide +kernel
theorem dX7_readText_109 : decode cX7_readText 109 = .ok (.bipush (-9), 2) := by decide +kernel
theorem dX7_readText_111 : decode cX7_readText 111 = .ok (.goto 7, 3) := by decide +kernel
theorem dX7_readText_114 : decode cX7_readText 114 = .ok (.aload_n 0, 1) := by decide +kernel
theorem dX7_readText_115 : decode cX7_readText 115 = .ok (.getfield 78, 3) := by decide +kernel
theorem dX7_readText_118 : decode cX7_readText 118 = .ok (.ireturn, 1) := by decide +kernel
theorem dX7_errorPosition_0 : decode cX7_errorPosition 0 = .ok (.aload_n 0, 1) := by decide +kernel
theorem dX7_errorPosition_1 : decode cX7_errorPosition 1 = .ok (.iconst 0, 1) := by decide +kernel
theorem dX7_errorPosition_2 : decode cX7_errorPosition 2 = .ok (.putfield 51, 3) := by decide +kernel
theorem dX7_errorPosition_5 : decode cX7_errorPosition 5 = .ok (.aload_n 0, 1) := by decide +kernel
theorem dX7_errorPosition_6 : decode cX7_errorPosition 6 = .ok (.invokevirtual 111, 3) := by decide +kernel
theorem dX7_errorPosition_9 : decode cX7_errorPosition 9 = .ok (.ireturn, 1) := by decide +kernel
theorem dX7_load_0 : decode cX7_load 0 = .ok (.aload_n 0, 1) := by decide +kernel
theorem dX7_load_1 : decode cX7_load 1 = .ok (.aload_n 0, 1) := by decide +kernel
theorem dX7_load_2 : decode cX7_load 2 = .ok (.invokevirtual 111, 3) := by decide +kernel
theorem dX7_load_5 : decode cX7_load 5 = .ok (.bipush (-9), 2) := by decide +kernel
theorem dX7_load_7 : decode cX7_load 7 = .ok (.if_icmp .ne 7, 3) := by decide +kernel
theorem dX7_load_10 : decode cX7_load 10 = .ok (.iconst 0, 1) := by decide +kernel
theorem dX7_load_11 : decode cX7_load 11 = .ok (.goto 4, 3) := by decide +kernel
theorem dX7_load_14 : decode cX7_load 14 = .ok (.iconst 1, 1) := by decide +kernel
theorem dX7_load_15 : decode cX7_load 15 = .ok (.invokevirtual 74, 3) := by decide +kernel
theorem dX7_load_18 : decode cX7_load 18 = .ok (.ifCond .eq 5, 3) := by decide +kernel
theorem dX7_load_21 : decode cX7_load 21 = .ok (.iconst 0, 1) := by decide +kernel
theorem dX7_load_22 : decode cX7_load 22 = .ok (.ireturn, 1) := by decide +kernel
theorem dX7_load_23 : decode cX7_load 23 = .ok (.aload_n 0, 1) := by decide +kernel
theorem dX7_load_24 : decode cX7_load 24 = .ok (.getfield 29, 3) := by decide +kernel
theorem dX7_load_27 : decode cX7_load 27 = .ok (.iconst 0, 1) := by decide +kernel
theorem dX7_load_28 : decode cX7_load 28 = .ok (.aload_n 0, 1) := by decide +kernel
theorem dX7_load_29 : decode cX7_load 29 = .ok (.getfield 7, 3) := by decide +kernel
theorem dX7_load_32 : decode cX7_load 32 = .ok (.iconst 0, 1) := by decide +kernel
theorem dX7_load_33 : decode cX7_load 33 = .ok (.invokestatic 58, 3) := by decide +kernel
theorem dX7_load_36 : decode cX7_load 36 = .ok (.aload_n 0, 1) := by decide +kernel
theorem dX7_load_37 : decode cX7_load 37 = .ok (.iconst 0, 1) := by decide +kernel
theorem dX7_load_38 : decode cX7_load 38 = .ok (.putfield 62, 3) := by decide +kernel
theorem dX7_load_41 : decode cX7_load 41 = .ok (.aload_n 0, 1) := by decide +kernel
theorem dX7_load_42 : decode cX7_load 42 = .ok (.getfield 22, 3) := by decide +kernel
theorem dX7_load_45 : decode cX7_load 45 = .ok (.iconst 0, 1) := by decide +kernel
theorem dX7_load_46 : decode cX7_load 46 = .ok (.iconst 0, 1) := by decide +kernel
theorem dX7_load_47 : decode cX7_load 47 = .ok (.bastore, 1) := by decide +kernel
theorem dX7_load_48 : decode cX7_load 48 = .ok (.aload_n 0, 1) := by decide +kernel
theorem dX7_load_49 : decode cX7_load 49 = .ok (.getfield 22, 3) := by decide +kernel
theorem dX7_load_52 : decode cX7_load 52 = .ok (.iconst 1, 1) := by decide +kernel
theorem dX7_load_53 : decode cX7_load 53 = .ok (.iconst 0, 1) := by decide +kernel
theorem dX7_load_54 : decode cX7_load 54 = .ok (.bastore, 1) := by decide +kernel
theorem dX7_load_55 : decode cX7_load 55 = .ok (.aload_n 0, 1) := by decide +kernel
theorem dX7_load_56 : decode cX7_load 56 = .ok (.getfield 7, 3) := by decide +kernel
theorem dX7_load_59 : decode cX7_load 59 = .ok (.iconst 0, 1) := by decide +kernel
theorem dX7_load_60 : decode cX7_load 60 = .ok (.iaload, 1) := by decide +kernel
theorem dX7_load_61 : decode cX7_load 61 = .ok (.ireturn, 1) := by decide +kernel
theorem dX7_credits_0 : decode cX7_credits 0 = .ok (.aload_n 0, 1) := by decide +kernel
theorem dX7_credits_1 : decode cX7_credits 1 = .ok (.iload_n 1, 1) := by decide +kernel
theorem dX7_credits_2 : decode cX7_credits 2 = .ok (.invokestatic 90, 3) := by decide +kernel
theorem dX7_credits_5 : decode cX7_credits 5 = .ok (.iconst 2, 1) := by decide +kernel
theorem dX7_credits_6 : decode cX7_credits 6 = .ok (.iadd, 1) := by decide +kernel
theorem dX7_credits_7 : decode cX7_credits 7 = .ok (.iaload, 1) := by decide +kernel
theorem dX7_credits_8 : decode cX7_credits 8 = .ok (.aload_n 0, 1) := by decide +kernel
theorem dX7_credits_9 : decode cX7_credits 9 = .ok (.iload_n 1, 1) := by decide +kernel
theorem dX7_credits_10 : decode cX7_credits 10 = .ok (.invokestatic 90, 3) := by decide +kernel
theorem dX7_credits_13 : decode cX7_credits 13 = .ok (.iconst 3, 1) := by decide +kernel
theorem dX7_credits_14 : decode cX7_credits 14 = .ok (.iadd, 1) := by decide +kernel
theorem dX7_credits_15 : decode cX7_credits 15 = .ok (.iaload, 1) := by decide +kernel
theorem dX7_credits_16 : decode cX7_credits 16 = .ok (.iadd, 1) := by decide +kernel
theorem dX7_credits_17 : decode cX7_credits 17 = .ok (.ireturn, 1) := by decide +kernel
theorem dX7_takeCredits_0 : decode cX7_takeCredits 0 = .ok (.iload_n 1, 1) := by decide +kernel
theorem dX7_takeCredits_1 : decode cX7_takeCredits 1 = .ok (.invokestatic 90, 3) := by decide +kernel
theorem dX7_takeCredits_4 : decode cX7_takeCredits 4 = .ok (.istore_n 3, 1) := by decide +kernel
theorem dX7_takeCredits_5 : decode cX7_takeCredits 5 = .ok (.iload_n 2, 1) := by decide +kernel
theorem dX7_takeCredits_6 : decode cX7_takeCredits 6 = .ok (.aload_n 0, 1) := by decide +kernel
theorem dX7_takeCredits_7 : decode cX7_takeCredits 7 = .ok (.iload_n 3, 1) := by decide +kernel
theorem dX7_takeCredits_8 : decode cX7_takeCredits 8 = .ok (.iconst 3, 1) := by decide +kernel
theorem dX7_takeCredits_9 : decode cX7_takeCredits 9 = .ok (.iadd, 1) := by decide +kernel
theorem dX7_takeCredits_10 : decode cX7_takeCredits 10 = .ok (.iaload, 1) := by decide +kernel
theorem dX7_takeCredits_11 : decode cX7_takeCredits 11 = .ok (.invokestatic 115, 3) := by decide +kernel
theorem dX7_takeCredits_14 : decode cX7_takeCredits 14 = .ok (.istore 4, 2) := by decide +kernel
theorem dX7_takeCredits_16 : decode cX7_takeCredits 16 = .ok (.iload_n 2, 1) := by decide +kernel
theorem dX7_takeCredits_17 : decode cX7_takeCredits 17 = .ok (.iload 4, 2) := by decide +kernel
theorem dX7_takeCredits_19 : decode cX7_takeCredits 19 = .ok (.isub, 1) := by decide +kernel
theorem dX7_takeCredits_20 : decode cX7_takeCredits 20 = .ok (.aload_n 0, 1) := by decide +kernel
theorem dX7_takeCredits_21 : decode cX7_takeCredits 21 = .ok (.iload_n 3, 1) := by decide +kernel
theorem dX7_takeCredits_22 : decode cX7_takeCredits 22 = .ok (.iconst 2, 1) := by decide +kernel
theorem dX7_takeCredits_23 : decode cX7_takeCredits 23 = .ok (.iadd, 1) := by decide +kernel
theorem dX7_takeCredits_24 : decode cX7_takeCredits 24 = .ok (.iaload, 1) := by decide +kernel
theorem dX7_takeCredits_25 : decode cX7_takeCredits 25 = .ok (.invokestatic 115, 3) := by decide +kernel
theorem dX7_takeCredits_28 : decode cX7_takeCredits 28 = .ok (.istore 5, 2) := by decide +kernel
theorem dX7_takeCredits_30 : decode cX7_takeCredits 30 = .ok (.aload_n 0, 1) := by decide +kernel
theorem dX7_takeCredits_31 : decode cX7_takeCredits 31 = .ok (.iload_n 3, 1) := by decide +kernel
theorem dX7_takeCredits_32 : decode cX7_takeCredits 32 = .ok (.iconst 3, 1) := by decide +kernel
theorem dX7_takeCredits_33 : decode cX7_takeCredits 33 = .ok (.iadd, 1) := by decide +kernel
theorem dX7_takeCredits_34 : decode cX7_takeCredits 34 = .ok (.dup2, 1) := by decide +kernel
theorem dX7_takeCredits_35 : decode cX7_takeCredits 35 = .ok (.iaload, 1) := by decide +kernel
theorem dX7_takeCredits_36 : decode cX7_takeCredits 36 = .ok (.iload 4, 2) := by decide +kernel
theorem dX7_takeCredits_38 : decode cX7_takeCredits 38 = .ok (.isub, 1) := by decide +kernel
theorem dX7_takeCredits_39 : decode cX7_takeCredits 39 = .ok (.iastore, 1) := by decide +kernel
theorem dX7_takeCredits_40 : decode cX7_takeCredits 40 = .ok (.aload_n 0, 1) := by decide +kernel
theorem dX7_takeCredits_41 : decode cX7_takeCredits 41 = .ok (.iload_n 3, 1) := by decide +kernel
theorem dX7_takeCredits_42 : decode cX7_takeCredits 42 = .ok (.iconst 2, 1) := by decide +kernel
theorem dX7_takeCredits_43 : decode cX7_takeCredits 43 = .ok (.iadd, 1) := by decide +kernel
theorem dX7_takeCredits_44 : decode cX7_takeCredits 44 = .ok (.dup2, 1) := by decide +kernel
theorem dX7_takeCredits_45 : decode cX7_takeCredits 45 = .ok (.iaload, 1) := by decide +kernel
theorem dX7_takeCredits_46 : decode cX7_takeCredits 46 = .ok (.iload 5, 2) := by decide +kernel
theorem dX7_takeCredits_48 : decode cX7_takeCredits 48 = .ok (.isub, 1) := by decide +kernel
theorem dX7_takeCredits_49 : decode cX7_takeCredits 49 = .ok (.iastore, 1) := by decide +kernel
theorem dX7_takeCredits_50 : decode cX7_takeCredits 50 = .ok (.iload_n 2, 1) := by decide +kernel
theorem dX7_takeCredits_51 : decode cX7_takeCredits 51 = .ok (.iload 4, 2) := by decide +kernel
theorem dX7_takeCredits_53 : decode cX7_takeCredits 53 = .ok (.isub, 1) := by decide +kernel
theorem dX7_takeCredits_54 : decode cX7_takeCredits 54 = .ok (.iload 5, 2) := by decide +kernel
theorem dX7_takeCredits_56 : decode cX7_takeCredits 56 = .ok (.isub, 1) := by decide +kernel
theorem dX7_takeCredits_57 : decode cX7_takeCredits 57 = .ok (.ireturn, 1) := by decide +kernel
theorem dX7_isSuspended_0 : decode cX7_isSuspended 0 = .ok (.aload_n 0, 1) := by decide +kernel
theorem dX7_isSuspended_1 : decode cX7_isSuspended 1 = .ok (.iload_n 1, 1) := by decide +kernel
theorem dX7_isSuspended_2 : decode cX7_isSuspended 2 = .ok (.invokestatic 90, 3) := by decide +kernel
theorem dX7_isSuspended_5 : decode cX7_isSuspended 5 = .ok (.bipush 6, 2) := by decide +kernel
theorem dX7_isSuspended_7 : decode cX7_isSuspended 7 = .ok (.iadd, 1) := by decide +kernel
theorem dX7_isSuspended_8 : decode cX7_isSuspended 8 = .ok (.iaload, 1) := by decide +kernel
theorem dX7_isSuspended_9 : decode cX7_isSuspended 9 = .ok (.aload_n 0, 1) := by decide +kernel
theorem dX7_isSuspended_10 : decode cX7_isSuspended 10 = .ok (.iconst 5, 1) := by decide +kernel
theorem dX7_isSuspended_11 : decode cX7_isSuspended 11 = .ok (.iaload, 1) := by decide +kernel
theorem dX7_isSuspended_12 : decode cX7_isSuspended 12 = .ok (.if_icmp .le 7, 3) := by decide +kernel
theorem dX7_isSuspended_15 : decode cX7_isSuspended 15 = .ok (.iconst 1, 1) := by decide +kernel
theorem dX7_isSuspended_16 : decode cX7_isSuspended 16 = .ok (.goto 4, 3) := by decide +kernel
theorem dX7_isSuspended_19 : decode cX7_isSuspended 19 = .ok (.iconst 0, 1) := by decide +kernel
theorem dX7_isSuspended_20 : decode cX7_isSuspended 20 = .ok (.ireturn, 1) := by decide +kernel
theorem dX7_debts_0 : decode cX7_debts 0 = .ok (.iconst 0, 1) := by decide +kernel
theorem dX7_debts_1 : decode cX7_debts 1 = .ok (.istore_n 2, 1) := by decide +kernel
theorem dX7_debts_2 : decode cX7_debts 2 = .ok (.iconst 0, 1) := by decide +kernel
theorem dX7_debts_3 : decode cX7_debts 3 = .ok (.istore_n 3, 1) := by decide +kernel
theorem dX7_debts_4 : decode cX7_debts 4 = .ok (.iload_n 3, 1) := by decide +kernel
theorem dX7_debts_5 : decode cX7_debts 5 = .ok (.aload_n 0, 1) := by decide +kernel
theorem dX7_debts_6 : decode cX7_debts 6 = .ok (.iload_n 1, 1) := by decide +kernel
theorem dX7_debts_7 : decode cX7_debts 7 = .ok (.invokestatic 90, 3) := by decide +kernel
theorem dX7_debts_10 : decode cX7_debts 10 = .ok (.bipush 16, 2) := by decide +kernel
theorem dX7_debts_12 : decode cX7_debts 12 = .ok (.iadd, 1) := by decide +kernel
theorem dX7_debts_13 : decode cX7_debts 13 = .ok (.iaload, 1) := by decide +kernel
theorem dX7_debts_14 : decode cX7_debts 14 = .ok (.if_icmp .ge 25, 3) := by decide +kernel
theorem dX7_debts_17 : decode cX7_debts 17 = .ok (.iload_n 2, 1) := by decide +kernel
theorem dX7_debts_18 : decode cX7_debts 18 = .ok (.aload_n 0, 1) := by decide +kernel
theorem dX7_debts_19 : decode cX7_debts 19 = .ok (.iload_n 1, 1) := by decide +kernel
theorem dX7_debts_20 : decode cX7_debts 20 = .ok (.invokestatic 90, 3) := by decide +kernel
theorem dX7_debts_23 : decode cX7_debts 23 = .ok (.bipush 17, 2) := by decide +kernel
theorem dX7_debts_25 : decode cX7_debts 25 = .ok (.iadd, 1) := by decide +kernel
theorem dX7_debts_26 : decode cX7_debts 26 = .ok (.iconst 2, 1) := by decide +kernel
theorem dX7_debts_27 : decode cX7_debts 27 = .ok (.iload_n 3, 1) := by decide +kernel
theorem dX7_debts_28 : decode cX7_debts 28 = .ok (.imul, 1) := by decide +kernel
theorem dX7_debts_29 : decode cX7_debts 29 = .ok (.iadd, 1) := by decide +kernel
theorem dX7_debts_30 : decode cX7_debts 30 = .ok (.iaload, 1) := by decide +kernel
theorem dX7_debts_31 : decode cX7_debts 31 = .ok (.iadd, 1) := by decide +kernel
theorem dX7_debts_32 : decode cX7_debts 32 = .ok (.istore_n 2, 1) := by decide +kernel
theorem dX7_debts_33 : decode cX7_debts 33 = .ok (.iinc 3 1, 3) := by decide +kernel
theorem dX7_debts_36 : decode cX7_debts 36 = .ok (.goto (-32), 3) := by decide +kernel
theorem dX7_debts_39 : decode cX7_debts 39 = .ok (.iload_n 2, 1) := by decide +kernel
theorem dX7_debts_40 : decode cX7_debts 40 = .ok (.ireturn, 1) := by decide +kernel
theorem dX7_inBook_0 : decode cX7_inBook 0 = .ok (.iconst 0, 1) := by decide +kernel
theorem dX7_inBook_1 : decode cX7_inBook 1 = .ok (.istore 4, 2) := by decide +kernel
theorem dX7_inBook_3 : decode cX7_inBook 3 = .ok (.iconst 0, 1) := by decide +kernel
theorem dX7_inBook_4 : decode cX7_inBook 4 = .ok (.istore 5, 2) := by decide +kernel
theorem dX7_inBook_6 : decode cX7_inBook 6 = .ok (.iload 5, 2) := by decide +kernel
theorem dX7_inBook_8 : decode cX7_inBook 8 = .ok (.aload_n 0, 1) := by decide +kernel
theorem dX7_inBook_9 : decode cX7_inBook 9 = .ok (.bipush 8, 2) := by decide +kernel
theorem dX7_inBook_11 : decode cX7_inBook 11 = .ok (.iaload, 1) := by decide +kernel
theorem dX7_inBook_12 : decode cX7_inBook 12 = .ok (.if_icmp .ge 78, 3) := by decide +kernel
theorem dX7_inBook_15 : decode cX7_inBook 15 = .ok (.iload 5, 2) := by decide +kernel
theorem dX7_inBook_17 : decode cX7_inBook 17 = .ok (.invokestatic 119, 3) := by decide +kernel
theorem dX7_inBook_20 : decode cX7_inBook 20 = .ok (.istore 6, 2) := by decide +kernel
theorem dX7_inBook_22 : decode cX7_inBook 22 = .ok (.aload_n 0, 1) := by decide +kernel
theorem dX7_inBook_23 : decode cX7_inBook 23 = .ok (.iload 6, 2) := by decide +kernel
theorem dX7_inBook_25 : decode cX7_inBook 25 = .ok (.iconst 0, 1) := by decide +kernel
theorem dX7_inBook_26 : decode cX7_inBook 26 = .ok (.iadd, 1) := by decide +kernel
theorem dX7_inBook_27 : decode cX7_inBook 27 = .ok (.iaload, 1) := by decide +kernel
theorem dX7_inBook_28 : decode cX7_inBook 28 = .ok (.iload_n 1, 1) := by decide +kernel
theorem dX7_inBook_29 : decode cX7_inBook 29 = .ok (.if_icmp .ne 17, 3) := by decide +kernel
theorem dX7_inBook_32 : decode cX7_inBook 32 = .ok (.aload_n 0, 1) := by decide +kernel
theorem dX7_inBook_33 : decode cX7_inBook 33 = .ok (.iload 6, 2) := by decide +kernel
theorem dX7_inBook_35 : decode cX7_inBook 35 = .ok (.iconst 1, 1) := by decide +kernel
theorem dX7_inBook_36 : decode cX7_inBook 36 = .ok (.iadd, 1) := by decide +kernel
theorem dX7_inBook_37 : decode cX7_inBook 37 = .ok (.iaload, 1) := by decide +kernel
theorem dX7_inBook_38 : decode cX7_inBook 38 = .ok (.iload_n 2, 1) := by decide +kernel
theorem dX7_inBook_39 : decode cX7_inBook 39 = .ok (.if_icmp .ne 7, 3) := by decide +kernel
theorem dX7_inBook_42 : decode cX7_inBook 42 = .ok (.iconst 1, 1) := by decide +kernel
theorem dX7_inBook_43 : decode cX7_inBook 43 = .ok (.goto 4, 3) := by decide +kernel
theorem dX7_inBook_46 : decode cX7_inBook 46 = .ok (.iconst 0, 1) := by decide +kernel
theorem dX7_inBook_47 : decode cX7_inBook 47 = .ok (.istore 7, 2) := by decide +kernel
theorem dX7_inBook_49 : decode cX7_inBook 49 = .ok (.iload 4, 2) := by decide +kernel
theorem dX7_inBook_51 : decode cX7_inBook 51 = .ok (.iload 7, 2) := by decide +kernel
theorem dX7_inBook_53 : decode cX7_inBook 53 = .ok (.ifCond .eq 27, 3) := by decide +kernel
theorem dX7_inBook_56 : decode cX7_inBook 56 = .ok (.aload_n 0, 1) := by decide +kernel
theorem dX7_inBook_57 : decode cX7_inBook 57 = .ok (.iload 6, 2) := by decide +kernel
theorem dX7_inBook_59 : decode cX7_inBook 59 = .ok (.iconst 3, 1) := by decide +kernel
theorem dX7_inBook_60 : decode cX7_inBook 60 = .ok (.iadd, 1) := by decide +kernel
theorem dX7_inBook_61 : decode cX7_inBook 61 = .ok (.iaload, 1) := by decide +kernel
theorem dX7_inBook_62 : decode cX7_inBook 62 = .ok (.iload_n 3, 1) := by decide +kernel
theorem dX7_inBook_63 : decode cX7_inBook 63 = .ok (.ifCond .eq 12, 3) := by decide +kernel
theorem dX7_inBook_66 : decode cX7_inBook 66 = .ok (.aload_n 0, 1) := by decide +kernel
theorem dX7_inBook_67 : decode cX7_inBook 67 = .ok (.iload 6, 2) := by decide +kernel
theorem dX7_inBook_69 : decode cX7_inBook 69 = .ok (.iconst 2, 1) := by decide +kernel
theorem dX7_inBook_70 : decode cX7_inBook 70 = .ok (.iadd, 1) := by decide +kernel
theorem dX7_inBook_71 : decode cX7_inBook 71 = .ok (.iaload, 1) := by decide +kernel
theorem dX7_inBook_72 : decode cX7_inBook 72 = .ok (.goto 4, 3) := by decide +kernel
theorem dX7_inBook_75 : decode cX7_inBook 75 = .ok (.iconst 1, 1) := by decide +kernel
theorem dX7_inBook_76 : decode cX7_inBook 76 = .ok (.imul, 1) := by decide +kernel
theorem dX7_inBook_77 : decode cX7_inBook 77 = .ok (.goto 4, 3) := by decide +kernel
theorem dX7_inBook_80 : decode cX7_inBook 80 = .ok (.iconst 0, 1) := by decide +kernel
theorem dX7_inBook_81 : decode cX7_inBook 81 = .ok (.iadd, 1) := by decide +kernel
theorem dX7_inBook_82 : decode cX7_inBook 82 = .ok (.istore 4, 2) := by decide +kernel
theorem dX7_inBook_84 : decode cX7_inBook 84 = .ok (.iinc 5 1, 3) := by decide +kernel
theorem dX7_inBook_87 : decode cX7_inBook 87 = .ok (.goto (-81), 3) := by decide +kernel
theorem dX7_inBook_90 : decode cX7_inBook 90 = .ok (.iload 4, 2) := by decide +kernel
theorem dX7_inBook_92 : decode cX7_inBook 92 = .ok (.ireturn, 1) := by decide +kernel
