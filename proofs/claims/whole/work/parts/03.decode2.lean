theorem dX7_rowOf_34 : decode cX7_rowOf 34 = .ok (.getfield 18, 3) := by decide +kernel
theorem dX7_rowOf_37 : decode cX7_rowOf 37 = .ok (.areturn, 1) := by decide +kernel
theorem dX7_rowOf_38 : decode cX7_rowOf 38 = .ok (.aload_n 0, 1) := by decide +kernel
theorem dX7_rowOf_39 : decode cX7_rowOf 39 = .ok (.getfield 21, 3) := by decide +kernel
theorem dX7_rowOf_42 : decode cX7_rowOf 42 = .ok (.areturn, 1) := by decide +kernel
theorem dX7_rowOf_43 : decode cX7_rowOf 43 = .ok (.aconst_null, 1) := by decide +kernel
theorem dX7_rowOf_44 : decode cX7_rowOf 44 = .ok (.areturn, 1) := by decide +kernel
theorem dX7_isByte_0 : decode cX7_isByte 0 = .ok (.iload_n 0, 1) := by decide +kernel
theorem dX7_isByte_1 : decode cX7_isByte 1 = .ok (.ifCond .lt 14, 3) := by decide +kernel
theorem dX7_isByte_4 : decode cX7_isByte 4 = .ok (.iload_n 0, 1) := by decide +kernel
theorem dX7_isByte_5 : decode cX7_isByte 5 = .ok (.sipush 256, 3) := by decide +kernel
theorem dX7_isByte_8 : decode cX7_isByte 8 = .ok (.if_icmp .ge 7, 3) := by decide +kernel
theorem dX7_isByte_11 : decode cX7_isByte 11 = .ok (.iconst 1, 1) := by decide +kernel
theorem dX7_isByte_12 : decode cX7_isByte 12 = .ok (.goto 4, 3) := by decide +kernel
theorem dX7_isByte_15 : decode cX7_isByte 15 = .ok (.iconst 0, 1) := by decide +kernel
theorem dX7_isByte_16 : decode cX7_isByte 16 = .ok (.ireturn, 1) := by decide +kernel
theorem dX7_keyOf_0 : decode cX7_keyOf 0 = .ok (.iload_n 0, 1) := by decide +kernel
theorem dX7_keyOf_1 : decode cX7_keyOf 1 = .ok (.ifCond .ne 5, 3) := by decide +kernel
theorem dX7_keyOf_4 : decode cX7_keyOf 4 = .ok (.iconst 0, 1) := by decide +kernel
theorem dX7_keyOf_5 : decode cX7_keyOf 5 = .ok (.ireturn, 1) := by decide +kernel
theorem dX7_keyOf_6 : decode cX7_keyOf 6 = .ok (.iload_n 0, 1) := by decide +kernel
theorem dX7_keyOf_7 : decode cX7_keyOf 7 = .ok (.iconst 1, 1) := by decide +kernel
theorem dX7_keyOf_8 : decode cX7_keyOf 8 = .ok (.if_icmp .ne 14, 3) := by decide +kernel
theorem dX7_keyOf_11 : decode cX7_keyOf 11 = .ok (.iload_n 1, 1) := by decide +kernel
theorem dX7_keyOf_12 : decode cX7_keyOf 12 = .ok (.invokestatic 180, 3) := by decide +kernel
theorem dX7_keyOf_15 : decode cX7_keyOf 15 = .ok (.ifCond .eq 7, 3) := by decide +kernel
theorem dX7_keyOf_18 : decode cX7_keyOf 18 = .ok (.iconst 1, 1) := by decide +kernel
theorem dX7_keyOf_19 : decode cX7_keyOf 19 = .ok (.iload_n 1, 1) := by decide +kernel
theorem dX7_keyOf_20 : decode cX7_keyOf 20 = .ok (.iadd, 1) := by decide +kernel
theorem dX7_keyOf_21 : decode cX7_keyOf 21 = .ok (.ireturn, 1) := by decide +kernel
theorem dX7_keyOf_22 : decode cX7_keyOf 22 = .ok (.iload_n 0, 1) := by decide +kernel
theorem dX7_keyOf_23 : decode cX7_keyOf 23 = .ok (.iconst 2, 1) := by decide +kernel
theorem dX7_keyOf_24 : decode cX7_keyOf 24 = .ok (.if_icmp .ne 29, 3) := by decide +kernel
theorem dX7_keyOf_27 : decode cX7_keyOf 27 = .ok (.iload_n 1, 1) := by decide +kernel
theorem dX7_keyOf_28 : decode cX7_keyOf 28 = .ok (.invokestatic 180, 3) := by decide +kernel
theorem dX7_keyOf_31 : decode cX7_keyOf 31 = .ok (.ifCond .eq 22, 3) := by decide +kernel
theorem dX7_keyOf_34 : decode cX7_keyOf 34 = .ok (.iload_n 2, 1) := by decide +kernel
theorem dX7_keyOf_35 : decode cX7_keyOf 35 = .ok (.invokestatic 180, 3) := by decide +kernel
theorem dX7_keyOf_38 : decode cX7_keyOf 38 = .ok (.ifCond .eq 15, 3) := by decide +kernel
theorem dX7_keyOf_41 : decode cX7_keyOf 41 = .ok (.sipush 257, 3) := by decide +kernel
theorem dX7_keyOf_44 : decode cX7_keyOf 44 = .ok (.iload_n 1, 1) := by decide +kernel
theorem dX7_keyOf_45 : decode cX7_keyOf 45 = .ok (.sipush 256, 3) := by decide +kernel
theorem dX7_keyOf_48 : decode cX7_keyOf 48 = .ok (.imul, 1) := by decide +kernel
theorem dX7_keyOf_49 : decode cX7_keyOf 49 = .ok (.iadd, 1) := by decide +kernel
theorem dX7_keyOf_50 : decode cX7_keyOf 50 = .ok (.iload_n 2, 1) := by decide +kernel
theorem dX7_keyOf_51 : decode cX7_keyOf 51 = .ok (.iadd, 1) := by decide +kernel
theorem dX7_keyOf_52 : decode cX7_keyOf 52 = .ok (.ireturn, 1) := by decide +kernel
theorem dX7_keyOf_53 : decode cX7_keyOf 53 = .ok (.iconst (-1), 1) := by decide +kernel
theorem dX7_keyOf_54 : decode cX7_keyOf 54 = .ok (.ireturn, 1) := by decide +kernel
theorem dX7_grown_0 : decode cX7_grown 0 = .ok (.iload_n 1, 1) := by decide +kernel
theorem dX7_grown_1 : decode cX7_grown 1 = .ok (.iconst 2, 1) := by decide +kernel
theorem dX7_grown_2 : decode cX7_grown 2 = .ok (.iload_n 0, 1) := by decide +kernel
theorem dX7_grown_3 : decode cX7_grown 3 = .ok (.imul, 1) := by decide +kernel
theorem dX7_grown_4 : decode cX7_grown 4 = .ok (.invokestatic 183, 3) := by decide +kernel
theorem dX7_grown_7 : decode cX7_grown 7 = .ok (.ireturn, 1) := by decide +kernel
theorem dX8_init_0 : decode cX8_init 0 = .ok (.aload_n 0, 1) := by decide +kernel
theorem dX8_init_1 : decode cX8_init 1 = .ok (.invokespecial 1, 3) := by decide +kernel
theorem dX8_init_4 : decode cX8_init 4 = .ok (.aload_n 0, 1) := by decide +kernel
theorem dX8_init_5 : decode cX8_init 5 = .ok (.sipush 4000, 3) := by decide +kernel
theorem dX8_init_8 : decode cX8_init 8 = .ok (.newarray .byte, 2) := by decide +kernel
theorem dX8_init_10 : decode cX8_init 10 = .ok (.putfield 7, 3) := by decide +kernel
theorem dX8_init_13 : decode cX8_init 13 = .ok (.aload_n 0, 1) := by decide +kernel
theorem dX8_init_14 : decode cX8_init 14 = .ok (.sipush 8000, 3) := by decide +kernel
theorem dX8_init_17 : decode cX8_init 17 = .ok (.newarray .byte, 2) := by decide +kernel
theorem dX8_init_19 : decode cX8_init 19 = .ok (.putfield 13, 3) := by decide +kernel
theorem dX8_init_22 : decode cX8_init 22 = .ok (.aload_n 0, 1) := by decide +kernel
theorem dX8_init_23 : decode cX8_init 23 = .ok (.sipush 4000, 3) := by decide +kernel
theorem dX8_init_26 : decode cX8_init 26 = .ok (.newarray .byte, 2) := by decide +kernel
theorem dX8_init_28 : decode cX8_init 28 = .ok (.putfield 16, 3) := by decide +kernel
theorem dX8_init_31 : decode cX8_init 31 = .ok (.aload_n 0, 1) := by decide +kernel
theorem dX8_init_32 : decode cX8_init 32 = .ok (.sipush 2000, 3) := by decide +kernel
theorem dX8_init_35 : decode cX8_init 35 = .ok (.putfield 19, 3) := by decide +kernel
theorem dX8_init_38 : decode cX8_init 38 = .ok (.aload_n 0, 1) := by decide +kernel
theorem dX8_init_39 : decode cX8_init 39 = .ok (.sipush 6000, 3) := by decide +kernel
theorem dX8_init_42 : decode cX8_init 42 = .ok (.newarray .int, 2) := by decide +kernel
theorem dX8_init_44 : decode cX8_init 44 = .ok (.putfield 23, 3) := by decide +kernel
theorem dX8_init_47 : decode cX8_init 47 = .ok (.aload_n 0, 1) := by decide +kernel
theorem dX8_init_48 : decode cX8_init 48 = .ok (.sipush 6000, 3) := by decide +kernel
theorem dX8_init_51 : decode cX8_init 51 = .ok (.newarray .short, 2) := by decide +kernel
theorem dX8_init_53 : decode cX8_init 53 = .ok (.putfield 27, 3) := by decide +kernel
theorem dX8_init_56 : decode cX8_init 56 = .ok (.aload_n 0, 1) := by decide +kernel
theorem dX8_init_57 : decode cX8_init 57 = .ok (.sipush 6000, 3) := by decide +kernel
theorem dX8_init_60 : decode cX8_init 60 = .ok (.newarray .short, 2) := by decide +kernel
theorem dX8_init_62 : decode cX8_init 62 = .ok (.putfield 31, 3) := by decide +kernel
theorem dX8_init_65 : decode cX8_init 65 = .ok (.aload_n 0, 1) := by decide +kernel
theorem dX8_init_66 : decode cX8_init 66 = .ok (.sipush 20000, 3) := by decide +kernel
theorem dX8_init_69 : decode cX8_init 69 = .ok (.newarray .short, 2) := by decide +kernel
theorem dX8_init_71 : decode cX8_init 71 = .ok (.putfield 34, 3) := by decide +kernel
theorem dX8_init_74 : decode cX8_init 74 = .ok (.aload_n 0, 1) := by decide +kernel
theorem dX8_init_75 : decode cX8_init 75 = .ok (.sipush 20000, 3) := by decide +kernel
theorem dX8_init_78 : decode cX8_init 78 = .ok (.newarray .short, 2) := by decide +kernel
theorem dX8_init_80 : decode cX8_init 80 = .ok (.putfield 37, 3) := by decide +kernel
theorem dX8_init_83 : decode cX8_init 83 = .ok (.aload_n 0, 1) := by decide +kernel
theorem dX8_init_84 : decode cX8_init 84 = .ok (.sipush 20000, 3) := by decide +kernel
theorem dX8_init_87 : decode cX8_init 87 = .ok (.newarray .short, 2) := by decide +kernel
theorem dX8_init_89 : decode cX8_init 89 = .ok (.putfield 40, 3) := by decide +kernel
theorem dX8_init_92 : decode cX8_init 92 = .ok (.aload_n 0, 1) := by decide +kernel
theorem dX8_init_93 : decode cX8_init 93 = .ok (.sipush 20000, 3) := by decide +kernel
theorem dX8_init_96 : decode cX8_init 96 = .ok (.newarray .byte, 2) := by decide +kernel
theorem dX8_init_98 : decode cX8_init 98 = .ok (.putfield 43, 3) := by decide +kernel
theorem dX8_init_101 : decode cX8_init 101 = .ok (.aload_n 0, 1) := by decide +kernel
theorem dX8_init_102 : decode cX8_init 102 = .ok (.sipush 257, 3) := by decide +kernel
theorem dX8_init_105 : decode cX8_init 105 = .ok (.newarray .boolean, 2) := by decide +kernel
theorem dX8_init_107 : decode cX8_init 107 = .ok (.putfield 46, 3) := by decide +kernel
theorem dX8_init_110 : decode cX8_init 110 = .ok (.aload_n 0, 1) := by decide +kernel
theorem dX8_init_111 : decode cX8_init 111 = .ok (.sipush 2000, 3) := by decide +kernel
theorem dX8_init_114 : decode cX8_init 114 = .ok (.invokevirtual 50, 3) := by decide +kernel
theorem dX8_init_117 : decode cX8_init 117 = .ok (.pop, 1) := by decide +kernel
theorem dX8_init_118 : decode cX8_init 118 = .ok (.return_, 1) := by decide +kernel
theorem dX8_begin_0 : decode cX8_begin 0 = .ok (.iload_n 1, 1) := by decide +kernel
theorem dX8_begin_1 : decode cX8_begin 1 = .ok (.iconst 4, 1) := by decide +kernel
theorem dX8_begin_2 : decode cX8_begin 2 = .ok (.if_icmp .lt 10, 3) := by decide +kernel
theorem dX8_begin_5 : decode cX8_begin 5 = .ok (.iload_n 1, 1) := by decide +kernel
theorem dX8_begin_6 : decode cX8_begin 6 = .ok (.sipush 6000, 3) := by decide +kernel
theorem dX8_begin_9 : decode cX8_begin 9 = .ok (.if_icmp .le 5, 3) := by decide +kernel
theorem dX8_begin_12 : decode cX8_begin 12 = .ok (.iconst 0, 1) := by decide +kernel
theorem dX8_begin_13 : decode cX8_begin 13 = .ok (.ireturn, 1) := by decide +kernel
theorem dX8_begin_14 : decode cX8_begin 14 = .ok (.aload_n 0, 1) := by decide +kernel
theorem dX8_begin_15 : decode cX8_begin 15 = .ok (.iload_n 1, 1) := by decide +kernel
theorem dX8_begin_16 : decode cX8_begin 16 = .ok (.putfield 19, 3) := by decide +kernel
theorem dX8_begin_19 : decode cX8_begin 19 = .ok (.aload_n 0, 1) := by decide +kernel
theorem dX8_begin_20 : decode cX8_begin 20 = .ok (.iconst 0, 1) := by decide +kernel
theorem dX8_begin_21 : decode cX8_begin 21 = .ok (.putfield 54, 3) := by decide +kernel
theorem dX8_begin_24 : decode cX8_begin 24 = .ok (.aload_n 0, 1) := by decide +kernel
theorem dX8_begin_25 : decode cX8_begin 25 = .ok (.iconst 0, 1) := by decide +kernel
theorem dX8_begin_26 : decode cX8_begin 26 = .ok (.putfield 57, 3) := by decide +kernel
theorem dX8_begin_29 : decode cX8_begin 29 = .ok (.aload_n 0, 1) := by decide +kernel
theorem dX8_begin_30 : decode cX8_begin 30 = .ok (.iconst 0, 1) := by decide +kernel
theorem dX8_begin_31 : decode cX8_begin 31 = .ok (.putfield 60, 3) := by decide +kernel
theorem dX8_begin_34 : decode cX8_begin 34 = .ok (.aload_n 0, 1) := by decide +kernel
theorem dX8_begin_35 : decode cX8_begin 35 = .ok (.invokevirtual 63, 3) := by decide +kernel
theorem dX8_begin_38 : decode cX8_begin 38 = .ok (.aload_n 0, 1) := by decide +kernel
theorem dX8_begin_39 : decode cX8_begin 39 = .ok (.lconst 0, 1) := by decide +kernel
theorem dX8_begin_40 : decode cX8_begin 40 = .ok (.putfield 66, 3) := by decide +kernel
theorem dX8_begin_43 : decode cX8_begin 43 = .ok (.iconst 1, 1) := by decide +kernel
theorem dX8_begin_44 : decode cX8_begin 44 = .ok (.ireturn, 1) := by decide +kernel
theorem dX8_startModel_0 : decode cX8_startModel 0 = .ok (.aload_n 0, 1) := by decide +kernel
theorem dX8_startModel_1 : decode cX8_startModel 1 = .ok (.iconst 0, 1) := by decide +kernel
theorem dX8_startModel_2 : decode cX8_startModel 2 = .ok (.putfield 70, 3) := by decide +kernel
theorem dX8_startModel_5 : decode cX8_startModel 5 = .ok (.aload_n 0, 1) := by decide +kernel
theorem dX8_startModel_6 : decode cX8_startModel 6 = .ok (.iconst 0, 1) := by decide +kernel
theorem dX8_startModel_7 : decode cX8_startModel 7 = .ok (.putfield 73, 3) := by decide +kernel
theorem dX8_startModel_10 : decode cX8_startModel 10 = .ok (.aload_n 0, 1) := by decide +kernel
theorem dX8_startModel_11 : decode cX8_startModel 11 = .ok (.iconst 0, 1) := by decide +kernel
theorem dX8_startModel_12 : decode cX8_startModel 12 = .ok (.putfield 76, 3) := by decide +kernel
theorem dX8_startModel_15 : decode cX8_startModel 15 = .ok (.aload_n 0, 1) := by decide +kernel
theorem dX8_startModel_16 : decode cX8_startModel 16 = .ok (.iconst 0, 1) := by decide +kernel
theorem dX8_startModel_17 : decode cX8_startModel 17 = .ok (.putfield 79, 3) := by decide +kernel
theorem dX8_startModel_20 : decode cX8_startModel 20 = .ok (.aload_n 0, 1) := by decide +kernel
theorem dX8_startModel_21 : decode cX8_startModel 21 = .ok (.iconst 0, 1) := by decide +kernel
theorem dX8_startModel_22 : decode cX8_startModel 22 = .ok (.putfield 82, 3) := by decide +kernel
theorem dX8_startModel_25 : decode cX8_startModel 25 = .ok (.aload_n 0, 1) := by decide +kernel
theorem dX8_startModel_26 : decode cX8_startModel 26 = .ok (.iconst 0, 1) := by decide +kernel
theorem dX8_startModel_27 : decode cX8_startModel 27 = .ok (.putfield 85, 3) := by decide +kernel
theorem dX8_startModel_30 : decode cX8_startModel 30 = .ok (.aload_n 0, 1) := by decide +kernel
theorem dX8_startModel_31 : decode cX8_startModel 31 = .ok (.iconst 0, 1) := by decide +kernel
theorem dX8_startModel_32 : decode cX8_startModel 32 = .ok (.putfield 88, 3) := by decide +kernel
theorem dX8_startModel_35 : decode cX8_startModel 35 = .ok (.aload_n 0, 1) := by decide +kernel
theorem dX8_startModel_36 : decode cX8_startModel 36 = .ok (.iconst 0, 1) := by decide +kernel
theorem dX8_startModel_37 : decode cX8_startModel 37 = .ok (.putfield 91, 3) := by decide +kernel
theorem dX8_startModel_40 : decode cX8_startModel 40 = .ok (.aload_n 0, 1) := by decide +kernel
theorem dX8_startModel_41 : decode cX8_startModel 41 = .ok (.iconst 0, 1) := by decide +kernel
theorem dX8_startModel_42 : decode cX8_startModel 42 = .ok (.putfield 94, 3) := by decide +kernel
theorem dX8_startModel_45 : decode cX8_startModel 45 = .ok (.aload_n 0, 1) := by decide +kernel
theorem dX8_startModel_46 : decode cX8_startModel 46 = .ok (.ldc2_w 97, 3) := by decide +kernel
theorem dX8_startModel_49 : decode cX8_startModel 49 = .ok (.putfield 66, 3) := by decide +kernel
theorem dX8_startModel_52 : decode cX8_startModel 52 = .ok (.return_, 1) := by decide +kernel
theorem dX8_feed_0 : decode cX8_feed 0 = .ok (.iload_n 1, 1) := by decide +kernel
theorem dX8_feed_1 : decode cX8_feed 1 = .ok (.ifCond .lt 20, 3) := by decide +kernel
theorem dX8_feed_4 : decode cX8_feed 4 = .ok (.iload_n 1, 1) := by decide +kernel
theorem dX8_feed_5 : decode cX8_feed 5 = .ok (.sipush 255, 3) := by decide +kernel
theorem dX8_feed_8 : decode cX8_feed 8 = .ok (.if_icmp .gt 13, 3) := by decide +kernel
theorem dX8_feed_11 : decode cX8_feed 11 = .ok (.aload_n 0, 1) := by decide +kernel
theorem dX8_feed_12 : decode cX8_feed 12 = .ok (.getfield 54, 3) := by decide +kernel
theorem dX8_feed_15 : decode cX8_feed 15 = .ok (.sipush 4000, 3) := by decide +kernel
theorem dX8_feed_18 : decode cX8_feed 18 = .ok (.if_icmp .ne 5, 3) := by decide +kernel
theorem dX8_feed_21 : decode cX8_feed 21 = .ok (.iconst 0, 1) := by decide +kernel
theorem dX8_feed_22 : decode cX8_feed 22 = .ok (.ireturn, 1) := by decide +kernel
theorem dX8_feed_23 : decode cX8_feed 23 = .ok (.aload_n 0, 1) := by decide +kernel
theorem dX8_feed_24 : decode cX8_feed 24 = .ok (.getfield 7, 3) := by decide +kernel
theorem dX8_feed_27 : decode cX8_feed 27 = .ok (.aload_n 0, 1) := by decide +kernel
theorem dX8_feed_28 : decode cX8_feed 28 = .ok (.getfield 54, 3) := by decide +kernel
theorem dX8_feed_31 : decode cX8_feed 31 = .ok (.iload_n 1, 1) := by decide +kernel
theorem dX8_feed_32 : decode cX8_feed 32 = .ok (.i2b, 1) := by decide +kernel
theorem dX8_feed_33 : decode cX8_feed 33 = .ok (.bastore, 1) := by decide +kernel
theorem dX8_feed_34 : decode cX8_feed 34 = .ok (.aload_n 0, 1) := by decide +kernel
theorem dX8_feed_35 : decode cX8_feed 35 = .ok (.dup, 1) := by decide +kernel
theorem dX8_feed_36 : decode cX8_feed 36 = .ok (.getfield 54, 3) := by decide +kernel
theorem dX8_feed_39 : decode cX8_feed 39 = .ok (.iconst 1, 1) := by decide +kernel
theorem dX8_feed_40 : decode cX8_feed 40 = .ok (.iadd, 1) := by decide +kernel
theorem dX8_feed_41 : decode cX8_feed 41 = .ok (.putfield 54, 3) := by decide +kernel
theorem dX8_feed_44 : decode cX8_feed 44 = .ok (.iconst 1, 1) := by decide +kernel
theorem dX8_feed_45 : decode cX8_feed 45 = .ok (.ireturn, 1) := by decide +kernel
theorem dX8_cut_0 : decode cX8_cut 0 = .ok (.iload_n 1, 1) := by decide +kernel
theorem dX8_cut_1 : decode cX8_cut 1 = .ok (.ifCond .lt 11, 3) := by decide +kernel
theorem dX8_cut_4 : decode cX8_cut 4 = .ok (.iload_n 1, 1) := by decide +kernel
theorem dX8_cut_5 : decode cX8_cut 5 = .ok (.aload_n 0, 1) := by decide +kernel
theorem dX8_cut_6 : decode cX8_cut 6 = .ok (.getfield 54, 3) := by decide +kernel
theorem dX8_cut_9 : decode cX8_cut 9 = .ok (.if_icmp .le 5, 3) := by decide +kernel
theorem dX8_cut_12 : decode cX8_cut 12 = .ok (.iconst 0, 1) := by decide +kernel
theorem dX8_cut_13 : decode cX8_cut 13 = .ok (.ireturn, 1) := by decide +kernel
theorem dX8_cut_14 : decode cX8_cut 14 = .ok (.aload_n 0, 1) := by decide +kernel
theorem dX8_cut_15 : decode cX8_cut 15 = .ok (.iload_n 1, 1) := by decide +kernel
theorem dX8_cut_16 : decode cX8_cut 16 = .ok (.putfield 54, 3) := by decide +kernel
theorem dX8_cut_19 : decode cX8_cut 19 = .ok (.iconst 1, 1) := by decide +kernel
theorem dX8_cut_20 : decode cX8_cut 20 = .ok (.ireturn, 1) := by decide +kernel
theorem dX8_contextOf_0 : decode cX8_contextOf 0 = .ok (.iload_n 0, 1) := by decide +kernel
theorem dX8_contextOf_1 : decode cX8_contextOf 1 = .ok (.ifCond .ne 7, 3) := by decide +kernel
theorem dX8_contextOf_4 : decode cX8_contextOf 4 = .ok (.iconst 0, 1) := by decide +kernel
theorem dX8_contextOf_5 : decode cX8_contextOf 5 = .ok (.goto 25, 3) := by decide +kernel
theorem dX8_contextOf_8 : decode cX8_contextOf 8 = .ok (.iload_n 0, 1) := by decide +kernel
theorem dX8_contextOf_9 : decode cX8_contextOf 9 = .ok (.iconst 1, 1) := by decide +kernel
theorem dX8_contextOf_10 : decode cX8_contextOf 10 = .ok (.if_icmp .ne 9, 3) := by decide +kernel
theorem dX8_contextOf_13 : decode cX8_contextOf 13 = .ok (.iconst 1, 1) := by decide +kernel
theorem dX8_contextOf_14 : decode cX8_contextOf 14 = .ok (.iload_n 1, 1) := by decide +kernel
theorem dX8_contextOf_15 : decode cX8_contextOf 15 = .ok (.iadd, 1) := by decide +kernel
theorem dX8_contextOf_16 : decode cX8_contextOf 16 = .ok (.goto 14, 3) := by decide +kernel
theorem dX8_contextOf_19 : decode cX8_contextOf 19 = .ok (.sipush 257, 3) := by decide +kernel
theorem dX8_contextOf_22 : decode cX8_contextOf 22 = .ok (.sipush 256, 3) := by decide +kernel
theorem dX8_contextOf_25 : decode cX8_contextOf 25 = .ok (.iload_n 1, 1) := by decide +kernel
theorem dX8_contextOf_26 : decode cX8_contextOf 26 = .ok (.imul, 1) := by decide +kernel
theorem dX8_contextOf_27 : decode cX8_contextOf 27 = .ok (.iadd, 1) := by decide +kernel
theorem dX8_contextOf_28 : decode cX8_contextOf 28 = .ok (.iload_n 2, 1) := by decide +kernel
theorem dX8_contextOf_29 : decode cX8_contextOf 29 = .ok (.iadd, 1) := by decide +kernel
theorem dX8_contextOf_30 : decode cX8_contextOf 30 = .ok (.ireturn, 1) := by decide +kernel
theorem dX8_here_0 : decode cX8_here 0 = .ok (.iload_n 1, 1) := by decide +kernel
theorem dX8_here_1 : decode cX8_here 1 = .ok (.aload_n 0, 1) := by decide +kernel
theorem dX8_here_2 : decode cX8_here 2 = .ok (.getfield 91, 3) := by decide +kernel
theorem dX8_here_5 : decode cX8_here 5 = .ok (.aload_n 0, 1) := by decide +kernel
theorem dX8_here_6 : decode cX8_here 6 = .ok (.getfield 94, 3) := by decide +kernel
theorem dX8_here_9 : decode cX8_here 9 = .ok (.invokestatic 99, 3) := by decide +kernel
theorem dX8_here_12 : decode cX8_here 12 = .ok (.ireturn, 1) := by decide +kernel
theorem dX8_find_0 : decode cX8_find 0 = .ok (.iconst 0, 1) := by decide +kernel
theorem dX8_find_1 : decode cX8_find 1 = .ok (.istore_n 3, 1) := by decide +kernel
theorem dX8_find_2 : decode cX8_find 2 = .ok (.iload_n 3, 1) := by decide +kernel
theorem dX8_find_3 : decode cX8_find 3 = .ok (.aload_n 0, 1) := by decide +kernel
theorem dX8_find_4 : decode cX8_find 4 = .ok (.getfield 70, 3) := by decide +kernel
theorem dX8_find_7 : decode cX8_find 7 = .ok (.if_icmp .ge 31, 3) := by decide +kernel
theorem dX8_find_10 : decode cX8_find 10 = .ok (.aload_n 0, 1) := by decide +kernel
theorem dX8_find_11 : decode cX8_find 11 = .ok (.getfield 23, 3) := by decide +kernel
theorem dX8_find_14 : decode cX8_find 14 = .ok (.iload_n 3, 1) := by decide +kernel
theorem dX8_find_15 : decode cX8_find 15 = .ok (.iaload, 1) := by decide +kernel
theorem dX8_find_16 : decode cX8_find 16 = .ok (.iload_n 1, 1) := by decide +kernel
theorem dX8_find_17 : decode cX8_find 17 = .ok (.if_icmp .ne 15, 3) := by decide +kernel
theorem dX8_find_20 : decode cX8_find 20 = .ok (.aload_n 0, 1) := by decide +kernel
theorem dX8_find_21 : decode cX8_find 21 = .ok (.getfield 27, 3) := by decide +kernel
theorem dX8_find_24 : decode cX8_find 24 = .ok (.iload_n 3, 1) := by decide +kernel
theorem dX8_find_25 : decode cX8_find 25 = .ok (.saload, 1) := by decide +kernel
theorem dX8_find_26 : decode cX8_find 26 = .ok (.iload_n 2, 1) := by decide +kernel
theorem dX8_find_27 : decode cX8_find 27 = .ok (.if_icmp .ne 5, 3) := by decide +kernel
theorem dX8_find_30 : decode cX8_find 30 = .ok (.iload_n 3, 1) := by decide +kernel
theorem dX8_find_31 : decode cX8_find 31 = .ok (.ireturn, 1) := by decide +kernel
theorem dX8_find_32 : decode cX8_find 32 = .ok (.iinc 3 1, 3) := by decide +kernel
theorem dX8_find_35 : decode cX8_find 35 = .ok (.goto (-33), 3) := by decide +kernel
theorem dX8_find_38 : decode cX8_find 38 = .ok (.iconst (-1), 1) := by decide +kernel
theorem dX8_find_39 : decode cX8_find 39 = .ok (.ireturn, 1) := by decide +kernel
theorem dX8_learn_0 : decode cX8_learn 0 = .ok (.iload_n 2, 1) := by decide +kernel
theorem dX8_learn_1 : decode cX8_learn 1 = .ok (.ifCond .ge 7, 3) := by decide +kernel
theorem dX8_learn_4 : decode cX8_learn 4 = .ok (.iconst 0, 1) := by decide +kernel
theorem dX8_learn_5 : decode cX8_learn 5 = .ok (.goto 4, 3) := by decide +kernel
theorem dX8_learn_8 : decode cX8_learn 8 = .ok (.iload_n 2, 1) := by decide +kernel
theorem dX8_learn_9 : decode cX8_learn 9 = .ok (.istore_n 3, 1) := by decide +kernel
theorem dX8_learn_10 : decode cX8_learn 10 = .ok (.aload_n 0, 1) := by decide +kernel
theorem dX8_learn_11 : decode cX8_learn 11 = .ok (.getfield 88, 3) := by decide +kernel
theorem dX8_learn_14 : decode cX8_learn 14 = .ok (.iconst 2, 1) := by decide +kernel
theorem dX8_learn_15 : decode cX8_learn 15 = .ok (.if_icmp .ge 10, 3) := by decide +kernel
theorem dX8_learn_18 : decode cX8_learn 18 = .ok (.aload_n 0, 1) := by decide +kernel
theorem dX8_learn_19 : decode cX8_learn 19 = .ok (.getfield 88, 3) := by decide +kernel
theorem dX8_learn_22 : decode cX8_learn 22 = .ok (.goto 4, 3) := by decide +kernel
theorem dX8_learn_25 : decode cX8_learn 25 = .ok (.iconst 2, 1) := by decide +kernel
theorem dX8_learn_26 : decode cX8_learn 26 = .ok (.istore 4, 2) := by decide +kernel
theorem dX8_learn_28 : decode cX8_learn 28 = .ok (.iload 4, 2) := by decide +kernel
theorem dX8_learn_30 : decode cX8_learn 30 = .ok (.iload_n 3, 1) := by decide +kernel
theorem dX8_learn_31 : decode cX8_learn 31 = .ok (.if_icmp .lt 135, 3) := by decide +kernel
theorem dX8_learn_34 : decode cX8_learn 34 = .ok (.aload_n 0, 1) := by decide +kernel
theorem dX8_learn_35 : decode cX8_learn 35 = .ok (.iload 4, 2) := by decide +kernel
theorem dX8_learn_37 : decode cX8_learn 37 = .ok (.invokevirtual 103, 3) := by decide +kernel
theorem dX8_learn_40 : decode cX8_learn 40 = .ok (.istore 5, 2) := by decide +kernel
theorem dX8_learn_42 : decode cX8_learn 42 = .ok (.aload_n 0, 1) := by decide +kernel
theorem dX8_learn_43 : decode cX8_learn 43 = .ok (.iload 5, 2) := by decide +kernel
theorem dX8_learn_45 : decode cX8_learn 45 = .ok (.iload_n 1, 1) := by decide +kernel
theorem dX8_learn_46 : decode cX8_learn 46 = .ok (.invokevirtual 107, 3) := by decide +kernel
theorem dX8_learn_49 : decode cX8_learn 49 = .ok (.istore 6, 2) := by decide +kernel
theorem dX8_learn_51 : decode cX8_learn 51 = .ok (.iload 6, 2) := by decide +kernel
theorem dX8_learn_53 : decode cX8_learn 53 = .ok (.iconst (-1), 1) := by decide +kernel
theorem dX8_learn_54 : decode cX8_learn 54 = .ok (.if_icmp .ne 75, 3) := by decide +kernel
theorem dX8_learn_57 : decode cX8_learn 57 = .ok (.aload_n 0, 1) := by decide +kernel
theorem dX8_learn_58 : decode cX8_learn 58 = .ok (.getfield 70, 3) := by decide +kernel
theorem dX8_learn_61 : decode cX8_learn 61 = .ok (.aload_n 0, 1) := by decide +kernel
theorem dX8_learn_62 : decode cX8_learn 62 = .ok (.getfield 19, 3) := by decide +kernel
theorem dX8_learn_65 : decode cX8_learn 65 = .ok (.if_icmp .ne 19, 3) := by decide +kernel
theorem dX8_learn_68 : decode cX8_learn 68 = .ok (.aload_n 0, 1) := by decide +kernel
theorem dX8_learn_69 : decode cX8_learn 69 = .ok (.iconst 0, 1) := by decide +kernel
theorem dX8_learn_70 : decode cX8_learn 70 = .ok (.putfield 70, 3) := by decide +kernel
theorem dX8_learn_73 : decode cX8_learn 73 = .ok (.aload_n 0, 1) := by decide +kernel
theorem dX8_learn_74 : decode cX8_learn 74 = .ok (.dup, 1) := by decide +kernel
theorem dX8_learn_75 : decode cX8_learn 75 = .ok (.getfield 85, 3) := by decide +kernel
theorem dX8_learn_78 : decode cX8_learn 78 = .ok (.iconst 1, 1) := by decide +kernel
theorem dX8_learn_79 : decode cX8_learn 79 = .ok (.iadd, 1) := by decide +kernel
theorem dX8_learn_80 : decode cX8_learn 80 = .ok (.putfield 85, 3) := by decide +kernel
theorem dX8_learn_83 : decode cX8_learn 83 = .ok (.return_, 1) := by decide +kernel
theorem dX8_learn_84 : decode cX8_learn 84 = .ok (.aload_n 0, 1) := by decide +kernel
theorem dX8_learn_85 : decode cX8_learn 85 = .ok (.getfield 23, 3) := by decide +kernel
theorem dX8_learn_88 : decode cX8_learn 88 = .ok (.aload_n 0, 1) := by decide +kernel
theorem dX8_learn_89 : decode cX8_learn 89 = .ok (.getfield 70, 3) := by decide +kernel
theorem dX8_learn_92 : decode cX8_learn 92 = .ok (.iload 5, 2) := by decide +kernel
theorem dX8_learn_94 : decode cX8_learn 94 = .ok (.iastore, 1) := by decide +kernel
theorem dX8_learn_95 : decode cX8_learn 95 = .ok (.aload_n 0, 1) := by decide +kernel
theorem dX8_learn_96 : decode cX8_learn 96 = .ok (.getfield 27, 3) := by decide +kernel
theorem dX8_learn_99 : decode cX8_learn 99 = .ok (.aload_n 0, 1) := by decide +kernel
theorem dX8_learn_100 : decode cX8_learn 100 = .ok (.getfield 70, 3) := by decide +kernel
theorem dX8_learn_103 : decode cX8_learn 103 = .ok (.iload_n 1, 1) := by decide +kernel
theorem dX8_learn_104 : decode cX8_learn 104 = .ok (.i2s, 1) := by decide +kernel
theorem dX8_learn_105 : decode cX8_learn 105 = .ok (.sastore, 1) := by decide +kernel
theorem dX8_learn_106 : decode cX8_learn 106 = .ok (.aload_n 0, 1) := by decide +kernel
theorem dX8_learn_107 : decode cX8_learn 107 = .ok (.getfield 31, 3) := by decide +kernel
theorem dX8_learn_110 : decode cX8_learn 110 = .ok (.aload_n 0, 1) := by decide +kernel
theorem dX8_learn_111 : decode cX8_learn 111 = .ok (.getfield 70, 3) := by decide +kernel
theorem dX8_learn_114 : decode cX8_learn 114 = .ok (.iconst 1, 1) := by decide +kernel
theorem dX8_learn_115 : decode cX8_learn 115 = .ok (.sastore, 1) := by decide +kernel
theorem dX8_learn_116 : decode cX8_learn 116 = .ok (.aload_n 0, 1) := by decide +kernel
theorem dX8_learn_117 : decode cX8_learn 117 = .ok (.dup, 1) := by decide +kernel
theorem dX8_learn_118 : decode cX8_learn 118 = .ok (.getfield 70, 3) := by decide +kernel
theorem dX8_learn_121 : decode cX8_learn 121 = .ok (.iconst 1, 1) := by decide +kernel
theorem dX8_learn_122 : decode cX8_learn 122 = .ok (.iadd, 1) := by decide +kernel
theorem dX8_learn_123 : decode cX8_learn 123 = .ok (.putfield 70, 3) := by decide +kernel
theorem dX8_learn_126 : decode cX8_learn 126 = .ok (.goto 34, 3) := by decide +kernel
theorem dX8_learn_129 : decode cX8_learn 129 = .ok (.aload_n 0, 1) := by decide +kernel
theorem dX8_learn_130 : decode cX8_learn 130 = .ok (.getfield 31, 3) := by decide +kernel
theorem dX8_learn_133 : decode cX8_learn 133 = .ok (.iload 6, 2) := by decide +kernel
theorem dX8_learn_135 : decode cX8_learn 135 = .ok (.saload, 1) := by decide +kernel
theorem dX8_learn_136 : decode cX8_learn 136 = .ok (.sipush 255, 3) := by decide +kernel
theorem dX8_learn_139 : decode cX8_learn 139 = .ok (.if_icmp .ne 9, 3) := by decide +kernel
theorem dX8_learn_142 : decode cX8_learn 142 = .ok (.aload_n 0, 1) := by decide +kernel
theorem dX8_learn_143 : decode cX8_learn 143 = .ok (.iload 5, 2) := by decide +kernel
theorem dX8_learn_145 : decode cX8_learn 145 = .ok (.invokevirtual 111, 3) := by decide +kernel
theorem dX8_learn_148 : decode cX8_learn 148 = .ok (.aload_n 0, 1) := by decide +kernel
theorem dX8_learn_149 : decode cX8_learn 149 = .ok (.getfield 31, 3) := by decide +kernel
theorem dX8_learn_152 : decode cX8_learn 152 = .ok (.iload 6, 2) := by decide +kernel
theorem dX8_learn_154 : decode cX8_learn 154 = .ok (.dup2, 1) := by decide +kernel
theorem dX8_learn_155 : decode cX8_learn 155 = .ok (.saload, 1) := by decide +kernel
theorem dX8_learn_156 : decode cX8_learn 156 = .ok (.iconst 1, 1) := by decide +kernel
theorem dX8_learn_157 : decode cX8_learn 157 = .ok (.iadd, 1) := by decide +kernel
theorem dX8_learn_158 : decode cX8_learn 158 = .ok (.i2s, 1) := by decide +kernel
theorem dX8_learn_159 : decode cX8_learn 159 = .ok (.sastore, 1) := by decide +kernel
theorem dX8_learn_160 : decode cX8_learn 160 = .ok (.iinc 4 (-1), 3) := by decide +kernel
theorem dX8_learn_163 : decode cX8_learn 163 = .ok (.goto (-135), 3) := by decide +kernel
theorem dX8_learn_166 : decode cX8_learn 166 = .ok (.return_, 1) := by decide +kernel
theorem dX8_halve_0 : decode cX8_halve 0 = .ok (.iconst 0, 1) := by decide +kernel
theorem dX8_halve_1 : decode cX8_halve 1 = .ok (.istore_n 2, 1) := by decide +kernel
theorem dX8_halve_2 : decode cX8_halve 2 = .ok (.iload_n 2, 1) := by decide +kernel
theorem dX8_halve_3 : decode cX8_halve 3 = .ok (.aload_n 0, 1) := by decide +kernel
theorem dX8_halve_4 : decode cX8_halve 4 = .ok (.getfield 70, 3) := by decide +kernel
theorem dX8_halve_7 : decode cX8_halve 7 = .ok (.if_icmp .ge 36, 3) := by decide +kernel
theorem dX8_halve_10 : decode cX8_halve 10 = .ok (.aload_n 0, 1) := by decide +kernel
theorem dX8_halve_11 : decode cX8_halve 11 = .ok (.getfield 23, 3) := by decide +kernel
theorem dX8_halve_14 : decode cX8_halve 14 = .ok (.iload_n 2, 1) := by decide +kernel
theorem dX8_halve_15 : decode cX8_halve 15 = .ok (.iaload, 1) := by decide +kernel
theorem dX8_halve_16 : decode cX8_halve 16 = .ok (.iload_n 1, 1) := by decide +kernel
theorem dX8_halve_17 : decode cX8_halve 17 = .ok (.if_icmp .ne 20, 3) := by decide +kernel
theorem dX8_halve_20 : decode cX8_halve 20 = .ok (.aload_n 0, 1) := by decide +kernel
theorem dX8_halve_21 : decode cX8_halve 21 = .ok (.getfield 31, 3) := by decide +kernel
theorem dX8_halve_24 : decode cX8_halve 24 = .ok (.iload_n 2, 1) := by decide +kernel
theorem dX8_halve_25 : decode cX8_halve 25 = .ok (.aload_n 0, 1) := by decide +kernel
theorem dX8_halve_26 : decode cX8_halve 26 = .ok (.getfield 31, 3) := by decide +kernel
theorem dX8_halve_29 : decode cX8_halve 29 = .ok (.iload_n 2, 1) := by decide +kernel
theorem dX8_halve_30 : decode cX8_halve 30 = .ok (.saload, 1) := by decide +kernel
theorem dX8_halve_31 : decode cX8_halve 31 = .ok (.iconst 1, 1) := by decide +kernel
theorem dX8_halve_32 : decode cX8_halve 32 = .ok (.iadd, 1) := by decide +kernel
theorem dX8_halve_33 : decode cX8_halve 33 = .ok (.iconst 2, 1) := by decide +kernel
theorem dX8_halve_34 : decode cX8_halve 34 = .ok (.idiv, 1) := by decide +kernel
theorem dX8_halve_35 : decode cX8_halve 35 = .ok (.i2s, 1) := by decide +kernel
theorem dX8_halve_36 : decode cX8_halve 36 = .ok (.sastore, 1) := by decide +kernel
theorem dX8_halve_37 : decode cX8_halve 37 = .ok (.iinc 2 1, 3) := by decide +kernel
theorem dX8_halve_40 : decode cX8_halve 40 = .ok (.goto (-38), 3) := by decide +kernel
theorem dX8_halve_43 : decode cX8_halve 43 = .ok (.aload_n 0, 1) := by decide +kernel
theorem dX8_halve_44 : decode cX8_halve 44 = .ok (.dup, 1) := by decide +kernel
theorem dX8_halve_45 : decode cX8_halve 45 = .ok (.getfield 82, 3) := by decide +kernel
theorem dX8_halve_48 : decode cX8_halve 48 = .ok (.iconst 1, 1) := by decide +kernel
theorem dX8_halve_49 : decode cX8_halve 49 = .ok (.iadd, 1) := by decide +kernel
theorem dX8_halve_50 : decode cX8_halve 50 = .ok (.putfield 82, 3) := by decide +kernel
theorem dX8_halve_53 : decode cX8_halve 53 = .ok (.return_, 1) := by decide +kernel
theorem dX8_goBy_0 : decode cX8_goBy 0 = .ok (.aload_n 0, 1) := by decide +kernel
theorem dX8_goBy_1 : decode cX8_goBy 1 = .ok (.aload_n 0, 1) := by decide +kernel
theorem dX8_goBy_2 : decode cX8_goBy 2 = .ok (.getfield 91, 3) := by decide +kernel
theorem dX8_goBy_5 : decode cX8_goBy 5 = .ok (.putfield 94, 3) := by decide +kernel
theorem dX8_goBy_8 : decode cX8_goBy 8 = .ok (.aload_n 0, 1) := by decide +kernel
theorem dX8_goBy_9 : decode cX8_goBy 9 = .ok (.iload_n 1, 1) := by decide +kernel
theorem dX8_goBy_10 : decode cX8_goBy 10 = .ok (.putfield 91, 3) := by decide +kernel
theorem dX8_goBy_13 : decode cX8_goBy 13 = .ok (.aload_n 0, 1) := by decide +kernel
theorem dX8_goBy_14 : decode cX8_goBy 14 = .ok (.dup, 1) := by decide +kernel
theorem dX8_goBy_15 : decode cX8_goBy 15 = .ok (.getfield 88, 3) := by decide +kernel
theorem dX8_goBy_18 : decode cX8_goBy 18 = .ok (.iconst 1, 1) := by decide +kernel
theorem dX8_goBy_19 : decode cX8_goBy 19 = .ok (.iadd, 1) := by decide +kernel
theorem dX8_goBy_20 : decode cX8_goBy 20 = .ok (.putfield 88, 3) := by decide +kernel
theorem dX8_goBy_23 : decode cX8_goBy 23 = .ok (.return_, 1) := by decide +kernel
theorem dX8_note_0 : decode cX8_note 0 = .ok (.aload_n 0, 1) := by decide +kernel
theorem dX8_note_1 : decode cX8_note 1 = .ok (.getfield 73, 3) := by decide +kernel
theorem dX8_note_4 : decode cX8_note 4 = .ok (.sipush 20000, 3) := by decide +kernel
theorem dX8_note_7 : decode cX8_note 7 = .ok (.if_icmp .ge 48, 3) := by decide +kernel
theorem dX8_note_10 : decode cX8_note 10 = .ok (.aload_n 0, 1) := by decide +kernel
theorem dX8_note_11 : decode cX8_note 11 = .ok (.getfield 34, 3) := by decide +kernel
theorem dX8_note_14 : decode cX8_note 14 = .ok (.aload_n 0, 1) := by decide +kernel
theorem dX8_note_15 : decode cX8_note 15 = .ok (.getfield 73, 3) := by decide +kernel
theorem dX8_note_18 : decode cX8_note 18 = .ok (.iload_n 1, 1) := by decide +kernel
theorem dX8_note_19 : decode cX8_note 19 = .ok (.i2s, 1) := by decide +kernel
theorem dX8_note_20 : decode cX8_note 20 = .ok (.sastore, 1) := by decide +kernel
theorem dX8_note_21 : decode cX8_note 21 = .ok (.aload_n 0, 1) := by decide +kernel
theorem dX8_note_22 : decode cX8_note 22 = .ok (.getfield 37, 3) := by decide +kernel
theorem dX8_note_25 : decode cX8_note 25 = .ok (.aload_n 0, 1) := by decide +kernel
theorem dX8_note_26 : decode cX8_note 26 = .ok (.getfield 73, 3) := by decide +kernel
theorem dX8_note_29 : decode cX8_note 29 = .ok (.iload_n 2, 1) := by decide +kernel
theorem dX8_note_30 : decode cX8_note 30 = .ok (.i2s, 1) := by decide +kernel
theorem dX8_note_31 : decode cX8_note 31 = .ok (.sastore, 1) := by decide +kernel
theorem dX8_note_32 : decode cX8_note 32 = .ok (.aload_n 0, 1) := by decide +kernel
theorem dX8_note_33 : decode cX8_note 33 = .ok (.getfield 40, 3) := by decide +kernel
theorem dX8_note_36 : decode cX8_note 36 = .ok (.aload_n 0, 1) := by decide +kernel
theorem dX8_note_37 : decode cX8_note 37 = .ok (.getfield 73, 3) := by decide +kernel
theorem dX8_note_40 : decode cX8_note 40 = .ok (.iload_n 3, 1) := by decide +kernel
theorem dX8_note_41 : decode cX8_note 41 = .ok (.i2s, 1) := by decide +kernel
theorem dX8_note_42 : decode cX8_note 42 = .ok (.sastore, 1) := by decide +kernel
theorem dX8_note_43 : decode cX8_note 43 = .ok (.aload_n 0, 1) := by decide +kernel
theorem dX8_note_44 : decode cX8_note 44 = .ok (.getfield 43, 3) := by decide +kernel
theorem dX8_note_47 : decode cX8_note 47 = .ok (.aload_n 0, 1) := by decide +kernel
theorem dX8_note_48 : decode cX8_note 48 = .ok (.getfield 73, 3) := by decide +kernel
theorem dX8_note_51 : decode cX8_note 51 = .ok (.iload 4, 2) := by decide +kernel
theorem dX8_note_53 : decode cX8_note 53 = .ok (.i2b, 1) := by decide +kernel
theorem dX8_note_54 : decode cX8_note 54 = .ok (.bastore, 1) := by decide +kernel
theorem dX8_note_55 : decode cX8_note 55 = .ok (.aload_n 0, 1) := by decide +kernel
theorem dX8_note_56 : decode cX8_note 56 = .ok (.dup, 1) := by decide +kernel
theorem dX8_note_57 : decode cX8_note 57 = .ok (.getfield 73, 3) := by decide +kernel
theorem dX8_note_60 : decode cX8_note 60 = .ok (.iconst 1, 1) := by decide +kernel
theorem dX8_note_61 : decode cX8_note 61 = .ok (.iadd, 1) := by decide +kernel
theorem dX8_note_62 : decode cX8_note 62 = .ok (.putfield 73, 3) := by decide +kernel
theorem dX8_note_65 : decode cX8_note 65 = .ok (.return_, 1) := by decide +kernel
theorem dX8_narrow_0 : decode cX8_narrow 0 = .ok (.aload_n 0, 1) := by decide +kernel
theorem dX8_narrow_1 : decode cX8_narrow 1 = .ok (.getfield 66, 3) := by decide +kernel
theorem dX8_narrow_4 : decode cX8_narrow 4 = .ok (.iload_n 3, 1) := by decide +kernel
theorem dX8_narrow_5 : decode cX8_narrow 5 = .ok (.i2l, 1) := by decide +kernel
theorem dX8_narrow_6 : decode cX8_narrow 6 = .ok (.ldiv, 1) := by decide +kernel
theorem dX8_narrow_7 : decode cX8_narrow 7 = .ok (.lstore 4, 2) := by decide +kernel
theorem dX8_narrow_9 : decode cX8_narrow 9 = .ok (.lload 4, 2) := by decide +kernel
theorem dX8_narrow_11 : decode cX8_narrow 11 = .ok (.iload_n 1, 1) := by decide +kernel
theorem dX8_narrow_12 : decode cX8_narrow 12 = .ok (.i2l, 1) := by decide +kernel
theorem dX8_narrow_13 : decode cX8_narrow 13 = .ok (.lmul, 1) := by decide +kernel
theorem dX8_narrow_14 : decode cX8_narrow 14 = .ok (.lstore 6, 2) := by decide +kernel
theorem dX8_narrow_16 : decode cX8_narrow 16 = .ok (.aload_n 0, 1) := by decide +kernel
theorem dX8_narrow_17 : decode cX8_narrow 17 = .ok (.iload_n 1, 1) := by decide +kernel
theorem dX8_narrow_18 : decode cX8_narrow 18 = .ok (.iload_n 2, 1) := by decide +kernel
theorem dX8_narrow_19 : decode cX8_narrow 19 = .ok (.iadd, 1) := by decide +kernel
theorem dX8_narrow_20 : decode cX8_narrow 20 = .ok (.iload_n 3, 1) := by decide +kernel
theorem dX8_narrow_21 : decode cX8_narrow 21 = .ok (.if_icmp .ne 13, 3) := by decide +kernel
theorem dX8_narrow_24 : decode cX8_narrow 24 = .ok (.aload_n 0, 1) := by decide +kernel
theorem dX8_narrow_25 : decode cX8_narrow 25 = .ok (.getfield 66, 3) := by decide +kernel
theorem dX8_narrow_28 : decode cX8_narrow 28 = .ok (.lload 6, 2) := by decide +kernel
theorem dX8_narrow_30 : decode cX8_narrow 30 = .ok (.lsub, 1) := by decide +kernel
theorem dX8_narrow_31 : decode cX8_narrow 31 = .ok (.goto 8, 3) := by decide +kernel
theorem dX8_narrow_34 : decode cX8_narrow 34 = .ok (.lload 4, 2) := by decide +kernel
theorem dX8_narrow_36 : decode cX8_narrow 36 = .ok (.iload_n 2, 1) := by decide +kernel
theorem dX8_narrow_37 : decode cX8_narrow 37 = .ok (.i2l, 1) := by decide +kernel
theorem dX8_narrow_38 : decode cX8_narrow 38 = .ok (.lmul, 1) := by decide +kernel
theorem dX8_narrow_39 : decode cX8_narrow 39 = .ok (.putfield 66, 3) := by decide +kernel
theorem dX8_narrow_42 : decode cX8_narrow 42 = .ok (.aload_n 0, 1) := by decide +kernel
theorem dX8_narrow_43 : decode cX8_narrow 43 = .ok (.getfield 115, 3) := by decide +kernel
theorem dX8_narrow_46 : decode cX8_narrow 46 = .ok (.ifCond .eq 17, 3) := by decide +kernel
theorem dX8_narrow_49 : decode cX8_narrow 49 = .ok (.aload_n 0, 1) := by decide +kernel
theorem dX8_narrow_50 : decode cX8_narrow 50 = .ok (.dup, 1) := by decide +kernel
theorem dX8_narrow_51 : decode cX8_narrow 51 = .ok (.getfield 119, 3) := by decide +kernel
theorem dX8_narrow_54 : decode cX8_narrow 54 = .ok (.lload 6, 2) := by decide +kernel
theorem dX8_narrow_56 : decode cX8_narrow 56 = .ok (.lsub, 1) := by decide +kernel
theorem dX8_narrow_57 : decode cX8_narrow 57 = .ok (.putfield 119, 3) := by decide +kernel
theorem dX8_narrow_60 : decode cX8_narrow 60 = .ok (.goto 9, 3) := by decide +kernel
theorem dX8_narrow_63 : decode cX8_narrow 63 = .ok (.aload_n 0, 1) := by decide +kernel
theorem dX8_narrow_64 : decode cX8_narrow 64 = .ok (.lload 6, 2) := by decide +kernel
theorem dX8_narrow_66 : decode cX8_narrow 66 = .ok (.invokevirtual 122, 3) := by decide +kernel
theorem dX8_narrow_69 : decode cX8_narrow 69 = .ok (.aload_n 0, 1) := by decide +kernel
theorem dX8_narrow_70 : decode cX8_narrow 70 = .ok (.getfield 66, 3) := by decide +kernel
theorem dX8_narrow_73 : decode cX8_narrow 73 = .ok (.ldc2_w 126, 3) := by decide +kernel
theorem dX8_narrow_76 : decode cX8_narrow 76 = .ok (.lcmp, 1) := by decide +kernel
theorem dX8_narrow_77 : decode cX8_narrow 77 = .ok (.ifCond .ge 119, 3) := by decide +kernel
theorem dX8_narrow_80 : decode cX8_narrow 80 = .ok (.aload_n 0, 1) := by decide +kernel
theorem dX8_narrow_81 : decode cX8_narrow 81 = .ok (.dup, 1) := by decide +kernel
theorem dX8_narrow_82 : decode cX8_narrow 82 = .ok (.getfield 66, 3) := by decide +kernel
theorem dX8_narrow_85 : decode cX8_narrow 85 = .ok (.ldc2_w 128, 3) := by decide +kernel
theorem dX8_narrow_88 : decode cX8_narrow 88 = .ok (.lmul, 1) := by decide +kernel
theorem dX8_narrow_89 : decode cX8_narrow 89 = .ok (.putfield 66, 3) := by decide +kernel
theorem dX8_narrow_92 : decode cX8_narrow 92 = .ok (.aload_n 0, 1) := by decide +kernel
theorem dX8_narrow_93 : decode cX8_narrow 93 = .ok (.dup, 1) := by decide +kernel
theorem dX8_narrow_94 : decode cX8_narrow 94 = .ok (.getfield 79, 3) := by decide +kernel
theorem dX8_narrow_97 : decode cX8_narrow 97 = .ok (.iconst 1, 1) := by decide +kernel
theorem dX8_narrow_98 : decode cX8_narrow 98 = .ok (.iadd, 1) := by decide +kernel
theorem dX8_narrow_99 : decode cX8_narrow 99 = .ok (.putfield 79, 3) := by decide +kernel
theorem dX8_narrow_102 : decode cX8_narrow 102 = .ok (.aload_n 0, 1) := by decide +kernel
theorem dX8_narrow_103 : decode cX8_narrow 103 = .ok (.getfield 115, 3) := by decide +kernel
theorem dX8_narrow_106 : decode cX8_narrow 106 = .ok (.ifCond .eq 49, 3) := by decide +kernel
theorem dX8_narrow_109 : decode cX8_narrow 109 = .ok (.aload_n 0, 1) := by decide +kernel
theorem dX8_narrow_110 : decode cX8_narrow 110 = .ok (.aload_n 0, 1) := by decide +kernel
theorem dX8_narrow_111 : decode cX8_narrow 111 = .ok (.getfield 119, 3) := by decide +kernel
theorem dX8_narrow_114 : decode cX8_narrow 114 = .ok (.ldc2_w 128, 3) := by decide +kernel
theorem dX8_narrow_117 : decode cX8_narrow 117 = .ok (.lmul, 1) := by decide +kernel
theorem dX8_narrow_118 : decode cX8_narrow 118 = .ok (.aload_n 0, 1) := by decide +kernel
theorem dX8_narrow_119 : decode cX8_narrow 119 = .ok (.invokevirtual 130, 3) := by decide +kernel
theorem dX8_narrow_122 : decode cX8_narrow 122 = .ok (.i2l, 1) := by decide +kernel
theorem dX8_narrow_123 : decode cX8_narrow 123 = .ok (.ladd, 1) := by decide +kernel
theorem dX8_narrow_124 : decode cX8_narrow 124 = .ok (.putfield 119, 3) := by decide +kernel
theorem dX8_narrow_127 : decode cX8_narrow 127 = .ok (.aload_n 0, 1) := by decide +kernel
theorem dX8_narrow_128 : decode cX8_narrow 128 = .ok (.aload_n 0, 1) := by decide +kernel
theorem dX8_narrow_129 : decode cX8_narrow 129 = .ok (.getfield 119, 3) := by decide +kernel
theorem dX8_narrow_132 : decode cX8_narrow 132 = .ok (.ldc2_w 134, 3) := by decide +kernel
theorem dX8_narrow_135 : decode cX8_narrow 135 = .ok (.lcmp, 1) := by decide +kernel
theorem dX8_narrow_136 : decode cX8_narrow 136 = .ok (.ifCond .le 9, 3) := by decide +kernel
theorem dX8_narrow_139 : decode cX8_narrow 139 = .ok (.ldc2_w 134, 3) := by decide +kernel
theorem dX8_narrow_142 : decode cX8_narrow 142 = .ok (.goto 7, 3) := by decide +kernel
theorem dX8_narrow_145 : decode cX8_narrow 145 = .ok (.aload_n 0, 1) := by decide +kernel
theorem dX8_narrow_146 : decode cX8_narrow 146 = .ok (.getfield 119, 3) := by decide +kernel
theorem dX8_narrow_149 : decode cX8_narrow 149 = .ok (.putfield 119, 3) := by decide +kernel
theorem dX8_narrow_152 : decode cX8_narrow 152 = .ok (.goto (-83), 3) := by decide +kernel
theorem dX8_narrow_155 : decode cX8_narrow 155 = .ok (.aload_n 0, 1) := by decide +kernel
theorem dX8_narrow_156 : decode cX8_narrow 156 = .ok (.getfield 57, 3) := by decide +kernel
theorem dX8_narrow_159 : decode cX8_narrow 159 = .ok (.sipush 8000, 3) := by decide +kernel
theorem dX8_narrow_162 : decode cX8_narrow 162 = .ok (.if_icmp .ge 26, 3) := by decide +kernel
theorem dX8_narrow_165 : decode cX8_narrow 165 = .ok (.aload_n 0, 1) := by decide +kernel
theorem dX8_narrow_166 : decode cX8_narrow 166 = .ok (.getfield 13, 3) := by decide +kernel
theorem dX8_narrow_169 : decode cX8_narrow 169 = .ok (.aload_n 0, 1) := by decide +kernel
theorem dX8_narrow_170 : decode cX8_narrow 170 = .ok (.getfield 57, 3) := by decide +kernel
theorem dX8_narrow_173 : decode cX8_narrow 173 = .ok (.iconst 0, 1) := by decide +kernel
theorem dX8_narrow_174 : decode cX8_narrow 174 = .ok (.bastore, 1) := by decide +kernel
theorem dX8_narrow_175 : decode cX8_narrow 175 = .ok (.aload_n 0, 1) := by decide +kernel
theorem dX8_narrow_176 : decode cX8_narrow 176 = .ok (.dup, 1) := by decide +kernel
theorem dX8_narrow_177 : decode cX8_narrow 177 = .ok (.getfield 57, 3) := by decide +kernel
theorem dX8_narrow_180 : decode cX8_narrow 180 = .ok (.iconst 1, 1) := by decide +kernel
theorem dX8_narrow_181 : decode cX8_narrow 181 = .ok (.iadd, 1) := by decide +kernel
theorem dX8_narrow_182 : decode cX8_narrow 182 = .ok (.putfield 57, 3) := by decide +kernel
theorem dX8_narrow_185 : decode cX8_narrow 185 = .ok (.goto (-116), 3) := by decide +kernel
theorem dX8_narrow_188 : decode cX8_narrow 188 = .ok (.aload_n 0, 1) := by decide +kernel
theorem dX8_narrow_189 : decode cX8_narrow 189 = .ok (.iconst 1, 1) := by decide +kernel
theorem dX8_narrow_190 : decode cX8_narrow 190 = .ok (.putfield 136, 3) := by decide +kernel
theorem dX8_narrow_193 : decode cX8_narrow 193 = .ok (.goto (-124), 3) := by decide +kernel
theorem dX8_narrow_196 : decode cX8_narrow 196 = .ok (.return_, 1) := by decide +kernel
theorem dX8_addLow_0 : decode cX8_addLow 0 = .ok (.lload_n 1, 1) := by decide +kernel
theorem dX8_addLow_1 : decode cX8_addLow 1 = .ok (.lstore_n 3, 1) := by decide +kernel
theorem dX8_addLow_2 : decode cX8_addLow 2 = .ok (.aload_n 0, 1) := by decide +kernel
theorem dX8_addLow_3 : decode cX8_addLow 3 = .ok (.getfield 57, 3) := by decide +kernel
theorem dX8_addLow_6 : decode cX8_addLow 6 = .ok (.iconst 1, 1) := by decide +kernel
theorem dX8_addLow_7 : decode cX8_addLow 7 = .ok (.isub, 1) := by decide +kernel
theorem dX8_addLow_8 : decode cX8_addLow 8 = .ok (.istore 5, 2) := by decide +kernel
theorem dX8_addLow_10 : decode cX8_addLow 10 = .ok (.iload 5, 2) := by decide +kernel
theorem dX8_addLow_12 : decode cX8_addLow 12 = .ok (.ifCond .lt 52, 3) := by decide +kernel
theorem dX8_addLow_15 : decode cX8_addLow 15 = .ok (.lload_n 3, 1) := by decide +kernel
theorem dX8_addLow_16 : decode cX8_addLow 16 = .ok (.lconst 0, 1) := by decide +kernel
theorem dX8_addLow_17 : decode cX8_addLow 17 = .ok (.lcmp, 1) := by decide +kernel
theorem dX8_addLow_18 : decode cX8_addLow 18 = .ok (.ifCond .le 46, 3) := by decide +kernel
theorem dX8_addLow_21 : decode cX8_addLow 21 = .ok (.aload_n 0, 1) := by decide +kernel
theorem dX8_addLow_22 : decode cX8_addLow 22 = .ok (.getfield 136, 3) := by decide +kernel
theorem dX8_addLow_25 : decode cX8_addLow 25 = .ok (.ifCond .ne 39, 3) := by decide +kernel
theorem dX8_addLow_28 : decode cX8_addLow 28 = .ok (.lload_n 3, 1) := by decide +kernel
theorem dX8_addLow_29 : decode cX8_addLow 29 = .ok (.aload_n 0, 1) := by decide +kernel
theorem dX8_addLow_30 : decode cX8_addLow 30 = .ok (.getfield 13, 3) := by decide +kernel
theorem dX8_addLow_33 : decode cX8_addLow 33 = .ok (.iload 5, 2) := by decide +kernel
theorem dX8_addLow_35 : decode cX8_addLow 35 = .ok (.baload, 1) := by decide +kernel
theorem dX8_addLow_36 : decode cX8_addLow 36 = .ok (.sipush 255, 3) := by decide +kernel
theorem dX8_addLow_39 : decode cX8_addLow 39 = .ok (.iand, 1) := by decide +kernel
theorem dX8_addLow_40 : decode cX8_addLow 40 = .ok (.i2l, 1) := by decide +kernel
theorem dX8_addLow_41 : decode cX8_addLow 41 = .ok (.ladd, 1) := by decide +kernel
theorem dX8_addLow_42 : decode cX8_addLow 42 = .ok (.lstore_n 3, 1) := by decide +kernel
theorem dX8_addLow_43 : decode cX8_addLow 43 = .ok (.aload_n 0, 1) := by decide +kernel
theorem dX8_addLow_44 : decode cX8_addLow 44 = .ok (.getfield 13, 3) := by decide +kernel
theorem dX8_addLow_47 : decode cX8_addLow 47 = .ok (.iload 5, 2) := by decide +kernel
theorem dX8_addLow_49 : decode cX8_addLow 49 = .ok (.lload_n 3, 1) := by decide +kernel
theorem dX8_addLow_50 : decode cX8_addLow 50 = .ok (.l2i, 1) := by decide +kernel
theorem dX8_addLow_51 : decode cX8_addLow 51 = .ok (.i2b, 1) := by decide +kernel
theorem dX8_addLow_52 : decode cX8_addLow 52 = .ok (.bastore, 1) := by decide +kernel
theorem dX8_addLow_53 : decode cX8_addLow 53 = .ok (.lload_n 3, 1) := by decide +kernel
theorem dX8_addLow_54 : decode cX8_addLow 54 = .ok (.bipush 8, 2) := by decide +kernel
theorem dX8_addLow_56 : decode cX8_addLow 56 = .ok (.lshr, 1) := by decide +kernel
theorem dX8_addLow_57 : decode cX8_addLow 57 = .ok (.lstore_n 3, 1) := by decide +kernel
theorem dX8_addLow_58 : decode cX8_addLow 58 = .ok (.iinc 5 (-1), 3) := by decide +kernel
theorem dX8_addLow_61 : decode cX8_addLow 61 = .ok (.goto (-51), 3) := by decide +kernel
theorem dX8_addLow_64 : decode cX8_addLow 64 = .ok (.return_, 1) := by decide +kernel
theorem dX8_nextByte_0 : decode cX8_nextByte 0 = .ok (.aload_n 0, 1) := by decide +kernel
theorem dX8_nextByte_1 : decode cX8_nextByte 1 = .ok (.getfield 139, 3) := by decide +kernel
theorem dX8_nextByte_4 : decode cX8_nextByte 4 = .ok (.aload_n 0, 1) := by decide +kernel
theorem dX8_nextByte_5 : decode cX8_nextByte 5 = .ok (.getfield 57, 3) := by decide +kernel
theorem dX8_nextByte_8 : decode cX8_nextByte 8 = .ok (.if_icmp .ge 19, 3) := by decide +kernel
theorem dX8_nextByte_11 : decode cX8_nextByte 11 = .ok (.aload_n 0, 1) := by decide +kernel
theorem dX8_nextByte_12 : decode cX8_nextByte 12 = .ok (.getfield 13, 3) := by decide +kernel
theorem dX8_nextByte_15 : decode cX8_nextByte 15 = .ok (.aload_n 0, 1) := by decide +kernel
theorem dX8_nextByte_16 : decode cX8_nextByte 16 = .ok (.getfield 139, 3) := by decide +kernel
theorem dX8_nextByte_19 : decode cX8_nextByte 19 = .ok (.baload, 1) := by decide +kernel
theorem dX8_nextByte_20 : decode cX8_nextByte 20 = .ok (.sipush 255, 3) := by decide +kernel
theorem dX8_nextByte_23 : decode cX8_nextByte 23 = .ok (.iand, 1) := by decide +kernel
theorem dX8_nextByte_24 : decode cX8_nextByte 24 = .ok (.goto 4, 3) := by decide +kernel
theorem dX8_nextByte_27 : decode cX8_nextByte 27 = .ok (.iconst 0, 1) := by decide +kernel
theorem dX8_nextByte_28 : decode cX8_nextByte 28 = .ok (.istore_n 1, 1) := by decide +kernel
theorem dX8_nextByte_29 : decode cX8_nextByte 29 = .ok (.aload_n 0, 1) := by decide +kernel
theorem dX8_nextByte_30 : decode cX8_nextByte 30 = .ok (.dup, 1) := by decide +kernel
theorem dX8_nextByte_31 : decode cX8_nextByte 31 = .ok (.getfield 139, 3) := by decide +kernel
theorem dX8_nextByte_34 : decode cX8_nextByte 34 = .ok (.iconst 1, 1) := by decide +kernel
theorem dX8_nextByte_35 : decode cX8_nextByte 35 = .ok (.iadd, 1) := by decide +kernel
theorem dX8_nextByte_36 : decode cX8_nextByte 36 = .ok (.putfield 139, 3) := by decide +kernel
theorem dX8_nextByte_39 : decode cX8_nextByte 39 = .ok (.iload_n 1, 1) := by decide +kernel
theorem dX8_nextByte_40 : decode cX8_nextByte 40 = .ok (.ireturn, 1) := by decide +kernel
theorem dX8_placeOf_0 : decode cX8_placeOf 0 = .ok (.aload_n 0, 1) := by decide +kernel
theorem dX8_placeOf_1 : decode cX8_placeOf 1 = .ok (.getfield 119, 3) := by decide +kernel
theorem dX8_placeOf_4 : decode cX8_placeOf 4 = .ok (.aload_n 0, 1) := by decide +kernel
theorem dX8_placeOf_5 : decode cX8_placeOf 5 = .ok (.getfield 66, 3) := by decide +kernel
theorem dX8_placeOf_8 : decode cX8_placeOf 8 = .ok (.iload_n 1, 1) := by decide +kernel
theorem dX8_placeOf_9 : decode cX8_placeOf 9 = .ok (.i2l, 1) := by decide +kernel
theorem dX8_placeOf_10 : decode cX8_placeOf 10 = .ok (.ldiv, 1) := by decide +kernel
theorem dX8_placeOf_11 : decode cX8_placeOf 11 = .ok (.ldiv, 1) := by decide +kernel
theorem dX8_placeOf_12 : decode cX8_placeOf 12 = .ok (.lstore_n 2, 1) := by decide +kernel
theorem dX8_placeOf_13 : decode cX8_placeOf 13 = .ok (.lload_n 2, 1) := by decide +kernel
theorem dX8_placeOf_14 : decode cX8_placeOf 14 = .ok (.iload_n 1, 1) := by decide +kernel
theorem dX8_placeOf_15 : decode cX8_placeOf 15 = .ok (.i2l, 1) := by decide +kernel
theorem dX8_placeOf_16 : decode cX8_placeOf 16 = .ok (.lconst 1, 1) := by decide +kernel
theorem dX8_placeOf_17 : decode cX8_placeOf 17 = .ok (.lsub, 1) := by decide +kernel
theorem dX8_placeOf_18 : decode cX8_placeOf 18 = .ok (.lcmp, 1) := by decide +kernel
theorem dX8_placeOf_19 : decode cX8_placeOf 19 = .ok (.ifCond .le 9, 3) := by decide +kernel
theorem dX8_placeOf_22 : decode cX8_placeOf 22 = .ok (.iload_n 1, 1) := by decide +kernel
theorem dX8_placeOf_23 : decode cX8_placeOf 23 = .ok (.iconst 1, 1) := by decide +kernel
theorem dX8_placeOf_24 : decode cX8_placeOf 24 = .ok (.isub, 1) := by decide +kernel
theorem dX8_placeOf_25 : decode cX8_placeOf 25 = .ok (.goto 5, 3) := by decide +kernel
theorem dX8_placeOf_28 : decode cX8_placeOf 28 = .ok (.lload_n 2, 1) := by decide +kernel
theorem dX8_placeOf_29 : decode cX8_placeOf 29 = .ok (.l2i, 1) := by decide +kernel
theorem dX8_placeOf_30 : decode cX8_placeOf 30 = .ok (.ireturn, 1) := by decide +kernel
theorem dX8_tell_0 : decode cX8_tell 0 = .ok (.iconst 0, 1) := by decide +kernel
theorem dX8_tell_1 : decode cX8_tell 1 = .ok (.istore_n 2, 1) := by decide +kernel
theorem dX8_tell_2 : decode cX8_tell 2 = .ok (.iload_n 2, 1) := by decide +kernel
theorem dX8_tell_3 : decode cX8_tell 3 = .ok (.sipush 256, 3) := by decide +kernel
theorem dX8_tell_6 : decode cX8_tell 6 = .ok (.if_icmp .gt 16, 3) := by decide +kernel
theorem dX8_tell_9 : decode cX8_tell 9 = .ok (.aload_n 0, 1) := by decide +kernel
theorem dX8_tell_10 : decode cX8_tell 10 = .ok (.getfield 46, 3) := by decide +kernel
theorem dX8_tell_13 : decode cX8_tell 13 = .ok (.iload_n 2, 1) := by decide +kernel
theorem dX8_tell_14 : decode cX8_tell 14 = .ok (.iconst 0, 1) := by decide +kernel
theorem dX8_tell_15 : decode cX8_tell 15 = .ok (.bastore, 1) := by decide +kernel
theorem dX8_tell_16 : decode cX8_tell 16 = .ok (.iinc 2 1, 3) := by decide +kernel
theorem dX8_tell_19 : decode cX8_tell 19 = .ok (.goto (-17), 3) := by decide +kernel
theorem dX8_tell_22 : decode cX8_tell 22 = .ok (.aload_n 0, 1) := by decide +kernel
theorem dX8_tell_23 : decode cX8_tell 23 = .ok (.getfield 88, 3) := by decide +kernel
theorem dX8_tell_26 : decode cX8_tell 26 = .ok (.iconst 2, 1) := by decide +kernel
theorem dX8_tell_27 : decode cX8_tell 27 = .ok (.if_icmp .ge 10, 3) := by decide +kernel
theorem dX8_tell_30 : decode cX8_tell 30 = .ok (.aload_n 0, 1) := by decide +kernel
theorem dX8_tell_31 : decode cX8_tell 31 = .ok (.getfield 88, 3) := by decide +kernel
theorem dX8_tell_34 : decode cX8_tell 34 = .ok (.goto 4, 3) := by decide +kernel
theorem dX8_tell_37 : decode cX8_tell 37 = .ok (.iconst 2, 1) := by decide +kernel
theorem dX8_tell_38 : decode cX8_tell 38 = .ok (.istore_n 2, 1) := by decide +kernel
theorem dX8_tell_39 : decode cX8_tell 39 = .ok (.iload_n 2, 1) := by decide +kernel
theorem dX8_tell_40 : decode cX8_tell 40 = .ok (.ifCond .lt 112, 3) := by decide +kernel
theorem dX8_tell_43 : decode cX8_tell 43 = .ok (.aload_n 0, 1) := by decide +kernel
theorem dX8_tell_44 : decode cX8_tell 44 = .ok (.iload_n 2, 1) := by decide +kernel
theorem dX8_tell_45 : decode cX8_tell 45 = .ok (.invokevirtual 103, 3) := by decide +kernel
theorem dX8_tell_48 : decode cX8_tell 48 = .ok (.istore_n 3, 1) := by decide +kernel
theorem dX8_tell_49 : decode cX8_tell 49 = .ok (.iconst 0, 1) := by decide +kernel
theorem dX8_tell_50 : decode cX8_tell 50 = .ok (.istore 4, 2) := by decide +kernel
theorem dX8_tell_52 : decode cX8_tell 52 = .ok (.iconst 0, 1) := by decide +kernel
theorem dX8_tell_53 : decode cX8_tell 53 = .ok (.istore 5, 2) := by decide +kernel
theorem dX8_tell_55 : decode cX8_tell 55 = .ok (.iconst 0, 1) := by decide +kernel
theorem dX8_tell_56 : decode cX8_tell 56 = .ok (.istore 6, 2) := by decide +kernel
theorem dX8_tell_58 : decode cX8_tell 58 = .ok (.iload 6, 2) := by decide +kernel
theorem dX8_tell_60 : decode cX8_tell 60 = .ok (.aload_n 0, 1) := by decide +kernel
theorem dX8_tell_61 : decode cX8_tell 61 = .ok (.getfield 70, 3) := by decide +kernel
theorem dX8_tell_64 : decode cX8_tell 64 = .ok (.if_icmp .ge 50, 3) := by decide +kernel
theorem dX8_tell_67 : decode cX8_tell 67 = .ok (.aload_n 0, 1) := by decide +kernel
theorem dX8_tell_68 : decode cX8_tell 68 = .ok (.getfield 23, 3) := by decide +kernel
theorem dX8_tell_71 : decode cX8_tell 71 = .ok (.iload 6, 2) := by decide +kernel
theorem dX8_tell_73 : decode cX8_tell 73 = .ok (.iaload, 1) := by decide +kernel
theorem dX8_tell_74 : decode cX8_tell 74 = .ok (.iload_n 3, 1) := by decide +kernel
theorem dX8_tell_75 : decode cX8_tell 75 = .ok (.if_icmp .ne 33, 3) := by decide +kernel
theorem dX8_tell_78 : decode cX8_tell 78 = .ok (.aload_n 0, 1) := by decide +kernel
theorem dX8_tell_79 : decode cX8_tell 79 = .ok (.getfield 46, 3) := by decide +kernel
theorem dX8_tell_82 : decode cX8_tell 82 = .ok (.aload_n 0, 1) := by decide +kernel
theorem dX8_tell_83 : decode cX8_tell 83 = .ok (.getfield 27, 3) := by decide +kernel
theorem dX8_tell_86 : decode cX8_tell 86 = .ok (.iload 6, 2) := by decide +kernel
theorem dX8_tell_88 : decode cX8_tell 88 = .ok (.saload, 1) := by decide +kernel
theorem dX8_tell_89 : decode cX8_tell 89 = .ok (.baload, 1) := by decide +kernel
theorem dX8_tell_90 : decode cX8_tell 90 = .ok (.ifCond .ne 18, 3) := by decide +kernel
theorem dX8_tell_93 : decode cX8_tell 93 = .ok (.iload 4, 2) := by decide +kernel
theorem dX8_tell_95 : decode cX8_tell 95 = .ok (.aload_n 0, 1) := by decide +kernel
theorem dX8_tell_96 : decode cX8_tell 96 = .ok (.getfield 31, 3) := by decide +kernel
theorem dX8_tell_99 : decode cX8_tell 99 = .ok (.iload 6, 2) := by decide +kernel
theorem dX8_tell_101 : decode cX8_tell 101 = .ok (.saload, 1) := by decide +kernel
theorem dX8_tell_102 : decode cX8_tell 102 = .ok (.iadd, 1) := by decide +kernel
theorem dX8_tell_103 : decode cX8_tell 103 = .ok (.istore 4, 2) := by decide +kernel
theorem dX8_tell_105 : decode cX8_tell 105 = .ok (.iinc 5 1, 3) := by decide +kernel
theorem dX8_tell_108 : decode cX8_tell 108 = .ok (.iinc 6 1, 3) := by decide +kernel
theorem dX8_tell_111 : decode cX8_tell 111 = .ok (.goto (-53), 3) := by decide +kernel
theorem dX8_tell_114 : decode cX8_tell 114 = .ok (.iload 5, 2) := by decide +kernel
theorem dX8_tell_116 : decode cX8_tell 116 = .ok (.ifCond .le 30, 3) := by decide +kernel
theorem dX8_tell_119 : decode cX8_tell 119 = .ok (.aload_n 0, 1) := by decide +kernel
theorem dX8_tell_120 : decode cX8_tell 120 = .ok (.iload_n 1, 1) := by decide +kernel
theorem dX8_tell_121 : decode cX8_tell 121 = .ok (.iload_n 2, 1) := by decide +kernel
theorem dX8_tell_122 : decode cX8_tell 122 = .ok (.iload_n 3, 1) := by decide +kernel
theorem dX8_tell_123 : decode cX8_tell 123 = .ok (.iload 4, 2) := by decide +kernel
theorem dX8_tell_125 : decode cX8_tell 125 = .ok (.iload 5, 2) := by decide +kernel
theorem dX8_tell_127 : decode cX8_tell 127 = .ok (.invokevirtual 142, 3) := by decide +kernel
theorem dX8_tell_130 : decode cX8_tell 130 = .ok (.istore 6, 2) := by decide +kernel
theorem dX8_tell_132 : decode cX8_tell 132 = .ok (.iload 6, 2) := by decide +kernel
theorem dX8_tell_134 : decode cX8_tell 134 = .ok (.iconst (-1), 1) := by decide +kernel
theorem dX8_tell_135 : decode cX8_tell 135 = .ok (.if_icmp .eq 11, 3) := by decide +kernel
theorem dX8_tell_138 : decode cX8_tell 138 = .ok (.aload_n 0, 1) := by decide +kernel
theorem dX8_tell_139 : decode cX8_tell 139 = .ok (.iload_n 2, 1) := by decide +kernel
theorem dX8_tell_140 : decode cX8_tell 140 = .ok (.putfield 146, 3) := by decide +kernel
theorem dX8_tell_143 : decode cX8_tell 143 = .ok (.iload 6, 2) := by decide +kernel
theorem dX8_tell_145 : decode cX8_tell 145 = .ok (.ireturn, 1) := by decide +kernel
theorem dX8_tell_146 : decode cX8_tell 146 = .ok (.iinc 2 (-1), 3) := by decide +kernel
theorem dX8_tell_149 : decode cX8_tell 149 = .ok (.goto (-110), 3) := by decide +kernel
theorem dX8_tell_152 : decode cX8_tell 152 = .ok (.aload_n 0, 1) := by decide +kernel
theorem dX8_tell_153 : decode cX8_tell 153 = .ok (.iconst (-1), 1) := by decide +kernel
theorem dX8_tell_154 : decode cX8_tell 154 = .ok (.putfield 146, 3) := by decide +kernel
theorem dX8_tell_157 : decode cX8_tell 157 = .ok (.iconst 0, 1) := by decide +kernel
theorem dX8_tell_158 : decode cX8_tell 158 = .ok (.istore_n 2, 1) := by decide +kernel
theorem dX8_tell_159 : decode cX8_tell 159 = .ok (.iconst 0, 1) := by decide +kernel
theorem dX8_tell_160 : decode cX8_tell 160 = .ok (.istore_n 3, 1) := by decide +kernel
theorem dX8_tell_161 : decode cX8_tell 161 = .ok (.iload_n 3, 1) := by decide +kernel
theorem dX8_tell_162 : decode cX8_tell 162 = .ok (.sipush 256, 3) := by decide +kernel
theorem dX8_tell_165 : decode cX8_tell 165 = .ok (.if_icmp .gt 26, 3) := by decide +kernel
theorem dX8_tell_168 : decode cX8_tell 168 = .ok (.iload_n 2, 1) := by decide +kernel
theorem dX8_tell_169 : decode cX8_tell 169 = .ok (.aload_n 0, 1) := by decide +kernel
theorem dX8_tell_170 : decode cX8_tell 170 = .ok (.getfield 46, 3) := by decide +kernel
theorem dX8_tell_173 : decode cX8_tell 173 = .ok (.iload_n 3, 1) := by decide +kernel
theorem dX8_tell_174 : decode cX8_tell 174 = .ok (.baload, 1) := by decide +kernel
theorem dX8_tell_175 : decode cX8_tell 175 = .ok (.ifCond .eq 7, 3) := by decide +kernel
theorem dX8_tell_178 : decode cX8_tell 178 = .ok (.iconst 0, 1) := by decide +kernel
theorem dX8_tell_179 : decode cX8_tell 179 = .ok (.goto 4, 3) := by decide +kernel
theorem dX8_tell_182 : decode cX8_tell 182 = .ok (.iconst 1, 1) := by decide +kernel
theorem dX8_tell_183 : decode cX8_tell 183 = .ok (.iadd, 1) := by decide +kernel
theorem dX8_tell_184 : decode cX8_tell 184 = .ok (.istore_n 2, 1) := by decide +kernel
theorem dX8_tell_185 : decode cX8_tell 185 = .ok (.iinc 3 1, 3) := by decide +kernel
theorem dX8_tell_188 : decode cX8_tell 188 = .ok (.goto (-27), 3) := by decide +kernel
theorem dX8_tell_191 : decode cX8_tell 191 = .ok (.aload_n 0, 1) := by decide +kernel
theorem dX8_tell_192 : decode cX8_tell 192 = .ok (.getfield 115, 3) := by decide +kernel
theorem dX8_tell_195 : decode cX8_tell 195 = .ok (.ifCond .eq 11, 3) := by decide +kernel
theorem dX8_tell_198 : decode cX8_tell 198 = .ok (.aload_n 0, 1) := by decide +kernel
theorem dX8_tell_199 : decode cX8_tell 199 = .ok (.iload_n 2, 1) := by decide +kernel
theorem dX8_tell_200 : decode cX8_tell 200 = .ok (.invokevirtual 149, 3) := by decide +kernel
theorem dX8_tell_203 : decode cX8_tell 203 = .ok (.goto 4, 3) := by decide +kernel
theorem dX8_tell_206 : decode cX8_tell 206 = .ok (.iconst (-1), 1) := by decide +kernel
theorem dX8_tell_207 : decode cX8_tell 207 = .ok (.istore_n 3, 1) := by decide +kernel
theorem dX8_tell_208 : decode cX8_tell 208 = .ok (.iconst 0, 1) := by decide +kernel
theorem dX8_tell_209 : decode cX8_tell 209 = .ok (.istore 4, 2) := by decide +kernel
theorem dX8_tell_211 : decode cX8_tell 211 = .ok (.iconst (-1), 1) := by decide +kernel
theorem dX8_tell_212 : decode cX8_tell 212 = .ok (.istore 5, 2) := by decide +kernel
theorem dX8_tell_214 : decode cX8_tell 214 = .ok (.iconst 0, 1) := by decide +kernel
theorem dX8_tell_215 : decode cX8_tell 215 = .ok (.istore 6, 2) := by decide +kernel
theorem dX8_tell_217 : decode cX8_tell 217 = .ok (.iload 6, 2) := by decide +kernel
theorem dX8_tell_219 : decode cX8_tell 219 = .ok (.sipush 256, 3) := by decide +kernel
theorem dX8_tell_222 : decode cX8_tell 222 = .ok (.if_icmp .gt 77, 3) := by decide +kernel
theorem dX8_tell_225 : decode cX8_tell 225 = .ok (.iload 5, 2) := by decide +kernel
theorem dX8_tell_227 : decode cX8_tell 227 = .ok (.iconst (-1), 1) := by decide +kernel
theorem dX8_tell_228 : decode cX8_tell 228 = .ok (.if_icmp .ne 71, 3) := by decide +kernel
theorem dX8_tell_231 : decode cX8_tell 231 = .ok (.aload_n 0, 1) := by decide +kernel
theorem dX8_tell_232 : decode cX8_tell 232 = .ok (.getfield 46, 3) := by decide +kernel
theorem dX8_tell_235 : decode cX8_tell 235 = .ok (.iload 6, 2) := by decide +kernel
theorem dX8_tell_237 : decode cX8_tell 237 = .ok (.baload, 1) := by decide +kernel
theorem dX8_tell_238 : decode cX8_tell 238 = .ok (.ifCond .ne 55, 3) := by decide +kernel
theorem dX8_tell_241 : decode cX8_tell 241 = .ok (.aload_n 0, 1) := by decide +kernel
theorem dX8_tell_242 : decode cX8_tell 242 = .ok (.getfield 115, 3) := by decide +kernel
theorem dX8_tell_245 : decode cX8_tell 245 = .ok (.ifCond .eq 18, 3) := by decide +kernel
theorem dX8_tell_248 : decode cX8_tell 248 = .ok (.iload 4, 2) := by decide +kernel
theorem dX8_tell_250 : decode cX8_tell 250 = .ok (.iload_n 3, 1) := by decide +kernel
theorem dX8_tell_251 : decode cX8_tell 251 = .ok (.if_icmp .ne 8, 3) := by decide +kernel
theorem dX8_tell_254 : decode cX8_tell 254 = .ok (.iload 6, 2) := by decide +kernel
theorem dX8_tell_256 : decode cX8_tell 256 = .ok (.goto 19, 3) := by decide +kernel
theorem dX8_tell_259 : decode cX8_tell 259 = .ok (.iconst (-1), 1) := by decide +kernel
theorem dX8_tell_260 : decode cX8_tell 260 = .ok (.goto 15, 3) := by decide +kernel
theorem dX8_tell_263 : decode cX8_tell 263 = .ok (.iload 6, 2) := by decide +kernel
theorem dX8_tell_265 : decode cX8_tell 265 = .ok (.iload_n 1, 1) := by decide +kernel
theorem dX8_tell_266 : decode cX8_tell 266 = .ok (.if_icmp .ne 8, 3) := by decide +kernel
theorem dX8_tell_269 : decode cX8_tell 269 = .ok (.iload 6, 2) := by decide +kernel
theorem dX8_tell_271 : decode cX8_tell 271 = .ok (.goto 4, 3) := by decide +kernel
theorem dX8_tell_274 : decode cX8_tell 274 = .ok (.iconst (-1), 1) := by decide +kernel
theorem dX8_tell_275 : decode cX8_tell 275 = .ok (.istore 5, 2) := by decide +kernel
theorem dX8_tell_277 : decode cX8_tell 277 = .ok (.iload 4, 2) := by decide +kernel
theorem dX8_tell_279 : decode cX8_tell 279 = .ok (.iload 5, 2) := by decide +kernel
theorem dX8_tell_281 : decode cX8_tell 281 = .ok (.iconst (-1), 1) := by decide +kernel
theorem dX8_tell_282 : decode cX8_tell 282 = .ok (.if_icmp .ne 7, 3) := by decide +kernel
theorem dX8_tell_285 : decode cX8_tell 285 = .ok (.iconst 1, 1) := by decide +kernel
theorem dX8_tell_286 : decode cX8_tell 286 = .ok (.goto 4, 3) := by decide +kernel
theorem dX8_tell_289 : decode cX8_tell 289 = .ok (.iconst 0, 1) := by decide +kernel
theorem dX8_tell_290 : decode cX8_tell 290 = .ok (.iadd, 1) := by decide +kernel
theorem dX8_tell_291 : decode cX8_tell 291 = .ok (.istore 4, 2) := by decide +kernel
theorem dX8_tell_293 : decode cX8_tell 293 = .ok (.iinc 6 1, 3) := by decide +kernel
theorem dX8_tell_296 : decode cX8_tell 296 = .ok (.goto (-79), 3) := by decide +kernel
theorem dX8_tell_299 : decode cX8_tell 299 = .ok (.aload_n 0, 1) := by decide +kernel
theorem dX8_tell_300 : decode cX8_tell 300 = .ok (.iload 4, 2) := by decide +kernel
theorem dX8_tell_302 : decode cX8_tell 302 = .ok (.iconst 1, 1) := by decide +kernel
theorem dX8_tell_303 : decode cX8_tell 303 = .ok (.iload_n 2, 1) := by decide +kernel
theorem dX8_tell_304 : decode cX8_tell 304 = .ok (.iconst (-1), 1) := by decide +kernel
theorem dX8_tell_305 : decode cX8_tell 305 = .ok (.invokevirtual 152, 3) := by decide +kernel
theorem dX8_tell_308 : decode cX8_tell 308 = .ok (.aload_n 0, 1) := by decide +kernel
theorem dX8_tell_309 : decode cX8_tell 309 = .ok (.iload 4, 2) := by decide +kernel
theorem dX8_tell_311 : decode cX8_tell 311 = .ok (.iconst 1, 1) := by decide +kernel
theorem dX8_tell_312 : decode cX8_tell 312 = .ok (.iload_n 2, 1) := by decide +kernel
theorem dX8_tell_313 : decode cX8_tell 313 = .ok (.invokevirtual 156, 3) := by decide +kernel
theorem dX8_tell_316 : decode cX8_tell 316 = .ok (.iload 5, 2) := by decide +kernel
theorem dX8_tell_318 : decode cX8_tell 318 = .ok (.ireturn, 1) := by decide +kernel
theorem dX8_tellIn_0 : decode cX8_tellIn 0 = .ok (.iload 4, 2) := by decide +kernel
theorem dX8_tellIn_2 : decode cX8_tellIn 2 = .ok (.iload 5, 2) := by decide +kernel
theorem dX8_tellIn_4 : decode cX8_tellIn 4 = .ok (.iadd, 1) := by decide +kernel
theorem dX8_tellIn_5 : decode cX8_tellIn 5 = .ok (.istore 6, 2) := by decide +kernel
theorem dX8_tellIn_7 : decode cX8_tellIn 7 = .ok (.aload_n 0, 1) := by decide +kernel
theorem dX8_tellIn_8 : decode cX8_tellIn 8 = .ok (.getfield 115, 3) := by decide +kernel
theorem dX8_tellIn_11 : decode cX8_tellIn 11 = .ok (.ifCond .eq 12, 3) := by decide +kernel
theorem dX8_tellIn_14 : decode cX8_tellIn 14 = .ok (.aload_n 0, 1) := by decide +kernel
theorem dX8_tellIn_15 : decode cX8_tellIn 15 = .ok (.iload 6, 2) := by decide +kernel
theorem dX8_tellIn_17 : decode cX8_tellIn 17 = .ok (.invokevirtual 149, 3) := by decide +kernel
theorem dX8_tellIn_20 : decode cX8_tellIn 20 = .ok (.goto 4, 3) := by decide +kernel
theorem dX8_tellIn_23 : decode cX8_tellIn 23 = .ok (.iconst (-1), 1) := by decide +kernel
theorem dX8_tellIn_24 : decode cX8_tellIn 24 = .ok (.istore 7, 2) := by decide +kernel
theorem dX8_tellIn_26 : decode cX8_tellIn 26 = .ok (.iconst 0, 1) := by decide +kernel
theorem dX8_tellIn_27 : decode cX8_tellIn 27 = .ok (.istore 8, 2) := by decide +kernel
theorem dX8_tellIn_29 : decode cX8_tellIn 29 = .ok (.iconst 0, 1) := by decide +kernel
theorem dX8_tellIn_30 : decode cX8_tellIn 30 = .ok (.istore 9, 2) := by decide +kernel
theorem dX8_tellIn_32 : decode cX8_tellIn 32 = .ok (.iload 9, 2) := by decide +kernel
theorem dX8_tellIn_34 : decode cX8_tellIn 34 = .ok (.aload_n 0, 1) := by decide +kernel
theorem dX8_tellIn_35 : decode cX8_tellIn 35 = .ok (.getfield 70, 3) := by decide +kernel
theorem dX8_tellIn_38 : decode cX8_tellIn 38 = .ok (.if_icmp .ge 142, 3) := by decide +kernel
theorem dX8_tellIn_41 : decode cX8_tellIn 41 = .ok (.aload_n 0, 1) := by decide +kernel
theorem dX8_tellIn_42 : decode cX8_tellIn 42 = .ok (.getfield 23, 3) := by decide +kernel
theorem dX8_tellIn_45 : decode cX8_tellIn 45 = .ok (.iload 9, 2) := by decide +kernel
theorem dX8_tellIn_47 : decode cX8_tellIn 47 = .ok (.iaload, 1) := by decide +kernel
theorem dX8_tellIn_48 : decode cX8_tellIn 48 = .ok (.iload_n 3, 1) := by decide +kernel
theorem dX8_tellIn_49 : decode cX8_tellIn 49 = .ok (.if_icmp .ne 125, 3) := by decide +kernel
theorem dX8_tellIn_52 : decode cX8_tellIn 52 = .ok (.aload_n 0, 1) := by decide +kernel
theorem dX8_tellIn_53 : decode cX8_tellIn 53 = .ok (.getfield 46, 3) := by decide +kernel
theorem dX8_tellIn_56 : decode cX8_tellIn 56 = .ok (.aload_n 0, 1) := by decide +kernel
theorem dX8_tellIn_57 : decode cX8_tellIn 57 = .ok (.getfield 27, 3) := by decide +kernel
theorem dX8_tellIn_60 : decode cX8_tellIn 60 = .ok (.iload 9, 2) := by decide +kernel
theorem dX8_tellIn_62 : decode cX8_tellIn 62 = .ok (.saload, 1) := by decide +kernel
theorem dX8_tellIn_63 : decode cX8_tellIn 63 = .ok (.baload, 1) := by decide +kernel
theorem dX8_tellIn_64 : decode cX8_tellIn 64 = .ok (.ifCond .ne 110, 3) := by decide +kernel
theorem dX8_tellIn_67 : decode cX8_tellIn 67 = .ok (.aload_n 0, 1) := by decide +kernel
theorem dX8_tellIn_68 : decode cX8_tellIn 68 = .ok (.getfield 115, 3) := by decide +kernel
theorem dX8_tellIn_71 : decode cX8_tellIn 71 = .ok (.ifCond .eq 26, 3) := by decide +kernel
theorem dX8_tellIn_74 : decode cX8_tellIn 74 = .ok (.iload 7, 2) := by decide +kernel
theorem dX8_tellIn_76 : decode cX8_tellIn 76 = .ok (.iload 8, 2) := by decide +kernel
theorem dX8_tellIn_78 : decode cX8_tellIn 78 = .ok (.aload_n 0, 1) := by decide +kernel
theorem dX8_tellIn_79 : decode cX8_tellIn 79 = .ok (.getfield 31, 3) := by decide +kernel
theorem dX8_tellIn_82 : decode cX8_tellIn 82 = .ok (.iload 9, 2) := by decide +kernel
theorem dX8_tellIn_84 : decode cX8_tellIn 84 = .ok (.saload, 1) := by decide +kernel
theorem dX8_tellIn_85 : decode cX8_tellIn 85 = .ok (.iadd, 1) := by decide +kernel
theorem dX8_tellIn_86 : decode cX8_tellIn 86 = .ok (.if_icmp .ge 7, 3) := by decide +kernel
theorem dX8_tellIn_89 : decode cX8_tellIn 89 = .ok (.iconst 1, 1) := by decide +kernel
theorem dX8_tellIn_90 : decode cX8_tellIn 90 = .ok (.goto 23, 3) := by decide +kernel
theorem dX8_tellIn_93 : decode cX8_tellIn 93 = .ok (.iconst 0, 1) := by decide +kernel
theorem dX8_tellIn_94 : decode cX8_tellIn 94 = .ok (.goto 19, 3) := by decide +kernel
theorem dX8_tellIn_97 : decode cX8_tellIn 97 = .ok (.aload_n 0, 1) := by decide +kernel
theorem dX8_tellIn_98 : decode cX8_tellIn 98 = .ok (.getfield 27, 3) := by decide +kernel
theorem dX8_tellIn_101 : decode cX8_tellIn 101 = .ok (.iload 9, 2) := by decide +kernel
theorem dX8_tellIn_103 : decode cX8_tellIn 103 = .ok (.saload, 1) := by decide +kernel
theorem dX8_tellIn_104 : decode cX8_tellIn 104 = .ok (.iload_n 1, 1) := by decide +kernel
theorem dX8_tellIn_105 : decode cX8_tellIn 105 = .ok (.if_icmp .ne 7, 3) := by decide +kernel
theorem dX8_tellIn_108 : decode cX8_tellIn 108 = .ok (.iconst 1, 1) := by decide +kernel
theorem dX8_tellIn_109 : decode cX8_tellIn 109 = .ok (.goto 4, 3) := by decide +kernel
theorem dX8_tellIn_112 : decode cX8_tellIn 112 = .ok (.iconst 0, 1) := by decide +kernel
theorem dX8_tellIn_113 : decode cX8_tellIn 113 = .ok (.istore 10, 2) := by decide +kernel
theorem dX8_tellIn_115 : decode cX8_tellIn 115 = .ok (.iload 10, 2) := by decide +kernel
theorem dX8_tellIn_117 : decode cX8_tellIn 117 = .ok (.ifCond .eq 45, 3) := by decide +kernel
theorem dX8_tellIn_120 : decode cX8_tellIn 120 = .ok (.aload_n 0, 1) := by decide +kernel
theorem dX8_tellIn_121 : decode cX8_tellIn 121 = .ok (.getfield 31, 3) := by decide +kernel
theorem dX8_tellIn_124 : decode cX8_tellIn 124 = .ok (.iload 9, 2) := by decide +kernel
theorem dX8_tellIn_126 : decode cX8_tellIn 126 = .ok (.saload, 1) := by decide +kernel
theorem dX8_tellIn_127 : decode cX8_tellIn 127 = .ok (.istore 11, 2) := by decide +kernel
theorem dX8_tellIn_129 : decode cX8_tellIn 129 = .ok (.aload_n 0, 1) := by decide +kernel
theorem dX8_tellIn_130 : decode cX8_tellIn 130 = .ok (.getfield 27, 3) := by decide +kernel
theorem dX8_tellIn_133 : decode cX8_tellIn 133 = .ok (.iload 9, 2) := by decide +kernel
theorem dX8_tellIn_135 : decode cX8_tellIn 135 = .ok (.saload, 1) := by decide +kernel
theorem dX8_tellIn_136 : decode cX8_tellIn 136 = .ok (.istore 12, 2) := by decide +kernel
theorem dX8_tellIn_138 : decode cX8_tellIn 138 = .ok (.aload_n 0, 1) := by decide +kernel
theorem dX8_tellIn_139 : decode cX8_tellIn 139 = .ok (.iload 8, 2) := by decide +kernel
theorem dX8_tellIn_141 : decode cX8_tellIn 141 = .ok (.iload 11, 2) := by decide +kernel
theorem dX8_tellIn_143 : decode cX8_tellIn 143 = .ok (.iload 6, 2) := by decide +kernel
theorem dX8_tellIn_145 : decode cX8_tellIn 145 = .ok (.iload_n 2, 1) := by decide +kernel
theorem dX8_tellIn_146 : decode cX8_tellIn 146 = .ok (.invokevirtual 152, 3) := by decide +kernel
theorem dX8_tellIn_149 : decode cX8_tellIn 149 = .ok (.aload_n 0, 1) := by decide +kernel
theorem dX8_tellIn_150 : decode cX8_tellIn 150 = .ok (.iload 8, 2) := by decide +kernel
theorem dX8_tellIn_152 : decode cX8_tellIn 152 = .ok (.iload 11, 2) := by decide +kernel
theorem dX8_tellIn_154 : decode cX8_tellIn 154 = .ok (.iload 6, 2) := by decide +kernel
theorem dX8_tellIn_156 : decode cX8_tellIn 156 = .ok (.invokevirtual 156, 3) := by decide +kernel
theorem dX8_tellIn_159 : decode cX8_tellIn 159 = .ok (.iload 12, 2) := by decide +kernel
theorem dX8_tellIn_161 : decode cX8_tellIn 161 = .ok (.ireturn, 1) := by decide +kernel
theorem dX8_tellIn_162 : decode cX8_tellIn 162 = .ok (.iload 8, 2) := by decide +kernel
theorem dX8_tellIn_164 : decode cX8_tellIn 164 = .ok (.aload_n 0, 1) := by decide +kernel
theorem dX8_tellIn_165 : decode cX8_tellIn 165 = .ok (.getfield 31, 3) := by decide +kernel
theorem dX8_tellIn_168 : decode cX8_tellIn 168 = .ok (.iload 9, 2) := by decide +kernel
theorem dX8_tellIn_170 : decode cX8_tellIn 170 = .ok (.saload, 1) := by decide +kernel
theorem dX8_tellIn_171 : decode cX8_tellIn 171 = .ok (.iadd, 1) := by decide +kernel
theorem dX8_tellIn_172 : decode cX8_tellIn 172 = .ok (.istore 8, 2) := by decide +kernel
theorem dX8_tellIn_174 : decode cX8_tellIn 174 = .ok (.iinc 9 1, 3) := by decide +kernel
theorem dX8_tellIn_177 : decode cX8_tellIn 177 = .ok (.goto (-145), 3) := by decide +kernel
theorem dX8_tellIn_180 : decode cX8_tellIn 180 = .ok (.aload_n 0, 1) := by decide +kernel
theorem dX8_tellIn_181 : decode cX8_tellIn 181 = .ok (.iload 4, 2) := by decide +kernel
theorem dX8_tellIn_183 : decode cX8_tellIn 183 = .ok (.iload 5, 2) := by decide +kernel
theorem dX8_tellIn_185 : decode cX8_tellIn 185 = .ok (.iload 6, 2) := by decide +kernel
theorem dX8_tellIn_187 : decode cX8_tellIn 187 = .ok (.iload_n 2, 1) := by decide +kernel
theorem dX8_tellIn_188 : decode cX8_tellIn 188 = .ok (.invokevirtual 152, 3) := by decide +kernel
theorem dX8_tellIn_191 : decode cX8_tellIn 191 = .ok (.aload_n 0, 1) := by decide +kernel
theorem dX8_tellIn_192 : decode cX8_tellIn 192 = .ok (.getfield 73, 3) := by decide +kernel
theorem dX8_tellIn_195 : decode cX8_tellIn 195 = .ok (.sipush 20000, 3) := by decide +kernel
theorem dX8_tellIn_198 : decode cX8_tellIn 198 = .ok (.if_icmp .gt 20, 3) := by decide +kernel
theorem dX8_tellIn_201 : decode cX8_tellIn 201 = .ok (.aload_n 0, 1) := by decide +kernel
theorem dX8_tellIn_202 : decode cX8_tellIn 202 = .ok (.getfield 43, 3) := by decide +kernel
theorem dX8_tellIn_205 : decode cX8_tellIn 205 = .ok (.aload_n 0, 1) := by decide +kernel
theorem dX8_tellIn_206 : decode cX8_tellIn 206 = .ok (.getfield 73, 3) := by decide +kernel
theorem dX8_tellIn_209 : decode cX8_tellIn 209 = .ok (.iconst 1, 1) := by decide +kernel
theorem dX8_tellIn_210 : decode cX8_tellIn 210 = .ok (.isub, 1) := by decide +kernel
theorem dX8_tellIn_211 : decode cX8_tellIn 211 = .ok (.dup2, 1) := by decide +kernel
theorem dX8_tellIn_212 : decode cX8_tellIn 212 = .ok (.baload, 1) := by decide +kernel
theorem dX8_tellIn_213 : decode cX8_tellIn 213 = .ok (.bipush 8, 2) := by decide +kernel
theorem dX8_tellIn_215 : decode cX8_tellIn 215 = .ok (.iadd, 1) := by decide +kernel
theorem dX8_tellIn_216 : decode cX8_tellIn 216 = .ok (.i2b, 1) := by decide +kernel
theorem dX8_tellIn_217 : decode cX8_tellIn 217 = .ok (.bastore, 1) := by decide +kernel
theorem dX8_tellIn_218 : decode cX8_tellIn 218 = .ok (.aload_n 0, 1) := by decide +kernel
theorem dX8_tellIn_219 : decode cX8_tellIn 219 = .ok (.dup, 1) := by decide +kernel
theorem dX8_tellIn_220 : decode cX8_tellIn 220 = .ok (.getfield 76, 3) := by decide +kernel
theorem dX8_tellIn_223 : decode cX8_tellIn 223 = .ok (.iconst 1, 1) := by decide +kernel
theorem dX8_tellIn_224 : decode cX8_tellIn 224 = .ok (.iadd, 1) := by decide +kernel
theorem dX8_tellIn_225 : decode cX8_tellIn 225 = .ok (.putfield 76, 3) := by decide +kernel
theorem dX8_tellIn_228 : decode cX8_tellIn 228 = .ok (.aload_n 0, 1) := by decide +kernel
theorem dX8_tellIn_229 : decode cX8_tellIn 229 = .ok (.iload 4, 2) := by decide +kernel
theorem dX8_tellIn_231 : decode cX8_tellIn 231 = .ok (.iload 5, 2) := by decide +kernel
theorem dX8_tellIn_233 : decode cX8_tellIn 233 = .ok (.iload 6, 2) := by decide +kernel
theorem dX8_tellIn_235 : decode cX8_tellIn 235 = .ok (.invokevirtual 156, 3) := by decide +kernel
theorem dX8_tellIn_238 : decode cX8_tellIn 238 = .ok (.iconst 0, 1) := by decide +kernel
theorem dX8_tellIn_239 : decode cX8_tellIn 239 = .ok (.istore 9, 2) := by decide +kernel
theorem dX8_tellIn_241 : decode cX8_tellIn 241 = .ok (.iload 9, 2) := by decide +kernel
theorem dX8_tellIn_243 : decode cX8_tellIn 243 = .ok (.aload_n 0, 1) := by decide +kernel
theorem dX8_tellIn_244 : decode cX8_tellIn 244 = .ok (.getfield 70, 3) := by decide +kernel
theorem dX8_tellIn_247 : decode cX8_tellIn 247 = .ok (.if_icmp .ge 33, 3) := by decide +kernel
