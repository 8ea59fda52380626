theorem dX4_growContexts_80 : decode cX4_growContexts 80 = .ok (.putfield 37, 3) := by decide +kernel
theorem dX4_growContexts_83 : decode cX4_growContexts 83 = .ok (.return_, 1) := by decide +kernel
theorem dX4_dropAll_0 : decode cX4_dropAll 0 = .ok (.iconst 0, 1) := by decide +kernel
theorem dX4_dropAll_1 : decode cX4_dropAll 1 = .ok (.istore_n 1, 1) := by decide +kernel
theorem dX4_dropAll_2 : decode cX4_dropAll 2 = .ok (.iload_n 1, 1) := by decide +kernel
theorem dX4_dropAll_3 : decode cX4_dropAll 3 = .ok (.aload_n 0, 1) := by decide +kernel
theorem dX4_dropAll_4 : decode cX4_dropAll 4 = .ok (.getfield 64, 3) := by decide +kernel
theorem dX4_dropAll_7 : decode cX4_dropAll 7 = .ok (.if_icmp .ge 24, 3) := by decide +kernel
theorem dX4_dropAll_10 : decode cX4_dropAll 10 = .ok (.aload_n 0, 1) := by decide +kernel
theorem dX4_dropAll_11 : decode cX4_dropAll 11 = .ok (.getfield 40, 3) := by decide +kernel
theorem dX4_dropAll_14 : decode cX4_dropAll 14 = .ok (.aload_n 0, 1) := by decide +kernel
theorem dX4_dropAll_15 : decode cX4_dropAll 15 = .ok (.getfield 25, 3) := by decide +kernel
theorem dX4_dropAll_18 : decode cX4_dropAll 18 = .ok (.iload_n 1, 1) := by decide +kernel
theorem dX4_dropAll_19 : decode cX4_dropAll 19 = .ok (.iaload, 1) := by decide +kernel
theorem dX4_dropAll_20 : decode cX4_dropAll 20 = .ok (.invokestatic 77, 3) := by decide +kernel
theorem dX4_dropAll_23 : decode cX4_dropAll 23 = .ok (.iconst (-1), 1) := by decide +kernel
theorem dX4_dropAll_24 : decode cX4_dropAll 24 = .ok (.iastore, 1) := by decide +kernel
theorem dX4_dropAll_25 : decode cX4_dropAll 25 = .ok (.iinc 1 1, 3) := by decide +kernel
theorem dX4_dropAll_28 : decode cX4_dropAll 28 = .ok (.goto (-26), 3) := by decide +kernel
theorem dX4_dropAll_31 : decode cX4_dropAll 31 = .ok (.aload_n 0, 1) := by decide +kernel
theorem dX4_dropAll_32 : decode cX4_dropAll 32 = .ok (.iconst 0, 1) := by decide +kernel
theorem dX4_dropAll_33 : decode cX4_dropAll 33 = .ok (.putfield 64, 3) := by decide +kernel
theorem dX4_dropAll_36 : decode cX4_dropAll 36 = .ok (.aload_n 0, 1) := by decide +kernel
theorem dX4_dropAll_37 : decode cX4_dropAll 37 = .ok (.iconst 0, 1) := by decide +kernel
theorem dX4_dropAll_38 : decode cX4_dropAll 38 = .ok (.putfield 61, 3) := by decide +kernel
theorem dX4_dropAll_41 : decode cX4_dropAll 41 = .ok (.return_, 1) := by decide +kernel
theorem dX4_isContext_0 : decode cX4_isContext 0 = .ok (.iload_n 1, 1) := by decide +kernel
theorem dX4_isContext_1 : decode cX4_isContext 1 = .ok (.ifCond .lt 15, 3) := by decide +kernel
theorem dX4_isContext_4 : decode cX4_isContext 4 = .ok (.iload_n 1, 1) := by decide +kernel
theorem dX4_isContext_5 : decode cX4_isContext 5 = .ok (.aload_n 0, 1) := by decide +kernel
theorem dX4_isContext_6 : decode cX4_isContext 6 = .ok (.getfield 64, 3) := by decide +kernel
theorem dX4_isContext_9 : decode cX4_isContext 9 = .ok (.if_icmp .ge 7, 3) := by decide +kernel
theorem dX4_isContext_12 : decode cX4_isContext 12 = .ok (.iconst 1, 1) := by decide +kernel
theorem dX4_isContext_13 : decode cX4_isContext 13 = .ok (.goto 4, 3) := by decide +kernel
theorem dX4_isContext_16 : decode cX4_isContext 16 = .ok (.iconst 0, 1) := by decide +kernel
theorem dX4_isContext_17 : decode cX4_isContext 17 = .ok (.ireturn, 1) := by decide +kernel
theorem dX4_isNode_0 : decode cX4_isNode 0 = .ok (.iload_n 1, 1) := by decide +kernel
theorem dX4_isNode_1 : decode cX4_isNode 1 = .ok (.ifCond .lt 15, 3) := by decide +kernel
theorem dX4_isNode_4 : decode cX4_isNode 4 = .ok (.iload_n 1, 1) := by decide +kernel
theorem dX4_isNode_5 : decode cX4_isNode 5 = .ok (.aload_n 0, 1) := by decide +kernel
theorem dX4_isNode_6 : decode cX4_isNode 6 = .ok (.getfield 61, 3) := by decide +kernel
theorem dX4_isNode_9 : decode cX4_isNode 9 = .ok (.if_icmp .ge 7, 3) := by decide +kernel
theorem dX4_isNode_12 : decode cX4_isNode 12 = .ok (.iconst 1, 1) := by decide +kernel
theorem dX4_isNode_13 : decode cX4_isNode 13 = .ok (.goto 4, 3) := by decide +kernel
theorem dX4_isNode_16 : decode cX4_isNode 16 = .ok (.iconst 0, 1) := by decide +kernel
theorem dX4_isNode_17 : decode cX4_isNode 17 = .ok (.ireturn, 1) := by decide +kernel
theorem dX4_bucketOf_0 : decode cX4_bucketOf 0 = .ok (.iload_n 0, 1) := by decide +kernel
theorem dX4_bucketOf_1 : decode cX4_bucketOf 1 = .ok (.iload_n 0, 1) := by decide +kernel
theorem dX4_bucketOf_2 : decode cX4_bucketOf 2 = .ok (.bipush 8, 2) := by decide +kernel
theorem dX4_bucketOf_4 : decode cX4_bucketOf 4 = .ok (.ishr, 1) := by decide +kernel
theorem dX4_bucketOf_5 : decode cX4_bucketOf 5 = .ok (.ixor, 1) := by decide +kernel
theorem dX4_bucketOf_6 : decode cX4_bucketOf 6 = .ok (.sipush 255, 3) := by decide +kernel
theorem dX4_bucketOf_9 : decode cX4_bucketOf 9 = .ok (.iand, 1) := by decide +kernel
theorem dX4_bucketOf_10 : decode cX4_bucketOf 10 = .ok (.ireturn, 1) := by decide +kernel
theorem dX5_init_0 : decode cX5_init 0 = .ok (.aload_n 0, 1) := by decide +kernel
theorem dX5_init_1 : decode cX5_init 1 = .ok (.invokespecial 5, 3) := by decide +kernel
theorem dX5_init_4 : decode cX5_init 4 = .ok (.aload_n 0, 1) := by decide +kernel
theorem dX5_init_5 : decode cX5_init 5 = .ok (.bipush 64, 2) := by decide +kernel
theorem dX5_init_7 : decode cX5_init 7 = .ok (.newarray .long, 2) := by decide +kernel
theorem dX5_init_9 : decode cX5_init 9 = .ok (.putfield 11, 3) := by decide +kernel
theorem dX5_init_12 : decode cX5_init 12 = .ok (.return_, 1) := by decide +kernel
theorem dX5_made_0 : decode cX5_made 0 = .ok (.aload_n 0, 1) := by decide +kernel
theorem dX5_made_1 : decode cX5_made 1 = .ok (.getfield 15, 3) := by decide +kernel
theorem dX5_made_4 : decode cX5_made 4 = .ok (.ireturn, 1) := by decide +kernel
theorem dX5_escapes_0 : decode cX5_escapes 0 = .ok (.aload_n 0, 1) := by decide +kernel
theorem dX5_escapes_1 : decode cX5_escapes 1 = .ok (.getfield 19, 3) := by decide +kernel
theorem dX5_escapes_4 : decode cX5_escapes 4 = .ok (.ireturn, 1) := by decide +kernel
theorem dX5_clear_0 : decode cX5_clear 0 = .ok (.aload_n 0, 1) := by decide +kernel
theorem dX5_clear_1 : decode cX5_clear 1 = .ok (.iconst 0, 1) := by decide +kernel
theorem dX5_clear_2 : decode cX5_clear 2 = .ok (.putfield 15, 3) := by decide +kernel
theorem dX5_clear_5 : decode cX5_clear 5 = .ok (.aload_n 0, 1) := by decide +kernel
theorem dX5_clear_6 : decode cX5_clear 6 = .ok (.iconst 0, 1) := by decide +kernel
theorem dX5_clear_7 : decode cX5_clear 7 = .ok (.putfield 19, 3) := by decide +kernel
theorem dX5_clear_10 : decode cX5_clear 10 = .ok (.return_, 1) := by decide +kernel
theorem dX5_add_0 : decode cX5_add 0 = .ok (.aload_n 0, 1) := by decide +kernel
theorem dX5_add_1 : decode cX5_add 1 = .ok (.getfield 15, 3) := by decide +kernel
theorem dX5_add_4 : decode cX5_add 4 = .ok (.sipush 20000, 3) := by decide +kernel
theorem dX5_add_7 : decode cX5_add 7 = .ok (.if_icmp .ge 82, 3) := by decide +kernel
theorem dX5_add_10 : decode cX5_add 10 = .ok (.aload_n 0, 1) := by decide +kernel
theorem dX5_add_11 : decode cX5_add 11 = .ok (.getfield 15, 3) := by decide +kernel
theorem dX5_add_14 : decode cX5_add 14 = .ok (.aload_n 0, 1) := by decide +kernel
theorem dX5_add_15 : decode cX5_add 15 = .ok (.getfield 11, 3) := by decide +kernel
theorem dX5_add_18 : decode cX5_add 18 = .ok (.arraylength, 1) := by decide +kernel
theorem dX5_add_19 : decode cX5_add 19 = .ok (.if_icmp .lt 24, 3) := by decide +kernel
theorem dX5_add_22 : decode cX5_add 22 = .ok (.aload_n 0, 1) := by decide +kernel
theorem dX5_add_23 : decode cX5_add 23 = .ok (.aload_n 0, 1) := by decide +kernel
theorem dX5_add_24 : decode cX5_add 24 = .ok (.getfield 11, 3) := by decide +kernel
theorem dX5_add_27 : decode cX5_add 27 = .ok (.aload_n 0, 1) := by decide +kernel
theorem dX5_add_28 : decode cX5_add 28 = .ok (.getfield 15, 3) := by decide +kernel
theorem dX5_add_31 : decode cX5_add 31 = .ok (.sipush 20000, 3) := by decide +kernel
theorem dX5_add_34 : decode cX5_add 34 = .ok (.invokestatic 22, 3) := by decide +kernel
theorem dX5_add_37 : decode cX5_add 37 = .ok (.invokestatic 26, 3) := by decide +kernel
theorem dX5_add_40 : decode cX5_add 40 = .ok (.putfield 11, 3) := by decide +kernel
theorem dX5_add_43 : decode cX5_add 43 = .ok (.aload_n 0, 1) := by decide +kernel
theorem dX5_add_44 : decode cX5_add 44 = .ok (.getfield 11, 3) := by decide +kernel
theorem dX5_add_47 : decode cX5_add 47 = .ok (.aload_n 0, 1) := by decide +kernel
theorem dX5_add_48 : decode cX5_add 48 = .ok (.getfield 15, 3) := by decide +kernel
theorem dX5_add_51 : decode cX5_add 51 = .ok (.iload_n 1, 1) := by decide +kernel
theorem dX5_add_52 : decode cX5_add 52 = .ok (.i2l, 1) := by decide +kernel
theorem dX5_add_53 : decode cX5_add 53 = .ok (.iload_n 2, 1) := by decide +kernel
theorem dX5_add_54 : decode cX5_add 54 = .ok (.i2l, 1) := by decide +kernel
theorem dX5_add_55 : decode cX5_add 55 = .ok (.bipush 20, 2) := by decide +kernel
theorem dX5_add_57 : decode cX5_add 57 = .ok (.lshl, 1) := by decide +kernel
theorem dX5_add_58 : decode cX5_add 58 = .ok (.lor, 1) := by decide +kernel
theorem dX5_add_59 : decode cX5_add 59 = .ok (.iload_n 3, 1) := by decide +kernel
theorem dX5_add_60 : decode cX5_add 60 = .ok (.i2l, 1) := by decide +kernel
theorem dX5_add_61 : decode cX5_add 61 = .ok (.bipush 40, 2) := by decide +kernel
theorem dX5_add_63 : decode cX5_add 63 = .ok (.lshl, 1) := by decide +kernel
theorem dX5_add_64 : decode cX5_add 64 = .ok (.lor, 1) := by decide +kernel
theorem dX5_add_65 : decode cX5_add 65 = .ok (.iload 4, 2) := by decide +kernel
theorem dX5_add_67 : decode cX5_add 67 = .ok (.iconst 1, 1) := by decide +kernel
theorem dX5_add_68 : decode cX5_add 68 = .ok (.iadd, 1) := by decide +kernel
theorem dX5_add_69 : decode cX5_add 69 = .ok (.i2l, 1) := by decide +kernel
theorem dX5_add_70 : decode cX5_add 70 = .ok (.bipush 60, 2) := by decide +kernel
theorem dX5_add_72 : decode cX5_add 72 = .ok (.lshl, 1) := by decide +kernel
theorem dX5_add_73 : decode cX5_add 73 = .ok (.lor, 1) := by decide +kernel
theorem dX5_add_74 : decode cX5_add 74 = .ok (.iload 5, 2) := by decide +kernel
theorem dX5_add_76 : decode cX5_add 76 = .ok (.ifCond .eq 7, 3) := by decide +kernel
theorem dX5_add_79 : decode cX5_add 79 = .ok (.lconst 1, 1) := by decide +kernel
theorem dX5_add_80 : decode cX5_add 80 = .ok (.goto 4, 3) := by decide +kernel
theorem dX5_add_83 : decode cX5_add 83 = .ok (.lconst 0, 1) := by decide +kernel
theorem dX5_add_84 : decode cX5_add 84 = .ok (.bipush 62, 2) := by decide +kernel
theorem dX5_add_86 : decode cX5_add 86 = .ok (.lshl, 1) := by decide +kernel
theorem dX5_add_87 : decode cX5_add 87 = .ok (.lor, 1) := by decide +kernel
theorem dX5_add_88 : decode cX5_add 88 = .ok (.lastore, 1) := by decide +kernel
theorem dX5_add_89 : decode cX5_add 89 = .ok (.aload_n 0, 1) := by decide +kernel
theorem dX5_add_90 : decode cX5_add 90 = .ok (.dup, 1) := by decide +kernel
theorem dX5_add_91 : decode cX5_add 91 = .ok (.getfield 15, 3) := by decide +kernel
theorem dX5_add_94 : decode cX5_add 94 = .ok (.iconst 1, 1) := by decide +kernel
theorem dX5_add_95 : decode cX5_add 95 = .ok (.iadd, 1) := by decide +kernel
theorem dX5_add_96 : decode cX5_add 96 = .ok (.putfield 15, 3) := by decide +kernel
theorem dX5_add_99 : decode cX5_add 99 = .ok (.iload 5, 2) := by decide +kernel
theorem dX5_add_101 : decode cX5_add 101 = .ok (.ifCond .eq 13, 3) := by decide +kernel
theorem dX5_add_104 : decode cX5_add 104 = .ok (.aload_n 0, 1) := by decide +kernel
theorem dX5_add_105 : decode cX5_add 105 = .ok (.dup, 1) := by decide +kernel
theorem dX5_add_106 : decode cX5_add 106 = .ok (.getfield 19, 3) := by decide +kernel
theorem dX5_add_109 : decode cX5_add 109 = .ok (.iconst 1, 1) := by decide +kernel
theorem dX5_add_110 : decode cX5_add 110 = .ok (.iadd, 1) := by decide +kernel
theorem dX5_add_111 : decode cX5_add 111 = .ok (.putfield 19, 3) := by decide +kernel
theorem dX5_add_114 : decode cX5_add 114 = .ok (.return_, 1) := by decide +kernel
theorem dX5_answer_0 : decode cX5_answer 0 = .ok (.iload_n 1, 1) := by decide +kernel
theorem dX5_answer_1 : decode cX5_answer 1 = .ok (.ifCond .lt 18, 3) := by decide +kernel
theorem dX5_answer_4 : decode cX5_answer 4 = .ok (.iload_n 1, 1) := by decide +kernel
theorem dX5_answer_5 : decode cX5_answer 5 = .ok (.aload_n 0, 1) := by decide +kernel
theorem dX5_answer_6 : decode cX5_answer 6 = .ok (.getfield 15, 3) := by decide +kernel
theorem dX5_answer_9 : decode cX5_answer 9 = .ok (.if_icmp .ge 10, 3) := by decide +kernel
theorem dX5_answer_12 : decode cX5_answer 12 = .ok (.iload_n 1, 1) := by decide +kernel
theorem dX5_answer_13 : decode cX5_answer 13 = .ok (.sipush 20000, 3) := by decide +kernel
theorem dX5_answer_16 : decode cX5_answer 16 = .ok (.if_icmp .lt 6, 3) := by decide +kernel
theorem dX5_answer_19 : decode cX5_answer 19 = .ok (.bipush (-2), 2) := by decide +kernel
theorem dX5_answer_21 : decode cX5_answer 21 = .ok (.ireturn, 1) := by decide +kernel
theorem dX5_answer_22 : decode cX5_answer 22 = .ok (.aload_n 0, 1) := by decide +kernel
theorem dX5_answer_23 : decode cX5_answer 23 = .ok (.getfield 11, 3) := by decide +kernel
theorem dX5_answer_26 : decode cX5_answer 26 = .ok (.iload_n 1, 1) := by decide +kernel
theorem dX5_answer_27 : decode cX5_answer 27 = .ok (.laload, 1) := by decide +kernel
theorem dX5_answer_28 : decode cX5_answer 28 = .ok (.lstore_n 3, 1) := by decide +kernel
theorem dX5_answer_29 : decode cX5_answer 29 = .ok (.iload_n 2, 1) := by decide +kernel
theorem dX5_answer_30 : decode cX5_answer 30 = .ok (.tableswitch 81 0 4 #[34, 41, 51, 61, 73], 34) := by decide +kernel
theorem dX5_answer_64 : decode cX5_answer 64 = .ok (.lload_n 3, 1) := by decide +kernel
theorem dX5_answer_65 : decode cX5_answer 65 = .ok (.ldc2_w 32, 3) := by decide +kernel
theorem dX5_answer_68 : decode cX5_answer 68 = .ok (.land, 1) := by decide +kernel
theorem dX5_answer_69 : decode cX5_answer 69 = .ok (.l2i, 1) := by decide +kernel
theorem dX5_answer_70 : decode cX5_answer 70 = .ok (.ireturn, 1) := by decide +kernel
theorem dX5_answer_71 : decode cX5_answer 71 = .ok (.lload_n 3, 1) := by decide +kernel
theorem dX5_answer_72 : decode cX5_answer 72 = .ok (.bipush 20, 2) := by decide +kernel
theorem dX5_answer_74 : decode cX5_answer 74 = .ok (.lushr, 1) := by decide +kernel
theorem dX5_answer_75 : decode cX5_answer 75 = .ok (.ldc2_w 32, 3) := by decide +kernel
theorem dX5_answer_78 : decode cX5_answer 78 = .ok (.land, 1) := by decide +kernel
theorem dX5_answer_79 : decode cX5_answer 79 = .ok (.l2i, 1) := by decide +kernel
theorem dX5_answer_80 : decode cX5_answer 80 = .ok (.ireturn, 1) := by decide +kernel
theorem dX5_answer_81 : decode cX5_answer 81 = .ok (.lload_n 3, 1) := by decide +kernel
theorem dX5_answer_82 : decode cX5_answer 82 = .ok (.bipush 40, 2) := by decide +kernel
theorem dX5_answer_84 : decode cX5_answer 84 = .ok (.lushr, 1) := by decide +kernel
theorem dX5_answer_85 : decode cX5_answer 85 = .ok (.ldc2_w 32, 3) := by decide +kernel
theorem dX5_answer_88 : decode cX5_answer 88 = .ok (.land, 1) := by decide +kernel
theorem dX5_answer_89 : decode cX5_answer 89 = .ok (.l2i, 1) := by decide +kernel
theorem dX5_answer_90 : decode cX5_answer 90 = .ok (.ireturn, 1) := by decide +kernel
theorem dX5_answer_91 : decode cX5_answer 91 = .ok (.lload_n 3, 1) := by decide +kernel
theorem dX5_answer_92 : decode cX5_answer 92 = .ok (.bipush 60, 2) := by decide +kernel
theorem dX5_answer_94 : decode cX5_answer 94 = .ok (.lushr, 1) := by decide +kernel
theorem dX5_answer_95 : decode cX5_answer 95 = .ok (.ldc2_w 34, 3) := by decide +kernel
theorem dX5_answer_98 : decode cX5_answer 98 = .ok (.land, 1) := by decide +kernel
theorem dX5_answer_99 : decode cX5_answer 99 = .ok (.l2i, 1) := by decide +kernel
theorem dX5_answer_100 : decode cX5_answer 100 = .ok (.iconst 1, 1) := by decide +kernel
theorem dX5_answer_101 : decode cX5_answer 101 = .ok (.isub, 1) := by decide +kernel
theorem dX5_answer_102 : decode cX5_answer 102 = .ok (.ireturn, 1) := by decide +kernel
theorem dX5_answer_103 : decode cX5_answer 103 = .ok (.lload_n 3, 1) := by decide +kernel
theorem dX5_answer_104 : decode cX5_answer 104 = .ok (.bipush 62, 2) := by decide +kernel
theorem dX5_answer_106 : decode cX5_answer 106 = .ok (.lushr, 1) := by decide +kernel
theorem dX5_answer_107 : decode cX5_answer 107 = .ok (.lconst 1, 1) := by decide +kernel
theorem dX5_answer_108 : decode cX5_answer 108 = .ok (.land, 1) := by decide +kernel
theorem dX5_answer_109 : decode cX5_answer 109 = .ok (.l2i, 1) := by decide +kernel
theorem dX5_answer_110 : decode cX5_answer 110 = .ok (.ireturn, 1) := by decide +kernel
theorem dX5_answer_111 : decode cX5_answer 111 = .ok (.bipush (-2), 2) := by decide +kernel
theorem dX5_answer_113 : decode cX5_answer 113 = .ok (.ireturn, 1) := by decide +kernel
theorem dX6_init_0 : decode cX6_init 0 = .ok (.aload_n 0, 1) := by decide +kernel
theorem dX6_init_1 : decode cX6_init 1 = .ok (.invokespecial 3, 3) := by decide +kernel
theorem dX6_init_4 : decode cX6_init 4 = .ok (.aload_n 0, 1) := by decide +kernel
theorem dX6_init_5 : decode cX6_init 5 = .ok (.aload_n 1, 1) := by decide +kernel
theorem dX6_init_6 : decode cX6_init 6 = .ok (.putfield 9, 3) := by decide +kernel
theorem dX6_init_9 : decode cX6_init 9 = .ok (.aload_n 0, 1) := by decide +kernel
theorem dX6_init_10 : decode cX6_init 10 = .ok (.aload_n 2, 1) := by decide +kernel
theorem dX6_init_11 : decode cX6_init 11 = .ok (.putfield 15, 3) := by decide +kernel
theorem dX6_init_14 : decode cX6_init 14 = .ok (.aload_n 0, 1) := by decide +kernel
theorem dX6_init_15 : decode cX6_init 15 = .ok (.sipush 256, 3) := by decide +kernel
theorem dX6_init_18 : decode cX6_init 18 = .ok (.newarray .int, 2) := by decide +kernel
theorem dX6_init_20 : decode cX6_init 20 = .ok (.putfield 19, 3) := by decide +kernel
theorem dX6_init_23 : decode cX6_init 23 = .ok (.aload_n 0, 1) := by decide +kernel
theorem dX6_init_24 : decode cX6_init 24 = .ok (.sipush 256, 3) := by decide +kernel
theorem dX6_init_27 : decode cX6_init 27 = .ok (.newarray .int, 2) := by decide +kernel
theorem dX6_init_29 : decode cX6_init 29 = .ok (.putfield 23, 3) := by decide +kernel
theorem dX6_init_32 : decode cX6_init 32 = .ok (.aload_n 0, 1) := by decide +kernel
theorem dX6_init_33 : decode cX6_init 33 = .ok (.sipush 256, 3) := by decide +kernel
theorem dX6_init_36 : decode cX6_init 36 = .ok (.newarray .int, 2) := by decide +kernel
theorem dX6_init_38 : decode cX6_init 38 = .ok (.putfield 26, 3) := by decide +kernel
theorem dX6_init_41 : decode cX6_init 41 = .ok (.return_, 1) := by decide +kernel
theorem dX6_toldOrder_0 : decode cX6_toldOrder 0 = .ok (.aload_n 0, 1) := by decide +kernel
theorem dX6_toldOrder_1 : decode cX6_toldOrder 1 = .ok (.getfield 29, 3) := by decide +kernel
theorem dX6_toldOrder_4 : decode cX6_toldOrder 4 = .ok (.ireturn, 1) := by decide +kernel
theorem dX6_tell_0 : decode cX6_tell 0 = .ok (.aload_n 0, 1) := by decide +kernel
theorem dX6_tell_1 : decode cX6_tell 1 = .ok (.dup, 1) := by decide +kernel
theorem dX6_tell_2 : decode cX6_tell 2 = .ok (.getfield 33, 3) := by decide +kernel
theorem dX6_tell_5 : decode cX6_tell 5 = .ok (.iconst 1, 1) := by decide +kernel
theorem dX6_tell_6 : decode cX6_tell 6 = .ok (.iadd, 1) := by decide +kernel
theorem dX6_tell_7 : decode cX6_tell 7 = .ok (.putfield 33, 3) := by decide +kernel
theorem dX6_tell_10 : decode cX6_tell 10 = .ok (.aload_n 0, 1) := by decide +kernel
theorem dX6_tell_11 : decode cX6_tell 11 = .ok (.iconst 0, 1) := by decide +kernel
theorem dX6_tell_12 : decode cX6_tell 12 = .ok (.putfield 36, 3) := by decide +kernel
theorem dX6_tell_15 : decode cX6_tell 15 = .ok (.aload_n 0, 1) := by decide +kernel
theorem dX6_tell_16 : decode cX6_tell 16 = .ok (.getfield 9, 3) := by decide +kernel
theorem dX6_tell_19 : decode cX6_tell 19 = .ok (.invokevirtual 39, 3) := by decide +kernel
theorem dX6_tell_22 : decode cX6_tell 22 = .ok (.istore_n 3, 1) := by decide +kernel
theorem dX6_tell_23 : decode cX6_tell 23 = .ok (.iload_n 3, 1) := by decide +kernel
theorem dX6_tell_24 : decode cX6_tell 24 = .ok (.ifCond .lt 62, 3) := by decide +kernel
theorem dX6_tell_27 : decode cX6_tell 27 = .ok (.aload_n 0, 1) := by decide +kernel
theorem dX6_tell_28 : decode cX6_tell 28 = .ok (.aload_n 0, 1) := by decide +kernel
theorem dX6_tell_29 : decode cX6_tell 29 = .ok (.getfield 9, 3) := by decide +kernel
theorem dX6_tell_32 : decode cX6_tell 32 = .ok (.aload_n 0, 1) := by decide +kernel
theorem dX6_tell_33 : decode cX6_tell 33 = .ok (.getfield 9, 3) := by decide +kernel
theorem dX6_tell_36 : decode cX6_tell 36 = .ok (.iload_n 3, 1) := by decide +kernel
theorem dX6_tell_37 : decode cX6_tell 37 = .ok (.invokevirtual 45, 3) := by decide +kernel
theorem dX6_tell_40 : decode cX6_tell 40 = .ok (.invokevirtual 49, 3) := by decide +kernel
theorem dX6_tell_43 : decode cX6_tell 43 = .ok (.invokevirtual 52, 3) := by decide +kernel
theorem dX6_tell_46 : decode cX6_tell 46 = .ok (.aload_n 0, 1) := by decide +kernel
theorem dX6_tell_47 : decode cX6_tell 47 = .ok (.getfield 56, 3) := by decide +kernel
theorem dX6_tell_50 : decode cX6_tell 50 = .ok (.ifCond .ne 7, 3) := by decide +kernel
theorem dX6_tell_53 : decode cX6_tell 53 = .ok (.iconst (-1), 1) := by decide +kernel
theorem dX6_tell_54 : decode cX6_tell 54 = .ok (.goto 10, 3) := by decide +kernel
theorem dX6_tell_57 : decode cX6_tell 57 = .ok (.aload_n 0, 1) := by decide +kernel
theorem dX6_tell_58 : decode cX6_tell 58 = .ok (.iload_n 3, 1) := by decide +kernel
theorem dX6_tell_59 : decode cX6_tell 59 = .ok (.iload_n 1, 1) := by decide +kernel
theorem dX6_tell_60 : decode cX6_tell 60 = .ok (.aload_n 2, 1) := by decide +kernel
theorem dX6_tell_61 : decode cX6_tell 61 = .ok (.invokevirtual 59, 3) := by decide +kernel
theorem dX6_tell_64 : decode cX6_tell 64 = .ok (.istore 4, 2) := by decide +kernel
theorem dX6_tell_66 : decode cX6_tell 66 = .ok (.iload 4, 2) := by decide +kernel
theorem dX6_tell_68 : decode cX6_tell 68 = .ok (.iconst (-1), 1) := by decide +kernel
theorem dX6_tell_69 : decode cX6_tell 69 = .ok (.if_icmp .eq 11, 3) := by decide +kernel
theorem dX6_tell_72 : decode cX6_tell 72 = .ok (.aload_n 0, 1) := by decide +kernel
theorem dX6_tell_73 : decode cX6_tell 73 = .ok (.iload_n 3, 1) := by decide +kernel
theorem dX6_tell_74 : decode cX6_tell 74 = .ok (.putfield 29, 3) := by decide +kernel
theorem dX6_tell_77 : decode cX6_tell 77 = .ok (.iload 4, 2) := by decide +kernel
theorem dX6_tell_79 : decode cX6_tell 79 = .ok (.ireturn, 1) := by decide +kernel
theorem dX6_tell_80 : decode cX6_tell 80 = .ok (.iinc 3 (-1), 3) := by decide +kernel
theorem dX6_tell_83 : decode cX6_tell 83 = .ok (.goto (-60), 3) := by decide +kernel
theorem dX6_tell_86 : decode cX6_tell 86 = .ok (.aload_n 0, 1) := by decide +kernel
theorem dX6_tell_87 : decode cX6_tell 87 = .ok (.iconst (-1), 1) := by decide +kernel
theorem dX6_tell_88 : decode cX6_tell 88 = .ok (.putfield 29, 3) := by decide +kernel
theorem dX6_tell_91 : decode cX6_tell 91 = .ok (.aload_n 0, 1) := by decide +kernel
theorem dX6_tell_92 : decode cX6_tell 92 = .ok (.iload_n 1, 1) := by decide +kernel
theorem dX6_tell_93 : decode cX6_tell 93 = .ok (.aload_n 2, 1) := by decide +kernel
theorem dX6_tell_94 : decode cX6_tell 94 = .ok (.invokevirtual 63, 3) := by decide +kernel
theorem dX6_tell_97 : decode cX6_tell 97 = .ok (.ireturn, 1) := by decide +kernel
theorem dX6_gather_0 : decode cX6_gather 0 = .ok (.aload_n 0, 1) := by decide +kernel
theorem dX6_gather_1 : decode cX6_gather 1 = .ok (.iconst 0, 1) := by decide +kernel
theorem dX6_gather_2 : decode cX6_gather 2 = .ok (.putfield 56, 3) := by decide +kernel
theorem dX6_gather_5 : decode cX6_gather 5 = .ok (.aload_n 0, 1) := by decide +kernel
theorem dX6_gather_6 : decode cX6_gather 6 = .ok (.iconst 0, 1) := by decide +kernel
theorem dX6_gather_7 : decode cX6_gather 7 = .ok (.putfield 67, 3) := by decide +kernel
theorem dX6_gather_10 : decode cX6_gather 10 = .ok (.aload_n 0, 1) := by decide +kernel
theorem dX6_gather_11 : decode cX6_gather 11 = .ok (.getfield 9, 3) := by decide +kernel
theorem dX6_gather_14 : decode cX6_gather 14 = .ok (.iload_n 1, 1) := by decide +kernel
theorem dX6_gather_15 : decode cX6_gather 15 = .ok (.invokevirtual 70, 3) := by decide +kernel
theorem dX6_gather_18 : decode cX6_gather 18 = .ok (.istore_n 2, 1) := by decide +kernel
theorem dX6_gather_19 : decode cX6_gather 19 = .ok (.aload_n 0, 1) := by decide +kernel
theorem dX6_gather_20 : decode cX6_gather 20 = .ok (.getfield 9, 3) := by decide +kernel
theorem dX6_gather_23 : decode cX6_gather 23 = .ok (.iload_n 1, 1) := by decide +kernel
theorem dX6_gather_24 : decode cX6_gather 24 = .ok (.invokevirtual 73, 3) := by decide +kernel
theorem dX6_gather_27 : decode cX6_gather 27 = .ok (.istore_n 3, 1) := by decide +kernel
theorem dX6_gather_28 : decode cX6_gather 28 = .ok (.iload_n 3, 1) := by decide +kernel
theorem dX6_gather_29 : decode cX6_gather 29 = .ok (.ifCond .le 103, 3) := by decide +kernel
theorem dX6_gather_32 : decode cX6_gather 32 = .ok (.aload_n 0, 1) := by decide +kernel
theorem dX6_gather_33 : decode cX6_gather 33 = .ok (.getfield 56, 3) := by decide +kernel
theorem dX6_gather_36 : decode cX6_gather 36 = .ok (.sipush 256, 3) := by decide +kernel
theorem dX6_gather_39 : decode cX6_gather 39 = .ok (.if_icmp .ge 93, 3) := by decide +kernel
theorem dX6_gather_42 : decode cX6_gather 42 = .ok (.aload_n 0, 1) := by decide +kernel
theorem dX6_gather_43 : decode cX6_gather 43 = .ok (.getfield 9, 3) := by decide +kernel
theorem dX6_gather_46 : decode cX6_gather 46 = .ok (.iload_n 2, 1) := by decide +kernel
theorem dX6_gather_47 : decode cX6_gather 47 = .ok (.invokevirtual 76, 3) := by decide +kernel
theorem dX6_gather_50 : decode cX6_gather 50 = .ok (.istore 4, 2) := by decide +kernel
theorem dX6_gather_52 : decode cX6_gather 52 = .ok (.aload_n 0, 1) := by decide +kernel
theorem dX6_gather_53 : decode cX6_gather 53 = .ok (.iload 4, 2) := by decide +kernel
theorem dX6_gather_55 : decode cX6_gather 55 = .ok (.invokevirtual 79, 3) := by decide +kernel
theorem dX6_gather_58 : decode cX6_gather 58 = .ok (.ifCond .ne 59, 3) := by decide +kernel
theorem dX6_gather_61 : decode cX6_gather 61 = .ok (.aload_n 0, 1) := by decide +kernel
theorem dX6_gather_62 : decode cX6_gather 62 = .ok (.getfield 23, 3) := by decide +kernel
theorem dX6_gather_65 : decode cX6_gather 65 = .ok (.aload_n 0, 1) := by decide +kernel
theorem dX6_gather_66 : decode cX6_gather 66 = .ok (.getfield 56, 3) := by decide +kernel
theorem dX6_gather_69 : decode cX6_gather 69 = .ok (.iload 4, 2) := by decide +kernel
theorem dX6_gather_71 : decode cX6_gather 71 = .ok (.iastore, 1) := by decide +kernel
theorem dX6_gather_72 : decode cX6_gather 72 = .ok (.aload_n 0, 1) := by decide +kernel
theorem dX6_gather_73 : decode cX6_gather 73 = .ok (.getfield 26, 3) := by decide +kernel
theorem dX6_gather_76 : decode cX6_gather 76 = .ok (.aload_n 0, 1) := by decide +kernel
theorem dX6_gather_77 : decode cX6_gather 77 = .ok (.getfield 56, 3) := by decide +kernel
theorem dX6_gather_80 : decode cX6_gather 80 = .ok (.aload_n 0, 1) := by decide +kernel
theorem dX6_gather_81 : decode cX6_gather 81 = .ok (.getfield 9, 3) := by decide +kernel
theorem dX6_gather_84 : decode cX6_gather 84 = .ok (.iload_n 2, 1) := by decide +kernel
theorem dX6_gather_85 : decode cX6_gather 85 = .ok (.invokevirtual 83, 3) := by decide +kernel
theorem dX6_gather_88 : decode cX6_gather 88 = .ok (.iastore, 1) := by decide +kernel
theorem dX6_gather_89 : decode cX6_gather 89 = .ok (.aload_n 0, 1) := by decide +kernel
theorem dX6_gather_90 : decode cX6_gather 90 = .ok (.dup, 1) := by decide +kernel
theorem dX6_gather_91 : decode cX6_gather 91 = .ok (.getfield 67, 3) := by decide +kernel
theorem dX6_gather_94 : decode cX6_gather 94 = .ok (.aload_n 0, 1) := by decide +kernel
theorem dX6_gather_95 : decode cX6_gather 95 = .ok (.getfield 26, 3) := by decide +kernel
theorem dX6_gather_98 : decode cX6_gather 98 = .ok (.aload_n 0, 1) := by decide +kernel
theorem dX6_gather_99 : decode cX6_gather 99 = .ok (.getfield 56, 3) := by decide +kernel
theorem dX6_gather_102 : decode cX6_gather 102 = .ok (.iaload, 1) := by decide +kernel
theorem dX6_gather_103 : decode cX6_gather 103 = .ok (.iadd, 1) := by decide +kernel
theorem dX6_gather_104 : decode cX6_gather 104 = .ok (.putfield 67, 3) := by decide +kernel
theorem dX6_gather_107 : decode cX6_gather 107 = .ok (.aload_n 0, 1) := by decide +kernel
theorem dX6_gather_108 : decode cX6_gather 108 = .ok (.dup, 1) := by decide +kernel
theorem dX6_gather_109 : decode cX6_gather 109 = .ok (.getfield 56, 3) := by decide +kernel
theorem dX6_gather_112 : decode cX6_gather 112 = .ok (.iconst 1, 1) := by decide +kernel
theorem dX6_gather_113 : decode cX6_gather 113 = .ok (.iadd, 1) := by decide +kernel
theorem dX6_gather_114 : decode cX6_gather 114 = .ok (.putfield 56, 3) := by decide +kernel
theorem dX6_gather_117 : decode cX6_gather 117 = .ok (.aload_n 0, 1) := by decide +kernel
theorem dX6_gather_118 : decode cX6_gather 118 = .ok (.getfield 9, 3) := by decide +kernel
theorem dX6_gather_121 : decode cX6_gather 121 = .ok (.iload_n 2, 1) := by decide +kernel
theorem dX6_gather_122 : decode cX6_gather 122 = .ok (.invokevirtual 86, 3) := by decide +kernel
theorem dX6_gather_125 : decode cX6_gather 125 = .ok (.istore_n 2, 1) := by decide +kernel
theorem dX6_gather_126 : decode cX6_gather 126 = .ok (.iinc 3 (-1), 3) := by decide +kernel
theorem dX6_gather_129 : decode cX6_gather 129 = .ok (.goto (-101), 3) := by decide +kernel
theorem dX6_gather_132 : decode cX6_gather 132 = .ok (.return_, 1) := by decide +kernel
theorem dX6_tellAmongLive_0 : decode cX6_tellAmongLive 0 = .ok (.aload_n 0, 1) := by decide +kernel
theorem dX6_tellAmongLive_1 : decode cX6_tellAmongLive 1 = .ok (.getfield 67, 3) := by decide +kernel
theorem dX6_tellAmongLive_4 : decode cX6_tellAmongLive 4 = .ok (.aload_n 0, 1) := by decide +kernel
theorem dX6_tellAmongLive_5 : decode cX6_tellAmongLive 5 = .ok (.getfield 56, 3) := by decide +kernel
theorem dX6_tellAmongLive_8 : decode cX6_tellAmongLive 8 = .ok (.iadd, 1) := by decide +kernel
theorem dX6_tellAmongLive_9 : decode cX6_tellAmongLive 9 = .ok (.istore 4, 2) := by decide +kernel
theorem dX6_tellAmongLive_11 : decode cX6_tellAmongLive 11 = .ok (.aload_n 3, 1) := by decide +kernel
theorem dX6_tellAmongLive_12 : decode cX6_tellAmongLive 12 = .ok (.iload 4, 2) := by decide +kernel
theorem dX6_tellAmongLive_14 : decode cX6_tellAmongLive 14 = .ok (.aload_n 0, 1) := by decide +kernel
theorem dX6_tellAmongLive_15 : decode cX6_tellAmongLive 15 = .ok (.iload_n 2, 1) := by decide +kernel
theorem dX6_tellAmongLive_16 : decode cX6_tellAmongLive 16 = .ok (.invokevirtual 89, 3) := by decide +kernel
theorem dX6_tellAmongLive_19 : decode cX6_tellAmongLive 19 = .ok (.invokevirtual 92, 3) := by decide +kernel
theorem dX6_tellAmongLive_22 : decode cX6_tellAmongLive 22 = .ok (.istore 5, 2) := by decide +kernel
theorem dX6_tellAmongLive_24 : decode cX6_tellAmongLive 24 = .ok (.iconst 0, 1) := by decide +kernel
theorem dX6_tellAmongLive_25 : decode cX6_tellAmongLive 25 = .ok (.istore 6, 2) := by decide +kernel
theorem dX6_tellAmongLive_27 : decode cX6_tellAmongLive 27 = .ok (.iconst 0, 1) := by decide +kernel
theorem dX6_tellAmongLive_28 : decode cX6_tellAmongLive 28 = .ok (.istore 7, 2) := by decide +kernel
theorem dX6_tellAmongLive_30 : decode cX6_tellAmongLive 30 = .ok (.iload 7, 2) := by decide +kernel
theorem dX6_tellAmongLive_32 : decode cX6_tellAmongLive 32 = .ok (.aload_n 0, 1) := by decide +kernel
theorem dX6_tellAmongLive_33 : decode cX6_tellAmongLive 33 = .ok (.getfield 56, 3) := by decide +kernel
theorem dX6_tellAmongLive_36 : decode cX6_tellAmongLive 36 = .ok (.if_icmp .ge 68, 3) := by decide +kernel
theorem dX6_tellAmongLive_39 : decode cX6_tellAmongLive 39 = .ok (.aload_n 0, 1) := by decide +kernel
theorem dX6_tellAmongLive_40 : decode cX6_tellAmongLive 40 = .ok (.getfield 26, 3) := by decide +kernel
theorem dX6_tellAmongLive_43 : decode cX6_tellAmongLive 43 = .ok (.iload 7, 2) := by decide +kernel
theorem dX6_tellAmongLive_45 : decode cX6_tellAmongLive 45 = .ok (.iaload, 1) := by decide +kernel
theorem dX6_tellAmongLive_46 : decode cX6_tellAmongLive 46 = .ok (.istore 8, 2) := by decide +kernel
theorem dX6_tellAmongLive_48 : decode cX6_tellAmongLive 48 = .ok (.iload 5, 2) := by decide +kernel
theorem dX6_tellAmongLive_50 : decode cX6_tellAmongLive 50 = .ok (.iload 6, 2) := by decide +kernel
theorem dX6_tellAmongLive_52 : decode cX6_tellAmongLive 52 = .ok (.iload 8, 2) := by decide +kernel
theorem dX6_tellAmongLive_54 : decode cX6_tellAmongLive 54 = .ok (.iadd, 1) := by decide +kernel
theorem dX6_tellAmongLive_55 : decode cX6_tellAmongLive 55 = .ok (.if_icmp .ge 36, 3) := by decide +kernel
theorem dX6_tellAmongLive_58 : decode cX6_tellAmongLive 58 = .ok (.aload_n 3, 1) := by decide +kernel
theorem dX6_tellAmongLive_59 : decode cX6_tellAmongLive 59 = .ok (.iload 6, 2) := by decide +kernel
theorem dX6_tellAmongLive_61 : decode cX6_tellAmongLive 61 = .ok (.iload 8, 2) := by decide +kernel
theorem dX6_tellAmongLive_63 : decode cX6_tellAmongLive 63 = .ok (.iload 4, 2) := by decide +kernel
theorem dX6_tellAmongLive_65 : decode cX6_tellAmongLive 65 = .ok (.invokevirtual 98, 3) := by decide +kernel
theorem dX6_tellAmongLive_68 : decode cX6_tellAmongLive 68 = .ok (.aload_n 0, 1) := by decide +kernel
theorem dX6_tellAmongLive_69 : decode cX6_tellAmongLive 69 = .ok (.getfield 15, 3) := by decide +kernel
theorem dX6_tellAmongLive_72 : decode cX6_tellAmongLive 72 = .ok (.iload 6, 2) := by decide +kernel
theorem dX6_tellAmongLive_74 : decode cX6_tellAmongLive 74 = .ok (.iload 8, 2) := by decide +kernel
theorem dX6_tellAmongLive_76 : decode cX6_tellAmongLive 76 = .ok (.iload 4, 2) := by decide +kernel
theorem dX6_tellAmongLive_78 : decode cX6_tellAmongLive 78 = .ok (.iload_n 1, 1) := by decide +kernel
theorem dX6_tellAmongLive_79 : decode cX6_tellAmongLive 79 = .ok (.iconst 0, 1) := by decide +kernel
theorem dX6_tellAmongLive_80 : decode cX6_tellAmongLive 80 = .ok (.invokevirtual 102, 3) := by decide +kernel
theorem dX6_tellAmongLive_83 : decode cX6_tellAmongLive 83 = .ok (.aload_n 0, 1) := by decide +kernel
theorem dX6_tellAmongLive_84 : decode cX6_tellAmongLive 84 = .ok (.getfield 23, 3) := by decide +kernel
theorem dX6_tellAmongLive_87 : decode cX6_tellAmongLive 87 = .ok (.iload 7, 2) := by decide +kernel
theorem dX6_tellAmongLive_89 : decode cX6_tellAmongLive 89 = .ok (.iaload, 1) := by decide +kernel
theorem dX6_tellAmongLive_90 : decode cX6_tellAmongLive 90 = .ok (.ireturn, 1) := by decide +kernel
theorem dX6_tellAmongLive_91 : decode cX6_tellAmongLive 91 = .ok (.iload 6, 2) := by decide +kernel
theorem dX6_tellAmongLive_93 : decode cX6_tellAmongLive 93 = .ok (.iload 8, 2) := by decide +kernel
theorem dX6_tellAmongLive_95 : decode cX6_tellAmongLive 95 = .ok (.iadd, 1) := by decide +kernel
theorem dX6_tellAmongLive_96 : decode cX6_tellAmongLive 96 = .ok (.istore 6, 2) := by decide +kernel
theorem dX6_tellAmongLive_98 : decode cX6_tellAmongLive 98 = .ok (.iinc 7 1, 3) := by decide +kernel
theorem dX6_tellAmongLive_101 : decode cX6_tellAmongLive 101 = .ok (.goto (-71), 3) := by decide +kernel
theorem dX6_tellAmongLive_104 : decode cX6_tellAmongLive 104 = .ok (.aload_n 3, 1) := by decide +kernel
theorem dX6_tellAmongLive_105 : decode cX6_tellAmongLive 105 = .ok (.aload_n 0, 1) := by decide +kernel
theorem dX6_tellAmongLive_106 : decode cX6_tellAmongLive 106 = .ok (.getfield 67, 3) := by decide +kernel
theorem dX6_tellAmongLive_109 : decode cX6_tellAmongLive 109 = .ok (.aload_n 0, 1) := by decide +kernel
theorem dX6_tellAmongLive_110 : decode cX6_tellAmongLive 110 = .ok (.getfield 56, 3) := by decide +kernel
theorem dX6_tellAmongLive_113 : decode cX6_tellAmongLive 113 = .ok (.iload 4, 2) := by decide +kernel
theorem dX6_tellAmongLive_115 : decode cX6_tellAmongLive 115 = .ok (.invokevirtual 98, 3) := by decide +kernel
theorem dX6_tellAmongLive_118 : decode cX6_tellAmongLive 118 = .ok (.aload_n 0, 1) := by decide +kernel
theorem dX6_tellAmongLive_119 : decode cX6_tellAmongLive 119 = .ok (.getfield 15, 3) := by decide +kernel
theorem dX6_tellAmongLive_122 : decode cX6_tellAmongLive 122 = .ok (.aload_n 0, 1) := by decide +kernel
theorem dX6_tellAmongLive_123 : decode cX6_tellAmongLive 123 = .ok (.getfield 67, 3) := by decide +kernel
theorem dX6_tellAmongLive_126 : decode cX6_tellAmongLive 126 = .ok (.aload_n 0, 1) := by decide +kernel
theorem dX6_tellAmongLive_127 : decode cX6_tellAmongLive 127 = .ok (.getfield 56, 3) := by decide +kernel
theorem dX6_tellAmongLive_130 : decode cX6_tellAmongLive 130 = .ok (.iload 4, 2) := by decide +kernel
theorem dX6_tellAmongLive_132 : decode cX6_tellAmongLive 132 = .ok (.iload_n 1, 1) := by decide +kernel
theorem dX6_tellAmongLive_133 : decode cX6_tellAmongLive 133 = .ok (.iconst 1, 1) := by decide +kernel
theorem dX6_tellAmongLive_134 : decode cX6_tellAmongLive 134 = .ok (.invokevirtual 102, 3) := by decide +kernel
theorem dX6_tellAmongLive_137 : decode cX6_tellAmongLive 137 = .ok (.aload_n 0, 1) := by decide +kernel
theorem dX6_tellAmongLive_138 : decode cX6_tellAmongLive 138 = .ok (.invokevirtual 108, 3) := by decide +kernel
theorem dX6_tellAmongLive_141 : decode cX6_tellAmongLive 141 = .ok (.iconst (-1), 1) := by decide +kernel
theorem dX6_tellAmongLive_142 : decode cX6_tellAmongLive 142 = .ok (.ireturn, 1) := by decide +kernel
theorem dX6_liveBeginOf_0 : decode cX6_liveBeginOf 0 = .ok (.iconst 0, 1) := by decide +kernel
theorem dX6_liveBeginOf_1 : decode cX6_liveBeginOf 1 = .ok (.istore_n 2, 1) := by decide +kernel
theorem dX6_liveBeginOf_2 : decode cX6_liveBeginOf 2 = .ok (.iconst 0, 1) := by decide +kernel
theorem dX6_liveBeginOf_3 : decode cX6_liveBeginOf 3 = .ok (.istore_n 3, 1) := by decide +kernel
theorem dX6_liveBeginOf_4 : decode cX6_liveBeginOf 4 = .ok (.iload_n 3, 1) := by decide +kernel
theorem dX6_liveBeginOf_5 : decode cX6_liveBeginOf 5 = .ok (.aload_n 0, 1) := by decide +kernel
theorem dX6_liveBeginOf_6 : decode cX6_liveBeginOf 6 = .ok (.getfield 56, 3) := by decide +kernel
theorem dX6_liveBeginOf_9 : decode cX6_liveBeginOf 9 = .ok (.if_icmp .ge 30, 3) := by decide +kernel
theorem dX6_liveBeginOf_12 : decode cX6_liveBeginOf 12 = .ok (.aload_n 0, 1) := by decide +kernel
theorem dX6_liveBeginOf_13 : decode cX6_liveBeginOf 13 = .ok (.getfield 23, 3) := by decide +kernel
theorem dX6_liveBeginOf_16 : decode cX6_liveBeginOf 16 = .ok (.iload_n 3, 1) := by decide +kernel
theorem dX6_liveBeginOf_17 : decode cX6_liveBeginOf 17 = .ok (.iaload, 1) := by decide +kernel
theorem dX6_liveBeginOf_18 : decode cX6_liveBeginOf 18 = .ok (.iload_n 1, 1) := by decide +kernel
theorem dX6_liveBeginOf_19 : decode cX6_liveBeginOf 19 = .ok (.if_icmp .ne 5, 3) := by decide +kernel
theorem dX6_liveBeginOf_22 : decode cX6_liveBeginOf 22 = .ok (.iload_n 2, 1) := by decide +kernel
theorem dX6_liveBeginOf_23 : decode cX6_liveBeginOf 23 = .ok (.ireturn, 1) := by decide +kernel
theorem dX6_liveBeginOf_24 : decode cX6_liveBeginOf 24 = .ok (.iload_n 2, 1) := by decide +kernel
theorem dX6_liveBeginOf_25 : decode cX6_liveBeginOf 25 = .ok (.aload_n 0, 1) := by decide +kernel
theorem dX6_liveBeginOf_26 : decode cX6_liveBeginOf 26 = .ok (.getfield 26, 3) := by decide +kernel
theorem dX6_liveBeginOf_29 : decode cX6_liveBeginOf 29 = .ok (.iload_n 3, 1) := by decide +kernel
theorem dX6_liveBeginOf_30 : decode cX6_liveBeginOf 30 = .ok (.iaload, 1) := by decide +kernel
theorem dX6_liveBeginOf_31 : decode cX6_liveBeginOf 31 = .ok (.iadd, 1) := by decide +kernel
theorem dX6_liveBeginOf_32 : decode cX6_liveBeginOf 32 = .ok (.istore_n 2, 1) := by decide +kernel
theorem dX6_liveBeginOf_33 : decode cX6_liveBeginOf 33 = .ok (.iinc 3 1, 3) := by decide +kernel
theorem dX6_liveBeginOf_36 : decode cX6_liveBeginOf 36 = .ok (.goto (-32), 3) := by decide +kernel
theorem dX6_liveBeginOf_39 : decode cX6_liveBeginOf 39 = .ok (.iload_n 2, 1) := by decide +kernel
theorem dX6_liveBeginOf_40 : decode cX6_liveBeginOf 40 = .ok (.ireturn, 1) := by decide +kernel
theorem dX6_putLiveOut_0 : decode cX6_putLiveOut 0 = .ok (.iconst 0, 1) := by decide +kernel
theorem dX6_putLiveOut_1 : decode cX6_putLiveOut 1 = .ok (.istore_n 1, 1) := by decide +kernel
theorem dX6_putLiveOut_2 : decode cX6_putLiveOut 2 = .ok (.iload_n 1, 1) := by decide +kernel
theorem dX6_putLiveOut_3 : decode cX6_putLiveOut 3 = .ok (.aload_n 0, 1) := by decide +kernel
theorem dX6_putLiveOut_4 : decode cX6_putLiveOut 4 = .ok (.getfield 56, 3) := by decide +kernel
theorem dX6_putLiveOut_7 : decode cX6_putLiveOut 7 = .ok (.if_icmp .ge 36, 3) := by decide +kernel
theorem dX6_putLiveOut_10 : decode cX6_putLiveOut 10 = .ok (.aload_n 0, 1) := by decide +kernel
theorem dX6_putLiveOut_11 : decode cX6_putLiveOut 11 = .ok (.getfield 23, 3) := by decide +kernel
theorem dX6_putLiveOut_14 : decode cX6_putLiveOut 14 = .ok (.iload_n 1, 1) := by decide +kernel
theorem dX6_putLiveOut_15 : decode cX6_putLiveOut 15 = .ok (.iaload, 1) := by decide +kernel
theorem dX6_putLiveOut_16 : decode cX6_putLiveOut 16 = .ok (.invokestatic 111, 3) := by decide +kernel
theorem dX6_putLiveOut_19 : decode cX6_putLiveOut 19 = .ok (.ifCond .eq 18, 3) := by decide +kernel
theorem dX6_putLiveOut_22 : decode cX6_putLiveOut 22 = .ok (.aload_n 0, 1) := by decide +kernel
theorem dX6_putLiveOut_23 : decode cX6_putLiveOut 23 = .ok (.getfield 19, 3) := by decide +kernel
theorem dX6_putLiveOut_26 : decode cX6_putLiveOut 26 = .ok (.aload_n 0, 1) := by decide +kernel
theorem dX6_putLiveOut_27 : decode cX6_putLiveOut 27 = .ok (.getfield 23, 3) := by decide +kernel
theorem dX6_putLiveOut_30 : decode cX6_putLiveOut 30 = .ok (.iload_n 1, 1) := by decide +kernel
theorem dX6_putLiveOut_31 : decode cX6_putLiveOut 31 = .ok (.iaload, 1) := by decide +kernel
theorem dX6_putLiveOut_32 : decode cX6_putLiveOut 32 = .ok (.aload_n 0, 1) := by decide +kernel
theorem dX6_putLiveOut_33 : decode cX6_putLiveOut 33 = .ok (.getfield 33, 3) := by decide +kernel
theorem dX6_putLiveOut_36 : decode cX6_putLiveOut 36 = .ok (.iastore, 1) := by decide +kernel
theorem dX6_putLiveOut_37 : decode cX6_putLiveOut 37 = .ok (.iinc 1 1, 3) := by decide +kernel
theorem dX6_putLiveOut_40 : decode cX6_putLiveOut 40 = .ok (.goto (-38), 3) := by decide +kernel
theorem dX6_putLiveOut_43 : decode cX6_putLiveOut 43 = .ok (.aload_n 0, 1) := by decide +kernel
theorem dX6_putLiveOut_44 : decode cX6_putLiveOut 44 = .ok (.dup, 1) := by decide +kernel
theorem dX6_putLiveOut_45 : decode cX6_putLiveOut 45 = .ok (.getfield 36, 3) := by decide +kernel
theorem dX6_putLiveOut_48 : decode cX6_putLiveOut 48 = .ok (.aload_n 0, 1) := by decide +kernel
theorem dX6_putLiveOut_49 : decode cX6_putLiveOut 49 = .ok (.getfield 56, 3) := by decide +kernel
theorem dX6_putLiveOut_52 : decode cX6_putLiveOut 52 = .ok (.iadd, 1) := by decide +kernel
theorem dX6_putLiveOut_53 : decode cX6_putLiveOut 53 = .ok (.putfield 36, 3) := by decide +kernel
theorem dX6_putLiveOut_56 : decode cX6_putLiveOut 56 = .ok (.return_, 1) := by decide +kernel
theorem dX6_isOut_0 : decode cX6_isOut 0 = .ok (.iload_n 1, 1) := by decide +kernel
theorem dX6_isOut_1 : decode cX6_isOut 1 = .ok (.invokestatic 111, 3) := by decide +kernel
theorem dX6_isOut_4 : decode cX6_isOut 4 = .ok (.ifCond .eq 20, 3) := by decide +kernel
theorem dX6_isOut_7 : decode cX6_isOut 7 = .ok (.aload_n 0, 1) := by decide +kernel
theorem dX6_isOut_8 : decode cX6_isOut 8 = .ok (.getfield 19, 3) := by decide +kernel
theorem dX6_isOut_11 : decode cX6_isOut 11 = .ok (.iload_n 1, 1) := by decide +kernel
theorem dX6_isOut_12 : decode cX6_isOut 12 = .ok (.iaload, 1) := by decide +kernel
theorem dX6_isOut_13 : decode cX6_isOut 13 = .ok (.aload_n 0, 1) := by decide +kernel
theorem dX6_isOut_14 : decode cX6_isOut 14 = .ok (.getfield 33, 3) := by decide +kernel
theorem dX6_isOut_17 : decode cX6_isOut 17 = .ok (.if_icmp .ne 7, 3) := by decide +kernel
theorem dX6_isOut_20 : decode cX6_isOut 20 = .ok (.iconst 1, 1) := by decide +kernel
theorem dX6_isOut_21 : decode cX6_isOut 21 = .ok (.goto 4, 3) := by decide +kernel
theorem dX6_isOut_24 : decode cX6_isOut 24 = .ok (.iconst 0, 1) := by decide +kernel
theorem dX6_isOut_25 : decode cX6_isOut 25 = .ok (.ireturn, 1) := by decide +kernel
theorem dX6_tellPlainly_0 : decode cX6_tellPlainly 0 = .ok (.sipush 257, 3) := by decide +kernel
theorem dX6_tellPlainly_3 : decode cX6_tellPlainly 3 = .ok (.aload_n 0, 1) := by decide +kernel
theorem dX6_tellPlainly_4 : decode cX6_tellPlainly 4 = .ok (.getfield 36, 3) := by decide +kernel
theorem dX6_tellPlainly_7 : decode cX6_tellPlainly 7 = .ok (.isub, 1) := by decide +kernel
theorem dX6_tellPlainly_8 : decode cX6_tellPlainly 8 = .ok (.istore_n 3, 1) := by decide +kernel
theorem dX6_tellPlainly_9 : decode cX6_tellPlainly 9 = .ok (.aload_n 2, 1) := by decide +kernel
theorem dX6_tellPlainly_10 : decode cX6_tellPlainly 10 = .ok (.iload_n 3, 1) := by decide +kernel
theorem dX6_tellPlainly_11 : decode cX6_tellPlainly 11 = .ok (.aload_n 0, 1) := by decide +kernel
theorem dX6_tellPlainly_12 : decode cX6_tellPlainly 12 = .ok (.iload_n 1, 1) := by decide +kernel
theorem dX6_tellPlainly_13 : decode cX6_tellPlainly 13 = .ok (.invokevirtual 114, 3) := by decide +kernel
theorem dX6_tellPlainly_16 : decode cX6_tellPlainly 16 = .ok (.invokevirtual 92, 3) := by decide +kernel
theorem dX6_tellPlainly_19 : decode cX6_tellPlainly 19 = .ok (.istore 4, 2) := by decide +kernel
theorem dX6_tellPlainly_21 : decode cX6_tellPlainly 21 = .ok (.aload_n 2, 1) := by decide +kernel
theorem dX6_tellPlainly_22 : decode cX6_tellPlainly 22 = .ok (.iload 4, 2) := by decide +kernel
theorem dX6_tellPlainly_24 : decode cX6_tellPlainly 24 = .ok (.iconst 1, 1) := by decide +kernel
theorem dX6_tellPlainly_25 : decode cX6_tellPlainly 25 = .ok (.iload_n 3, 1) := by decide +kernel
theorem dX6_tellPlainly_26 : decode cX6_tellPlainly 26 = .ok (.invokevirtual 98, 3) := by decide +kernel
theorem dX6_tellPlainly_29 : decode cX6_tellPlainly 29 = .ok (.aload_n 0, 1) := by decide +kernel
theorem dX6_tellPlainly_30 : decode cX6_tellPlainly 30 = .ok (.getfield 15, 3) := by decide +kernel
theorem dX6_tellPlainly_33 : decode cX6_tellPlainly 33 = .ok (.iload 4, 2) := by decide +kernel
theorem dX6_tellPlainly_35 : decode cX6_tellPlainly 35 = .ok (.iconst 1, 1) := by decide +kernel
theorem dX6_tellPlainly_36 : decode cX6_tellPlainly 36 = .ok (.iload_n 3, 1) := by decide +kernel
theorem dX6_tellPlainly_37 : decode cX6_tellPlainly 37 = .ok (.iconst (-1), 1) := by decide +kernel
theorem dX6_tellPlainly_38 : decode cX6_tellPlainly 38 = .ok (.iconst 0, 1) := by decide +kernel
theorem dX6_tellPlainly_39 : decode cX6_tellPlainly 39 = .ok (.invokevirtual 102, 3) := by decide +kernel
theorem dX6_tellPlainly_42 : decode cX6_tellPlainly 42 = .ok (.aload_n 0, 1) := by decide +kernel
theorem dX6_tellPlainly_43 : decode cX6_tellPlainly 43 = .ok (.iload 4, 2) := by decide +kernel
theorem dX6_tellPlainly_45 : decode cX6_tellPlainly 45 = .ok (.invokevirtual 117, 3) := by decide +kernel
theorem dX6_tellPlainly_48 : decode cX6_tellPlainly 48 = .ok (.ireturn, 1) := by decide +kernel
theorem dX6_plainBeginOf_0 : decode cX6_plainBeginOf 0 = .ok (.iconst 0, 1) := by decide +kernel
theorem dX6_plainBeginOf_1 : decode cX6_plainBeginOf 1 = .ok (.istore_n 2, 1) := by decide +kernel
theorem dX6_plainBeginOf_2 : decode cX6_plainBeginOf 2 = .ok (.iconst 0, 1) := by decide +kernel
theorem dX6_plainBeginOf_3 : decode cX6_plainBeginOf 3 = .ok (.istore_n 3, 1) := by decide +kernel
theorem dX6_plainBeginOf_4 : decode cX6_plainBeginOf 4 = .ok (.iload_n 3, 1) := by decide +kernel
theorem dX6_plainBeginOf_5 : decode cX6_plainBeginOf 5 = .ok (.iload_n 1, 1) := by decide +kernel
theorem dX6_plainBeginOf_6 : decode cX6_plainBeginOf 6 = .ok (.if_icmp .ge 27, 3) := by decide +kernel
theorem dX6_plainBeginOf_9 : decode cX6_plainBeginOf 9 = .ok (.iload_n 3, 1) := by decide +kernel
theorem dX6_plainBeginOf_10 : decode cX6_plainBeginOf 10 = .ok (.sipush 256, 3) := by decide +kernel
theorem dX6_plainBeginOf_13 : decode cX6_plainBeginOf 13 = .ok (.if_icmp .ge 20, 3) := by decide +kernel
theorem dX6_plainBeginOf_16 : decode cX6_plainBeginOf 16 = .ok (.aload_n 0, 1) := by decide +kernel
theorem dX6_plainBeginOf_17 : decode cX6_plainBeginOf 17 = .ok (.iload_n 3, 1) := by decide +kernel
theorem dX6_plainBeginOf_18 : decode cX6_plainBeginOf 18 = .ok (.invokevirtual 79, 3) := by decide +kernel
theorem dX6_plainBeginOf_21 : decode cX6_plainBeginOf 21 = .ok (.ifCond .ne 6, 3) := by decide +kernel
theorem dX6_plainBeginOf_24 : decode cX6_plainBeginOf 24 = .ok (.iinc 2 1, 3) := by decide +kernel
theorem dX6_plainBeginOf_27 : decode cX6_plainBeginOf 27 = .ok (.iinc 3 1, 3) := by decide +kernel
theorem dX6_plainBeginOf_30 : decode cX6_plainBeginOf 30 = .ok (.goto (-26), 3) := by decide +kernel
theorem dX6_plainBeginOf_33 : decode cX6_plainBeginOf 33 = .ok (.iload_n 2, 1) := by decide +kernel
theorem dX6_plainBeginOf_34 : decode cX6_plainBeginOf 34 = .ok (.ireturn, 1) := by decide +kernel
theorem dX6_plainSymbolAt_0 : decode cX6_plainSymbolAt 0 = .ok (.iconst 0, 1) := by decide +kernel
theorem dX6_plainSymbolAt_1 : decode cX6_plainSymbolAt 1 = .ok (.istore_n 2, 1) := by decide +kernel
theorem dX6_plainSymbolAt_2 : decode cX6_plainSymbolAt 2 = .ok (.iconst 0, 1) := by decide +kernel
theorem dX6_plainSymbolAt_3 : decode cX6_plainSymbolAt 3 = .ok (.istore_n 3, 1) := by decide +kernel
theorem dX6_plainSymbolAt_4 : decode cX6_plainSymbolAt 4 = .ok (.iload_n 3, 1) := by decide +kernel
theorem dX6_plainSymbolAt_5 : decode cX6_plainSymbolAt 5 = .ok (.sipush 256, 3) := by decide +kernel
theorem dX6_plainSymbolAt_8 : decode cX6_plainSymbolAt 8 = .ok (.if_icmp .ge 27, 3) := by decide +kernel
theorem dX6_plainSymbolAt_11 : decode cX6_plainSymbolAt 11 = .ok (.aload_n 0, 1) := by decide +kernel
theorem dX6_plainSymbolAt_12 : decode cX6_plainSymbolAt 12 = .ok (.iload_n 3, 1) := by decide +kernel
theorem dX6_plainSymbolAt_13 : decode cX6_plainSymbolAt 13 = .ok (.invokevirtual 79, 3) := by decide +kernel
theorem dX6_plainSymbolAt_16 : decode cX6_plainSymbolAt 16 = .ok (.ifCond .ne 13, 3) := by decide +kernel
theorem dX6_plainSymbolAt_19 : decode cX6_plainSymbolAt 19 = .ok (.iload_n 2, 1) := by decide +kernel
theorem dX6_plainSymbolAt_20 : decode cX6_plainSymbolAt 20 = .ok (.iload_n 1, 1) := by decide +kernel
theorem dX6_plainSymbolAt_21 : decode cX6_plainSymbolAt 21 = .ok (.if_icmp .ne 5, 3) := by decide +kernel
theorem dX6_plainSymbolAt_24 : decode cX6_plainSymbolAt 24 = .ok (.iload_n 3, 1) := by decide +kernel
theorem dX6_plainSymbolAt_25 : decode cX6_plainSymbolAt 25 = .ok (.ireturn, 1) := by decide +kernel
theorem dX6_plainSymbolAt_26 : decode cX6_plainSymbolAt 26 = .ok (.iinc 2 1, 3) := by decide +kernel
theorem dX6_plainSymbolAt_29 : decode cX6_plainSymbolAt 29 = .ok (.iinc 3 1, 3) := by decide +kernel
theorem dX6_plainSymbolAt_32 : decode cX6_plainSymbolAt 32 = .ok (.goto (-28), 3) := by decide +kernel
theorem dX6_plainSymbolAt_35 : decode cX6_plainSymbolAt 35 = .ok (.sipush 256, 3) := by decide +kernel
theorem dX6_plainSymbolAt_38 : decode cX6_plainSymbolAt 38 = .ok (.ireturn, 1) := by decide +kernel
theorem dX7_init_0 : decode cX7_init 0 = .ok (.aload_n 0, 1) := by decide +kernel
theorem dX7_init_1 : decode cX7_init 1 = .ok (.invokespecial 1, 3) := by decide +kernel
theorem dX7_init_4 : decode cX7_init 4 = .ok (.aload_n 0, 1) := by decide +kernel
theorem dX7_init_5 : decode cX7_init 5 = .ok (.new 7, 3) := by decide +kernel
theorem dX7_init_8 : decode cX7_init 8 = .ok (.dup, 1) := by decide +kernel
theorem dX7_init_9 : decode cX7_init 9 = .ok (.sipush 4000, 3) := by decide +kernel
theorem dX7_init_12 : decode cX7_init 12 = .ok (.invokespecial 11, 3) := by decide +kernel
theorem dX7_init_15 : decode cX7_init 15 = .ok (.putfield 14, 3) := by decide +kernel
theorem dX7_init_18 : decode cX7_init 18 = .ok (.aload_n 0, 1) := by decide +kernel
theorem dX7_init_19 : decode cX7_init 19 = .ok (.new 7, 3) := by decide +kernel
theorem dX7_init_22 : decode cX7_init 22 = .ok (.dup, 1) := by decide +kernel
theorem dX7_init_23 : decode cX7_init 23 = .ok (.sipush 8000, 3) := by decide +kernel
theorem dX7_init_26 : decode cX7_init 26 = .ok (.invokespecial 11, 3) := by decide +kernel
theorem dX7_init_29 : decode cX7_init 29 = .ok (.putfield 18, 3) := by decide +kernel
theorem dX7_init_32 : decode cX7_init 32 = .ok (.aload_n 0, 1) := by decide +kernel
theorem dX7_init_33 : decode cX7_init 33 = .ok (.new 7, 3) := by decide +kernel
theorem dX7_init_36 : decode cX7_init 36 = .ok (.dup, 1) := by decide +kernel
theorem dX7_init_37 : decode cX7_init 37 = .ok (.sipush 4000, 3) := by decide +kernel
theorem dX7_init_40 : decode cX7_init 40 = .ok (.invokespecial 11, 3) := by decide +kernel
theorem dX7_init_43 : decode cX7_init 43 = .ok (.putfield 21, 3) := by decide +kernel
theorem dX7_init_46 : decode cX7_init 46 = .ok (.aload_n 0, 1) := by decide +kernel
theorem dX7_init_47 : decode cX7_init 47 = .ok (.new 24, 3) := by decide +kernel
theorem dX7_init_50 : decode cX7_init 50 = .ok (.dup, 1) := by decide +kernel
theorem dX7_init_51 : decode cX7_init 51 = .ok (.invokespecial 26, 3) := by decide +kernel
theorem dX7_init_54 : decode cX7_init 54 = .ok (.putfield 27, 3) := by decide +kernel
theorem dX7_init_57 : decode cX7_init 57 = .ok (.aload_n 0, 1) := by decide +kernel
theorem dX7_init_58 : decode cX7_init 58 = .ok (.new 31, 3) := by decide +kernel
theorem dX7_init_61 : decode cX7_init 61 = .ok (.dup, 1) := by decide +kernel
theorem dX7_init_62 : decode cX7_init 62 = .ok (.sipush 2000, 3) := by decide +kernel
theorem dX7_init_65 : decode cX7_init 65 = .ok (.invokespecial 33, 3) := by decide +kernel
theorem dX7_init_68 : decode cX7_init 68 = .ok (.putfield 34, 3) := by decide +kernel
theorem dX7_init_71 : decode cX7_init 71 = .ok (.aload_n 0, 1) := by decide +kernel
theorem dX7_init_72 : decode cX7_init 72 = .ok (.new 38, 3) := by decide +kernel
theorem dX7_init_75 : decode cX7_init 75 = .ok (.dup, 1) := by decide +kernel
theorem dX7_init_76 : decode cX7_init 76 = .ok (.aload_n 0, 1) := by decide +kernel
theorem dX7_init_77 : decode cX7_init 77 = .ok (.getfield 34, 3) := by decide +kernel
theorem dX7_init_80 : decode cX7_init 80 = .ok (.aload_n 0, 1) := by decide +kernel
theorem dX7_init_81 : decode cX7_init 81 = .ok (.getfield 27, 3) := by decide +kernel
theorem dX7_init_84 : decode cX7_init 84 = .ok (.invokespecial 40, 3) := by decide +kernel
theorem dX7_init_87 : decode cX7_init 87 = .ok (.putfield 43, 3) := by decide +kernel
theorem dX7_init_90 : decode cX7_init 90 = .ok (.aload_n 0, 1) := by decide +kernel
theorem dX7_init_91 : decode cX7_init 91 = .ok (.new 47, 3) := by decide +kernel
theorem dX7_init_94 : decode cX7_init 94 = .ok (.dup, 1) := by decide +kernel
theorem dX7_init_95 : decode cX7_init 95 = .ok (.aload_n 0, 1) := by decide +kernel
theorem dX7_init_96 : decode cX7_init 96 = .ok (.getfield 18, 3) := by decide +kernel
theorem dX7_init_99 : decode cX7_init 99 = .ok (.invokespecial 49, 3) := by decide +kernel
theorem dX7_init_102 : decode cX7_init 102 = .ok (.putfield 52, 3) := by decide +kernel
theorem dX7_init_105 : decode cX7_init 105 = .ok (.aload_n 0, 1) := by decide +kernel
theorem dX7_init_106 : decode cX7_init 106 = .ok (.new 56, 3) := by decide +kernel
theorem dX7_init_109 : decode cX7_init 109 = .ok (.dup, 1) := by decide +kernel
theorem dX7_init_110 : decode cX7_init 110 = .ok (.aload_n 0, 1) := by decide +kernel
theorem dX7_init_111 : decode cX7_init 111 = .ok (.getfield 18, 3) := by decide +kernel
theorem dX7_init_114 : decode cX7_init 114 = .ok (.invokespecial 58, 3) := by decide +kernel
theorem dX7_init_117 : decode cX7_init 117 = .ok (.putfield 59, 3) := by decide +kernel
theorem dX7_init_120 : decode cX7_init 120 = .ok (.return_, 1) := by decide +kernel
theorem dX7_begin_0 : decode cX7_begin 0 = .ok (.iload_n 1, 1) := by decide +kernel
theorem dX7_begin_1 : decode cX7_begin 1 = .ok (.iconst 4, 1) := by decide +kernel
theorem dX7_begin_2 : decode cX7_begin 2 = .ok (.if_icmp .lt 10, 3) := by decide +kernel
theorem dX7_begin_5 : decode cX7_begin 5 = .ok (.iload_n 1, 1) := by decide +kernel
theorem dX7_begin_6 : decode cX7_begin 6 = .ok (.sipush 6000, 3) := by decide +kernel
theorem dX7_begin_9 : decode cX7_begin 9 = .ok (.if_icmp .le 5, 3) := by decide +kernel
theorem dX7_begin_12 : decode cX7_begin 12 = .ok (.iconst 0, 1) := by decide +kernel
theorem dX7_begin_13 : decode cX7_begin 13 = .ok (.ireturn, 1) := by decide +kernel
theorem dX7_begin_14 : decode cX7_begin 14 = .ok (.aload_n 0, 1) := by decide +kernel
theorem dX7_begin_15 : decode cX7_begin 15 = .ok (.getfield 14, 3) := by decide +kernel
theorem dX7_begin_18 : decode cX7_begin 18 = .ok (.invokevirtual 63, 3) := by decide +kernel
theorem dX7_begin_21 : decode cX7_begin 21 = .ok (.aload_n 0, 1) := by decide +kernel
theorem dX7_begin_22 : decode cX7_begin 22 = .ok (.getfield 18, 3) := by decide +kernel
theorem dX7_begin_25 : decode cX7_begin 25 = .ok (.invokevirtual 63, 3) := by decide +kernel
theorem dX7_begin_28 : decode cX7_begin 28 = .ok (.aload_n 0, 1) := by decide +kernel
theorem dX7_begin_29 : decode cX7_begin 29 = .ok (.getfield 21, 3) := by decide +kernel
theorem dX7_begin_32 : decode cX7_begin 32 = .ok (.invokevirtual 63, 3) := by decide +kernel
theorem dX7_begin_35 : decode cX7_begin 35 = .ok (.aload_n 0, 1) := by decide +kernel
theorem dX7_begin_36 : decode cX7_begin 36 = .ok (.getfield 27, 3) := by decide +kernel
theorem dX7_begin_39 : decode cX7_begin 39 = .ok (.invokevirtual 66, 3) := by decide +kernel
theorem dX7_begin_42 : decode cX7_begin 42 = .ok (.aload_n 0, 1) := by decide +kernel
theorem dX7_begin_43 : decode cX7_begin 43 = .ok (.getfield 34, 3) := by decide +kernel
theorem dX7_begin_46 : decode cX7_begin 46 = .ok (.invokevirtual 67, 3) := by decide +kernel
theorem dX7_begin_49 : decode cX7_begin 49 = .ok (.aload_n 0, 1) := by decide +kernel
theorem dX7_begin_50 : decode cX7_begin 50 = .ok (.getfield 34, 3) := by decide +kernel
theorem dX7_begin_53 : decode cX7_begin 53 = .ok (.iload_n 1, 1) := by decide +kernel
theorem dX7_begin_54 : decode cX7_begin 54 = .ok (.invokevirtual 70, 3) := by decide +kernel
theorem dX7_begin_57 : decode cX7_begin 57 = .ok (.aload_n 0, 1) := by decide +kernel
theorem dX7_begin_58 : decode cX7_begin 58 = .ok (.lconst 0, 1) := by decide +kernel
theorem dX7_begin_59 : decode cX7_begin 59 = .ok (.putfield 73, 3) := by decide +kernel
theorem dX7_begin_62 : decode cX7_begin 62 = .ok (.aload_n 0, 1) := by decide +kernel
theorem dX7_begin_63 : decode cX7_begin 63 = .ok (.lconst 0, 1) := by decide +kernel
theorem dX7_begin_64 : decode cX7_begin 64 = .ok (.putfield 77, 3) := by decide +kernel
theorem dX7_begin_67 : decode cX7_begin 67 = .ok (.iconst 1, 1) := by decide +kernel
theorem dX7_begin_68 : decode cX7_begin 68 = .ok (.ireturn, 1) := by decide +kernel
theorem dX7_feed_0 : decode cX7_feed 0 = .ok (.aload_n 0, 1) := by decide +kernel
theorem dX7_feed_1 : decode cX7_feed 1 = .ok (.getfield 14, 3) := by decide +kernel
theorem dX7_feed_4 : decode cX7_feed 4 = .ok (.iload_n 1, 1) := by decide +kernel
theorem dX7_feed_5 : decode cX7_feed 5 = .ok (.invokevirtual 80, 3) := by decide +kernel
theorem dX7_feed_8 : decode cX7_feed 8 = .ok (.ireturn, 1) := by decide +kernel
theorem dX7_cut_0 : decode cX7_cut 0 = .ok (.aload_n 0, 1) := by decide +kernel
theorem dX7_cut_1 : decode cX7_cut 1 = .ok (.getfield 14, 3) := by decide +kernel
theorem dX7_cut_4 : decode cX7_cut 4 = .ok (.iload_n 1, 1) := by decide +kernel
theorem dX7_cut_5 : decode cX7_cut 5 = .ok (.invokevirtual 84, 3) := by decide +kernel
theorem dX7_cut_8 : decode cX7_cut 8 = .ok (.ireturn, 1) := by decide +kernel
theorem dX7_encode_0 : decode cX7_encode 0 = .ok (.aload_n 0, 1) := by decide +kernel
theorem dX7_encode_1 : decode cX7_encode 1 = .ok (.getfield 27, 3) := by decide +kernel
theorem dX7_encode_4 : decode cX7_encode 4 = .ok (.invokevirtual 66, 3) := by decide +kernel
theorem dX7_encode_7 : decode cX7_encode 7 = .ok (.aload_n 0, 1) := by decide +kernel
theorem dX7_encode_8 : decode cX7_encode 8 = .ok (.getfield 34, 3) := by decide +kernel
theorem dX7_encode_11 : decode cX7_encode 11 = .ok (.invokevirtual 67, 3) := by decide +kernel
theorem dX7_encode_14 : decode cX7_encode 14 = .ok (.aload_n 0, 1) := by decide +kernel
theorem dX7_encode_15 : decode cX7_encode 15 = .ok (.getfield 52, 3) := by decide +kernel
theorem dX7_encode_18 : decode cX7_encode 18 = .ok (.invokevirtual 87, 3) := by decide +kernel
theorem dX7_encode_21 : decode cX7_encode 21 = .ok (.iconst 0, 1) := by decide +kernel
theorem dX7_encode_22 : decode cX7_encode 22 = .ok (.istore_n 1, 1) := by decide +kernel
theorem dX7_encode_23 : decode cX7_encode 23 = .ok (.iload_n 1, 1) := by decide +kernel
theorem dX7_encode_24 : decode cX7_encode 24 = .ok (.aload_n 0, 1) := by decide +kernel
theorem dX7_encode_25 : decode cX7_encode 25 = .ok (.getfield 14, 3) := by decide +kernel
theorem dX7_encode_28 : decode cX7_encode 28 = .ok (.invokevirtual 88, 3) := by decide +kernel
theorem dX7_encode_31 : decode cX7_encode 31 = .ok (.if_icmp .ge 46, 3) := by decide +kernel
theorem dX7_encode_34 : decode cX7_encode 34 = .ok (.aload_n 0, 1) := by decide +kernel
theorem dX7_encode_35 : decode cX7_encode 35 = .ok (.getfield 14, 3) := by decide +kernel
theorem dX7_encode_38 : decode cX7_encode 38 = .ok (.iload_n 1, 1) := by decide +kernel
theorem dX7_encode_39 : decode cX7_encode 39 = .ok (.invokevirtual 92, 3) := by decide +kernel
theorem dX7_encode_42 : decode cX7_encode 42 = .ok (.istore_n 2, 1) := by decide +kernel
theorem dX7_encode_43 : decode cX7_encode 43 = .ok (.aload_n 0, 1) := by decide +kernel
theorem dX7_encode_44 : decode cX7_encode 44 = .ok (.getfield 43, 3) := by decide +kernel
theorem dX7_encode_47 : decode cX7_encode 47 = .ok (.iload_n 2, 1) := by decide +kernel
theorem dX7_encode_48 : decode cX7_encode 48 = .ok (.aload_n 0, 1) := by decide +kernel
theorem dX7_encode_49 : decode cX7_encode 49 = .ok (.getfield 52, 3) := by decide +kernel
theorem dX7_encode_52 : decode cX7_encode 52 = .ok (.invokevirtual 96, 3) := by decide +kernel
theorem dX7_encode_55 : decode cX7_encode 55 = .ok (.pop, 1) := by decide +kernel
theorem dX7_encode_56 : decode cX7_encode 56 = .ok (.aload_n 0, 1) := by decide +kernel
theorem dX7_encode_57 : decode cX7_encode 57 = .ok (.getfield 34, 3) := by decide +kernel
theorem dX7_encode_60 : decode cX7_encode 60 = .ok (.iload_n 2, 1) := by decide +kernel
theorem dX7_encode_61 : decode cX7_encode 61 = .ok (.aload_n 0, 1) := by decide +kernel
theorem dX7_encode_62 : decode cX7_encode 62 = .ok (.getfield 43, 3) := by decide +kernel
theorem dX7_encode_65 : decode cX7_encode 65 = .ok (.invokevirtual 100, 3) := by decide +kernel
theorem dX7_encode_68 : decode cX7_encode 68 = .ok (.invokevirtual 103, 3) := by decide +kernel
theorem dX7_encode_71 : decode cX7_encode 71 = .ok (.iinc 1 1, 3) := by decide +kernel
theorem dX7_encode_74 : decode cX7_encode 74 = .ok (.goto (-51), 3) := by decide +kernel
theorem dX7_encode_77 : decode cX7_encode 77 = .ok (.aload_n 0, 1) := by decide +kernel
theorem dX7_encode_78 : decode cX7_encode 78 = .ok (.getfield 43, 3) := by decide +kernel
theorem dX7_encode_81 : decode cX7_encode 81 = .ok (.sipush 256, 3) := by decide +kernel
theorem dX7_encode_84 : decode cX7_encode 84 = .ok (.aload_n 0, 1) := by decide +kernel
theorem dX7_encode_85 : decode cX7_encode 85 = .ok (.getfield 52, 3) := by decide +kernel
theorem dX7_encode_88 : decode cX7_encode 88 = .ok (.invokevirtual 96, 3) := by decide +kernel
theorem dX7_encode_91 : decode cX7_encode 91 = .ok (.pop, 1) := by decide +kernel
theorem dX7_encode_92 : decode cX7_encode 92 = .ok (.aload_n 0, 1) := by decide +kernel
theorem dX7_encode_93 : decode cX7_encode 93 = .ok (.aload_n 0, 1) := by decide +kernel
theorem dX7_encode_94 : decode cX7_encode 94 = .ok (.getfield 52, 3) := by decide +kernel
theorem dX7_encode_97 : decode cX7_encode 97 = .ok (.invokevirtual 107, 3) := by decide +kernel
theorem dX7_encode_100 : decode cX7_encode 100 = .ok (.aload_n 0, 1) := by decide +kernel
theorem dX7_encode_101 : decode cX7_encode 101 = .ok (.getfield 52, 3) := by decide +kernel
theorem dX7_encode_104 : decode cX7_encode 104 = .ok (.invokevirtual 111, 3) := by decide +kernel
theorem dX7_encode_107 : decode cX7_encode 107 = .ok (.ifCond .eq 13, 3) := by decide +kernel
theorem dX7_encode_110 : decode cX7_encode 110 = .ok (.aload_n 0, 1) := by decide +kernel
theorem dX7_encode_111 : decode cX7_encode 111 = .ok (.getfield 18, 3) := by decide +kernel
theorem dX7_encode_114 : decode cX7_encode 114 = .ok (.invokevirtual 88, 3) := by decide +kernel
theorem dX7_encode_117 : decode cX7_encode 117 = .ok (.goto 4, 3) := by decide +kernel
theorem dX7_encode_120 : decode cX7_encode 120 = .ok (.iconst (-1), 1) := by decide +kernel
theorem dX7_encode_121 : decode cX7_encode 121 = .ok (.ireturn, 1) := by decide +kernel
theorem dX7_decode_0 : decode cX7_decode 0 = .ok (.aload_n 0, 1) := by decide +kernel
theorem dX7_decode_1 : decode cX7_decode 1 = .ok (.getfield 27, 3) := by decide +kernel
theorem dX7_decode_4 : decode cX7_decode 4 = .ok (.invokevirtual 66, 3) := by decide +kernel
theorem dX7_decode_7 : decode cX7_decode 7 = .ok (.aload_n 0, 1) := by decide +kernel
theorem dX7_decode_8 : decode cX7_decode 8 = .ok (.getfield 34, 3) := by decide +kernel
theorem dX7_decode_11 : decode cX7_decode 11 = .ok (.invokevirtual 67, 3) := by decide +kernel
theorem dX7_decode_14 : decode cX7_decode 14 = .ok (.aload_n 0, 1) := by decide +kernel
theorem dX7_decode_15 : decode cX7_decode 15 = .ok (.getfield 59, 3) := by decide +kernel
theorem dX7_decode_18 : decode cX7_decode 18 = .ok (.invokevirtual 115, 3) := by decide +kernel
theorem dX7_decode_21 : decode cX7_decode 21 = .ok (.aload_n 0, 1) := by decide +kernel
theorem dX7_decode_22 : decode cX7_decode 22 = .ok (.getfield 21, 3) := by decide +kernel
theorem dX7_decode_25 : decode cX7_decode 25 = .ok (.invokevirtual 63, 3) := by decide +kernel
theorem dX7_decode_28 : decode cX7_decode 28 = .ok (.aload_n 0, 1) := by decide +kernel
theorem dX7_decode_29 : decode cX7_decode 29 = .ok (.invokevirtual 116, 3) := by decide +kernel
theorem dX7_decode_32 : decode cX7_decode 32 = .ok (.istore_n 1, 1) := by decide +kernel
theorem dX7_decode_33 : decode cX7_decode 33 = .ok (.aload_n 0, 1) := by decide +kernel
theorem dX7_decode_34 : decode cX7_decode 34 = .ok (.aload_n 0, 1) := by decide +kernel
theorem dX7_decode_35 : decode cX7_decode 35 = .ok (.getfield 59, 3) := by decide +kernel
theorem dX7_decode_38 : decode cX7_decode 38 = .ok (.invokevirtual 107, 3) := by decide +kernel
theorem dX7_decode_41 : decode cX7_decode 41 = .ok (.iload_n 1, 1) := by decide +kernel
theorem dX7_decode_42 : decode cX7_decode 42 = .ok (.ifCond .eq 26, 3) := by decide +kernel
theorem dX7_decode_45 : decode cX7_decode 45 = .ok (.aload_n 0, 1) := by decide +kernel
theorem dX7_decode_46 : decode cX7_decode 46 = .ok (.getfield 18, 3) := by decide +kernel
theorem dX7_decode_49 : decode cX7_decode 49 = .ok (.invokevirtual 88, 3) := by decide +kernel
theorem dX7_decode_52 : decode cX7_decode 52 = .ok (.iconst 4, 1) := by decide +kernel
theorem dX7_decode_53 : decode cX7_decode 53 = .ok (.aload_n 0, 1) := by decide +kernel
theorem dX7_decode_54 : decode cX7_decode 54 = .ok (.getfield 59, 3) := by decide +kernel
theorem dX7_decode_57 : decode cX7_decode 57 = .ok (.invokevirtual 119, 3) := by decide +kernel
theorem dX7_decode_60 : decode cX7_decode 60 = .ok (.iadd, 1) := by decide +kernel
theorem dX7_decode_61 : decode cX7_decode 61 = .ok (.if_icmp .ne 7, 3) := by decide +kernel
theorem dX7_decode_64 : decode cX7_decode 64 = .ok (.iconst 1, 1) := by decide +kernel
theorem dX7_decode_65 : decode cX7_decode 65 = .ok (.goto 4, 3) := by decide +kernel
theorem dX7_decode_68 : decode cX7_decode 68 = .ok (.iconst 0, 1) := by decide +kernel
theorem dX7_decode_69 : decode cX7_decode 69 = .ok (.istore_n 2, 1) := by decide +kernel
theorem dX7_decode_70 : decode cX7_decode 70 = .ok (.iload_n 2, 1) := by decide +kernel
theorem dX7_decode_71 : decode cX7_decode 71 = .ok (.ifCond .eq 13, 3) := by decide +kernel
theorem dX7_decode_74 : decode cX7_decode 74 = .ok (.aload_n 0, 1) := by decide +kernel
theorem dX7_decode_75 : decode cX7_decode 75 = .ok (.getfield 21, 3) := by decide +kernel
theorem dX7_decode_78 : decode cX7_decode 78 = .ok (.invokevirtual 88, 3) := by decide +kernel
theorem dX7_decode_81 : decode cX7_decode 81 = .ok (.goto 4, 3) := by decide +kernel
theorem dX7_decode_84 : decode cX7_decode 84 = .ok (.iconst (-1), 1) := by decide +kernel
theorem dX7_decode_85 : decode cX7_decode 85 = .ok (.ireturn, 1) := by decide +kernel
theorem dX7_push_0 : decode cX7_push 0 = .ok (.aload_n 0, 1) := by decide +kernel
theorem dX7_push_1 : decode cX7_push 1 = .ok (.getfield 18, 3) := by decide +kernel
theorem dX7_push_4 : decode cX7_push 4 = .ok (.iload_n 1, 1) := by decide +kernel
theorem dX7_push_5 : decode cX7_push 5 = .ok (.invokevirtual 80, 3) := by decide +kernel
theorem dX7_push_8 : decode cX7_push 8 = .ok (.ireturn, 1) := by decide +kernel
theorem dX7_change_0 : decode cX7_change 0 = .ok (.aload_n 0, 1) := by decide +kernel
theorem dX7_change_1 : decode cX7_change 1 = .ok (.getfield 18, 3) := by decide +kernel
theorem dX7_change_4 : decode cX7_change 4 = .ok (.iload_n 1, 1) := by decide +kernel
theorem dX7_change_5 : decode cX7_change 5 = .ok (.iload_n 2, 1) := by decide +kernel
theorem dX7_change_6 : decode cX7_change 6 = .ok (.invokevirtual 122, 3) := by decide +kernel
theorem dX7_change_9 : decode cX7_change 9 = .ok (.ireturn, 1) := by decide +kernel
theorem dX7_keep_0 : decode cX7_keep 0 = .ok (.aload_n 0, 1) := by decide +kernel
theorem dX7_keep_1 : decode cX7_keep 1 = .ok (.getfield 18, 3) := by decide +kernel
theorem dX7_keep_4 : decode cX7_keep 4 = .ok (.iload_n 1, 1) := by decide +kernel
theorem dX7_keep_5 : decode cX7_keep 5 = .ok (.invokevirtual 84, 3) := by decide +kernel
theorem dX7_keep_8 : decode cX7_keep 8 = .ok (.ireturn, 1) := by decide +kernel
theorem dX7_at_0 : decode cX7_at 0 = .ok (.aload_n 0, 1) := by decide +kernel
theorem dX7_at_1 : decode cX7_at 1 = .ok (.iload_n 1, 1) := by decide +kernel
theorem dX7_at_2 : decode cX7_at 2 = .ok (.invokevirtual 126, 3) := by decide +kernel
theorem dX7_at_5 : decode cX7_at 5 = .ok (.astore_n 3, 1) := by decide +kernel
theorem dX7_at_6 : decode cX7_at 6 = .ok (.aload_n 3, 1) := by decide +kernel
theorem dX7_at_7 : decode cX7_at 7 = .ok (.ifnonnull 7, 3) := by decide +kernel
theorem dX7_at_10 : decode cX7_at 10 = .ok (.iconst (-1), 1) := by decide +kernel
theorem dX7_at_11 : decode cX7_at 11 = .ok (.goto 8, 3) := by decide +kernel
theorem dX7_at_14 : decode cX7_at 14 = .ok (.aload_n 3, 1) := by decide +kernel
theorem dX7_at_15 : decode cX7_at 15 = .ok (.iload_n 2, 1) := by decide +kernel
theorem dX7_at_16 : decode cX7_at 16 = .ok (.invokevirtual 92, 3) := by decide +kernel
theorem dX7_at_19 : decode cX7_at 19 = .ok (.ireturn, 1) := by decide +kernel
theorem dX7_size_0 : decode cX7_size 0 = .ok (.aload_n 0, 1) := by decide +kernel
theorem dX7_size_1 : decode cX7_size 1 = .ok (.iload_n 1, 1) := by decide +kernel
theorem dX7_size_2 : decode cX7_size 2 = .ok (.invokevirtual 126, 3) := by decide +kernel
theorem dX7_size_5 : decode cX7_size 5 = .ok (.astore_n 2, 1) := by decide +kernel
theorem dX7_size_6 : decode cX7_size 6 = .ok (.aload_n 2, 1) := by decide +kernel
theorem dX7_size_7 : decode cX7_size 7 = .ok (.ifnonnull 7, 3) := by decide +kernel
theorem dX7_size_10 : decode cX7_size 10 = .ok (.iconst (-1), 1) := by decide +kernel
theorem dX7_size_11 : decode cX7_size 11 = .ok (.goto 7, 3) := by decide +kernel
theorem dX7_size_14 : decode cX7_size 14 = .ok (.aload_n 2, 1) := by decide +kernel
theorem dX7_size_15 : decode cX7_size 15 = .ok (.invokevirtual 88, 3) := by decide +kernel
theorem dX7_size_18 : decode cX7_size 18 = .ok (.ireturn, 1) := by decide +kernel
theorem dX7_step_0 : decode cX7_step 0 = .ok (.aload_n 0, 1) := by decide +kernel
theorem dX7_step_1 : decode cX7_step 1 = .ok (.getfield 27, 3) := by decide +kernel
theorem dX7_step_4 : decode cX7_step 4 = .ok (.iload_n 1, 1) := by decide +kernel
theorem dX7_step_5 : decode cX7_step 5 = .ok (.iload_n 2, 1) := by decide +kernel
theorem dX7_step_6 : decode cX7_step 6 = .ok (.invokevirtual 130, 3) := by decide +kernel
theorem dX7_step_9 : decode cX7_step 9 = .ok (.ireturn, 1) := by decide +kernel
theorem dX7_count_0 : decode cX7_count 0 = .ok (.iload_n 1, 1) := by decide +kernel
theorem dX7_count_1 : decode cX7_count 1 = .ok (.tableswitch 111 0 7 #[47, 56, 65, 70, 79, 88, 97, 102], 47) := by decide +kernel
theorem dX7_count_48 : decode cX7_count 48 = .ok (.aload_n 0, 1) := by decide +kernel
theorem dX7_count_49 : decode cX7_count 49 = .ok (.getfield 27, 3) := by decide +kernel
theorem dX7_count_52 : decode cX7_count 52 = .ok (.invokevirtual 134, 3) := by decide +kernel
theorem dX7_count_55 : decode cX7_count 55 = .ok (.i2l, 1) := by decide +kernel
theorem dX7_count_56 : decode cX7_count 56 = .ok (.lreturn, 1) := by decide +kernel
theorem dX7_count_57 : decode cX7_count 57 = .ok (.aload_n 0, 1) := by decide +kernel
theorem dX7_count_58 : decode cX7_count 58 = .ok (.getfield 27, 3) := by decide +kernel
theorem dX7_count_61 : decode cX7_count 61 = .ok (.invokevirtual 137, 3) := by decide +kernel
theorem dX7_count_64 : decode cX7_count 64 = .ok (.i2l, 1) := by decide +kernel
theorem dX7_count_65 : decode cX7_count 65 = .ok (.lreturn, 1) := by decide +kernel
theorem dX7_count_66 : decode cX7_count 66 = .ok (.aload_n 0, 1) := by decide +kernel
theorem dX7_count_67 : decode cX7_count 67 = .ok (.getfield 73, 3) := by decide +kernel
theorem dX7_count_70 : decode cX7_count 70 = .ok (.lreturn, 1) := by decide +kernel
theorem dX7_count_71 : decode cX7_count 71 = .ok (.aload_n 0, 1) := by decide +kernel
theorem dX7_count_72 : decode cX7_count 72 = .ok (.getfield 34, 3) := by decide +kernel
theorem dX7_count_75 : decode cX7_count 75 = .ok (.invokevirtual 140, 3) := by decide +kernel
theorem dX7_count_78 : decode cX7_count 78 = .ok (.i2l, 1) := by decide +kernel
theorem dX7_count_79 : decode cX7_count 79 = .ok (.lreturn, 1) := by decide +kernel
theorem dX7_count_80 : decode cX7_count 80 = .ok (.aload_n 0, 1) := by decide +kernel
theorem dX7_count_81 : decode cX7_count 81 = .ok (.getfield 34, 3) := by decide +kernel
theorem dX7_count_84 : decode cX7_count 84 = .ok (.invokevirtual 143, 3) := by decide +kernel
theorem dX7_count_87 : decode cX7_count 87 = .ok (.i2l, 1) := by decide +kernel
theorem dX7_count_88 : decode cX7_count 88 = .ok (.lreturn, 1) := by decide +kernel
theorem dX7_count_89 : decode cX7_count 89 = .ok (.aload_n 0, 1) := by decide +kernel
theorem dX7_count_90 : decode cX7_count 90 = .ok (.getfield 34, 3) := by decide +kernel
theorem dX7_count_93 : decode cX7_count 93 = .ok (.invokevirtual 146, 3) := by decide +kernel
theorem dX7_count_96 : decode cX7_count 96 = .ok (.i2l, 1) := by decide +kernel
theorem dX7_count_97 : decode cX7_count 97 = .ok (.lreturn, 1) := by decide +kernel
theorem dX7_count_98 : decode cX7_count 98 = .ok (.aload_n 0, 1) := by decide +kernel
theorem dX7_count_99 : decode cX7_count 99 = .ok (.getfield 77, 3) := by decide +kernel
theorem dX7_count_102 : decode cX7_count 102 = .ok (.lreturn, 1) := by decide +kernel
theorem dX7_count_103 : decode cX7_count 103 = .ok (.aload_n 0, 1) := by decide +kernel
theorem dX7_count_104 : decode cX7_count 104 = .ok (.getfield 34, 3) := by decide +kernel
theorem dX7_count_107 : decode cX7_count 107 = .ok (.invokevirtual 149, 3) := by decide +kernel
theorem dX7_count_110 : decode cX7_count 110 = .ok (.i2l, 1) := by decide +kernel
theorem dX7_count_111 : decode cX7_count 111 = .ok (.lreturn, 1) := by decide +kernel
theorem dX7_count_112 : decode cX7_count 112 = .ok (.ldc2_w 152, 3) := by decide +kernel
theorem dX7_count_115 : decode cX7_count 115 = .ok (.lreturn, 1) := by decide +kernel
theorem dX7_learnt_0 : decode cX7_learnt 0 = .ok (.aload_n 0, 1) := by decide +kernel
theorem dX7_learnt_1 : decode cX7_learnt 1 = .ok (.getfield 34, 3) := by decide +kernel
theorem dX7_learnt_4 : decode cX7_learnt 4 = .ok (.iload_n 1, 1) := by decide +kernel
theorem dX7_learnt_5 : decode cX7_learnt 5 = .ok (.iload_n 2, 1) := by decide +kernel
theorem dX7_learnt_6 : decode cX7_learnt 6 = .ok (.iload_n 3, 1) := by decide +kernel
theorem dX7_learnt_7 : decode cX7_learnt 7 = .ok (.invokestatic 154, 3) := by decide +kernel
theorem dX7_learnt_10 : decode cX7_learnt 10 = .ok (.invokevirtual 158, 3) := by decide +kernel
theorem dX7_learnt_13 : decode cX7_learnt 13 = .ok (.istore 5, 2) := by decide +kernel
theorem dX7_learnt_15 : decode cX7_learnt 15 = .ok (.aload_n 0, 1) := by decide +kernel
theorem dX7_learnt_16 : decode cX7_learnt 16 = .ok (.getfield 34, 3) := by decide +kernel
theorem dX7_learnt_19 : decode cX7_learnt 19 = .ok (.aload_n 0, 1) := by decide +kernel
theorem dX7_learnt_20 : decode cX7_learnt 20 = .ok (.getfield 34, 3) := by decide +kernel
theorem dX7_learnt_23 : decode cX7_learnt 23 = .ok (.iload 5, 2) := by decide +kernel
theorem dX7_learnt_25 : decode cX7_learnt 25 = .ok (.iload 4, 2) := by decide +kernel
theorem dX7_learnt_27 : decode cX7_learnt 27 = .ok (.invokevirtual 161, 3) := by decide +kernel
theorem dX7_learnt_30 : decode cX7_learnt 30 = .ok (.invokevirtual 164, 3) := by decide +kernel
theorem dX7_learnt_33 : decode cX7_learnt 33 = .ok (.ireturn, 1) := by decide +kernel
theorem dX7_node_0 : decode cX7_node 0 = .ok (.aload_n 0, 1) := by decide +kernel
theorem dX7_node_1 : decode cX7_node 1 = .ok (.getfield 34, 3) := by decide +kernel
theorem dX7_node_4 : decode cX7_node 4 = .ok (.iload_n 1, 1) := by decide +kernel
theorem dX7_node_5 : decode cX7_node 5 = .ok (.iload_n 2, 1) := by decide +kernel
theorem dX7_node_6 : decode cX7_node 6 = .ok (.iload_n 3, 1) := by decide +kernel
theorem dX7_node_7 : decode cX7_node 7 = .ok (.invokestatic 154, 3) := by decide +kernel
theorem dX7_node_10 : decode cX7_node 10 = .ok (.invokevirtual 158, 3) := by decide +kernel
theorem dX7_node_13 : decode cX7_node 13 = .ok (.istore 5, 2) := by decide +kernel
theorem dX7_node_15 : decode cX7_node 15 = .ok (.aload_n 0, 1) := by decide +kernel
theorem dX7_node_16 : decode cX7_node 16 = .ok (.getfield 34, 3) := by decide +kernel
theorem dX7_node_19 : decode cX7_node 19 = .ok (.aload_n 0, 1) := by decide +kernel
theorem dX7_node_20 : decode cX7_node 20 = .ok (.getfield 34, 3) := by decide +kernel
theorem dX7_node_23 : decode cX7_node 23 = .ok (.iload 5, 2) := by decide +kernel
theorem dX7_node_25 : decode cX7_node 25 = .ok (.iload 4, 2) := by decide +kernel
theorem dX7_node_27 : decode cX7_node 27 = .ok (.invokevirtual 167, 3) := by decide +kernel
theorem dX7_node_30 : decode cX7_node 30 = .ok (.invokevirtual 170, 3) := by decide +kernel
theorem dX7_node_33 : decode cX7_node 33 = .ok (.ireturn, 1) := by decide +kernel
theorem dX7_readUpToEnd_0 : decode cX7_readUpToEnd 0 = .ok (.iconst 0, 1) := by decide +kernel
theorem dX7_readUpToEnd_1 : decode cX7_readUpToEnd 1 = .ok (.istore_n 1, 1) := by decide +kernel
theorem dX7_readUpToEnd_2 : decode cX7_readUpToEnd 2 = .ok (.iload_n 1, 1) := by decide +kernel
theorem dX7_readUpToEnd_3 : decode cX7_readUpToEnd 3 = .ok (.sipush 4000, 3) := by decide +kernel
theorem dX7_readUpToEnd_6 : decode cX7_readUpToEnd 6 = .ok (.if_icmp .gt 59, 3) := by decide +kernel
theorem dX7_readUpToEnd_9 : decode cX7_readUpToEnd 9 = .ok (.aload_n 0, 1) := by decide +kernel
theorem dX7_readUpToEnd_10 : decode cX7_readUpToEnd 10 = .ok (.getfield 43, 3) := by decide +kernel
theorem dX7_readUpToEnd_13 : decode cX7_readUpToEnd 13 = .ok (.iconst (-1), 1) := by decide +kernel
theorem dX7_readUpToEnd_14 : decode cX7_readUpToEnd 14 = .ok (.aload_n 0, 1) := by decide +kernel
theorem dX7_readUpToEnd_15 : decode cX7_readUpToEnd 15 = .ok (.getfield 59, 3) := by decide +kernel
theorem dX7_readUpToEnd_18 : decode cX7_readUpToEnd 18 = .ok (.invokevirtual 96, 3) := by decide +kernel
theorem dX7_readUpToEnd_21 : decode cX7_readUpToEnd 21 = .ok (.istore_n 2, 1) := by decide +kernel
theorem dX7_readUpToEnd_22 : decode cX7_readUpToEnd 22 = .ok (.iload_n 2, 1) := by decide +kernel
theorem dX7_readUpToEnd_23 : decode cX7_readUpToEnd 23 = .ok (.sipush 256, 3) := by decide +kernel
theorem dX7_readUpToEnd_26 : decode cX7_readUpToEnd 26 = .ok (.if_icmp .ne 5, 3) := by decide +kernel
theorem dX7_readUpToEnd_29 : decode cX7_readUpToEnd 29 = .ok (.iconst 1, 1) := by decide +kernel
theorem dX7_readUpToEnd_30 : decode cX7_readUpToEnd 30 = .ok (.ireturn, 1) := by decide +kernel
theorem dX7_readUpToEnd_31 : decode cX7_readUpToEnd 31 = .ok (.aload_n 0, 1) := by decide +kernel
theorem dX7_readUpToEnd_32 : decode cX7_readUpToEnd 32 = .ok (.getfield 21, 3) := by decide +kernel
theorem dX7_readUpToEnd_35 : decode cX7_readUpToEnd 35 = .ok (.iload_n 2, 1) := by decide +kernel
theorem dX7_readUpToEnd_36 : decode cX7_readUpToEnd 36 = .ok (.invokevirtual 80, 3) := by decide +kernel
theorem dX7_readUpToEnd_39 : decode cX7_readUpToEnd 39 = .ok (.ifCond .ne 5, 3) := by decide +kernel
theorem dX7_readUpToEnd_42 : decode cX7_readUpToEnd 42 = .ok (.iconst 0, 1) := by decide +kernel
theorem dX7_readUpToEnd_43 : decode cX7_readUpToEnd 43 = .ok (.ireturn, 1) := by decide +kernel
theorem dX7_readUpToEnd_44 : decode cX7_readUpToEnd 44 = .ok (.aload_n 0, 1) := by decide +kernel
theorem dX7_readUpToEnd_45 : decode cX7_readUpToEnd 45 = .ok (.getfield 34, 3) := by decide +kernel
theorem dX7_readUpToEnd_48 : decode cX7_readUpToEnd 48 = .ok (.iload_n 2, 1) := by decide +kernel
theorem dX7_readUpToEnd_49 : decode cX7_readUpToEnd 49 = .ok (.aload_n 0, 1) := by decide +kernel
theorem dX7_readUpToEnd_50 : decode cX7_readUpToEnd 50 = .ok (.getfield 43, 3) := by decide +kernel
theorem dX7_readUpToEnd_53 : decode cX7_readUpToEnd 53 = .ok (.invokevirtual 100, 3) := by decide +kernel
theorem dX7_readUpToEnd_56 : decode cX7_readUpToEnd 56 = .ok (.invokevirtual 103, 3) := by decide +kernel
theorem dX7_readUpToEnd_59 : decode cX7_readUpToEnd 59 = .ok (.iinc 1 1, 3) := by decide +kernel
theorem dX7_readUpToEnd_62 : decode cX7_readUpToEnd 62 = .ok (.goto (-60), 3) := by decide +kernel
theorem dX7_readUpToEnd_65 : decode cX7_readUpToEnd 65 = .ok (.iconst 0, 1) := by decide +kernel
theorem dX7_readUpToEnd_66 : decode cX7_readUpToEnd 66 = .ok (.ireturn, 1) := by decide +kernel
theorem dX7_noteEnd_0 : decode cX7_noteEnd 0 = .ok (.aload_n 0, 1) := by decide +kernel
theorem dX7_noteEnd_1 : decode cX7_noteEnd 1 = .ok (.aload_n 1, 1) := by decide +kernel
theorem dX7_noteEnd_2 : decode cX7_noteEnd 2 = .ok (.invokevirtual 173, 3) := by decide +kernel
theorem dX7_noteEnd_5 : decode cX7_noteEnd 5 = .ok (.i2l, 1) := by decide +kernel
theorem dX7_noteEnd_6 : decode cX7_noteEnd 6 = .ok (.putfield 73, 3) := by decide +kernel
theorem dX7_noteEnd_9 : decode cX7_noteEnd 9 = .ok (.aload_n 0, 1) := by decide +kernel
theorem dX7_noteEnd_10 : decode cX7_noteEnd 10 = .ok (.aload_n 1, 1) := by decide +kernel
theorem dX7_noteEnd_11 : decode cX7_noteEnd 11 = .ok (.invokevirtual 176, 3) := by decide +kernel
theorem dX7_noteEnd_14 : decode cX7_noteEnd 14 = .ok (.putfield 77, 3) := by decide +kernel
theorem dX7_noteEnd_17 : decode cX7_noteEnd 17 = .ok (.return_, 1) := by decide +kernel
theorem dX7_rowOf_0 : decode cX7_rowOf 0 = .ok (.iload_n 1, 1) := by decide +kernel
theorem dX7_rowOf_1 : decode cX7_rowOf 1 = .ok (.tableswitch 42 0 2 #[27, 32, 37], 27) := by decide +kernel
theorem dX7_rowOf_28 : decode cX7_rowOf 28 = .ok (.aload_n 0, 1) := by decide +kernel
theorem dX7_rowOf_29 : decode cX7_rowOf 29 = .ok (.getfield 14, 3) := by decide +kernel
theorem dX7_rowOf_32 : decode cX7_rowOf 32 = .ok (.areturn, 1) := by decide +kernel
theorem dX7_rowOf_33 : decode cX7_rowOf 33 = .ok (.aload_n 0, 1) := by decide +kernel
