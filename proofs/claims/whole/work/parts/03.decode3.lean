theorem dX8_tellIn_250 : decode cX8_tellIn 250 = .ok (.aload_n 0, 1) := by decide +kernel
theorem dX8_tellIn_251 : decode cX8_tellIn 251 = .ok (.getfield 23, 3) := by decide +kernel
theorem dX8_tellIn_254 : decode cX8_tellIn 254 = .ok (.iload 9, 2) := by decide +kernel
theorem dX8_tellIn_256 : decode cX8_tellIn 256 = .ok (.iaload, 1) := by decide +kernel
theorem dX8_tellIn_257 : decode cX8_tellIn 257 = .ok (.iload_n 3, 1) := by decide +kernel
theorem dX8_tellIn_258 : decode cX8_tellIn 258 = .ok (.if_icmp .ne 16, 3) := by decide +kernel
theorem dX8_tellIn_261 : decode cX8_tellIn 261 = .ok (.aload_n 0, 1) := by decide +kernel
theorem dX8_tellIn_262 : decode cX8_tellIn 262 = .ok (.getfield 46, 3) := by decide +kernel
theorem dX8_tellIn_265 : decode cX8_tellIn 265 = .ok (.aload_n 0, 1) := by decide +kernel
theorem dX8_tellIn_266 : decode cX8_tellIn 266 = .ok (.getfield 27, 3) := by decide +kernel
theorem dX8_tellIn_269 : decode cX8_tellIn 269 = .ok (.iload 9, 2) := by decide +kernel
theorem dX8_tellIn_271 : decode cX8_tellIn 271 = .ok (.saload, 1) := by decide +kernel
theorem dX8_tellIn_272 : decode cX8_tellIn 272 = .ok (.iconst 1, 1) := by decide +kernel
theorem dX8_tellIn_273 : decode cX8_tellIn 273 = .ok (.bastore, 1) := by decide +kernel
theorem dX8_tellIn_274 : decode cX8_tellIn 274 = .ok (.iinc 9 1, 3) := by decide +kernel
theorem dX8_tellIn_277 : decode cX8_tellIn 277 = .ok (.goto (-36), 3) := by decide +kernel
theorem dX8_tellIn_280 : decode cX8_tellIn 280 = .ok (.iconst (-1), 1) := by decide +kernel
theorem dX8_tellIn_281 : decode cX8_tellIn 281 = .ok (.ireturn, 1) := by decide +kernel
theorem dX8_encode_0 : decode cX8_encode 0 = .ok (.aload_n 0, 1) := by decide +kernel
theorem dX8_encode_1 : decode cX8_encode 1 = .ok (.invokevirtual 63, 3) := by decide +kernel
theorem dX8_encode_4 : decode cX8_encode 4 = .ok (.aload_n 0, 1) := by decide +kernel
theorem dX8_encode_5 : decode cX8_encode 5 = .ok (.iconst 0, 1) := by decide +kernel
theorem dX8_encode_6 : decode cX8_encode 6 = .ok (.putfield 115, 3) := by decide +kernel
theorem dX8_encode_9 : decode cX8_encode 9 = .ok (.aload_n 0, 1) := by decide +kernel
theorem dX8_encode_10 : decode cX8_encode 10 = .ok (.iconst 0, 1) := by decide +kernel
theorem dX8_encode_11 : decode cX8_encode 11 = .ok (.putfield 136, 3) := by decide +kernel
theorem dX8_encode_14 : decode cX8_encode 14 = .ok (.aload_n 0, 1) := by decide +kernel
theorem dX8_encode_15 : decode cX8_encode 15 = .ok (.iconst 4, 1) := by decide +kernel
theorem dX8_encode_16 : decode cX8_encode 16 = .ok (.putfield 57, 3) := by decide +kernel
theorem dX8_encode_19 : decode cX8_encode 19 = .ok (.iconst 0, 1) := by decide +kernel
theorem dX8_encode_20 : decode cX8_encode 20 = .ok (.istore_n 1, 1) := by decide +kernel
theorem dX8_encode_21 : decode cX8_encode 21 = .ok (.iload_n 1, 1) := by decide +kernel
theorem dX8_encode_22 : decode cX8_encode 22 = .ok (.iconst 4, 1) := by decide +kernel
theorem dX8_encode_23 : decode cX8_encode 23 = .ok (.if_icmp .ge 16, 3) := by decide +kernel
theorem dX8_encode_26 : decode cX8_encode 26 = .ok (.aload_n 0, 1) := by decide +kernel
theorem dX8_encode_27 : decode cX8_encode 27 = .ok (.getfield 13, 3) := by decide +kernel
theorem dX8_encode_30 : decode cX8_encode 30 = .ok (.iload_n 1, 1) := by decide +kernel
theorem dX8_encode_31 : decode cX8_encode 31 = .ok (.iconst 0, 1) := by decide +kernel
theorem dX8_encode_32 : decode cX8_encode 32 = .ok (.bastore, 1) := by decide +kernel
theorem dX8_encode_33 : decode cX8_encode 33 = .ok (.iinc 1 1, 3) := by decide +kernel
theorem dX8_encode_36 : decode cX8_encode 36 = .ok (.goto (-15), 3) := by decide +kernel
theorem dX8_encode_39 : decode cX8_encode 39 = .ok (.iconst 0, 1) := by decide +kernel
theorem dX8_encode_40 : decode cX8_encode 40 = .ok (.istore_n 1, 1) := by decide +kernel
theorem dX8_encode_41 : decode cX8_encode 41 = .ok (.iload_n 1, 1) := by decide +kernel
theorem dX8_encode_42 : decode cX8_encode 42 = .ok (.aload_n 0, 1) := by decide +kernel
theorem dX8_encode_43 : decode cX8_encode 43 = .ok (.getfield 54, 3) := by decide +kernel
theorem dX8_encode_46 : decode cX8_encode 46 = .ok (.if_icmp .ge 40, 3) := by decide +kernel
theorem dX8_encode_49 : decode cX8_encode 49 = .ok (.aload_n 0, 1) := by decide +kernel
theorem dX8_encode_50 : decode cX8_encode 50 = .ok (.getfield 7, 3) := by decide +kernel
theorem dX8_encode_53 : decode cX8_encode 53 = .ok (.iload_n 1, 1) := by decide +kernel
theorem dX8_encode_54 : decode cX8_encode 54 = .ok (.baload, 1) := by decide +kernel
theorem dX8_encode_55 : decode cX8_encode 55 = .ok (.sipush 255, 3) := by decide +kernel
theorem dX8_encode_58 : decode cX8_encode 58 = .ok (.iand, 1) := by decide +kernel
theorem dX8_encode_59 : decode cX8_encode 59 = .ok (.istore_n 2, 1) := by decide +kernel
theorem dX8_encode_60 : decode cX8_encode 60 = .ok (.aload_n 0, 1) := by decide +kernel
theorem dX8_encode_61 : decode cX8_encode 61 = .ok (.iload_n 2, 1) := by decide +kernel
theorem dX8_encode_62 : decode cX8_encode 62 = .ok (.invokevirtual 160, 3) := by decide +kernel
theorem dX8_encode_65 : decode cX8_encode 65 = .ok (.pop, 1) := by decide +kernel
theorem dX8_encode_66 : decode cX8_encode 66 = .ok (.aload_n 0, 1) := by decide +kernel
theorem dX8_encode_67 : decode cX8_encode 67 = .ok (.iload_n 2, 1) := by decide +kernel
theorem dX8_encode_68 : decode cX8_encode 68 = .ok (.aload_n 0, 1) := by decide +kernel
theorem dX8_encode_69 : decode cX8_encode 69 = .ok (.getfield 146, 3) := by decide +kernel
theorem dX8_encode_72 : decode cX8_encode 72 = .ok (.invokevirtual 163, 3) := by decide +kernel
theorem dX8_encode_75 : decode cX8_encode 75 = .ok (.aload_n 0, 1) := by decide +kernel
theorem dX8_encode_76 : decode cX8_encode 76 = .ok (.iload_n 2, 1) := by decide +kernel
theorem dX8_encode_77 : decode cX8_encode 77 = .ok (.invokevirtual 167, 3) := by decide +kernel
theorem dX8_encode_80 : decode cX8_encode 80 = .ok (.iinc 1 1, 3) := by decide +kernel
theorem dX8_encode_83 : decode cX8_encode 83 = .ok (.goto (-42), 3) := by decide +kernel
theorem dX8_encode_86 : decode cX8_encode 86 = .ok (.aload_n 0, 1) := by decide +kernel
theorem dX8_encode_87 : decode cX8_encode 87 = .ok (.sipush 256, 3) := by decide +kernel
theorem dX8_encode_90 : decode cX8_encode 90 = .ok (.invokevirtual 160, 3) := by decide +kernel
theorem dX8_encode_93 : decode cX8_encode 93 = .ok (.pop, 1) := by decide +kernel
theorem dX8_encode_94 : decode cX8_encode 94 = .ok (.aload_n 0, 1) := by decide +kernel
theorem dX8_encode_95 : decode cX8_encode 95 = .ok (.getfield 136, 3) := by decide +kernel
theorem dX8_encode_98 : decode cX8_encode 98 = .ok (.ifCond .eq 10, 3) := by decide +kernel
theorem dX8_encode_101 : decode cX8_encode 101 = .ok (.aload_n 0, 1) := by decide +kernel
theorem dX8_encode_102 : decode cX8_encode 102 = .ok (.iconst 0, 1) := by decide +kernel
theorem dX8_encode_103 : decode cX8_encode 103 = .ok (.putfield 57, 3) := by decide +kernel
theorem dX8_encode_106 : decode cX8_encode 106 = .ok (.iconst (-1), 1) := by decide +kernel
theorem dX8_encode_107 : decode cX8_encode 107 = .ok (.ireturn, 1) := by decide +kernel
theorem dX8_encode_108 : decode cX8_encode 108 = .ok (.aload_n 0, 1) := by decide +kernel
theorem dX8_encode_109 : decode cX8_encode 109 = .ok (.getfield 57, 3) := by decide +kernel
theorem dX8_encode_112 : decode cX8_encode 112 = .ok (.ireturn, 1) := by decide +kernel
theorem dX8_decode_0 : decode cX8_decode 0 = .ok (.aload_n 0, 1) := by decide +kernel
theorem dX8_decode_1 : decode cX8_decode 1 = .ok (.invokevirtual 63, 3) := by decide +kernel
theorem dX8_decode_4 : decode cX8_decode 4 = .ok (.aload_n 0, 1) := by decide +kernel
theorem dX8_decode_5 : decode cX8_decode 5 = .ok (.iconst 1, 1) := by decide +kernel
theorem dX8_decode_6 : decode cX8_decode 6 = .ok (.putfield 115, 3) := by decide +kernel
theorem dX8_decode_9 : decode cX8_decode 9 = .ok (.aload_n 0, 1) := by decide +kernel
theorem dX8_decode_10 : decode cX8_decode 10 = .ok (.iconst 0, 1) := by decide +kernel
theorem dX8_decode_11 : decode cX8_decode 11 = .ok (.putfield 60, 3) := by decide +kernel
theorem dX8_decode_14 : decode cX8_decode 14 = .ok (.aload_n 0, 1) := by decide +kernel
theorem dX8_decode_15 : decode cX8_decode 15 = .ok (.iconst 0, 1) := by decide +kernel
theorem dX8_decode_16 : decode cX8_decode 16 = .ok (.putfield 139, 3) := by decide +kernel
theorem dX8_decode_19 : decode cX8_decode 19 = .ok (.aload_n 0, 1) := by decide +kernel
theorem dX8_decode_20 : decode cX8_decode 20 = .ok (.lconst 0, 1) := by decide +kernel
theorem dX8_decode_21 : decode cX8_decode 21 = .ok (.putfield 119, 3) := by decide +kernel
theorem dX8_decode_24 : decode cX8_decode 24 = .ok (.iconst 0, 1) := by decide +kernel
theorem dX8_decode_25 : decode cX8_decode 25 = .ok (.istore_n 1, 1) := by decide +kernel
theorem dX8_decode_26 : decode cX8_decode 26 = .ok (.iload_n 1, 1) := by decide +kernel
theorem dX8_decode_27 : decode cX8_decode 27 = .ok (.iconst 4, 1) := by decide +kernel
theorem dX8_decode_28 : decode cX8_decode 28 = .ok (.if_icmp .ge 27, 3) := by decide +kernel
theorem dX8_decode_31 : decode cX8_decode 31 = .ok (.aload_n 0, 1) := by decide +kernel
theorem dX8_decode_32 : decode cX8_decode 32 = .ok (.aload_n 0, 1) := by decide +kernel
theorem dX8_decode_33 : decode cX8_decode 33 = .ok (.getfield 119, 3) := by decide +kernel
theorem dX8_decode_36 : decode cX8_decode 36 = .ok (.ldc2_w 128, 3) := by decide +kernel
theorem dX8_decode_39 : decode cX8_decode 39 = .ok (.lmul, 1) := by decide +kernel
theorem dX8_decode_40 : decode cX8_decode 40 = .ok (.aload_n 0, 1) := by decide +kernel
theorem dX8_decode_41 : decode cX8_decode 41 = .ok (.invokevirtual 130, 3) := by decide +kernel
theorem dX8_decode_44 : decode cX8_decode 44 = .ok (.i2l, 1) := by decide +kernel
theorem dX8_decode_45 : decode cX8_decode 45 = .ok (.ladd, 1) := by decide +kernel
theorem dX8_decode_46 : decode cX8_decode 46 = .ok (.putfield 119, 3) := by decide +kernel
theorem dX8_decode_49 : decode cX8_decode 49 = .ok (.iinc 1 1, 3) := by decide +kernel
theorem dX8_decode_52 : decode cX8_decode 52 = .ok (.goto (-26), 3) := by decide +kernel
theorem dX8_decode_55 : decode cX8_decode 55 = .ok (.aload_n 0, 1) := by decide +kernel
theorem dX8_decode_56 : decode cX8_decode 56 = .ok (.iconst (-1), 1) := by decide +kernel
theorem dX8_decode_57 : decode cX8_decode 57 = .ok (.invokevirtual 160, 3) := by decide +kernel
theorem dX8_decode_60 : decode cX8_decode 60 = .ok (.istore_n 1, 1) := by decide +kernel
theorem dX8_decode_61 : decode cX8_decode 61 = .ok (.iload_n 1, 1) := by decide +kernel
theorem dX8_decode_62 : decode cX8_decode 62 = .ok (.sipush 256, 3) := by decide +kernel
theorem dX8_decode_65 : decode cX8_decode 65 = .ok (.if_icmp .eq 59, 3) := by decide +kernel
theorem dX8_decode_68 : decode cX8_decode 68 = .ok (.aload_n 0, 1) := by decide +kernel
theorem dX8_decode_69 : decode cX8_decode 69 = .ok (.getfield 60, 3) := by decide +kernel
theorem dX8_decode_72 : decode cX8_decode 72 = .ok (.sipush 4000, 3) := by decide +kernel
theorem dX8_decode_75 : decode cX8_decode 75 = .ok (.if_icmp .ne 5, 3) := by decide +kernel
theorem dX8_decode_78 : decode cX8_decode 78 = .ok (.iconst (-1), 1) := by decide +kernel
theorem dX8_decode_79 : decode cX8_decode 79 = .ok (.ireturn, 1) := by decide +kernel
theorem dX8_decode_80 : decode cX8_decode 80 = .ok (.aload_n 0, 1) := by decide +kernel
theorem dX8_decode_81 : decode cX8_decode 81 = .ok (.getfield 16, 3) := by decide +kernel
theorem dX8_decode_84 : decode cX8_decode 84 = .ok (.aload_n 0, 1) := by decide +kernel
theorem dX8_decode_85 : decode cX8_decode 85 = .ok (.getfield 60, 3) := by decide +kernel
theorem dX8_decode_88 : decode cX8_decode 88 = .ok (.iload_n 1, 1) := by decide +kernel
theorem dX8_decode_89 : decode cX8_decode 89 = .ok (.i2b, 1) := by decide +kernel
theorem dX8_decode_90 : decode cX8_decode 90 = .ok (.bastore, 1) := by decide +kernel
theorem dX8_decode_91 : decode cX8_decode 91 = .ok (.aload_n 0, 1) := by decide +kernel
theorem dX8_decode_92 : decode cX8_decode 92 = .ok (.dup, 1) := by decide +kernel
theorem dX8_decode_93 : decode cX8_decode 93 = .ok (.getfield 60, 3) := by decide +kernel
theorem dX8_decode_96 : decode cX8_decode 96 = .ok (.iconst 1, 1) := by decide +kernel
theorem dX8_decode_97 : decode cX8_decode 97 = .ok (.iadd, 1) := by decide +kernel
theorem dX8_decode_98 : decode cX8_decode 98 = .ok (.putfield 60, 3) := by decide +kernel
theorem dX8_decode_101 : decode cX8_decode 101 = .ok (.aload_n 0, 1) := by decide +kernel
theorem dX8_decode_102 : decode cX8_decode 102 = .ok (.iload_n 1, 1) := by decide +kernel
theorem dX8_decode_103 : decode cX8_decode 103 = .ok (.aload_n 0, 1) := by decide +kernel
theorem dX8_decode_104 : decode cX8_decode 104 = .ok (.getfield 146, 3) := by decide +kernel
theorem dX8_decode_107 : decode cX8_decode 107 = .ok (.invokevirtual 163, 3) := by decide +kernel
theorem dX8_decode_110 : decode cX8_decode 110 = .ok (.aload_n 0, 1) := by decide +kernel
theorem dX8_decode_111 : decode cX8_decode 111 = .ok (.iload_n 1, 1) := by decide +kernel
theorem dX8_decode_112 : decode cX8_decode 112 = .ok (.invokevirtual 167, 3) := by decide +kernel
theorem dX8_decode_115 : decode cX8_decode 115 = .ok (.aload_n 0, 1) := by decide +kernel
theorem dX8_decode_116 : decode cX8_decode 116 = .ok (.iconst (-1), 1) := by decide +kernel
theorem dX8_decode_117 : decode cX8_decode 117 = .ok (.invokevirtual 160, 3) := by decide +kernel
theorem dX8_decode_120 : decode cX8_decode 120 = .ok (.istore_n 1, 1) := by decide +kernel
theorem dX8_decode_121 : decode cX8_decode 121 = .ok (.goto (-60), 3) := by decide +kernel
theorem dX8_decode_124 : decode cX8_decode 124 = .ok (.aload_n 0, 1) := by decide +kernel
theorem dX8_decode_125 : decode cX8_decode 125 = .ok (.getfield 57, 3) := by decide +kernel
theorem dX8_decode_128 : decode cX8_decode 128 = .ok (.iconst 4, 1) := by decide +kernel
theorem dX8_decode_129 : decode cX8_decode 129 = .ok (.aload_n 0, 1) := by decide +kernel
theorem dX8_decode_130 : decode cX8_decode 130 = .ok (.getfield 79, 3) := by decide +kernel
theorem dX8_decode_133 : decode cX8_decode 133 = .ok (.iadd, 1) := by decide +kernel
theorem dX8_decode_134 : decode cX8_decode 134 = .ok (.if_icmp .ne 10, 3) := by decide +kernel
theorem dX8_decode_137 : decode cX8_decode 137 = .ok (.aload_n 0, 1) := by decide +kernel
theorem dX8_decode_138 : decode cX8_decode 138 = .ok (.getfield 60, 3) := by decide +kernel
theorem dX8_decode_141 : decode cX8_decode 141 = .ok (.goto 4, 3) := by decide +kernel
theorem dX8_decode_144 : decode cX8_decode 144 = .ok (.iconst (-1), 1) := by decide +kernel
theorem dX8_decode_145 : decode cX8_decode 145 = .ok (.ireturn, 1) := by decide +kernel
theorem dX8_push_0 : decode cX8_push 0 = .ok (.iload_n 1, 1) := by decide +kernel
theorem dX8_push_1 : decode cX8_push 1 = .ok (.ifCond .lt 20, 3) := by decide +kernel
theorem dX8_push_4 : decode cX8_push 4 = .ok (.iload_n 1, 1) := by decide +kernel
theorem dX8_push_5 : decode cX8_push 5 = .ok (.sipush 255, 3) := by decide +kernel
theorem dX8_push_8 : decode cX8_push 8 = .ok (.if_icmp .gt 13, 3) := by decide +kernel
theorem dX8_push_11 : decode cX8_push 11 = .ok (.aload_n 0, 1) := by decide +kernel
theorem dX8_push_12 : decode cX8_push 12 = .ok (.getfield 57, 3) := by decide +kernel
theorem dX8_push_15 : decode cX8_push 15 = .ok (.sipush 8000, 3) := by decide +kernel
theorem dX8_push_18 : decode cX8_push 18 = .ok (.if_icmp .ne 5, 3) := by decide +kernel
theorem dX8_push_21 : decode cX8_push 21 = .ok (.iconst 0, 1) := by decide +kernel
theorem dX8_push_22 : decode cX8_push 22 = .ok (.ireturn, 1) := by decide +kernel
theorem dX8_push_23 : decode cX8_push 23 = .ok (.aload_n 0, 1) := by decide +kernel
theorem dX8_push_24 : decode cX8_push 24 = .ok (.getfield 13, 3) := by decide +kernel
theorem dX8_push_27 : decode cX8_push 27 = .ok (.aload_n 0, 1) := by decide +kernel
theorem dX8_push_28 : decode cX8_push 28 = .ok (.getfield 57, 3) := by decide +kernel
theorem dX8_push_31 : decode cX8_push 31 = .ok (.iload_n 1, 1) := by decide +kernel
theorem dX8_push_32 : decode cX8_push 32 = .ok (.i2b, 1) := by decide +kernel
theorem dX8_push_33 : decode cX8_push 33 = .ok (.bastore, 1) := by decide +kernel
theorem dX8_push_34 : decode cX8_push 34 = .ok (.aload_n 0, 1) := by decide +kernel
theorem dX8_push_35 : decode cX8_push 35 = .ok (.dup, 1) := by decide +kernel
theorem dX8_push_36 : decode cX8_push 36 = .ok (.getfield 57, 3) := by decide +kernel
theorem dX8_push_39 : decode cX8_push 39 = .ok (.iconst 1, 1) := by decide +kernel
theorem dX8_push_40 : decode cX8_push 40 = .ok (.iadd, 1) := by decide +kernel
theorem dX8_push_41 : decode cX8_push 41 = .ok (.putfield 57, 3) := by decide +kernel
theorem dX8_push_44 : decode cX8_push 44 = .ok (.iconst 1, 1) := by decide +kernel
theorem dX8_push_45 : decode cX8_push 45 = .ok (.ireturn, 1) := by decide +kernel
theorem dX8_change_0 : decode cX8_change 0 = .ok (.iload_n 1, 1) := by decide +kernel
theorem dX8_change_1 : decode cX8_change 1 = .ok (.ifCond .lt 22, 3) := by decide +kernel
theorem dX8_change_4 : decode cX8_change 4 = .ok (.iload_n 1, 1) := by decide +kernel
theorem dX8_change_5 : decode cX8_change 5 = .ok (.aload_n 0, 1) := by decide +kernel
theorem dX8_change_6 : decode cX8_change 6 = .ok (.getfield 57, 3) := by decide +kernel
theorem dX8_change_9 : decode cX8_change 9 = .ok (.if_icmp .ge 14, 3) := by decide +kernel
theorem dX8_change_12 : decode cX8_change 12 = .ok (.iload_n 2, 1) := by decide +kernel
theorem dX8_change_13 : decode cX8_change 13 = .ok (.ifCond .lt 10, 3) := by decide +kernel
theorem dX8_change_16 : decode cX8_change 16 = .ok (.iload_n 2, 1) := by decide +kernel
theorem dX8_change_17 : decode cX8_change 17 = .ok (.sipush 255, 3) := by decide +kernel
theorem dX8_change_20 : decode cX8_change 20 = .ok (.if_icmp .le 5, 3) := by decide +kernel
theorem dX8_change_23 : decode cX8_change 23 = .ok (.iconst 0, 1) := by decide +kernel
theorem dX8_change_24 : decode cX8_change 24 = .ok (.ireturn, 1) := by decide +kernel
theorem dX8_change_25 : decode cX8_change 25 = .ok (.aload_n 0, 1) := by decide +kernel
theorem dX8_change_26 : decode cX8_change 26 = .ok (.getfield 13, 3) := by decide +kernel
theorem dX8_change_29 : decode cX8_change 29 = .ok (.iload_n 1, 1) := by decide +kernel
theorem dX8_change_30 : decode cX8_change 30 = .ok (.iload_n 2, 1) := by decide +kernel
theorem dX8_change_31 : decode cX8_change 31 = .ok (.i2b, 1) := by decide +kernel
theorem dX8_change_32 : decode cX8_change 32 = .ok (.bastore, 1) := by decide +kernel
theorem dX8_change_33 : decode cX8_change 33 = .ok (.iconst 1, 1) := by decide +kernel
theorem dX8_change_34 : decode cX8_change 34 = .ok (.ireturn, 1) := by decide +kernel
theorem dX8_keep_0 : decode cX8_keep 0 = .ok (.iload_n 1, 1) := by decide +kernel
theorem dX8_keep_1 : decode cX8_keep 1 = .ok (.ifCond .lt 11, 3) := by decide +kernel
theorem dX8_keep_4 : decode cX8_keep 4 = .ok (.iload_n 1, 1) := by decide +kernel
theorem dX8_keep_5 : decode cX8_keep 5 = .ok (.aload_n 0, 1) := by decide +kernel
theorem dX8_keep_6 : decode cX8_keep 6 = .ok (.getfield 57, 3) := by decide +kernel
theorem dX8_keep_9 : decode cX8_keep 9 = .ok (.if_icmp .le 5, 3) := by decide +kernel
theorem dX8_keep_12 : decode cX8_keep 12 = .ok (.iconst 0, 1) := by decide +kernel
theorem dX8_keep_13 : decode cX8_keep 13 = .ok (.ireturn, 1) := by decide +kernel
theorem dX8_keep_14 : decode cX8_keep 14 = .ok (.aload_n 0, 1) := by decide +kernel
theorem dX8_keep_15 : decode cX8_keep 15 = .ok (.iload_n 1, 1) := by decide +kernel
theorem dX8_keep_16 : decode cX8_keep 16 = .ok (.putfield 57, 3) := by decide +kernel
theorem dX8_keep_19 : decode cX8_keep 19 = .ok (.iconst 1, 1) := by decide +kernel
theorem dX8_keep_20 : decode cX8_keep 20 = .ok (.ireturn, 1) := by decide +kernel
theorem dX8_size_0 : decode cX8_size 0 = .ok (.iload_n 1, 1) := by decide +kernel
theorem dX8_size_1 : decode cX8_size 1 = .ok (.ifCond .ne 10, 3) := by decide +kernel
theorem dX8_size_4 : decode cX8_size 4 = .ok (.aload_n 0, 1) := by decide +kernel
theorem dX8_size_5 : decode cX8_size 5 = .ok (.getfield 54, 3) := by decide +kernel
theorem dX8_size_8 : decode cX8_size 8 = .ok (.goto 28, 3) := by decide +kernel
theorem dX8_size_11 : decode cX8_size 11 = .ok (.iload_n 1, 1) := by decide +kernel
theorem dX8_size_12 : decode cX8_size 12 = .ok (.iconst 1, 1) := by decide +kernel
theorem dX8_size_13 : decode cX8_size 13 = .ok (.if_icmp .ne 10, 3) := by decide +kernel
theorem dX8_size_16 : decode cX8_size 16 = .ok (.aload_n 0, 1) := by decide +kernel
theorem dX8_size_17 : decode cX8_size 17 = .ok (.getfield 57, 3) := by decide +kernel
theorem dX8_size_20 : decode cX8_size 20 = .ok (.goto 16, 3) := by decide +kernel
theorem dX8_size_23 : decode cX8_size 23 = .ok (.iload_n 1, 1) := by decide +kernel
theorem dX8_size_24 : decode cX8_size 24 = .ok (.iconst 2, 1) := by decide +kernel
theorem dX8_size_25 : decode cX8_size 25 = .ok (.if_icmp .ne 10, 3) := by decide +kernel
theorem dX8_size_28 : decode cX8_size 28 = .ok (.aload_n 0, 1) := by decide +kernel
theorem dX8_size_29 : decode cX8_size 29 = .ok (.getfield 60, 3) := by decide +kernel
theorem dX8_size_32 : decode cX8_size 32 = .ok (.goto 4, 3) := by decide +kernel
theorem dX8_size_35 : decode cX8_size 35 = .ok (.iconst (-1), 1) := by decide +kernel
theorem dX8_size_36 : decode cX8_size 36 = .ok (.ireturn, 1) := by decide +kernel
theorem dX8_at_0 : decode cX8_at 0 = .ok (.iload_n 2, 1) := by decide +kernel
theorem dX8_at_1 : decode cX8_at 1 = .ok (.ifCond .lt 12, 3) := by decide +kernel
theorem dX8_at_4 : decode cX8_at 4 = .ok (.iload_n 2, 1) := by decide +kernel
theorem dX8_at_5 : decode cX8_at 5 = .ok (.aload_n 0, 1) := by decide +kernel
theorem dX8_at_6 : decode cX8_at 6 = .ok (.iload_n 1, 1) := by decide +kernel
theorem dX8_at_7 : decode cX8_at 7 = .ok (.invokevirtual 170, 3) := by decide +kernel
theorem dX8_at_10 : decode cX8_at 10 = .ok (.if_icmp .lt 5, 3) := by decide +kernel
theorem dX8_at_13 : decode cX8_at 13 = .ok (.iconst (-1), 1) := by decide +kernel
theorem dX8_at_14 : decode cX8_at 14 = .ok (.ireturn, 1) := by decide +kernel
theorem dX8_at_15 : decode cX8_at 15 = .ok (.iload_n 1, 1) := by decide +kernel
theorem dX8_at_16 : decode cX8_at 16 = .ok (.ifCond .ne 12, 3) := by decide +kernel
theorem dX8_at_19 : decode cX8_at 19 = .ok (.aload_n 0, 1) := by decide +kernel
theorem dX8_at_20 : decode cX8_at 20 = .ok (.getfield 7, 3) := by decide +kernel
theorem dX8_at_23 : decode cX8_at 23 = .ok (.iload_n 2, 1) := by decide +kernel
theorem dX8_at_24 : decode cX8_at 24 = .ok (.baload, 1) := by decide +kernel
theorem dX8_at_25 : decode cX8_at 25 = .ok (.goto 23, 3) := by decide +kernel
theorem dX8_at_28 : decode cX8_at 28 = .ok (.iload_n 1, 1) := by decide +kernel
theorem dX8_at_29 : decode cX8_at 29 = .ok (.iconst 1, 1) := by decide +kernel
theorem dX8_at_30 : decode cX8_at 30 = .ok (.if_icmp .ne 12, 3) := by decide +kernel
theorem dX8_at_33 : decode cX8_at 33 = .ok (.aload_n 0, 1) := by decide +kernel
theorem dX8_at_34 : decode cX8_at 34 = .ok (.getfield 13, 3) := by decide +kernel
theorem dX8_at_37 : decode cX8_at 37 = .ok (.iload_n 2, 1) := by decide +kernel
theorem dX8_at_38 : decode cX8_at 38 = .ok (.baload, 1) := by decide +kernel
theorem dX8_at_39 : decode cX8_at 39 = .ok (.goto 9, 3) := by decide +kernel
theorem dX8_at_42 : decode cX8_at 42 = .ok (.aload_n 0, 1) := by decide +kernel
theorem dX8_at_43 : decode cX8_at 43 = .ok (.getfield 16, 3) := by decide +kernel
theorem dX8_at_46 : decode cX8_at 46 = .ok (.iload_n 2, 1) := by decide +kernel
theorem dX8_at_47 : decode cX8_at 47 = .ok (.baload, 1) := by decide +kernel
theorem dX8_at_48 : decode cX8_at 48 = .ok (.sipush 255, 3) := by decide +kernel
theorem dX8_at_51 : decode cX8_at 51 = .ok (.iand, 1) := by decide +kernel
theorem dX8_at_52 : decode cX8_at 52 = .ok (.ireturn, 1) := by decide +kernel
theorem dX8_step_0 : decode cX8_step 0 = .ok (.iload_n 1, 1) := by decide +kernel
theorem dX8_step_1 : decode cX8_step 1 = .ok (.ifCond .lt 18, 3) := by decide +kernel
theorem dX8_step_4 : decode cX8_step 4 = .ok (.iload_n 1, 1) := by decide +kernel
theorem dX8_step_5 : decode cX8_step 5 = .ok (.aload_n 0, 1) := by decide +kernel
theorem dX8_step_6 : decode cX8_step 6 = .ok (.getfield 73, 3) := by decide +kernel
theorem dX8_step_9 : decode cX8_step 9 = .ok (.if_icmp .ge 10, 3) := by decide +kernel
theorem dX8_step_12 : decode cX8_step 12 = .ok (.iload_n 1, 1) := by decide +kernel
theorem dX8_step_13 : decode cX8_step 13 = .ok (.sipush 20000, 3) := by decide +kernel
theorem dX8_step_16 : decode cX8_step 16 = .ok (.if_icmp .lt 6, 3) := by decide +kernel
theorem dX8_step_19 : decode cX8_step 19 = .ok (.bipush (-2), 2) := by decide +kernel
theorem dX8_step_21 : decode cX8_step 21 = .ok (.ireturn, 1) := by decide +kernel
theorem dX8_step_22 : decode cX8_step 22 = .ok (.aload_n 0, 1) := by decide +kernel
theorem dX8_step_23 : decode cX8_step 23 = .ok (.getfield 43, 3) := by decide +kernel
theorem dX8_step_26 : decode cX8_step 26 = .ok (.iload_n 1, 1) := by decide +kernel
theorem dX8_step_27 : decode cX8_step 27 = .ok (.baload, 1) := by decide +kernel
theorem dX8_step_28 : decode cX8_step 28 = .ok (.bipush 7, 2) := by decide +kernel
theorem dX8_step_30 : decode cX8_step 30 = .ok (.if_icmp .lt 7, 3) := by decide +kernel
theorem dX8_step_33 : decode cX8_step 33 = .ok (.iconst 1, 1) := by decide +kernel
theorem dX8_step_34 : decode cX8_step 34 = .ok (.goto 4, 3) := by decide +kernel
theorem dX8_step_37 : decode cX8_step 37 = .ok (.iconst 0, 1) := by decide +kernel
theorem dX8_step_38 : decode cX8_step 38 = .ok (.istore_n 3, 1) := by decide +kernel
theorem dX8_step_39 : decode cX8_step 39 = .ok (.iload_n 2, 1) := by decide +kernel
theorem dX8_step_40 : decode cX8_step 40 = .ok (.tableswitch 94 0 4 #[36, 46, 56, 66, 84], 36) := by decide +kernel
theorem dX8_step_76 : decode cX8_step 76 = .ok (.aload_n 0, 1) := by decide +kernel
theorem dX8_step_77 : decode cX8_step 77 = .ok (.getfield 34, 3) := by decide +kernel
theorem dX8_step_80 : decode cX8_step 80 = .ok (.iload_n 1, 1) := by decide +kernel
theorem dX8_step_81 : decode cX8_step 81 = .ok (.saload, 1) := by decide +kernel
theorem dX8_step_82 : decode cX8_step 82 = .ok (.ldc 173, 2) := by decide +kernel
theorem dX8_step_84 : decode cX8_step 84 = .ok (.iand, 1) := by decide +kernel
theorem dX8_step_85 : decode cX8_step 85 = .ok (.ireturn, 1) := by decide +kernel
theorem dX8_step_86 : decode cX8_step 86 = .ok (.aload_n 0, 1) := by decide +kernel
theorem dX8_step_87 : decode cX8_step 87 = .ok (.getfield 37, 3) := by decide +kernel
theorem dX8_step_90 : decode cX8_step 90 = .ok (.iload_n 1, 1) := by decide +kernel
theorem dX8_step_91 : decode cX8_step 91 = .ok (.saload, 1) := by decide +kernel
theorem dX8_step_92 : decode cX8_step 92 = .ok (.ldc 173, 2) := by decide +kernel
theorem dX8_step_94 : decode cX8_step 94 = .ok (.iand, 1) := by decide +kernel
theorem dX8_step_95 : decode cX8_step 95 = .ok (.ireturn, 1) := by decide +kernel
theorem dX8_step_96 : decode cX8_step 96 = .ok (.aload_n 0, 1) := by decide +kernel
theorem dX8_step_97 : decode cX8_step 97 = .ok (.getfield 40, 3) := by decide +kernel
theorem dX8_step_100 : decode cX8_step 100 = .ok (.iload_n 1, 1) := by decide +kernel
theorem dX8_step_101 : decode cX8_step 101 = .ok (.saload, 1) := by decide +kernel
theorem dX8_step_102 : decode cX8_step 102 = .ok (.ldc 173, 2) := by decide +kernel
theorem dX8_step_104 : decode cX8_step 104 = .ok (.iand, 1) := by decide +kernel
theorem dX8_step_105 : decode cX8_step 105 = .ok (.ireturn, 1) := by decide +kernel
theorem dX8_step_106 : decode cX8_step 106 = .ok (.aload_n 0, 1) := by decide +kernel
theorem dX8_step_107 : decode cX8_step 107 = .ok (.getfield 43, 3) := by decide +kernel
theorem dX8_step_110 : decode cX8_step 110 = .ok (.iload_n 1, 1) := by decide +kernel
theorem dX8_step_111 : decode cX8_step 111 = .ok (.baload, 1) := by decide +kernel
theorem dX8_step_112 : decode cX8_step 112 = .ok (.iload_n 3, 1) := by decide +kernel
theorem dX8_step_113 : decode cX8_step 113 = .ok (.ifCond .eq 8, 3) := by decide +kernel
theorem dX8_step_116 : decode cX8_step 116 = .ok (.bipush 8, 2) := by decide +kernel
theorem dX8_step_118 : decode cX8_step 118 = .ok (.goto 4, 3) := by decide +kernel
theorem dX8_step_121 : decode cX8_step 121 = .ok (.iconst 0, 1) := by decide +kernel
theorem dX8_step_122 : decode cX8_step 122 = .ok (.isub, 1) := by decide +kernel
theorem dX8_step_123 : decode cX8_step 123 = .ok (.ireturn, 1) := by decide +kernel
theorem dX8_step_124 : decode cX8_step 124 = .ok (.iload_n 3, 1) := by decide +kernel
theorem dX8_step_125 : decode cX8_step 125 = .ok (.ifCond .eq 7, 3) := by decide +kernel
theorem dX8_step_128 : decode cX8_step 128 = .ok (.iconst 1, 1) := by decide +kernel
theorem dX8_step_129 : decode cX8_step 129 = .ok (.goto 4, 3) := by decide +kernel
theorem dX8_step_132 : decode cX8_step 132 = .ok (.iconst 0, 1) := by decide +kernel
theorem dX8_step_133 : decode cX8_step 133 = .ok (.ireturn, 1) := by decide +kernel
theorem dX8_step_134 : decode cX8_step 134 = .ok (.bipush (-2), 2) := by decide +kernel
theorem dX8_step_136 : decode cX8_step 136 = .ok (.ireturn, 1) := by decide +kernel
theorem dX8_count_0 : decode cX8_count 0 = .ok (.iload_n 1, 1) := by decide +kernel
theorem dX8_count_1 : decode cX8_count 1 = .ok (.tableswitch 168 0 7 #[47, 53, 59, 65, 71, 77, 83, 88], 47) := by decide +kernel
theorem dX8_count_48 : decode cX8_count 48 = .ok (.aload_n 0, 1) := by decide +kernel
theorem dX8_count_49 : decode cX8_count 49 = .ok (.getfield 73, 3) := by decide +kernel
theorem dX8_count_52 : decode cX8_count 52 = .ok (.i2l, 1) := by decide +kernel
theorem dX8_count_53 : decode cX8_count 53 = .ok (.lreturn, 1) := by decide +kernel
theorem dX8_count_54 : decode cX8_count 54 = .ok (.aload_n 0, 1) := by decide +kernel
theorem dX8_count_55 : decode cX8_count 55 = .ok (.getfield 76, 3) := by decide +kernel
theorem dX8_count_58 : decode cX8_count 58 = .ok (.i2l, 1) := by decide +kernel
theorem dX8_count_59 : decode cX8_count 59 = .ok (.lreturn, 1) := by decide +kernel
theorem dX8_count_60 : decode cX8_count 60 = .ok (.aload_n 0, 1) := by decide +kernel
theorem dX8_count_61 : decode cX8_count 61 = .ok (.getfield 79, 3) := by decide +kernel
theorem dX8_count_64 : decode cX8_count 64 = .ok (.i2l, 1) := by decide +kernel
theorem dX8_count_65 : decode cX8_count 65 = .ok (.lreturn, 1) := by decide +kernel
theorem dX8_count_66 : decode cX8_count 66 = .ok (.aload_n 0, 1) := by decide +kernel
theorem dX8_count_67 : decode cX8_count 67 = .ok (.getfield 82, 3) := by decide +kernel
theorem dX8_count_70 : decode cX8_count 70 = .ok (.i2l, 1) := by decide +kernel
theorem dX8_count_71 : decode cX8_count 71 = .ok (.lreturn, 1) := by decide +kernel
theorem dX8_count_72 : decode cX8_count 72 = .ok (.aload_n 0, 1) := by decide +kernel
theorem dX8_count_73 : decode cX8_count 73 = .ok (.getfield 85, 3) := by decide +kernel
theorem dX8_count_76 : decode cX8_count 76 = .ok (.i2l, 1) := by decide +kernel
theorem dX8_count_77 : decode cX8_count 77 = .ok (.lreturn, 1) := by decide +kernel
theorem dX8_count_78 : decode cX8_count 78 = .ok (.aload_n 0, 1) := by decide +kernel
theorem dX8_count_79 : decode cX8_count 79 = .ok (.getfield 70, 3) := by decide +kernel
theorem dX8_count_82 : decode cX8_count 82 = .ok (.i2l, 1) := by decide +kernel
theorem dX8_count_83 : decode cX8_count 83 = .ok (.lreturn, 1) := by decide +kernel
theorem dX8_count_84 : decode cX8_count 84 = .ok (.aload_n 0, 1) := by decide +kernel
theorem dX8_count_85 : decode cX8_count 85 = .ok (.getfield 66, 3) := by decide +kernel
theorem dX8_count_88 : decode cX8_count 88 = .ok (.lreturn, 1) := by decide +kernel
theorem dX8_count_89 : decode cX8_count 89 = .ok (.iconst 0, 1) := by decide +kernel
theorem dX8_count_90 : decode cX8_count 90 = .ok (.istore_n 2, 1) := by decide +kernel
theorem dX8_count_91 : decode cX8_count 91 = .ok (.iconst 0, 1) := by decide +kernel
theorem dX8_count_92 : decode cX8_count 92 = .ok (.istore_n 3, 1) := by decide +kernel
theorem dX8_count_93 : decode cX8_count 93 = .ok (.iload_n 3, 1) := by decide +kernel
theorem dX8_count_94 : decode cX8_count 94 = .ok (.aload_n 0, 1) := by decide +kernel
theorem dX8_count_95 : decode cX8_count 95 = .ok (.getfield 70, 3) := by decide +kernel
theorem dX8_count_98 : decode cX8_count 98 = .ok (.if_icmp .ge 68, 3) := by decide +kernel
theorem dX8_count_101 : decode cX8_count 101 = .ok (.iconst 1, 1) := by decide +kernel
theorem dX8_count_102 : decode cX8_count 102 = .ok (.istore 4, 2) := by decide +kernel
theorem dX8_count_104 : decode cX8_count 104 = .ok (.iconst 0, 1) := by decide +kernel
theorem dX8_count_105 : decode cX8_count 105 = .ok (.istore 5, 2) := by decide +kernel
theorem dX8_count_107 : decode cX8_count 107 = .ok (.iload 5, 2) := by decide +kernel
theorem dX8_count_109 : decode cX8_count 109 = .ok (.iload_n 3, 1) := by decide +kernel
theorem dX8_count_110 : decode cX8_count 110 = .ok (.if_icmp .ge 37, 3) := by decide +kernel
theorem dX8_count_113 : decode cX8_count 113 = .ok (.iload 4, 2) := by decide +kernel
theorem dX8_count_115 : decode cX8_count 115 = .ok (.ifCond .eq 32, 3) := by decide +kernel
theorem dX8_count_118 : decode cX8_count 118 = .ok (.aload_n 0, 1) := by decide +kernel
theorem dX8_count_119 : decode cX8_count 119 = .ok (.getfield 23, 3) := by decide +kernel
theorem dX8_count_122 : decode cX8_count 122 = .ok (.iload 5, 2) := by decide +kernel
theorem dX8_count_124 : decode cX8_count 124 = .ok (.iaload, 1) := by decide +kernel
theorem dX8_count_125 : decode cX8_count 125 = .ok (.aload_n 0, 1) := by decide +kernel
theorem dX8_count_126 : decode cX8_count 126 = .ok (.getfield 23, 3) := by decide +kernel
theorem dX8_count_129 : decode cX8_count 129 = .ok (.iload_n 3, 1) := by decide +kernel
theorem dX8_count_130 : decode cX8_count 130 = .ok (.iaload, 1) := by decide +kernel
theorem dX8_count_131 : decode cX8_count 131 = .ok (.if_icmp .eq 7, 3) := by decide +kernel
theorem dX8_count_134 : decode cX8_count 134 = .ok (.iconst 1, 1) := by decide +kernel
theorem dX8_count_135 : decode cX8_count 135 = .ok (.goto 4, 3) := by decide +kernel
theorem dX8_count_138 : decode cX8_count 138 = .ok (.iconst 0, 1) := by decide +kernel
theorem dX8_count_139 : decode cX8_count 139 = .ok (.istore 4, 2) := by decide +kernel
theorem dX8_count_141 : decode cX8_count 141 = .ok (.iinc 5 1, 3) := by decide +kernel
theorem dX8_count_144 : decode cX8_count 144 = .ok (.goto (-37), 3) := by decide +kernel
theorem dX8_count_147 : decode cX8_count 147 = .ok (.iload_n 2, 1) := by decide +kernel
theorem dX8_count_148 : decode cX8_count 148 = .ok (.iload 4, 2) := by decide +kernel
theorem dX8_count_150 : decode cX8_count 150 = .ok (.ifCond .eq 7, 3) := by decide +kernel
theorem dX8_count_153 : decode cX8_count 153 = .ok (.iconst 1, 1) := by decide +kernel
theorem dX8_count_154 : decode cX8_count 154 = .ok (.goto 4, 3) := by decide +kernel
theorem dX8_count_157 : decode cX8_count 157 = .ok (.iconst 0, 1) := by decide +kernel
theorem dX8_count_158 : decode cX8_count 158 = .ok (.iadd, 1) := by decide +kernel
theorem dX8_count_159 : decode cX8_count 159 = .ok (.istore_n 2, 1) := by decide +kernel
theorem dX8_count_160 : decode cX8_count 160 = .ok (.iinc 3 1, 3) := by decide +kernel
theorem dX8_count_163 : decode cX8_count 163 = .ok (.goto (-70), 3) := by decide +kernel
theorem dX8_count_166 : decode cX8_count 166 = .ok (.iload_n 2, 1) := by decide +kernel
theorem dX8_count_167 : decode cX8_count 167 = .ok (.i2l, 1) := by decide +kernel
theorem dX8_count_168 : decode cX8_count 168 = .ok (.lreturn, 1) := by decide +kernel
theorem dX8_count_169 : decode cX8_count 169 = .ok (.ldc2_w 174, 3) := by decide +kernel
theorem dX8_count_172 : decode cX8_count 172 = .ok (.lreturn, 1) := by decide +kernel
theorem dX8_isByte_0 : decode cX8_isByte 0 = .ok (.iload_n 0, 1) := by decide +kernel
theorem dX8_isByte_1 : decode cX8_isByte 1 = .ok (.ifCond .lt 14, 3) := by decide +kernel
theorem dX8_isByte_4 : decode cX8_isByte 4 = .ok (.iload_n 0, 1) := by decide +kernel
theorem dX8_isByte_5 : decode cX8_isByte 5 = .ok (.sipush 255, 3) := by decide +kernel
theorem dX8_isByte_8 : decode cX8_isByte 8 = .ok (.if_icmp .gt 7, 3) := by decide +kernel
theorem dX8_isByte_11 : decode cX8_isByte 11 = .ok (.iconst 1, 1) := by decide +kernel
theorem dX8_isByte_12 : decode cX8_isByte 12 = .ok (.goto 4, 3) := by decide +kernel
theorem dX8_isByte_15 : decode cX8_isByte 15 = .ok (.iconst 0, 1) := by decide +kernel
theorem dX8_isByte_16 : decode cX8_isByte 16 = .ok (.ireturn, 1) := by decide +kernel
theorem dX8_isContext_0 : decode cX8_isContext 0 = .ok (.iload_n 0, 1) := by decide +kernel
theorem dX8_isContext_1 : decode cX8_isContext 1 = .ok (.ifCond .lt 35, 3) := by decide +kernel
theorem dX8_isContext_4 : decode cX8_isContext 4 = .ok (.iload_n 0, 1) := by decide +kernel
theorem dX8_isContext_5 : decode cX8_isContext 5 = .ok (.iconst 2, 1) := by decide +kernel
theorem dX8_isContext_6 : decode cX8_isContext 6 = .ok (.if_icmp .gt 30, 3) := by decide +kernel
theorem dX8_isContext_9 : decode cX8_isContext 9 = .ok (.iload_n 0, 1) := by decide +kernel
theorem dX8_isContext_10 : decode cX8_isContext 10 = .ok (.ifCond .eq 10, 3) := by decide +kernel
theorem dX8_isContext_13 : decode cX8_isContext 13 = .ok (.iload_n 1, 1) := by decide +kernel
theorem dX8_isContext_14 : decode cX8_isContext 14 = .ok (.invokestatic 176, 3) := by decide +kernel
theorem dX8_isContext_17 : decode cX8_isContext 17 = .ok (.ifCond .eq 19, 3) := by decide +kernel
theorem dX8_isContext_20 : decode cX8_isContext 20 = .ok (.iload_n 0, 1) := by decide +kernel
theorem dX8_isContext_21 : decode cX8_isContext 21 = .ok (.iconst 2, 1) := by decide +kernel
theorem dX8_isContext_22 : decode cX8_isContext 22 = .ok (.if_icmp .lt 10, 3) := by decide +kernel
theorem dX8_isContext_25 : decode cX8_isContext 25 = .ok (.iload_n 2, 1) := by decide +kernel
theorem dX8_isContext_26 : decode cX8_isContext 26 = .ok (.invokestatic 176, 3) := by decide +kernel
theorem dX8_isContext_29 : decode cX8_isContext 29 = .ok (.ifCond .eq 7, 3) := by decide +kernel
theorem dX8_isContext_32 : decode cX8_isContext 32 = .ok (.iconst 1, 1) := by decide +kernel
theorem dX8_isContext_33 : decode cX8_isContext 33 = .ok (.goto 4, 3) := by decide +kernel
theorem dX8_isContext_36 : decode cX8_isContext 36 = .ok (.iconst 0, 1) := by decide +kernel
theorem dX8_isContext_37 : decode cX8_isContext 37 = .ok (.ireturn, 1) := by decide +kernel
theorem dX8_learnt_0 : decode cX8_learnt 0 = .ok (.iload_n 1, 1) := by decide +kernel
theorem dX8_learnt_1 : decode cX8_learnt 1 = .ok (.iload_n 2, 1) := by decide +kernel
theorem dX8_learnt_2 : decode cX8_learnt 2 = .ok (.iload_n 3, 1) := by decide +kernel
theorem dX8_learnt_3 : decode cX8_learnt 3 = .ok (.invokestatic 179, 3) := by decide +kernel
theorem dX8_learnt_6 : decode cX8_learnt 6 = .ok (.ifCond .eq 11, 3) := by decide +kernel
theorem dX8_learnt_9 : decode cX8_learnt 9 = .ok (.iload 4, 2) := by decide +kernel
theorem dX8_learnt_11 : decode cX8_learnt 11 = .ok (.invokestatic 176, 3) := by decide +kernel
theorem dX8_learnt_14 : decode cX8_learnt 14 = .ok (.ifCond .ne 5, 3) := by decide +kernel
theorem dX8_learnt_17 : decode cX8_learnt 17 = .ok (.iconst 0, 1) := by decide +kernel
theorem dX8_learnt_18 : decode cX8_learnt 18 = .ok (.ireturn, 1) := by decide +kernel
theorem dX8_learnt_19 : decode cX8_learnt 19 = .ok (.aload_n 0, 1) := by decide +kernel
theorem dX8_learnt_20 : decode cX8_learnt 20 = .ok (.iload_n 1, 1) := by decide +kernel
theorem dX8_learnt_21 : decode cX8_learnt 21 = .ok (.iload_n 2, 1) := by decide +kernel
theorem dX8_learnt_22 : decode cX8_learnt 22 = .ok (.iload_n 3, 1) := by decide +kernel
theorem dX8_learnt_23 : decode cX8_learnt 23 = .ok (.invokestatic 99, 3) := by decide +kernel
theorem dX8_learnt_26 : decode cX8_learnt 26 = .ok (.iload 4, 2) := by decide +kernel
theorem dX8_learnt_28 : decode cX8_learnt 28 = .ok (.invokevirtual 107, 3) := by decide +kernel
theorem dX8_learnt_31 : decode cX8_learnt 31 = .ok (.istore 5, 2) := by decide +kernel
theorem dX8_learnt_33 : decode cX8_learnt 33 = .ok (.iload 5, 2) := by decide +kernel
theorem dX8_learnt_35 : decode cX8_learnt 35 = .ok (.iconst (-1), 1) := by decide +kernel
theorem dX8_learnt_36 : decode cX8_learnt 36 = .ok (.if_icmp .ne 7, 3) := by decide +kernel
theorem dX8_learnt_39 : decode cX8_learnt 39 = .ok (.iconst 0, 1) := by decide +kernel
theorem dX8_learnt_40 : decode cX8_learnt 40 = .ok (.goto 10, 3) := by decide +kernel
theorem dX8_learnt_43 : decode cX8_learnt 43 = .ok (.aload_n 0, 1) := by decide +kernel
theorem dX8_learnt_44 : decode cX8_learnt 44 = .ok (.getfield 31, 3) := by decide +kernel
theorem dX8_learnt_47 : decode cX8_learnt 47 = .ok (.iload 5, 2) := by decide +kernel
theorem dX8_learnt_49 : decode cX8_learnt 49 = .ok (.saload, 1) := by decide +kernel
theorem dX8_learnt_50 : decode cX8_learnt 50 = .ok (.ireturn, 1) := by decide +kernel
theorem dX8_node_0 : decode cX8_node 0 = .ok (.iload_n 1, 1) := by decide +kernel
theorem dX8_node_1 : decode cX8_node 1 = .ok (.iload_n 2, 1) := by decide +kernel
theorem dX8_node_2 : decode cX8_node 2 = .ok (.iload_n 3, 1) := by decide +kernel
theorem dX8_node_3 : decode cX8_node 3 = .ok (.invokestatic 179, 3) := by decide +kernel
theorem dX8_node_6 : decode cX8_node 6 = .ok (.ifCond .eq 8, 3) := by decide +kernel
theorem dX8_node_9 : decode cX8_node 9 = .ok (.iload 4, 2) := by decide +kernel
theorem dX8_node_11 : decode cX8_node 11 = .ok (.ifCond .ge 5, 3) := by decide +kernel
theorem dX8_node_14 : decode cX8_node 14 = .ok (.iconst (-1), 1) := by decide +kernel
theorem dX8_node_15 : decode cX8_node 15 = .ok (.ireturn, 1) := by decide +kernel
theorem dX8_node_16 : decode cX8_node 16 = .ok (.iload_n 1, 1) := by decide +kernel
theorem dX8_node_17 : decode cX8_node 17 = .ok (.iload_n 2, 1) := by decide +kernel
theorem dX8_node_18 : decode cX8_node 18 = .ok (.iload_n 3, 1) := by decide +kernel
theorem dX8_node_19 : decode cX8_node 19 = .ok (.invokestatic 99, 3) := by decide +kernel
theorem dX8_node_22 : decode cX8_node 22 = .ok (.istore 5, 2) := by decide +kernel
theorem dX8_node_24 : decode cX8_node 24 = .ok (.iconst 0, 1) := by decide +kernel
theorem dX8_node_25 : decode cX8_node 25 = .ok (.istore 6, 2) := by decide +kernel
theorem dX8_node_27 : decode cX8_node 27 = .ok (.iconst 0, 1) := by decide +kernel
theorem dX8_node_28 : decode cX8_node 28 = .ok (.istore 7, 2) := by decide +kernel
theorem dX8_node_30 : decode cX8_node 30 = .ok (.iload 7, 2) := by decide +kernel
theorem dX8_node_32 : decode cX8_node 32 = .ok (.aload_n 0, 1) := by decide +kernel
theorem dX8_node_33 : decode cX8_node 33 = .ok (.getfield 70, 3) := by decide +kernel
theorem dX8_node_36 : decode cX8_node 36 = .ok (.if_icmp .ge 39, 3) := by decide +kernel
theorem dX8_node_39 : decode cX8_node 39 = .ok (.aload_n 0, 1) := by decide +kernel
theorem dX8_node_40 : decode cX8_node 40 = .ok (.getfield 23, 3) := by decide +kernel
theorem dX8_node_43 : decode cX8_node 43 = .ok (.iload 7, 2) := by decide +kernel
theorem dX8_node_45 : decode cX8_node 45 = .ok (.iaload, 1) := by decide +kernel
theorem dX8_node_46 : decode cX8_node 46 = .ok (.iload 5, 2) := by decide +kernel
theorem dX8_node_48 : decode cX8_node 48 = .ok (.if_icmp .ne 21, 3) := by decide +kernel
theorem dX8_node_51 : decode cX8_node 51 = .ok (.iload 6, 2) := by decide +kernel
theorem dX8_node_53 : decode cX8_node 53 = .ok (.iload 4, 2) := by decide +kernel
theorem dX8_node_55 : decode cX8_node 55 = .ok (.if_icmp .ne 11, 3) := by decide +kernel
theorem dX8_node_58 : decode cX8_node 58 = .ok (.aload_n 0, 1) := by decide +kernel
theorem dX8_node_59 : decode cX8_node 59 = .ok (.getfield 27, 3) := by decide +kernel
theorem dX8_node_62 : decode cX8_node 62 = .ok (.iload 7, 2) := by decide +kernel
theorem dX8_node_64 : decode cX8_node 64 = .ok (.saload, 1) := by decide +kernel
theorem dX8_node_65 : decode cX8_node 65 = .ok (.ireturn, 1) := by decide +kernel
theorem dX8_node_66 : decode cX8_node 66 = .ok (.iinc 6 1, 3) := by decide +kernel
theorem dX8_node_69 : decode cX8_node 69 = .ok (.iinc 7 1, 3) := by decide +kernel
theorem dX8_node_72 : decode cX8_node 72 = .ok (.goto (-42), 3) := by decide +kernel
theorem dX8_node_75 : decode cX8_node 75 = .ok (.iconst (-1), 1) := by decide +kernel
theorem dX8_node_76 : decode cX8_node 76 = .ok (.ireturn, 1) := by decide +kernel
theorem dJ9_max_7cf53_0 : decode cJ9_max_7cf53 0 = .ok (.iload_n 0, 1) := by decide +kernel
theorem dJ9_max_7cf53_1 : decode cJ9_max_7cf53 1 = .ok (.iload_n 1, 1) := by decide +kernel
theorem dJ9_max_7cf53_2 : decode cJ9_max_7cf53 2 = .ok (.if_icmp .lt 7, 3) := by decide +kernel
theorem dJ9_max_7cf53_5 : decode cJ9_max_7cf53 5 = .ok (.iload_n 0, 1) := by decide +kernel
theorem dJ9_max_7cf53_6 : decode cJ9_max_7cf53 6 = .ok (.goto 4, 3) := by decide +kernel
theorem dJ9_max_7cf53_9 : decode cJ9_max_7cf53 9 = .ok (.iload_n 1, 1) := by decide +kernel
theorem dJ9_max_7cf53_10 : decode cJ9_max_7cf53 10 = .ok (.ireturn, 1) := by decide +kernel
theorem dJ9_min_7cf53_0 : decode cJ9_min_7cf53 0 = .ok (.iload_n 0, 1) := by decide +kernel
theorem dJ9_min_7cf53_1 : decode cJ9_min_7cf53 1 = .ok (.iload_n 1, 1) := by decide +kernel
theorem dJ9_min_7cf53_2 : decode cJ9_min_7cf53 2 = .ok (.if_icmp .gt 7, 3) := by decide +kernel
theorem dJ9_min_7cf53_5 : decode cJ9_min_7cf53 5 = .ok (.iload_n 0, 1) := by decide +kernel
theorem dJ9_min_7cf53_6 : decode cJ9_min_7cf53 6 = .ok (.goto 4, 3) := by decide +kernel
theorem dJ9_min_7cf53_9 : decode cJ9_min_7cf53 9 = .ok (.iload_n 1, 1) := by decide +kernel
theorem dJ9_min_7cf53_10 : decode cJ9_min_7cf53 10 = .ok (.ireturn, 1) := by decide +kernel
theorem dJ9_min_f86c9_0 : decode cJ9_min_f86c9 0 = .ok (.lload_n 0, 1) := by decide +kernel
theorem dJ9_min_f86c9_1 : decode cJ9_min_f86c9 1 = .ok (.lload_n 2, 1) := by decide +kernel
theorem dJ9_min_f86c9_2 : decode cJ9_min_f86c9 2 = .ok (.lcmp, 1) := by decide +kernel
theorem dJ9_min_f86c9_3 : decode cJ9_min_f86c9 3 = .ok (.ifCond .gt 7, 3) := by decide +kernel
theorem dJ9_min_f86c9_6 : decode cJ9_min_f86c9 6 = .ok (.lload_n 0, 1) := by decide +kernel
theorem dJ9_min_f86c9_7 : decode cJ9_min_f86c9 7 = .ok (.goto 4, 3) := by decide +kernel
theorem dJ9_min_f86c9_10 : decode cJ9_min_f86c9 10 = .ok (.lload_n 2, 1) := by decide +kernel
theorem dJ9_min_f86c9_11 : decode cJ9_min_f86c9 11 = .ok (.lreturn, 1) := by decide +kernel
theorem dJ7_fill_53178_0 : decode cJ7_fill_53178 0 = .ok (.iconst 0, 1) := by decide +kernel
theorem dJ7_fill_53178_1 : decode cJ7_fill_53178 1 = .ok (.istore_n 2, 1) := by decide +kernel
theorem dJ7_fill_53178_2 : decode cJ7_fill_53178 2 = .ok (.aload_n 0, 1) := by decide +kernel
theorem dJ7_fill_53178_3 : decode cJ7_fill_53178 3 = .ok (.arraylength, 1) := by decide +kernel
theorem dJ7_fill_53178_4 : decode cJ7_fill_53178 4 = .ok (.istore_n 3, 1) := by decide +kernel
theorem dJ7_fill_53178_5 : decode cJ7_fill_53178 5 = .ok (.iload_n 2, 1) := by decide +kernel
theorem dJ7_fill_53178_6 : decode cJ7_fill_53178 6 = .ok (.iload_n 3, 1) := by decide +kernel
theorem dJ7_fill_53178_7 : decode cJ7_fill_53178 7 = .ok (.if_icmp .ge 13, 3) := by decide +kernel
theorem dJ7_fill_53178_10 : decode cJ7_fill_53178 10 = .ok (.aload_n 0, 1) := by decide +kernel
theorem dJ7_fill_53178_11 : decode cJ7_fill_53178 11 = .ok (.iload_n 2, 1) := by decide +kernel
theorem dJ7_fill_53178_12 : decode cJ7_fill_53178 12 = .ok (.iload_n 1, 1) := by decide +kernel
theorem dJ7_fill_53178_13 : decode cJ7_fill_53178 13 = .ok (.iastore, 1) := by decide +kernel
theorem dJ7_fill_53178_14 : decode cJ7_fill_53178 14 = .ok (.iinc 2 1, 3) := by decide +kernel
theorem dJ7_fill_53178_17 : decode cJ7_fill_53178 17 = .ok (.goto (-12), 3) := by decide +kernel
theorem dJ7_fill_53178_20 : decode cJ7_fill_53178 20 = .ok (.return_, 1) := by decide +kernel
theorem dJ7_copyOf_59c91_0 : decode cJ7_copyOf_59c91 0 = .ok (.iload_n 1, 1) := by decide +kernel
theorem dJ7_copyOf_59c91_1 : decode cJ7_copyOf_59c91 1 = .ok (.aload_n 0, 1) := by decide +kernel
theorem dJ7_copyOf_59c91_2 : decode cJ7_copyOf_59c91 2 = .ok (.arraylength, 1) := by decide +kernel
theorem dJ7_copyOf_59c91_3 : decode cJ7_copyOf_59c91 3 = .ok (.if_icmp .ne 11, 3) := by decide +kernel
theorem dJ7_copyOf_59c91_6 : decode cJ7_copyOf_59c91 6 = .ok (.aload_n 0, 1) := by decide +kernel
theorem dJ7_copyOf_59c91_7 : decode cJ7_copyOf_59c91 7 = .ok (.invokevirtual 316, 3) := by decide +kernel
theorem dJ7_copyOf_59c91_10 : decode cJ7_copyOf_59c91 10 = .ok (.checkcast 317, 3) := by decide +kernel
theorem dJ7_copyOf_59c91_13 : decode cJ7_copyOf_59c91 13 = .ok (.areturn, 1) := by decide +kernel
theorem dJ7_copyOf_59c91_14 : decode cJ7_copyOf_59c91 14 = .ok (.iload_n 1, 1) := by decide +kernel
theorem dJ7_copyOf_59c91_15 : decode cJ7_copyOf_59c91 15 = .ok (.newarray .int, 2) := by decide +kernel
theorem dJ7_copyOf_59c91_17 : decode cJ7_copyOf_59c91 17 = .ok (.astore_n 2, 1) := by decide +kernel
theorem dJ7_copyOf_59c91_18 : decode cJ7_copyOf_59c91 18 = .ok (.aload_n 0, 1) := by decide +kernel
theorem dJ7_copyOf_59c91_19 : decode cJ7_copyOf_59c91 19 = .ok (.iconst 0, 1) := by decide +kernel
theorem dJ7_copyOf_59c91_20 : decode cJ7_copyOf_59c91 20 = .ok (.aload_n 2, 1) := by decide +kernel
theorem dJ7_copyOf_59c91_21 : decode cJ7_copyOf_59c91 21 = .ok (.iconst 0, 1) := by decide +kernel
theorem dJ7_copyOf_59c91_22 : decode cJ7_copyOf_59c91 22 = .ok (.aload_n 0, 1) := by decide +kernel
theorem dJ7_copyOf_59c91_23 : decode cJ7_copyOf_59c91 23 = .ok (.arraylength, 1) := by decide +kernel
theorem dJ7_copyOf_59c91_24 : decode cJ7_copyOf_59c91 24 = .ok (.iload_n 1, 1) := by decide +kernel
theorem dJ7_copyOf_59c91_25 : decode cJ7_copyOf_59c91 25 = .ok (.invokestatic 304, 3) := by decide +kernel
theorem dJ7_copyOf_59c91_28 : decode cJ7_copyOf_59c91 28 = .ok (.invokestatic 150, 3) := by decide +kernel
theorem dJ7_copyOf_59c91_31 : decode cJ7_copyOf_59c91 31 = .ok (.aload_n 2, 1) := by decide +kernel
theorem dJ7_copyOf_59c91_32 : decode cJ7_copyOf_59c91 32 = .ok (.areturn, 1) := by decide +kernel
theorem dJ7_copyOf_c38d5_0 : decode cJ7_copyOf_c38d5 0 = .ok (.iload_n 1, 1) := by decide +kernel
theorem dJ7_copyOf_c38d5_1 : decode cJ7_copyOf_c38d5 1 = .ok (.aload_n 0, 1) := by decide +kernel
theorem dJ7_copyOf_c38d5_2 : decode cJ7_copyOf_c38d5 2 = .ok (.arraylength, 1) := by decide +kernel
theorem dJ7_copyOf_c38d5_3 : decode cJ7_copyOf_c38d5 3 = .ok (.if_icmp .ne 11, 3) := by decide +kernel
theorem dJ7_copyOf_c38d5_6 : decode cJ7_copyOf_c38d5 6 = .ok (.aload_n 0, 1) := by decide +kernel
theorem dJ7_copyOf_c38d5_7 : decode cJ7_copyOf_c38d5 7 = .ok (.invokevirtual 319, 3) := by decide +kernel
theorem dJ7_copyOf_c38d5_10 : decode cJ7_copyOf_c38d5 10 = .ok (.checkcast 320, 3) := by decide +kernel
theorem dJ7_copyOf_c38d5_13 : decode cJ7_copyOf_c38d5 13 = .ok (.areturn, 1) := by decide +kernel
theorem dJ7_copyOf_c38d5_14 : decode cJ7_copyOf_c38d5 14 = .ok (.iload_n 1, 1) := by decide +kernel
theorem dJ7_copyOf_c38d5_15 : decode cJ7_copyOf_c38d5 15 = .ok (.newarray .long, 2) := by decide +kernel
theorem dJ7_copyOf_c38d5_17 : decode cJ7_copyOf_c38d5 17 = .ok (.astore_n 2, 1) := by decide +kernel
theorem dJ7_copyOf_c38d5_18 : decode cJ7_copyOf_c38d5 18 = .ok (.aload_n 0, 1) := by decide +kernel
theorem dJ7_copyOf_c38d5_19 : decode cJ7_copyOf_c38d5 19 = .ok (.iconst 0, 1) := by decide +kernel
theorem dJ7_copyOf_c38d5_20 : decode cJ7_copyOf_c38d5 20 = .ok (.aload_n 2, 1) := by decide +kernel
theorem dJ7_copyOf_c38d5_21 : decode cJ7_copyOf_c38d5 21 = .ok (.iconst 0, 1) := by decide +kernel
theorem dJ7_copyOf_c38d5_22 : decode cJ7_copyOf_c38d5 22 = .ok (.aload_n 0, 1) := by decide +kernel
theorem dJ7_copyOf_c38d5_23 : decode cJ7_copyOf_c38d5 23 = .ok (.arraylength, 1) := by decide +kernel
theorem dJ7_copyOf_c38d5_24 : decode cJ7_copyOf_c38d5 24 = .ok (.iload_n 1, 1) := by decide +kernel
theorem dJ7_copyOf_c38d5_25 : decode cJ7_copyOf_c38d5 25 = .ok (.invokestatic 304, 3) := by decide +kernel
theorem dJ7_copyOf_c38d5_28 : decode cJ7_copyOf_c38d5 28 = .ok (.invokestatic 150, 3) := by decide +kernel
theorem dJ7_copyOf_c38d5_31 : decode cJ7_copyOf_c38d5 31 = .ok (.aload_n 2, 1) := by decide +kernel
theorem dJ7_copyOf_c38d5_32 : decode cJ7_copyOf_c38d5 32 = .ok (.areturn, 1) := by decide +kernel
theorem dL_law_0 : decode cL_law 0 = .ok (.new 7, 3) := by decide +kernel
theorem dL_law_3 : decode cL_law 3 = .ok (.dup, 1) := by decide +kernel
theorem dL_law_4 : decode cL_law 4 = .ok (.invokespecial 9, 3) := by decide +kernel
theorem dL_law_7 : decode cL_law 7 = .ok (.astore_n 1, 1) := by decide +kernel
theorem dL_law_8 : decode cL_law 8 = .ok (.new 10, 3) := by decide +kernel
theorem dL_law_11 : decode cL_law 11 = .ok (.dup, 1) := by decide +kernel
theorem dL_law_12 : decode cL_law 12 = .ok (.invokespecial 12, 3) := by decide +kernel
theorem dL_law_15 : decode cL_law 15 = .ok (.astore_n 2, 1) := by decide +kernel
theorem dL_law_16 : decode cL_law 16 = .ok (.iconst 0, 1) := by decide +kernel
theorem dL_law_17 : decode cL_law 17 = .ok (.istore_n 3, 1) := by decide +kernel
theorem dL_law_18 : decode cL_law 18 = .ok (.iload_n 3, 1) := by decide +kernel
theorem dL_law_19 : decode cL_law 19 = .ok (.aload_n 0, 1) := by decide +kernel
theorem dL_law_20 : decode cL_law 20 = .ok (.arraylength, 1) := by decide +kernel
theorem dL_law_21 : decode cL_law 21 = .ok (.iconst 5, 1) := by decide +kernel
theorem dL_law_22 : decode cL_law 22 = .ok (.isub, 1) := by decide +kernel
theorem dL_law_23 : decode cL_law 23 = .ok (.if_icmp .gt 480, 3) := by decide +kernel
theorem dL_law_26 : decode cL_law 26 = .ok (.aload_n 0, 1) := by decide +kernel
theorem dL_law_27 : decode cL_law 27 = .ok (.iload_n 3, 1) := by decide +kernel
theorem dL_law_28 : decode cL_law 28 = .ok (.iaload, 1) := by decide +kernel
theorem dL_law_29 : decode cL_law 29 = .ok (.bipush 15, 2) := by decide +kernel
theorem dL_law_31 : decode cL_law 31 = .ok (.iand, 1) := by decide +kernel
theorem dL_law_32 : decode cL_law 32 = .ok (.tableswitch 465 0 13 #[72, 95, 118, 141, 154, 167, 190, 223, 246, 279, 302, 335, 359, 412], 72) := by decide +kernel
theorem dL_law_104 : decode cL_law 104 = .ok (.aload_n 1, 1) := by decide +kernel
theorem dL_law_105 : decode cL_law 105 = .ok (.aload_n 0, 1) := by decide +kernel
theorem dL_law_106 : decode cL_law 106 = .ok (.iload_n 3, 1) := by decide +kernel
theorem dL_law_107 : decode cL_law 107 = .ok (.iconst 1, 1) := by decide +kernel
theorem dL_law_108 : decode cL_law 108 = .ok (.iadd, 1) := by decide +kernel
theorem dL_law_109 : decode cL_law 109 = .ok (.iaload, 1) := by decide +kernel
theorem dL_law_110 : decode cL_law 110 = .ok (.invokevirtual 13, 3) := by decide +kernel
theorem dL_law_113 : decode cL_law 113 = .ok (.aload_n 2, 1) := by decide +kernel
theorem dL_law_114 : decode cL_law 114 = .ok (.aload_n 0, 1) := by decide +kernel
theorem dL_law_115 : decode cL_law 115 = .ok (.iload_n 3, 1) := by decide +kernel
theorem dL_law_116 : decode cL_law 116 = .ok (.iconst 1, 1) := by decide +kernel
theorem dL_law_117 : decode cL_law 117 = .ok (.iadd, 1) := by decide +kernel
theorem dL_law_118 : decode cL_law 118 = .ok (.iaload, 1) := by decide +kernel
theorem dL_law_119 : decode cL_law 119 = .ok (.invokevirtual 17, 3) := by decide +kernel
theorem dL_law_122 : decode cL_law 122 = .ok (.if_icmp .eq 375, 3) := by decide +kernel
theorem dL_law_125 : decode cL_law 125 = .ok (.iconst 0, 1) := by decide +kernel
theorem dL_law_126 : decode cL_law 126 = .ok (.ireturn, 1) := by decide +kernel
theorem dL_law_127 : decode cL_law 127 = .ok (.aload_n 1, 1) := by decide +kernel
theorem dL_law_128 : decode cL_law 128 = .ok (.aload_n 0, 1) := by decide +kernel
theorem dL_law_129 : decode cL_law 129 = .ok (.iload_n 3, 1) := by decide +kernel
theorem dL_law_130 : decode cL_law 130 = .ok (.iconst 1, 1) := by decide +kernel
theorem dL_law_131 : decode cL_law 131 = .ok (.iadd, 1) := by decide +kernel
theorem dL_law_132 : decode cL_law 132 = .ok (.iaload, 1) := by decide +kernel
theorem dL_law_133 : decode cL_law 133 = .ok (.invokevirtual 18, 3) := by decide +kernel
theorem dL_law_136 : decode cL_law 136 = .ok (.aload_n 2, 1) := by decide +kernel
theorem dL_law_137 : decode cL_law 137 = .ok (.aload_n 0, 1) := by decide +kernel
theorem dL_law_138 : decode cL_law 138 = .ok (.iload_n 3, 1) := by decide +kernel
theorem dL_law_139 : decode cL_law 139 = .ok (.iconst 1, 1) := by decide +kernel
theorem dL_law_140 : decode cL_law 140 = .ok (.iadd, 1) := by decide +kernel
theorem dL_law_141 : decode cL_law 141 = .ok (.iaload, 1) := by decide +kernel
theorem dL_law_142 : decode cL_law 142 = .ok (.invokevirtual 21, 3) := by decide +kernel
theorem dL_law_145 : decode cL_law 145 = .ok (.if_icmp .eq 352, 3) := by decide +kernel
theorem dL_law_148 : decode cL_law 148 = .ok (.iconst 0, 1) := by decide +kernel
theorem dL_law_149 : decode cL_law 149 = .ok (.ireturn, 1) := by decide +kernel
theorem dL_law_150 : decode cL_law 150 = .ok (.aload_n 1, 1) := by decide +kernel
theorem dL_law_151 : decode cL_law 151 = .ok (.aload_n 0, 1) := by decide +kernel
theorem dL_law_152 : decode cL_law 152 = .ok (.iload_n 3, 1) := by decide +kernel
theorem dL_law_153 : decode cL_law 153 = .ok (.iconst 1, 1) := by decide +kernel
theorem dL_law_154 : decode cL_law 154 = .ok (.iadd, 1) := by decide +kernel
theorem dL_law_155 : decode cL_law 155 = .ok (.iaload, 1) := by decide +kernel
theorem dL_law_156 : decode cL_law 156 = .ok (.invokevirtual 22, 3) := by decide +kernel
theorem dL_law_159 : decode cL_law 159 = .ok (.aload_n 2, 1) := by decide +kernel
theorem dL_law_160 : decode cL_law 160 = .ok (.aload_n 0, 1) := by decide +kernel
theorem dL_law_161 : decode cL_law 161 = .ok (.iload_n 3, 1) := by decide +kernel
theorem dL_law_162 : decode cL_law 162 = .ok (.iconst 1, 1) := by decide +kernel
theorem dL_law_163 : decode cL_law 163 = .ok (.iadd, 1) := by decide +kernel
theorem dL_law_164 : decode cL_law 164 = .ok (.iaload, 1) := by decide +kernel
theorem dL_law_165 : decode cL_law 165 = .ok (.invokevirtual 25, 3) := by decide +kernel
theorem dL_law_168 : decode cL_law 168 = .ok (.if_icmp .eq 329, 3) := by decide +kernel
theorem dL_law_171 : decode cL_law 171 = .ok (.iconst 0, 1) := by decide +kernel
theorem dL_law_172 : decode cL_law 172 = .ok (.ireturn, 1) := by decide +kernel
theorem dL_law_173 : decode cL_law 173 = .ok (.aload_n 1, 1) := by decide +kernel
theorem dL_law_174 : decode cL_law 174 = .ok (.invokevirtual 26, 3) := by decide +kernel
theorem dL_law_177 : decode cL_law 177 = .ok (.aload_n 2, 1) := by decide +kernel
theorem dL_law_178 : decode cL_law 178 = .ok (.invokevirtual 30, 3) := by decide +kernel
theorem dL_law_181 : decode cL_law 181 = .ok (.if_icmp .eq 316, 3) := by decide +kernel
theorem dL_law_184 : decode cL_law 184 = .ok (.iconst 0, 1) := by decide +kernel
theorem dL_law_185 : decode cL_law 185 = .ok (.ireturn, 1) := by decide +kernel
theorem dL_law_186 : decode cL_law 186 = .ok (.aload_n 1, 1) := by decide +kernel
theorem dL_law_187 : decode cL_law 187 = .ok (.invokevirtual 31, 3) := by decide +kernel
theorem dL_law_190 : decode cL_law 190 = .ok (.aload_n 2, 1) := by decide +kernel
theorem dL_law_191 : decode cL_law 191 = .ok (.invokevirtual 34, 3) := by decide +kernel
theorem dL_law_194 : decode cL_law 194 = .ok (.if_icmp .eq 303, 3) := by decide +kernel
theorem dL_law_197 : decode cL_law 197 = .ok (.iconst 0, 1) := by decide +kernel
theorem dL_law_198 : decode cL_law 198 = .ok (.ireturn, 1) := by decide +kernel
theorem dL_law_199 : decode cL_law 199 = .ok (.aload_n 1, 1) := by decide +kernel
theorem dL_law_200 : decode cL_law 200 = .ok (.aload_n 0, 1) := by decide +kernel
theorem dL_law_201 : decode cL_law 201 = .ok (.iload_n 3, 1) := by decide +kernel
theorem dL_law_202 : decode cL_law 202 = .ok (.iconst 1, 1) := by decide +kernel
theorem dL_law_203 : decode cL_law 203 = .ok (.iadd, 1) := by decide +kernel
theorem dL_law_204 : decode cL_law 204 = .ok (.iaload, 1) := by decide +kernel
theorem dL_law_205 : decode cL_law 205 = .ok (.invokevirtual 35, 3) := by decide +kernel
theorem dL_law_208 : decode cL_law 208 = .ok (.aload_n 2, 1) := by decide +kernel
theorem dL_law_209 : decode cL_law 209 = .ok (.aload_n 0, 1) := by decide +kernel
theorem dL_law_210 : decode cL_law 210 = .ok (.iload_n 3, 1) := by decide +kernel
theorem dL_law_211 : decode cL_law 211 = .ok (.iconst 1, 1) := by decide +kernel
theorem dL_law_212 : decode cL_law 212 = .ok (.iadd, 1) := by decide +kernel
theorem dL_law_213 : decode cL_law 213 = .ok (.iaload, 1) := by decide +kernel
theorem dL_law_214 : decode cL_law 214 = .ok (.invokevirtual 38, 3) := by decide +kernel
theorem dL_law_217 : decode cL_law 217 = .ok (.if_icmp .eq 280, 3) := by decide +kernel
theorem dL_law_220 : decode cL_law 220 = .ok (.iconst 0, 1) := by decide +kernel
theorem dL_law_221 : decode cL_law 221 = .ok (.ireturn, 1) := by decide +kernel
theorem dL_law_222 : decode cL_law 222 = .ok (.aload_n 1, 1) := by decide +kernel
theorem dL_law_223 : decode cL_law 223 = .ok (.aload_n 0, 1) := by decide +kernel
theorem dL_law_224 : decode cL_law 224 = .ok (.iload_n 3, 1) := by decide +kernel
theorem dL_law_225 : decode cL_law 225 = .ok (.iconst 1, 1) := by decide +kernel
theorem dL_law_226 : decode cL_law 226 = .ok (.iadd, 1) := by decide +kernel
theorem dL_law_227 : decode cL_law 227 = .ok (.iaload, 1) := by decide +kernel
theorem dL_law_228 : decode cL_law 228 = .ok (.aload_n 0, 1) := by decide +kernel
theorem dL_law_229 : decode cL_law 229 = .ok (.iload_n 3, 1) := by decide +kernel
theorem dL_law_230 : decode cL_law 230 = .ok (.iconst 2, 1) := by decide +kernel
theorem dL_law_231 : decode cL_law 231 = .ok (.iadd, 1) := by decide +kernel
theorem dL_law_232 : decode cL_law 232 = .ok (.iaload, 1) := by decide +kernel
theorem dL_law_233 : decode cL_law 233 = .ok (.invokevirtual 39, 3) := by decide +kernel
theorem dL_law_236 : decode cL_law 236 = .ok (.aload_n 2, 1) := by decide +kernel
theorem dL_law_237 : decode cL_law 237 = .ok (.aload_n 0, 1) := by decide +kernel
theorem dL_law_238 : decode cL_law 238 = .ok (.iload_n 3, 1) := by decide +kernel
theorem dL_law_239 : decode cL_law 239 = .ok (.iconst 1, 1) := by decide +kernel
theorem dL_law_240 : decode cL_law 240 = .ok (.iadd, 1) := by decide +kernel
theorem dL_law_241 : decode cL_law 241 = .ok (.iaload, 1) := by decide +kernel
theorem dL_law_242 : decode cL_law 242 = .ok (.aload_n 0, 1) := by decide +kernel
theorem dL_law_243 : decode cL_law 243 = .ok (.iload_n 3, 1) := by decide +kernel
theorem dL_law_244 : decode cL_law 244 = .ok (.iconst 2, 1) := by decide +kernel
theorem dL_law_245 : decode cL_law 245 = .ok (.iadd, 1) := by decide +kernel
theorem dL_law_246 : decode cL_law 246 = .ok (.iaload, 1) := by decide +kernel
theorem dL_law_247 : decode cL_law 247 = .ok (.invokevirtual 43, 3) := by decide +kernel
theorem dL_law_250 : decode cL_law 250 = .ok (.if_icmp .eq 247, 3) := by decide +kernel
theorem dL_law_253 : decode cL_law 253 = .ok (.iconst 0, 1) := by decide +kernel
theorem dL_law_254 : decode cL_law 254 = .ok (.ireturn, 1) := by decide +kernel
theorem dL_law_255 : decode cL_law 255 = .ok (.aload_n 1, 1) := by decide +kernel
theorem dL_law_256 : decode cL_law 256 = .ok (.aload_n 0, 1) := by decide +kernel
theorem dL_law_257 : decode cL_law 257 = .ok (.iload_n 3, 1) := by decide +kernel
theorem dL_law_258 : decode cL_law 258 = .ok (.iconst 1, 1) := by decide +kernel
theorem dL_law_259 : decode cL_law 259 = .ok (.iadd, 1) := by decide +kernel
theorem dL_law_260 : decode cL_law 260 = .ok (.iaload, 1) := by decide +kernel
theorem dL_law_261 : decode cL_law 261 = .ok (.invokevirtual 44, 3) := by decide +kernel
theorem dL_law_264 : decode cL_law 264 = .ok (.aload_n 2, 1) := by decide +kernel
theorem dL_law_265 : decode cL_law 265 = .ok (.aload_n 0, 1) := by decide +kernel
theorem dL_law_266 : decode cL_law 266 = .ok (.iload_n 3, 1) := by decide +kernel
theorem dL_law_267 : decode cL_law 267 = .ok (.iconst 1, 1) := by decide +kernel
theorem dL_law_268 : decode cL_law 268 = .ok (.iadd, 1) := by decide +kernel
theorem dL_law_269 : decode cL_law 269 = .ok (.iaload, 1) := by decide +kernel
theorem dL_law_270 : decode cL_law 270 = .ok (.invokevirtual 47, 3) := by decide +kernel
theorem dL_law_273 : decode cL_law 273 = .ok (.if_icmp .eq 224, 3) := by decide +kernel
theorem dL_law_276 : decode cL_law 276 = .ok (.iconst 0, 1) := by decide +kernel
theorem dL_law_277 : decode cL_law 277 = .ok (.ireturn, 1) := by decide +kernel
theorem dL_law_278 : decode cL_law 278 = .ok (.aload_n 1, 1) := by decide +kernel
theorem dL_law_279 : decode cL_law 279 = .ok (.aload_n 0, 1) := by decide +kernel
theorem dL_law_280 : decode cL_law 280 = .ok (.iload_n 3, 1) := by decide +kernel
theorem dL_law_281 : decode cL_law 281 = .ok (.iconst 1, 1) := by decide +kernel
theorem dL_law_282 : decode cL_law 282 = .ok (.iadd, 1) := by decide +kernel
theorem dL_law_283 : decode cL_law 283 = .ok (.iaload, 1) := by decide +kernel
theorem dL_law_284 : decode cL_law 284 = .ok (.aload_n 0, 1) := by decide +kernel
theorem dL_law_285 : decode cL_law 285 = .ok (.iload_n 3, 1) := by decide +kernel
theorem dL_law_286 : decode cL_law 286 = .ok (.iconst 2, 1) := by decide +kernel
theorem dL_law_287 : decode cL_law 287 = .ok (.iadd, 1) := by decide +kernel
theorem dL_law_288 : decode cL_law 288 = .ok (.iaload, 1) := by decide +kernel
theorem dL_law_289 : decode cL_law 289 = .ok (.invokevirtual 48, 3) := by decide +kernel
theorem dL_law_292 : decode cL_law 292 = .ok (.aload_n 2, 1) := by decide +kernel
theorem dL_law_293 : decode cL_law 293 = .ok (.aload_n 0, 1) := by decide +kernel
theorem dL_law_294 : decode cL_law 294 = .ok (.iload_n 3, 1) := by decide +kernel
theorem dL_law_295 : decode cL_law 295 = .ok (.iconst 1, 1) := by decide +kernel
theorem dL_law_296 : decode cL_law 296 = .ok (.iadd, 1) := by decide +kernel
theorem dL_law_297 : decode cL_law 297 = .ok (.iaload, 1) := by decide +kernel
theorem dL_law_298 : decode cL_law 298 = .ok (.aload_n 0, 1) := by decide +kernel
theorem dL_law_299 : decode cL_law 299 = .ok (.iload_n 3, 1) := by decide +kernel
theorem dL_law_300 : decode cL_law 300 = .ok (.iconst 2, 1) := by decide +kernel
theorem dL_law_301 : decode cL_law 301 = .ok (.iadd, 1) := by decide +kernel
theorem dL_law_302 : decode cL_law 302 = .ok (.iaload, 1) := by decide +kernel
theorem dL_law_303 : decode cL_law 303 = .ok (.invokevirtual 52, 3) := by decide +kernel
theorem dL_law_306 : decode cL_law 306 = .ok (.if_icmp .eq 191, 3) := by decide +kernel
theorem dL_law_309 : decode cL_law 309 = .ok (.iconst 0, 1) := by decide +kernel
theorem dL_law_310 : decode cL_law 310 = .ok (.ireturn, 1) := by decide +kernel
theorem dL_law_311 : decode cL_law 311 = .ok (.aload_n 1, 1) := by decide +kernel
theorem dL_law_312 : decode cL_law 312 = .ok (.aload_n 0, 1) := by decide +kernel
theorem dL_law_313 : decode cL_law 313 = .ok (.iload_n 3, 1) := by decide +kernel
theorem dL_law_314 : decode cL_law 314 = .ok (.iconst 1, 1) := by decide +kernel
theorem dL_law_315 : decode cL_law 315 = .ok (.iadd, 1) := by decide +kernel
theorem dL_law_316 : decode cL_law 316 = .ok (.iaload, 1) := by decide +kernel
theorem dL_law_317 : decode cL_law 317 = .ok (.invokevirtual 53, 3) := by decide +kernel
theorem dL_law_320 : decode cL_law 320 = .ok (.aload_n 2, 1) := by decide +kernel
theorem dL_law_321 : decode cL_law 321 = .ok (.aload_n 0, 1) := by decide +kernel
theorem dL_law_322 : decode cL_law 322 = .ok (.iload_n 3, 1) := by decide +kernel
theorem dL_law_323 : decode cL_law 323 = .ok (.iconst 1, 1) := by decide +kernel
theorem dL_law_324 : decode cL_law 324 = .ok (.iadd, 1) := by decide +kernel
theorem dL_law_325 : decode cL_law 325 = .ok (.iaload, 1) := by decide +kernel
theorem dL_law_326 : decode cL_law 326 = .ok (.invokevirtual 57, 3) := by decide +kernel
theorem dL_law_329 : decode cL_law 329 = .ok (.if_icmp .eq 168, 3) := by decide +kernel
theorem dL_law_332 : decode cL_law 332 = .ok (.iconst 0, 1) := by decide +kernel
theorem dL_law_333 : decode cL_law 333 = .ok (.ireturn, 1) := by decide +kernel
theorem dL_law_334 : decode cL_law 334 = .ok (.aload_n 1, 1) := by decide +kernel
theorem dL_law_335 : decode cL_law 335 = .ok (.aload_n 0, 1) := by decide +kernel
theorem dL_law_336 : decode cL_law 336 = .ok (.iload_n 3, 1) := by decide +kernel
theorem dL_law_337 : decode cL_law 337 = .ok (.iconst 1, 1) := by decide +kernel
theorem dL_law_338 : decode cL_law 338 = .ok (.iadd, 1) := by decide +kernel
theorem dL_law_339 : decode cL_law 339 = .ok (.iaload, 1) := by decide +kernel
theorem dL_law_340 : decode cL_law 340 = .ok (.aload_n 0, 1) := by decide +kernel
theorem dL_law_341 : decode cL_law 341 = .ok (.iload_n 3, 1) := by decide +kernel
theorem dL_law_342 : decode cL_law 342 = .ok (.iconst 2, 1) := by decide +kernel
theorem dL_law_343 : decode cL_law 343 = .ok (.iadd, 1) := by decide +kernel
theorem dL_law_344 : decode cL_law 344 = .ok (.iaload, 1) := by decide +kernel
theorem dL_law_345 : decode cL_law 345 = .ok (.invokevirtual 58, 3) := by decide +kernel
theorem dL_law_348 : decode cL_law 348 = .ok (.aload_n 2, 1) := by decide +kernel
theorem dL_law_349 : decode cL_law 349 = .ok (.aload_n 0, 1) := by decide +kernel
theorem dL_law_350 : decode cL_law 350 = .ok (.iload_n 3, 1) := by decide +kernel
theorem dL_law_351 : decode cL_law 351 = .ok (.iconst 1, 1) := by decide +kernel
theorem dL_law_352 : decode cL_law 352 = .ok (.iadd, 1) := by decide +kernel
theorem dL_law_353 : decode cL_law 353 = .ok (.iaload, 1) := by decide +kernel
theorem dL_law_354 : decode cL_law 354 = .ok (.aload_n 0, 1) := by decide +kernel
theorem dL_law_355 : decode cL_law 355 = .ok (.iload_n 3, 1) := by decide +kernel
theorem dL_law_356 : decode cL_law 356 = .ok (.iconst 2, 1) := by decide +kernel
theorem dL_law_357 : decode cL_law 357 = .ok (.iadd, 1) := by decide +kernel
theorem dL_law_358 : decode cL_law 358 = .ok (.iaload, 1) := by decide +kernel
theorem dL_law_359 : decode cL_law 359 = .ok (.invokevirtual 61, 3) := by decide +kernel
theorem dL_law_362 : decode cL_law 362 = .ok (.if_icmp .eq 135, 3) := by decide +kernel
theorem dL_law_365 : decode cL_law 365 = .ok (.iconst 0, 1) := by decide +kernel
theorem dL_law_366 : decode cL_law 366 = .ok (.ireturn, 1) := by decide +kernel
theorem dL_law_367 : decode cL_law 367 = .ok (.aload_n 1, 1) := by decide +kernel
theorem dL_law_368 : decode cL_law 368 = .ok (.aload_n 0, 1) := by decide +kernel
theorem dL_law_369 : decode cL_law 369 = .ok (.iload_n 3, 1) := by decide +kernel
theorem dL_law_370 : decode cL_law 370 = .ok (.iconst 1, 1) := by decide +kernel
theorem dL_law_371 : decode cL_law 371 = .ok (.iadd, 1) := by decide +kernel
theorem dL_law_372 : decode cL_law 372 = .ok (.iaload, 1) := by decide +kernel
theorem dL_law_373 : decode cL_law 373 = .ok (.invokevirtual 62, 3) := by decide +kernel
theorem dL_law_376 : decode cL_law 376 = .ok (.aload_n 2, 1) := by decide +kernel
theorem dL_law_377 : decode cL_law 377 = .ok (.aload_n 0, 1) := by decide +kernel
theorem dL_law_378 : decode cL_law 378 = .ok (.iload_n 3, 1) := by decide +kernel
theorem dL_law_379 : decode cL_law 379 = .ok (.iconst 1, 1) := by decide +kernel
theorem dL_law_380 : decode cL_law 380 = .ok (.iadd, 1) := by decide +kernel
theorem dL_law_381 : decode cL_law 381 = .ok (.iaload, 1) := by decide +kernel
theorem dL_law_382 : decode cL_law 382 = .ok (.invokevirtual 66, 3) := by decide +kernel
theorem dL_law_385 : decode cL_law 385 = .ok (.lcmp, 1) := by decide +kernel
theorem dL_law_386 : decode cL_law 386 = .ok (.ifCond .eq 111, 3) := by decide +kernel
theorem dL_law_389 : decode cL_law 389 = .ok (.iconst 0, 1) := by decide +kernel
theorem dL_law_390 : decode cL_law 390 = .ok (.ireturn, 1) := by decide +kernel
theorem dL_law_391 : decode cL_law 391 = .ok (.aload_n 1, 1) := by decide +kernel
theorem dL_law_392 : decode cL_law 392 = .ok (.aload_n 0, 1) := by decide +kernel
theorem dL_law_393 : decode cL_law 393 = .ok (.iload_n 3, 1) := by decide +kernel
theorem dL_law_394 : decode cL_law 394 = .ok (.iconst 1, 1) := by decide +kernel
theorem dL_law_395 : decode cL_law 395 = .ok (.iadd, 1) := by decide +kernel
theorem dL_law_396 : decode cL_law 396 = .ok (.iaload, 1) := by decide +kernel
theorem dL_law_397 : decode cL_law 397 = .ok (.aload_n 0, 1) := by decide +kernel
theorem dL_law_398 : decode cL_law 398 = .ok (.iload_n 3, 1) := by decide +kernel
theorem dL_law_399 : decode cL_law 399 = .ok (.iconst 2, 1) := by decide +kernel
theorem dL_law_400 : decode cL_law 400 = .ok (.iadd, 1) := by decide +kernel
theorem dL_law_401 : decode cL_law 401 = .ok (.iaload, 1) := by decide +kernel
theorem dL_law_402 : decode cL_law 402 = .ok (.aload_n 0, 1) := by decide +kernel
theorem dL_law_403 : decode cL_law 403 = .ok (.iload_n 3, 1) := by decide +kernel
theorem dL_law_404 : decode cL_law 404 = .ok (.iconst 3, 1) := by decide +kernel
theorem dL_law_405 : decode cL_law 405 = .ok (.iadd, 1) := by decide +kernel
theorem dL_law_406 : decode cL_law 406 = .ok (.iaload, 1) := by decide +kernel
theorem dL_law_407 : decode cL_law 407 = .ok (.aload_n 0, 1) := by decide +kernel
theorem dL_law_408 : decode cL_law 408 = .ok (.iload_n 3, 1) := by decide +kernel
theorem dL_law_409 : decode cL_law 409 = .ok (.iconst 4, 1) := by decide +kernel
theorem dL_law_410 : decode cL_law 410 = .ok (.iadd, 1) := by decide +kernel
theorem dL_law_411 : decode cL_law 411 = .ok (.iaload, 1) := by decide +kernel
theorem dL_law_412 : decode cL_law 412 = .ok (.invokevirtual 67, 3) := by decide +kernel
theorem dL_law_415 : decode cL_law 415 = .ok (.aload_n 2, 1) := by decide +kernel
theorem dL_law_416 : decode cL_law 416 = .ok (.aload_n 0, 1) := by decide +kernel
theorem dL_law_417 : decode cL_law 417 = .ok (.iload_n 3, 1) := by decide +kernel
theorem dL_law_418 : decode cL_law 418 = .ok (.iconst 1, 1) := by decide +kernel
theorem dL_law_419 : decode cL_law 419 = .ok (.iadd, 1) := by decide +kernel
theorem dL_law_420 : decode cL_law 420 = .ok (.iaload, 1) := by decide +kernel
theorem dL_law_421 : decode cL_law 421 = .ok (.aload_n 0, 1) := by decide +kernel
theorem dL_law_422 : decode cL_law 422 = .ok (.iload_n 3, 1) := by decide +kernel
theorem dL_law_423 : decode cL_law 423 = .ok (.iconst 2, 1) := by decide +kernel
theorem dL_law_424 : decode cL_law 424 = .ok (.iadd, 1) := by decide +kernel
theorem dL_law_425 : decode cL_law 425 = .ok (.iaload, 1) := by decide +kernel
theorem dL_law_426 : decode cL_law 426 = .ok (.aload_n 0, 1) := by decide +kernel
theorem dL_law_427 : decode cL_law 427 = .ok (.iload_n 3, 1) := by decide +kernel
theorem dL_law_428 : decode cL_law 428 = .ok (.iconst 3, 1) := by decide +kernel
theorem dL_law_429 : decode cL_law 429 = .ok (.iadd, 1) := by decide +kernel
theorem dL_law_430 : decode cL_law 430 = .ok (.iaload, 1) := by decide +kernel
theorem dL_law_431 : decode cL_law 431 = .ok (.aload_n 0, 1) := by decide +kernel
theorem dL_law_432 : decode cL_law 432 = .ok (.iload_n 3, 1) := by decide +kernel
theorem dL_law_433 : decode cL_law 433 = .ok (.iconst 4, 1) := by decide +kernel
theorem dL_law_434 : decode cL_law 434 = .ok (.iadd, 1) := by decide +kernel
theorem dL_law_435 : decode cL_law 435 = .ok (.iaload, 1) := by decide +kernel
theorem dL_law_436 : decode cL_law 436 = .ok (.invokevirtual 71, 3) := by decide +kernel
theorem dL_law_439 : decode cL_law 439 = .ok (.if_icmp .eq 58, 3) := by decide +kernel
theorem dL_law_442 : decode cL_law 442 = .ok (.iconst 0, 1) := by decide +kernel
theorem dL_law_443 : decode cL_law 443 = .ok (.ireturn, 1) := by decide +kernel
theorem dL_law_444 : decode cL_law 444 = .ok (.aload_n 1, 1) := by decide +kernel
theorem dL_law_445 : decode cL_law 445 = .ok (.aload_n 0, 1) := by decide +kernel
theorem dL_law_446 : decode cL_law 446 = .ok (.iload_n 3, 1) := by decide +kernel
theorem dL_law_447 : decode cL_law 447 = .ok (.iconst 1, 1) := by decide +kernel
theorem dL_law_448 : decode cL_law 448 = .ok (.iadd, 1) := by decide +kernel
theorem dL_law_449 : decode cL_law 449 = .ok (.iaload, 1) := by decide +kernel
theorem dL_law_450 : decode cL_law 450 = .ok (.aload_n 0, 1) := by decide +kernel
theorem dL_law_451 : decode cL_law 451 = .ok (.iload_n 3, 1) := by decide +kernel
theorem dL_law_452 : decode cL_law 452 = .ok (.iconst 2, 1) := by decide +kernel
theorem dL_law_453 : decode cL_law 453 = .ok (.iadd, 1) := by decide +kernel
theorem dL_law_454 : decode cL_law 454 = .ok (.iaload, 1) := by decide +kernel
theorem dL_law_455 : decode cL_law 455 = .ok (.aload_n 0, 1) := by decide +kernel
theorem dL_law_456 : decode cL_law 456 = .ok (.iload_n 3, 1) := by decide +kernel
theorem dL_law_457 : decode cL_law 457 = .ok (.iconst 3, 1) := by decide +kernel
theorem dL_law_458 : decode cL_law 458 = .ok (.iadd, 1) := by decide +kernel
theorem dL_law_459 : decode cL_law 459 = .ok (.iaload, 1) := by decide +kernel
theorem dL_law_460 : decode cL_law 460 = .ok (.aload_n 0, 1) := by decide +kernel
theorem dL_law_461 : decode cL_law 461 = .ok (.iload_n 3, 1) := by decide +kernel
theorem dL_law_462 : decode cL_law 462 = .ok (.iconst 4, 1) := by decide +kernel
theorem dL_law_463 : decode cL_law 463 = .ok (.iadd, 1) := by decide +kernel
theorem dL_law_464 : decode cL_law 464 = .ok (.iaload, 1) := by decide +kernel
theorem dL_law_465 : decode cL_law 465 = .ok (.invokevirtual 72, 3) := by decide +kernel
theorem dL_law_468 : decode cL_law 468 = .ok (.aload_n 2, 1) := by decide +kernel
theorem dL_law_469 : decode cL_law 469 = .ok (.aload_n 0, 1) := by decide +kernel
theorem dL_law_470 : decode cL_law 470 = .ok (.iload_n 3, 1) := by decide +kernel
theorem dL_law_471 : decode cL_law 471 = .ok (.iconst 1, 1) := by decide +kernel
theorem dL_law_472 : decode cL_law 472 = .ok (.iadd, 1) := by decide +kernel
theorem dL_law_473 : decode cL_law 473 = .ok (.iaload, 1) := by decide +kernel
theorem dL_law_474 : decode cL_law 474 = .ok (.aload_n 0, 1) := by decide +kernel
theorem dL_law_475 : decode cL_law 475 = .ok (.iload_n 3, 1) := by decide +kernel
theorem dL_law_476 : decode cL_law 476 = .ok (.iconst 2, 1) := by decide +kernel
theorem dL_law_477 : decode cL_law 477 = .ok (.iadd, 1) := by decide +kernel
theorem dL_law_478 : decode cL_law 478 = .ok (.iaload, 1) := by decide +kernel
theorem dL_law_479 : decode cL_law 479 = .ok (.aload_n 0, 1) := by decide +kernel
theorem dL_law_480 : decode cL_law 480 = .ok (.iload_n 3, 1) := by decide +kernel
theorem dL_law_481 : decode cL_law 481 = .ok (.iconst 3, 1) := by decide +kernel
theorem dL_law_482 : decode cL_law 482 = .ok (.iadd, 1) := by decide +kernel
theorem dL_law_483 : decode cL_law 483 = .ok (.iaload, 1) := by decide +kernel
theorem dL_law_484 : decode cL_law 484 = .ok (.aload_n 0, 1) := by decide +kernel
theorem dL_law_485 : decode cL_law 485 = .ok (.iload_n 3, 1) := by decide +kernel
theorem dL_law_486 : decode cL_law 486 = .ok (.iconst 4, 1) := by decide +kernel
theorem dL_law_487 : decode cL_law 487 = .ok (.iadd, 1) := by decide +kernel
theorem dL_law_488 : decode cL_law 488 = .ok (.iaload, 1) := by decide +kernel
theorem dL_law_489 : decode cL_law 489 = .ok (.invokevirtual 75, 3) := by decide +kernel
theorem dL_law_492 : decode cL_law 492 = .ok (.if_icmp .eq 5, 3) := by decide +kernel
theorem dL_law_495 : decode cL_law 495 = .ok (.iconst 0, 1) := by decide +kernel
theorem dL_law_496 : decode cL_law 496 = .ok (.ireturn, 1) := by decide +kernel
theorem dL_law_497 : decode cL_law 497 = .ok (.iinc 3 5, 3) := by decide +kernel
theorem dL_law_500 : decode cL_law 500 = .ok (.goto (-482), 3) := by decide +kernel
theorem dL_law_503 : decode cL_law 503 = .ok (.iconst 1, 1) := by decide +kernel
theorem dL_law_504 : decode cL_law 504 = .ok (.ireturn, 1) := by decide +kernel
