theorem dX0_init_0 : decode cX0_init 0 = .ok (.aload_n 0, 1) := by decide +kernel
theorem dX0_init_1 : decode cX0_init 1 = .ok (.invokespecial 3, 3) := by decide +kernel
theorem dX0_init_4 : decode cX0_init 4 = .ok (.aload_n 0, 1) := by decide +kernel
theorem dX0_init_5 : decode cX0_init 5 = .ok (.iload_n 1, 1) := by decide +kernel
theorem dX0_init_6 : decode cX0_init 6 = .ok (.putfield 9, 3) := by decide +kernel
theorem dX0_init_9 : decode cX0_init 9 = .ok (.aload_n 0, 1) := by decide +kernel
theorem dX0_init_10 : decode cX0_init 10 = .ok (.bipush 64, 2) := by decide +kernel
theorem dX0_init_12 : decode cX0_init 12 = .ok (.newarray .int, 2) := by decide +kernel
theorem dX0_init_14 : decode cX0_init 14 = .ok (.putfield 15, 3) := by decide +kernel
theorem dX0_init_17 : decode cX0_init 17 = .ok (.return_, 1) := by decide +kernel
theorem dX0_length_0 : decode cX0_length 0 = .ok (.aload_n 0, 1) := by decide +kernel
theorem dX0_length_1 : decode cX0_length 1 = .ok (.getfield 19, 3) := by decide +kernel
theorem dX0_length_4 : decode cX0_length 4 = .ok (.ireturn, 1) := by decide +kernel
theorem dX0_clear_0 : decode cX0_clear 0 = .ok (.aload_n 0, 1) := by decide +kernel
theorem dX0_clear_1 : decode cX0_clear 1 = .ok (.iconst 0, 1) := by decide +kernel
theorem dX0_clear_2 : decode cX0_clear 2 = .ok (.putfield 19, 3) := by decide +kernel
theorem dX0_clear_5 : decode cX0_clear 5 = .ok (.return_, 1) := by decide +kernel
theorem dX0_add_0 : decode cX0_add 0 = .ok (.iload_n 1, 1) := by decide +kernel
theorem dX0_add_1 : decode cX0_add 1 = .ok (.invokestatic 22, 3) := by decide +kernel
theorem dX0_add_4 : decode cX0_add 4 = .ok (.ifCond .eq 14, 3) := by decide +kernel
theorem dX0_add_7 : decode cX0_add 7 = .ok (.aload_n 0, 1) := by decide +kernel
theorem dX0_add_8 : decode cX0_add 8 = .ok (.getfield 19, 3) := by decide +kernel
theorem dX0_add_11 : decode cX0_add 11 = .ok (.aload_n 0, 1) := by decide +kernel
theorem dX0_add_12 : decode cX0_add 12 = .ok (.getfield 9, 3) := by decide +kernel
theorem dX0_add_15 : decode cX0_add 15 = .ok (.if_icmp .lt 5, 3) := by decide +kernel
theorem dX0_add_18 : decode cX0_add 18 = .ok (.iconst 0, 1) := by decide +kernel
theorem dX0_add_19 : decode cX0_add 19 = .ok (.ireturn, 1) := by decide +kernel
theorem dX0_add_20 : decode cX0_add 20 = .ok (.aload_n 0, 1) := by decide +kernel
theorem dX0_add_21 : decode cX0_add 21 = .ok (.getfield 19, 3) := by decide +kernel
theorem dX0_add_24 : decode cX0_add 24 = .ok (.aload_n 0, 1) := by decide +kernel
theorem dX0_add_25 : decode cX0_add 25 = .ok (.getfield 15, 3) := by decide +kernel
theorem dX0_add_28 : decode cX0_add 28 = .ok (.arraylength, 1) := by decide +kernel
theorem dX0_add_29 : decode cX0_add 29 = .ok (.if_icmp .lt 25, 3) := by decide +kernel
theorem dX0_add_32 : decode cX0_add 32 = .ok (.aload_n 0, 1) := by decide +kernel
theorem dX0_add_33 : decode cX0_add 33 = .ok (.aload_n 0, 1) := by decide +kernel
theorem dX0_add_34 : decode cX0_add 34 = .ok (.getfield 15, 3) := by decide +kernel
theorem dX0_add_37 : decode cX0_add 37 = .ok (.aload_n 0, 1) := by decide +kernel
theorem dX0_add_38 : decode cX0_add 38 = .ok (.getfield 19, 3) := by decide +kernel
theorem dX0_add_41 : decode cX0_add 41 = .ok (.aload_n 0, 1) := by decide +kernel
theorem dX0_add_42 : decode cX0_add 42 = .ok (.getfield 9, 3) := by decide +kernel
theorem dX0_add_45 : decode cX0_add 45 = .ok (.invokestatic 26, 3) := by decide +kernel
theorem dX0_add_48 : decode cX0_add 48 = .ok (.invokestatic 30, 3) := by decide +kernel
theorem dX0_add_51 : decode cX0_add 51 = .ok (.putfield 15, 3) := by decide +kernel
theorem dX0_add_54 : decode cX0_add 54 = .ok (.aload_n 0, 1) := by decide +kernel
theorem dX0_add_55 : decode cX0_add 55 = .ok (.getfield 15, 3) := by decide +kernel
theorem dX0_add_58 : decode cX0_add 58 = .ok (.aload_n 0, 1) := by decide +kernel
theorem dX0_add_59 : decode cX0_add 59 = .ok (.getfield 19, 3) := by decide +kernel
theorem dX0_add_62 : decode cX0_add 62 = .ok (.iload_n 1, 1) := by decide +kernel
theorem dX0_add_63 : decode cX0_add 63 = .ok (.iastore, 1) := by decide +kernel
theorem dX0_add_64 : decode cX0_add 64 = .ok (.aload_n 0, 1) := by decide +kernel
theorem dX0_add_65 : decode cX0_add 65 = .ok (.dup, 1) := by decide +kernel
theorem dX0_add_66 : decode cX0_add 66 = .ok (.getfield 19, 3) := by decide +kernel
theorem dX0_add_69 : decode cX0_add 69 = .ok (.iconst 1, 1) := by decide +kernel
theorem dX0_add_70 : decode cX0_add 70 = .ok (.iadd, 1) := by decide +kernel
theorem dX0_add_71 : decode cX0_add 71 = .ok (.putfield 19, 3) := by decide +kernel
theorem dX0_add_74 : decode cX0_add 74 = .ok (.iconst 1, 1) := by decide +kernel
theorem dX0_add_75 : decode cX0_add 75 = .ok (.ireturn, 1) := by decide +kernel
theorem dX0_put_0 : decode cX0_put 0 = .ok (.iload_n 2, 1) := by decide +kernel
theorem dX0_put_1 : decode cX0_put 1 = .ok (.invokestatic 22, 3) := by decide +kernel
theorem dX0_put_4 : decode cX0_put 4 = .ok (.ifCond .eq 15, 3) := by decide +kernel
theorem dX0_put_7 : decode cX0_put 7 = .ok (.iload_n 1, 1) := by decide +kernel
theorem dX0_put_8 : decode cX0_put 8 = .ok (.ifCond .lt 11, 3) := by decide +kernel
theorem dX0_put_11 : decode cX0_put 11 = .ok (.iload_n 1, 1) := by decide +kernel
theorem dX0_put_12 : decode cX0_put 12 = .ok (.aload_n 0, 1) := by decide +kernel
theorem dX0_put_13 : decode cX0_put 13 = .ok (.getfield 19, 3) := by decide +kernel
theorem dX0_put_16 : decode cX0_put 16 = .ok (.if_icmp .lt 5, 3) := by decide +kernel
theorem dX0_put_19 : decode cX0_put 19 = .ok (.iconst 0, 1) := by decide +kernel
theorem dX0_put_20 : decode cX0_put 20 = .ok (.ireturn, 1) := by decide +kernel
theorem dX0_put_21 : decode cX0_put 21 = .ok (.aload_n 0, 1) := by decide +kernel
theorem dX0_put_22 : decode cX0_put 22 = .ok (.getfield 15, 3) := by decide +kernel
theorem dX0_put_25 : decode cX0_put 25 = .ok (.iload_n 1, 1) := by decide +kernel
theorem dX0_put_26 : decode cX0_put 26 = .ok (.iload_n 2, 1) := by decide +kernel
theorem dX0_put_27 : decode cX0_put 27 = .ok (.iastore, 1) := by decide +kernel
theorem dX0_put_28 : decode cX0_put 28 = .ok (.iconst 1, 1) := by decide +kernel
theorem dX0_put_29 : decode cX0_put 29 = .ok (.ireturn, 1) := by decide +kernel
theorem dX0_shorten_0 : decode cX0_shorten 0 = .ok (.iload_n 1, 1) := by decide +kernel
theorem dX0_shorten_1 : decode cX0_shorten 1 = .ok (.ifCond .lt 11, 3) := by decide +kernel
theorem dX0_shorten_4 : decode cX0_shorten 4 = .ok (.iload_n 1, 1) := by decide +kernel
theorem dX0_shorten_5 : decode cX0_shorten 5 = .ok (.aload_n 0, 1) := by decide +kernel
theorem dX0_shorten_6 : decode cX0_shorten 6 = .ok (.getfield 19, 3) := by decide +kernel
theorem dX0_shorten_9 : decode cX0_shorten 9 = .ok (.if_icmp .le 5, 3) := by decide +kernel
theorem dX0_shorten_12 : decode cX0_shorten 12 = .ok (.iconst 0, 1) := by decide +kernel
theorem dX0_shorten_13 : decode cX0_shorten 13 = .ok (.ireturn, 1) := by decide +kernel
theorem dX0_shorten_14 : decode cX0_shorten 14 = .ok (.aload_n 0, 1) := by decide +kernel
theorem dX0_shorten_15 : decode cX0_shorten 15 = .ok (.iload_n 1, 1) := by decide +kernel
theorem dX0_shorten_16 : decode cX0_shorten 16 = .ok (.putfield 19, 3) := by decide +kernel
theorem dX0_shorten_19 : decode cX0_shorten 19 = .ok (.iconst 1, 1) := by decide +kernel
theorem dX0_shorten_20 : decode cX0_shorten 20 = .ok (.ireturn, 1) := by decide +kernel
theorem dX0_byteAt_0 : decode cX0_byteAt 0 = .ok (.iload_n 1, 1) := by decide +kernel
theorem dX0_byteAt_1 : decode cX0_byteAt 1 = .ok (.ifCond .lt 11, 3) := by decide +kernel
theorem dX0_byteAt_4 : decode cX0_byteAt 4 = .ok (.iload_n 1, 1) := by decide +kernel
theorem dX0_byteAt_5 : decode cX0_byteAt 5 = .ok (.aload_n 0, 1) := by decide +kernel
theorem dX0_byteAt_6 : decode cX0_byteAt 6 = .ok (.getfield 19, 3) := by decide +kernel
theorem dX0_byteAt_9 : decode cX0_byteAt 9 = .ok (.if_icmp .lt 7, 3) := by decide +kernel
theorem dX0_byteAt_12 : decode cX0_byteAt 12 = .ok (.iconst (-1), 1) := by decide +kernel
theorem dX0_byteAt_13 : decode cX0_byteAt 13 = .ok (.goto 9, 3) := by decide +kernel
theorem dX0_byteAt_16 : decode cX0_byteAt 16 = .ok (.aload_n 0, 1) := by decide +kernel
theorem dX0_byteAt_17 : decode cX0_byteAt 17 = .ok (.getfield 15, 3) := by decide +kernel
theorem dX0_byteAt_20 : decode cX0_byteAt 20 = .ok (.iload_n 1, 1) := by decide +kernel
theorem dX0_byteAt_21 : decode cX0_byteAt 21 = .ok (.iaload, 1) := by decide +kernel
theorem dX0_byteAt_22 : decode cX0_byteAt 22 = .ok (.ireturn, 1) := by decide +kernel
theorem dX0_carry_0 : decode cX0_carry 0 = .ok (.aload_n 0, 1) := by decide +kernel
theorem dX0_carry_1 : decode cX0_carry 1 = .ok (.getfield 19, 3) := by decide +kernel
theorem dX0_carry_4 : decode cX0_carry 4 = .ok (.iconst 1, 1) := by decide +kernel
theorem dX0_carry_5 : decode cX0_carry 5 = .ok (.isub, 1) := by decide +kernel
theorem dX0_carry_6 : decode cX0_carry 6 = .ok (.istore_n 1, 1) := by decide +kernel
theorem dX0_carry_7 : decode cX0_carry 7 = .ok (.iload_n 1, 1) := by decide +kernel
theorem dX0_carry_8 : decode cX0_carry 8 = .ok (.ifCond .lt 39, 3) := by decide +kernel
theorem dX0_carry_11 : decode cX0_carry 11 = .ok (.aload_n 0, 1) := by decide +kernel
theorem dX0_carry_12 : decode cX0_carry 12 = .ok (.getfield 15, 3) := by decide +kernel
theorem dX0_carry_15 : decode cX0_carry 15 = .ok (.iload_n 1, 1) := by decide +kernel
theorem dX0_carry_16 : decode cX0_carry 16 = .ok (.iaload, 1) := by decide +kernel
theorem dX0_carry_17 : decode cX0_carry 17 = .ok (.sipush 255, 3) := by decide +kernel
theorem dX0_carry_20 : decode cX0_carry 20 = .ok (.if_icmp .ge 14, 3) := by decide +kernel
theorem dX0_carry_23 : decode cX0_carry 23 = .ok (.aload_n 0, 1) := by decide +kernel
theorem dX0_carry_24 : decode cX0_carry 24 = .ok (.getfield 15, 3) := by decide +kernel
theorem dX0_carry_27 : decode cX0_carry 27 = .ok (.iload_n 1, 1) := by decide +kernel
theorem dX0_carry_28 : decode cX0_carry 28 = .ok (.dup2, 1) := by decide +kernel
theorem dX0_carry_29 : decode cX0_carry 29 = .ok (.iaload, 1) := by decide +kernel
theorem dX0_carry_30 : decode cX0_carry 30 = .ok (.iconst 1, 1) := by decide +kernel
theorem dX0_carry_31 : decode cX0_carry 31 = .ok (.iadd, 1) := by decide +kernel
theorem dX0_carry_32 : decode cX0_carry 32 = .ok (.iastore, 1) := by decide +kernel
theorem dX0_carry_33 : decode cX0_carry 33 = .ok (.return_, 1) := by decide +kernel
theorem dX0_carry_34 : decode cX0_carry 34 = .ok (.aload_n 0, 1) := by decide +kernel
theorem dX0_carry_35 : decode cX0_carry 35 = .ok (.getfield 15, 3) := by decide +kernel
theorem dX0_carry_38 : decode cX0_carry 38 = .ok (.iload_n 1, 1) := by decide +kernel
theorem dX0_carry_39 : decode cX0_carry 39 = .ok (.iconst 0, 1) := by decide +kernel
theorem dX0_carry_40 : decode cX0_carry 40 = .ok (.iastore, 1) := by decide +kernel
theorem dX0_carry_41 : decode cX0_carry 41 = .ok (.iinc 1 (-1), 3) := by decide +kernel
theorem dX0_carry_44 : decode cX0_carry 44 = .ok (.goto (-37), 3) := by decide +kernel
theorem dX0_carry_47 : decode cX0_carry 47 = .ok (.return_, 1) := by decide +kernel
theorem dX1_init_0 : decode cX1_init 0 = .ok (.aload_n 0, 1) := by decide +kernel
theorem dX1_init_1 : decode cX1_init 1 = .ok (.invokespecial 3, 3) := by decide +kernel
theorem dX1_init_4 : decode cX1_init 4 = .ok (.aload_n 0, 1) := by decide +kernel
theorem dX1_init_5 : decode cX1_init 5 = .ok (.aload_n 1, 1) := by decide +kernel
theorem dX1_init_6 : decode cX1_init 6 = .ok (.putfield 9, 3) := by decide +kernel
theorem dX1_init_9 : decode cX1_init 9 = .ok (.return_, 1) := by decide +kernel
theorem dX1_restart_0 : decode cX1_restart 0 = .ok (.aload_n 0, 1) := by decide +kernel
theorem dX1_restart_1 : decode cX1_restart 1 = .ok (.invokevirtual 15, 3) := by decide +kernel
theorem dX1_restart_4 : decode cX1_restart 4 = .ok (.aload_n 0, 1) := by decide +kernel
theorem dX1_restart_5 : decode cX1_restart 5 = .ok (.lconst 0, 1) := by decide +kernel
theorem dX1_restart_6 : decode cX1_restart 6 = .ok (.putfield 18, 3) := by decide +kernel
theorem dX1_restart_9 : decode cX1_restart 9 = .ok (.aload_n 0, 1) := by decide +kernel
theorem dX1_restart_10 : decode cX1_restart 10 = .ok (.iconst 0, 1) := by decide +kernel
theorem dX1_restart_11 : decode cX1_restart 11 = .ok (.putfield 22, 3) := by decide +kernel
theorem dX1_restart_14 : decode cX1_restart 14 = .ok (.iconst 0, 1) := by decide +kernel
theorem dX1_restart_15 : decode cX1_restart 15 = .ok (.istore_n 1, 1) := by decide +kernel
theorem dX1_restart_16 : decode cX1_restart 16 = .ok (.iload_n 1, 1) := by decide +kernel
theorem dX1_restart_17 : decode cX1_restart 17 = .ok (.iconst 4, 1) := by decide +kernel
theorem dX1_restart_18 : decode cX1_restart 18 = .ok (.if_icmp .ge 13, 3) := by decide +kernel
theorem dX1_restart_21 : decode cX1_restart 21 = .ok (.aload_n 0, 1) := by decide +kernel
theorem dX1_restart_22 : decode cX1_restart 22 = .ok (.invokevirtual 26, 3) := by decide +kernel
theorem dX1_restart_25 : decode cX1_restart 25 = .ok (.iinc 1 1, 3) := by decide +kernel
theorem dX1_restart_28 : decode cX1_restart 28 = .ok (.goto (-12), 3) := by decide +kernel
theorem dX1_restart_31 : decode cX1_restart 31 = .ok (.return_, 1) := by decide +kernel
theorem dX1_placeIn_0 : decode cX1_placeIn 0 = .ok (.aload_n 0, 1) := by decide +kernel
theorem dX1_placeIn_1 : decode cX1_placeIn 1 = .ok (.iload_n 1, 1) := by decide +kernel
theorem dX1_placeIn_2 : decode cX1_placeIn 2 = .ok (.invokevirtual 29, 3) := by decide +kernel
theorem dX1_placeIn_5 : decode cX1_placeIn 5 = .ok (.lstore_n 3, 1) := by decide +kernel
theorem dX1_placeIn_6 : decode cX1_placeIn 6 = .ok (.lload_n 3, 1) := by decide +kernel
theorem dX1_placeIn_7 : decode cX1_placeIn 7 = .ok (.lconst 1, 1) := by decide +kernel
theorem dX1_placeIn_8 : decode cX1_placeIn 8 = .ok (.lcmp, 1) := by decide +kernel
theorem dX1_placeIn_9 : decode cX1_placeIn 9 = .ok (.ifCond .ge 7, 3) := by decide +kernel
theorem dX1_placeIn_12 : decode cX1_placeIn 12 = .ok (.iconst 0, 1) := by decide +kernel
theorem dX1_placeIn_13 : decode cX1_placeIn 13 = .ok (.goto 17, 3) := by decide +kernel
theorem dX1_placeIn_16 : decode cX1_placeIn 16 = .ok (.aload_n 0, 1) := by decide +kernel
theorem dX1_placeIn_17 : decode cX1_placeIn 17 = .ok (.getfield 18, 3) := by decide +kernel
theorem dX1_placeIn_20 : decode cX1_placeIn 20 = .ok (.lload_n 3, 1) := by decide +kernel
theorem dX1_placeIn_21 : decode cX1_placeIn 21 = .ok (.ldiv, 1) := by decide +kernel
theorem dX1_placeIn_22 : decode cX1_placeIn 22 = .ok (.iload_n 1, 1) := by decide +kernel
theorem dX1_placeIn_23 : decode cX1_placeIn 23 = .ok (.iconst 1, 1) := by decide +kernel
theorem dX1_placeIn_24 : decode cX1_placeIn 24 = .ok (.isub, 1) := by decide +kernel
theorem dX1_placeIn_25 : decode cX1_placeIn 25 = .ok (.i2l, 1) := by decide +kernel
theorem dX1_placeIn_26 : decode cX1_placeIn 26 = .ok (.invokestatic 33, 3) := by decide +kernel
theorem dX1_placeIn_29 : decode cX1_placeIn 29 = .ok (.l2i, 1) := by decide +kernel
theorem dX1_placeIn_30 : decode cX1_placeIn 30 = .ok (.ireturn, 1) := by decide +kernel
theorem dX1_raiseLow_0 : decode cX1_raiseLow 0 = .ok (.aload_n 0, 1) := by decide +kernel
theorem dX1_raiseLow_1 : decode cX1_raiseLow 1 = .ok (.dup, 1) := by decide +kernel
theorem dX1_raiseLow_2 : decode cX1_raiseLow 2 = .ok (.getfield 18, 3) := by decide +kernel
theorem dX1_raiseLow_5 : decode cX1_raiseLow 5 = .ok (.lload_n 1, 1) := by decide +kernel
theorem dX1_raiseLow_6 : decode cX1_raiseLow 6 = .ok (.lsub, 1) := by decide +kernel
theorem dX1_raiseLow_7 : decode cX1_raiseLow 7 = .ok (.putfield 18, 3) := by decide +kernel
theorem dX1_raiseLow_10 : decode cX1_raiseLow 10 = .ok (.return_, 1) := by decide +kernel
theorem dX1_shiftOnce_0 : decode cX1_shiftOnce 0 = .ok (.aload_n 0, 1) := by decide +kernel
theorem dX1_shiftOnce_1 : decode cX1_shiftOnce 1 = .ok (.aload_n 0, 1) := by decide +kernel
theorem dX1_shiftOnce_2 : decode cX1_shiftOnce 2 = .ok (.getfield 18, 3) := by decide +kernel
theorem dX1_shiftOnce_5 : decode cX1_shiftOnce 5 = .ok (.ldc2_w 39, 3) := by decide +kernel
theorem dX1_shiftOnce_8 : decode cX1_shiftOnce 8 = .ok (.lmul, 1) := by decide +kernel
theorem dX1_shiftOnce_9 : decode cX1_shiftOnce 9 = .ok (.aload_n 0, 1) := by decide +kernel
theorem dX1_shiftOnce_10 : decode cX1_shiftOnce 10 = .ok (.getfield 22, 3) := by decide +kernel
theorem dX1_shiftOnce_13 : decode cX1_shiftOnce 13 = .ok (.aload_n 0, 1) := by decide +kernel
theorem dX1_shiftOnce_14 : decode cX1_shiftOnce 14 = .ok (.getfield 9, 3) := by decide +kernel
theorem dX1_shiftOnce_17 : decode cX1_shiftOnce 17 = .ok (.invokevirtual 41, 3) := by decide +kernel
theorem dX1_shiftOnce_20 : decode cX1_shiftOnce 20 = .ok (.if_icmp .ge 17, 3) := by decide +kernel
theorem dX1_shiftOnce_23 : decode cX1_shiftOnce 23 = .ok (.aload_n 0, 1) := by decide +kernel
theorem dX1_shiftOnce_24 : decode cX1_shiftOnce 24 = .ok (.getfield 9, 3) := by decide +kernel
theorem dX1_shiftOnce_27 : decode cX1_shiftOnce 27 = .ok (.aload_n 0, 1) := by decide +kernel
theorem dX1_shiftOnce_28 : decode cX1_shiftOnce 28 = .ok (.getfield 22, 3) := by decide +kernel
theorem dX1_shiftOnce_31 : decode cX1_shiftOnce 31 = .ok (.invokevirtual 47, 3) := by decide +kernel
theorem dX1_shiftOnce_34 : decode cX1_shiftOnce 34 = .ok (.goto 4, 3) := by decide +kernel
theorem dX1_shiftOnce_37 : decode cX1_shiftOnce 37 = .ok (.iconst 0, 1) := by decide +kernel
theorem dX1_shiftOnce_38 : decode cX1_shiftOnce 38 = .ok (.i2l, 1) := by decide +kernel
theorem dX1_shiftOnce_39 : decode cX1_shiftOnce 39 = .ok (.ladd, 1) := by decide +kernel
theorem dX1_shiftOnce_40 : decode cX1_shiftOnce 40 = .ok (.putfield 18, 3) := by decide +kernel
theorem dX1_shiftOnce_43 : decode cX1_shiftOnce 43 = .ok (.aload_n 0, 1) := by decide +kernel
theorem dX1_shiftOnce_44 : decode cX1_shiftOnce 44 = .ok (.dup, 1) := by decide +kernel
theorem dX1_shiftOnce_45 : decode cX1_shiftOnce 45 = .ok (.getfield 22, 3) := by decide +kernel
theorem dX1_shiftOnce_48 : decode cX1_shiftOnce 48 = .ok (.iconst 1, 1) := by decide +kernel
theorem dX1_shiftOnce_49 : decode cX1_shiftOnce 49 = .ok (.iadd, 1) := by decide +kernel
theorem dX1_shiftOnce_50 : decode cX1_shiftOnce 50 = .ok (.putfield 22, 3) := by decide +kernel
theorem dX1_shiftOnce_53 : decode cX1_shiftOnce 53 = .ok (.return_, 1) := by decide +kernel
theorem dX2_init_0 : decode cX2_init 0 = .ok (.aload_n 0, 1) := by decide +kernel
theorem dX2_init_1 : decode cX2_init 1 = .ok (.invokespecial 3, 3) := by decide +kernel
theorem dX2_init_4 : decode cX2_init 4 = .ok (.aload_n 0, 1) := by decide +kernel
theorem dX2_init_5 : decode cX2_init 5 = .ok (.aload_n 1, 1) := by decide +kernel
theorem dX2_init_6 : decode cX2_init 6 = .ok (.putfield 9, 3) := by decide +kernel
theorem dX2_init_9 : decode cX2_init 9 = .ok (.return_, 1) := by decide +kernel
theorem dX2_restart_0 : decode cX2_restart 0 = .ok (.aload_n 0, 1) := by decide +kernel
theorem dX2_restart_1 : decode cX2_restart 1 = .ok (.invokevirtual 15, 3) := by decide +kernel
theorem dX2_restart_4 : decode cX2_restart 4 = .ok (.aload_n 0, 1) := by decide +kernel
theorem dX2_restart_5 : decode cX2_restart 5 = .ok (.getfield 9, 3) := by decide +kernel
theorem dX2_restart_8 : decode cX2_restart 8 = .ok (.invokevirtual 18, 3) := by decide +kernel
theorem dX2_restart_11 : decode cX2_restart 11 = .ok (.aload_n 0, 1) := by decide +kernel
theorem dX2_restart_12 : decode cX2_restart 12 = .ok (.lconst 0, 1) := by decide +kernel
theorem dX2_restart_13 : decode cX2_restart 13 = .ok (.putfield 23, 3) := by decide +kernel
theorem dX2_restart_16 : decode cX2_restart 16 = .ok (.return_, 1) := by decide +kernel
theorem dX2_placeIn_0 : decode cX2_placeIn 0 = .ok (.iload_n 2, 1) := by decide +kernel
theorem dX2_placeIn_1 : decode cX2_placeIn 1 = .ok (.ireturn, 1) := by decide +kernel
theorem dX2_raiseLow_0 : decode cX2_raiseLow 0 = .ok (.aload_n 0, 1) := by decide +kernel
theorem dX2_raiseLow_1 : decode cX2_raiseLow 1 = .ok (.dup, 1) := by decide +kernel
theorem dX2_raiseLow_2 : decode cX2_raiseLow 2 = .ok (.getfield 23, 3) := by decide +kernel
theorem dX2_raiseLow_5 : decode cX2_raiseLow 5 = .ok (.lload_n 1, 1) := by decide +kernel
theorem dX2_raiseLow_6 : decode cX2_raiseLow 6 = .ok (.ladd, 1) := by decide +kernel
theorem dX2_raiseLow_7 : decode cX2_raiseLow 7 = .ok (.putfield 23, 3) := by decide +kernel
theorem dX2_raiseLow_10 : decode cX2_raiseLow 10 = .ok (.aload_n 0, 1) := by decide +kernel
theorem dX2_raiseLow_11 : decode cX2_raiseLow 11 = .ok (.getfield 23, 3) := by decide +kernel
theorem dX2_raiseLow_14 : decode cX2_raiseLow 14 = .ok (.ldc2_w 27, 3) := by decide +kernel
theorem dX2_raiseLow_17 : decode cX2_raiseLow 17 = .ok (.lcmp, 1) := by decide +kernel
theorem dX2_raiseLow_18 : decode cX2_raiseLow 18 = .ok (.ifCond .le 22, 3) := by decide +kernel
theorem dX2_raiseLow_21 : decode cX2_raiseLow 21 = .ok (.aload_n 0, 1) := by decide +kernel
theorem dX2_raiseLow_22 : decode cX2_raiseLow 22 = .ok (.dup, 1) := by decide +kernel
theorem dX2_raiseLow_23 : decode cX2_raiseLow 23 = .ok (.getfield 23, 3) := by decide +kernel
theorem dX2_raiseLow_26 : decode cX2_raiseLow 26 = .ok (.ldc2_w 27, 3) := by decide +kernel
theorem dX2_raiseLow_29 : decode cX2_raiseLow 29 = .ok (.land, 1) := by decide +kernel
theorem dX2_raiseLow_30 : decode cX2_raiseLow 30 = .ok (.putfield 23, 3) := by decide +kernel
theorem dX2_raiseLow_33 : decode cX2_raiseLow 33 = .ok (.aload_n 0, 1) := by decide +kernel
theorem dX2_raiseLow_34 : decode cX2_raiseLow 34 = .ok (.getfield 9, 3) := by decide +kernel
theorem dX2_raiseLow_37 : decode cX2_raiseLow 37 = .ok (.invokevirtual 29, 3) := by decide +kernel
theorem dX2_raiseLow_40 : decode cX2_raiseLow 40 = .ok (.return_, 1) := by decide +kernel
theorem dX2_shiftOnce_0 : decode cX2_shiftOnce 0 = .ok (.aload_n 0, 1) := by decide +kernel
theorem dX2_shiftOnce_1 : decode cX2_shiftOnce 1 = .ok (.getfield 9, 3) := by decide +kernel
theorem dX2_shiftOnce_4 : decode cX2_shiftOnce 4 = .ok (.aload_n 0, 1) := by decide +kernel
theorem dX2_shiftOnce_5 : decode cX2_shiftOnce 5 = .ok (.getfield 23, 3) := by decide +kernel
theorem dX2_shiftOnce_8 : decode cX2_shiftOnce 8 = .ok (.bipush 24, 2) := by decide +kernel
theorem dX2_shiftOnce_10 : decode cX2_shiftOnce 10 = .ok (.lushr, 1) := by decide +kernel
theorem dX2_shiftOnce_11 : decode cX2_shiftOnce 11 = .ok (.l2i, 1) := by decide +kernel
theorem dX2_shiftOnce_12 : decode cX2_shiftOnce 12 = .ok (.invokevirtual 32, 3) := by decide +kernel
theorem dX2_shiftOnce_15 : decode cX2_shiftOnce 15 = .ok (.pop, 1) := by decide +kernel
theorem dX2_shiftOnce_16 : decode cX2_shiftOnce 16 = .ok (.aload_n 0, 1) := by decide +kernel
theorem dX2_shiftOnce_17 : decode cX2_shiftOnce 17 = .ok (.aload_n 0, 1) := by decide +kernel
theorem dX2_shiftOnce_18 : decode cX2_shiftOnce 18 = .ok (.getfield 23, 3) := by decide +kernel
theorem dX2_shiftOnce_21 : decode cX2_shiftOnce 21 = .ok (.bipush 8, 2) := by decide +kernel
theorem dX2_shiftOnce_23 : decode cX2_shiftOnce 23 = .ok (.lshl, 1) := by decide +kernel
theorem dX2_shiftOnce_24 : decode cX2_shiftOnce 24 = .ok (.ldc2_w 27, 3) := by decide +kernel
theorem dX2_shiftOnce_27 : decode cX2_shiftOnce 27 = .ok (.land, 1) := by decide +kernel
theorem dX2_shiftOnce_28 : decode cX2_shiftOnce 28 = .ok (.putfield 23, 3) := by decide +kernel
theorem dX2_shiftOnce_31 : decode cX2_shiftOnce 31 = .ok (.return_, 1) := by decide +kernel
theorem dX2_finish_0 : decode cX2_finish 0 = .ok (.aload_n 0, 1) := by decide +kernel
theorem dX2_finish_1 : decode cX2_finish 1 = .ok (.invokevirtual 36, 3) := by decide +kernel
theorem dX2_finish_4 : decode cX2_finish 4 = .ok (.iconst 4, 1) := by decide +kernel
theorem dX2_finish_5 : decode cX2_finish 5 = .ok (.iadd, 1) := by decide +kernel
theorem dX2_finish_6 : decode cX2_finish 6 = .ok (.sipush 8000, 3) := by decide +kernel
theorem dX2_finish_9 : decode cX2_finish 9 = .ok (.if_icmp .le 12, 3) := by decide +kernel
theorem dX2_finish_12 : decode cX2_finish 12 = .ok (.aload_n 0, 1) := by decide +kernel
theorem dX2_finish_13 : decode cX2_finish 13 = .ok (.getfield 9, 3) := by decide +kernel
theorem dX2_finish_16 : decode cX2_finish 16 = .ok (.invokevirtual 18, 3) := by decide +kernel
theorem dX2_finish_19 : decode cX2_finish 19 = .ok (.iconst 0, 1) := by decide +kernel
theorem dX2_finish_20 : decode cX2_finish 20 = .ok (.ireturn, 1) := by decide +kernel
theorem dX2_finish_21 : decode cX2_finish 21 = .ok (.bipush 24, 2) := by decide +kernel
theorem dX2_finish_23 : decode cX2_finish 23 = .ok (.istore_n 1, 1) := by decide +kernel
theorem dX2_finish_24 : decode cX2_finish 24 = .ok (.iload_n 1, 1) := by decide +kernel
theorem dX2_finish_25 : decode cX2_finish 25 = .ok (.ifCond .lt 28, 3) := by decide +kernel
theorem dX2_finish_28 : decode cX2_finish 28 = .ok (.aload_n 0, 1) := by decide +kernel
theorem dX2_finish_29 : decode cX2_finish 29 = .ok (.getfield 9, 3) := by decide +kernel
theorem dX2_finish_32 : decode cX2_finish 32 = .ok (.aload_n 0, 1) := by decide +kernel
theorem dX2_finish_33 : decode cX2_finish 33 = .ok (.getfield 23, 3) := by decide +kernel
theorem dX2_finish_36 : decode cX2_finish 36 = .ok (.iload_n 1, 1) := by decide +kernel
theorem dX2_finish_37 : decode cX2_finish 37 = .ok (.lushr, 1) := by decide +kernel
theorem dX2_finish_38 : decode cX2_finish 38 = .ok (.ldc2_w 40, 3) := by decide +kernel
theorem dX2_finish_41 : decode cX2_finish 41 = .ok (.land, 1) := by decide +kernel
theorem dX2_finish_42 : decode cX2_finish 42 = .ok (.l2i, 1) := by decide +kernel
theorem dX2_finish_43 : decode cX2_finish 43 = .ok (.invokevirtual 32, 3) := by decide +kernel
theorem dX2_finish_46 : decode cX2_finish 46 = .ok (.pop, 1) := by decide +kernel
theorem dX2_finish_47 : decode cX2_finish 47 = .ok (.iinc 1 (-8), 3) := by decide +kernel
theorem dX2_finish_50 : decode cX2_finish 50 = .ok (.goto (-26), 3) := by decide +kernel
theorem dX2_finish_53 : decode cX2_finish 53 = .ok (.iconst 1, 1) := by decide +kernel
theorem dX2_finish_54 : decode cX2_finish 54 = .ok (.ireturn, 1) := by decide +kernel
theorem dX3_init_0 : decode cX3_init 0 = .ok (.aload_n 0, 1) := by decide +kernel
theorem dX3_init_1 : decode cX3_init 1 = .ok (.invokespecial 1, 3) := by decide +kernel
theorem dX3_init_4 : decode cX3_init 4 = .ok (.return_, 1) := by decide +kernel
theorem dX3_range_0 : decode cX3_range 0 = .ok (.aload_n 0, 1) := by decide +kernel
theorem dX3_range_1 : decode cX3_range 1 = .ok (.getfield 7, 3) := by decide +kernel
theorem dX3_range_4 : decode cX3_range 4 = .ok (.lreturn, 1) := by decide +kernel
theorem dX3_shifts_0 : decode cX3_shifts 0 = .ok (.aload_n 0, 1) := by decide +kernel
theorem dX3_shifts_1 : decode cX3_shifts 1 = .ok (.getfield 13, 3) := by decide +kernel
theorem dX3_shifts_4 : decode cX3_shifts 4 = .ok (.ireturn, 1) := by decide +kernel
theorem dX3_widen_0 : decode cX3_widen 0 = .ok (.aload_n 0, 1) := by decide +kernel
theorem dX3_widen_1 : decode cX3_widen 1 = .ok (.ldc2_w 17, 3) := by decide +kernel
theorem dX3_widen_4 : decode cX3_widen 4 = .ok (.putfield 7, 3) := by decide +kernel
theorem dX3_widen_7 : decode cX3_widen 7 = .ok (.aload_n 0, 1) := by decide +kernel
theorem dX3_widen_8 : decode cX3_widen 8 = .ok (.iconst 0, 1) := by decide +kernel
theorem dX3_widen_9 : decode cX3_widen 9 = .ok (.putfield 13, 3) := by decide +kernel
theorem dX3_widen_12 : decode cX3_widen 12 = .ok (.return_, 1) := by decide +kernel
theorem dX3_unitOf_0 : decode cX3_unitOf 0 = .ok (.iload_n 1, 1) := by decide +kernel
theorem dX3_unitOf_1 : decode cX3_unitOf 1 = .ok (.iconst 1, 1) := by decide +kernel
theorem dX3_unitOf_2 : decode cX3_unitOf 2 = .ok (.if_icmp .ge 10, 3) := by decide +kernel
theorem dX3_unitOf_5 : decode cX3_unitOf 5 = .ok (.aload_n 0, 1) := by decide +kernel
theorem dX3_unitOf_6 : decode cX3_unitOf 6 = .ok (.getfield 7, 3) := by decide +kernel
theorem dX3_unitOf_9 : decode cX3_unitOf 9 = .ok (.goto 10, 3) := by decide +kernel
theorem dX3_unitOf_12 : decode cX3_unitOf 12 = .ok (.aload_n 0, 1) := by decide +kernel
theorem dX3_unitOf_13 : decode cX3_unitOf 13 = .ok (.getfield 7, 3) := by decide +kernel
theorem dX3_unitOf_16 : decode cX3_unitOf 16 = .ok (.iload_n 1, 1) := by decide +kernel
theorem dX3_unitOf_17 : decode cX3_unitOf 17 = .ok (.i2l, 1) := by decide +kernel
theorem dX3_unitOf_18 : decode cX3_unitOf 18 = .ok (.ldiv, 1) := by decide +kernel
theorem dX3_unitOf_19 : decode cX3_unitOf 19 = .ok (.lreturn, 1) := by decide +kernel
theorem dX3_narrow_0 : decode cX3_narrow 0 = .ok (.aload_n 0, 1) := by decide +kernel
theorem dX3_narrow_1 : decode cX3_narrow 1 = .ok (.iload_n 3, 1) := by decide +kernel
theorem dX3_narrow_2 : decode cX3_narrow 2 = .ok (.invokevirtual 19, 3) := by decide +kernel
theorem dX3_narrow_5 : decode cX3_narrow 5 = .ok (.lstore 4, 2) := by decide +kernel
theorem dX3_narrow_7 : decode cX3_narrow 7 = .ok (.aload_n 0, 1) := by decide +kernel
theorem dX3_narrow_8 : decode cX3_narrow 8 = .ok (.lload 4, 2) := by decide +kernel
theorem dX3_narrow_10 : decode cX3_narrow 10 = .ok (.iload_n 1, 1) := by decide +kernel
theorem dX3_narrow_11 : decode cX3_narrow 11 = .ok (.i2l, 1) := by decide +kernel
theorem dX3_narrow_12 : decode cX3_narrow 12 = .ok (.lmul, 1) := by decide +kernel
theorem dX3_narrow_13 : decode cX3_narrow 13 = .ok (.invokevirtual 23, 3) := by decide +kernel
theorem dX3_narrow_16 : decode cX3_narrow 16 = .ok (.aload_n 0, 1) := by decide +kernel
theorem dX3_narrow_17 : decode cX3_narrow 17 = .ok (.iload_n 1, 1) := by decide +kernel
theorem dX3_narrow_18 : decode cX3_narrow 18 = .ok (.iload_n 2, 1) := by decide +kernel
theorem dX3_narrow_19 : decode cX3_narrow 19 = .ok (.iadd, 1) := by decide +kernel
theorem dX3_narrow_20 : decode cX3_narrow 20 = .ok (.iload_n 3, 1) := by decide +kernel
theorem dX3_narrow_21 : decode cX3_narrow 21 = .ok (.if_icmp .ne 16, 3) := by decide +kernel
theorem dX3_narrow_24 : decode cX3_narrow 24 = .ok (.aload_n 0, 1) := by decide +kernel
theorem dX3_narrow_25 : decode cX3_narrow 25 = .ok (.getfield 7, 3) := by decide +kernel
theorem dX3_narrow_28 : decode cX3_narrow 28 = .ok (.lload 4, 2) := by decide +kernel
theorem dX3_narrow_30 : decode cX3_narrow 30 = .ok (.iload_n 1, 1) := by decide +kernel
theorem dX3_narrow_31 : decode cX3_narrow 31 = .ok (.i2l, 1) := by decide +kernel
theorem dX3_narrow_32 : decode cX3_narrow 32 = .ok (.lmul, 1) := by decide +kernel
theorem dX3_narrow_33 : decode cX3_narrow 33 = .ok (.lsub, 1) := by decide +kernel
theorem dX3_narrow_34 : decode cX3_narrow 34 = .ok (.goto 8, 3) := by decide +kernel
theorem dX3_narrow_37 : decode cX3_narrow 37 = .ok (.lload 4, 2) := by decide +kernel
theorem dX3_narrow_39 : decode cX3_narrow 39 = .ok (.iload_n 2, 1) := by decide +kernel
theorem dX3_narrow_40 : decode cX3_narrow 40 = .ok (.i2l, 1) := by decide +kernel
theorem dX3_narrow_41 : decode cX3_narrow 41 = .ok (.lmul, 1) := by decide +kernel
theorem dX3_narrow_42 : decode cX3_narrow 42 = .ok (.putfield 7, 3) := by decide +kernel
theorem dX3_narrow_45 : decode cX3_narrow 45 = .ok (.iconst 0, 1) := by decide +kernel
theorem dX3_narrow_46 : decode cX3_narrow 46 = .ok (.istore 6, 2) := by decide +kernel
theorem dX3_narrow_48 : decode cX3_narrow 48 = .ok (.iload 6, 2) := by decide +kernel
theorem dX3_narrow_50 : decode cX3_narrow 50 = .ok (.iconst 4, 1) := by decide +kernel
theorem dX3_narrow_51 : decode cX3_narrow 51 = .ok (.if_icmp .ge 46, 3) := by decide +kernel
theorem dX3_narrow_54 : decode cX3_narrow 54 = .ok (.aload_n 0, 1) := by decide +kernel
theorem dX3_narrow_55 : decode cX3_narrow 55 = .ok (.getfield 7, 3) := by decide +kernel
theorem dX3_narrow_58 : decode cX3_narrow 58 = .ok (.ldc2_w 27, 3) := by decide +kernel
theorem dX3_narrow_61 : decode cX3_narrow 61 = .ok (.lcmp, 1) := by decide +kernel
theorem dX3_narrow_62 : decode cX3_narrow 62 = .ok (.ifCond .ge 35, 3) := by decide +kernel
theorem dX3_narrow_65 : decode cX3_narrow 65 = .ok (.aload_n 0, 1) := by decide +kernel
theorem dX3_narrow_66 : decode cX3_narrow 66 = .ok (.invokevirtual 29, 3) := by decide +kernel
theorem dX3_narrow_69 : decode cX3_narrow 69 = .ok (.aload_n 0, 1) := by decide +kernel
theorem dX3_narrow_70 : decode cX3_narrow 70 = .ok (.dup, 1) := by decide +kernel
theorem dX3_narrow_71 : decode cX3_narrow 71 = .ok (.getfield 7, 3) := by decide +kernel
theorem dX3_narrow_74 : decode cX3_narrow 74 = .ok (.ldc2_w 32, 3) := by decide +kernel
theorem dX3_narrow_77 : decode cX3_narrow 77 = .ok (.lmul, 1) := by decide +kernel
theorem dX3_narrow_78 : decode cX3_narrow 78 = .ok (.putfield 7, 3) := by decide +kernel
theorem dX3_narrow_81 : decode cX3_narrow 81 = .ok (.aload_n 0, 1) := by decide +kernel
theorem dX3_narrow_82 : decode cX3_narrow 82 = .ok (.dup, 1) := by decide +kernel
theorem dX3_narrow_83 : decode cX3_narrow 83 = .ok (.getfield 13, 3) := by decide +kernel
theorem dX3_narrow_86 : decode cX3_narrow 86 = .ok (.iconst 1, 1) := by decide +kernel
theorem dX3_narrow_87 : decode cX3_narrow 87 = .ok (.iadd, 1) := by decide +kernel
theorem dX3_narrow_88 : decode cX3_narrow 88 = .ok (.putfield 13, 3) := by decide +kernel
theorem dX3_narrow_91 : decode cX3_narrow 91 = .ok (.iinc 6 1, 3) := by decide +kernel
theorem dX3_narrow_94 : decode cX3_narrow 94 = .ok (.goto (-46), 3) := by decide +kernel
theorem dX3_narrow_97 : decode cX3_narrow 97 = .ok (.return_, 1) := by decide +kernel
theorem dX4_init_0 : decode cX4_init 0 = .ok (.aload_n 0, 1) := by decide +kernel
theorem dX4_init_1 : decode cX4_init 1 = .ok (.invokespecial 3, 3) := by decide +kernel
theorem dX4_init_4 : decode cX4_init 4 = .ok (.aload_n 0, 1) := by decide +kernel
theorem dX4_init_5 : decode cX4_init 5 = .ok (.iload_n 1, 1) := by decide +kernel
theorem dX4_init_6 : decode cX4_init 6 = .ok (.putfield 9, 3) := by decide +kernel
theorem dX4_init_9 : decode cX4_init 9 = .ok (.aload_n 0, 1) := by decide +kernel
theorem dX4_init_10 : decode cX4_init 10 = .ok (.bipush 64, 2) := by decide +kernel
theorem dX4_init_12 : decode cX4_init 12 = .ok (.newarray .int, 2) := by decide +kernel
theorem dX4_init_14 : decode cX4_init 14 = .ok (.putfield 15, 3) := by decide +kernel
theorem dX4_init_17 : decode cX4_init 17 = .ok (.aload_n 0, 1) := by decide +kernel
theorem dX4_init_18 : decode cX4_init 18 = .ok (.bipush 64, 2) := by decide +kernel
theorem dX4_init_20 : decode cX4_init 20 = .ok (.newarray .int, 2) := by decide +kernel
theorem dX4_init_22 : decode cX4_init 22 = .ok (.putfield 19, 3) := by decide +kernel
theorem dX4_init_25 : decode cX4_init 25 = .ok (.aload_n 0, 1) := by decide +kernel
theorem dX4_init_26 : decode cX4_init 26 = .ok (.bipush 64, 2) := by decide +kernel
theorem dX4_init_28 : decode cX4_init 28 = .ok (.newarray .int, 2) := by decide +kernel
theorem dX4_init_30 : decode cX4_init 30 = .ok (.putfield 22, 3) := by decide +kernel
theorem dX4_init_33 : decode cX4_init 33 = .ok (.aload_n 0, 1) := by decide +kernel
theorem dX4_init_34 : decode cX4_init 34 = .ok (.bipush 64, 2) := by decide +kernel
theorem dX4_init_36 : decode cX4_init 36 = .ok (.newarray .int, 2) := by decide +kernel
theorem dX4_init_38 : decode cX4_init 38 = .ok (.putfield 25, 3) := by decide +kernel
theorem dX4_init_41 : decode cX4_init 41 = .ok (.aload_n 0, 1) := by decide +kernel
theorem dX4_init_42 : decode cX4_init 42 = .ok (.bipush 64, 2) := by decide +kernel
theorem dX4_init_44 : decode cX4_init 44 = .ok (.newarray .int, 2) := by decide +kernel
theorem dX4_init_46 : decode cX4_init 46 = .ok (.putfield 28, 3) := by decide +kernel
theorem dX4_init_49 : decode cX4_init 49 = .ok (.aload_n 0, 1) := by decide +kernel
theorem dX4_init_50 : decode cX4_init 50 = .ok (.bipush 64, 2) := by decide +kernel
theorem dX4_init_52 : decode cX4_init 52 = .ok (.newarray .int, 2) := by decide +kernel
theorem dX4_init_54 : decode cX4_init 54 = .ok (.putfield 31, 3) := by decide +kernel
theorem dX4_init_57 : decode cX4_init 57 = .ok (.aload_n 0, 1) := by decide +kernel
theorem dX4_init_58 : decode cX4_init 58 = .ok (.bipush 64, 2) := by decide +kernel
theorem dX4_init_60 : decode cX4_init 60 = .ok (.newarray .int, 2) := by decide +kernel
theorem dX4_init_62 : decode cX4_init 62 = .ok (.putfield 34, 3) := by decide +kernel
theorem dX4_init_65 : decode cX4_init 65 = .ok (.aload_n 0, 1) := by decide +kernel
theorem dX4_init_66 : decode cX4_init 66 = .ok (.bipush 64, 2) := by decide +kernel
theorem dX4_init_68 : decode cX4_init 68 = .ok (.newarray .int, 2) := by decide +kernel
theorem dX4_init_70 : decode cX4_init 70 = .ok (.putfield 37, 3) := by decide +kernel
theorem dX4_init_73 : decode cX4_init 73 = .ok (.aload_n 0, 1) := by decide +kernel
theorem dX4_init_74 : decode cX4_init 74 = .ok (.sipush 256, 3) := by decide +kernel
theorem dX4_init_77 : decode cX4_init 77 = .ok (.newarray .int, 2) := by decide +kernel
theorem dX4_init_79 : decode cX4_init 79 = .ok (.putfield 40, 3) := by decide +kernel
theorem dX4_init_82 : decode cX4_init 82 = .ok (.aload_n 0, 1) := by decide +kernel
theorem dX4_init_83 : decode cX4_init 83 = .ok (.getfield 40, 3) := by decide +kernel
theorem dX4_init_86 : decode cX4_init 86 = .ok (.iconst (-1), 1) := by decide +kernel
theorem dX4_init_87 : decode cX4_init 87 = .ok (.invokestatic 43, 3) := by decide +kernel
theorem dX4_init_90 : decode cX4_init 90 = .ok (.return_, 1) := by decide +kernel
theorem dX4_limitTo_0 : decode cX4_limitTo 0 = .ok (.aload_n 0, 1) := by decide +kernel
theorem dX4_limitTo_1 : decode cX4_limitTo 1 = .ok (.iload_n 1, 1) := by decide +kernel
theorem dX4_limitTo_2 : decode cX4_limitTo 2 = .ok (.putfield 9, 3) := by decide +kernel
theorem dX4_limitTo_5 : decode cX4_limitTo 5 = .ok (.return_, 1) := by decide +kernel
theorem dX4_restart_0 : decode cX4_restart 0 = .ok (.aload_n 0, 1) := by decide +kernel
theorem dX4_restart_1 : decode cX4_restart 1 = .ok (.invokevirtual 49, 3) := by decide +kernel
theorem dX4_restart_4 : decode cX4_restart 4 = .ok (.aload_n 0, 1) := by decide +kernel
theorem dX4_restart_5 : decode cX4_restart 5 = .ok (.iconst 0, 1) := by decide +kernel
theorem dX4_restart_6 : decode cX4_restart 6 = .ok (.putfield 52, 3) := by decide +kernel
theorem dX4_restart_9 : decode cX4_restart 9 = .ok (.aload_n 0, 1) := by decide +kernel
theorem dX4_restart_10 : decode cX4_restart 10 = .ok (.iconst 0, 1) := by decide +kernel
theorem dX4_restart_11 : decode cX4_restart 11 = .ok (.putfield 55, 3) := by decide +kernel
theorem dX4_restart_14 : decode cX4_restart 14 = .ok (.aload_n 0, 1) := by decide +kernel
theorem dX4_restart_15 : decode cX4_restart 15 = .ok (.iconst 0, 1) := by decide +kernel
theorem dX4_restart_16 : decode cX4_restart 16 = .ok (.putfield 58, 3) := by decide +kernel
theorem dX4_restart_19 : decode cX4_restart 19 = .ok (.return_, 1) := by decide +kernel
theorem dX4_nodes_0 : decode cX4_nodes 0 = .ok (.aload_n 0, 1) := by decide +kernel
theorem dX4_nodes_1 : decode cX4_nodes 1 = .ok (.getfield 61, 3) := by decide +kernel
theorem dX4_nodes_4 : decode cX4_nodes 4 = .ok (.ireturn, 1) := by decide +kernel
theorem dX4_contexts_0 : decode cX4_contexts 0 = .ok (.aload_n 0, 1) := by decide +kernel
theorem dX4_contexts_1 : decode cX4_contexts 1 = .ok (.getfield 64, 3) := by decide +kernel
theorem dX4_contexts_4 : decode cX4_contexts 4 = .ok (.ireturn, 1) := by decide +kernel
theorem dX4_rescalings_0 : decode cX4_rescalings 0 = .ok (.aload_n 0, 1) := by decide +kernel
theorem dX4_rescalings_1 : decode cX4_rescalings 1 = .ok (.getfield 55, 3) := by decide +kernel
theorem dX4_rescalings_4 : decode cX4_rescalings 4 = .ok (.ireturn, 1) := by decide +kernel
theorem dX4_resets_0 : decode cX4_resets 0 = .ok (.aload_n 0, 1) := by decide +kernel
theorem dX4_resets_1 : decode cX4_resets 1 = .ok (.getfield 58, 3) := by decide +kernel
theorem dX4_resets_4 : decode cX4_resets 4 = .ok (.ireturn, 1) := by decide +kernel
theorem dX4_topOrder_0 : decode cX4_topOrder 0 = .ok (.aload_n 0, 1) := by decide +kernel
theorem dX4_topOrder_1 : decode cX4_topOrder 1 = .ok (.getfield 52, 3) := by decide +kernel
theorem dX4_topOrder_4 : decode cX4_topOrder 4 = .ok (.ireturn, 1) := by decide +kernel
theorem dX4_keyHere_0 : decode cX4_keyHere 0 = .ok (.iload_n 1, 1) := by decide +kernel
theorem dX4_keyHere_1 : decode cX4_keyHere 1 = .ok (.aload_n 0, 1) := by decide +kernel
theorem dX4_keyHere_2 : decode cX4_keyHere 2 = .ok (.getfield 67, 3) := by decide +kernel
theorem dX4_keyHere_5 : decode cX4_keyHere 5 = .ok (.aload_n 0, 1) := by decide +kernel
theorem dX4_keyHere_6 : decode cX4_keyHere 6 = .ok (.getfield 70, 3) := by decide +kernel
theorem dX4_keyHere_9 : decode cX4_keyHere 9 = .ok (.invokestatic 73, 3) := by decide +kernel
theorem dX4_keyHere_12 : decode cX4_keyHere 12 = .ok (.ireturn, 1) := by decide +kernel
theorem dX4_find_0 : decode cX4_find 0 = .ok (.iload_n 1, 1) := by decide +kernel
theorem dX4_find_1 : decode cX4_find 1 = .ok (.ifCond .ge 5, 3) := by decide +kernel
theorem dX4_find_4 : decode cX4_find 4 = .ok (.iconst (-1), 1) := by decide +kernel
theorem dX4_find_5 : decode cX4_find 5 = .ok (.ireturn, 1) := by decide +kernel
theorem dX4_find_6 : decode cX4_find 6 = .ok (.aload_n 0, 1) := by decide +kernel
theorem dX4_find_7 : decode cX4_find 7 = .ok (.getfield 40, 3) := by decide +kernel
theorem dX4_find_10 : decode cX4_find 10 = .ok (.iload_n 1, 1) := by decide +kernel
theorem dX4_find_11 : decode cX4_find 11 = .ok (.invokestatic 77, 3) := by decide +kernel
theorem dX4_find_14 : decode cX4_find 14 = .ok (.iaload, 1) := by decide +kernel
theorem dX4_find_15 : decode cX4_find 15 = .ok (.istore_n 2, 1) := by decide +kernel
theorem dX4_find_16 : decode cX4_find 16 = .ok (.iconst 0, 1) := by decide +kernel
theorem dX4_find_17 : decode cX4_find 17 = .ok (.istore_n 3, 1) := by decide +kernel
theorem dX4_find_18 : decode cX4_find 18 = .ok (.iload_n 3, 1) := by decide +kernel
theorem dX4_find_19 : decode cX4_find 19 = .ok (.aload_n 0, 1) := by decide +kernel
theorem dX4_find_20 : decode cX4_find 20 = .ok (.getfield 64, 3) := by decide +kernel
theorem dX4_find_23 : decode cX4_find 23 = .ok (.if_icmp .ge 36, 3) := by decide +kernel
theorem dX4_find_26 : decode cX4_find 26 = .ok (.aload_n 0, 1) := by decide +kernel
theorem dX4_find_27 : decode cX4_find 27 = .ok (.iload_n 2, 1) := by decide +kernel
theorem dX4_find_28 : decode cX4_find 28 = .ok (.invokevirtual 81, 3) := by decide +kernel
theorem dX4_find_31 : decode cX4_find 31 = .ok (.ifCond .eq 28, 3) := by decide +kernel
theorem dX4_find_34 : decode cX4_find 34 = .ok (.aload_n 0, 1) := by decide +kernel
theorem dX4_find_35 : decode cX4_find 35 = .ok (.getfield 25, 3) := by decide +kernel
theorem dX4_find_38 : decode cX4_find 38 = .ok (.iload_n 2, 1) := by decide +kernel
theorem dX4_find_39 : decode cX4_find 39 = .ok (.iaload, 1) := by decide +kernel
theorem dX4_find_40 : decode cX4_find 40 = .ok (.iload_n 1, 1) := by decide +kernel
theorem dX4_find_41 : decode cX4_find 41 = .ok (.if_icmp .ne 5, 3) := by decide +kernel
theorem dX4_find_44 : decode cX4_find 44 = .ok (.iload_n 2, 1) := by decide +kernel
theorem dX4_find_45 : decode cX4_find 45 = .ok (.ireturn, 1) := by decide +kernel
theorem dX4_find_46 : decode cX4_find 46 = .ok (.aload_n 0, 1) := by decide +kernel
theorem dX4_find_47 : decode cX4_find 47 = .ok (.getfield 37, 3) := by decide +kernel
theorem dX4_find_50 : decode cX4_find 50 = .ok (.iload_n 2, 1) := by decide +kernel
theorem dX4_find_51 : decode cX4_find 51 = .ok (.iaload, 1) := by decide +kernel
theorem dX4_find_52 : decode cX4_find 52 = .ok (.istore_n 2, 1) := by decide +kernel
theorem dX4_find_53 : decode cX4_find 53 = .ok (.iinc 3 1, 3) := by decide +kernel
theorem dX4_find_56 : decode cX4_find 56 = .ok (.goto (-38), 3) := by decide +kernel
theorem dX4_find_59 : decode cX4_find 59 = .ok (.iconst (-1), 1) := by decide +kernel
theorem dX4_find_60 : decode cX4_find 60 = .ok (.ireturn, 1) := by decide +kernel
theorem dX4_nodesIn_0 : decode cX4_nodesIn 0 = .ok (.aload_n 0, 1) := by decide +kernel
theorem dX4_nodesIn_1 : decode cX4_nodesIn 1 = .ok (.iload_n 1, 1) := by decide +kernel
theorem dX4_nodesIn_2 : decode cX4_nodesIn 2 = .ok (.invokevirtual 81, 3) := by decide +kernel
theorem dX4_nodesIn_5 : decode cX4_nodesIn 5 = .ok (.ifCond .eq 12, 3) := by decide +kernel
theorem dX4_nodesIn_8 : decode cX4_nodesIn 8 = .ok (.aload_n 0, 1) := by decide +kernel
theorem dX4_nodesIn_9 : decode cX4_nodesIn 9 = .ok (.getfield 34, 3) := by decide +kernel
theorem dX4_nodesIn_12 : decode cX4_nodesIn 12 = .ok (.iload_n 1, 1) := by decide +kernel
theorem dX4_nodesIn_13 : decode cX4_nodesIn 13 = .ok (.iaload, 1) := by decide +kernel
theorem dX4_nodesIn_14 : decode cX4_nodesIn 14 = .ok (.goto 4, 3) := by decide +kernel
theorem dX4_nodesIn_17 : decode cX4_nodesIn 17 = .ok (.iconst 0, 1) := by decide +kernel
theorem dX4_nodesIn_18 : decode cX4_nodesIn 18 = .ok (.ireturn, 1) := by decide +kernel
theorem dX4_firstNode_0 : decode cX4_firstNode 0 = .ok (.aload_n 0, 1) := by decide +kernel
theorem dX4_firstNode_1 : decode cX4_firstNode 1 = .ok (.iload_n 1, 1) := by decide +kernel
theorem dX4_firstNode_2 : decode cX4_firstNode 2 = .ok (.invokevirtual 81, 3) := by decide +kernel
theorem dX4_firstNode_5 : decode cX4_firstNode 5 = .ok (.ifCond .eq 12, 3) := by decide +kernel
theorem dX4_firstNode_8 : decode cX4_firstNode 8 = .ok (.aload_n 0, 1) := by decide +kernel
theorem dX4_firstNode_9 : decode cX4_firstNode 9 = .ok (.getfield 28, 3) := by decide +kernel
theorem dX4_firstNode_12 : decode cX4_firstNode 12 = .ok (.iload_n 1, 1) := by decide +kernel
theorem dX4_firstNode_13 : decode cX4_firstNode 13 = .ok (.iaload, 1) := by decide +kernel
theorem dX4_firstNode_14 : decode cX4_firstNode 14 = .ok (.goto 4, 3) := by decide +kernel
theorem dX4_firstNode_17 : decode cX4_firstNode 17 = .ok (.iconst (-1), 1) := by decide +kernel
theorem dX4_firstNode_18 : decode cX4_firstNode 18 = .ok (.ireturn, 1) := by decide +kernel
theorem dX4_nextNode_0 : decode cX4_nextNode 0 = .ok (.aload_n 0, 1) := by decide +kernel
theorem dX4_nextNode_1 : decode cX4_nextNode 1 = .ok (.iload_n 1, 1) := by decide +kernel
theorem dX4_nextNode_2 : decode cX4_nextNode 2 = .ok (.invokevirtual 85, 3) := by decide +kernel
theorem dX4_nextNode_5 : decode cX4_nextNode 5 = .ok (.ifCond .eq 12, 3) := by decide +kernel
theorem dX4_nextNode_8 : decode cX4_nextNode 8 = .ok (.aload_n 0, 1) := by decide +kernel
theorem dX4_nextNode_9 : decode cX4_nextNode 9 = .ok (.getfield 22, 3) := by decide +kernel
theorem dX4_nextNode_12 : decode cX4_nextNode 12 = .ok (.iload_n 1, 1) := by decide +kernel
theorem dX4_nextNode_13 : decode cX4_nextNode 13 = .ok (.iaload, 1) := by decide +kernel
theorem dX4_nextNode_14 : decode cX4_nextNode 14 = .ok (.goto 4, 3) := by decide +kernel
theorem dX4_nextNode_17 : decode cX4_nextNode 17 = .ok (.iconst (-1), 1) := by decide +kernel
theorem dX4_nextNode_18 : decode cX4_nextNode 18 = .ok (.ireturn, 1) := by decide +kernel
theorem dX4_byteOf_0 : decode cX4_byteOf 0 = .ok (.aload_n 0, 1) := by decide +kernel
theorem dX4_byteOf_1 : decode cX4_byteOf 1 = .ok (.iload_n 1, 1) := by decide +kernel
theorem dX4_byteOf_2 : decode cX4_byteOf 2 = .ok (.invokevirtual 85, 3) := by decide +kernel
theorem dX4_byteOf_5 : decode cX4_byteOf 5 = .ok (.ifCond .eq 12, 3) := by decide +kernel
theorem dX4_byteOf_8 : decode cX4_byteOf 8 = .ok (.aload_n 0, 1) := by decide +kernel
theorem dX4_byteOf_9 : decode cX4_byteOf 9 = .ok (.getfield 15, 3) := by decide +kernel
theorem dX4_byteOf_12 : decode cX4_byteOf 12 = .ok (.iload_n 1, 1) := by decide +kernel
theorem dX4_byteOf_13 : decode cX4_byteOf 13 = .ok (.iaload, 1) := by decide +kernel
theorem dX4_byteOf_14 : decode cX4_byteOf 14 = .ok (.goto 4, 3) := by decide +kernel
theorem dX4_byteOf_17 : decode cX4_byteOf 17 = .ok (.iconst (-1), 1) := by decide +kernel
theorem dX4_byteOf_18 : decode cX4_byteOf 18 = .ok (.ireturn, 1) := by decide +kernel
theorem dX4_countOf_0 : decode cX4_countOf 0 = .ok (.aload_n 0, 1) := by decide +kernel
theorem dX4_countOf_1 : decode cX4_countOf 1 = .ok (.iload_n 1, 1) := by decide +kernel
theorem dX4_countOf_2 : decode cX4_countOf 2 = .ok (.invokevirtual 85, 3) := by decide +kernel
theorem dX4_countOf_5 : decode cX4_countOf 5 = .ok (.ifCond .eq 12, 3) := by decide +kernel
theorem dX4_countOf_8 : decode cX4_countOf 8 = .ok (.aload_n 0, 1) := by decide +kernel
theorem dX4_countOf_9 : decode cX4_countOf 9 = .ok (.getfield 19, 3) := by decide +kernel
theorem dX4_countOf_12 : decode cX4_countOf 12 = .ok (.iload_n 1, 1) := by decide +kernel
theorem dX4_countOf_13 : decode cX4_countOf 13 = .ok (.iaload, 1) := by decide +kernel
theorem dX4_countOf_14 : decode cX4_countOf 14 = .ok (.goto 4, 3) := by decide +kernel
theorem dX4_countOf_17 : decode cX4_countOf 17 = .ok (.iconst 0, 1) := by decide +kernel
theorem dX4_countOf_18 : decode cX4_countOf 18 = .ok (.ireturn, 1) := by decide +kernel
theorem dX4_nodeOfByte_0 : decode cX4_nodeOfByte 0 = .ok (.aload_n 0, 1) := by decide +kernel
theorem dX4_nodeOfByte_1 : decode cX4_nodeOfByte 1 = .ok (.iload_n 1, 1) := by decide +kernel
theorem dX4_nodeOfByte_2 : decode cX4_nodeOfByte 2 = .ok (.invokevirtual 88, 3) := by decide +kernel
theorem dX4_nodeOfByte_5 : decode cX4_nodeOfByte 5 = .ok (.istore_n 3, 1) := by decide +kernel
theorem dX4_nodeOfByte_6 : decode cX4_nodeOfByte 6 = .ok (.aload_n 0, 1) := by decide +kernel
theorem dX4_nodeOfByte_7 : decode cX4_nodeOfByte 7 = .ok (.iload_n 1, 1) := by decide +kernel
theorem dX4_nodeOfByte_8 : decode cX4_nodeOfByte 8 = .ok (.invokevirtual 91, 3) := by decide +kernel
theorem dX4_nodeOfByte_11 : decode cX4_nodeOfByte 11 = .ok (.istore 4, 2) := by decide +kernel
theorem dX4_nodeOfByte_13 : decode cX4_nodeOfByte 13 = .ok (.iload 4, 2) := by decide +kernel
theorem dX4_nodeOfByte_15 : decode cX4_nodeOfByte 15 = .ok (.ifCond .le 26, 3) := by decide +kernel
theorem dX4_nodeOfByte_18 : decode cX4_nodeOfByte 18 = .ok (.aload_n 0, 1) := by decide +kernel
theorem dX4_nodeOfByte_19 : decode cX4_nodeOfByte 19 = .ok (.iload_n 3, 1) := by decide +kernel
theorem dX4_nodeOfByte_20 : decode cX4_nodeOfByte 20 = .ok (.invokevirtual 94, 3) := by decide +kernel
theorem dX4_nodeOfByte_23 : decode cX4_nodeOfByte 23 = .ok (.iload_n 2, 1) := by decide +kernel
theorem dX4_nodeOfByte_24 : decode cX4_nodeOfByte 24 = .ok (.if_icmp .ne 5, 3) := by decide +kernel
theorem dX4_nodeOfByte_27 : decode cX4_nodeOfByte 27 = .ok (.iload_n 3, 1) := by decide +kernel
theorem dX4_nodeOfByte_28 : decode cX4_nodeOfByte 28 = .ok (.ireturn, 1) := by decide +kernel
theorem dX4_nodeOfByte_29 : decode cX4_nodeOfByte 29 = .ok (.aload_n 0, 1) := by decide +kernel
theorem dX4_nodeOfByte_30 : decode cX4_nodeOfByte 30 = .ok (.iload_n 3, 1) := by decide +kernel
theorem dX4_nodeOfByte_31 : decode cX4_nodeOfByte 31 = .ok (.invokevirtual 97, 3) := by decide +kernel
theorem dX4_nodeOfByte_34 : decode cX4_nodeOfByte 34 = .ok (.istore_n 3, 1) := by decide +kernel
theorem dX4_nodeOfByte_35 : decode cX4_nodeOfByte 35 = .ok (.iinc 4 (-1), 3) := by decide +kernel
theorem dX4_nodeOfByte_38 : decode cX4_nodeOfByte 38 = .ok (.goto (-25), 3) := by decide +kernel
theorem dX4_nodeOfByte_41 : decode cX4_nodeOfByte 41 = .ok (.iconst (-1), 1) := by decide +kernel
theorem dX4_nodeOfByte_42 : decode cX4_nodeOfByte 42 = .ok (.ireturn, 1) := by decide +kernel
theorem dX4_nodeAt_0 : decode cX4_nodeAt 0 = .ok (.iload_n 2, 1) := by decide +kernel
theorem dX4_nodeAt_1 : decode cX4_nodeAt 1 = .ok (.ifCond .lt 12, 3) := by decide +kernel
theorem dX4_nodeAt_4 : decode cX4_nodeAt 4 = .ok (.iload_n 2, 1) := by decide +kernel
theorem dX4_nodeAt_5 : decode cX4_nodeAt 5 = .ok (.aload_n 0, 1) := by decide +kernel
theorem dX4_nodeAt_6 : decode cX4_nodeAt 6 = .ok (.iload_n 1, 1) := by decide +kernel
theorem dX4_nodeAt_7 : decode cX4_nodeAt 7 = .ok (.invokevirtual 91, 3) := by decide +kernel
theorem dX4_nodeAt_10 : decode cX4_nodeAt 10 = .ok (.if_icmp .lt 5, 3) := by decide +kernel
theorem dX4_nodeAt_13 : decode cX4_nodeAt 13 = .ok (.iconst (-1), 1) := by decide +kernel
theorem dX4_nodeAt_14 : decode cX4_nodeAt 14 = .ok (.ireturn, 1) := by decide +kernel
theorem dX4_nodeAt_15 : decode cX4_nodeAt 15 = .ok (.aload_n 0, 1) := by decide +kernel
theorem dX4_nodeAt_16 : decode cX4_nodeAt 16 = .ok (.iload_n 1, 1) := by decide +kernel
theorem dX4_nodeAt_17 : decode cX4_nodeAt 17 = .ok (.invokevirtual 88, 3) := by decide +kernel
theorem dX4_nodeAt_20 : decode cX4_nodeAt 20 = .ok (.istore_n 3, 1) := by decide +kernel
theorem dX4_nodeAt_21 : decode cX4_nodeAt 21 = .ok (.iconst 0, 1) := by decide +kernel
theorem dX4_nodeAt_22 : decode cX4_nodeAt 22 = .ok (.istore 4, 2) := by decide +kernel
theorem dX4_nodeAt_24 : decode cX4_nodeAt 24 = .ok (.iload 4, 2) := by decide +kernel
theorem dX4_nodeAt_26 : decode cX4_nodeAt 26 = .ok (.iload_n 2, 1) := by decide +kernel
theorem dX4_nodeAt_27 : decode cX4_nodeAt 27 = .ok (.if_icmp .ge 15, 3) := by decide +kernel
theorem dX4_nodeAt_30 : decode cX4_nodeAt 30 = .ok (.aload_n 0, 1) := by decide +kernel
theorem dX4_nodeAt_31 : decode cX4_nodeAt 31 = .ok (.iload_n 3, 1) := by decide +kernel
theorem dX4_nodeAt_32 : decode cX4_nodeAt 32 = .ok (.invokevirtual 97, 3) := by decide +kernel
theorem dX4_nodeAt_35 : decode cX4_nodeAt 35 = .ok (.istore_n 3, 1) := by decide +kernel
theorem dX4_nodeAt_36 : decode cX4_nodeAt 36 = .ok (.iinc 4 1, 3) := by decide +kernel
theorem dX4_nodeAt_39 : decode cX4_nodeAt 39 = .ok (.goto (-15), 3) := by decide +kernel
theorem dX4_nodeAt_42 : decode cX4_nodeAt 42 = .ok (.iload_n 3, 1) := by decide +kernel
theorem dX4_nodeAt_43 : decode cX4_nodeAt 43 = .ok (.ireturn, 1) := by decide +kernel
theorem dX4_learn_0 : decode cX4_learn 0 = .ok (.iload_n 2, 1) := by decide +kernel
theorem dX4_learn_1 : decode cX4_learn 1 = .ok (.iconst 0, 1) := by decide +kernel
theorem dX4_learn_2 : decode cX4_learn 2 = .ok (.invokestatic 100, 3) := by decide +kernel
theorem dX4_learn_5 : decode cX4_learn 5 = .ok (.istore_n 3, 1) := by decide +kernel
theorem dX4_learn_6 : decode cX4_learn 6 = .ok (.aload_n 0, 1) := by decide +kernel
theorem dX4_learn_7 : decode cX4_learn 7 = .ok (.getfield 52, 3) := by decide +kernel
theorem dX4_learn_10 : decode cX4_learn 10 = .ok (.istore 4, 2) := by decide +kernel
theorem dX4_learn_12 : decode cX4_learn 12 = .ok (.iload 4, 2) := by decide +kernel
theorem dX4_learn_14 : decode cX4_learn 14 = .ok (.iload_n 3, 1) := by decide +kernel
theorem dX4_learn_15 : decode cX4_learn 15 = .ok (.if_icmp .lt 26, 3) := by decide +kernel
theorem dX4_learn_18 : decode cX4_learn 18 = .ok (.aload_n 0, 1) := by decide +kernel
theorem dX4_learn_19 : decode cX4_learn 19 = .ok (.aload_n 0, 1) := by decide +kernel
theorem dX4_learn_20 : decode cX4_learn 20 = .ok (.iload 4, 2) := by decide +kernel
theorem dX4_learn_22 : decode cX4_learn 22 = .ok (.invokevirtual 106, 3) := by decide +kernel
theorem dX4_learn_25 : decode cX4_learn 25 = .ok (.iload_n 1, 1) := by decide +kernel
theorem dX4_learn_26 : decode cX4_learn 26 = .ok (.invokevirtual 109, 3) := by decide +kernel
theorem dX4_learn_29 : decode cX4_learn 29 = .ok (.ifCond .ne 6, 3) := by decide +kernel
theorem dX4_learn_32 : decode cX4_learn 32 = .ok (.goto 9, 3) := by decide +kernel
theorem dX4_learn_35 : decode cX4_learn 35 = .ok (.iinc 4 (-1), 3) := by decide +kernel
theorem dX4_learn_38 : decode cX4_learn 38 = .ok (.goto (-26), 3) := by decide +kernel
theorem dX4_learn_41 : decode cX4_learn 41 = .ok (.aload_n 0, 1) := by decide +kernel
theorem dX4_learn_42 : decode cX4_learn 42 = .ok (.aload_n 0, 1) := by decide +kernel
theorem dX4_learn_43 : decode cX4_learn 43 = .ok (.getfield 67, 3) := by decide +kernel
theorem dX4_learn_46 : decode cX4_learn 46 = .ok (.putfield 70, 3) := by decide +kernel
theorem dX4_learn_49 : decode cX4_learn 49 = .ok (.aload_n 0, 1) := by decide +kernel
theorem dX4_learn_50 : decode cX4_learn 50 = .ok (.iload_n 1, 1) := by decide +kernel
theorem dX4_learn_51 : decode cX4_learn 51 = .ok (.putfield 67, 3) := by decide +kernel
theorem dX4_learn_54 : decode cX4_learn 54 = .ok (.aload_n 0, 1) := by decide +kernel
theorem dX4_learn_55 : decode cX4_learn 55 = .ok (.aload_n 0, 1) := by decide +kernel
theorem dX4_learn_56 : decode cX4_learn 56 = .ok (.getfield 52, 3) := by decide +kernel
theorem dX4_learn_59 : decode cX4_learn 59 = .ok (.iconst 1, 1) := by decide +kernel
theorem dX4_learn_60 : decode cX4_learn 60 = .ok (.iadd, 1) := by decide +kernel
theorem dX4_learn_61 : decode cX4_learn 61 = .ok (.iconst 2, 1) := by decide +kernel
theorem dX4_learn_62 : decode cX4_learn 62 = .ok (.invokestatic 113, 3) := by decide +kernel
theorem dX4_learn_65 : decode cX4_learn 65 = .ok (.putfield 52, 3) := by decide +kernel
theorem dX4_learn_68 : decode cX4_learn 68 = .ok (.return_, 1) := by decide +kernel
theorem dX4_learnIn_0 : decode cX4_learnIn 0 = .ok (.aload_n 0, 1) := by decide +kernel
theorem dX4_learnIn_1 : decode cX4_learnIn 1 = .ok (.iload_n 1, 1) := by decide +kernel
theorem dX4_learnIn_2 : decode cX4_learnIn 2 = .ok (.invokevirtual 116, 3) := by decide +kernel
theorem dX4_learnIn_5 : decode cX4_learnIn 5 = .ok (.istore_n 3, 1) := by decide +kernel
theorem dX4_learnIn_6 : decode cX4_learnIn 6 = .ok (.aload_n 0, 1) := by decide +kernel
theorem dX4_learnIn_7 : decode cX4_learnIn 7 = .ok (.iload_n 3, 1) := by decide +kernel
theorem dX4_learnIn_8 : decode cX4_learnIn 8 = .ok (.iload_n 2, 1) := by decide +kernel
theorem dX4_learnIn_9 : decode cX4_learnIn 9 = .ok (.invokevirtual 119, 3) := by decide +kernel
theorem dX4_learnIn_12 : decode cX4_learnIn 12 = .ok (.istore 4, 2) := by decide +kernel
theorem dX4_learnIn_14 : decode cX4_learnIn 14 = .ok (.aload_n 0, 1) := by decide +kernel
theorem dX4_learnIn_15 : decode cX4_learnIn 15 = .ok (.iload 4, 2) := by decide +kernel
theorem dX4_learnIn_17 : decode cX4_learnIn 17 = .ok (.invokevirtual 85, 3) := by decide +kernel
theorem dX4_learnIn_20 : decode cX4_learnIn 20 = .ok (.ifCond .eq 34, 3) := by decide +kernel
theorem dX4_learnIn_23 : decode cX4_learnIn 23 = .ok (.aload_n 0, 1) := by decide +kernel
theorem dX4_learnIn_24 : decode cX4_learnIn 24 = .ok (.getfield 19, 3) := by decide +kernel
theorem dX4_learnIn_27 : decode cX4_learnIn 27 = .ok (.iload 4, 2) := by decide +kernel
theorem dX4_learnIn_29 : decode cX4_learnIn 29 = .ok (.iaload, 1) := by decide +kernel
theorem dX4_learnIn_30 : decode cX4_learnIn 30 = .ok (.sipush 255, 3) := by decide +kernel
theorem dX4_learnIn_33 : decode cX4_learnIn 33 = .ok (.if_icmp .lt 8, 3) := by decide +kernel
theorem dX4_learnIn_36 : decode cX4_learnIn 36 = .ok (.aload_n 0, 1) := by decide +kernel
theorem dX4_learnIn_37 : decode cX4_learnIn 37 = .ok (.iload_n 3, 1) := by decide +kernel
theorem dX4_learnIn_38 : decode cX4_learnIn 38 = .ok (.invokevirtual 122, 3) := by decide +kernel
theorem dX4_learnIn_41 : decode cX4_learnIn 41 = .ok (.aload_n 0, 1) := by decide +kernel
theorem dX4_learnIn_42 : decode cX4_learnIn 42 = .ok (.getfield 19, 3) := by decide +kernel
theorem dX4_learnIn_45 : decode cX4_learnIn 45 = .ok (.iload 4, 2) := by decide +kernel
theorem dX4_learnIn_47 : decode cX4_learnIn 47 = .ok (.dup2, 1) := by decide +kernel
theorem dX4_learnIn_48 : decode cX4_learnIn 48 = .ok (.iaload, 1) := by decide +kernel
theorem dX4_learnIn_49 : decode cX4_learnIn 49 = .ok (.iconst 1, 1) := by decide +kernel
theorem dX4_learnIn_50 : decode cX4_learnIn 50 = .ok (.iadd, 1) := by decide +kernel
theorem dX4_learnIn_51 : decode cX4_learnIn 51 = .ok (.iastore, 1) := by decide +kernel
theorem dX4_learnIn_52 : decode cX4_learnIn 52 = .ok (.iconst 1, 1) := by decide +kernel
theorem dX4_learnIn_53 : decode cX4_learnIn 53 = .ok (.ireturn, 1) := by decide +kernel
theorem dX4_learnIn_54 : decode cX4_learnIn 54 = .ok (.aload_n 0, 1) := by decide +kernel
theorem dX4_learnIn_55 : decode cX4_learnIn 55 = .ok (.getfield 61, 3) := by decide +kernel
theorem dX4_learnIn_58 : decode cX4_learnIn 58 = .ok (.aload_n 0, 1) := by decide +kernel
theorem dX4_learnIn_59 : decode cX4_learnIn 59 = .ok (.getfield 9, 3) := by decide +kernel
theorem dX4_learnIn_62 : decode cX4_learnIn 62 = .ok (.if_icmp .lt 19, 3) := by decide +kernel
theorem dX4_learnIn_65 : decode cX4_learnIn 65 = .ok (.aload_n 0, 1) := by decide +kernel
theorem dX4_learnIn_66 : decode cX4_learnIn 66 = .ok (.invokevirtual 49, 3) := by decide +kernel
theorem dX4_learnIn_69 : decode cX4_learnIn 69 = .ok (.aload_n 0, 1) := by decide +kernel
theorem dX4_learnIn_70 : decode cX4_learnIn 70 = .ok (.dup, 1) := by decide +kernel
theorem dX4_learnIn_71 : decode cX4_learnIn 71 = .ok (.getfield 58, 3) := by decide +kernel
theorem dX4_learnIn_74 : decode cX4_learnIn 74 = .ok (.iconst 1, 1) := by decide +kernel
theorem dX4_learnIn_75 : decode cX4_learnIn 75 = .ok (.iadd, 1) := by decide +kernel
theorem dX4_learnIn_76 : decode cX4_learnIn 76 = .ok (.putfield 58, 3) := by decide +kernel
theorem dX4_learnIn_79 : decode cX4_learnIn 79 = .ok (.iconst 0, 1) := by decide +kernel
theorem dX4_learnIn_80 : decode cX4_learnIn 80 = .ok (.ireturn, 1) := by decide +kernel
theorem dX4_learnIn_81 : decode cX4_learnIn 81 = .ok (.aload_n 0, 1) := by decide +kernel
theorem dX4_learnIn_82 : decode cX4_learnIn 82 = .ok (.aload_n 0, 1) := by decide +kernel
theorem dX4_learnIn_83 : decode cX4_learnIn 83 = .ok (.iload_n 3, 1) := by decide +kernel
theorem dX4_learnIn_84 : decode cX4_learnIn 84 = .ok (.invokevirtual 81, 3) := by decide +kernel
theorem dX4_learnIn_87 : decode cX4_learnIn 87 = .ok (.ifCond .eq 7, 3) := by decide +kernel
theorem dX4_learnIn_90 : decode cX4_learnIn 90 = .ok (.iload_n 3, 1) := by decide +kernel
theorem dX4_learnIn_91 : decode cX4_learnIn 91 = .ok (.goto 8, 3) := by decide +kernel
theorem dX4_learnIn_94 : decode cX4_learnIn 94 = .ok (.aload_n 0, 1) := by decide +kernel
theorem dX4_learnIn_95 : decode cX4_learnIn 95 = .ok (.iload_n 1, 1) := by decide +kernel
theorem dX4_learnIn_96 : decode cX4_learnIn 96 = .ok (.invokevirtual 126, 3) := by decide +kernel
theorem dX4_learnIn_99 : decode cX4_learnIn 99 = .ok (.iload_n 2, 1) := by decide +kernel
theorem dX4_learnIn_100 : decode cX4_learnIn 100 = .ok (.invokevirtual 129, 3) := by decide +kernel
theorem dX4_learnIn_103 : decode cX4_learnIn 103 = .ok (.iconst 1, 1) := by decide +kernel
theorem dX4_learnIn_104 : decode cX4_learnIn 104 = .ok (.ireturn, 1) := by decide +kernel
theorem dX4_rescale_0 : decode cX4_rescale 0 = .ok (.aload_n 0, 1) := by decide +kernel
theorem dX4_rescale_1 : decode cX4_rescale 1 = .ok (.iload_n 1, 1) := by decide +kernel
theorem dX4_rescale_2 : decode cX4_rescale 2 = .ok (.invokevirtual 88, 3) := by decide +kernel
theorem dX4_rescale_5 : decode cX4_rescale 5 = .ok (.istore_n 2, 1) := by decide +kernel
theorem dX4_rescale_6 : decode cX4_rescale 6 = .ok (.aload_n 0, 1) := by decide +kernel
theorem dX4_rescale_7 : decode cX4_rescale 7 = .ok (.iload_n 1, 1) := by decide +kernel
theorem dX4_rescale_8 : decode cX4_rescale 8 = .ok (.invokevirtual 91, 3) := by decide +kernel
theorem dX4_rescale_11 : decode cX4_rescale 11 = .ok (.istore_n 3, 1) := by decide +kernel
theorem dX4_rescale_12 : decode cX4_rescale 12 = .ok (.iload_n 3, 1) := by decide +kernel
theorem dX4_rescale_13 : decode cX4_rescale 13 = .ok (.ifCond .le 40, 3) := by decide +kernel
theorem dX4_rescale_16 : decode cX4_rescale 16 = .ok (.aload_n 0, 1) := by decide +kernel
theorem dX4_rescale_17 : decode cX4_rescale 17 = .ok (.iload_n 2, 1) := by decide +kernel
theorem dX4_rescale_18 : decode cX4_rescale 18 = .ok (.invokevirtual 85, 3) := by decide +kernel
theorem dX4_rescale_21 : decode cX4_rescale 21 = .ok (.ifCond .eq 32, 3) := by decide +kernel
theorem dX4_rescale_24 : decode cX4_rescale 24 = .ok (.aload_n 0, 1) := by decide +kernel
theorem dX4_rescale_25 : decode cX4_rescale 25 = .ok (.getfield 19, 3) := by decide +kernel
theorem dX4_rescale_28 : decode cX4_rescale 28 = .ok (.iload_n 2, 1) := by decide +kernel
theorem dX4_rescale_29 : decode cX4_rescale 29 = .ok (.aload_n 0, 1) := by decide +kernel
theorem dX4_rescale_30 : decode cX4_rescale 30 = .ok (.getfield 19, 3) := by decide +kernel
theorem dX4_rescale_33 : decode cX4_rescale 33 = .ok (.iload_n 2, 1) := by decide +kernel
theorem dX4_rescale_34 : decode cX4_rescale 34 = .ok (.iaload, 1) := by decide +kernel
theorem dX4_rescale_35 : decode cX4_rescale 35 = .ok (.iconst 1, 1) := by decide +kernel
theorem dX4_rescale_36 : decode cX4_rescale 36 = .ok (.iadd, 1) := by decide +kernel
theorem dX4_rescale_37 : decode cX4_rescale 37 = .ok (.iconst 2, 1) := by decide +kernel
theorem dX4_rescale_38 : decode cX4_rescale 38 = .ok (.idiv, 1) := by decide +kernel
theorem dX4_rescale_39 : decode cX4_rescale 39 = .ok (.iastore, 1) := by decide +kernel
theorem dX4_rescale_40 : decode cX4_rescale 40 = .ok (.aload_n 0, 1) := by decide +kernel
theorem dX4_rescale_41 : decode cX4_rescale 41 = .ok (.getfield 22, 3) := by decide +kernel
theorem dX4_rescale_44 : decode cX4_rescale 44 = .ok (.iload_n 2, 1) := by decide +kernel
theorem dX4_rescale_45 : decode cX4_rescale 45 = .ok (.iaload, 1) := by decide +kernel
theorem dX4_rescale_46 : decode cX4_rescale 46 = .ok (.istore_n 2, 1) := by decide +kernel
theorem dX4_rescale_47 : decode cX4_rescale 47 = .ok (.iinc 3 (-1), 3) := by decide +kernel
theorem dX4_rescale_50 : decode cX4_rescale 50 = .ok (.goto (-38), 3) := by decide +kernel
theorem dX4_rescale_53 : decode cX4_rescale 53 = .ok (.aload_n 0, 1) := by decide +kernel
theorem dX4_rescale_54 : decode cX4_rescale 54 = .ok (.dup, 1) := by decide +kernel
theorem dX4_rescale_55 : decode cX4_rescale 55 = .ok (.getfield 55, 3) := by decide +kernel
theorem dX4_rescale_58 : decode cX4_rescale 58 = .ok (.iconst 1, 1) := by decide +kernel
theorem dX4_rescale_59 : decode cX4_rescale 59 = .ok (.iadd, 1) := by decide +kernel
theorem dX4_rescale_60 : decode cX4_rescale 60 = .ok (.putfield 55, 3) := by decide +kernel
theorem dX4_rescale_63 : decode cX4_rescale 63 = .ok (.return_, 1) := by decide +kernel
theorem dX4_addNode_0 : decode cX4_addNode 0 = .ok (.aload_n 0, 1) := by decide +kernel
theorem dX4_addNode_1 : decode cX4_addNode 1 = .ok (.iload_n 1, 1) := by decide +kernel
theorem dX4_addNode_2 : decode cX4_addNode 2 = .ok (.invokevirtual 81, 3) := by decide +kernel
theorem dX4_addNode_5 : decode cX4_addNode 5 = .ok (.ifCond .ne 4, 3) := by decide +kernel
theorem dX4_addNode_8 : decode cX4_addNode 8 = .ok (.return_, 1) := by decide +kernel
theorem dX4_addNode_9 : decode cX4_addNode 9 = .ok (.aload_n 0, 1) := by decide +kernel
theorem dX4_addNode_10 : decode cX4_addNode 10 = .ok (.invokevirtual 133, 3) := by decide +kernel
theorem dX4_addNode_13 : decode cX4_addNode 13 = .ok (.aload_n 0, 1) := by decide +kernel
theorem dX4_addNode_14 : decode cX4_addNode 14 = .ok (.getfield 61, 3) := by decide +kernel
theorem dX4_addNode_17 : decode cX4_addNode 17 = .ok (.istore_n 3, 1) := by decide +kernel
theorem dX4_addNode_18 : decode cX4_addNode 18 = .ok (.aload_n 0, 1) := by decide +kernel
theorem dX4_addNode_19 : decode cX4_addNode 19 = .ok (.dup, 1) := by decide +kernel
theorem dX4_addNode_20 : decode cX4_addNode 20 = .ok (.getfield 61, 3) := by decide +kernel
theorem dX4_addNode_23 : decode cX4_addNode 23 = .ok (.iconst 1, 1) := by decide +kernel
theorem dX4_addNode_24 : decode cX4_addNode 24 = .ok (.iadd, 1) := by decide +kernel
theorem dX4_addNode_25 : decode cX4_addNode 25 = .ok (.putfield 61, 3) := by decide +kernel
theorem dX4_addNode_28 : decode cX4_addNode 28 = .ok (.aload_n 0, 1) := by decide +kernel
theorem dX4_addNode_29 : decode cX4_addNode 29 = .ok (.getfield 15, 3) := by decide +kernel
theorem dX4_addNode_32 : decode cX4_addNode 32 = .ok (.iload_n 3, 1) := by decide +kernel
theorem dX4_addNode_33 : decode cX4_addNode 33 = .ok (.iload_n 2, 1) := by decide +kernel
theorem dX4_addNode_34 : decode cX4_addNode 34 = .ok (.iastore, 1) := by decide +kernel
theorem dX4_addNode_35 : decode cX4_addNode 35 = .ok (.aload_n 0, 1) := by decide +kernel
theorem dX4_addNode_36 : decode cX4_addNode 36 = .ok (.getfield 19, 3) := by decide +kernel
theorem dX4_addNode_39 : decode cX4_addNode 39 = .ok (.iload_n 3, 1) := by decide +kernel
theorem dX4_addNode_40 : decode cX4_addNode 40 = .ok (.iconst 1, 1) := by decide +kernel
theorem dX4_addNode_41 : decode cX4_addNode 41 = .ok (.iastore, 1) := by decide +kernel
theorem dX4_addNode_42 : decode cX4_addNode 42 = .ok (.aload_n 0, 1) := by decide +kernel
theorem dX4_addNode_43 : decode cX4_addNode 43 = .ok (.getfield 22, 3) := by decide +kernel
theorem dX4_addNode_46 : decode cX4_addNode 46 = .ok (.iload_n 3, 1) := by decide +kernel
theorem dX4_addNode_47 : decode cX4_addNode 47 = .ok (.iconst (-1), 1) := by decide +kernel
theorem dX4_addNode_48 : decode cX4_addNode 48 = .ok (.iastore, 1) := by decide +kernel
theorem dX4_addNode_49 : decode cX4_addNode 49 = .ok (.aload_n 0, 1) := by decide +kernel
theorem dX4_addNode_50 : decode cX4_addNode 50 = .ok (.getfield 31, 3) := by decide +kernel
theorem dX4_addNode_53 : decode cX4_addNode 53 = .ok (.iload_n 1, 1) := by decide +kernel
theorem dX4_addNode_54 : decode cX4_addNode 54 = .ok (.iaload, 1) := by decide +kernel
theorem dX4_addNode_55 : decode cX4_addNode 55 = .ok (.istore 4, 2) := by decide +kernel
theorem dX4_addNode_57 : decode cX4_addNode 57 = .ok (.aload_n 0, 1) := by decide +kernel
theorem dX4_addNode_58 : decode cX4_addNode 58 = .ok (.iload 4, 2) := by decide +kernel
theorem dX4_addNode_60 : decode cX4_addNode 60 = .ok (.invokevirtual 85, 3) := by decide +kernel
theorem dX4_addNode_63 : decode cX4_addNode 63 = .ok (.ifCond .eq 14, 3) := by decide +kernel
theorem dX4_addNode_66 : decode cX4_addNode 66 = .ok (.aload_n 0, 1) := by decide +kernel
theorem dX4_addNode_67 : decode cX4_addNode 67 = .ok (.getfield 22, 3) := by decide +kernel
theorem dX4_addNode_70 : decode cX4_addNode 70 = .ok (.iload 4, 2) := by decide +kernel
theorem dX4_addNode_72 : decode cX4_addNode 72 = .ok (.iload_n 3, 1) := by decide +kernel
theorem dX4_addNode_73 : decode cX4_addNode 73 = .ok (.iastore, 1) := by decide +kernel
theorem dX4_addNode_74 : decode cX4_addNode 74 = .ok (.goto 10, 3) := by decide +kernel
theorem dX4_addNode_77 : decode cX4_addNode 77 = .ok (.aload_n 0, 1) := by decide +kernel
theorem dX4_addNode_78 : decode cX4_addNode 78 = .ok (.getfield 28, 3) := by decide +kernel
theorem dX4_addNode_81 : decode cX4_addNode 81 = .ok (.iload_n 1, 1) := by decide +kernel
theorem dX4_addNode_82 : decode cX4_addNode 82 = .ok (.iload_n 3, 1) := by decide +kernel
theorem dX4_addNode_83 : decode cX4_addNode 83 = .ok (.iastore, 1) := by decide +kernel
theorem dX4_addNode_84 : decode cX4_addNode 84 = .ok (.aload_n 0, 1) := by decide +kernel
theorem dX4_addNode_85 : decode cX4_addNode 85 = .ok (.getfield 31, 3) := by decide +kernel
theorem dX4_addNode_88 : decode cX4_addNode 88 = .ok (.iload_n 1, 1) := by decide +kernel
theorem dX4_addNode_89 : decode cX4_addNode 89 = .ok (.iload_n 3, 1) := by decide +kernel
theorem dX4_addNode_90 : decode cX4_addNode 90 = .ok (.iastore, 1) := by decide +kernel
theorem dX4_addNode_91 : decode cX4_addNode 91 = .ok (.aload_n 0, 1) := by decide +kernel
theorem dX4_addNode_92 : decode cX4_addNode 92 = .ok (.getfield 34, 3) := by decide +kernel
theorem dX4_addNode_95 : decode cX4_addNode 95 = .ok (.iload_n 1, 1) := by decide +kernel
theorem dX4_addNode_96 : decode cX4_addNode 96 = .ok (.dup2, 1) := by decide +kernel
theorem dX4_addNode_97 : decode cX4_addNode 97 = .ok (.iaload, 1) := by decide +kernel
theorem dX4_addNode_98 : decode cX4_addNode 98 = .ok (.iconst 1, 1) := by decide +kernel
theorem dX4_addNode_99 : decode cX4_addNode 99 = .ok (.iadd, 1) := by decide +kernel
theorem dX4_addNode_100 : decode cX4_addNode 100 = .ok (.iastore, 1) := by decide +kernel
theorem dX4_addNode_101 : decode cX4_addNode 101 = .ok (.return_, 1) := by decide +kernel
theorem dX4_addContext_0 : decode cX4_addContext 0 = .ok (.aload_n 0, 1) := by decide +kernel
theorem dX4_addContext_1 : decode cX4_addContext 1 = .ok (.invokevirtual 136, 3) := by decide +kernel
theorem dX4_addContext_4 : decode cX4_addContext 4 = .ok (.aload_n 0, 1) := by decide +kernel
theorem dX4_addContext_5 : decode cX4_addContext 5 = .ok (.getfield 64, 3) := by decide +kernel
theorem dX4_addContext_8 : decode cX4_addContext 8 = .ok (.istore_n 2, 1) := by decide +kernel
theorem dX4_addContext_9 : decode cX4_addContext 9 = .ok (.aload_n 0, 1) := by decide +kernel
theorem dX4_addContext_10 : decode cX4_addContext 10 = .ok (.dup, 1) := by decide +kernel
theorem dX4_addContext_11 : decode cX4_addContext 11 = .ok (.getfield 64, 3) := by decide +kernel
theorem dX4_addContext_14 : decode cX4_addContext 14 = .ok (.iconst 1, 1) := by decide +kernel
theorem dX4_addContext_15 : decode cX4_addContext 15 = .ok (.iadd, 1) := by decide +kernel
theorem dX4_addContext_16 : decode cX4_addContext 16 = .ok (.putfield 64, 3) := by decide +kernel
theorem dX4_addContext_19 : decode cX4_addContext 19 = .ok (.iload_n 1, 1) := by decide +kernel
theorem dX4_addContext_20 : decode cX4_addContext 20 = .ok (.invokestatic 77, 3) := by decide +kernel
theorem dX4_addContext_23 : decode cX4_addContext 23 = .ok (.istore_n 3, 1) := by decide +kernel
theorem dX4_addContext_24 : decode cX4_addContext 24 = .ok (.aload_n 0, 1) := by decide +kernel
theorem dX4_addContext_25 : decode cX4_addContext 25 = .ok (.getfield 25, 3) := by decide +kernel
theorem dX4_addContext_28 : decode cX4_addContext 28 = .ok (.iload_n 2, 1) := by decide +kernel
theorem dX4_addContext_29 : decode cX4_addContext 29 = .ok (.iload_n 1, 1) := by decide +kernel
theorem dX4_addContext_30 : decode cX4_addContext 30 = .ok (.iastore, 1) := by decide +kernel
theorem dX4_addContext_31 : decode cX4_addContext 31 = .ok (.aload_n 0, 1) := by decide +kernel
theorem dX4_addContext_32 : decode cX4_addContext 32 = .ok (.getfield 28, 3) := by decide +kernel
theorem dX4_addContext_35 : decode cX4_addContext 35 = .ok (.iload_n 2, 1) := by decide +kernel
theorem dX4_addContext_36 : decode cX4_addContext 36 = .ok (.iconst (-1), 1) := by decide +kernel
theorem dX4_addContext_37 : decode cX4_addContext 37 = .ok (.iastore, 1) := by decide +kernel
theorem dX4_addContext_38 : decode cX4_addContext 38 = .ok (.aload_n 0, 1) := by decide +kernel
theorem dX4_addContext_39 : decode cX4_addContext 39 = .ok (.getfield 31, 3) := by decide +kernel
theorem dX4_addContext_42 : decode cX4_addContext 42 = .ok (.iload_n 2, 1) := by decide +kernel
theorem dX4_addContext_43 : decode cX4_addContext 43 = .ok (.iconst (-1), 1) := by decide +kernel
theorem dX4_addContext_44 : decode cX4_addContext 44 = .ok (.iastore, 1) := by decide +kernel
theorem dX4_addContext_45 : decode cX4_addContext 45 = .ok (.aload_n 0, 1) := by decide +kernel
theorem dX4_addContext_46 : decode cX4_addContext 46 = .ok (.getfield 34, 3) := by decide +kernel
theorem dX4_addContext_49 : decode cX4_addContext 49 = .ok (.iload_n 2, 1) := by decide +kernel
theorem dX4_addContext_50 : decode cX4_addContext 50 = .ok (.iconst 0, 1) := by decide +kernel
theorem dX4_addContext_51 : decode cX4_addContext 51 = .ok (.iastore, 1) := by decide +kernel
theorem dX4_addContext_52 : decode cX4_addContext 52 = .ok (.aload_n 0, 1) := by decide +kernel
theorem dX4_addContext_53 : decode cX4_addContext 53 = .ok (.getfield 37, 3) := by decide +kernel
theorem dX4_addContext_56 : decode cX4_addContext 56 = .ok (.iload_n 2, 1) := by decide +kernel
theorem dX4_addContext_57 : decode cX4_addContext 57 = .ok (.aload_n 0, 1) := by decide +kernel
theorem dX4_addContext_58 : decode cX4_addContext 58 = .ok (.getfield 40, 3) := by decide +kernel
theorem dX4_addContext_61 : decode cX4_addContext 61 = .ok (.iload_n 3, 1) := by decide +kernel
theorem dX4_addContext_62 : decode cX4_addContext 62 = .ok (.iaload, 1) := by decide +kernel
theorem dX4_addContext_63 : decode cX4_addContext 63 = .ok (.iastore, 1) := by decide +kernel
theorem dX4_addContext_64 : decode cX4_addContext 64 = .ok (.aload_n 0, 1) := by decide +kernel
theorem dX4_addContext_65 : decode cX4_addContext 65 = .ok (.getfield 40, 3) := by decide +kernel
theorem dX4_addContext_68 : decode cX4_addContext 68 = .ok (.iload_n 3, 1) := by decide +kernel
theorem dX4_addContext_69 : decode cX4_addContext 69 = .ok (.iload_n 2, 1) := by decide +kernel
theorem dX4_addContext_70 : decode cX4_addContext 70 = .ok (.iastore, 1) := by decide +kernel
theorem dX4_addContext_71 : decode cX4_addContext 71 = .ok (.iload_n 2, 1) := by decide +kernel
theorem dX4_addContext_72 : decode cX4_addContext 72 = .ok (.ireturn, 1) := by decide +kernel
theorem dX4_growNodes_0 : decode cX4_growNodes 0 = .ok (.aload_n 0, 1) := by decide +kernel
theorem dX4_growNodes_1 : decode cX4_growNodes 1 = .ok (.getfield 61, 3) := by decide +kernel
theorem dX4_growNodes_4 : decode cX4_growNodes 4 = .ok (.aload_n 0, 1) := by decide +kernel
theorem dX4_growNodes_5 : decode cX4_growNodes 5 = .ok (.getfield 15, 3) := by decide +kernel
theorem dX4_growNodes_8 : decode cX4_growNodes 8 = .ok (.arraylength, 1) := by decide +kernel
theorem dX4_growNodes_9 : decode cX4_growNodes 9 = .ok (.if_icmp .lt 50, 3) := by decide +kernel
theorem dX4_growNodes_12 : decode cX4_growNodes 12 = .ok (.aload_n 0, 1) := by decide +kernel
theorem dX4_growNodes_13 : decode cX4_growNodes 13 = .ok (.getfield 61, 3) := by decide +kernel
theorem dX4_growNodes_16 : decode cX4_growNodes 16 = .ok (.sipush 6000, 3) := by decide +kernel
theorem dX4_growNodes_19 : decode cX4_growNodes 19 = .ok (.invokestatic 139, 3) := by decide +kernel
theorem dX4_growNodes_22 : decode cX4_growNodes 22 = .ok (.istore_n 1, 1) := by decide +kernel
theorem dX4_growNodes_23 : decode cX4_growNodes 23 = .ok (.aload_n 0, 1) := by decide +kernel
theorem dX4_growNodes_24 : decode cX4_growNodes 24 = .ok (.aload_n 0, 1) := by decide +kernel
theorem dX4_growNodes_25 : decode cX4_growNodes 25 = .ok (.getfield 15, 3) := by decide +kernel
theorem dX4_growNodes_28 : decode cX4_growNodes 28 = .ok (.iload_n 1, 1) := by decide +kernel
theorem dX4_growNodes_29 : decode cX4_growNodes 29 = .ok (.invokestatic 142, 3) := by decide +kernel
theorem dX4_growNodes_32 : decode cX4_growNodes 32 = .ok (.putfield 15, 3) := by decide +kernel
theorem dX4_growNodes_35 : decode cX4_growNodes 35 = .ok (.aload_n 0, 1) := by decide +kernel
theorem dX4_growNodes_36 : decode cX4_growNodes 36 = .ok (.aload_n 0, 1) := by decide +kernel
theorem dX4_growNodes_37 : decode cX4_growNodes 37 = .ok (.getfield 19, 3) := by decide +kernel
theorem dX4_growNodes_40 : decode cX4_growNodes 40 = .ok (.iload_n 1, 1) := by decide +kernel
theorem dX4_growNodes_41 : decode cX4_growNodes 41 = .ok (.invokestatic 142, 3) := by decide +kernel
theorem dX4_growNodes_44 : decode cX4_growNodes 44 = .ok (.putfield 19, 3) := by decide +kernel
theorem dX4_growNodes_47 : decode cX4_growNodes 47 = .ok (.aload_n 0, 1) := by decide +kernel
theorem dX4_growNodes_48 : decode cX4_growNodes 48 = .ok (.aload_n 0, 1) := by decide +kernel
theorem dX4_growNodes_49 : decode cX4_growNodes 49 = .ok (.getfield 22, 3) := by decide +kernel
theorem dX4_growNodes_52 : decode cX4_growNodes 52 = .ok (.iload_n 1, 1) := by decide +kernel
theorem dX4_growNodes_53 : decode cX4_growNodes 53 = .ok (.invokestatic 142, 3) := by decide +kernel
theorem dX4_growNodes_56 : decode cX4_growNodes 56 = .ok (.putfield 22, 3) := by decide +kernel
theorem dX4_growNodes_59 : decode cX4_growNodes 59 = .ok (.return_, 1) := by decide +kernel
theorem dX4_growContexts_0 : decode cX4_growContexts 0 = .ok (.aload_n 0, 1) := by decide +kernel
theorem dX4_growContexts_1 : decode cX4_growContexts 1 = .ok (.getfield 64, 3) := by decide +kernel
theorem dX4_growContexts_4 : decode cX4_growContexts 4 = .ok (.aload_n 0, 1) := by decide +kernel
theorem dX4_growContexts_5 : decode cX4_growContexts 5 = .ok (.getfield 25, 3) := by decide +kernel
theorem dX4_growContexts_8 : decode cX4_growContexts 8 = .ok (.arraylength, 1) := by decide +kernel
theorem dX4_growContexts_9 : decode cX4_growContexts 9 = .ok (.if_icmp .lt 74, 3) := by decide +kernel
theorem dX4_growContexts_12 : decode cX4_growContexts 12 = .ok (.aload_n 0, 1) := by decide +kernel
theorem dX4_growContexts_13 : decode cX4_growContexts 13 = .ok (.getfield 64, 3) := by decide +kernel
theorem dX4_growContexts_16 : decode cX4_growContexts 16 = .ok (.sipush 6000, 3) := by decide +kernel
theorem dX4_growContexts_19 : decode cX4_growContexts 19 = .ok (.invokestatic 139, 3) := by decide +kernel
theorem dX4_growContexts_22 : decode cX4_growContexts 22 = .ok (.istore_n 1, 1) := by decide +kernel
theorem dX4_growContexts_23 : decode cX4_growContexts 23 = .ok (.aload_n 0, 1) := by decide +kernel
theorem dX4_growContexts_24 : decode cX4_growContexts 24 = .ok (.aload_n 0, 1) := by decide +kernel
theorem dX4_growContexts_25 : decode cX4_growContexts 25 = .ok (.getfield 25, 3) := by decide +kernel
theorem dX4_growContexts_28 : decode cX4_growContexts 28 = .ok (.iload_n 1, 1) := by decide +kernel
theorem dX4_growContexts_29 : decode cX4_growContexts 29 = .ok (.invokestatic 142, 3) := by decide +kernel
theorem dX4_growContexts_32 : decode cX4_growContexts 32 = .ok (.putfield 25, 3) := by decide +kernel
theorem dX4_growContexts_35 : decode cX4_growContexts 35 = .ok (.aload_n 0, 1) := by decide +kernel
theorem dX4_growContexts_36 : decode cX4_growContexts 36 = .ok (.aload_n 0, 1) := by decide +kernel
theorem dX4_growContexts_37 : decode cX4_growContexts 37 = .ok (.getfield 28, 3) := by decide +kernel
theorem dX4_growContexts_40 : decode cX4_growContexts 40 = .ok (.iload_n 1, 1) := by decide +kernel
theorem dX4_growContexts_41 : decode cX4_growContexts 41 = .ok (.invokestatic 142, 3) := by decide +kernel
theorem dX4_growContexts_44 : decode cX4_growContexts 44 = .ok (.putfield 28, 3) := by decide +kernel
theorem dX4_growContexts_47 : decode cX4_growContexts 47 = .ok (.aload_n 0, 1) := by decide +kernel
theorem dX4_growContexts_48 : decode cX4_growContexts 48 = .ok (.aload_n 0, 1) := by decide +kernel
theorem dX4_growContexts_49 : decode cX4_growContexts 49 = .ok (.getfield 31, 3) := by decide +kernel
theorem dX4_growContexts_52 : decode cX4_growContexts 52 = .ok (.iload_n 1, 1) := by decide +kernel
theorem dX4_growContexts_53 : decode cX4_growContexts 53 = .ok (.invokestatic 142, 3) := by decide +kernel
theorem dX4_growContexts_56 : decode cX4_growContexts 56 = .ok (.putfield 31, 3) := by decide +kernel
theorem dX4_growContexts_59 : decode cX4_growContexts 59 = .ok (.aload_n 0, 1) := by decide +kernel
theorem dX4_growContexts_60 : decode cX4_growContexts 60 = .ok (.aload_n 0, 1) := by decide +kernel
theorem dX4_growContexts_61 : decode cX4_growContexts 61 = .ok (.getfield 34, 3) := by decide +kernel
theorem dX4_growContexts_64 : decode cX4_growContexts 64 = .ok (.iload_n 1, 1) := by decide +kernel
theorem dX4_growContexts_65 : decode cX4_growContexts 65 = .ok (.invokestatic 142, 3) := by decide +kernel
theorem dX4_growContexts_68 : decode cX4_growContexts 68 = .ok (.putfield 34, 3) := by decide +kernel
theorem dX4_growContexts_71 : decode cX4_growContexts 71 = .ok (.aload_n 0, 1) := by decide +kernel
theorem dX4_growContexts_72 : decode cX4_growContexts 72 = .ok (.aload_n 0, 1) := by decide +kernel
theorem dX4_growContexts_73 : decode cX4_growContexts 73 = .ok (.getfield 37, 3) := by decide +kernel
theorem dX4_growContexts_76 : decode cX4_growContexts 76 = .ok (.iload_n 1, 1) := by decide +kernel
theorem dX4_growContexts_77 : decode cX4_growContexts 77 = .ok (.invokestatic 142, 3) := by decide +kernel
