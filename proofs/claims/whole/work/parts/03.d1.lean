theorem dcX0_init_0 : (decode cX0_init 0 = .ok (.aload_n 0, 1)) ∧ (decode cX0_init 1 = .ok (.iload_n 1, 1)) ∧ (decode cX0_init 2 = .ok (.invokespecial 3, 3)) ∧ (decode cX0_init 5 = .ok (.return_, 1)) := by decide +kernel
theorem dX0_init_0 : decode cX0_init 0 = .ok (.aload_n 0, 1) := dcX0_init_0.1
theorem dX0_init_1 : decode cX0_init 1 = .ok (.iload_n 1, 1) := dcX0_init_0.2.1
theorem dX0_init_2 : decode cX0_init 2 = .ok (.invokespecial 3, 3) := dcX0_init_0.2.2.1
theorem dX0_init_5 : decode cX0_init 5 = .ok (.return_, 1) := dcX0_init_0.2.2.2
theorem dcX0_dullerBy_0 : (decode cX0_dullerBy 0 = .ok (.aload_n 0, 1)) ∧ (decode cX0_dullerBy 1 = .ok (.iload_n 1, 1)) ∧ (decode cX0_dullerBy 2 = .ok (.iload_n 2, 1)) ∧ (decode cX0_dullerBy 3 = .ok (.iload_n 3, 1)) ∧ (decode cX0_dullerBy 4 = .ok (.iload 4, 2)) ∧ (decode cX0_dullerBy 6 = .ok (.invokespecial 9, 3)) ∧ (decode cX0_dullerBy 9 = .ok (.iload_n 3, 1)) ∧ (decode cX0_dullerBy 10 = .ok (.iadd, 1)) := by decide +kernel
theorem dX0_dullerBy_0 : decode cX0_dullerBy 0 = .ok (.aload_n 0, 1) := dcX0_dullerBy_0.1
theorem dX0_dullerBy_1 : decode cX0_dullerBy 1 = .ok (.iload_n 1, 1) := dcX0_dullerBy_0.2.1
theorem dX0_dullerBy_2 : decode cX0_dullerBy 2 = .ok (.iload_n 2, 1) := dcX0_dullerBy_0.2.2.1
theorem dX0_dullerBy_3 : decode cX0_dullerBy 3 = .ok (.iload_n 3, 1) := dcX0_dullerBy_0.2.2.2.1
theorem dX0_dullerBy_4 : decode cX0_dullerBy 4 = .ok (.iload 4, 2) := dcX0_dullerBy_0.2.2.2.2.1
theorem dX0_dullerBy_6 : decode cX0_dullerBy 6 = .ok (.invokespecial 9, 3) := dcX0_dullerBy_0.2.2.2.2.2.1
theorem dX0_dullerBy_9 : decode cX0_dullerBy 9 = .ok (.iload_n 3, 1) := dcX0_dullerBy_0.2.2.2.2.2.2.1
theorem dX0_dullerBy_10 : decode cX0_dullerBy 10 = .ok (.iadd, 1) := dcX0_dullerBy_0.2.2.2.2.2.2.2
theorem dX0_dullerBy_11 : decode cX0_dullerBy 11 = .ok (.ireturn, 1) := by decide +kernel
theorem dcX0_limitBy_0 : (decode cX0_limitBy 0 = .ok (.ldc 13, 2)) ∧ (decode cX0_limitBy 2 = .ok (.iload_n 2, 1)) ∧ (decode cX0_limitBy 3 = .ok (.invokestatic 14, 3)) ∧ (decode cX0_limitBy 6 = .ok (.ifCond .eq 8, 3)) ∧ (decode cX0_limitBy 9 = .ok (.bipush 99, 2)) ∧ (decode cX0_limitBy 11 = .ok (.goto 4, 3)) ∧ (decode cX0_limitBy 14 = .ok (.iload_n 1, 1)) ∧ (decode cX0_limitBy 15 = .ok (.ireturn, 1)) := by decide +kernel
theorem dX0_limitBy_0 : decode cX0_limitBy 0 = .ok (.ldc 13, 2) := dcX0_limitBy_0.1
theorem dX0_limitBy_2 : decode cX0_limitBy 2 = .ok (.iload_n 2, 1) := dcX0_limitBy_0.2.1
theorem dX0_limitBy_3 : decode cX0_limitBy 3 = .ok (.invokestatic 14, 3) := dcX0_limitBy_0.2.2.1
theorem dX0_limitBy_6 : decode cX0_limitBy 6 = .ok (.ifCond .eq 8, 3) := dcX0_limitBy_0.2.2.2.1
theorem dX0_limitBy_9 : decode cX0_limitBy 9 = .ok (.bipush 99, 2) := dcX0_limitBy_0.2.2.2.2.1
theorem dX0_limitBy_11 : decode cX0_limitBy 11 = .ok (.goto 4, 3) := dcX0_limitBy_0.2.2.2.2.2.1
theorem dX0_limitBy_14 : decode cX0_limitBy 14 = .ok (.iload_n 1, 1) := dcX0_limitBy_0.2.2.2.2.2.2.1
theorem dX0_limitBy_15 : decode cX0_limitBy 15 = .ok (.ireturn, 1) := dcX0_limitBy_0.2.2.2.2.2.2.2
theorem dcX1_init_0 : (decode cX1_init 0 = .ok (.aload_n 0, 1)) ∧ (decode cX1_init 1 = .ok (.iload_n 1, 1)) ∧ (decode cX1_init 2 = .ok (.invokespecial 3, 3)) ∧ (decode cX1_init 5 = .ok (.return_, 1)) := by decide +kernel
theorem dX1_init_0 : decode cX1_init 0 = .ok (.aload_n 0, 1) := dcX1_init_0.1
theorem dX1_init_1 : decode cX1_init 1 = .ok (.iload_n 1, 1) := dcX1_init_0.2.1
theorem dX1_init_2 : decode cX1_init 2 = .ok (.invokespecial 3, 3) := dcX1_init_0.2.2.1
theorem dX1_init_5 : decode cX1_init 5 = .ok (.return_, 1) := dcX1_init_0.2.2.2
theorem dcX1_limitBy_0 : (decode cX1_limitBy 0 = .ok (.iload_n 1, 1)) ∧ (decode cX1_limitBy 1 = .ok (.iload_n 3, 1)) ∧ (decode cX1_limitBy 2 = .ok (.iadd, 1)) ∧ (decode cX1_limitBy 3 = .ok (.ireturn, 1)) := by decide +kernel
theorem dX1_limitBy_0 : decode cX1_limitBy 0 = .ok (.iload_n 1, 1) := dcX1_limitBy_0.1
theorem dX1_limitBy_1 : decode cX1_limitBy 1 = .ok (.iload_n 3, 1) := dcX1_limitBy_0.2.1
theorem dX1_limitBy_2 : decode cX1_limitBy 2 = .ok (.iadd, 1) := dcX1_limitBy_0.2.2.1
theorem dX1_limitBy_3 : decode cX1_limitBy 3 = .ok (.ireturn, 1) := dcX1_limitBy_0.2.2.2
theorem dcX1_costBy_0 : (decode cX1_costBy 0 = .ok (.aload_n 0, 1)) ∧ (decode cX1_costBy 1 = .ok (.iload_n 1, 1)) ∧ (decode cX1_costBy 2 = .ok (.iload_n 2, 1)) ∧ (decode cX1_costBy 3 = .ok (.invokespecial 9, 3)) ∧ (decode cX1_costBy 6 = .ok (.istore_n 3, 1)) ∧ (decode cX1_costBy 7 = .ok (.sipush 1632, 3)) ∧ (decode cX1_costBy 10 = .ok (.iload_n 2, 1)) ∧ (decode cX1_costBy 11 = .ok (.invokestatic 13, 3)) := by decide +kernel
theorem dX1_costBy_0 : decode cX1_costBy 0 = .ok (.aload_n 0, 1) := dcX1_costBy_0.1
theorem dX1_costBy_1 : decode cX1_costBy 1 = .ok (.iload_n 1, 1) := dcX1_costBy_0.2.1
theorem dX1_costBy_2 : decode cX1_costBy 2 = .ok (.iload_n 2, 1) := dcX1_costBy_0.2.2.1
theorem dX1_costBy_3 : decode cX1_costBy 3 = .ok (.invokespecial 9, 3) := dcX1_costBy_0.2.2.2.1
theorem dX1_costBy_6 : decode cX1_costBy 6 = .ok (.istore_n 3, 1) := dcX1_costBy_0.2.2.2.2.1
theorem dX1_costBy_7 : decode cX1_costBy 7 = .ok (.sipush 1632, 3) := dcX1_costBy_0.2.2.2.2.2.1
theorem dX1_costBy_10 : decode cX1_costBy 10 = .ok (.iload_n 2, 1) := dcX1_costBy_0.2.2.2.2.2.2.1
theorem dX1_costBy_11 : decode cX1_costBy 11 = .ok (.invokestatic 13, 3) := dcX1_costBy_0.2.2.2.2.2.2.2
theorem dcX1_costBy_1 : (decode cX1_costBy 14 = .ok (.ifCond .eq 9, 3)) ∧ (decode cX1_costBy 17 = .ok (.iconst 2, 1)) ∧ (decode cX1_costBy 18 = .ok (.iload_n 3, 1)) ∧ (decode cX1_costBy 19 = .ok (.imul, 1)) ∧ (decode cX1_costBy 20 = .ok (.goto 4, 3)) ∧ (decode cX1_costBy 23 = .ok (.iload_n 3, 1)) ∧ (decode cX1_costBy 24 = .ok (.ireturn, 1)) := by decide +kernel
theorem dX1_costBy_14 : decode cX1_costBy 14 = .ok (.ifCond .eq 9, 3) := dcX1_costBy_1.1
theorem dX1_costBy_17 : decode cX1_costBy 17 = .ok (.iconst 2, 1) := dcX1_costBy_1.2.1
theorem dX1_costBy_18 : decode cX1_costBy 18 = .ok (.iload_n 3, 1) := dcX1_costBy_1.2.2.1
theorem dX1_costBy_19 : decode cX1_costBy 19 = .ok (.imul, 1) := dcX1_costBy_1.2.2.2.1
theorem dX1_costBy_20 : decode cX1_costBy 20 = .ok (.goto 4, 3) := dcX1_costBy_1.2.2.2.2.1
theorem dX1_costBy_23 : decode cX1_costBy 23 = .ok (.iload_n 3, 1) := dcX1_costBy_1.2.2.2.2.2.1
theorem dX1_costBy_24 : decode cX1_costBy 24 = .ok (.ireturn, 1) := dcX1_costBy_1.2.2.2.2.2.2
theorem dcX2_init_0 : (decode cX2_init 0 = .ok (.aload_n 0, 1)) ∧ (decode cX2_init 1 = .ok (.iload_n 1, 1)) ∧ (decode cX2_init 2 = .ok (.invokespecial 1, 3)) ∧ (decode cX2_init 5 = .ok (.return_, 1)) := by decide +kernel
theorem dX2_init_0 : decode cX2_init 0 = .ok (.aload_n 0, 1) := dcX2_init_0.1
theorem dX2_init_1 : decode cX2_init 1 = .ok (.iload_n 1, 1) := dcX2_init_0.2.1
theorem dX2_init_2 : decode cX2_init 2 = .ok (.invokespecial 1, 3) := dcX2_init_0.2.2.1
theorem dX2_init_5 : decode cX2_init 5 = .ok (.return_, 1) := dcX2_init_0.2.2.2
theorem dcX2_dullerBy_0 : (decode cX2_dullerBy 0 = .ok (.iconst 0, 1)) ∧ (decode cX2_dullerBy 1 = .ok (.ireturn, 1)) := by decide +kernel
theorem dX2_dullerBy_0 : decode cX2_dullerBy 0 = .ok (.iconst 0, 1) := dcX2_dullerBy_0.1
theorem dX2_dullerBy_1 : decode cX2_dullerBy 1 = .ok (.ireturn, 1) := dcX2_dullerBy_0.2
theorem dcX2_costBy_0 : (decode cX2_costBy 0 = .ok (.aload_n 0, 1)) ∧ (decode cX2_costBy 1 = .ok (.iload_n 1, 1)) ∧ (decode cX2_costBy 2 = .ok (.iload_n 2, 1)) ∧ (decode cX2_costBy 3 = .ok (.invokespecial 7, 3)) ∧ (decode cX2_costBy 6 = .ok (.iconst 2, 1)) ∧ (decode cX2_costBy 7 = .ok (.idiv, 1)) ∧ (decode cX2_costBy 8 = .ok (.ireturn, 1)) := by decide +kernel
theorem dX2_costBy_0 : decode cX2_costBy 0 = .ok (.aload_n 0, 1) := dcX2_costBy_0.1
theorem dX2_costBy_1 : decode cX2_costBy 1 = .ok (.iload_n 1, 1) := dcX2_costBy_0.2.1
theorem dX2_costBy_2 : decode cX2_costBy 2 = .ok (.iload_n 2, 1) := dcX2_costBy_0.2.2.1
theorem dX2_costBy_3 : decode cX2_costBy 3 = .ok (.invokespecial 7, 3) := dcX2_costBy_0.2.2.2.1
theorem dX2_costBy_6 : decode cX2_costBy 6 = .ok (.iconst 2, 1) := dcX2_costBy_0.2.2.2.2.1
theorem dX2_costBy_7 : decode cX2_costBy 7 = .ok (.idiv, 1) := dcX2_costBy_0.2.2.2.2.2.1
theorem dX2_costBy_8 : decode cX2_costBy 8 = .ok (.ireturn, 1) := dcX2_costBy_0.2.2.2.2.2.2
theorem dcX3_init_0 : (decode cX3_init 0 = .ok (.aload_n 0, 1)) ∧ (decode cX3_init 1 = .ok (.invokespecial 3, 3)) ∧ (decode cX3_init 4 = .ok (.aload_n 0, 1)) ∧ (decode cX3_init 5 = .ok (.iconst (-1), 1)) ∧ (decode cX3_init 6 = .ok (.putfield 9, 3)) ∧ (decode cX3_init 9 = .ok (.aload_n 0, 1)) ∧ (decode cX3_init 10 = .ok (.iconst 0, 1)) ∧ (decode cX3_init 11 = .ok (.putfield 15, 3)) := by decide +kernel
theorem dX3_init_0 : decode cX3_init 0 = .ok (.aload_n 0, 1) := dcX3_init_0.1
theorem dX3_init_1 : decode cX3_init 1 = .ok (.invokespecial 3, 3) := dcX3_init_0.2.1
theorem dX3_init_4 : decode cX3_init 4 = .ok (.aload_n 0, 1) := dcX3_init_0.2.2.1
theorem dX3_init_5 : decode cX3_init 5 = .ok (.iconst (-1), 1) := dcX3_init_0.2.2.2.1
theorem dX3_init_6 : decode cX3_init 6 = .ok (.putfield 9, 3) := dcX3_init_0.2.2.2.2.1
theorem dX3_init_9 : decode cX3_init 9 = .ok (.aload_n 0, 1) := dcX3_init_0.2.2.2.2.2.1
theorem dX3_init_10 : decode cX3_init 10 = .ok (.iconst 0, 1) := dcX3_init_0.2.2.2.2.2.2.1
theorem dX3_init_11 : decode cX3_init 11 = .ok (.putfield 15, 3) := dcX3_init_0.2.2.2.2.2.2.2
theorem dcX3_init_1 : (decode cX3_init 14 = .ok (.aload_n 0, 1)) ∧ (decode cX3_init 15 = .ok (.iconst 0, 1)) ∧ (decode cX3_init 16 = .ok (.putfield 18, 3)) ∧ (decode cX3_init 19 = .ok (.aload_n 0, 1)) ∧ (decode cX3_init 20 = .ok (.iconst 0, 1)) ∧ (decode cX3_init 21 = .ok (.putfield 21, 3)) ∧ (decode cX3_init 24 = .ok (.aload_n 0, 1)) ∧ (decode cX3_init 25 = .ok (.aload_n 1, 1)) := by decide +kernel
theorem dX3_init_14 : decode cX3_init 14 = .ok (.aload_n 0, 1) := dcX3_init_1.1
theorem dX3_init_15 : decode cX3_init 15 = .ok (.iconst 0, 1) := dcX3_init_1.2.1
theorem dX3_init_16 : decode cX3_init 16 = .ok (.putfield 18, 3) := dcX3_init_1.2.2.1
theorem dX3_init_19 : decode cX3_init 19 = .ok (.aload_n 0, 1) := dcX3_init_1.2.2.2.1
theorem dX3_init_20 : decode cX3_init 20 = .ok (.iconst 0, 1) := dcX3_init_1.2.2.2.2.1
theorem dX3_init_21 : decode cX3_init 21 = .ok (.putfield 21, 3) := dcX3_init_1.2.2.2.2.2.1
theorem dX3_init_24 : decode cX3_init 24 = .ok (.aload_n 0, 1) := dcX3_init_1.2.2.2.2.2.2.1
theorem dX3_init_25 : decode cX3_init 25 = .ok (.aload_n 1, 1) := dcX3_init_1.2.2.2.2.2.2.2
theorem dcX3_init_2 : (decode cX3_init 26 = .ok (.putfield 24, 3)) ∧ (decode cX3_init 29 = .ok (.return_, 1)) := by decide +kernel
theorem dX3_init_26 : decode cX3_init 26 = .ok (.putfield 24, 3) := dcX3_init_2.1
theorem dX3_init_29 : decode cX3_init 29 = .ok (.return_, 1) := dcX3_init_2.2
theorem dcX4_init_0 : (decode cX4_init 0 = .ok (.aload_n 0, 1)) ∧ (decode cX4_init 1 = .ok (.invokespecial 1, 3)) ∧ (decode cX4_init 4 = .ok (.aload_n 0, 1)) ∧ (decode cX4_init 5 = .ok (.iload_n 1, 1)) ∧ (decode cX4_init 6 = .ok (.putfield 7, 3)) ∧ (decode cX4_init 9 = .ok (.return_, 1)) := by decide +kernel
theorem dX4_init_0 : decode cX4_init 0 = .ok (.aload_n 0, 1) := dcX4_init_0.1
theorem dX4_init_1 : decode cX4_init 1 = .ok (.invokespecial 1, 3) := dcX4_init_0.2.1
theorem dX4_init_4 : decode cX4_init 4 = .ok (.aload_n 0, 1) := dcX4_init_0.2.2.1
theorem dX4_init_5 : decode cX4_init 5 = .ok (.iload_n 1, 1) := dcX4_init_0.2.2.2.1
theorem dX4_init_6 : decode cX4_init 6 = .ok (.putfield 7, 3) := dcX4_init_0.2.2.2.2.1
theorem dX4_init_9 : decode cX4_init 9 = .ok (.return_, 1) := dcX4_init_0.2.2.2.2.2
theorem dcX4_dullerBy_0 : (decode cX4_dullerBy 0 = .ok (.iload_n 1, 1)) ∧ (decode cX4_dullerBy 1 = .ok (.ireturn, 1)) := by decide +kernel
theorem dX4_dullerBy_0 : decode cX4_dullerBy 0 = .ok (.iload_n 1, 1) := dcX4_dullerBy_0.1
theorem dX4_dullerBy_1 : decode cX4_dullerBy 1 = .ok (.ireturn, 1) := dcX4_dullerBy_0.2
theorem dcX4_limitBy_0 : (decode cX4_limitBy 0 = .ok (.iload_n 1, 1)) ∧ (decode cX4_limitBy 1 = .ok (.ireturn, 1)) := by decide +kernel
theorem dX4_limitBy_0 : decode cX4_limitBy 0 = .ok (.iload_n 1, 1) := dcX4_limitBy_0.1
theorem dX4_limitBy_1 : decode cX4_limitBy 1 = .ok (.ireturn, 1) := dcX4_limitBy_0.2
theorem dcX4_costBy_0 : (decode cX4_costBy 0 = .ok (.iload_n 1, 1)) ∧ (decode cX4_costBy 1 = .ok (.iconst 1, 1)) ∧ (decode cX4_costBy 2 = .ok (.iadd, 1)) ∧ (decode cX4_costBy 3 = .ok (.ireturn, 1)) := by decide +kernel
theorem dX4_costBy_0 : decode cX4_costBy 0 = .ok (.iload_n 1, 1) := dcX4_costBy_0.1
theorem dX4_costBy_1 : decode cX4_costBy 1 = .ok (.iconst 1, 1) := dcX4_costBy_0.2.1
theorem dX4_costBy_2 : decode cX4_costBy 2 = .ok (.iadd, 1) := dcX4_costBy_0.2.2.1
theorem dX4_costBy_3 : decode cX4_costBy 3 = .ok (.ireturn, 1) := dcX4_costBy_0.2.2.2
theorem dcX5_init_0 : (decode cX5_init 0 = .ok (.aload_n 0, 1)) ∧ (decode cX5_init 1 = .ok (.iload_n 1, 1)) ∧ (decode cX5_init 2 = .ok (.invokespecial 1, 3)) ∧ (decode cX5_init 5 = .ok (.return_, 1)) := by decide +kernel
theorem dX5_init_0 : decode cX5_init 0 = .ok (.aload_n 0, 1) := dcX5_init_0.1
theorem dX5_init_1 : decode cX5_init 1 = .ok (.iload_n 1, 1) := dcX5_init_0.2.1
theorem dX5_init_2 : decode cX5_init 2 = .ok (.invokespecial 1, 3) := dcX5_init_0.2.2.1
theorem dX5_init_5 : decode cX5_init 5 = .ok (.return_, 1) := dcX5_init_0.2.2.2
theorem dcX5_dullerBy_0 : (decode cX5_dullerBy 0 = .ok (.iload 4, 2)) ∧ (decode cX5_dullerBy 2 = .ok (.iconst 2, 1)) ∧ (decode cX5_dullerBy 3 = .ok (.irem, 1)) ∧ (decode cX5_dullerBy 4 = .ok (.iconst 1, 1)) ∧ (decode cX5_dullerBy 5 = .ok (.if_icmp .ne 9, 3)) ∧ (decode cX5_dullerBy 8 = .ok (.iload_n 1, 1)) ∧ (decode cX5_dullerBy 9 = .ok (.iload_n 3, 1)) ∧ (decode cX5_dullerBy 10 = .ok (.iadd, 1)) := by decide +kernel
theorem dX5_dullerBy_0 : decode cX5_dullerBy 0 = .ok (.iload 4, 2) := dcX5_dullerBy_0.1
theorem dX5_dullerBy_2 : decode cX5_dullerBy 2 = .ok (.iconst 2, 1) := dcX5_dullerBy_0.2.1
theorem dX5_dullerBy_3 : decode cX5_dullerBy 3 = .ok (.irem, 1) := dcX5_dullerBy_0.2.2.1
theorem dX5_dullerBy_4 : decode cX5_dullerBy 4 = .ok (.iconst 1, 1) := dcX5_dullerBy_0.2.2.2.1
theorem dX5_dullerBy_5 : decode cX5_dullerBy 5 = .ok (.if_icmp .ne 9, 3) := dcX5_dullerBy_0.2.2.2.2.1
theorem dX5_dullerBy_8 : decode cX5_dullerBy 8 = .ok (.iload_n 1, 1) := dcX5_dullerBy_0.2.2.2.2.2.1
theorem dX5_dullerBy_9 : decode cX5_dullerBy 9 = .ok (.iload_n 3, 1) := dcX5_dullerBy_0.2.2.2.2.2.2.1
theorem dX5_dullerBy_10 : decode cX5_dullerBy 10 = .ok (.iadd, 1) := dcX5_dullerBy_0.2.2.2.2.2.2.2
theorem dcX5_dullerBy_1 : (decode cX5_dullerBy 11 = .ok (.goto 4, 3)) ∧ (decode cX5_dullerBy 14 = .ok (.iconst 1, 1)) ∧ (decode cX5_dullerBy 15 = .ok (.ireturn, 1)) := by decide +kernel
theorem dX5_dullerBy_11 : decode cX5_dullerBy 11 = .ok (.goto 4, 3) := dcX5_dullerBy_1.1
theorem dX5_dullerBy_14 : decode cX5_dullerBy 14 = .ok (.iconst 1, 1) := dcX5_dullerBy_1.2.1
theorem dX5_dullerBy_15 : decode cX5_dullerBy 15 = .ok (.ireturn, 1) := dcX5_dullerBy_1.2.2
theorem dcX5_costBy_0 : (decode cX5_costBy 0 = .ok (.iload_n 1, 1)) ∧ (decode cX5_costBy 1 = .ok (.iconst 5, 1)) ∧ (decode cX5_costBy 2 = .ok (.if_icmp .ge 7, 3)) ∧ (decode cX5_costBy 5 = .ok (.iconst 5, 1)) ∧ (decode cX5_costBy 6 = .ok (.goto 9, 3)) ∧ (decode cX5_costBy 9 = .ok (.aload_n 0, 1)) ∧ (decode cX5_costBy 10 = .ok (.iload_n 1, 1)) ∧ (decode cX5_costBy 11 = .ok (.iload_n 2, 1)) := by decide +kernel
theorem dX5_costBy_0 : decode cX5_costBy 0 = .ok (.iload_n 1, 1) := dcX5_costBy_0.1
theorem dX5_costBy_1 : decode cX5_costBy 1 = .ok (.iconst 5, 1) := dcX5_costBy_0.2.1
theorem dX5_costBy_2 : decode cX5_costBy 2 = .ok (.if_icmp .ge 7, 3) := dcX5_costBy_0.2.2.1
theorem dX5_costBy_5 : decode cX5_costBy 5 = .ok (.iconst 5, 1) := dcX5_costBy_0.2.2.2.1
theorem dX5_costBy_6 : decode cX5_costBy 6 = .ok (.goto 9, 3) := dcX5_costBy_0.2.2.2.2.1
theorem dX5_costBy_9 : decode cX5_costBy 9 = .ok (.aload_n 0, 1) := dcX5_costBy_0.2.2.2.2.2.1
theorem dX5_costBy_10 : decode cX5_costBy 10 = .ok (.iload_n 1, 1) := dcX5_costBy_0.2.2.2.2.2.2.1
theorem dX5_costBy_11 : decode cX5_costBy 11 = .ok (.iload_n 2, 1) := dcX5_costBy_0.2.2.2.2.2.2.2
theorem dcX5_costBy_1 : (decode cX5_costBy 12 = .ok (.invokespecial 7, 3)) ∧ (decode cX5_costBy 15 = .ok (.ireturn, 1)) := by decide +kernel
theorem dX5_costBy_12 : decode cX5_costBy 12 = .ok (.invokespecial 7, 3) := dcX5_costBy_1.1
theorem dX5_costBy_15 : decode cX5_costBy 15 = .ok (.ireturn, 1) := dcX5_costBy_1.2
theorem dcX6_init_0 : (decode cX6_init 0 = .ok (.aload_n 0, 1)) ∧ (decode cX6_init 1 = .ok (.iload_n 1, 1)) ∧ (decode cX6_init 2 = .ok (.invokespecial 3, 3)) ∧ (decode cX6_init 5 = .ok (.return_, 1)) := by decide +kernel
theorem dX6_init_0 : decode cX6_init 0 = .ok (.aload_n 0, 1) := dcX6_init_0.1
theorem dX6_init_1 : decode cX6_init 1 = .ok (.iload_n 1, 1) := dcX6_init_0.2.1
theorem dX6_init_2 : decode cX6_init 2 = .ok (.invokespecial 3, 3) := dcX6_init_0.2.2.1
theorem dX6_init_5 : decode cX6_init 5 = .ok (.return_, 1) := dcX6_init_0.2.2.2
theorem dcX6_dullerBy_0 : (decode cX6_dullerBy 0 = .ok (.ldc 9, 2)) ∧ (decode cX6_dullerBy 2 = .ok (.iload_n 2, 1)) ∧ (decode cX6_dullerBy 3 = .ok (.invokestatic 10, 3)) ∧ (decode cX6_dullerBy 6 = .ok (.ifCond .eq 9, 3)) ∧ (decode cX6_dullerBy 9 = .ok (.iconst 2, 1)) ∧ (decode cX6_dullerBy 10 = .ok (.iload_n 1, 1)) ∧ (decode cX6_dullerBy 11 = .ok (.imul, 1)) ∧ (decode cX6_dullerBy 12 = .ok (.goto 4, 3)) := by decide +kernel
theorem dX6_dullerBy_0 : decode cX6_dullerBy 0 = .ok (.ldc 9, 2) := dcX6_dullerBy_0.1
theorem dX6_dullerBy_2 : decode cX6_dullerBy 2 = .ok (.iload_n 2, 1) := dcX6_dullerBy_0.2.1
theorem dX6_dullerBy_3 : decode cX6_dullerBy 3 = .ok (.invokestatic 10, 3) := dcX6_dullerBy_0.2.2.1
theorem dX6_dullerBy_6 : decode cX6_dullerBy 6 = .ok (.ifCond .eq 9, 3) := dcX6_dullerBy_0.2.2.2.1
theorem dX6_dullerBy_9 : decode cX6_dullerBy 9 = .ok (.iconst 2, 1) := dcX6_dullerBy_0.2.2.2.2.1
theorem dX6_dullerBy_10 : decode cX6_dullerBy 10 = .ok (.iload_n 1, 1) := dcX6_dullerBy_0.2.2.2.2.2.1
theorem dX6_dullerBy_11 : decode cX6_dullerBy 11 = .ok (.imul, 1) := dcX6_dullerBy_0.2.2.2.2.2.2.1
theorem dX6_dullerBy_12 : decode cX6_dullerBy 12 = .ok (.goto 4, 3) := dcX6_dullerBy_0.2.2.2.2.2.2.2
theorem dcX6_dullerBy_1 : (decode cX6_dullerBy 15 = .ok (.iload_n 1, 1)) ∧ (decode cX6_dullerBy 16 = .ok (.ireturn, 1)) := by decide +kernel
theorem dX6_dullerBy_15 : decode cX6_dullerBy 15 = .ok (.iload_n 1, 1) := dcX6_dullerBy_1.1
theorem dX6_dullerBy_16 : decode cX6_dullerBy 16 = .ok (.ireturn, 1) := dcX6_dullerBy_1.2
theorem dcX7_init_0 : (decode cX7_init 0 = .ok (.aload_n 0, 1)) ∧ (decode cX7_init 1 = .ok (.invokespecial 3, 3)) ∧ (decode cX7_init 4 = .ok (.aload_n 0, 1)) ∧ (decode cX7_init 5 = .ok (.iconst 0, 1)) ∧ (decode cX7_init 6 = .ok (.putfield 9, 3)) ∧ (decode cX7_init 9 = .ok (.aload_n 0, 1)) ∧ (decode cX7_init 10 = .ok (.iconst 0, 1)) ∧ (decode cX7_init 11 = .ok (.putfield 15, 3)) := by decide +kernel
theorem dX7_init_0 : decode cX7_init 0 = .ok (.aload_n 0, 1) := dcX7_init_0.1
theorem dX7_init_1 : decode cX7_init 1 = .ok (.invokespecial 3, 3) := dcX7_init_0.2.1
theorem dX7_init_4 : decode cX7_init 4 = .ok (.aload_n 0, 1) := dcX7_init_0.2.2.1
theorem dX7_init_5 : decode cX7_init 5 = .ok (.iconst 0, 1) := dcX7_init_0.2.2.2.1
theorem dX7_init_6 : decode cX7_init 6 = .ok (.putfield 9, 3) := dcX7_init_0.2.2.2.2.1
theorem dX7_init_9 : decode cX7_init 9 = .ok (.aload_n 0, 1) := dcX7_init_0.2.2.2.2.2.1
theorem dX7_init_10 : decode cX7_init 10 = .ok (.iconst 0, 1) := dcX7_init_0.2.2.2.2.2.2.1
theorem dX7_init_11 : decode cX7_init 11 = .ok (.putfield 15, 3) := dcX7_init_0.2.2.2.2.2.2.2
theorem dcX7_init_1 : (decode cX7_init 14 = .ok (.aload_n 0, 1)) ∧ (decode cX7_init 15 = .ok (.bipush 16, 2)) ∧ (decode cX7_init 17 = .ok (.newarray .int, 2)) ∧ (decode cX7_init 19 = .ok (.putfield 18, 3)) ∧ (decode cX7_init 22 = .ok (.aload_n 0, 1)) ∧ (decode cX7_init 23 = .ok (.bipush 6, 2)) ∧ (decode cX7_init 25 = .ok (.newarray .int, 2)) ∧ (decode cX7_init 27 = .ok (.putfield 22, 3)) := by decide +kernel
theorem dX7_init_14 : decode cX7_init 14 = .ok (.aload_n 0, 1) := dcX7_init_1.1
theorem dX7_init_15 : decode cX7_init 15 = .ok (.bipush 16, 2) := dcX7_init_1.2.1
theorem dX7_init_17 : decode cX7_init 17 = .ok (.newarray .int, 2) := dcX7_init_1.2.2.1
theorem dX7_init_19 : decode cX7_init 19 = .ok (.putfield 18, 3) := dcX7_init_1.2.2.2.1
theorem dX7_init_22 : decode cX7_init 22 = .ok (.aload_n 0, 1) := dcX7_init_1.2.2.2.2.1
theorem dX7_init_23 : decode cX7_init 23 = .ok (.bipush 6, 2) := dcX7_init_1.2.2.2.2.2.1
theorem dX7_init_25 : decode cX7_init 25 = .ok (.newarray .int, 2) := dcX7_init_1.2.2.2.2.2.2.1
theorem dX7_init_27 : decode cX7_init 27 = .ok (.putfield 22, 3) := dcX7_init_1.2.2.2.2.2.2.2
theorem dcX7_init_2 : (decode cX7_init 30 = .ok (.aload_n 0, 1)) ∧ (decode cX7_init 31 = .ok (.aload_n 1, 1)) ∧ (decode cX7_init 32 = .ok (.putfield 25, 3)) ∧ (decode cX7_init 35 = .ok (.return_, 1)) := by decide +kernel
theorem dX7_init_30 : decode cX7_init 30 = .ok (.aload_n 0, 1) := dcX7_init_2.1
theorem dX7_init_31 : decode cX7_init 31 = .ok (.aload_n 1, 1) := dcX7_init_2.2.1
theorem dX7_init_32 : decode cX7_init 32 = .ok (.putfield 25, 3) := dcX7_init_2.2.2.1
theorem dX7_init_35 : decode cX7_init 35 = .ok (.return_, 1) := dcX7_init_2.2.2.2
theorem dcX7_takeAfter_0 : (decode cX7_takeAfter 0 = .ok (.aload_n 0, 1)) ∧ (decode cX7_takeAfter 1 = .ok (.aload_n 1, 1)) ∧ (decode cX7_takeAfter 2 = .ok (.getfield 25, 3)) ∧ (decode cX7_takeAfter 5 = .ok (.putfield 25, 3)) ∧ (decode cX7_takeAfter 8 = .ok (.aload_n 0, 1)) ∧ (decode cX7_takeAfter 9 = .ok (.aload_n 1, 1)) ∧ (decode cX7_takeAfter 10 = .ok (.getfield 9, 3)) ∧ (decode cX7_takeAfter 13 = .ok (.putfield 9, 3)) := by decide +kernel
theorem dX7_takeAfter_0 : decode cX7_takeAfter 0 = .ok (.aload_n 0, 1) := dcX7_takeAfter_0.1
theorem dX7_takeAfter_1 : decode cX7_takeAfter 1 = .ok (.aload_n 1, 1) := dcX7_takeAfter_0.2.1
theorem dX7_takeAfter_2 : decode cX7_takeAfter 2 = .ok (.getfield 25, 3) := dcX7_takeAfter_0.2.2.1
theorem dX7_takeAfter_5 : decode cX7_takeAfter 5 = .ok (.putfield 25, 3) := dcX7_takeAfter_0.2.2.2.1
theorem dX7_takeAfter_8 : decode cX7_takeAfter 8 = .ok (.aload_n 0, 1) := dcX7_takeAfter_0.2.2.2.2.1
theorem dX7_takeAfter_9 : decode cX7_takeAfter 9 = .ok (.aload_n 1, 1) := dcX7_takeAfter_0.2.2.2.2.2.1
theorem dX7_takeAfter_10 : decode cX7_takeAfter 10 = .ok (.getfield 9, 3) := dcX7_takeAfter_0.2.2.2.2.2.2.1
theorem dX7_takeAfter_13 : decode cX7_takeAfter 13 = .ok (.putfield 9, 3) := dcX7_takeAfter_0.2.2.2.2.2.2.2
theorem dcX7_takeAfter_1 : (decode cX7_takeAfter 16 = .ok (.aload_n 0, 1)) ∧ (decode cX7_takeAfter 17 = .ok (.aload_n 1, 1)) ∧ (decode cX7_takeAfter 18 = .ok (.getfield 15, 3)) ∧ (decode cX7_takeAfter 21 = .ok (.putfield 15, 3)) ∧ (decode cX7_takeAfter 24 = .ok (.aload_n 1, 1)) ∧ (decode cX7_takeAfter 25 = .ok (.getfield 18, 3)) ∧ (decode cX7_takeAfter 28 = .ok (.iconst 0, 1)) ∧ (decode cX7_takeAfter 29 = .ok (.aload_n 0, 1)) := by decide +kernel
theorem dX7_takeAfter_16 : decode cX7_takeAfter 16 = .ok (.aload_n 0, 1) := dcX7_takeAfter_1.1
theorem dX7_takeAfter_17 : decode cX7_takeAfter 17 = .ok (.aload_n 1, 1) := dcX7_takeAfter_1.2.1
theorem dX7_takeAfter_18 : decode cX7_takeAfter 18 = .ok (.getfield 15, 3) := dcX7_takeAfter_1.2.2.1
theorem dX7_takeAfter_21 : decode cX7_takeAfter 21 = .ok (.putfield 15, 3) := dcX7_takeAfter_1.2.2.2.1
theorem dX7_takeAfter_24 : decode cX7_takeAfter 24 = .ok (.aload_n 1, 1) := dcX7_takeAfter_1.2.2.2.2.1
theorem dX7_takeAfter_25 : decode cX7_takeAfter 25 = .ok (.getfield 18, 3) := dcX7_takeAfter_1.2.2.2.2.2.1
theorem dX7_takeAfter_28 : decode cX7_takeAfter 28 = .ok (.iconst 0, 1) := dcX7_takeAfter_1.2.2.2.2.2.2.1
theorem dX7_takeAfter_29 : decode cX7_takeAfter 29 = .ok (.aload_n 0, 1) := dcX7_takeAfter_1.2.2.2.2.2.2.2
theorem dcX7_takeAfter_2 : (decode cX7_takeAfter 30 = .ok (.getfield 18, 3)) ∧ (decode cX7_takeAfter 33 = .ok (.iconst 0, 1)) ∧ (decode cX7_takeAfter 34 = .ok (.bipush 16, 2)) ∧ (decode cX7_takeAfter 36 = .ok (.invokestatic 29, 3)) ∧ (decode cX7_takeAfter 39 = .ok (.return_, 1)) := by decide +kernel
theorem dX7_takeAfter_30 : decode cX7_takeAfter 30 = .ok (.getfield 18, 3) := dcX7_takeAfter_2.1
theorem dX7_takeAfter_33 : decode cX7_takeAfter 33 = .ok (.iconst 0, 1) := dcX7_takeAfter_2.2.1
theorem dX7_takeAfter_34 : decode cX7_takeAfter 34 = .ok (.bipush 16, 2) := dcX7_takeAfter_2.2.2.1
theorem dX7_takeAfter_36 : decode cX7_takeAfter 36 = .ok (.invokestatic 29, 3) := dcX7_takeAfter_2.2.2.2.1
theorem dX7_takeAfter_39 : decode cX7_takeAfter 39 = .ok (.return_, 1) := dcX7_takeAfter_2.2.2.2.2
theorem dcX7_said_0 : (decode cX7_said 0 = .ok (.aload_n 0, 1)) ∧ (decode cX7_said 1 = .ok (.getfield 22, 3)) ∧ (decode cX7_said 4 = .ok (.iconst 0, 1)) ∧ (decode cX7_said 5 = .ok (.iload_n 3, 1)) ∧ (decode cX7_said 6 = .ok (.iconst 4, 1)) ∧ (decode cX7_said 7 = .ok (.irem, 1)) ∧ (decode cX7_said 8 = .ok (.iastore, 1)) ∧ (decode cX7_said 9 = .ok (.aload_n 0, 1)) := by decide +kernel
theorem dX7_said_0 : decode cX7_said 0 = .ok (.aload_n 0, 1) := dcX7_said_0.1
theorem dX7_said_1 : decode cX7_said 1 = .ok (.getfield 22, 3) := dcX7_said_0.2.1
theorem dX7_said_4 : decode cX7_said 4 = .ok (.iconst 0, 1) := dcX7_said_0.2.2.1
theorem dX7_said_5 : decode cX7_said 5 = .ok (.iload_n 3, 1) := dcX7_said_0.2.2.2.1
theorem dX7_said_6 : decode cX7_said 6 = .ok (.iconst 4, 1) := dcX7_said_0.2.2.2.2.1
theorem dX7_said_7 : decode cX7_said 7 = .ok (.irem, 1) := dcX7_said_0.2.2.2.2.2.1
theorem dX7_said_8 : decode cX7_said 8 = .ok (.iastore, 1) := dcX7_said_0.2.2.2.2.2.2.1
theorem dX7_said_9 : decode cX7_said 9 = .ok (.aload_n 0, 1) := dcX7_said_0.2.2.2.2.2.2.2
theorem dcX7_said_1 : (decode cX7_said 10 = .ok (.getfield 22, 3)) ∧ (decode cX7_said 13 = .ok (.iconst 1, 1)) ∧ (decode cX7_said 14 = .ok (.iload_n 3, 1)) ∧ (decode cX7_said 15 = .ok (.iconst 4, 1)) ∧ (decode cX7_said 16 = .ok (.idiv, 1)) ∧ (decode cX7_said 17 = .ok (.iastore, 1)) ∧ (decode cX7_said 18 = .ok (.aload_n 0, 1)) ∧ (decode cX7_said 19 = .ok (.getfield 22, 3)) := by decide +kernel
theorem dX7_said_10 : decode cX7_said 10 = .ok (.getfield 22, 3) := dcX7_said_1.1
theorem dX7_said_13 : decode cX7_said 13 = .ok (.iconst 1, 1) := dcX7_said_1.2.1
theorem dX7_said_14 : decode cX7_said 14 = .ok (.iload_n 3, 1) := dcX7_said_1.2.2.1
theorem dX7_said_15 : decode cX7_said 15 = .ok (.iconst 4, 1) := dcX7_said_1.2.2.2.1
theorem dX7_said_16 : decode cX7_said 16 = .ok (.idiv, 1) := dcX7_said_1.2.2.2.2.1
theorem dX7_said_17 : decode cX7_said 17 = .ok (.iastore, 1) := dcX7_said_1.2.2.2.2.2.1
theorem dX7_said_18 : decode cX7_said 18 = .ok (.aload_n 0, 1) := dcX7_said_1.2.2.2.2.2.2.1
theorem dX7_said_19 : decode cX7_said 19 = .ok (.getfield 22, 3) := dcX7_said_1.2.2.2.2.2.2.2
theorem dcX7_said_2 : (decode cX7_said 22 = .ok (.iconst 2, 1)) ∧ (decode cX7_said 23 = .ok (.aload_n 0, 1)) ∧ (decode cX7_said 24 = .ok (.getfield 18, 3)) ∧ (decode cX7_said 27 = .ok (.iload_n 3, 1)) ∧ (decode cX7_said 28 = .ok (.iaload, 1)) ∧ (decode cX7_said 29 = .ok (.iastore, 1)) ∧ (decode cX7_said 30 = .ok (.aload_n 0, 1)) ∧ (decode cX7_said 31 = .ok (.getfield 22, 3)) := by decide +kernel
theorem dX7_said_22 : decode cX7_said 22 = .ok (.iconst 2, 1) := dcX7_said_2.1
theorem dX7_said_23 : decode cX7_said 23 = .ok (.aload_n 0, 1) := dcX7_said_2.2.1
theorem dX7_said_24 : decode cX7_said 24 = .ok (.getfield 18, 3) := dcX7_said_2.2.2.1
theorem dX7_said_27 : decode cX7_said 27 = .ok (.iload_n 3, 1) := dcX7_said_2.2.2.2.1
theorem dX7_said_28 : decode cX7_said 28 = .ok (.iaload, 1) := dcX7_said_2.2.2.2.2.1
theorem dX7_said_29 : decode cX7_said 29 = .ok (.iastore, 1) := dcX7_said_2.2.2.2.2.2.1
theorem dX7_said_30 : decode cX7_said 30 = .ok (.aload_n 0, 1) := dcX7_said_2.2.2.2.2.2.2.1
theorem dX7_said_31 : decode cX7_said 31 = .ok (.getfield 22, 3) := dcX7_said_2.2.2.2.2.2.2.2
theorem dcX7_said_3 : (decode cX7_said 34 = .ok (.iconst 3, 1)) ∧ (decode cX7_said 35 = .ok (.iload 4, 2)) ∧ (decode cX7_said 37 = .ok (.iastore, 1)) ∧ (decode cX7_said 38 = .ok (.aload_n 0, 1)) ∧ (decode cX7_said 39 = .ok (.getfield 22, 3)) ∧ (decode cX7_said 42 = .ok (.iconst 4, 1)) ∧ (decode cX7_said 43 = .ok (.aload_n 0, 1)) ∧ (decode cX7_said 44 = .ok (.getfield 9, 3)) := by decide +kernel
theorem dX7_said_34 : decode cX7_said 34 = .ok (.iconst 3, 1) := dcX7_said_3.1
theorem dX7_said_35 : decode cX7_said 35 = .ok (.iload 4, 2) := dcX7_said_3.2.1
theorem dX7_said_37 : decode cX7_said 37 = .ok (.iastore, 1) := dcX7_said_3.2.2.1
theorem dX7_said_38 : decode cX7_said 38 = .ok (.aload_n 0, 1) := dcX7_said_3.2.2.2.1
theorem dX7_said_39 : decode cX7_said 39 = .ok (.getfield 22, 3) := dcX7_said_3.2.2.2.2.1
theorem dX7_said_42 : decode cX7_said 42 = .ok (.iconst 4, 1) := dcX7_said_3.2.2.2.2.2.1
theorem dX7_said_43 : decode cX7_said 43 = .ok (.aload_n 0, 1) := dcX7_said_3.2.2.2.2.2.2.1
theorem dX7_said_44 : decode cX7_said 44 = .ok (.getfield 9, 3) := dcX7_said_3.2.2.2.2.2.2.2
theorem dcX7_said_4 : (decode cX7_said 47 = .ok (.iastore, 1)) ∧ (decode cX7_said 48 = .ok (.aload_n 0, 1)) ∧ (decode cX7_said 49 = .ok (.getfield 22, 3)) ∧ (decode cX7_said 52 = .ok (.iconst 5, 1)) ∧ (decode cX7_said 53 = .ok (.aload_n 0, 1)) ∧ (decode cX7_said 54 = .ok (.getfield 15, 3)) ∧ (decode cX7_said 57 = .ok (.iload_n 3, 1)) ∧ (decode cX7_said 58 = .ok (.ishr, 1)) := by decide +kernel
theorem dX7_said_47 : decode cX7_said 47 = .ok (.iastore, 1) := dcX7_said_4.1
theorem dX7_said_48 : decode cX7_said 48 = .ok (.aload_n 0, 1) := dcX7_said_4.2.1
theorem dX7_said_49 : decode cX7_said 49 = .ok (.getfield 22, 3) := dcX7_said_4.2.2.1
theorem dX7_said_52 : decode cX7_said 52 = .ok (.iconst 5, 1) := dcX7_said_4.2.2.2.1
theorem dX7_said_53 : decode cX7_said 53 = .ok (.aload_n 0, 1) := dcX7_said_4.2.2.2.2.1
theorem dX7_said_54 : decode cX7_said 54 = .ok (.getfield 15, 3) := dcX7_said_4.2.2.2.2.2.1
theorem dX7_said_57 : decode cX7_said 57 = .ok (.iload_n 3, 1) := dcX7_said_4.2.2.2.2.2.2.1
theorem dX7_said_58 : decode cX7_said 58 = .ok (.ishr, 1) := dcX7_said_4.2.2.2.2.2.2.2
theorem dcX7_said_5 : (decode cX7_said 59 = .ok (.iconst 1, 1)) ∧ (decode cX7_said 60 = .ok (.iand, 1)) ∧ (decode cX7_said 61 = .ok (.iastore, 1)) ∧ (decode cX7_said 62 = .ok (.iload_n 2, 1)) ∧ (decode cX7_said 63 = .ok (.ifCond .ne 8, 3)) ∧ (decode cX7_said 66 = .ok (.bipush 50, 2)) ∧ (decode cX7_said 68 = .ok (.goto 5, 3)) ∧ (decode cX7_said 71 = .ok (.bipush 99, 2)) := by decide +kernel
theorem dX7_said_59 : decode cX7_said 59 = .ok (.iconst 1, 1) := dcX7_said_5.1
theorem dX7_said_60 : decode cX7_said 60 = .ok (.iand, 1) := dcX7_said_5.2.1
theorem dX7_said_61 : decode cX7_said 61 = .ok (.iastore, 1) := dcX7_said_5.2.2.1
theorem dX7_said_62 : decode cX7_said 62 = .ok (.iload_n 2, 1) := dcX7_said_5.2.2.2.1
theorem dX7_said_63 : decode cX7_said 63 = .ok (.ifCond .ne 8, 3) := dcX7_said_5.2.2.2.2.1
theorem dX7_said_66 : decode cX7_said 66 = .ok (.bipush 50, 2) := dcX7_said_5.2.2.2.2.2.1
theorem dX7_said_68 : decode cX7_said 68 = .ok (.goto 5, 3) := dcX7_said_5.2.2.2.2.2.2.1
theorem dX7_said_71 : decode cX7_said 71 = .ok (.bipush 99, 2) := dcX7_said_5.2.2.2.2.2.2.2
theorem dcX7_said_6 : (decode cX7_said 73 = .ok (.istore 5, 2)) ∧ (decode cX7_said 75 = .ok (.iconst 0, 1)) ∧ (decode cX7_said 76 = .ok (.iload 5, 2)) ∧ (decode cX7_said 78 = .ok (.aload_n 1, 1)) ∧ (decode cX7_said 79 = .ok (.iload_n 2, 1)) ∧ (decode cX7_said 80 = .ok (.aload_n 0, 1)) ∧ (decode cX7_said 81 = .ok (.getfield 22, 3)) ∧ (decode cX7_said 84 = .ok (.invokevirtual 35, 3)) := by decide +kernel
theorem dX7_said_73 : decode cX7_said 73 = .ok (.istore 5, 2) := dcX7_said_6.1
theorem dX7_said_75 : decode cX7_said 75 = .ok (.iconst 0, 1) := dcX7_said_6.2.1
theorem dX7_said_76 : decode cX7_said 76 = .ok (.iload 5, 2) := dcX7_said_6.2.2.1
theorem dX7_said_78 : decode cX7_said 78 = .ok (.aload_n 1, 1) := dcX7_said_6.2.2.2.1
theorem dX7_said_79 : decode cX7_said 79 = .ok (.iload_n 2, 1) := dcX7_said_6.2.2.2.2.1
theorem dX7_said_80 : decode cX7_said 80 = .ok (.aload_n 0, 1) := dcX7_said_6.2.2.2.2.2.1
theorem dX7_said_81 : decode cX7_said 81 = .ok (.getfield 22, 3) := dcX7_said_6.2.2.2.2.2.2.1
theorem dX7_said_84 : decode cX7_said 84 = .ok (.invokevirtual 35, 3) := dcX7_said_6.2.2.2.2.2.2.2
theorem dcX7_said_7 : (decode cX7_said 87 = .ok (.invokestatic 41, 3)) ∧ (decode cX7_said 90 = .ok (.invokestatic 47, 3)) ∧ (decode cX7_said 93 = .ok (.ireturn, 1)) := by decide +kernel
theorem dX7_said_87 : decode cX7_said 87 = .ok (.invokestatic 41, 3) := dcX7_said_7.1
theorem dX7_said_90 : decode cX7_said 90 = .ok (.invokestatic 47, 3) := dcX7_said_7.2.1
theorem dX7_said_93 : decode cX7_said 93 = .ok (.ireturn, 1) := dcX7_said_7.2.2
theorem dcX7_cost_0 : (decode cX7_cost 0 = .ok (.aload_n 0, 1)) ∧ (decode cX7_cost 1 = .ok (.getfield 25, 3)) ∧ (decode cX7_cost 4 = .ok (.aload_n 0, 1)) ∧ (decode cX7_cost 5 = .ok (.aload_n 1, 1)) ∧ (decode cX7_cost 6 = .ok (.iconst 2, 1)) ∧ (decode cX7_cost 7 = .ok (.iload_n 2, 1)) ∧ (decode cX7_cost 8 = .ok (.iload_n 3, 1)) ∧ (decode cX7_cost 9 = .ok (.invokevirtual 50, 3)) := by decide +kernel
theorem dX7_cost_0 : decode cX7_cost 0 = .ok (.aload_n 0, 1) := dcX7_cost_0.1
theorem dX7_cost_1 : decode cX7_cost 1 = .ok (.getfield 25, 3) := dcX7_cost_0.2.1
theorem dX7_cost_4 : decode cX7_cost 4 = .ok (.aload_n 0, 1) := dcX7_cost_0.2.2.1
theorem dX7_cost_5 : decode cX7_cost 5 = .ok (.aload_n 1, 1) := dcX7_cost_0.2.2.2.1
theorem dX7_cost_6 : decode cX7_cost 6 = .ok (.iconst 2, 1) := dcX7_cost_0.2.2.2.2.1
theorem dX7_cost_7 : decode cX7_cost 7 = .ok (.iload_n 2, 1) := dcX7_cost_0.2.2.2.2.2.1
theorem dX7_cost_8 : decode cX7_cost 8 = .ok (.iload_n 3, 1) := dcX7_cost_0.2.2.2.2.2.2.1
theorem dX7_cost_9 : decode cX7_cost 9 = .ok (.invokevirtual 50, 3) := dcX7_cost_0.2.2.2.2.2.2.2
theorem dcX7_cost_1 : (decode cX7_cost 12 = .ok (.iload_n 2, 1)) ∧ (decode cX7_cost 13 = .ok (.invokevirtual 54, 3)) ∧ (decode cX7_cost 16 = .ok (.ireturn, 1)) := by decide +kernel
theorem dX7_cost_12 : decode cX7_cost 12 = .ok (.iload_n 2, 1) := dcX7_cost_1.1
theorem dX7_cost_13 : decode cX7_cost 13 = .ok (.invokevirtual 54, 3) := dcX7_cost_1.2.1
theorem dX7_cost_16 : decode cX7_cost 16 = .ok (.ireturn, 1) := dcX7_cost_1.2.2
theorem dcX7_costOf_0 : (decode cX7_costOf 0 = .ok (.iconst 0, 1)) ∧ (decode cX7_costOf 1 = .ok (.istore 4, 2)) ∧ (decode cX7_costOf 3 = .ok (.iconst 0, 1)) ∧ (decode cX7_costOf 4 = .ok (.istore 5, 2)) ∧ (decode cX7_costOf 6 = .ok (.iload 5, 2)) ∧ (decode cX7_costOf 8 = .ok (.bipush 16, 2)) ∧ (decode cX7_costOf 10 = .ok (.if_icmp .ge 31, 3)) ∧ (decode cX7_costOf 13 = .ok (.iload_n 2, 1)) := by decide +kernel
theorem dX7_costOf_0 : decode cX7_costOf 0 = .ok (.iconst 0, 1) := dcX7_costOf_0.1
theorem dX7_costOf_1 : decode cX7_costOf 1 = .ok (.istore 4, 2) := dcX7_costOf_0.2.1
theorem dX7_costOf_3 : decode cX7_costOf 3 = .ok (.iconst 0, 1) := dcX7_costOf_0.2.2.1
theorem dX7_costOf_4 : decode cX7_costOf 4 = .ok (.istore 5, 2) := dcX7_costOf_0.2.2.2.1
theorem dX7_costOf_6 : decode cX7_costOf 6 = .ok (.iload 5, 2) := dcX7_costOf_0.2.2.2.2.1
theorem dX7_costOf_8 : decode cX7_costOf 8 = .ok (.bipush 16, 2) := dcX7_costOf_0.2.2.2.2.2.1
theorem dX7_costOf_10 : decode cX7_costOf 10 = .ok (.if_icmp .ge 31, 3) := dcX7_costOf_0.2.2.2.2.2.2.1
theorem dX7_costOf_13 : decode cX7_costOf 13 = .ok (.iload_n 2, 1) := dcX7_costOf_0.2.2.2.2.2.2.2
theorem dcX7_costOf_1 : (decode cX7_costOf 14 = .ok (.iload 5, 2)) ∧ (decode cX7_costOf 16 = .ok (.invokestatic 59, 3)) ∧ (decode cX7_costOf 19 = .ok (.ifCond .eq 16, 3)) ∧ (decode cX7_costOf 22 = .ok (.iload 4, 2)) ∧ (decode cX7_costOf 24 = .ok (.aload_n 0, 1)) ∧ (decode cX7_costOf 25 = .ok (.aload_n 1, 1)) ∧ (decode cX7_costOf 26 = .ok (.iload 5, 2)) ∧ (decode cX7_costOf 28 = .ok (.iload_n 3, 1)) := by decide +kernel
theorem dX7_costOf_14 : decode cX7_costOf 14 = .ok (.iload 5, 2) := dcX7_costOf_1.1
theorem dX7_costOf_16 : decode cX7_costOf 16 = .ok (.invokestatic 59, 3) := dcX7_costOf_1.2.1
theorem dX7_costOf_19 : decode cX7_costOf 19 = .ok (.ifCond .eq 16, 3) := dcX7_costOf_1.2.2.1
theorem dX7_costOf_22 : decode cX7_costOf 22 = .ok (.iload 4, 2) := dcX7_costOf_1.2.2.2.1
theorem dX7_costOf_24 : decode cX7_costOf 24 = .ok (.aload_n 0, 1) := dcX7_costOf_1.2.2.2.2.1
theorem dX7_costOf_25 : decode cX7_costOf 25 = .ok (.aload_n 1, 1) := dcX7_costOf_1.2.2.2.2.2.1
theorem dX7_costOf_26 : decode cX7_costOf 26 = .ok (.iload 5, 2) := dcX7_costOf_1.2.2.2.2.2.2.1
theorem dX7_costOf_28 : decode cX7_costOf 28 = .ok (.iload_n 3, 1) := dcX7_costOf_1.2.2.2.2.2.2.2
theorem dcX7_costOf_2 : (decode cX7_costOf 29 = .ok (.invokevirtual 63, 3)) ∧ (decode cX7_costOf 32 = .ok (.iadd, 1)) ∧ (decode cX7_costOf 33 = .ok (.istore 4, 2)) ∧ (decode cX7_costOf 35 = .ok (.iinc 5 1, 3)) ∧ (decode cX7_costOf 38 = .ok (.goto (-32), 3)) ∧ (decode cX7_costOf 41 = .ok (.iload 4, 2)) ∧ (decode cX7_costOf 43 = .ok (.ireturn, 1)) := by decide +kernel
theorem dX7_costOf_29 : decode cX7_costOf 29 = .ok (.invokevirtual 63, 3) := dcX7_costOf_2.1
theorem dX7_costOf_32 : decode cX7_costOf 32 = .ok (.iadd, 1) := dcX7_costOf_2.2.1
theorem dX7_costOf_33 : decode cX7_costOf 33 = .ok (.istore 4, 2) := dcX7_costOf_2.2.2.1
theorem dX7_costOf_35 : decode cX7_costOf 35 = .ok (.iinc 5 1, 3) := dcX7_costOf_2.2.2.2.1
theorem dX7_costOf_38 : decode cX7_costOf 38 = .ok (.goto (-32), 3) := dcX7_costOf_2.2.2.2.2.1
theorem dX7_costOf_41 : decode cX7_costOf 41 = .ok (.iload 4, 2) := dcX7_costOf_2.2.2.2.2.2.1
theorem dX7_costOf_43 : decode cX7_costOf 43 = .ok (.ireturn, 1) := dcX7_costOf_2.2.2.2.2.2.2
theorem dcX7_isClear_0 : (decode cX7_isClear 0 = .ok (.aload_n 0, 1)) ∧ (decode cX7_isClear 1 = .ok (.getfield 18, 3)) ∧ (decode cX7_isClear 4 = .ok (.iload_n 2, 1)) ∧ (decode cX7_isClear 5 = .ok (.iaload, 1)) ∧ (decode cX7_isClear 6 = .ok (.aload_n 0, 1)) ∧ (decode cX7_isClear 7 = .ok (.getfield 25, 3)) ∧ (decode cX7_isClear 10 = .ok (.aload_n 0, 1)) ∧ (decode cX7_isClear 11 = .ok (.aload_n 1, 1)) := by decide +kernel
theorem dX7_isClear_0 : decode cX7_isClear 0 = .ok (.aload_n 0, 1) := dcX7_isClear_0.1
theorem dX7_isClear_1 : decode cX7_isClear 1 = .ok (.getfield 18, 3) := dcX7_isClear_0.2.1
theorem dX7_isClear_4 : decode cX7_isClear 4 = .ok (.iload_n 2, 1) := dcX7_isClear_0.2.2.1
theorem dX7_isClear_5 : decode cX7_isClear 5 = .ok (.iaload, 1) := dcX7_isClear_0.2.2.2.1
theorem dX7_isClear_6 : decode cX7_isClear 6 = .ok (.aload_n 0, 1) := dcX7_isClear_0.2.2.2.2.1
theorem dX7_isClear_7 : decode cX7_isClear 7 = .ok (.getfield 25, 3) := dcX7_isClear_0.2.2.2.2.2.1
theorem dX7_isClear_10 : decode cX7_isClear 10 = .ok (.aload_n 0, 1) := dcX7_isClear_0.2.2.2.2.2.2.1
theorem dX7_isClear_11 : decode cX7_isClear 11 = .ok (.aload_n 1, 1) := dcX7_isClear_0.2.2.2.2.2.2.2
theorem dcX7_isClear_1 : (decode cX7_isClear 12 = .ok (.iconst 1, 1)) ∧ (decode cX7_isClear 13 = .ok (.iload_n 2, 1)) ∧ (decode cX7_isClear 14 = .ok (.iload_n 3, 1)) ∧ (decode cX7_isClear 15 = .ok (.invokevirtual 50, 3)) ∧ (decode cX7_isClear 18 = .ok (.iload_n 2, 1)) ∧ (decode cX7_isClear 19 = .ok (.aload_n 0, 1)) ∧ (decode cX7_isClear 20 = .ok (.getfield 9, 3)) ∧ (decode cX7_isClear 23 = .ok (.invokevirtual 67, 3)) := by decide +kernel
theorem dX7_isClear_12 : decode cX7_isClear 12 = .ok (.iconst 1, 1) := dcX7_isClear_1.1
theorem dX7_isClear_13 : decode cX7_isClear 13 = .ok (.iload_n 2, 1) := dcX7_isClear_1.2.1
theorem dX7_isClear_14 : decode cX7_isClear 14 = .ok (.iload_n 3, 1) := dcX7_isClear_1.2.2.1
theorem dX7_isClear_15 : decode cX7_isClear 15 = .ok (.invokevirtual 50, 3) := dcX7_isClear_1.2.2.2.1
theorem dX7_isClear_18 : decode cX7_isClear 18 = .ok (.iload_n 2, 1) := dcX7_isClear_1.2.2.2.2.1
theorem dX7_isClear_19 : decode cX7_isClear 19 = .ok (.aload_n 0, 1) := dcX7_isClear_1.2.2.2.2.2.1
theorem dX7_isClear_20 : decode cX7_isClear 20 = .ok (.getfield 9, 3) := dcX7_isClear_1.2.2.2.2.2.2.1
theorem dX7_isClear_23 : decode cX7_isClear 23 = .ok (.invokevirtual 67, 3) := dcX7_isClear_1.2.2.2.2.2.2.2
theorem dcX7_isClear_2 : (decode cX7_isClear 26 = .ok (.if_icmp .gt 7, 3)) ∧ (decode cX7_isClear 29 = .ok (.iconst 1, 1)) ∧ (decode cX7_isClear 30 = .ok (.goto 4, 3)) ∧ (decode cX7_isClear 33 = .ok (.iconst 0, 1)) ∧ (decode cX7_isClear 34 = .ok (.ireturn, 1)) := by decide +kernel
theorem dX7_isClear_26 : decode cX7_isClear 26 = .ok (.if_icmp .gt 7, 3) := dcX7_isClear_2.1
theorem dX7_isClear_29 : decode cX7_isClear 29 = .ok (.iconst 1, 1) := dcX7_isClear_2.2.1
theorem dX7_isClear_30 : decode cX7_isClear 30 = .ok (.goto 4, 3) := dcX7_isClear_2.2.2.1
theorem dX7_isClear_33 : decode cX7_isClear 33 = .ok (.iconst 0, 1) := dcX7_isClear_2.2.2.2.1
theorem dX7_isClear_34 : decode cX7_isClear 34 = .ok (.ireturn, 1) := dcX7_isClear_2.2.2.2.2
theorem dcX7_clearCells_0 : (decode cX7_clearCells 0 = .ok (.iconst 0, 1)) ∧ (decode cX7_clearCells 1 = .ok (.istore_n 3, 1)) ∧ (decode cX7_clearCells 2 = .ok (.iconst 0, 1)) ∧ (decode cX7_clearCells 3 = .ok (.istore 4, 2)) ∧ (decode cX7_clearCells 5 = .ok (.iload 4, 2)) ∧ (decode cX7_clearCells 7 = .ok (.bipush 16, 2)) ∧ (decode cX7_clearCells 9 = .ok (.if_icmp .ge 27, 3)) ∧ (decode cX7_clearCells 12 = .ok (.aload_n 0, 1)) := by decide +kernel
theorem dX7_clearCells_0 : decode cX7_clearCells 0 = .ok (.iconst 0, 1) := dcX7_clearCells_0.1
theorem dX7_clearCells_1 : decode cX7_clearCells 1 = .ok (.istore_n 3, 1) := dcX7_clearCells_0.2.1
theorem dX7_clearCells_2 : decode cX7_clearCells 2 = .ok (.iconst 0, 1) := dcX7_clearCells_0.2.2.1
theorem dX7_clearCells_3 : decode cX7_clearCells 3 = .ok (.istore 4, 2) := dcX7_clearCells_0.2.2.2.1
theorem dX7_clearCells_5 : decode cX7_clearCells 5 = .ok (.iload 4, 2) := dcX7_clearCells_0.2.2.2.2.1
theorem dX7_clearCells_7 : decode cX7_clearCells 7 = .ok (.bipush 16, 2) := dcX7_clearCells_0.2.2.2.2.2.1
theorem dX7_clearCells_9 : decode cX7_clearCells 9 = .ok (.if_icmp .ge 27, 3) := dcX7_clearCells_0.2.2.2.2.2.2.1
theorem dX7_clearCells_12 : decode cX7_clearCells 12 = .ok (.aload_n 0, 1) := dcX7_clearCells_0.2.2.2.2.2.2.2
theorem dcX7_clearCells_1 : (decode cX7_clearCells 13 = .ok (.aload_n 1, 1)) ∧ (decode cX7_clearCells 14 = .ok (.iload 4, 2)) ∧ (decode cX7_clearCells 16 = .ok (.iload_n 2, 1)) ∧ (decode cX7_clearCells 17 = .ok (.invokevirtual 71, 3)) ∧ (decode cX7_clearCells 20 = .ok (.ifCond .eq 10, 3)) ∧ (decode cX7_clearCells 23 = .ok (.iload_n 3, 1)) ∧ (decode cX7_clearCells 24 = .ok (.iconst 1, 1)) ∧ (decode cX7_clearCells 25 = .ok (.iload 4, 2)) := by decide +kernel
theorem dX7_clearCells_13 : decode cX7_clearCells 13 = .ok (.aload_n 1, 1) := dcX7_clearCells_1.1
theorem dX7_clearCells_14 : decode cX7_clearCells 14 = .ok (.iload 4, 2) := dcX7_clearCells_1.2.1
theorem dX7_clearCells_16 : decode cX7_clearCells 16 = .ok (.iload_n 2, 1) := dcX7_clearCells_1.2.2.1
theorem dX7_clearCells_17 : decode cX7_clearCells 17 = .ok (.invokevirtual 71, 3) := dcX7_clearCells_1.2.2.2.1
theorem dX7_clearCells_20 : decode cX7_clearCells 20 = .ok (.ifCond .eq 10, 3) := dcX7_clearCells_1.2.2.2.2.1
theorem dX7_clearCells_23 : decode cX7_clearCells 23 = .ok (.iload_n 3, 1) := dcX7_clearCells_1.2.2.2.2.2.1
theorem dX7_clearCells_24 : decode cX7_clearCells 24 = .ok (.iconst 1, 1) := dcX7_clearCells_1.2.2.2.2.2.2.1
theorem dX7_clearCells_25 : decode cX7_clearCells 25 = .ok (.iload 4, 2) := dcX7_clearCells_1.2.2.2.2.2.2.2
theorem dcX7_clearCells_2 : (decode cX7_clearCells 27 = .ok (.ishl, 1)) ∧ (decode cX7_clearCells 28 = .ok (.ior, 1)) ∧ (decode cX7_clearCells 29 = .ok (.istore_n 3, 1)) ∧ (decode cX7_clearCells 30 = .ok (.iinc 4 1, 3)) ∧ (decode cX7_clearCells 33 = .ok (.goto (-28), 3)) ∧ (decode cX7_clearCells 36 = .ok (.iload_n 3, 1)) ∧ (decode cX7_clearCells 37 = .ok (.ireturn, 1)) := by decide +kernel
theorem dX7_clearCells_27 : decode cX7_clearCells 27 = .ok (.ishl, 1) := dcX7_clearCells_2.1
theorem dX7_clearCells_28 : decode cX7_clearCells 28 = .ok (.ior, 1) := dcX7_clearCells_2.2.1
theorem dX7_clearCells_29 : decode cX7_clearCells 29 = .ok (.istore_n 3, 1) := dcX7_clearCells_2.2.2.1
theorem dX7_clearCells_30 : decode cX7_clearCells 30 = .ok (.iinc 4 1, 3) := dcX7_clearCells_2.2.2.2.1
theorem dX7_clearCells_33 : decode cX7_clearCells 33 = .ok (.goto (-28), 3) := dcX7_clearCells_2.2.2.2.2.1
theorem dX7_clearCells_36 : decode cX7_clearCells 36 = .ok (.iload_n 3, 1) := dcX7_clearCells_2.2.2.2.2.2.1
theorem dX7_clearCells_37 : decode cX7_clearCells 37 = .ok (.ireturn, 1) := dcX7_clearCells_2.2.2.2.2.2.2
theorem dcX7_seenCells_0 : (decode cX7_seenCells 0 = .ok (.aload_n 0, 1)) ∧ (decode cX7_seenCells 1 = .ok (.aload_n 1, 1)) ∧ (decode cX7_seenCells 2 = .ok (.iload_n 2, 1)) ∧ (decode cX7_seenCells 3 = .ok (.invokevirtual 75, 3)) ∧ (decode cX7_seenCells 6 = .ok (.aload_n 0, 1)) ∧ (decode cX7_seenCells 7 = .ok (.getfield 15, 3)) ∧ (decode cX7_seenCells 10 = .ok (.iand, 1)) ∧ (decode cX7_seenCells 11 = .ok (.ireturn, 1)) := by decide +kernel
theorem dX7_seenCells_0 : decode cX7_seenCells 0 = .ok (.aload_n 0, 1) := dcX7_seenCells_0.1
theorem dX7_seenCells_1 : decode cX7_seenCells 1 = .ok (.aload_n 1, 1) := dcX7_seenCells_0.2.1
theorem dX7_seenCells_2 : decode cX7_seenCells 2 = .ok (.iload_n 2, 1) := dcX7_seenCells_0.2.2.1
theorem dX7_seenCells_3 : decode cX7_seenCells 3 = .ok (.invokevirtual 75, 3) := dcX7_seenCells_0.2.2.2.1
theorem dX7_seenCells_6 : decode cX7_seenCells 6 = .ok (.aload_n 0, 1) := dcX7_seenCells_0.2.2.2.2.1
theorem dX7_seenCells_7 : decode cX7_seenCells 7 = .ok (.getfield 15, 3) := dcX7_seenCells_0.2.2.2.2.2.1
theorem dX7_seenCells_10 : decode cX7_seenCells 10 = .ok (.iand, 1) := dcX7_seenCells_0.2.2.2.2.2.2.1
theorem dX7_seenCells_11 : decode cX7_seenCells 11 = .ok (.ireturn, 1) := dcX7_seenCells_0.2.2.2.2.2.2.2
theorem dcX7_passNightAt_0 : (decode cX7_passNightAt 0 = .ok (.aload_n 0, 1)) ∧ (decode cX7_passNightAt 1 = .ok (.iload_n 2, 1)) ∧ (decode cX7_passNightAt 2 = .ok (.aload_n 0, 1)) ∧ (decode cX7_passNightAt 3 = .ok (.getfield 25, 3)) ∧ (decode cX7_passNightAt 6 = .ok (.aload_n 0, 1)) ∧ (decode cX7_passNightAt 7 = .ok (.aload_n 1, 1)) ∧ (decode cX7_passNightAt 8 = .ok (.iconst 0, 1)) ∧ (decode cX7_passNightAt 9 = .ok (.iload_n 2, 1)) := by decide +kernel
theorem dX7_passNightAt_0 : decode cX7_passNightAt 0 = .ok (.aload_n 0, 1) := dcX7_passNightAt_0.1
theorem dX7_passNightAt_1 : decode cX7_passNightAt 1 = .ok (.iload_n 2, 1) := dcX7_passNightAt_0.2.1
theorem dX7_passNightAt_2 : decode cX7_passNightAt 2 = .ok (.aload_n 0, 1) := dcX7_passNightAt_0.2.2.1
theorem dX7_passNightAt_3 : decode cX7_passNightAt 3 = .ok (.getfield 25, 3) := dcX7_passNightAt_0.2.2.2.1
theorem dX7_passNightAt_6 : decode cX7_passNightAt 6 = .ok (.aload_n 0, 1) := dcX7_passNightAt_0.2.2.2.2.1
theorem dX7_passNightAt_7 : decode cX7_passNightAt 7 = .ok (.aload_n 1, 1) := dcX7_passNightAt_0.2.2.2.2.2.1
theorem dX7_passNightAt_8 : decode cX7_passNightAt 8 = .ok (.iconst 0, 1) := dcX7_passNightAt_0.2.2.2.2.2.2.1
theorem dX7_passNightAt_9 : decode cX7_passNightAt 9 = .ok (.iload_n 2, 1) := dcX7_passNightAt_0.2.2.2.2.2.2.2
theorem dcX7_passNightAt_1 : (decode cX7_passNightAt 10 = .ok (.iload_n 3, 1)) ∧ (decode cX7_passNightAt 11 = .ok (.invokevirtual 50, 3)) ∧ (decode cX7_passNightAt 14 = .ok (.iload_n 2, 1)) ∧ (decode cX7_passNightAt 15 = .ok (.aload_n 0, 1)) ∧ (decode cX7_passNightAt 16 = .ok (.getfield 9, 3)) ∧ (decode cX7_passNightAt 19 = .ok (.iload_n 3, 1)) ∧ (decode cX7_passNightAt 20 = .ok (.invokevirtual 79, 3)) ∧ (decode cX7_passNightAt 23 = .ok (.invokevirtual 83, 3)) := by decide +kernel
theorem dX7_passNightAt_10 : decode cX7_passNightAt 10 = .ok (.iload_n 3, 1) := dcX7_passNightAt_1.1
theorem dX7_passNightAt_11 : decode cX7_passNightAt 11 = .ok (.invokevirtual 50, 3) := dcX7_passNightAt_1.2.1
theorem dX7_passNightAt_14 : decode cX7_passNightAt 14 = .ok (.iload_n 2, 1) := dcX7_passNightAt_1.2.2.1
theorem dX7_passNightAt_15 : decode cX7_passNightAt 15 = .ok (.aload_n 0, 1) := dcX7_passNightAt_1.2.2.2.1
theorem dX7_passNightAt_16 : decode cX7_passNightAt 16 = .ok (.getfield 9, 3) := dcX7_passNightAt_1.2.2.2.2.1
theorem dX7_passNightAt_19 : decode cX7_passNightAt 19 = .ok (.iload_n 3, 1) := dcX7_passNightAt_1.2.2.2.2.2.1
theorem dX7_passNightAt_20 : decode cX7_passNightAt 20 = .ok (.invokevirtual 79, 3) := dcX7_passNightAt_1.2.2.2.2.2.2.1
theorem dX7_passNightAt_23 : decode cX7_passNightAt 23 = .ok (.invokevirtual 83, 3) := dcX7_passNightAt_1.2.2.2.2.2.2.2
theorem dX7_passNightAt_26 : decode cX7_passNightAt 26 = .ok (.return_, 1) := by decide +kernel
theorem dcX7_passNight_0 : (decode cX7_passNight 0 = .ok (.iconst 0, 1)) ∧ (decode cX7_passNight 1 = .ok (.istore_n 3, 1)) ∧ (decode cX7_passNight 2 = .ok (.iload_n 3, 1)) ∧ (decode cX7_passNight 3 = .ok (.bipush 16, 2)) ∧ (decode cX7_passNight 5 = .ok (.if_icmp .ge 16, 3)) ∧ (decode cX7_passNight 8 = .ok (.aload_n 0, 1)) ∧ (decode cX7_passNight 9 = .ok (.aload_n 1, 1)) ∧ (decode cX7_passNight 10 = .ok (.iload_n 3, 1)) := by decide +kernel
theorem dX7_passNight_0 : decode cX7_passNight 0 = .ok (.iconst 0, 1) := dcX7_passNight_0.1
theorem dX7_passNight_1 : decode cX7_passNight 1 = .ok (.istore_n 3, 1) := dcX7_passNight_0.2.1
theorem dX7_passNight_2 : decode cX7_passNight 2 = .ok (.iload_n 3, 1) := dcX7_passNight_0.2.2.1
theorem dX7_passNight_3 : decode cX7_passNight 3 = .ok (.bipush 16, 2) := dcX7_passNight_0.2.2.2.1
theorem dX7_passNight_5 : decode cX7_passNight 5 = .ok (.if_icmp .ge 16, 3) := dcX7_passNight_0.2.2.2.2.1
theorem dX7_passNight_8 : decode cX7_passNight 8 = .ok (.aload_n 0, 1) := dcX7_passNight_0.2.2.2.2.2.1
theorem dX7_passNight_9 : decode cX7_passNight 9 = .ok (.aload_n 1, 1) := dcX7_passNight_0.2.2.2.2.2.2.1
theorem dX7_passNight_10 : decode cX7_passNight 10 = .ok (.iload_n 3, 1) := dcX7_passNight_0.2.2.2.2.2.2.2
theorem dcX7_passNight_1 : (decode cX7_passNight 11 = .ok (.iload_n 2, 1)) ∧ (decode cX7_passNight 12 = .ok (.invokevirtual 87, 3)) ∧ (decode cX7_passNight 15 = .ok (.iinc 3 1, 3)) ∧ (decode cX7_passNight 18 = .ok (.goto (-16), 3)) ∧ (decode cX7_passNight 21 = .ok (.return_, 1)) := by decide +kernel
theorem dX7_passNight_11 : decode cX7_passNight 11 = .ok (.iload_n 2, 1) := dcX7_passNight_1.1
theorem dX7_passNight_12 : decode cX7_passNight 12 = .ok (.invokevirtual 87, 3) := dcX7_passNight_1.2.1
theorem dX7_passNight_15 : decode cX7_passNight 15 = .ok (.iinc 3 1, 3) := dcX7_passNight_1.2.2.1
theorem dX7_passNight_18 : decode cX7_passNight 18 = .ok (.goto (-16), 3) := dcX7_passNight_1.2.2.2.1
theorem dX7_passNight_21 : decode cX7_passNight 21 = .ok (.return_, 1) := dcX7_passNight_1.2.2.2.2
theorem dcX7_dullMore_0 : (decode cX7_dullMore 0 = .ok (.aload_n 0, 1)) ∧ (decode cX7_dullMore 1 = .ok (.getfield 18, 3)) ∧ (decode cX7_dullMore 4 = .ok (.iload_n 1, 1)) ∧ (decode cX7_dullMore 5 = .ok (.bipush 99, 2)) ∧ (decode cX7_dullMore 7 = .ok (.aload_n 0, 1)) ∧ (decode cX7_dullMore 8 = .ok (.getfield 18, 3)) ∧ (decode cX7_dullMore 11 = .ok (.iload_n 1, 1)) ∧ (decode cX7_dullMore 12 = .ok (.iaload, 1)) := by decide +kernel
theorem dX7_dullMore_0 : decode cX7_dullMore 0 = .ok (.aload_n 0, 1) := dcX7_dullMore_0.1
theorem dX7_dullMore_1 : decode cX7_dullMore 1 = .ok (.getfield 18, 3) := dcX7_dullMore_0.2.1
theorem dX7_dullMore_4 : decode cX7_dullMore 4 = .ok (.iload_n 1, 1) := dcX7_dullMore_0.2.2.1
theorem dX7_dullMore_5 : decode cX7_dullMore 5 = .ok (.bipush 99, 2) := dcX7_dullMore_0.2.2.2.1
theorem dX7_dullMore_7 : decode cX7_dullMore 7 = .ok (.aload_n 0, 1) := dcX7_dullMore_0.2.2.2.2.1
theorem dX7_dullMore_8 : decode cX7_dullMore 8 = .ok (.getfield 18, 3) := dcX7_dullMore_0.2.2.2.2.2.1
theorem dX7_dullMore_11 : decode cX7_dullMore 11 = .ok (.iload_n 1, 1) := dcX7_dullMore_0.2.2.2.2.2.2.1
theorem dX7_dullMore_12 : decode cX7_dullMore 12 = .ok (.iaload, 1) := dcX7_dullMore_0.2.2.2.2.2.2.2
theorem dcX7_dullMore_1 : (decode cX7_dullMore 13 = .ok (.iload_n 2, 1)) ∧ (decode cX7_dullMore 14 = .ok (.iadd, 1)) ∧ (decode cX7_dullMore 15 = .ok (.invokestatic 41, 3)) ∧ (decode cX7_dullMore 18 = .ok (.iastore, 1)) ∧ (decode cX7_dullMore 19 = .ok (.return_, 1)) := by decide +kernel
theorem dX7_dullMore_13 : decode cX7_dullMore 13 = .ok (.iload_n 2, 1) := dcX7_dullMore_1.1
theorem dX7_dullMore_14 : decode cX7_dullMore 14 = .ok (.iadd, 1) := dcX7_dullMore_1.2.1
theorem dX7_dullMore_15 : decode cX7_dullMore 15 = .ok (.invokestatic 41, 3) := dcX7_dullMore_1.2.2.1
theorem dX7_dullMore_18 : decode cX7_dullMore 18 = .ok (.iastore, 1) := dcX7_dullMore_1.2.2.2.1
theorem dX7_dullMore_19 : decode cX7_dullMore 19 = .ok (.return_, 1) := dcX7_dullMore_1.2.2.2.2
theorem dcX7_dullAll_0 : (decode cX7_dullAll 0 = .ok (.iconst 0, 1)) ∧ (decode cX7_dullAll 1 = .ok (.istore_n 2, 1)) ∧ (decode cX7_dullAll 2 = .ok (.iload_n 2, 1)) ∧ (decode cX7_dullAll 3 = .ok (.bipush 16, 2)) ∧ (decode cX7_dullAll 5 = .ok (.if_icmp .ge 16, 3)) ∧ (decode cX7_dullAll 8 = .ok (.aload_n 0, 1)) ∧ (decode cX7_dullAll 9 = .ok (.getfield 18, 3)) ∧ (decode cX7_dullAll 12 = .ok (.iload_n 2, 1)) := by decide +kernel
theorem dX7_dullAll_0 : decode cX7_dullAll 0 = .ok (.iconst 0, 1) := dcX7_dullAll_0.1
theorem dX7_dullAll_1 : decode cX7_dullAll 1 = .ok (.istore_n 2, 1) := dcX7_dullAll_0.2.1
theorem dX7_dullAll_2 : decode cX7_dullAll 2 = .ok (.iload_n 2, 1) := dcX7_dullAll_0.2.2.1
theorem dX7_dullAll_3 : decode cX7_dullAll 3 = .ok (.bipush 16, 2) := dcX7_dullAll_0.2.2.2.1
theorem dX7_dullAll_5 : decode cX7_dullAll 5 = .ok (.if_icmp .ge 16, 3) := dcX7_dullAll_0.2.2.2.2.1
theorem dX7_dullAll_8 : decode cX7_dullAll 8 = .ok (.aload_n 0, 1) := dcX7_dullAll_0.2.2.2.2.2.1
theorem dX7_dullAll_9 : decode cX7_dullAll 9 = .ok (.getfield 18, 3) := dcX7_dullAll_0.2.2.2.2.2.2.1
theorem dX7_dullAll_12 : decode cX7_dullAll 12 = .ok (.iload_n 2, 1) := dcX7_dullAll_0.2.2.2.2.2.2.2
theorem dcX7_dullAll_1 : (decode cX7_dullAll 13 = .ok (.iload_n 1, 1)) ∧ (decode cX7_dullAll 14 = .ok (.iastore, 1)) ∧ (decode cX7_dullAll 15 = .ok (.iinc 2 1, 3)) ∧ (decode cX7_dullAll 18 = .ok (.goto (-16), 3)) ∧ (decode cX7_dullAll 21 = .ok (.return_, 1)) := by decide +kernel
theorem dX7_dullAll_13 : decode cX7_dullAll 13 = .ok (.iload_n 1, 1) := dcX7_dullAll_1.1
theorem dX7_dullAll_14 : decode cX7_dullAll 14 = .ok (.iastore, 1) := dcX7_dullAll_1.2.1
theorem dX7_dullAll_15 : decode cX7_dullAll 15 = .ok (.iinc 2 1, 3) := dcX7_dullAll_1.2.2.1
theorem dX7_dullAll_18 : decode cX7_dullAll 18 = .ok (.goto (-16), 3) := dcX7_dullAll_1.2.2.2.1
theorem dX7_dullAll_21 : decode cX7_dullAll 21 = .ok (.return_, 1) := dcX7_dullAll_1.2.2.2.2
theorem dcX7_dullTogether_0 : (decode cX7_dullTogether 0 = .ok (.iconst 0, 1)) ∧ (decode cX7_dullTogether 1 = .ok (.istore_n 1, 1)) ∧ (decode cX7_dullTogether 2 = .ok (.iconst 0, 1)) ∧ (decode cX7_dullTogether 3 = .ok (.istore_n 2, 1)) ∧ (decode cX7_dullTogether 4 = .ok (.iload_n 2, 1)) ∧ (decode cX7_dullTogether 5 = .ok (.bipush 16, 2)) ∧ (decode cX7_dullTogether 7 = .ok (.if_icmp .ge 18, 3)) ∧ (decode cX7_dullTogether 10 = .ok (.iload_n 1, 1)) := by decide +kernel
theorem dX7_dullTogether_0 : decode cX7_dullTogether 0 = .ok (.iconst 0, 1) := dcX7_dullTogether_0.1
theorem dX7_dullTogether_1 : decode cX7_dullTogether 1 = .ok (.istore_n 1, 1) := dcX7_dullTogether_0.2.1
theorem dX7_dullTogether_2 : decode cX7_dullTogether 2 = .ok (.iconst 0, 1) := dcX7_dullTogether_0.2.2.1
theorem dX7_dullTogether_3 : decode cX7_dullTogether 3 = .ok (.istore_n 2, 1) := dcX7_dullTogether_0.2.2.2.1
theorem dX7_dullTogether_4 : decode cX7_dullTogether 4 = .ok (.iload_n 2, 1) := dcX7_dullTogether_0.2.2.2.2.1
theorem dX7_dullTogether_5 : decode cX7_dullTogether 5 = .ok (.bipush 16, 2) := dcX7_dullTogether_0.2.2.2.2.2.1
theorem dX7_dullTogether_7 : decode cX7_dullTogether 7 = .ok (.if_icmp .ge 18, 3) := dcX7_dullTogether_0.2.2.2.2.2.2.1
theorem dX7_dullTogether_10 : decode cX7_dullTogether 10 = .ok (.iload_n 1, 1) := dcX7_dullTogether_0.2.2.2.2.2.2.2
theorem dcX7_dullTogether_1 : (decode cX7_dullTogether 11 = .ok (.aload_n 0, 1)) ∧ (decode cX7_dullTogether 12 = .ok (.getfield 18, 3)) ∧ (decode cX7_dullTogether 15 = .ok (.iload_n 2, 1)) ∧ (decode cX7_dullTogether 16 = .ok (.iaload, 1)) ∧ (decode cX7_dullTogether 17 = .ok (.iadd, 1)) ∧ (decode cX7_dullTogether 18 = .ok (.istore_n 1, 1)) ∧ (decode cX7_dullTogether 19 = .ok (.iinc 2 1, 3)) ∧ (decode cX7_dullTogether 22 = .ok (.goto (-18), 3)) := by decide +kernel
theorem dX7_dullTogether_11 : decode cX7_dullTogether 11 = .ok (.aload_n 0, 1) := dcX7_dullTogether_1.1
theorem dX7_dullTogether_12 : decode cX7_dullTogether 12 = .ok (.getfield 18, 3) := dcX7_dullTogether_1.2.1
theorem dX7_dullTogether_15 : decode cX7_dullTogether 15 = .ok (.iload_n 2, 1) := dcX7_dullTogether_1.2.2.1
theorem dX7_dullTogether_16 : decode cX7_dullTogether 16 = .ok (.iaload, 1) := dcX7_dullTogether_1.2.2.2.1
theorem dX7_dullTogether_17 : decode cX7_dullTogether 17 = .ok (.iadd, 1) := dcX7_dullTogether_1.2.2.2.2.1
theorem dX7_dullTogether_18 : decode cX7_dullTogether 18 = .ok (.istore_n 1, 1) := dcX7_dullTogether_1.2.2.2.2.2.1
theorem dX7_dullTogether_19 : decode cX7_dullTogether 19 = .ok (.iinc 2 1, 3) := dcX7_dullTogether_1.2.2.2.2.2.2.1
theorem dX7_dullTogether_22 : decode cX7_dullTogether 22 = .ok (.goto (-18), 3) := dcX7_dullTogether_1.2.2.2.2.2.2.2
theorem dcX7_dullTogether_2 : (decode cX7_dullTogether 25 = .ok (.iload_n 1, 1)) ∧ (decode cX7_dullTogether 26 = .ok (.ireturn, 1)) := by decide +kernel
theorem dX7_dullTogether_25 : decode cX7_dullTogether 25 = .ok (.iload_n 1, 1) := dcX7_dullTogether_2.1
theorem dX7_dullTogether_26 : decode cX7_dullTogether 26 = .ok (.ireturn, 1) := dcX7_dullTogether_2.2
theorem dcX8_init_0 : (decode cX8_init 0 = .ok (.aload_n 0, 1)) ∧ (decode cX8_init 1 = .ok (.invokespecial 3, 3)) ∧ (decode cX8_init 4 = .ok (.aload_n 0, 1)) ∧ (decode cX8_init 5 = .ok (.iconst (-1), 1)) ∧ (decode cX8_init 6 = .ok (.putfield 9, 3)) ∧ (decode cX8_init 9 = .ok (.aload_n 0, 1)) ∧ (decode cX8_init 10 = .ok (.iconst 0, 1)) ∧ (decode cX8_init 11 = .ok (.putfield 15, 3)) := by decide +kernel
theorem dX8_init_0 : decode cX8_init 0 = .ok (.aload_n 0, 1) := dcX8_init_0.1
theorem dX8_init_1 : decode cX8_init 1 = .ok (.invokespecial 3, 3) := dcX8_init_0.2.1
theorem dX8_init_4 : decode cX8_init 4 = .ok (.aload_n 0, 1) := dcX8_init_0.2.2.1
theorem dX8_init_5 : decode cX8_init 5 = .ok (.iconst (-1), 1) := dcX8_init_0.2.2.2.1
theorem dX8_init_6 : decode cX8_init 6 = .ok (.putfield 9, 3) := dcX8_init_0.2.2.2.2.1
theorem dX8_init_9 : decode cX8_init 9 = .ok (.aload_n 0, 1) := dcX8_init_0.2.2.2.2.2.1
theorem dX8_init_10 : decode cX8_init 10 = .ok (.iconst 0, 1) := dcX8_init_0.2.2.2.2.2.2.1
theorem dX8_init_11 : decode cX8_init 11 = .ok (.putfield 15, 3) := dcX8_init_0.2.2.2.2.2.2.2
theorem dcX8_init_1 : (decode cX8_init 14 = .ok (.aload_n 0, 1)) ∧ (decode cX8_init 15 = .ok (.bipush 40, 2)) ∧ (decode cX8_init 17 = .ok (.newarray .int, 2)) ∧ (decode cX8_init 19 = .ok (.putfield 18, 3)) ∧ (decode cX8_init 22 = .ok (.return_, 1)) := by decide +kernel
theorem dX8_init_14 : decode cX8_init 14 = .ok (.aload_n 0, 1) := dcX8_init_1.1
theorem dX8_init_15 : decode cX8_init 15 = .ok (.bipush 40, 2) := dcX8_init_1.2.1
theorem dX8_init_17 : decode cX8_init 17 = .ok (.newarray .int, 2) := dcX8_init_1.2.2.1
theorem dX8_init_19 : decode cX8_init 19 = .ok (.putfield 18, 3) := dcX8_init_1.2.2.2.1
theorem dX8_init_22 : decode cX8_init 22 = .ok (.return_, 1) := dcX8_init_1.2.2.2.2
theorem dcX8_become_0 : (decode cX8_become 0 = .ok (.aload_n 0, 1)) ∧ (decode cX8_become 1 = .ok (.iload_n 1, 1)) ∧ (decode cX8_become 2 = .ok (.putfield 9, 3)) ∧ (decode cX8_become 5 = .ok (.aload_n 0, 1)) ∧ (decode cX8_become 6 = .ok (.iload_n 2, 1)) ∧ (decode cX8_become 7 = .ok (.putfield 15, 3)) ∧ (decode cX8_become 10 = .ok (.aload_n 0, 1)) ∧ (decode cX8_become 11 = .ok (.getfield 18, 3)) := by decide +kernel
theorem dX8_become_0 : decode cX8_become 0 = .ok (.aload_n 0, 1) := dcX8_become_0.1
theorem dX8_become_1 : decode cX8_become 1 = .ok (.iload_n 1, 1) := dcX8_become_0.2.1
theorem dX8_become_2 : decode cX8_become 2 = .ok (.putfield 9, 3) := dcX8_become_0.2.2.1
theorem dX8_become_5 : decode cX8_become 5 = .ok (.aload_n 0, 1) := dcX8_become_0.2.2.2.1
theorem dX8_become_6 : decode cX8_become 6 = .ok (.iload_n 2, 1) := dcX8_become_0.2.2.2.2.1
theorem dX8_become_7 : decode cX8_become 7 = .ok (.putfield 15, 3) := dcX8_become_0.2.2.2.2.2.1
theorem dX8_become_10 : decode cX8_become 10 = .ok (.aload_n 0, 1) := dcX8_become_0.2.2.2.2.2.2.1
theorem dX8_become_11 : decode cX8_become 11 = .ok (.getfield 18, 3) := dcX8_become_0.2.2.2.2.2.2.2
theorem dcX8_become_1 : (decode cX8_become 14 = .ok (.iconst 0, 1)) ∧ (decode cX8_become 15 = .ok (.invokestatic 22, 3)) ∧ (decode cX8_become 18 = .ok (.return_, 1)) := by decide +kernel
theorem dX8_become_14 : decode cX8_become 14 = .ok (.iconst 0, 1) := dcX8_become_1.1
theorem dX8_become_15 : decode cX8_become 15 = .ok (.invokestatic 22, 3) := dcX8_become_1.2.1
theorem dX8_become_18 : decode cX8_become 18 = .ok (.return_, 1) := dcX8_become_1.2.2
theorem dcX8_write_0 : (decode cX8_write 0 = .ok (.aload_n 0, 1)) ∧ (decode cX8_write 1 = .ok (.getfield 9, 3)) ∧ (decode cX8_write 4 = .ok (.ifCond .ne 14, 3)) ∧ (decode cX8_write 7 = .ok (.aload_n 0, 1)) ∧ (decode cX8_write 8 = .ok (.getfield 18, 3)) ∧ (decode cX8_write 11 = .ok (.iload_n 1, 1)) ∧ (decode cX8_write 12 = .ok (.iload_n 2, 1)) ∧ (decode cX8_write 13 = .ok (.i2b, 1)) := by decide +kernel
theorem dX8_write_0 : decode cX8_write 0 = .ok (.aload_n 0, 1) := dcX8_write_0.1
theorem dX8_write_1 : decode cX8_write 1 = .ok (.getfield 9, 3) := dcX8_write_0.2.1
theorem dX8_write_4 : decode cX8_write 4 = .ok (.ifCond .ne 14, 3) := dcX8_write_0.2.2.1
theorem dX8_write_7 : decode cX8_write 7 = .ok (.aload_n 0, 1) := dcX8_write_0.2.2.2.1
theorem dX8_write_8 : decode cX8_write 8 = .ok (.getfield 18, 3) := dcX8_write_0.2.2.2.2.1
theorem dX8_write_11 : decode cX8_write 11 = .ok (.iload_n 1, 1) := dcX8_write_0.2.2.2.2.2.1
theorem dX8_write_12 : decode cX8_write 12 = .ok (.iload_n 2, 1) := dcX8_write_0.2.2.2.2.2.2.1
theorem dX8_write_13 : decode cX8_write 13 = .ok (.i2b, 1) := dcX8_write_0.2.2.2.2.2.2.2
theorem dcX8_write_1 : (decode cX8_write 14 = .ok (.iastore, 1)) ∧ (decode cX8_write 15 = .ok (.goto 29, 3)) ∧ (decode cX8_write 18 = .ok (.aload_n 0, 1)) ∧ (decode cX8_write 19 = .ok (.getfield 9, 3)) ∧ (decode cX8_write 22 = .ok (.iconst 1, 1)) ∧ (decode cX8_write 23 = .ok (.if_icmp .ne 14, 3)) ∧ (decode cX8_write 26 = .ok (.aload_n 0, 1)) ∧ (decode cX8_write 27 = .ok (.getfield 18, 3)) := by decide +kernel
theorem dX8_write_14 : decode cX8_write 14 = .ok (.iastore, 1) := dcX8_write_1.1
theorem dX8_write_15 : decode cX8_write 15 = .ok (.goto 29, 3) := dcX8_write_1.2.1
theorem dX8_write_18 : decode cX8_write 18 = .ok (.aload_n 0, 1) := dcX8_write_1.2.2.1
theorem dX8_write_19 : decode cX8_write 19 = .ok (.getfield 9, 3) := dcX8_write_1.2.2.2.1
theorem dX8_write_22 : decode cX8_write 22 = .ok (.iconst 1, 1) := dcX8_write_1.2.2.2.2.1
theorem dX8_write_23 : decode cX8_write 23 = .ok (.if_icmp .ne 14, 3) := dcX8_write_1.2.2.2.2.2.1
theorem dX8_write_26 : decode cX8_write 26 = .ok (.aload_n 0, 1) := dcX8_write_1.2.2.2.2.2.2.1
theorem dX8_write_27 : decode cX8_write 27 = .ok (.getfield 18, 3) := dcX8_write_1.2.2.2.2.2.2.2
theorem dcX8_write_2 : (decode cX8_write 30 = .ok (.iload_n 1, 1)) ∧ (decode cX8_write 31 = .ok (.iload_n 2, 1)) ∧ (decode cX8_write 32 = .ok (.i2s, 1)) ∧ (decode cX8_write 33 = .ok (.iastore, 1)) ∧ (decode cX8_write 34 = .ok (.goto 10, 3)) ∧ (decode cX8_write 37 = .ok (.aload_n 0, 1)) ∧ (decode cX8_write 38 = .ok (.getfield 18, 3)) ∧ (decode cX8_write 41 = .ok (.iload_n 1, 1)) := by decide +kernel
theorem dX8_write_30 : decode cX8_write 30 = .ok (.iload_n 1, 1) := dcX8_write_2.1
theorem dX8_write_31 : decode cX8_write 31 = .ok (.iload_n 2, 1) := dcX8_write_2.2.1
theorem dX8_write_32 : decode cX8_write 32 = .ok (.i2s, 1) := dcX8_write_2.2.2.1
theorem dX8_write_33 : decode cX8_write 33 = .ok (.iastore, 1) := dcX8_write_2.2.2.2.1
theorem dX8_write_34 : decode cX8_write 34 = .ok (.goto 10, 3) := dcX8_write_2.2.2.2.2.1
theorem dX8_write_37 : decode cX8_write 37 = .ok (.aload_n 0, 1) := dcX8_write_2.2.2.2.2.2.1
theorem dX8_write_38 : decode cX8_write 38 = .ok (.getfield 18, 3) := dcX8_write_2.2.2.2.2.2.2.1
theorem dX8_write_41 : decode cX8_write 41 = .ok (.iload_n 1, 1) := dcX8_write_2.2.2.2.2.2.2.2
theorem dcX8_write_3 : (decode cX8_write 42 = .ok (.iload_n 2, 1)) ∧ (decode cX8_write 43 = .ok (.iastore, 1)) ∧ (decode cX8_write 44 = .ok (.return_, 1)) := by decide +kernel
theorem dX8_write_42 : decode cX8_write 42 = .ok (.iload_n 2, 1) := dcX8_write_3.1
theorem dX8_write_43 : decode cX8_write 43 = .ok (.iastore, 1) := dcX8_write_3.2.1
theorem dX8_write_44 : decode cX8_write 44 = .ok (.return_, 1) := dcX8_write_3.2.2
theorem dcX8_holds_0 : (decode cX8_holds 0 = .ok (.iload_n 1, 1)) ∧ (decode cX8_holds 1 = .ok (.ifCond .lt 29, 3)) ∧ (decode cX8_holds 4 = .ok (.iload_n 2, 1)) ∧ (decode cX8_holds 5 = .ok (.ifCond .lt 25, 3)) ∧ (decode cX8_holds 8 = .ok (.iload_n 1, 1)) ∧ (decode cX8_holds 9 = .ok (.aload_n 0, 1)) ∧ (decode cX8_holds 10 = .ok (.getfield 15, 3)) ∧ (decode cX8_holds 13 = .ok (.if_icmp .gt 17, 3)) := by decide +kernel
theorem dX8_holds_0 : decode cX8_holds 0 = .ok (.iload_n 1, 1) := dcX8_holds_0.1
theorem dX8_holds_1 : decode cX8_holds 1 = .ok (.ifCond .lt 29, 3) := dcX8_holds_0.2.1
theorem dX8_holds_4 : decode cX8_holds 4 = .ok (.iload_n 2, 1) := dcX8_holds_0.2.2.1
theorem dX8_holds_5 : decode cX8_holds 5 = .ok (.ifCond .lt 25, 3) := dcX8_holds_0.2.2.2.1
theorem dX8_holds_8 : decode cX8_holds 8 = .ok (.iload_n 1, 1) := dcX8_holds_0.2.2.2.2.1
theorem dX8_holds_9 : decode cX8_holds 9 = .ok (.aload_n 0, 1) := dcX8_holds_0.2.2.2.2.2.1
theorem dX8_holds_10 : decode cX8_holds 10 = .ok (.getfield 15, 3) := dcX8_holds_0.2.2.2.2.2.2.1
theorem dX8_holds_13 : decode cX8_holds 13 = .ok (.if_icmp .gt 17, 3) := dcX8_holds_0.2.2.2.2.2.2.2
theorem dcX8_holds_1 : (decode cX8_holds 16 = .ok (.iload_n 2, 1)) ∧ (decode cX8_holds 17 = .ok (.aload_n 0, 1)) ∧ (decode cX8_holds 18 = .ok (.getfield 15, 3)) ∧ (decode cX8_holds 21 = .ok (.iload_n 1, 1)) ∧ (decode cX8_holds 22 = .ok (.isub, 1)) ∧ (decode cX8_holds 23 = .ok (.if_icmp .gt 7, 3)) ∧ (decode cX8_holds 26 = .ok (.iconst 1, 1)) ∧ (decode cX8_holds 27 = .ok (.goto 4, 3)) := by decide +kernel
theorem dX8_holds_16 : decode cX8_holds 16 = .ok (.iload_n 2, 1) := dcX8_holds_1.1
theorem dX8_holds_17 : decode cX8_holds 17 = .ok (.aload_n 0, 1) := dcX8_holds_1.2.1
theorem dX8_holds_18 : decode cX8_holds 18 = .ok (.getfield 15, 3) := dcX8_holds_1.2.2.1
theorem dX8_holds_21 : decode cX8_holds 21 = .ok (.iload_n 1, 1) := dcX8_holds_1.2.2.2.1
theorem dX8_holds_22 : decode cX8_holds 22 = .ok (.isub, 1) := dcX8_holds_1.2.2.2.2.1
theorem dX8_holds_23 : decode cX8_holds 23 = .ok (.if_icmp .gt 7, 3) := dcX8_holds_1.2.2.2.2.2.1
theorem dX8_holds_26 : decode cX8_holds 26 = .ok (.iconst 1, 1) := dcX8_holds_1.2.2.2.2.2.2.1
theorem dX8_holds_27 : decode cX8_holds 27 = .ok (.goto 4, 3) := dcX8_holds_1.2.2.2.2.2.2.2
theorem dcX8_holds_2 : (decode cX8_holds 30 = .ok (.iconst 0, 1)) ∧ (decode cX8_holds 31 = .ok (.ireturn, 1)) := by decide +kernel
theorem dX8_holds_30 : decode cX8_holds 30 = .ok (.iconst 0, 1) := dcX8_holds_2.1
theorem dX8_holds_31 : decode cX8_holds 31 = .ok (.ireturn, 1) := dcX8_holds_2.2
theorem dcX8_anyBits_0 : (decode cX8_anyBits 0 = .ok (.iconst 0, 1)) ∧ (decode cX8_anyBits 1 = .ok (.istore_n 1, 1)) ∧ (decode cX8_anyBits 2 = .ok (.iconst 0, 1)) ∧ (decode cX8_anyBits 3 = .ok (.istore_n 2, 1)) ∧ (decode cX8_anyBits 4 = .ok (.iload_n 2, 1)) ∧ (decode cX8_anyBits 5 = .ok (.aload_n 0, 1)) ∧ (decode cX8_anyBits 6 = .ok (.getfield 15, 3)) ∧ (decode cX8_anyBits 9 = .ok (.if_icmp .ge 18, 3)) := by decide +kernel
theorem dX8_anyBits_0 : decode cX8_anyBits 0 = .ok (.iconst 0, 1) := dcX8_anyBits_0.1
theorem dX8_anyBits_1 : decode cX8_anyBits 1 = .ok (.istore_n 1, 1) := dcX8_anyBits_0.2.1
theorem dX8_anyBits_2 : decode cX8_anyBits 2 = .ok (.iconst 0, 1) := dcX8_anyBits_0.2.2.1
theorem dX8_anyBits_3 : decode cX8_anyBits 3 = .ok (.istore_n 2, 1) := dcX8_anyBits_0.2.2.2.1
theorem dX8_anyBits_4 : decode cX8_anyBits 4 = .ok (.iload_n 2, 1) := dcX8_anyBits_0.2.2.2.2.1
theorem dX8_anyBits_5 : decode cX8_anyBits 5 = .ok (.aload_n 0, 1) := dcX8_anyBits_0.2.2.2.2.2.1
theorem dX8_anyBits_6 : decode cX8_anyBits 6 = .ok (.getfield 15, 3) := dcX8_anyBits_0.2.2.2.2.2.2.1
theorem dX8_anyBits_9 : decode cX8_anyBits 9 = .ok (.if_icmp .ge 18, 3) := dcX8_anyBits_0.2.2.2.2.2.2.2
theorem dcX8_anyBits_1 : (decode cX8_anyBits 12 = .ok (.iload_n 1, 1)) ∧ (decode cX8_anyBits 13 = .ok (.aload_n 0, 1)) ∧ (decode cX8_anyBits 14 = .ok (.getfield 18, 3)) ∧ (decode cX8_anyBits 17 = .ok (.iload_n 2, 1)) ∧ (decode cX8_anyBits 18 = .ok (.iaload, 1)) ∧ (decode cX8_anyBits 19 = .ok (.ior, 1)) ∧ (decode cX8_anyBits 20 = .ok (.istore_n 1, 1)) ∧ (decode cX8_anyBits 21 = .ok (.iinc 2 1, 3)) := by decide +kernel
theorem dX8_anyBits_12 : decode cX8_anyBits 12 = .ok (.iload_n 1, 1) := dcX8_anyBits_1.1
theorem dX8_anyBits_13 : decode cX8_anyBits 13 = .ok (.aload_n 0, 1) := dcX8_anyBits_1.2.1
theorem dX8_anyBits_14 : decode cX8_anyBits 14 = .ok (.getfield 18, 3) := dcX8_anyBits_1.2.2.1
theorem dX8_anyBits_17 : decode cX8_anyBits 17 = .ok (.iload_n 2, 1) := dcX8_anyBits_1.2.2.2.1
theorem dX8_anyBits_18 : decode cX8_anyBits 18 = .ok (.iaload, 1) := dcX8_anyBits_1.2.2.2.2.1
theorem dX8_anyBits_19 : decode cX8_anyBits 19 = .ok (.ior, 1) := dcX8_anyBits_1.2.2.2.2.2.1
theorem dX8_anyBits_20 : decode cX8_anyBits 20 = .ok (.istore_n 1, 1) := dcX8_anyBits_1.2.2.2.2.2.2.1
theorem dX8_anyBits_21 : decode cX8_anyBits 21 = .ok (.iinc 2 1, 3) := dcX8_anyBits_1.2.2.2.2.2.2.2
theorem dcX8_anyBits_2 : (decode cX8_anyBits 24 = .ok (.goto (-20), 3)) ∧ (decode cX8_anyBits 27 = .ok (.iload_n 1, 1)) ∧ (decode cX8_anyBits 28 = .ok (.ireturn, 1)) := by decide +kernel
theorem dX8_anyBits_24 : decode cX8_anyBits 24 = .ok (.goto (-20), 3) := dcX8_anyBits_2.1
theorem dX8_anyBits_27 : decode cX8_anyBits 27 = .ok (.iload_n 1, 1) := dcX8_anyBits_2.2.1
theorem dX8_anyBits_28 : decode cX8_anyBits 28 = .ok (.ireturn, 1) := dcX8_anyBits_2.2.2
theorem dcX9_init_0 : (decode cX9_init 0 = .ok (.aload_n 0, 1)) ∧ (decode cX9_init 1 = .ok (.invokespecial 3, 3)) ∧ (decode cX9_init 4 = .ok (.aload_n 0, 1)) ∧ (decode cX9_init 5 = .ok (.iconst 0, 1)) ∧ (decode cX9_init 6 = .ok (.putfield 9, 3)) ∧ (decode cX9_init 9 = .ok (.aload_n 0, 1)) ∧ (decode cX9_init 10 = .ok (.iconst 0, 1)) ∧ (decode cX9_init 11 = .ok (.putfield 15, 3)) := by decide +kernel
theorem dX9_init_0 : decode cX9_init 0 = .ok (.aload_n 0, 1) := dcX9_init_0.1
theorem dX9_init_1 : decode cX9_init 1 = .ok (.invokespecial 3, 3) := dcX9_init_0.2.1
theorem dX9_init_4 : decode cX9_init 4 = .ok (.aload_n 0, 1) := dcX9_init_0.2.2.1
theorem dX9_init_5 : decode cX9_init 5 = .ok (.iconst 0, 1) := dcX9_init_0.2.2.2.1
theorem dX9_init_6 : decode cX9_init 6 = .ok (.putfield 9, 3) := dcX9_init_0.2.2.2.2.1
theorem dX9_init_9 : decode cX9_init 9 = .ok (.aload_n 0, 1) := dcX9_init_0.2.2.2.2.2.1
theorem dX9_init_10 : decode cX9_init 10 = .ok (.iconst 0, 1) := dcX9_init_0.2.2.2.2.2.2.1
theorem dX9_init_11 : decode cX9_init 11 = .ok (.putfield 15, 3) := dcX9_init_0.2.2.2.2.2.2.2
theorem dcX9_init_1 : (decode cX9_init 14 = .ok (.aload_n 0, 1)) ∧ (decode cX9_init 15 = .ok (.sipush 160, 3)) ∧ (decode cX9_init 18 = .ok (.newarray .int, 2)) ∧ (decode cX9_init 20 = .ok (.putfield 18, 3)) ∧ (decode cX9_init 23 = .ok (.aload_n 0, 1)) ∧ (decode cX9_init 24 = .ok (.sipush 160, 3)) ∧ (decode cX9_init 27 = .ok (.newarray .int, 2)) ∧ (decode cX9_init 29 = .ok (.putfield 22, 3)) := by decide +kernel
theorem dX9_init_14 : decode cX9_init 14 = .ok (.aload_n 0, 1) := dcX9_init_1.1
theorem dX9_init_15 : decode cX9_init 15 = .ok (.sipush 160, 3) := dcX9_init_1.2.1
theorem dX9_init_18 : decode cX9_init 18 = .ok (.newarray .int, 2) := dcX9_init_1.2.2.1
theorem dX9_init_20 : decode cX9_init 20 = .ok (.putfield 18, 3) := dcX9_init_1.2.2.2.1
theorem dX9_init_23 : decode cX9_init 23 = .ok (.aload_n 0, 1) := dcX9_init_1.2.2.2.2.1
theorem dX9_init_24 : decode cX9_init 24 = .ok (.sipush 160, 3) := dcX9_init_1.2.2.2.2.2.1
theorem dX9_init_27 : decode cX9_init 27 = .ok (.newarray .int, 2) := dcX9_init_1.2.2.2.2.2.2.1
theorem dX9_init_29 : decode cX9_init 29 = .ok (.putfield 22, 3) := dcX9_init_1.2.2.2.2.2.2.2
theorem dcX9_init_2 : (decode cX9_init 32 = .ok (.aload_n 0, 1)) ∧ (decode cX9_init 33 = .ok (.iconst 3, 1)) ∧ (decode cX9_init 34 = .ok (.newarray .int, 2)) ∧ (decode cX9_init 36 = .ok (.putfield 25, 3)) ∧ (decode cX9_init 39 = .ok (.aload_n 0, 1)) ∧ (decode cX9_init 40 = .ok (.iconst 0, 1)) ∧ (decode cX9_init 41 = .ok (.putfield 28, 3)) ∧ (decode cX9_init 44 = .ok (.aload_n 0, 1)) := by decide +kernel
theorem dX9_init_32 : decode cX9_init 32 = .ok (.aload_n 0, 1) := dcX9_init_2.1
theorem dX9_init_33 : decode cX9_init 33 = .ok (.iconst 3, 1) := dcX9_init_2.2.1
theorem dX9_init_34 : decode cX9_init 34 = .ok (.newarray .int, 2) := dcX9_init_2.2.2.1
theorem dX9_init_36 : decode cX9_init 36 = .ok (.putfield 25, 3) := dcX9_init_2.2.2.2.1
theorem dX9_init_39 : decode cX9_init 39 = .ok (.aload_n 0, 1) := dcX9_init_2.2.2.2.2.1
theorem dX9_init_40 : decode cX9_init 40 = .ok (.iconst 0, 1) := dcX9_init_2.2.2.2.2.2.1
theorem dX9_init_41 : decode cX9_init 41 = .ok (.putfield 28, 3) := dcX9_init_2.2.2.2.2.2.2.1
theorem dX9_init_44 : decode cX9_init 44 = .ok (.aload_n 0, 1) := dcX9_init_2.2.2.2.2.2.2.2
theorem dcX9_init_3 : (decode cX9_init 45 = .ok (.iconst 0, 1)) ∧ (decode cX9_init 46 = .ok (.putfield 31, 3)) ∧ (decode cX9_init 49 = .ok (.aload_n 0, 1)) ∧ (decode cX9_init 50 = .ok (.iconst 0, 1)) ∧ (decode cX9_init 51 = .ok (.putfield 34, 3)) ∧ (decode cX9_init 54 = .ok (.aload_n 0, 1)) ∧ (decode cX9_init 55 = .ok (.iconst 0, 1)) ∧ (decode cX9_init 56 = .ok (.putfield 37, 3)) := by decide +kernel
theorem dX9_init_45 : decode cX9_init 45 = .ok (.iconst 0, 1) := dcX9_init_3.1
theorem dX9_init_46 : decode cX9_init 46 = .ok (.putfield 31, 3) := dcX9_init_3.2.1
theorem dX9_init_49 : decode cX9_init 49 = .ok (.aload_n 0, 1) := dcX9_init_3.2.2.1
theorem dX9_init_50 : decode cX9_init 50 = .ok (.iconst 0, 1) := dcX9_init_3.2.2.2.1
theorem dX9_init_51 : decode cX9_init 51 = .ok (.putfield 34, 3) := dcX9_init_3.2.2.2.2.1
theorem dX9_init_54 : decode cX9_init 54 = .ok (.aload_n 0, 1) := dcX9_init_3.2.2.2.2.2.1
theorem dX9_init_55 : decode cX9_init 55 = .ok (.iconst 0, 1) := dcX9_init_3.2.2.2.2.2.2.1
theorem dX9_init_56 : decode cX9_init 56 = .ok (.putfield 37, 3) := dcX9_init_3.2.2.2.2.2.2.2
theorem dX9_init_59 : decode cX9_init 59 = .ok (.return_, 1) := by decide +kernel
theorem dcX9_add_0 : (decode cX9_add 0 = .ok (.aload_n 0, 1)) ∧ (decode cX9_add 1 = .ok (.getfield 9, 3)) ∧ (decode cX9_add 4 = .ok (.sipush 160, 3)) ∧ (decode cX9_add 7 = .ok (.if_icmp .ge 23, 3)) ∧ (decode cX9_add 10 = .ok (.aload_n 0, 1)) ∧ (decode cX9_add 11 = .ok (.getfield 18, 3)) ∧ (decode cX9_add 14 = .ok (.aload_n 0, 1)) ∧ (decode cX9_add 15 = .ok (.getfield 9, 3)) := by decide +kernel
theorem dX9_add_0 : decode cX9_add 0 = .ok (.aload_n 0, 1) := dcX9_add_0.1
theorem dX9_add_1 : decode cX9_add 1 = .ok (.getfield 9, 3) := dcX9_add_0.2.1
theorem dX9_add_4 : decode cX9_add 4 = .ok (.sipush 160, 3) := dcX9_add_0.2.2.1
theorem dX9_add_7 : decode cX9_add 7 = .ok (.if_icmp .ge 23, 3) := dcX9_add_0.2.2.2.1
theorem dX9_add_10 : decode cX9_add 10 = .ok (.aload_n 0, 1) := dcX9_add_0.2.2.2.2.1
theorem dX9_add_11 : decode cX9_add 11 = .ok (.getfield 18, 3) := dcX9_add_0.2.2.2.2.2.1
theorem dX9_add_14 : decode cX9_add 14 = .ok (.aload_n 0, 1) := dcX9_add_0.2.2.2.2.2.2.1
theorem dX9_add_15 : decode cX9_add 15 = .ok (.getfield 9, 3) := dcX9_add_0.2.2.2.2.2.2.2
theorem dcX9_add_1 : (decode cX9_add 18 = .ok (.iload_n 1, 1)) ∧ (decode cX9_add 19 = .ok (.iastore, 1)) ∧ (decode cX9_add 20 = .ok (.aload_n 0, 1)) ∧ (decode cX9_add 21 = .ok (.dup, 1)) ∧ (decode cX9_add 22 = .ok (.getfield 9, 3)) ∧ (decode cX9_add 25 = .ok (.iconst 1, 1)) ∧ (decode cX9_add 26 = .ok (.iadd, 1)) ∧ (decode cX9_add 27 = .ok (.putfield 9, 3)) := by decide +kernel
theorem dX9_add_18 : decode cX9_add 18 = .ok (.iload_n 1, 1) := dcX9_add_1.1
theorem dX9_add_19 : decode cX9_add 19 = .ok (.iastore, 1) := dcX9_add_1.2.1
theorem dX9_add_20 : decode cX9_add 20 = .ok (.aload_n 0, 1) := dcX9_add_1.2.2.1
theorem dX9_add_21 : decode cX9_add 21 = .ok (.dup, 1) := dcX9_add_1.2.2.2.1
theorem dX9_add_22 : decode cX9_add 22 = .ok (.getfield 9, 3) := dcX9_add_1.2.2.2.2.1
theorem dX9_add_25 : decode cX9_add 25 = .ok (.iconst 1, 1) := dcX9_add_1.2.2.2.2.2.1
theorem dX9_add_26 : decode cX9_add 26 = .ok (.iadd, 1) := dcX9_add_1.2.2.2.2.2.2.1
theorem dX9_add_27 : decode cX9_add 27 = .ok (.putfield 9, 3) := dcX9_add_1.2.2.2.2.2.2.2
theorem dX9_add_30 : decode cX9_add 30 = .ok (.return_, 1) := by decide +kernel
theorem dcX9_readWhole_0 : (decode cX9_readWhole 0 = .ok (.aload_n 0, 1)) ∧ (decode cX9_readWhole 1 = .ok (.iconst 0, 1)) ∧ (decode cX9_readWhole 2 = .ok (.putfield 28, 3)) ∧ (decode cX9_readWhole 5 = .ok (.aload_n 0, 1)) ∧ (decode cX9_readWhole 6 = .ok (.iconst 0, 1)) ∧ (decode cX9_readWhole 7 = .ok (.putfield 31, 3)) ∧ (decode cX9_readWhole 10 = .ok (.aload_n 0, 1)) ∧ (decode cX9_readWhole 11 = .ok (.invokevirtual 40, 3)) := by decide +kernel
theorem dX9_readWhole_0 : decode cX9_readWhole 0 = .ok (.aload_n 0, 1) := dcX9_readWhole_0.1
theorem dX9_readWhole_1 : decode cX9_readWhole 1 = .ok (.iconst 0, 1) := dcX9_readWhole_0.2.1
theorem dX9_readWhole_2 : decode cX9_readWhole 2 = .ok (.putfield 28, 3) := dcX9_readWhole_0.2.2.1
theorem dX9_readWhole_5 : decode cX9_readWhole 5 = .ok (.aload_n 0, 1) := dcX9_readWhole_0.2.2.2.1
theorem dX9_readWhole_6 : decode cX9_readWhole 6 = .ok (.iconst 0, 1) := dcX9_readWhole_0.2.2.2.2.1
theorem dX9_readWhole_7 : decode cX9_readWhole 7 = .ok (.putfield 31, 3) := dcX9_readWhole_0.2.2.2.2.2.1
theorem dX9_readWhole_10 : decode cX9_readWhole 10 = .ok (.aload_n 0, 1) := dcX9_readWhole_0.2.2.2.2.2.2.1
theorem dX9_readWhole_11 : decode cX9_readWhole 11 = .ok (.invokevirtual 40, 3) := dcX9_readWhole_0.2.2.2.2.2.2.2
theorem dcX9_readWhole_1 : (decode cX9_readWhole 14 = .ok (.iconst 0, 1)) ∧ (decode cX9_readWhole 15 = .ok (.istore_n 1, 1)) ∧ (decode cX9_readWhole 16 = .ok (.iload_n 1, 1)) ∧ (decode cX9_readWhole 17 = .ok (.iconst 3, 1)) ∧ (decode cX9_readWhole 18 = .ok (.if_icmp .ge 19, 3)) ∧ (decode cX9_readWhole 21 = .ok (.aload_n 0, 1)) ∧ (decode cX9_readWhole 22 = .ok (.iload_n 1, 1)) ∧ (decode cX9_readWhole 23 = .ok (.invokevirtual 43, 3)) := by decide +kernel
theorem dX9_readWhole_14 : decode cX9_readWhole 14 = .ok (.iconst 0, 1) := dcX9_readWhole_1.1
theorem dX9_readWhole_15 : decode cX9_readWhole 15 = .ok (.istore_n 1, 1) := dcX9_readWhole_1.2.1
theorem dX9_readWhole_16 : decode cX9_readWhole 16 = .ok (.iload_n 1, 1) := dcX9_readWhole_1.2.2.1
theorem dX9_readWhole_17 : decode cX9_readWhole 17 = .ok (.iconst 3, 1) := dcX9_readWhole_1.2.2.2.1
theorem dX9_readWhole_18 : decode cX9_readWhole 18 = .ok (.if_icmp .ge 19, 3) := dcX9_readWhole_1.2.2.2.2.1
theorem dX9_readWhole_21 : decode cX9_readWhole 21 = .ok (.aload_n 0, 1) := dcX9_readWhole_1.2.2.2.2.2.1
theorem dX9_readWhole_22 : decode cX9_readWhole 22 = .ok (.iload_n 1, 1) := dcX9_readWhole_1.2.2.2.2.2.2.1
theorem dX9_readWhole_23 : decode cX9_readWhole 23 = .ok (.invokevirtual 43, 3) := dcX9_readWhole_1.2.2.2.2.2.2.2
theorem dcX9_readWhole_2 : (decode cX9_readWhole 26 = .ok (.ifCond .ne 5, 3)) ∧ (decode cX9_readWhole 29 = .ok (.iconst 0, 1)) ∧ (decode cX9_readWhole 30 = .ok (.ireturn, 1)) ∧ (decode cX9_readWhole 31 = .ok (.iinc 1 1, 3)) ∧ (decode cX9_readWhole 34 = .ok (.goto (-18), 3)) ∧ (decode cX9_readWhole 37 = .ok (.aload_n 0, 1)) ∧ (decode cX9_readWhole 38 = .ok (.getfield 34, 3)) ∧ (decode cX9_readWhole 41 = .ok (.ifCond .ne 7, 3)) := by decide +kernel
theorem dX9_readWhole_26 : decode cX9_readWhole 26 = .ok (.ifCond .ne 5, 3) := dcX9_readWhole_2.1
theorem dX9_readWhole_29 : decode cX9_readWhole 29 = .ok (.iconst 0, 1) := dcX9_readWhole_2.2.1
theorem dX9_readWhole_30 : decode cX9_readWhole 30 = .ok (.ireturn, 1) := dcX9_readWhole_2.2.2.1
theorem dX9_readWhole_31 : decode cX9_readWhole 31 = .ok (.iinc 1 1, 3) := dcX9_readWhole_2.2.2.2.1
theorem dX9_readWhole_34 : decode cX9_readWhole 34 = .ok (.goto (-18), 3) := dcX9_readWhole_2.2.2.2.2.1
theorem dX9_readWhole_37 : decode cX9_readWhole 37 = .ok (.aload_n 0, 1) := dcX9_readWhole_2.2.2.2.2.2.1
theorem dX9_readWhole_38 : decode cX9_readWhole 38 = .ok (.getfield 34, 3) := dcX9_readWhole_2.2.2.2.2.2.2.1
theorem dX9_readWhole_41 : decode cX9_readWhole 41 = .ok (.ifCond .ne 7, 3) := dcX9_readWhole_2.2.2.2.2.2.2.2
theorem dcX9_readWhole_3 : (decode cX9_readWhole 44 = .ok (.iconst 1, 1)) ∧ (decode cX9_readWhole 45 = .ok (.goto 4, 3)) ∧ (decode cX9_readWhole 48 = .ok (.iconst 0, 1)) ∧ (decode cX9_readWhole 49 = .ok (.ireturn, 1)) := by decide +kernel
theorem dX9_readWhole_44 : decode cX9_readWhole 44 = .ok (.iconst 1, 1) := dcX9_readWhole_3.1
theorem dX9_readWhole_45 : decode cX9_readWhole 45 = .ok (.goto 4, 3) := dcX9_readWhole_3.2.1
theorem dX9_readWhole_48 : decode cX9_readWhole 48 = .ok (.iconst 0, 1) := dcX9_readWhole_3.2.2.1
theorem dX9_readWhole_49 : decode cX9_readWhole 49 = .ok (.ireturn, 1) := dcX9_readWhole_3.2.2.2
theorem dcX9_written_0 : (decode cX9_written 0 = .ok (.new 47, 3)) ∧ (decode cX9_written 3 = .ok (.dup, 1)) ∧ (decode cX9_written 4 = .ok (.aload_n 0, 1)) ∧ (decode cX9_written 5 = .ok (.getfield 22, 3)) ∧ (decode cX9_written 8 = .ok (.aload_n 0, 1)) ∧ (decode cX9_written 9 = .ok (.getfield 28, 3)) ∧ (decode cX9_written 12 = .ok (.invokestatic 49, 3)) ∧ (decode cX9_written 15 = .ok (.aload_n 0, 1)) := by decide +kernel
theorem dX9_written_0 : decode cX9_written 0 = .ok (.new 47, 3) := dcX9_written_0.1
theorem dX9_written_3 : decode cX9_written 3 = .ok (.dup, 1) := dcX9_written_0.2.1
theorem dX9_written_4 : decode cX9_written 4 = .ok (.aload_n 0, 1) := dcX9_written_0.2.2.1
theorem dX9_written_5 : decode cX9_written 5 = .ok (.getfield 22, 3) := dcX9_written_0.2.2.2.1
theorem dX9_written_8 : decode cX9_written 8 = .ok (.aload_n 0, 1) := dcX9_written_0.2.2.2.2.1
theorem dX9_written_9 : decode cX9_written 9 = .ok (.getfield 28, 3) := dcX9_written_0.2.2.2.2.2.1
theorem dX9_written_12 : decode cX9_written 12 = .ok (.invokestatic 49, 3) := dcX9_written_0.2.2.2.2.2.2.1
theorem dX9_written_15 : decode cX9_written 15 = .ok (.aload_n 0, 1) := dcX9_written_0.2.2.2.2.2.2.2
theorem dcX9_written_1 : (decode cX9_written 16 = .ok (.getfield 25, 3)) ∧ (decode cX9_written 19 = .ok (.invokevirtual 55, 3)) ∧ (decode cX9_written 22 = .ok (.checkcast 56, 3)) ∧ (decode cX9_written 25 = .ok (.invokespecial 60, 3)) ∧ (decode cX9_written 28 = .ok (.areturn, 1)) := by decide +kernel
theorem dX9_written_16 : decode cX9_written 16 = .ok (.getfield 25, 3) := dcX9_written_1.1
theorem dX9_written_19 : decode cX9_written 19 = .ok (.invokevirtual 55, 3) := dcX9_written_1.2.1
theorem dX9_written_22 : decode cX9_written 22 = .ok (.checkcast 56, 3) := dcX9_written_1.2.2.1
theorem dX9_written_25 : decode cX9_written 25 = .ok (.invokespecial 60, 3) := dcX9_written_1.2.2.2.1
theorem dX9_written_28 : decode cX9_written 28 = .ok (.areturn, 1) := dcX9_written_1.2.2.2.2
theorem dcX9_readPart_0 : (decode cX9_readPart 0 = .ok (.aload_n 0, 1)) ∧ (decode cX9_readPart 1 = .ok (.getfield 34, 3)) ∧ (decode cX9_readPart 4 = .ok (.sipush 256, 3)) ∧ (decode cX9_readPart 7 = .ok (.iload_n 1, 1)) ∧ (decode cX9_readPart 8 = .ok (.iadd, 1)) ∧ (decode cX9_readPart 9 = .ok (.if_icmp .eq 5, 3)) ∧ (decode cX9_readPart 12 = .ok (.iconst 0, 1)) ∧ (decode cX9_readPart 13 = .ok (.ireturn, 1)) := by decide +kernel
theorem dX9_readPart_0 : decode cX9_readPart 0 = .ok (.aload_n 0, 1) := dcX9_readPart_0.1
theorem dX9_readPart_1 : decode cX9_readPart 1 = .ok (.getfield 34, 3) := dcX9_readPart_0.2.1
theorem dX9_readPart_4 : decode cX9_readPart 4 = .ok (.sipush 256, 3) := dcX9_readPart_0.2.2.1
theorem dX9_readPart_7 : decode cX9_readPart 7 = .ok (.iload_n 1, 1) := dcX9_readPart_0.2.2.2.1
theorem dX9_readPart_8 : decode cX9_readPart 8 = .ok (.iadd, 1) := dcX9_readPart_0.2.2.2.2.1
theorem dX9_readPart_9 : decode cX9_readPart 9 = .ok (.if_icmp .eq 5, 3) := dcX9_readPart_0.2.2.2.2.2.1
theorem dX9_readPart_12 : decode cX9_readPart 12 = .ok (.iconst 0, 1) := dcX9_readPart_0.2.2.2.2.2.2.1
theorem dX9_readPart_13 : decode cX9_readPart 13 = .ok (.ireturn, 1) := dcX9_readPart_0.2.2.2.2.2.2.2
theorem dcX9_readPart_1 : (decode cX9_readPart 14 = .ok (.aload_n 0, 1)) ∧ (decode cX9_readPart 15 = .ok (.invokevirtual 40, 3)) ∧ (decode cX9_readPart 18 = .ok (.aload_n 0, 1)) ∧ (decode cX9_readPart 19 = .ok (.iconst 0, 1)) ∧ (decode cX9_readPart 20 = .ok (.invokevirtual 63, 3)) ∧ (decode cX9_readPart 23 = .ok (.ifCond .eq 12, 3)) ∧ (decode cX9_readPart 26 = .ok (.aload_n 0, 1)) ∧ (decode cX9_readPart 27 = .ok (.getfield 34, 3)) := by decide +kernel
theorem dX9_readPart_14 : decode cX9_readPart 14 = .ok (.aload_n 0, 1) := dcX9_readPart_1.1
theorem dX9_readPart_15 : decode cX9_readPart 15 = .ok (.invokevirtual 40, 3) := dcX9_readPart_1.2.1
theorem dX9_readPart_18 : decode cX9_readPart 18 = .ok (.aload_n 0, 1) := dcX9_readPart_1.2.2.1
theorem dX9_readPart_19 : decode cX9_readPart 19 = .ok (.iconst 0, 1) := dcX9_readPart_1.2.2.2.1
theorem dX9_readPart_20 : decode cX9_readPart 20 = .ok (.invokevirtual 63, 3) := dcX9_readPart_1.2.2.2.2.1
theorem dX9_readPart_23 : decode cX9_readPart 23 = .ok (.ifCond .eq 12, 3) := dcX9_readPart_1.2.2.2.2.2.1
theorem dX9_readPart_26 : decode cX9_readPart 26 = .ok (.aload_n 0, 1) := dcX9_readPart_1.2.2.2.2.2.2.1
theorem dX9_readPart_27 : decode cX9_readPart 27 = .ok (.getfield 34, 3) := dcX9_readPart_1.2.2.2.2.2.2.2
theorem dcX9_readPart_2 : (decode cX9_readPart 30 = .ok (.bipush 59, 2)) ∧ (decode cX9_readPart 32 = .ok (.if_icmp .eq 5, 3)) ∧ (decode cX9_readPart 35 = .ok (.iconst 0, 1)) ∧ (decode cX9_readPart 36 = .ok (.ireturn, 1)) ∧ (decode cX9_readPart 37 = .ok (.aload_n 0, 1)) ∧ (decode cX9_readPart 38 = .ok (.getfield 25, 3)) ∧ (decode cX9_readPart 41 = .ok (.iload_n 1, 1)) ∧ (decode cX9_readPart 42 = .ok (.aload_n 0, 1)) := by decide +kernel
theorem dX9_readPart_30 : decode cX9_readPart 30 = .ok (.bipush 59, 2) := dcX9_readPart_2.1
theorem dX9_readPart_32 : decode cX9_readPart 32 = .ok (.if_icmp .eq 5, 3) := dcX9_readPart_2.2.1
theorem dX9_readPart_35 : decode cX9_readPart 35 = .ok (.iconst 0, 1) := dcX9_readPart_2.2.2.1
theorem dX9_readPart_36 : decode cX9_readPart 36 = .ok (.ireturn, 1) := dcX9_readPart_2.2.2.2.1
theorem dX9_readPart_37 : decode cX9_readPart 37 = .ok (.aload_n 0, 1) := dcX9_readPart_2.2.2.2.2.1
theorem dX9_readPart_38 : decode cX9_readPart 38 = .ok (.getfield 25, 3) := dcX9_readPart_2.2.2.2.2.2.1
theorem dX9_readPart_41 : decode cX9_readPart 41 = .ok (.iload_n 1, 1) := dcX9_readPart_2.2.2.2.2.2.2.1
theorem dX9_readPart_42 : decode cX9_readPart 42 = .ok (.aload_n 0, 1) := dcX9_readPart_2.2.2.2.2.2.2.2
theorem dcX9_readPart_3 : (decode cX9_readPart 43 = .ok (.getfield 28, 3)) ∧ (decode cX9_readPart 46 = .ok (.iastore, 1)) ∧ (decode cX9_readPart 47 = .ok (.aload_n 0, 1)) ∧ (decode cX9_readPart 48 = .ok (.invokevirtual 40, 3)) ∧ (decode cX9_readPart 51 = .ok (.iconst 1, 1)) ∧ (decode cX9_readPart 52 = .ok (.ireturn, 1)) := by decide +kernel
theorem dX9_readPart_43 : decode cX9_readPart 43 = .ok (.getfield 28, 3) := dcX9_readPart_3.1
theorem dX9_readPart_46 : decode cX9_readPart 46 = .ok (.iastore, 1) := dcX9_readPart_3.2.1
theorem dX9_readPart_47 : decode cX9_readPart 47 = .ok (.aload_n 0, 1) := dcX9_readPart_3.2.2.1
theorem dX9_readPart_48 : decode cX9_readPart 48 = .ok (.invokevirtual 40, 3) := dcX9_readPart_3.2.2.2.1
theorem dX9_readPart_51 : decode cX9_readPart 51 = .ok (.iconst 1, 1) := dcX9_readPart_3.2.2.2.2.1
theorem dX9_readPart_52 : decode cX9_readPart 52 = .ok (.ireturn, 1) := dcX9_readPart_3.2.2.2.2.2
theorem dcX9_readEither_0 : (decode cX9_readEither 0 = .ok (.aload_n 0, 1)) ∧ (decode cX9_readEither 1 = .ok (.iload_n 1, 1)) ∧ (decode cX9_readEither 2 = .ok (.invokevirtual 66, 3)) ∧ (decode cX9_readEither 5 = .ok (.istore_n 2, 1)) ∧ (decode cX9_readEither 6 = .ok (.iconst 0, 1)) ∧ (decode cX9_readEither 7 = .ok (.istore_n 3, 1)) ∧ (decode cX9_readEither 8 = .ok (.iload_n 3, 1)) ∧ (decode cX9_readEither 9 = .ok (.sipush 160, 3)) := by decide +kernel
theorem dX9_readEither_0 : decode cX9_readEither 0 = .ok (.aload_n 0, 1) := dcX9_readEither_0.1
theorem dX9_readEither_1 : decode cX9_readEither 1 = .ok (.iload_n 1, 1) := dcX9_readEither_0.2.1
theorem dX9_readEither_2 : decode cX9_readEither 2 = .ok (.invokevirtual 66, 3) := dcX9_readEither_0.2.2.1
theorem dX9_readEither_5 : decode cX9_readEither 5 = .ok (.istore_n 2, 1) := dcX9_readEither_0.2.2.2.1
theorem dX9_readEither_6 : decode cX9_readEither 6 = .ok (.iconst 0, 1) := dcX9_readEither_0.2.2.2.2.1
theorem dX9_readEither_7 : decode cX9_readEither 7 = .ok (.istore_n 3, 1) := dcX9_readEither_0.2.2.2.2.2.1
theorem dX9_readEither_8 : decode cX9_readEither 8 = .ok (.iload_n 3, 1) := dcX9_readEither_0.2.2.2.2.2.2.1
theorem dX9_readEither_9 : decode cX9_readEither 9 = .ok (.sipush 160, 3) := dcX9_readEither_0.2.2.2.2.2.2.2
theorem dcX9_readEither_1 : (decode cX9_readEither 12 = .ok (.if_icmp .ge 40, 3)) ∧ (decode cX9_readEither 15 = .ok (.iload_n 2, 1)) ∧ (decode cX9_readEither 16 = .ok (.ifCond .eq 36, 3)) ∧ (decode cX9_readEither 19 = .ok (.aload_n 0, 1)) ∧ (decode cX9_readEither 20 = .ok (.getfield 34, 3)) ∧ (decode cX9_readEither 23 = .ok (.sipush 259, 3)) ∧ (decode cX9_readEither 26 = .ok (.if_icmp .ne 26, 3)) ∧ (decode cX9_readEither 29 = .ok (.aload_n 0, 1)) := by decide +kernel
theorem dX9_readEither_12 : decode cX9_readEither 12 = .ok (.if_icmp .ge 40, 3) := dcX9_readEither_1.1
theorem dX9_readEither_15 : decode cX9_readEither 15 = .ok (.iload_n 2, 1) := dcX9_readEither_1.2.1
theorem dX9_readEither_16 : decode cX9_readEither 16 = .ok (.ifCond .eq 36, 3) := dcX9_readEither_1.2.2.1
theorem dX9_readEither_19 : decode cX9_readEither 19 = .ok (.aload_n 0, 1) := dcX9_readEither_1.2.2.2.1
theorem dX9_readEither_20 : decode cX9_readEither 20 = .ok (.getfield 34, 3) := dcX9_readEither_1.2.2.2.2.1
theorem dX9_readEither_23 : decode cX9_readEither 23 = .ok (.sipush 259, 3) := dcX9_readEither_1.2.2.2.2.2.1
theorem dX9_readEither_26 : decode cX9_readEither 26 = .ok (.if_icmp .ne 26, 3) := dcX9_readEither_1.2.2.2.2.2.2.1
theorem dX9_readEither_29 : decode cX9_readEither 29 = .ok (.aload_n 0, 1) := dcX9_readEither_1.2.2.2.2.2.2.2
theorem dcX9_readEither_2 : (decode cX9_readEither 30 = .ok (.invokevirtual 40, 3)) ∧ (decode cX9_readEither 33 = .ok (.aload_n 0, 1)) ∧ (decode cX9_readEither 34 = .ok (.iload_n 1, 1)) ∧ (decode cX9_readEither 35 = .ok (.invokevirtual 66, 3)) ∧ (decode cX9_readEither 38 = .ok (.istore_n 2, 1)) ∧ (decode cX9_readEither 39 = .ok (.aload_n 0, 1)) ∧ (decode cX9_readEither 40 = .ok (.sipush (-259), 3)) ∧ (decode cX9_readEither 43 = .ok (.invokevirtual 69, 3)) := by decide +kernel
theorem dX9_readEither_30 : decode cX9_readEither 30 = .ok (.invokevirtual 40, 3) := dcX9_readEither_2.1
theorem dX9_readEither_33 : decode cX9_readEither 33 = .ok (.aload_n 0, 1) := dcX9_readEither_2.2.1
theorem dX9_readEither_34 : decode cX9_readEither 34 = .ok (.iload_n 1, 1) := dcX9_readEither_2.2.2.1
theorem dX9_readEither_35 : decode cX9_readEither 35 = .ok (.invokevirtual 66, 3) := dcX9_readEither_2.2.2.2.1
theorem dX9_readEither_38 : decode cX9_readEither 38 = .ok (.istore_n 2, 1) := dcX9_readEither_2.2.2.2.2.1
theorem dX9_readEither_39 : decode cX9_readEither 39 = .ok (.aload_n 0, 1) := dcX9_readEither_2.2.2.2.2.2.1
theorem dX9_readEither_40 : decode cX9_readEither 40 = .ok (.sipush (-259), 3) := dcX9_readEither_2.2.2.2.2.2.2.1
theorem dX9_readEither_43 : decode cX9_readEither 43 = .ok (.invokevirtual 69, 3) := dcX9_readEither_2.2.2.2.2.2.2.2
theorem dcX9_readEither_3 : (decode cX9_readEither 46 = .ok (.iinc 3 1, 3)) ∧ (decode cX9_readEither 49 = .ok (.goto (-41), 3)) ∧ (decode cX9_readEither 52 = .ok (.iload_n 2, 1)) ∧ (decode cX9_readEither 53 = .ok (.ireturn, 1)) := by decide +kernel
theorem dX9_readEither_46 : decode cX9_readEither 46 = .ok (.iinc 3 1, 3) := dcX9_readEither_3.1
theorem dX9_readEither_49 : decode cX9_readEither 49 = .ok (.goto (-41), 3) := dcX9_readEither_3.2.1
theorem dX9_readEither_52 : decode cX9_readEither 52 = .ok (.iload_n 2, 1) := dcX9_readEither_3.2.2.1
theorem dX9_readEither_53 : decode cX9_readEither 53 = .ok (.ireturn, 1) := dcX9_readEither_3.2.2.2
theorem dcX9_readBoth_0 : (decode cX9_readBoth 0 = .ok (.aload_n 0, 1)) ∧ (decode cX9_readBoth 1 = .ok (.iload_n 1, 1)) ∧ (decode cX9_readBoth 2 = .ok (.invokevirtual 73, 3)) ∧ (decode cX9_readBoth 5 = .ok (.istore_n 2, 1)) ∧ (decode cX9_readBoth 6 = .ok (.iconst 0, 1)) ∧ (decode cX9_readBoth 7 = .ok (.istore_n 3, 1)) ∧ (decode cX9_readBoth 8 = .ok (.iload_n 3, 1)) ∧ (decode cX9_readBoth 9 = .ok (.sipush 160, 3)) := by decide +kernel
theorem dX9_readBoth_0 : decode cX9_readBoth 0 = .ok (.aload_n 0, 1) := dcX9_readBoth_0.1
theorem dX9_readBoth_1 : decode cX9_readBoth 1 = .ok (.iload_n 1, 1) := dcX9_readBoth_0.2.1
theorem dX9_readBoth_2 : decode cX9_readBoth 2 = .ok (.invokevirtual 73, 3) := dcX9_readBoth_0.2.2.1
theorem dX9_readBoth_5 : decode cX9_readBoth 5 = .ok (.istore_n 2, 1) := dcX9_readBoth_0.2.2.2.1
theorem dX9_readBoth_6 : decode cX9_readBoth 6 = .ok (.iconst 0, 1) := dcX9_readBoth_0.2.2.2.2.1
theorem dX9_readBoth_7 : decode cX9_readBoth 7 = .ok (.istore_n 3, 1) := dcX9_readBoth_0.2.2.2.2.2.1
theorem dX9_readBoth_8 : decode cX9_readBoth 8 = .ok (.iload_n 3, 1) := dcX9_readBoth_0.2.2.2.2.2.2.1
theorem dX9_readBoth_9 : decode cX9_readBoth 9 = .ok (.sipush 160, 3) := dcX9_readBoth_0.2.2.2.2.2.2.2
theorem dcX9_readBoth_1 : (decode cX9_readBoth 12 = .ok (.if_icmp .ge 40, 3)) ∧ (decode cX9_readBoth 15 = .ok (.iload_n 2, 1)) ∧ (decode cX9_readBoth 16 = .ok (.ifCond .eq 36, 3)) ∧ (decode cX9_readBoth 19 = .ok (.aload_n 0, 1)) ∧ (decode cX9_readBoth 20 = .ok (.getfield 34, 3)) ∧ (decode cX9_readBoth 23 = .ok (.sipush 260, 3)) ∧ (decode cX9_readBoth 26 = .ok (.if_icmp .ne 26, 3)) ∧ (decode cX9_readBoth 29 = .ok (.aload_n 0, 1)) := by decide +kernel
theorem dX9_readBoth_12 : decode cX9_readBoth 12 = .ok (.if_icmp .ge 40, 3) := dcX9_readBoth_1.1
theorem dX9_readBoth_15 : decode cX9_readBoth 15 = .ok (.iload_n 2, 1) := dcX9_readBoth_1.2.1
theorem dX9_readBoth_16 : decode cX9_readBoth 16 = .ok (.ifCond .eq 36, 3) := dcX9_readBoth_1.2.2.1
theorem dX9_readBoth_19 : decode cX9_readBoth 19 = .ok (.aload_n 0, 1) := dcX9_readBoth_1.2.2.2.1
theorem dX9_readBoth_20 : decode cX9_readBoth 20 = .ok (.getfield 34, 3) := dcX9_readBoth_1.2.2.2.2.1
theorem dX9_readBoth_23 : decode cX9_readBoth 23 = .ok (.sipush 260, 3) := dcX9_readBoth_1.2.2.2.2.2.1
theorem dX9_readBoth_26 : decode cX9_readBoth 26 = .ok (.if_icmp .ne 26, 3) := dcX9_readBoth_1.2.2.2.2.2.2.1
theorem dX9_readBoth_29 : decode cX9_readBoth 29 = .ok (.aload_n 0, 1) := dcX9_readBoth_1.2.2.2.2.2.2.2
theorem dcX9_readBoth_2 : (decode cX9_readBoth 30 = .ok (.invokevirtual 40, 3)) ∧ (decode cX9_readBoth 33 = .ok (.aload_n 0, 1)) ∧ (decode cX9_readBoth 34 = .ok (.iload_n 1, 1)) ∧ (decode cX9_readBoth 35 = .ok (.invokevirtual 73, 3)) ∧ (decode cX9_readBoth 38 = .ok (.istore_n 2, 1)) ∧ (decode cX9_readBoth 39 = .ok (.aload_n 0, 1)) ∧ (decode cX9_readBoth 40 = .ok (.sipush (-260), 3)) ∧ (decode cX9_readBoth 43 = .ok (.invokevirtual 69, 3)) := by decide +kernel
theorem dX9_readBoth_30 : decode cX9_readBoth 30 = .ok (.invokevirtual 40, 3) := dcX9_readBoth_2.1
theorem dX9_readBoth_33 : decode cX9_readBoth 33 = .ok (.aload_n 0, 1) := dcX9_readBoth_2.2.1
theorem dX9_readBoth_34 : decode cX9_readBoth 34 = .ok (.iload_n 1, 1) := dcX9_readBoth_2.2.2.1
theorem dX9_readBoth_35 : decode cX9_readBoth 35 = .ok (.invokevirtual 73, 3) := dcX9_readBoth_2.2.2.2.1
theorem dX9_readBoth_38 : decode cX9_readBoth 38 = .ok (.istore_n 2, 1) := dcX9_readBoth_2.2.2.2.2.1
theorem dX9_readBoth_39 : decode cX9_readBoth 39 = .ok (.aload_n 0, 1) := dcX9_readBoth_2.2.2.2.2.2.1
theorem dX9_readBoth_40 : decode cX9_readBoth 40 = .ok (.sipush (-260), 3) := dcX9_readBoth_2.2.2.2.2.2.2.1
theorem dX9_readBoth_43 : decode cX9_readBoth 43 = .ok (.invokevirtual 69, 3) := dcX9_readBoth_2.2.2.2.2.2.2.2
theorem dcX9_readBoth_3 : (decode cX9_readBoth 46 = .ok (.iinc 3 1, 3)) ∧ (decode cX9_readBoth 49 = .ok (.goto (-41), 3)) ∧ (decode cX9_readBoth 52 = .ok (.iload_n 2, 1)) ∧ (decode cX9_readBoth 53 = .ok (.ireturn, 1)) := by decide +kernel
theorem dX9_readBoth_46 : decode cX9_readBoth 46 = .ok (.iinc 3 1, 3) := dcX9_readBoth_3.1
theorem dX9_readBoth_49 : decode cX9_readBoth 49 = .ok (.goto (-41), 3) := dcX9_readBoth_3.2.1
theorem dX9_readBoth_52 : decode cX9_readBoth 52 = .ok (.iload_n 2, 1) := dcX9_readBoth_3.2.2.1
theorem dX9_readBoth_53 : decode cX9_readBoth 53 = .ok (.ireturn, 1) := dcX9_readBoth_3.2.2.2
theorem dcX9_readNot_0 : (decode cX9_readNot 0 = .ok (.aload_n 0, 1)) ∧ (decode cX9_readNot 1 = .ok (.getfield 34, 3)) ∧ (decode cX9_readNot 4 = .ok (.sipush 261, 3)) ∧ (decode cX9_readNot 7 = .ok (.if_icmp .ne 31, 3)) ∧ (decode cX9_readNot 10 = .ok (.iload_n 1, 1)) ∧ (decode cX9_readNot 11 = .ok (.iconst 5, 1)) ∧ (decode cX9_readNot 12 = .ok (.if_icmp .lt 5, 3)) ∧ (decode cX9_readNot 15 = .ok (.iconst 0, 1)) := by decide +kernel
theorem dX9_readNot_0 : decode cX9_readNot 0 = .ok (.aload_n 0, 1) := dcX9_readNot_0.1
theorem dX9_readNot_1 : decode cX9_readNot 1 = .ok (.getfield 34, 3) := dcX9_readNot_0.2.1
theorem dX9_readNot_4 : decode cX9_readNot 4 = .ok (.sipush 261, 3) := dcX9_readNot_0.2.2.1
theorem dX9_readNot_7 : decode cX9_readNot 7 = .ok (.if_icmp .ne 31, 3) := dcX9_readNot_0.2.2.2.1
theorem dX9_readNot_10 : decode cX9_readNot 10 = .ok (.iload_n 1, 1) := dcX9_readNot_0.2.2.2.2.1
theorem dX9_readNot_11 : decode cX9_readNot 11 = .ok (.iconst 5, 1) := dcX9_readNot_0.2.2.2.2.2.1
theorem dX9_readNot_12 : decode cX9_readNot 12 = .ok (.if_icmp .lt 5, 3) := dcX9_readNot_0.2.2.2.2.2.2.1
theorem dX9_readNot_15 : decode cX9_readNot 15 = .ok (.iconst 0, 1) := dcX9_readNot_0.2.2.2.2.2.2.2
theorem dcX9_readNot_1 : (decode cX9_readNot 16 = .ok (.ireturn, 1)) ∧ (decode cX9_readNot 17 = .ok (.aload_n 0, 1)) ∧ (decode cX9_readNot 18 = .ok (.invokevirtual 40, 3)) ∧ (decode cX9_readNot 21 = .ok (.aload_n 0, 1)) ∧ (decode cX9_readNot 22 = .ok (.iload_n 1, 1)) ∧ (decode cX9_readNot 23 = .ok (.iconst 1, 1)) ∧ (decode cX9_readNot 24 = .ok (.iadd, 1)) ∧ (decode cX9_readNot 25 = .ok (.invokevirtual 73, 3)) := by decide +kernel
theorem dX9_readNot_16 : decode cX9_readNot 16 = .ok (.ireturn, 1) := dcX9_readNot_1.1
theorem dX9_readNot_17 : decode cX9_readNot 17 = .ok (.aload_n 0, 1) := dcX9_readNot_1.2.1
theorem dX9_readNot_18 : decode cX9_readNot 18 = .ok (.invokevirtual 40, 3) := dcX9_readNot_1.2.2.1
theorem dX9_readNot_21 : decode cX9_readNot 21 = .ok (.aload_n 0, 1) := dcX9_readNot_1.2.2.2.1
theorem dX9_readNot_22 : decode cX9_readNot 22 = .ok (.iload_n 1, 1) := dcX9_readNot_1.2.2.2.2.1
theorem dX9_readNot_23 : decode cX9_readNot 23 = .ok (.iconst 1, 1) := dcX9_readNot_1.2.2.2.2.2.1
theorem dX9_readNot_24 : decode cX9_readNot 24 = .ok (.iadd, 1) := dcX9_readNot_1.2.2.2.2.2.2.1
theorem dX9_readNot_25 : decode cX9_readNot 25 = .ok (.invokevirtual 73, 3) := dcX9_readNot_1.2.2.2.2.2.2.2
theorem dcX9_readNot_2 : (decode cX9_readNot 28 = .ok (.istore_n 2, 1)) ∧ (decode cX9_readNot 29 = .ok (.aload_n 0, 1)) ∧ (decode cX9_readNot 30 = .ok (.sipush (-261), 3)) ∧ (decode cX9_readNot 33 = .ok (.invokevirtual 69, 3)) ∧ (decode cX9_readNot 36 = .ok (.iload_n 2, 1)) ∧ (decode cX9_readNot 37 = .ok (.ireturn, 1)) ∧ (decode cX9_readNot 38 = .ok (.aload_n 0, 1)) ∧ (decode cX9_readNot 39 = .ok (.iload_n 1, 1)) := by decide +kernel
theorem dX9_readNot_28 : decode cX9_readNot 28 = .ok (.istore_n 2, 1) := dcX9_readNot_2.1
theorem dX9_readNot_29 : decode cX9_readNot 29 = .ok (.aload_n 0, 1) := dcX9_readNot_2.2.1
theorem dX9_readNot_30 : decode cX9_readNot 30 = .ok (.sipush (-261), 3) := dcX9_readNot_2.2.2.1
theorem dX9_readNot_33 : decode cX9_readNot 33 = .ok (.invokevirtual 69, 3) := dcX9_readNot_2.2.2.2.1
theorem dX9_readNot_36 : decode cX9_readNot 36 = .ok (.iload_n 2, 1) := dcX9_readNot_2.2.2.2.2.1
theorem dX9_readNot_37 : decode cX9_readNot 37 = .ok (.ireturn, 1) := dcX9_readNot_2.2.2.2.2.2.1
theorem dX9_readNot_38 : decode cX9_readNot 38 = .ok (.aload_n 0, 1) := dcX9_readNot_2.2.2.2.2.2.2.1
theorem dX9_readNot_39 : decode cX9_readNot 39 = .ok (.iload_n 1, 1) := dcX9_readNot_2.2.2.2.2.2.2.2
theorem dcX9_readNot_3 : (decode cX9_readNot 40 = .ok (.invokevirtual 76, 3)) ∧ (decode cX9_readNot 43 = .ok (.istore_n 2, 1)) ∧ (decode cX9_readNot 44 = .ok (.iload_n 2, 1)) ∧ (decode cX9_readNot 45 = .ok (.ifCond .eq 42, 3)) ∧ (decode cX9_readNot 48 = .ok (.aload_n 0, 1)) ∧ (decode cX9_readNot 49 = .ok (.getfield 34, 3)) ∧ (decode cX9_readNot 52 = .ok (.bipush 60, 2)) ∧ (decode cX9_readNot 54 = .ok (.if_icmp .eq 12, 3)) := by decide +kernel
theorem dX9_readNot_40 : decode cX9_readNot 40 = .ok (.invokevirtual 76, 3) := dcX9_readNot_3.1
theorem dX9_readNot_43 : decode cX9_readNot 43 = .ok (.istore_n 2, 1) := dcX9_readNot_3.2.1
theorem dX9_readNot_44 : decode cX9_readNot 44 = .ok (.iload_n 2, 1) := dcX9_readNot_3.2.2.1
theorem dX9_readNot_45 : decode cX9_readNot 45 = .ok (.ifCond .eq 42, 3) := dcX9_readNot_3.2.2.2.1
theorem dX9_readNot_48 : decode cX9_readNot 48 = .ok (.aload_n 0, 1) := dcX9_readNot_3.2.2.2.2.1
theorem dX9_readNot_49 : decode cX9_readNot 49 = .ok (.getfield 34, 3) := dcX9_readNot_3.2.2.2.2.2.1
theorem dX9_readNot_52 : decode cX9_readNot 52 = .ok (.bipush 60, 2) := dcX9_readNot_3.2.2.2.2.2.2.1
theorem dX9_readNot_54 : decode cX9_readNot 54 = .ok (.if_icmp .eq 12, 3) := dcX9_readNot_3.2.2.2.2.2.2.2
theorem dcX9_readNot_4 : (decode cX9_readNot 57 = .ok (.aload_n 0, 1)) ∧ (decode cX9_readNot 58 = .ok (.getfield 34, 3)) ∧ (decode cX9_readNot 61 = .ok (.bipush 61, 2)) ∧ (decode cX9_readNot 63 = .ok (.if_icmp .ne 24, 3)) ∧ (decode cX9_readNot 66 = .ok (.aload_n 0, 1)) ∧ (decode cX9_readNot 67 = .ok (.getfield 34, 3)) ∧ (decode cX9_readNot 70 = .ok (.istore_n 3, 1)) ∧ (decode cX9_readNot 71 = .ok (.aload_n 0, 1)) := by decide +kernel
theorem dX9_readNot_57 : decode cX9_readNot 57 = .ok (.aload_n 0, 1) := dcX9_readNot_4.1
theorem dX9_readNot_58 : decode cX9_readNot 58 = .ok (.getfield 34, 3) := dcX9_readNot_4.2.1
theorem dX9_readNot_61 : decode cX9_readNot 61 = .ok (.bipush 61, 2) := dcX9_readNot_4.2.2.1
theorem dX9_readNot_63 : decode cX9_readNot 63 = .ok (.if_icmp .ne 24, 3) := dcX9_readNot_4.2.2.2.1
theorem dX9_readNot_66 : decode cX9_readNot 66 = .ok (.aload_n 0, 1) := dcX9_readNot_4.2.2.2.2.1
theorem dX9_readNot_67 : decode cX9_readNot 67 = .ok (.getfield 34, 3) := dcX9_readNot_4.2.2.2.2.2.1
theorem dX9_readNot_70 : decode cX9_readNot 70 = .ok (.istore_n 3, 1) := dcX9_readNot_4.2.2.2.2.2.2.1
theorem dX9_readNot_71 : decode cX9_readNot 71 = .ok (.aload_n 0, 1) := dcX9_readNot_4.2.2.2.2.2.2.2
theorem dcX9_readNot_5 : (decode cX9_readNot 72 = .ok (.invokevirtual 40, 3)) ∧ (decode cX9_readNot 75 = .ok (.aload_n 0, 1)) ∧ (decode cX9_readNot 76 = .ok (.iload_n 1, 1)) ∧ (decode cX9_readNot 77 = .ok (.invokevirtual 76, 3)) ∧ (decode cX9_readNot 80 = .ok (.istore_n 2, 1)) ∧ (decode cX9_readNot 81 = .ok (.aload_n 0, 1)) ∧ (decode cX9_readNot 82 = .ok (.iload_n 3, 1)) ∧ (decode cX9_readNot 83 = .ok (.ineg, 1)) := by decide +kernel
theorem dX9_readNot_72 : decode cX9_readNot 72 = .ok (.invokevirtual 40, 3) := dcX9_readNot_5.1
theorem dX9_readNot_75 : decode cX9_readNot 75 = .ok (.aload_n 0, 1) := dcX9_readNot_5.2.1
theorem dX9_readNot_76 : decode cX9_readNot 76 = .ok (.iload_n 1, 1) := dcX9_readNot_5.2.2.1
theorem dX9_readNot_77 : decode cX9_readNot 77 = .ok (.invokevirtual 76, 3) := dcX9_readNot_5.2.2.2.1
theorem dX9_readNot_80 : decode cX9_readNot 80 = .ok (.istore_n 2, 1) := dcX9_readNot_5.2.2.2.2.1
theorem dX9_readNot_81 : decode cX9_readNot 81 = .ok (.aload_n 0, 1) := dcX9_readNot_5.2.2.2.2.2.1
theorem dX9_readNot_82 : decode cX9_readNot 82 = .ok (.iload_n 3, 1) := dcX9_readNot_5.2.2.2.2.2.2.1
theorem dX9_readNot_83 : decode cX9_readNot 83 = .ok (.ineg, 1) := dcX9_readNot_5.2.2.2.2.2.2.2
theorem dcX9_readNot_6 : (decode cX9_readNot 84 = .ok (.invokevirtual 69, 3)) ∧ (decode cX9_readNot 87 = .ok (.iload_n 2, 1)) ∧ (decode cX9_readNot 88 = .ok (.ireturn, 1)) := by decide +kernel
theorem dX9_readNot_84 : decode cX9_readNot 84 = .ok (.invokevirtual 69, 3) := dcX9_readNot_6.1
theorem dX9_readNot_87 : decode cX9_readNot 87 = .ok (.iload_n 2, 1) := dcX9_readNot_6.2.1
theorem dX9_readNot_88 : decode cX9_readNot 88 = .ok (.ireturn, 1) := dcX9_readNot_6.2.2
theorem dcX9_readSum_0 : (decode cX9_readSum 0 = .ok (.aload_n 0, 1)) ∧ (decode cX9_readSum 1 = .ok (.iload_n 1, 1)) ∧ (decode cX9_readSum 2 = .ok (.invokevirtual 79, 3)) ∧ (decode cX9_readSum 5 = .ok (.istore_n 2, 1)) ∧ (decode cX9_readSum 6 = .ok (.iconst 0, 1)) ∧ (decode cX9_readSum 7 = .ok (.istore_n 3, 1)) ∧ (decode cX9_readSum 8 = .ok (.iload_n 3, 1)) ∧ (decode cX9_readSum 9 = .ok (.sipush 160, 3)) := by decide +kernel
theorem dX9_readSum_0 : decode cX9_readSum 0 = .ok (.aload_n 0, 1) := dcX9_readSum_0.1
theorem dX9_readSum_1 : decode cX9_readSum 1 = .ok (.iload_n 1, 1) := dcX9_readSum_0.2.1
theorem dX9_readSum_2 : decode cX9_readSum 2 = .ok (.invokevirtual 79, 3) := dcX9_readSum_0.2.2.1
theorem dX9_readSum_5 : decode cX9_readSum 5 = .ok (.istore_n 2, 1) := dcX9_readSum_0.2.2.2.1
theorem dX9_readSum_6 : decode cX9_readSum 6 = .ok (.iconst 0, 1) := dcX9_readSum_0.2.2.2.2.1
theorem dX9_readSum_7 : decode cX9_readSum 7 = .ok (.istore_n 3, 1) := dcX9_readSum_0.2.2.2.2.2.1
theorem dX9_readSum_8 : decode cX9_readSum 8 = .ok (.iload_n 3, 1) := dcX9_readSum_0.2.2.2.2.2.2.1
theorem dX9_readSum_9 : decode cX9_readSum 9 = .ok (.sipush 160, 3) := dcX9_readSum_0.2.2.2.2.2.2.2
theorem dcX9_readSum_1 : (decode cX9_readSum 12 = .ok (.if_icmp .ge 54, 3)) ∧ (decode cX9_readSum 15 = .ok (.iload_n 2, 1)) ∧ (decode cX9_readSum 16 = .ok (.ifCond .eq 50, 3)) ∧ (decode cX9_readSum 19 = .ok (.aload_n 0, 1)) ∧ (decode cX9_readSum 20 = .ok (.getfield 34, 3)) ∧ (decode cX9_readSum 23 = .ok (.bipush 43, 2)) ∧ (decode cX9_readSum 25 = .ok (.if_icmp .eq 12, 3)) ∧ (decode cX9_readSum 28 = .ok (.aload_n 0, 1)) := by decide +kernel
theorem dX9_readSum_12 : decode cX9_readSum 12 = .ok (.if_icmp .ge 54, 3) := dcX9_readSum_1.1
theorem dX9_readSum_15 : decode cX9_readSum 15 = .ok (.iload_n 2, 1) := dcX9_readSum_1.2.1
theorem dX9_readSum_16 : decode cX9_readSum 16 = .ok (.ifCond .eq 50, 3) := dcX9_readSum_1.2.2.1
theorem dX9_readSum_19 : decode cX9_readSum 19 = .ok (.aload_n 0, 1) := dcX9_readSum_1.2.2.2.1
theorem dX9_readSum_20 : decode cX9_readSum 20 = .ok (.getfield 34, 3) := dcX9_readSum_1.2.2.2.2.1
theorem dX9_readSum_23 : decode cX9_readSum 23 = .ok (.bipush 43, 2) := dcX9_readSum_1.2.2.2.2.2.1
theorem dX9_readSum_25 : decode cX9_readSum 25 = .ok (.if_icmp .eq 12, 3) := dcX9_readSum_1.2.2.2.2.2.2.1
theorem dX9_readSum_28 : decode cX9_readSum 28 = .ok (.aload_n 0, 1) := dcX9_readSum_1.2.2.2.2.2.2.2
theorem dcX9_readSum_2 : (decode cX9_readSum 29 = .ok (.getfield 34, 3)) ∧ (decode cX9_readSum 32 = .ok (.bipush 45, 2)) ∧ (decode cX9_readSum 34 = .ok (.if_icmp .ne 32, 3)) ∧ (decode cX9_readSum 37 = .ok (.aload_n 0, 1)) ∧ (decode cX9_readSum 38 = .ok (.getfield 34, 3)) ∧ (decode cX9_readSum 41 = .ok (.istore 4, 2)) ∧ (decode cX9_readSum 43 = .ok (.aload_n 0, 1)) ∧ (decode cX9_readSum 44 = .ok (.invokevirtual 40, 3)) := by decide +kernel
theorem dX9_readSum_29 : decode cX9_readSum 29 = .ok (.getfield 34, 3) := dcX9_readSum_2.1
theorem dX9_readSum_32 : decode cX9_readSum 32 = .ok (.bipush 45, 2) := dcX9_readSum_2.2.1
theorem dX9_readSum_34 : decode cX9_readSum 34 = .ok (.if_icmp .ne 32, 3) := dcX9_readSum_2.2.2.1
theorem dX9_readSum_37 : decode cX9_readSum 37 = .ok (.aload_n 0, 1) := dcX9_readSum_2.2.2.2.1
theorem dX9_readSum_38 : decode cX9_readSum 38 = .ok (.getfield 34, 3) := dcX9_readSum_2.2.2.2.2.1
theorem dX9_readSum_41 : decode cX9_readSum 41 = .ok (.istore 4, 2) := dcX9_readSum_2.2.2.2.2.2.1
theorem dX9_readSum_43 : decode cX9_readSum 43 = .ok (.aload_n 0, 1) := dcX9_readSum_2.2.2.2.2.2.2.1
theorem dX9_readSum_44 : decode cX9_readSum 44 = .ok (.invokevirtual 40, 3) := dcX9_readSum_2.2.2.2.2.2.2.2
theorem dcX9_readSum_3 : (decode cX9_readSum 47 = .ok (.aload_n 0, 1)) ∧ (decode cX9_readSum 48 = .ok (.iload_n 1, 1)) ∧ (decode cX9_readSum 49 = .ok (.invokevirtual 79, 3)) ∧ (decode cX9_readSum 52 = .ok (.istore_n 2, 1)) ∧ (decode cX9_readSum 53 = .ok (.aload_n 0, 1)) ∧ (decode cX9_readSum 54 = .ok (.iload 4, 2)) ∧ (decode cX9_readSum 56 = .ok (.ineg, 1)) ∧ (decode cX9_readSum 57 = .ok (.invokevirtual 69, 3)) := by decide +kernel
theorem dX9_readSum_47 : decode cX9_readSum 47 = .ok (.aload_n 0, 1) := dcX9_readSum_3.1
theorem dX9_readSum_48 : decode cX9_readSum 48 = .ok (.iload_n 1, 1) := dcX9_readSum_3.2.1
theorem dX9_readSum_49 : decode cX9_readSum 49 = .ok (.invokevirtual 79, 3) := dcX9_readSum_3.2.2.1
theorem dX9_readSum_52 : decode cX9_readSum 52 = .ok (.istore_n 2, 1) := dcX9_readSum_3.2.2.2.1
theorem dX9_readSum_53 : decode cX9_readSum 53 = .ok (.aload_n 0, 1) := dcX9_readSum_3.2.2.2.2.1
theorem dX9_readSum_54 : decode cX9_readSum 54 = .ok (.iload 4, 2) := dcX9_readSum_3.2.2.2.2.2.1
theorem dX9_readSum_56 : decode cX9_readSum 56 = .ok (.ineg, 1) := dcX9_readSum_3.2.2.2.2.2.2.1
theorem dX9_readSum_57 : decode cX9_readSum 57 = .ok (.invokevirtual 69, 3) := dcX9_readSum_3.2.2.2.2.2.2.2
theorem dcX9_readSum_4 : (decode cX9_readSum 60 = .ok (.iinc 3 1, 3)) ∧ (decode cX9_readSum 63 = .ok (.goto (-55), 3)) ∧ (decode cX9_readSum 66 = .ok (.iload_n 2, 1)) ∧ (decode cX9_readSum 67 = .ok (.ireturn, 1)) := by decide +kernel
theorem dX9_readSum_60 : decode cX9_readSum 60 = .ok (.iinc 3 1, 3) := dcX9_readSum_4.1
theorem dX9_readSum_63 : decode cX9_readSum 63 = .ok (.goto (-55), 3) := dcX9_readSum_4.2.1
theorem dX9_readSum_66 : decode cX9_readSum 66 = .ok (.iload_n 2, 1) := dcX9_readSum_4.2.2.1
theorem dX9_readSum_67 : decode cX9_readSum 67 = .ok (.ireturn, 1) := dcX9_readSum_4.2.2.2
theorem dcX9_readTerm_0 : (decode cX9_readTerm 0 = .ok (.aload_n 0, 1)) ∧ (decode cX9_readTerm 1 = .ok (.iload_n 1, 1)) ∧ (decode cX9_readTerm 2 = .ok (.invokevirtual 82, 3)) ∧ (decode cX9_readTerm 5 = .ok (.istore_n 2, 1)) ∧ (decode cX9_readTerm 6 = .ok (.iconst 0, 1)) ∧ (decode cX9_readTerm 7 = .ok (.istore_n 3, 1)) ∧ (decode cX9_readTerm 8 = .ok (.iload_n 3, 1)) ∧ (decode cX9_readTerm 9 = .ok (.sipush 160, 3)) := by decide +kernel
theorem dX9_readTerm_0 : decode cX9_readTerm 0 = .ok (.aload_n 0, 1) := dcX9_readTerm_0.1
theorem dX9_readTerm_1 : decode cX9_readTerm 1 = .ok (.iload_n 1, 1) := dcX9_readTerm_0.2.1
theorem dX9_readTerm_2 : decode cX9_readTerm 2 = .ok (.invokevirtual 82, 3) := dcX9_readTerm_0.2.2.1
theorem dX9_readTerm_5 : decode cX9_readTerm 5 = .ok (.istore_n 2, 1) := dcX9_readTerm_0.2.2.2.1
theorem dX9_readTerm_6 : decode cX9_readTerm 6 = .ok (.iconst 0, 1) := dcX9_readTerm_0.2.2.2.2.1
theorem dX9_readTerm_7 : decode cX9_readTerm 7 = .ok (.istore_n 3, 1) := dcX9_readTerm_0.2.2.2.2.2.1
theorem dX9_readTerm_8 : decode cX9_readTerm 8 = .ok (.iload_n 3, 1) := dcX9_readTerm_0.2.2.2.2.2.2.1
theorem dX9_readTerm_9 : decode cX9_readTerm 9 = .ok (.sipush 160, 3) := dcX9_readTerm_0.2.2.2.2.2.2.2
theorem dcX9_readTerm_1 : (decode cX9_readTerm 12 = .ok (.if_icmp .ge 38, 3)) ∧ (decode cX9_readTerm 15 = .ok (.iload_n 2, 1)) ∧ (decode cX9_readTerm 16 = .ok (.ifCond .eq 34, 3)) ∧ (decode cX9_readTerm 19 = .ok (.aload_n 0, 1)) ∧ (decode cX9_readTerm 20 = .ok (.getfield 34, 3)) ∧ (decode cX9_readTerm 23 = .ok (.bipush 42, 2)) ∧ (decode cX9_readTerm 25 = .ok (.if_icmp .ne 25, 3)) ∧ (decode cX9_readTerm 28 = .ok (.aload_n 0, 1)) := by decide +kernel
theorem dX9_readTerm_12 : decode cX9_readTerm 12 = .ok (.if_icmp .ge 38, 3) := dcX9_readTerm_1.1
theorem dX9_readTerm_15 : decode cX9_readTerm 15 = .ok (.iload_n 2, 1) := dcX9_readTerm_1.2.1
theorem dX9_readTerm_16 : decode cX9_readTerm 16 = .ok (.ifCond .eq 34, 3) := dcX9_readTerm_1.2.2.1
theorem dX9_readTerm_19 : decode cX9_readTerm 19 = .ok (.aload_n 0, 1) := dcX9_readTerm_1.2.2.2.1
theorem dX9_readTerm_20 : decode cX9_readTerm 20 = .ok (.getfield 34, 3) := dcX9_readTerm_1.2.2.2.2.1
theorem dX9_readTerm_23 : decode cX9_readTerm 23 = .ok (.bipush 42, 2) := dcX9_readTerm_1.2.2.2.2.2.1
theorem dX9_readTerm_25 : decode cX9_readTerm 25 = .ok (.if_icmp .ne 25, 3) := dcX9_readTerm_1.2.2.2.2.2.2.1
theorem dX9_readTerm_28 : decode cX9_readTerm 28 = .ok (.aload_n 0, 1) := dcX9_readTerm_1.2.2.2.2.2.2.2
theorem dcX9_readTerm_2 : (decode cX9_readTerm 29 = .ok (.invokevirtual 40, 3)) ∧ (decode cX9_readTerm 32 = .ok (.aload_n 0, 1)) ∧ (decode cX9_readTerm 33 = .ok (.iload_n 1, 1)) ∧ (decode cX9_readTerm 34 = .ok (.invokevirtual 82, 3)) ∧ (decode cX9_readTerm 37 = .ok (.istore_n 2, 1)) ∧ (decode cX9_readTerm 38 = .ok (.aload_n 0, 1)) ∧ (decode cX9_readTerm 39 = .ok (.bipush (-42), 2)) ∧ (decode cX9_readTerm 41 = .ok (.invokevirtual 69, 3)) := by decide +kernel
theorem dX9_readTerm_29 : decode cX9_readTerm 29 = .ok (.invokevirtual 40, 3) := dcX9_readTerm_2.1
theorem dX9_readTerm_32 : decode cX9_readTerm 32 = .ok (.aload_n 0, 1) := dcX9_readTerm_2.2.1
theorem dX9_readTerm_33 : decode cX9_readTerm 33 = .ok (.iload_n 1, 1) := dcX9_readTerm_2.2.2.1
theorem dX9_readTerm_34 : decode cX9_readTerm 34 = .ok (.invokevirtual 82, 3) := dcX9_readTerm_2.2.2.2.1
theorem dX9_readTerm_37 : decode cX9_readTerm 37 = .ok (.istore_n 2, 1) := dcX9_readTerm_2.2.2.2.2.1
theorem dX9_readTerm_38 : decode cX9_readTerm 38 = .ok (.aload_n 0, 1) := dcX9_readTerm_2.2.2.2.2.2.1
theorem dX9_readTerm_39 : decode cX9_readTerm 39 = .ok (.bipush (-42), 2) := dcX9_readTerm_2.2.2.2.2.2.2.1
theorem dX9_readTerm_41 : decode cX9_readTerm 41 = .ok (.invokevirtual 69, 3) := dcX9_readTerm_2.2.2.2.2.2.2.2
theorem dcX9_readTerm_3 : (decode cX9_readTerm 44 = .ok (.iinc 3 1, 3)) ∧ (decode cX9_readTerm 47 = .ok (.goto (-39), 3)) ∧ (decode cX9_readTerm 50 = .ok (.iload_n 2, 1)) ∧ (decode cX9_readTerm 51 = .ok (.ireturn, 1)) := by decide +kernel
theorem dX9_readTerm_44 : decode cX9_readTerm 44 = .ok (.iinc 3 1, 3) := dcX9_readTerm_3.1
theorem dX9_readTerm_47 : decode cX9_readTerm 47 = .ok (.goto (-39), 3) := dcX9_readTerm_3.2.1
theorem dX9_readTerm_50 : decode cX9_readTerm 50 = .ok (.iload_n 2, 1) := dcX9_readTerm_3.2.2.1
theorem dX9_readTerm_51 : decode cX9_readTerm 51 = .ok (.ireturn, 1) := dcX9_readTerm_3.2.2.2
theorem dcX9_readOne_0 : (decode cX9_readOne 0 = .ok (.aload_n 0, 1)) ∧ (decode cX9_readOne 1 = .ok (.getfield 34, 3)) ∧ (decode cX9_readOne 4 = .ok (.iconst 1, 1)) ∧ (decode cX9_readOne 5 = .ok (.if_icmp .eq 13, 3)) ∧ (decode cX9_readOne 8 = .ok (.aload_n 0, 1)) ∧ (decode cX9_readOne 9 = .ok (.getfield 34, 3)) ∧ (decode cX9_readOne 12 = .ok (.sipush 262, 3)) ∧ (decode cX9_readOne 15 = .ok (.if_icmp .lt 33, 3)) := by decide +kernel
theorem dX9_readOne_0 : decode cX9_readOne 0 = .ok (.aload_n 0, 1) := dcX9_readOne_0.1
theorem dX9_readOne_1 : decode cX9_readOne 1 = .ok (.getfield 34, 3) := dcX9_readOne_0.2.1
theorem dX9_readOne_4 : decode cX9_readOne 4 = .ok (.iconst 1, 1) := dcX9_readOne_0.2.2.1
theorem dX9_readOne_5 : decode cX9_readOne 5 = .ok (.if_icmp .eq 13, 3) := dcX9_readOne_0.2.2.2.1
theorem dX9_readOne_8 : decode cX9_readOne 8 = .ok (.aload_n 0, 1) := dcX9_readOne_0.2.2.2.2.1
theorem dX9_readOne_9 : decode cX9_readOne 9 = .ok (.getfield 34, 3) := dcX9_readOne_0.2.2.2.2.2.1
theorem dX9_readOne_12 : decode cX9_readOne 12 = .ok (.sipush 262, 3) := dcX9_readOne_0.2.2.2.2.2.2.1
theorem dX9_readOne_15 : decode cX9_readOne 15 = .ok (.if_icmp .lt 33, 3) := dcX9_readOne_0.2.2.2.2.2.2.2
theorem dcX9_readOne_1 : (decode cX9_readOne 18 = .ok (.aload_n 0, 1)) ∧ (decode cX9_readOne 19 = .ok (.aload_n 0, 1)) ∧ (decode cX9_readOne 20 = .ok (.getfield 34, 3)) ∧ (decode cX9_readOne 23 = .ok (.iconst 1, 1)) ∧ (decode cX9_readOne 24 = .ok (.if_icmp .ne 10, 3)) ∧ (decode cX9_readOne 27 = .ok (.aload_n 0, 1)) ∧ (decode cX9_readOne 28 = .ok (.getfield 37, 3)) ∧ (decode cX9_readOne 31 = .ok (.goto 8, 3)) := by decide +kernel
theorem dX9_readOne_18 : decode cX9_readOne 18 = .ok (.aload_n 0, 1) := dcX9_readOne_1.1
theorem dX9_readOne_19 : decode cX9_readOne 19 = .ok (.aload_n 0, 1) := dcX9_readOne_1.2.1
theorem dX9_readOne_20 : decode cX9_readOne 20 = .ok (.getfield 34, 3) := dcX9_readOne_1.2.2.1
theorem dX9_readOne_23 : decode cX9_readOne 23 = .ok (.iconst 1, 1) := dcX9_readOne_1.2.2.2.1
theorem dX9_readOne_24 : decode cX9_readOne 24 = .ok (.if_icmp .ne 10, 3) := dcX9_readOne_1.2.2.2.2.1
theorem dX9_readOne_27 : decode cX9_readOne 27 = .ok (.aload_n 0, 1) := dcX9_readOne_1.2.2.2.2.2.1
theorem dX9_readOne_28 : decode cX9_readOne 28 = .ok (.getfield 37, 3) := dcX9_readOne_1.2.2.2.2.2.2.1
theorem dX9_readOne_31 : decode cX9_readOne 31 = .ok (.goto 8, 3) := dcX9_readOne_1.2.2.2.2.2.2.2
theorem dcX9_readOne_2 : (decode cX9_readOne 34 = .ok (.aload_n 0, 1)) ∧ (decode cX9_readOne 35 = .ok (.getfield 34, 3)) ∧ (decode cX9_readOne 38 = .ok (.ineg, 1)) ∧ (decode cX9_readOne 39 = .ok (.invokevirtual 69, 3)) ∧ (decode cX9_readOne 42 = .ok (.aload_n 0, 1)) ∧ (decode cX9_readOne 43 = .ok (.invokevirtual 40, 3)) ∧ (decode cX9_readOne 46 = .ok (.iconst 1, 1)) ∧ (decode cX9_readOne 47 = .ok (.ireturn, 1)) := by decide +kernel
theorem dX9_readOne_34 : decode cX9_readOne 34 = .ok (.aload_n 0, 1) := dcX9_readOne_2.1
theorem dX9_readOne_35 : decode cX9_readOne 35 = .ok (.getfield 34, 3) := dcX9_readOne_2.2.1
theorem dX9_readOne_38 : decode cX9_readOne 38 = .ok (.ineg, 1) := dcX9_readOne_2.2.2.1
theorem dX9_readOne_39 : decode cX9_readOne 39 = .ok (.invokevirtual 69, 3) := dcX9_readOne_2.2.2.2.1
theorem dX9_readOne_42 : decode cX9_readOne 42 = .ok (.aload_n 0, 1) := dcX9_readOne_2.2.2.2.2.1
theorem dX9_readOne_43 : decode cX9_readOne 43 = .ok (.invokevirtual 40, 3) := dcX9_readOne_2.2.2.2.2.2.1
theorem dX9_readOne_46 : decode cX9_readOne 46 = .ok (.iconst 1, 1) := dcX9_readOne_2.2.2.2.2.2.2.1
theorem dX9_readOne_47 : decode cX9_readOne 47 = .ok (.ireturn, 1) := dcX9_readOne_2.2.2.2.2.2.2.2
theorem dcX9_readOne_3 : (decode cX9_readOne 48 = .ok (.iload_n 1, 1)) ∧ (decode cX9_readOne 49 = .ok (.iconst 5, 1)) ∧ (decode cX9_readOne 50 = .ok (.if_icmp .lt 5, 3)) ∧ (decode cX9_readOne 53 = .ok (.iconst 0, 1)) ∧ (decode cX9_readOne 54 = .ok (.ireturn, 1)) ∧ (decode cX9_readOne 55 = .ok (.aload_n 0, 1)) ∧ (decode cX9_readOne 56 = .ok (.getfield 34, 3)) ∧ (decode cX9_readOne 59 = .ok (.bipush 45, 2)) := by decide +kernel
theorem dX9_readOne_48 : decode cX9_readOne 48 = .ok (.iload_n 1, 1) := dcX9_readOne_3.1
theorem dX9_readOne_49 : decode cX9_readOne 49 = .ok (.iconst 5, 1) := dcX9_readOne_3.2.1
theorem dX9_readOne_50 : decode cX9_readOne 50 = .ok (.if_icmp .lt 5, 3) := dcX9_readOne_3.2.2.1
theorem dX9_readOne_53 : decode cX9_readOne 53 = .ok (.iconst 0, 1) := dcX9_readOne_3.2.2.2.1
theorem dX9_readOne_54 : decode cX9_readOne 54 = .ok (.ireturn, 1) := dcX9_readOne_3.2.2.2.2.1
theorem dX9_readOne_55 : decode cX9_readOne 55 = .ok (.aload_n 0, 1) := dcX9_readOne_3.2.2.2.2.2.1
theorem dX9_readOne_56 : decode cX9_readOne 56 = .ok (.getfield 34, 3) := dcX9_readOne_3.2.2.2.2.2.2.1
theorem dX9_readOne_59 : decode cX9_readOne 59 = .ok (.bipush 45, 2) := dcX9_readOne_3.2.2.2.2.2.2.2
theorem dcX9_readOne_4 : (decode cX9_readOne 61 = .ok (.if_icmp .ne 23, 3)) ∧ (decode cX9_readOne 64 = .ok (.aload_n 0, 1)) ∧ (decode cX9_readOne 65 = .ok (.invokevirtual 40, 3)) ∧ (decode cX9_readOne 68 = .ok (.aload_n 0, 1)) ∧ (decode cX9_readOne 69 = .ok (.iload_n 1, 1)) ∧ (decode cX9_readOne 70 = .ok (.iconst 1, 1)) ∧ (decode cX9_readOne 71 = .ok (.iadd, 1)) ∧ (decode cX9_readOne 72 = .ok (.invokevirtual 82, 3)) := by decide +kernel
theorem dX9_readOne_61 : decode cX9_readOne 61 = .ok (.if_icmp .ne 23, 3) := dcX9_readOne_4.1
theorem dX9_readOne_64 : decode cX9_readOne 64 = .ok (.aload_n 0, 1) := dcX9_readOne_4.2.1
theorem dX9_readOne_65 : decode cX9_readOne 65 = .ok (.invokevirtual 40, 3) := dcX9_readOne_4.2.2.1
theorem dX9_readOne_68 : decode cX9_readOne 68 = .ok (.aload_n 0, 1) := dcX9_readOne_4.2.2.2.1
theorem dX9_readOne_69 : decode cX9_readOne 69 = .ok (.iload_n 1, 1) := dcX9_readOne_4.2.2.2.2.1
theorem dX9_readOne_70 : decode cX9_readOne 70 = .ok (.iconst 1, 1) := dcX9_readOne_4.2.2.2.2.2.1
theorem dX9_readOne_71 : decode cX9_readOne 71 = .ok (.iadd, 1) := dcX9_readOne_4.2.2.2.2.2.2.1
theorem dX9_readOne_72 : decode cX9_readOne 72 = .ok (.invokevirtual 82, 3) := dcX9_readOne_4.2.2.2.2.2.2.2
theorem dcX9_readOne_5 : (decode cX9_readOne 75 = .ok (.istore_n 2, 1)) ∧ (decode cX9_readOne 76 = .ok (.aload_n 0, 1)) ∧ (decode cX9_readOne 77 = .ok (.bipush (-3), 2)) ∧ (decode cX9_readOne 79 = .ok (.invokevirtual 69, 3)) ∧ (decode cX9_readOne 82 = .ok (.iload_n 2, 1)) ∧ (decode cX9_readOne 83 = .ok (.ireturn, 1)) ∧ (decode cX9_readOne 84 = .ok (.aload_n 0, 1)) ∧ (decode cX9_readOne 85 = .ok (.getfield 34, 3)) := by decide +kernel
theorem dX9_readOne_75 : decode cX9_readOne 75 = .ok (.istore_n 2, 1) := dcX9_readOne_5.1
theorem dX9_readOne_76 : decode cX9_readOne 76 = .ok (.aload_n 0, 1) := dcX9_readOne_5.2.1
theorem dX9_readOne_77 : decode cX9_readOne 77 = .ok (.bipush (-3), 2) := dcX9_readOne_5.2.2.1
theorem dX9_readOne_79 : decode cX9_readOne 79 = .ok (.invokevirtual 69, 3) := dcX9_readOne_5.2.2.2.1
theorem dX9_readOne_82 : decode cX9_readOne 82 = .ok (.iload_n 2, 1) := dcX9_readOne_5.2.2.2.2.1
theorem dX9_readOne_83 : decode cX9_readOne 83 = .ok (.ireturn, 1) := dcX9_readOne_5.2.2.2.2.2.1
theorem dX9_readOne_84 : decode cX9_readOne 84 = .ok (.aload_n 0, 1) := dcX9_readOne_5.2.2.2.2.2.2.1
theorem dX9_readOne_85 : decode cX9_readOne 85 = .ok (.getfield 34, 3) := dcX9_readOne_5.2.2.2.2.2.2.2
theorem dcX9_readOne_6 : (decode cX9_readOne 88 = .ok (.bipush 40, 2)) ∧ (decode cX9_readOne 90 = .ok (.if_icmp .eq 5, 3)) ∧ (decode cX9_readOne 93 = .ok (.iconst 0, 1)) ∧ (decode cX9_readOne 94 = .ok (.ireturn, 1)) ∧ (decode cX9_readOne 95 = .ok (.aload_n 0, 1)) ∧ (decode cX9_readOne 96 = .ok (.invokevirtual 40, 3)) ∧ (decode cX9_readOne 99 = .ok (.aload_n 0, 1)) ∧ (decode cX9_readOne 100 = .ok (.iload_n 1, 1)) := by decide +kernel
theorem dX9_readOne_88 : decode cX9_readOne 88 = .ok (.bipush 40, 2) := dcX9_readOne_6.1
theorem dX9_readOne_90 : decode cX9_readOne 90 = .ok (.if_icmp .eq 5, 3) := dcX9_readOne_6.2.1
theorem dX9_readOne_93 : decode cX9_readOne 93 = .ok (.iconst 0, 1) := dcX9_readOne_6.2.2.1
theorem dX9_readOne_94 : decode cX9_readOne 94 = .ok (.ireturn, 1) := dcX9_readOne_6.2.2.2.1
theorem dX9_readOne_95 : decode cX9_readOne 95 = .ok (.aload_n 0, 1) := dcX9_readOne_6.2.2.2.2.1
theorem dX9_readOne_96 : decode cX9_readOne 96 = .ok (.invokevirtual 40, 3) := dcX9_readOne_6.2.2.2.2.2.1
theorem dX9_readOne_99 : decode cX9_readOne 99 = .ok (.aload_n 0, 1) := dcX9_readOne_6.2.2.2.2.2.2.1
theorem dX9_readOne_100 : decode cX9_readOne 100 = .ok (.iload_n 1, 1) := dcX9_readOne_6.2.2.2.2.2.2.2
theorem dcX9_readOne_7 : (decode cX9_readOne 101 = .ok (.iconst 1, 1)) ∧ (decode cX9_readOne 102 = .ok (.iadd, 1)) ∧ (decode cX9_readOne 103 = .ok (.invokevirtual 63, 3)) ∧ (decode cX9_readOne 106 = .ok (.ifCond .eq 12, 3)) ∧ (decode cX9_readOne 109 = .ok (.aload_n 0, 1)) ∧ (decode cX9_readOne 110 = .ok (.getfield 34, 3)) ∧ (decode cX9_readOne 113 = .ok (.bipush 41, 2)) ∧ (decode cX9_readOne 115 = .ok (.if_icmp .eq 5, 3)) := by decide +kernel
theorem dX9_readOne_101 : decode cX9_readOne 101 = .ok (.iconst 1, 1) := dcX9_readOne_7.1
theorem dX9_readOne_102 : decode cX9_readOne 102 = .ok (.iadd, 1) := dcX9_readOne_7.2.1
theorem dX9_readOne_103 : decode cX9_readOne 103 = .ok (.invokevirtual 63, 3) := dcX9_readOne_7.2.2.1
theorem dX9_readOne_106 : decode cX9_readOne 106 = .ok (.ifCond .eq 12, 3) := dcX9_readOne_7.2.2.2.1
theorem dX9_readOne_109 : decode cX9_readOne 109 = .ok (.aload_n 0, 1) := dcX9_readOne_7.2.2.2.2.1
theorem dX9_readOne_110 : decode cX9_readOne 110 = .ok (.getfield 34, 3) := dcX9_readOne_7.2.2.2.2.2.1
theorem dX9_readOne_113 : decode cX9_readOne 113 = .ok (.bipush 41, 2) := dcX9_readOne_7.2.2.2.2.2.2.1
theorem dX9_readOne_115 : decode cX9_readOne 115 = .ok (.if_icmp .eq 5, 3) := dcX9_readOne_7.2.2.2.2.2.2.2
theorem dcX9_readOne_8 : (decode cX9_readOne 118 = .ok (.iconst 0, 1)) ∧ (decode cX9_readOne 119 = .ok (.ireturn, 1)) ∧ (decode cX9_readOne 120 = .ok (.aload_n 0, 1)) ∧ (decode cX9_readOne 121 = .ok (.invokevirtual 40, 3)) ∧ (decode cX9_readOne 124 = .ok (.iconst 1, 1)) ∧ (decode cX9_readOne 125 = .ok (.ireturn, 1)) := by decide +kernel
theorem dX9_readOne_118 : decode cX9_readOne 118 = .ok (.iconst 0, 1) := dcX9_readOne_8.1
theorem dX9_readOne_119 : decode cX9_readOne 119 = .ok (.ireturn, 1) := dcX9_readOne_8.2.1
theorem dX9_readOne_120 : decode cX9_readOne 120 = .ok (.aload_n 0, 1) := dcX9_readOne_8.2.2.1
theorem dX9_readOne_121 : decode cX9_readOne 121 = .ok (.invokevirtual 40, 3) := dcX9_readOne_8.2.2.2.1
theorem dX9_readOne_124 : decode cX9_readOne 124 = .ok (.iconst 1, 1) := dcX9_readOne_8.2.2.2.2.1
theorem dX9_readOne_125 : decode cX9_readOne 125 = .ok (.ireturn, 1) := dcX9_readOne_8.2.2.2.2.2
theorem dcX9_write_0 : (decode cX9_write 0 = .ok (.aload_n 0, 1)) ∧ (decode cX9_write 1 = .ok (.getfield 28, 3)) ∧ (decode cX9_write 4 = .ok (.sipush 160, 3)) ∧ (decode cX9_write 7 = .ok (.if_icmp .ge 23, 3)) ∧ (decode cX9_write 10 = .ok (.aload_n 0, 1)) ∧ (decode cX9_write 11 = .ok (.getfield 22, 3)) ∧ (decode cX9_write 14 = .ok (.aload_n 0, 1)) ∧ (decode cX9_write 15 = .ok (.getfield 28, 3)) := by decide +kernel
theorem dX9_write_0 : decode cX9_write 0 = .ok (.aload_n 0, 1) := dcX9_write_0.1
theorem dX9_write_1 : decode cX9_write 1 = .ok (.getfield 28, 3) := dcX9_write_0.2.1
theorem dX9_write_4 : decode cX9_write 4 = .ok (.sipush 160, 3) := dcX9_write_0.2.2.1
theorem dX9_write_7 : decode cX9_write 7 = .ok (.if_icmp .ge 23, 3) := dcX9_write_0.2.2.2.1
theorem dX9_write_10 : decode cX9_write 10 = .ok (.aload_n 0, 1) := dcX9_write_0.2.2.2.2.1
theorem dX9_write_11 : decode cX9_write 11 = .ok (.getfield 22, 3) := dcX9_write_0.2.2.2.2.2.1
theorem dX9_write_14 : decode cX9_write 14 = .ok (.aload_n 0, 1) := dcX9_write_0.2.2.2.2.2.2.1
theorem dX9_write_15 : decode cX9_write 15 = .ok (.getfield 28, 3) := dcX9_write_0.2.2.2.2.2.2.2
theorem dcX9_write_1 : (decode cX9_write 18 = .ok (.iload_n 1, 1)) ∧ (decode cX9_write 19 = .ok (.iastore, 1)) ∧ (decode cX9_write 20 = .ok (.aload_n 0, 1)) ∧ (decode cX9_write 21 = .ok (.dup, 1)) ∧ (decode cX9_write 22 = .ok (.getfield 28, 3)) ∧ (decode cX9_write 25 = .ok (.iconst 1, 1)) ∧ (decode cX9_write 26 = .ok (.iadd, 1)) ∧ (decode cX9_write 27 = .ok (.putfield 28, 3)) := by decide +kernel
theorem dX9_write_18 : decode cX9_write 18 = .ok (.iload_n 1, 1) := dcX9_write_1.1
theorem dX9_write_19 : decode cX9_write 19 = .ok (.iastore, 1) := dcX9_write_1.2.1
theorem dX9_write_20 : decode cX9_write 20 = .ok (.aload_n 0, 1) := dcX9_write_1.2.2.1
theorem dX9_write_21 : decode cX9_write 21 = .ok (.dup, 1) := dcX9_write_1.2.2.2.1
theorem dX9_write_22 : decode cX9_write 22 = .ok (.getfield 28, 3) := dcX9_write_1.2.2.2.2.1
theorem dX9_write_25 : decode cX9_write 25 = .ok (.iconst 1, 1) := dcX9_write_1.2.2.2.2.2.1
theorem dX9_write_26 : decode cX9_write 26 = .ok (.iadd, 1) := dcX9_write_1.2.2.2.2.2.2.1
theorem dX9_write_27 : decode cX9_write 27 = .ok (.putfield 28, 3) := dcX9_write_1.2.2.2.2.2.2.2
theorem dX9_write_30 : decode cX9_write 30 = .ok (.return_, 1) := by decide +kernel
theorem dcX9_step_0 : (decode cX9_step 0 = .ok (.aload_n 0, 1)) ∧ (decode cX9_step 1 = .ok (.getfield 31, 3)) ∧ (decode cX9_step 4 = .ok (.aload_n 0, 1)) ∧ (decode cX9_step 5 = .ok (.getfield 9, 3)) ∧ (decode cX9_step 8 = .ok (.if_icmp .ge 44, 3)) ∧ (decode cX9_step 11 = .ok (.aload_n 0, 1)) ∧ (decode cX9_step 12 = .ok (.getfield 18, 3)) ∧ (decode cX9_step 15 = .ok (.aload_n 0, 1)) := by decide +kernel
theorem dX9_step_0 : decode cX9_step 0 = .ok (.aload_n 0, 1) := dcX9_step_0.1
theorem dX9_step_1 : decode cX9_step 1 = .ok (.getfield 31, 3) := dcX9_step_0.2.1
theorem dX9_step_4 : decode cX9_step 4 = .ok (.aload_n 0, 1) := dcX9_step_0.2.2.1
theorem dX9_step_5 : decode cX9_step 5 = .ok (.getfield 9, 3) := dcX9_step_0.2.2.2.1
theorem dX9_step_8 : decode cX9_step 8 = .ok (.if_icmp .ge 44, 3) := dcX9_step_0.2.2.2.2.1
theorem dX9_step_11 : decode cX9_step 11 = .ok (.aload_n 0, 1) := dcX9_step_0.2.2.2.2.2.1
theorem dX9_step_12 : decode cX9_step 12 = .ok (.getfield 18, 3) := dcX9_step_0.2.2.2.2.2.2.1
theorem dX9_step_15 : decode cX9_step 15 = .ok (.aload_n 0, 1) := dcX9_step_0.2.2.2.2.2.2.2
theorem dcX9_step_1 : (decode cX9_step 16 = .ok (.getfield 31, 3)) ∧ (decode cX9_step 19 = .ok (.iaload, 1)) ∧ (decode cX9_step 20 = .ok (.bipush 32, 2)) ∧ (decode cX9_step 22 = .ok (.if_icmp .eq 17, 3)) ∧ (decode cX9_step 25 = .ok (.aload_n 0, 1)) ∧ (decode cX9_step 26 = .ok (.getfield 18, 3)) ∧ (decode cX9_step 29 = .ok (.aload_n 0, 1)) ∧ (decode cX9_step 30 = .ok (.getfield 31, 3)) := by decide +kernel
theorem dX9_step_16 : decode cX9_step 16 = .ok (.getfield 31, 3) := dcX9_step_1.1
theorem dX9_step_19 : decode cX9_step 19 = .ok (.iaload, 1) := dcX9_step_1.2.1
theorem dX9_step_20 : decode cX9_step 20 = .ok (.bipush 32, 2) := dcX9_step_1.2.2.1
theorem dX9_step_22 : decode cX9_step 22 = .ok (.if_icmp .eq 17, 3) := dcX9_step_1.2.2.2.1
theorem dX9_step_25 : decode cX9_step 25 = .ok (.aload_n 0, 1) := dcX9_step_1.2.2.2.2.1
theorem dX9_step_26 : decode cX9_step 26 = .ok (.getfield 18, 3) := dcX9_step_1.2.2.2.2.2.1
theorem dX9_step_29 : decode cX9_step 29 = .ok (.aload_n 0, 1) := dcX9_step_1.2.2.2.2.2.2.1
theorem dX9_step_30 : decode cX9_step 30 = .ok (.getfield 31, 3) := dcX9_step_1.2.2.2.2.2.2.2
theorem dcX9_step_2 : (decode cX9_step 33 = .ok (.iaload, 1)) ∧ (decode cX9_step 34 = .ok (.bipush 10, 2)) ∧ (decode cX9_step 36 = .ok (.if_icmp .ne 16, 3)) ∧ (decode cX9_step 39 = .ok (.aload_n 0, 1)) ∧ (decode cX9_step 40 = .ok (.dup, 1)) ∧ (decode cX9_step 41 = .ok (.getfield 31, 3)) ∧ (decode cX9_step 44 = .ok (.iconst 1, 1)) ∧ (decode cX9_step 45 = .ok (.iadd, 1)) := by decide +kernel
theorem dX9_step_33 : decode cX9_step 33 = .ok (.iaload, 1) := dcX9_step_2.1
theorem dX9_step_34 : decode cX9_step 34 = .ok (.bipush 10, 2) := dcX9_step_2.2.1
theorem dX9_step_36 : decode cX9_step 36 = .ok (.if_icmp .ne 16, 3) := dcX9_step_2.2.2.1
theorem dX9_step_39 : decode cX9_step 39 = .ok (.aload_n 0, 1) := dcX9_step_2.2.2.2.1
theorem dX9_step_40 : decode cX9_step 40 = .ok (.dup, 1) := dcX9_step_2.2.2.2.2.1
theorem dX9_step_41 : decode cX9_step 41 = .ok (.getfield 31, 3) := dcX9_step_2.2.2.2.2.2.1
theorem dX9_step_44 : decode cX9_step 44 = .ok (.iconst 1, 1) := dcX9_step_2.2.2.2.2.2.2.1
theorem dX9_step_45 : decode cX9_step 45 = .ok (.iadd, 1) := dcX9_step_2.2.2.2.2.2.2.2
theorem dcX9_step_3 : (decode cX9_step 46 = .ok (.putfield 31, 3)) ∧ (decode cX9_step 49 = .ok (.goto (-49), 3)) ∧ (decode cX9_step 52 = .ok (.aload_n 0, 1)) ∧ (decode cX9_step 53 = .ok (.aload_n 0, 1)) ∧ (decode cX9_step 54 = .ok (.getfield 31, 3)) ∧ (decode cX9_step 57 = .ok (.putfield 15, 3)) ∧ (decode cX9_step 60 = .ok (.aload_n 0, 1)) ∧ (decode cX9_step 61 = .ok (.getfield 31, 3)) := by decide +kernel
theorem dX9_step_46 : decode cX9_step 46 = .ok (.putfield 31, 3) := dcX9_step_3.1
theorem dX9_step_49 : decode cX9_step 49 = .ok (.goto (-49), 3) := dcX9_step_3.2.1
theorem dX9_step_52 : decode cX9_step 52 = .ok (.aload_n 0, 1) := dcX9_step_3.2.2.1
theorem dX9_step_53 : decode cX9_step 53 = .ok (.aload_n 0, 1) := dcX9_step_3.2.2.2.1
theorem dX9_step_54 : decode cX9_step 54 = .ok (.getfield 31, 3) := dcX9_step_3.2.2.2.2.1
theorem dX9_step_57 : decode cX9_step 57 = .ok (.putfield 15, 3) := dcX9_step_3.2.2.2.2.2.1
theorem dX9_step_60 : decode cX9_step 60 = .ok (.aload_n 0, 1) := dcX9_step_3.2.2.2.2.2.2.1
theorem dX9_step_61 : decode cX9_step 61 = .ok (.getfield 31, 3) := dcX9_step_3.2.2.2.2.2.2.2
theorem dcX9_step_4 : (decode cX9_step 64 = .ok (.aload_n 0, 1)) ∧ (decode cX9_step 65 = .ok (.getfield 9, 3)) ∧ (decode cX9_step 68 = .ok (.if_icmp .lt 11, 3)) ∧ (decode cX9_step 71 = .ok (.aload_n 0, 1)) ∧ (decode cX9_step 72 = .ok (.iconst 0, 1)) ∧ (decode cX9_step 73 = .ok (.putfield 34, 3)) ∧ (decode cX9_step 76 = .ok (.goto 89, 3)) ∧ (decode cX9_step 79 = .ok (.aload_n 0, 1)) := by decide +kernel
theorem dX9_step_64 : decode cX9_step 64 = .ok (.aload_n 0, 1) := dcX9_step_4.1
theorem dX9_step_65 : decode cX9_step 65 = .ok (.getfield 9, 3) := dcX9_step_4.2.1
theorem dX9_step_68 : decode cX9_step 68 = .ok (.if_icmp .lt 11, 3) := dcX9_step_4.2.2.1
theorem dX9_step_71 : decode cX9_step 71 = .ok (.aload_n 0, 1) := dcX9_step_4.2.2.2.1
theorem dX9_step_72 : decode cX9_step 72 = .ok (.iconst 0, 1) := dcX9_step_4.2.2.2.2.1
theorem dX9_step_73 : decode cX9_step 73 = .ok (.putfield 34, 3) := dcX9_step_4.2.2.2.2.2.1
theorem dX9_step_76 : decode cX9_step 76 = .ok (.goto 89, 3) := dcX9_step_4.2.2.2.2.2.2.1
theorem dX9_step_79 : decode cX9_step 79 = .ok (.aload_n 0, 1) := dcX9_step_4.2.2.2.2.2.2.2
theorem dcX9_step_5 : (decode cX9_step 80 = .ok (.getfield 18, 3)) ∧ (decode cX9_step 83 = .ok (.aload_n 0, 1)) ∧ (decode cX9_step 84 = .ok (.getfield 31, 3)) ∧ (decode cX9_step 87 = .ok (.iaload, 1)) ∧ (decode cX9_step 88 = .ok (.invokestatic 85, 3)) ∧ (decode cX9_step 91 = .ok (.ifCond .eq 10, 3)) ∧ (decode cX9_step 94 = .ok (.aload_n 0, 1)) ∧ (decode cX9_step 95 = .ok (.invokevirtual 88, 3)) := by decide +kernel
theorem dX9_step_80 : decode cX9_step 80 = .ok (.getfield 18, 3) := dcX9_step_5.1
theorem dX9_step_83 : decode cX9_step 83 = .ok (.aload_n 0, 1) := dcX9_step_5.2.1
theorem dX9_step_84 : decode cX9_step 84 = .ok (.getfield 31, 3) := dcX9_step_5.2.2.1
theorem dX9_step_87 : decode cX9_step 87 = .ok (.iaload, 1) := dcX9_step_5.2.2.2.1
theorem dX9_step_88 : decode cX9_step 88 = .ok (.invokestatic 85, 3) := dcX9_step_5.2.2.2.2.1
theorem dX9_step_91 : decode cX9_step 91 = .ok (.ifCond .eq 10, 3) := dcX9_step_5.2.2.2.2.2.1
theorem dX9_step_94 : decode cX9_step 94 = .ok (.aload_n 0, 1) := dcX9_step_5.2.2.2.2.2.2.1
theorem dX9_step_95 : decode cX9_step 95 = .ok (.invokevirtual 88, 3) := dcX9_step_5.2.2.2.2.2.2.2
theorem dcX9_step_6 : (decode cX9_step 98 = .ok (.goto 67, 3)) ∧ (decode cX9_step 101 = .ok (.aload_n 0, 1)) ∧ (decode cX9_step 102 = .ok (.getfield 18, 3)) ∧ (decode cX9_step 105 = .ok (.aload_n 0, 1)) ∧ (decode cX9_step 106 = .ok (.getfield 31, 3)) ∧ (decode cX9_step 109 = .ok (.iaload, 1)) ∧ (decode cX9_step 110 = .ok (.invokestatic 91, 3)) ∧ (decode cX9_step 113 = .ok (.ifCond .eq 10, 3)) := by decide +kernel
theorem dX9_step_98 : decode cX9_step 98 = .ok (.goto 67, 3) := dcX9_step_6.1
theorem dX9_step_101 : decode cX9_step 101 = .ok (.aload_n 0, 1) := dcX9_step_6.2.1
theorem dX9_step_102 : decode cX9_step 102 = .ok (.getfield 18, 3) := dcX9_step_6.2.2.1
theorem dX9_step_105 : decode cX9_step 105 = .ok (.aload_n 0, 1) := dcX9_step_6.2.2.2.1
theorem dX9_step_106 : decode cX9_step 106 = .ok (.getfield 31, 3) := dcX9_step_6.2.2.2.2.1
theorem dX9_step_109 : decode cX9_step 109 = .ok (.iaload, 1) := dcX9_step_6.2.2.2.2.2.1
theorem dX9_step_110 : decode cX9_step 110 = .ok (.invokestatic 91, 3) := dcX9_step_6.2.2.2.2.2.2.1
theorem dX9_step_113 : decode cX9_step 113 = .ok (.ifCond .eq 10, 3) := dcX9_step_6.2.2.2.2.2.2.2
theorem dcX9_step_7 : (decode cX9_step 116 = .ok (.aload_n 0, 1)) ∧ (decode cX9_step 117 = .ok (.invokevirtual 94, 3)) ∧ (decode cX9_step 120 = .ok (.goto 45, 3)) ∧ (decode cX9_step 123 = .ok (.aload_n 0, 1)) ∧ (decode cX9_step 124 = .ok (.aload_n 0, 1)) ∧ (decode cX9_step 125 = .ok (.getfield 18, 3)) ∧ (decode cX9_step 128 = .ok (.aload_n 0, 1)) ∧ (decode cX9_step 129 = .ok (.getfield 31, 3)) := by decide +kernel
theorem dX9_step_116 : decode cX9_step 116 = .ok (.aload_n 0, 1) := dcX9_step_7.1
theorem dX9_step_117 : decode cX9_step 117 = .ok (.invokevirtual 94, 3) := dcX9_step_7.2.1
theorem dX9_step_120 : decode cX9_step 120 = .ok (.goto 45, 3) := dcX9_step_7.2.2.1
theorem dX9_step_123 : decode cX9_step 123 = .ok (.aload_n 0, 1) := dcX9_step_7.2.2.2.1
theorem dX9_step_124 : decode cX9_step 124 = .ok (.aload_n 0, 1) := dcX9_step_7.2.2.2.2.1
theorem dX9_step_125 : decode cX9_step 125 = .ok (.getfield 18, 3) := dcX9_step_7.2.2.2.2.2.1
theorem dX9_step_128 : decode cX9_step 128 = .ok (.aload_n 0, 1) := dcX9_step_7.2.2.2.2.2.2.1
theorem dX9_step_129 : decode cX9_step 129 = .ok (.getfield 31, 3) := dcX9_step_7.2.2.2.2.2.2.2
theorem dcX9_step_8 : (decode cX9_step 132 = .ok (.iaload, 1)) ∧ (decode cX9_step 133 = .ok (.invokestatic 97, 3)) ∧ (decode cX9_step 136 = .ok (.ifCond .eq 15, 3)) ∧ (decode cX9_step 139 = .ok (.aload_n 0, 1)) ∧ (decode cX9_step 140 = .ok (.getfield 18, 3)) ∧ (decode cX9_step 143 = .ok (.aload_n 0, 1)) ∧ (decode cX9_step 144 = .ok (.getfield 31, 3)) ∧ (decode cX9_step 147 = .ok (.iaload, 1)) := by decide +kernel
theorem dX9_step_132 : decode cX9_step 132 = .ok (.iaload, 1) := dcX9_step_8.1
theorem dX9_step_133 : decode cX9_step 133 = .ok (.invokestatic 97, 3) := dcX9_step_8.2.1
theorem dX9_step_136 : decode cX9_step 136 = .ok (.ifCond .eq 15, 3) := dcX9_step_8.2.2.1
theorem dX9_step_139 : decode cX9_step 139 = .ok (.aload_n 0, 1) := dcX9_step_8.2.2.2.1
theorem dX9_step_140 : decode cX9_step 140 = .ok (.getfield 18, 3) := dcX9_step_8.2.2.2.2.1
theorem dX9_step_143 : decode cX9_step 143 = .ok (.aload_n 0, 1) := dcX9_step_8.2.2.2.2.2.1
theorem dX9_step_144 : decode cX9_step 144 = .ok (.getfield 31, 3) := dcX9_step_8.2.2.2.2.2.2.1
theorem dX9_step_147 : decode cX9_step 147 = .ok (.iaload, 1) := dcX9_step_8.2.2.2.2.2.2.2
theorem dcX9_step_9 : (decode cX9_step 148 = .ok (.goto 4, 3)) ∧ (decode cX9_step 151 = .ok (.iconst 2, 1)) ∧ (decode cX9_step 152 = .ok (.putfield 34, 3)) ∧ (decode cX9_step 155 = .ok (.aload_n 0, 1)) ∧ (decode cX9_step 156 = .ok (.dup, 1)) ∧ (decode cX9_step 157 = .ok (.getfield 31, 3)) ∧ (decode cX9_step 160 = .ok (.iconst 1, 1)) ∧ (decode cX9_step 161 = .ok (.iadd, 1)) := by decide +kernel
theorem dX9_step_148 : decode cX9_step 148 = .ok (.goto 4, 3) := dcX9_step_9.1
theorem dX9_step_151 : decode cX9_step 151 = .ok (.iconst 2, 1) := dcX9_step_9.2.1
theorem dX9_step_152 : decode cX9_step 152 = .ok (.putfield 34, 3) := dcX9_step_9.2.2.1
theorem dX9_step_155 : decode cX9_step 155 = .ok (.aload_n 0, 1) := dcX9_step_9.2.2.2.1
theorem dX9_step_156 : decode cX9_step 156 = .ok (.dup, 1) := dcX9_step_9.2.2.2.2.1
theorem dX9_step_157 : decode cX9_step 157 = .ok (.getfield 31, 3) := dcX9_step_9.2.2.2.2.2.1
theorem dX9_step_160 : decode cX9_step 160 = .ok (.iconst 1, 1) := dcX9_step_9.2.2.2.2.2.2.1
theorem dX9_step_161 : decode cX9_step 161 = .ok (.iadd, 1) := dcX9_step_9.2.2.2.2.2.2.2
theorem dcX9_step_10 : (decode cX9_step 162 = .ok (.putfield 31, 3)) ∧ (decode cX9_step 165 = .ok (.return_, 1)) := by decide +kernel
theorem dX9_step_162 : decode cX9_step 162 = .ok (.putfield 31, 3) := dcX9_step_10.1
theorem dX9_step_165 : decode cX9_step 165 = .ok (.return_, 1) := dcX9_step_10.2
theorem dcX9_stepWord_0 : (decode cX9_stepWord 0 = .ok (.aload_n 0, 1)) ∧ (decode cX9_stepWord 1 = .ok (.getfield 31, 3)) ∧ (decode cX9_stepWord 4 = .ok (.aload_n 0, 1)) ∧ (decode cX9_stepWord 5 = .ok (.getfield 9, 3)) ∧ (decode cX9_stepWord 8 = .ok (.if_icmp .ge 31, 3)) ∧ (decode cX9_stepWord 11 = .ok (.aload_n 0, 1)) ∧ (decode cX9_stepWord 12 = .ok (.getfield 18, 3)) ∧ (decode cX9_stepWord 15 = .ok (.aload_n 0, 1)) := by decide +kernel
theorem dX9_stepWord_0 : decode cX9_stepWord 0 = .ok (.aload_n 0, 1) := dcX9_stepWord_0.1
theorem dX9_stepWord_1 : decode cX9_stepWord 1 = .ok (.getfield 31, 3) := dcX9_stepWord_0.2.1
theorem dX9_stepWord_4 : decode cX9_stepWord 4 = .ok (.aload_n 0, 1) := dcX9_stepWord_0.2.2.1
theorem dX9_stepWord_5 : decode cX9_stepWord 5 = .ok (.getfield 9, 3) := dcX9_stepWord_0.2.2.2.1
theorem dX9_stepWord_8 : decode cX9_stepWord 8 = .ok (.if_icmp .ge 31, 3) := dcX9_stepWord_0.2.2.2.2.1
theorem dX9_stepWord_11 : decode cX9_stepWord 11 = .ok (.aload_n 0, 1) := dcX9_stepWord_0.2.2.2.2.2.1
theorem dX9_stepWord_12 : decode cX9_stepWord 12 = .ok (.getfield 18, 3) := dcX9_stepWord_0.2.2.2.2.2.2.1
theorem dX9_stepWord_15 : decode cX9_stepWord 15 = .ok (.aload_n 0, 1) := dcX9_stepWord_0.2.2.2.2.2.2.2
theorem dcX9_stepWord_1 : (decode cX9_stepWord 16 = .ok (.getfield 31, 3)) ∧ (decode cX9_stepWord 19 = .ok (.iaload, 1)) ∧ (decode cX9_stepWord 20 = .ok (.invokestatic 85, 3)) ∧ (decode cX9_stepWord 23 = .ok (.ifCond .eq 16, 3)) ∧ (decode cX9_stepWord 26 = .ok (.aload_n 0, 1)) ∧ (decode cX9_stepWord 27 = .ok (.dup, 1)) ∧ (decode cX9_stepWord 28 = .ok (.getfield 31, 3)) ∧ (decode cX9_stepWord 31 = .ok (.iconst 1, 1)) := by decide +kernel
theorem dX9_stepWord_16 : decode cX9_stepWord 16 = .ok (.getfield 31, 3) := dcX9_stepWord_1.1
theorem dX9_stepWord_19 : decode cX9_stepWord 19 = .ok (.iaload, 1) := dcX9_stepWord_1.2.1
theorem dX9_stepWord_20 : decode cX9_stepWord 20 = .ok (.invokestatic 85, 3) := dcX9_stepWord_1.2.2.1
theorem dX9_stepWord_23 : decode cX9_stepWord 23 = .ok (.ifCond .eq 16, 3) := dcX9_stepWord_1.2.2.2.1
theorem dX9_stepWord_26 : decode cX9_stepWord 26 = .ok (.aload_n 0, 1) := dcX9_stepWord_1.2.2.2.2.1
theorem dX9_stepWord_27 : decode cX9_stepWord 27 = .ok (.dup, 1) := dcX9_stepWord_1.2.2.2.2.2.1
theorem dX9_stepWord_28 : decode cX9_stepWord 28 = .ok (.getfield 31, 3) := dcX9_stepWord_1.2.2.2.2.2.2.1
theorem dX9_stepWord_31 : decode cX9_stepWord 31 = .ok (.iconst 1, 1) := dcX9_stepWord_1.2.2.2.2.2.2.2
theorem dcX9_stepWord_2 : (decode cX9_stepWord 32 = .ok (.iadd, 1)) ∧ (decode cX9_stepWord 33 = .ok (.putfield 31, 3)) ∧ (decode cX9_stepWord 36 = .ok (.goto (-36), 3)) ∧ (decode cX9_stepWord 39 = .ok (.aload_n 0, 1)) ∧ (decode cX9_stepWord 40 = .ok (.iconst 2, 1)) ∧ (decode cX9_stepWord 41 = .ok (.putfield 34, 3)) ∧ (decode cX9_stepWord 44 = .ok (.sipush 256, 3)) ∧ (decode cX9_stepWord 47 = .ok (.istore_n 1, 1)) := by decide +kernel
theorem dX9_stepWord_32 : decode cX9_stepWord 32 = .ok (.iadd, 1) := dcX9_stepWord_2.1
theorem dX9_stepWord_33 : decode cX9_stepWord 33 = .ok (.putfield 31, 3) := dcX9_stepWord_2.2.1
theorem dX9_stepWord_36 : decode cX9_stepWord 36 = .ok (.goto (-36), 3) := dcX9_stepWord_2.2.2.1
theorem dX9_stepWord_39 : decode cX9_stepWord 39 = .ok (.aload_n 0, 1) := dcX9_stepWord_2.2.2.2.1
theorem dX9_stepWord_40 : decode cX9_stepWord 40 = .ok (.iconst 2, 1) := dcX9_stepWord_2.2.2.2.2.1
theorem dX9_stepWord_41 : decode cX9_stepWord 41 = .ok (.putfield 34, 3) := dcX9_stepWord_2.2.2.2.2.2.1
theorem dX9_stepWord_44 : decode cX9_stepWord 44 = .ok (.sipush 256, 3) := dcX9_stepWord_2.2.2.2.2.2.2.1
theorem dX9_stepWord_47 : decode cX9_stepWord 47 = .ok (.istore_n 1, 1) := dcX9_stepWord_2.2.2.2.2.2.2.2
theorem dcX9_stepWord_3 : (decode cX9_stepWord 48 = .ok (.iconst 0, 1)) ∧ (decode cX9_stepWord 49 = .ok (.istore_n 2, 1)) ∧ (decode cX9_stepWord 50 = .ok (.iconst 0, 1)) ∧ (decode cX9_stepWord 51 = .ok (.istore_n 3, 1)) ∧ (decode cX9_stepWord 52 = .ok (.iload_n 3, 1)) ∧ (decode cX9_stepWord 53 = .ok (.ldc 100, 2)) ∧ (decode cX9_stepWord 55 = .ok (.invokevirtual 102, 3)) ∧ (decode cX9_stepWord 58 = .ok (.if_icmp .ge 55, 3)) := by decide +kernel
theorem dX9_stepWord_48 : decode cX9_stepWord 48 = .ok (.iconst 0, 1) := dcX9_stepWord_3.1
theorem dX9_stepWord_49 : decode cX9_stepWord 49 = .ok (.istore_n 2, 1) := dcX9_stepWord_3.2.1
theorem dX9_stepWord_50 : decode cX9_stepWord 50 = .ok (.iconst 0, 1) := dcX9_stepWord_3.2.2.1
theorem dX9_stepWord_51 : decode cX9_stepWord 51 = .ok (.istore_n 3, 1) := dcX9_stepWord_3.2.2.2.1
theorem dX9_stepWord_52 : decode cX9_stepWord 52 = .ok (.iload_n 3, 1) := dcX9_stepWord_3.2.2.2.2.1
theorem dX9_stepWord_53 : decode cX9_stepWord 53 = .ok (.ldc 100, 2) := dcX9_stepWord_3.2.2.2.2.2.1
theorem dX9_stepWord_55 : decode cX9_stepWord 55 = .ok (.invokevirtual 102, 3) := dcX9_stepWord_3.2.2.2.2.2.2.1
theorem dX9_stepWord_58 : decode cX9_stepWord 58 = .ok (.if_icmp .ge 55, 3) := dcX9_stepWord_3.2.2.2.2.2.2.2
theorem dcX9_stepWord_4 : (decode cX9_stepWord 61 = .ok (.ldc 100, 2)) ∧ (decode cX9_stepWord 63 = .ok (.iload_n 3, 1)) ∧ (decode cX9_stepWord 64 = .ok (.invokevirtual 108, 3)) ∧ (decode cX9_stepWord 67 = .ok (.bipush 32, 2)) ∧ (decode cX9_stepWord 69 = .ok (.if_icmp .ne 38, 3)) ∧ (decode cX9_stepWord 72 = .ok (.iload_n 3, 1)) ∧ (decode cX9_stepWord 73 = .ok (.iload_n 2, 1)) ∧ (decode cX9_stepWord 74 = .ok (.isub, 1)) := by decide +kernel
theorem dX9_stepWord_61 : decode cX9_stepWord 61 = .ok (.ldc 100, 2) := dcX9_stepWord_4.1
theorem dX9_stepWord_63 : decode cX9_stepWord 63 = .ok (.iload_n 3, 1) := dcX9_stepWord_4.2.1
theorem dX9_stepWord_64 : decode cX9_stepWord 64 = .ok (.invokevirtual 108, 3) := dcX9_stepWord_4.2.2.1
theorem dX9_stepWord_67 : decode cX9_stepWord 67 = .ok (.bipush 32, 2) := dcX9_stepWord_4.2.2.2.1
theorem dX9_stepWord_69 : decode cX9_stepWord 69 = .ok (.if_icmp .ne 38, 3) := dcX9_stepWord_4.2.2.2.2.1
theorem dX9_stepWord_72 : decode cX9_stepWord 72 = .ok (.iload_n 3, 1) := dcX9_stepWord_4.2.2.2.2.2.1
theorem dX9_stepWord_73 : decode cX9_stepWord 73 = .ok (.iload_n 2, 1) := dcX9_stepWord_4.2.2.2.2.2.2.1
theorem dX9_stepWord_74 : decode cX9_stepWord 74 = .ok (.isub, 1) := dcX9_stepWord_4.2.2.2.2.2.2.2
theorem dcX9_stepWord_5 : (decode cX9_stepWord 75 = .ok (.aload_n 0, 1)) ∧ (decode cX9_stepWord 76 = .ok (.getfield 31, 3)) ∧ (decode cX9_stepWord 79 = .ok (.aload_n 0, 1)) ∧ (decode cX9_stepWord 80 = .ok (.getfield 15, 3)) ∧ (decode cX9_stepWord 83 = .ok (.isub, 1)) ∧ (decode cX9_stepWord 84 = .ok (.if_icmp .ne 16, 3)) ∧ (decode cX9_stepWord 87 = .ok (.aload_n 0, 1)) ∧ (decode cX9_stepWord 88 = .ok (.iload_n 2, 1)) := by decide +kernel
theorem dX9_stepWord_75 : decode cX9_stepWord 75 = .ok (.aload_n 0, 1) := dcX9_stepWord_5.1
theorem dX9_stepWord_76 : decode cX9_stepWord 76 = .ok (.getfield 31, 3) := dcX9_stepWord_5.2.1
theorem dX9_stepWord_79 : decode cX9_stepWord 79 = .ok (.aload_n 0, 1) := dcX9_stepWord_5.2.2.1
theorem dX9_stepWord_80 : decode cX9_stepWord 80 = .ok (.getfield 15, 3) := dcX9_stepWord_5.2.2.2.1
theorem dX9_stepWord_83 : decode cX9_stepWord 83 = .ok (.isub, 1) := dcX9_stepWord_5.2.2.2.2.1
theorem dX9_stepWord_84 : decode cX9_stepWord 84 = .ok (.if_icmp .ne 16, 3) := dcX9_stepWord_5.2.2.2.2.2.1
theorem dX9_stepWord_87 : decode cX9_stepWord 87 = .ok (.aload_n 0, 1) := dcX9_stepWord_5.2.2.2.2.2.2.1
theorem dX9_stepWord_88 : decode cX9_stepWord 88 = .ok (.iload_n 2, 1) := dcX9_stepWord_5.2.2.2.2.2.2.2
theorem dcX9_stepWord_6 : (decode cX9_stepWord 89 = .ok (.invokevirtual 112, 3)) ∧ (decode cX9_stepWord 92 = .ok (.ifCond .eq 8, 3)) ∧ (decode cX9_stepWord 95 = .ok (.aload_n 0, 1)) ∧ (decode cX9_stepWord 96 = .ok (.iload_n 1, 1)) ∧ (decode cX9_stepWord 97 = .ok (.putfield 34, 3)) ∧ (decode cX9_stepWord 100 = .ok (.iinc 1 1, 3)) ∧ (decode cX9_stepWord 103 = .ok (.iload_n 3, 1)) ∧ (decode cX9_stepWord 104 = .ok (.iconst 1, 1)) := by decide +kernel
theorem dX9_stepWord_89 : decode cX9_stepWord 89 = .ok (.invokevirtual 112, 3) := dcX9_stepWord_6.1
theorem dX9_stepWord_92 : decode cX9_stepWord 92 = .ok (.ifCond .eq 8, 3) := dcX9_stepWord_6.2.1
theorem dX9_stepWord_95 : decode cX9_stepWord 95 = .ok (.aload_n 0, 1) := dcX9_stepWord_6.2.2.1
theorem dX9_stepWord_96 : decode cX9_stepWord 96 = .ok (.iload_n 1, 1) := dcX9_stepWord_6.2.2.2.1
theorem dX9_stepWord_97 : decode cX9_stepWord 97 = .ok (.putfield 34, 3) := dcX9_stepWord_6.2.2.2.2.1
theorem dX9_stepWord_100 : decode cX9_stepWord 100 = .ok (.iinc 1 1, 3) := dcX9_stepWord_6.2.2.2.2.2.1
theorem dX9_stepWord_103 : decode cX9_stepWord 103 = .ok (.iload_n 3, 1) := dcX9_stepWord_6.2.2.2.2.2.2.1
theorem dX9_stepWord_104 : decode cX9_stepWord 104 = .ok (.iconst 1, 1) := dcX9_stepWord_6.2.2.2.2.2.2.2
theorem dcX9_stepWord_7 : (decode cX9_stepWord 105 = .ok (.iadd, 1)) ∧ (decode cX9_stepWord 106 = .ok (.istore_n 2, 1)) ∧ (decode cX9_stepWord 107 = .ok (.iinc 3 1, 3)) ∧ (decode cX9_stepWord 110 = .ok (.goto (-58), 3)) ∧ (decode cX9_stepWord 113 = .ok (.return_, 1)) := by decide +kernel
theorem dX9_stepWord_105 : decode cX9_stepWord 105 = .ok (.iadd, 1) := dcX9_stepWord_7.1
theorem dX9_stepWord_106 : decode cX9_stepWord 106 = .ok (.istore_n 2, 1) := dcX9_stepWord_7.2.1
theorem dX9_stepWord_107 : decode cX9_stepWord 107 = .ok (.iinc 3 1, 3) := dcX9_stepWord_7.2.2.1
theorem dX9_stepWord_110 : decode cX9_stepWord 110 = .ok (.goto (-58), 3) := dcX9_stepWord_7.2.2.2.1
theorem dX9_stepWord_113 : decode cX9_stepWord 113 = .ok (.return_, 1) := dcX9_stepWord_7.2.2.2.2
theorem dcX9_isWordFrom_0 : (decode cX9_isWordFrom 0 = .ok (.aload_n 0, 1)) ∧ (decode cX9_isWordFrom 1 = .ok (.getfield 15, 3)) ∧ (decode cX9_isWordFrom 4 = .ok (.istore_n 2, 1)) ∧ (decode cX9_isWordFrom 5 = .ok (.iload_n 2, 1)) ∧ (decode cX9_isWordFrom 6 = .ok (.aload_n 0, 1)) ∧ (decode cX9_isWordFrom 7 = .ok (.getfield 31, 3)) ∧ (decode cX9_isWordFrom 10 = .ok (.if_icmp .ge 33, 3)) ∧ (decode cX9_isWordFrom 13 = .ok (.aload_n 0, 1)) := by decide +kernel
theorem dX9_isWordFrom_0 : decode cX9_isWordFrom 0 = .ok (.aload_n 0, 1) := dcX9_isWordFrom_0.1
theorem dX9_isWordFrom_1 : decode cX9_isWordFrom 1 = .ok (.getfield 15, 3) := dcX9_isWordFrom_0.2.1
theorem dX9_isWordFrom_4 : decode cX9_isWordFrom 4 = .ok (.istore_n 2, 1) := dcX9_isWordFrom_0.2.2.1
theorem dX9_isWordFrom_5 : decode cX9_isWordFrom 5 = .ok (.iload_n 2, 1) := dcX9_isWordFrom_0.2.2.2.1
theorem dX9_isWordFrom_6 : decode cX9_isWordFrom 6 = .ok (.aload_n 0, 1) := dcX9_isWordFrom_0.2.2.2.2.1
theorem dX9_isWordFrom_7 : decode cX9_isWordFrom 7 = .ok (.getfield 31, 3) := dcX9_isWordFrom_0.2.2.2.2.2.1
theorem dX9_isWordFrom_10 : decode cX9_isWordFrom 10 = .ok (.if_icmp .ge 33, 3) := dcX9_isWordFrom_0.2.2.2.2.2.2.1
theorem dX9_isWordFrom_13 : decode cX9_isWordFrom 13 = .ok (.aload_n 0, 1) := dcX9_isWordFrom_0.2.2.2.2.2.2.2
theorem dcX9_isWordFrom_1 : (decode cX9_isWordFrom 14 = .ok (.getfield 18, 3)) ∧ (decode cX9_isWordFrom 17 = .ok (.iload_n 2, 1)) ∧ (decode cX9_isWordFrom 18 = .ok (.iaload, 1)) ∧ (decode cX9_isWordFrom 19 = .ok (.ldc 100, 2)) ∧ (decode cX9_isWordFrom 21 = .ok (.iload_n 1, 1)) ∧ (decode cX9_isWordFrom 22 = .ok (.iload_n 2, 1)) ∧ (decode cX9_isWordFrom 23 = .ok (.iadd, 1)) ∧ (decode cX9_isWordFrom 24 = .ok (.aload_n 0, 1)) := by decide +kernel
theorem dX9_isWordFrom_14 : decode cX9_isWordFrom 14 = .ok (.getfield 18, 3) := dcX9_isWordFrom_1.1
theorem dX9_isWordFrom_17 : decode cX9_isWordFrom 17 = .ok (.iload_n 2, 1) := dcX9_isWordFrom_1.2.1
theorem dX9_isWordFrom_18 : decode cX9_isWordFrom 18 = .ok (.iaload, 1) := dcX9_isWordFrom_1.2.2.1
theorem dX9_isWordFrom_19 : decode cX9_isWordFrom 19 = .ok (.ldc 100, 2) := dcX9_isWordFrom_1.2.2.2.1
theorem dX9_isWordFrom_21 : decode cX9_isWordFrom 21 = .ok (.iload_n 1, 1) := dcX9_isWordFrom_1.2.2.2.2.1
theorem dX9_isWordFrom_22 : decode cX9_isWordFrom 22 = .ok (.iload_n 2, 1) := dcX9_isWordFrom_1.2.2.2.2.2.1
theorem dX9_isWordFrom_23 : decode cX9_isWordFrom 23 = .ok (.iadd, 1) := dcX9_isWordFrom_1.2.2.2.2.2.2.1
theorem dX9_isWordFrom_24 : decode cX9_isWordFrom 24 = .ok (.aload_n 0, 1) := dcX9_isWordFrom_1.2.2.2.2.2.2.2
theorem dcX9_isWordFrom_2 : (decode cX9_isWordFrom 25 = .ok (.getfield 15, 3)) ∧ (decode cX9_isWordFrom 28 = .ok (.isub, 1)) ∧ (decode cX9_isWordFrom 29 = .ok (.invokevirtual 108, 3)) ∧ (decode cX9_isWordFrom 32 = .ok (.if_icmp .eq 5, 3)) ∧ (decode cX9_isWordFrom 35 = .ok (.iconst 0, 1)) ∧ (decode cX9_isWordFrom 36 = .ok (.ireturn, 1)) ∧ (decode cX9_isWordFrom 37 = .ok (.iinc 2 1, 3)) ∧ (decode cX9_isWordFrom 40 = .ok (.goto (-35), 3)) := by decide +kernel
theorem dX9_isWordFrom_25 : decode cX9_isWordFrom 25 = .ok (.getfield 15, 3) := dcX9_isWordFrom_2.1
theorem dX9_isWordFrom_28 : decode cX9_isWordFrom 28 = .ok (.isub, 1) := dcX9_isWordFrom_2.2.1
theorem dX9_isWordFrom_29 : decode cX9_isWordFrom 29 = .ok (.invokevirtual 108, 3) := dcX9_isWordFrom_2.2.2.1
theorem dX9_isWordFrom_32 : decode cX9_isWordFrom 32 = .ok (.if_icmp .eq 5, 3) := dcX9_isWordFrom_2.2.2.2.1
theorem dX9_isWordFrom_35 : decode cX9_isWordFrom 35 = .ok (.iconst 0, 1) := dcX9_isWordFrom_2.2.2.2.2.1
theorem dX9_isWordFrom_36 : decode cX9_isWordFrom 36 = .ok (.ireturn, 1) := dcX9_isWordFrom_2.2.2.2.2.2.1
theorem dX9_isWordFrom_37 : decode cX9_isWordFrom 37 = .ok (.iinc 2 1, 3) := dcX9_isWordFrom_2.2.2.2.2.2.2.1
theorem dX9_isWordFrom_40 : decode cX9_isWordFrom 40 = .ok (.goto (-35), 3) := dcX9_isWordFrom_2.2.2.2.2.2.2.2
theorem dcX9_isWordFrom_3 : (decode cX9_isWordFrom 43 = .ok (.iconst 1, 1)) ∧ (decode cX9_isWordFrom 44 = .ok (.ireturn, 1)) := by decide +kernel
theorem dX9_isWordFrom_43 : decode cX9_isWordFrom 43 = .ok (.iconst 1, 1) := dcX9_isWordFrom_3.1
theorem dX9_isWordFrom_44 : decode cX9_isWordFrom 44 = .ok (.ireturn, 1) := dcX9_isWordFrom_3.2
theorem dcX9_stepNumber_0 : (decode cX9_stepNumber 0 = .ok (.aload_n 0, 1)) ∧ (decode cX9_stepNumber 1 = .ok (.iconst 0, 1)) ∧ (decode cX9_stepNumber 2 = .ok (.putfield 37, 3)) ∧ (decode cX9_stepNumber 5 = .ok (.aload_n 0, 1)) ∧ (decode cX9_stepNumber 6 = .ok (.getfield 31, 3)) ∧ (decode cX9_stepNumber 9 = .ok (.aload_n 0, 1)) ∧ (decode cX9_stepNumber 10 = .ok (.getfield 9, 3)) ∧ (decode cX9_stepNumber 13 = .ok (.if_icmp .ge 75, 3)) := by decide +kernel
theorem dX9_stepNumber_0 : decode cX9_stepNumber 0 = .ok (.aload_n 0, 1) := dcX9_stepNumber_0.1
theorem dX9_stepNumber_1 : decode cX9_stepNumber 1 = .ok (.iconst 0, 1) := dcX9_stepNumber_0.2.1
theorem dX9_stepNumber_2 : decode cX9_stepNumber 2 = .ok (.putfield 37, 3) := dcX9_stepNumber_0.2.2.1
theorem dX9_stepNumber_5 : decode cX9_stepNumber 5 = .ok (.aload_n 0, 1) := dcX9_stepNumber_0.2.2.2.1
theorem dX9_stepNumber_6 : decode cX9_stepNumber 6 = .ok (.getfield 31, 3) := dcX9_stepNumber_0.2.2.2.2.1
theorem dX9_stepNumber_9 : decode cX9_stepNumber 9 = .ok (.aload_n 0, 1) := dcX9_stepNumber_0.2.2.2.2.2.1
theorem dX9_stepNumber_10 : decode cX9_stepNumber 10 = .ok (.getfield 9, 3) := dcX9_stepNumber_0.2.2.2.2.2.2.1
theorem dX9_stepNumber_13 : decode cX9_stepNumber 13 = .ok (.if_icmp .ge 75, 3) := dcX9_stepNumber_0.2.2.2.2.2.2.2
theorem dcX9_stepNumber_1 : (decode cX9_stepNumber 16 = .ok (.aload_n 0, 1)) ∧ (decode cX9_stepNumber 17 = .ok (.getfield 18, 3)) ∧ (decode cX9_stepNumber 20 = .ok (.aload_n 0, 1)) ∧ (decode cX9_stepNumber 21 = .ok (.getfield 31, 3)) ∧ (decode cX9_stepNumber 24 = .ok (.iaload, 1)) ∧ (decode cX9_stepNumber 25 = .ok (.invokestatic 91, 3)) ∧ (decode cX9_stepNumber 28 = .ok (.ifCond .eq 60, 3)) ∧ (decode cX9_stepNumber 31 = .ok (.aload_n 0, 1)) := by decide +kernel
theorem dX9_stepNumber_16 : decode cX9_stepNumber 16 = .ok (.aload_n 0, 1) := dcX9_stepNumber_1.1
theorem dX9_stepNumber_17 : decode cX9_stepNumber 17 = .ok (.getfield 18, 3) := dcX9_stepNumber_1.2.1
theorem dX9_stepNumber_20 : decode cX9_stepNumber 20 = .ok (.aload_n 0, 1) := dcX9_stepNumber_1.2.2.1
theorem dX9_stepNumber_21 : decode cX9_stepNumber 21 = .ok (.getfield 31, 3) := dcX9_stepNumber_1.2.2.2.1
theorem dX9_stepNumber_24 : decode cX9_stepNumber 24 = .ok (.iaload, 1) := dcX9_stepNumber_1.2.2.2.2.1
theorem dX9_stepNumber_25 : decode cX9_stepNumber 25 = .ok (.invokestatic 91, 3) := dcX9_stepNumber_1.2.2.2.2.2.1
theorem dX9_stepNumber_28 : decode cX9_stepNumber 28 = .ok (.ifCond .eq 60, 3) := dcX9_stepNumber_1.2.2.2.2.2.2.1
theorem dX9_stepNumber_31 : decode cX9_stepNumber 31 = .ok (.aload_n 0, 1) := dcX9_stepNumber_1.2.2.2.2.2.2.2
theorem dcX9_stepNumber_2 : (decode cX9_stepNumber 32 = .ok (.aload_n 0, 1)) ∧ (decode cX9_stepNumber 33 = .ok (.getfield 31, 3)) ∧ (decode cX9_stepNumber 36 = .ok (.aload_n 0, 1)) ∧ (decode cX9_stepNumber 37 = .ok (.getfield 15, 3)) ∧ (decode cX9_stepNumber 40 = .ok (.isub, 1)) ∧ (decode cX9_stepNumber 41 = .ok (.iconst 4, 1)) ∧ (decode cX9_stepNumber 42 = .ok (.if_icmp .ge 26, 3)) ∧ (decode cX9_stepNumber 45 = .ok (.bipush 10, 2)) := by decide +kernel
theorem dX9_stepNumber_32 : decode cX9_stepNumber 32 = .ok (.aload_n 0, 1) := dcX9_stepNumber_2.1
theorem dX9_stepNumber_33 : decode cX9_stepNumber 33 = .ok (.getfield 31, 3) := dcX9_stepNumber_2.2.1
theorem dX9_stepNumber_36 : decode cX9_stepNumber 36 = .ok (.aload_n 0, 1) := dcX9_stepNumber_2.2.2.1
theorem dX9_stepNumber_37 : decode cX9_stepNumber 37 = .ok (.getfield 15, 3) := dcX9_stepNumber_2.2.2.2.1
theorem dX9_stepNumber_40 : decode cX9_stepNumber 40 = .ok (.isub, 1) := dcX9_stepNumber_2.2.2.2.2.1
theorem dX9_stepNumber_41 : decode cX9_stepNumber 41 = .ok (.iconst 4, 1) := dcX9_stepNumber_2.2.2.2.2.2.1
theorem dX9_stepNumber_42 : decode cX9_stepNumber 42 = .ok (.if_icmp .ge 26, 3) := dcX9_stepNumber_2.2.2.2.2.2.2.1
theorem dX9_stepNumber_45 : decode cX9_stepNumber 45 = .ok (.bipush 10, 2) := dcX9_stepNumber_2.2.2.2.2.2.2.2
theorem dcX9_stepNumber_3 : (decode cX9_stepNumber 47 = .ok (.aload_n 0, 1)) ∧ (decode cX9_stepNumber 48 = .ok (.getfield 37, 3)) ∧ (decode cX9_stepNumber 51 = .ok (.imul, 1)) ∧ (decode cX9_stepNumber 52 = .ok (.aload_n 0, 1)) ∧ (decode cX9_stepNumber 53 = .ok (.getfield 18, 3)) ∧ (decode cX9_stepNumber 56 = .ok (.aload_n 0, 1)) ∧ (decode cX9_stepNumber 57 = .ok (.getfield 31, 3)) ∧ (decode cX9_stepNumber 60 = .ok (.iaload, 1)) := by decide +kernel
theorem dX9_stepNumber_47 : decode cX9_stepNumber 47 = .ok (.aload_n 0, 1) := dcX9_stepNumber_3.1
theorem dX9_stepNumber_48 : decode cX9_stepNumber 48 = .ok (.getfield 37, 3) := dcX9_stepNumber_3.2.1
theorem dX9_stepNumber_51 : decode cX9_stepNumber 51 = .ok (.imul, 1) := dcX9_stepNumber_3.2.2.1
theorem dX9_stepNumber_52 : decode cX9_stepNumber 52 = .ok (.aload_n 0, 1) := dcX9_stepNumber_3.2.2.2.1
theorem dX9_stepNumber_53 : decode cX9_stepNumber 53 = .ok (.getfield 18, 3) := dcX9_stepNumber_3.2.2.2.2.1
theorem dX9_stepNumber_56 : decode cX9_stepNumber 56 = .ok (.aload_n 0, 1) := dcX9_stepNumber_3.2.2.2.2.2.1
theorem dX9_stepNumber_57 : decode cX9_stepNumber 57 = .ok (.getfield 31, 3) := dcX9_stepNumber_3.2.2.2.2.2.2.1
theorem dX9_stepNumber_60 : decode cX9_stepNumber 60 = .ok (.iaload, 1) := dcX9_stepNumber_3.2.2.2.2.2.2.2
theorem dcX9_stepNumber_4 : (decode cX9_stepNumber 61 = .ok (.iadd, 1)) ∧ (decode cX9_stepNumber 62 = .ok (.bipush 48, 2)) ∧ (decode cX9_stepNumber 64 = .ok (.isub, 1)) ∧ (decode cX9_stepNumber 65 = .ok (.goto 7, 3)) ∧ (decode cX9_stepNumber 68 = .ok (.aload_n 0, 1)) ∧ (decode cX9_stepNumber 69 = .ok (.getfield 37, 3)) ∧ (decode cX9_stepNumber 72 = .ok (.putfield 37, 3)) ∧ (decode cX9_stepNumber 75 = .ok (.aload_n 0, 1)) := by decide +kernel
theorem dX9_stepNumber_61 : decode cX9_stepNumber 61 = .ok (.iadd, 1) := dcX9_stepNumber_4.1
theorem dX9_stepNumber_62 : decode cX9_stepNumber 62 = .ok (.bipush 48, 2) := dcX9_stepNumber_4.2.1
theorem dX9_stepNumber_64 : decode cX9_stepNumber 64 = .ok (.isub, 1) := dcX9_stepNumber_4.2.2.1
theorem dX9_stepNumber_65 : decode cX9_stepNumber 65 = .ok (.goto 7, 3) := dcX9_stepNumber_4.2.2.2.1
theorem dX9_stepNumber_68 : decode cX9_stepNumber 68 = .ok (.aload_n 0, 1) := dcX9_stepNumber_4.2.2.2.2.1
theorem dX9_stepNumber_69 : decode cX9_stepNumber 69 = .ok (.getfield 37, 3) := dcX9_stepNumber_4.2.2.2.2.2.1
theorem dX9_stepNumber_72 : decode cX9_stepNumber 72 = .ok (.putfield 37, 3) := dcX9_stepNumber_4.2.2.2.2.2.2.1
theorem dX9_stepNumber_75 : decode cX9_stepNumber 75 = .ok (.aload_n 0, 1) := dcX9_stepNumber_4.2.2.2.2.2.2.2
theorem dcX9_stepNumber_5 : (decode cX9_stepNumber 76 = .ok (.dup, 1)) ∧ (decode cX9_stepNumber 77 = .ok (.getfield 31, 3)) ∧ (decode cX9_stepNumber 80 = .ok (.iconst 1, 1)) ∧ (decode cX9_stepNumber 81 = .ok (.iadd, 1)) ∧ (decode cX9_stepNumber 82 = .ok (.putfield 31, 3)) ∧ (decode cX9_stepNumber 85 = .ok (.goto (-80), 3)) ∧ (decode cX9_stepNumber 88 = .ok (.aload_n 0, 1)) ∧ (decode cX9_stepNumber 89 = .ok (.aload_n 0, 1)) := by decide +kernel
theorem dX9_stepNumber_76 : decode cX9_stepNumber 76 = .ok (.dup, 1) := dcX9_stepNumber_5.1
theorem dX9_stepNumber_77 : decode cX9_stepNumber 77 = .ok (.getfield 31, 3) := dcX9_stepNumber_5.2.1
theorem dX9_stepNumber_80 : decode cX9_stepNumber 80 = .ok (.iconst 1, 1) := dcX9_stepNumber_5.2.2.1
theorem dX9_stepNumber_81 : decode cX9_stepNumber 81 = .ok (.iadd, 1) := dcX9_stepNumber_5.2.2.2.1
theorem dX9_stepNumber_82 : decode cX9_stepNumber 82 = .ok (.putfield 31, 3) := dcX9_stepNumber_5.2.2.2.2.1
theorem dX9_stepNumber_85 : decode cX9_stepNumber 85 = .ok (.goto (-80), 3) := dcX9_stepNumber_5.2.2.2.2.2.1
theorem dX9_stepNumber_88 : decode cX9_stepNumber 88 = .ok (.aload_n 0, 1) := dcX9_stepNumber_5.2.2.2.2.2.2.1
theorem dX9_stepNumber_89 : decode cX9_stepNumber 89 = .ok (.aload_n 0, 1) := dcX9_stepNumber_5.2.2.2.2.2.2.2
theorem dcX9_stepNumber_6 : (decode cX9_stepNumber 90 = .ok (.getfield 31, 3)) ∧ (decode cX9_stepNumber 93 = .ok (.aload_n 0, 1)) ∧ (decode cX9_stepNumber 94 = .ok (.getfield 15, 3)) ∧ (decode cX9_stepNumber 97 = .ok (.isub, 1)) ∧ (decode cX9_stepNumber 98 = .ok (.iconst 4, 1)) ∧ (decode cX9_stepNumber 99 = .ok (.if_icmp .le 7, 3)) ∧ (decode cX9_stepNumber 102 = .ok (.iconst 2, 1)) ∧ (decode cX9_stepNumber 103 = .ok (.goto 4, 3)) := by decide +kernel
theorem dX9_stepNumber_90 : decode cX9_stepNumber 90 = .ok (.getfield 31, 3) := dcX9_stepNumber_6.1
theorem dX9_stepNumber_93 : decode cX9_stepNumber 93 = .ok (.aload_n 0, 1) := dcX9_stepNumber_6.2.1
theorem dX9_stepNumber_94 : decode cX9_stepNumber 94 = .ok (.getfield 15, 3) := dcX9_stepNumber_6.2.2.1
theorem dX9_stepNumber_97 : decode cX9_stepNumber 97 = .ok (.isub, 1) := dcX9_stepNumber_6.2.2.2.1
theorem dX9_stepNumber_98 : decode cX9_stepNumber 98 = .ok (.iconst 4, 1) := dcX9_stepNumber_6.2.2.2.2.1
theorem dX9_stepNumber_99 : decode cX9_stepNumber 99 = .ok (.if_icmp .le 7, 3) := dcX9_stepNumber_6.2.2.2.2.2.1
theorem dX9_stepNumber_102 : decode cX9_stepNumber 102 = .ok (.iconst 2, 1) := dcX9_stepNumber_6.2.2.2.2.2.2.1
theorem dX9_stepNumber_103 : decode cX9_stepNumber 103 = .ok (.goto 4, 3) := dcX9_stepNumber_6.2.2.2.2.2.2.2
theorem dcX9_stepNumber_7 : (decode cX9_stepNumber 106 = .ok (.iconst 1, 1)) ∧ (decode cX9_stepNumber 107 = .ok (.putfield 34, 3)) ∧ (decode cX9_stepNumber 110 = .ok (.return_, 1)) := by decide +kernel
theorem dX9_stepNumber_106 : decode cX9_stepNumber 106 = .ok (.iconst 1, 1) := dcX9_stepNumber_7.1
theorem dX9_stepNumber_107 : decode cX9_stepNumber 107 = .ok (.putfield 34, 3) := dcX9_stepNumber_7.2.1
theorem dX9_stepNumber_110 : decode cX9_stepNumber 110 = .ok (.return_, 1) := dcX9_stepNumber_7.2.2
theorem dcX9_isLetter_0 : (decode cX9_isLetter 0 = .ok (.iload_n 0, 1)) ∧ (decode cX9_isLetter 1 = .ok (.bipush 97, 2)) ∧ (decode cX9_isLetter 3 = .ok (.if_icmp .lt 13, 3)) ∧ (decode cX9_isLetter 6 = .ok (.iload_n 0, 1)) ∧ (decode cX9_isLetter 7 = .ok (.bipush 122, 2)) ∧ (decode cX9_isLetter 9 = .ok (.if_icmp .gt 7, 3)) ∧ (decode cX9_isLetter 12 = .ok (.iconst 1, 1)) ∧ (decode cX9_isLetter 13 = .ok (.goto 4, 3)) := by decide +kernel
theorem dX9_isLetter_0 : decode cX9_isLetter 0 = .ok (.iload_n 0, 1) := dcX9_isLetter_0.1
theorem dX9_isLetter_1 : decode cX9_isLetter 1 = .ok (.bipush 97, 2) := dcX9_isLetter_0.2.1
theorem dX9_isLetter_3 : decode cX9_isLetter 3 = .ok (.if_icmp .lt 13, 3) := dcX9_isLetter_0.2.2.1
theorem dX9_isLetter_6 : decode cX9_isLetter 6 = .ok (.iload_n 0, 1) := dcX9_isLetter_0.2.2.2.1
theorem dX9_isLetter_7 : decode cX9_isLetter 7 = .ok (.bipush 122, 2) := dcX9_isLetter_0.2.2.2.2.1
theorem dX9_isLetter_9 : decode cX9_isLetter 9 = .ok (.if_icmp .gt 7, 3) := dcX9_isLetter_0.2.2.2.2.2.1
theorem dX9_isLetter_12 : decode cX9_isLetter 12 = .ok (.iconst 1, 1) := dcX9_isLetter_0.2.2.2.2.2.2.1
theorem dX9_isLetter_13 : decode cX9_isLetter 13 = .ok (.goto 4, 3) := dcX9_isLetter_0.2.2.2.2.2.2.2
theorem dcX9_isLetter_1 : (decode cX9_isLetter 16 = .ok (.iconst 0, 1)) ∧ (decode cX9_isLetter 17 = .ok (.ireturn, 1)) := by decide +kernel
theorem dX9_isLetter_16 : decode cX9_isLetter 16 = .ok (.iconst 0, 1) := dcX9_isLetter_1.1
theorem dX9_isLetter_17 : decode cX9_isLetter 17 = .ok (.ireturn, 1) := dcX9_isLetter_1.2
theorem dcX9_isDigit_0 : (decode cX9_isDigit 0 = .ok (.iload_n 0, 1)) ∧ (decode cX9_isDigit 1 = .ok (.bipush 48, 2)) ∧ (decode cX9_isDigit 3 = .ok (.if_icmp .lt 13, 3)) ∧ (decode cX9_isDigit 6 = .ok (.iload_n 0, 1)) ∧ (decode cX9_isDigit 7 = .ok (.bipush 57, 2)) ∧ (decode cX9_isDigit 9 = .ok (.if_icmp .gt 7, 3)) ∧ (decode cX9_isDigit 12 = .ok (.iconst 1, 1)) ∧ (decode cX9_isDigit 13 = .ok (.goto 4, 3)) := by decide +kernel
theorem dX9_isDigit_0 : decode cX9_isDigit 0 = .ok (.iload_n 0, 1) := dcX9_isDigit_0.1
theorem dX9_isDigit_1 : decode cX9_isDigit 1 = .ok (.bipush 48, 2) := dcX9_isDigit_0.2.1
theorem dX9_isDigit_3 : decode cX9_isDigit 3 = .ok (.if_icmp .lt 13, 3) := dcX9_isDigit_0.2.2.1
theorem dX9_isDigit_6 : decode cX9_isDigit 6 = .ok (.iload_n 0, 1) := dcX9_isDigit_0.2.2.2.1
theorem dX9_isDigit_7 : decode cX9_isDigit 7 = .ok (.bipush 57, 2) := dcX9_isDigit_0.2.2.2.2.1
theorem dX9_isDigit_9 : decode cX9_isDigit 9 = .ok (.if_icmp .gt 7, 3) := dcX9_isDigit_0.2.2.2.2.2.1
theorem dX9_isDigit_12 : decode cX9_isDigit 12 = .ok (.iconst 1, 1) := dcX9_isDigit_0.2.2.2.2.2.2.1
theorem dX9_isDigit_13 : decode cX9_isDigit 13 = .ok (.goto 4, 3) := dcX9_isDigit_0.2.2.2.2.2.2.2
theorem dcX9_isDigit_1 : (decode cX9_isDigit 16 = .ok (.iconst 0, 1)) ∧ (decode cX9_isDigit 17 = .ok (.ireturn, 1)) := by decide +kernel
theorem dX9_isDigit_16 : decode cX9_isDigit 16 = .ok (.iconst 0, 1) := dcX9_isDigit_1.1
theorem dX9_isDigit_17 : decode cX9_isDigit 17 = .ok (.ireturn, 1) := dcX9_isDigit_1.2
theorem dcX9_isSign_0 : (decode cX9_isSign 0 = .ok (.iload_n 0, 1)) ∧ (decode cX9_isSign 1 = .ok (.bipush 40, 2)) ∧ (decode cX9_isSign 3 = .ok (.if_icmp .eq 45, 3)) ∧ (decode cX9_isSign 6 = .ok (.iload_n 0, 1)) ∧ (decode cX9_isSign 7 = .ok (.bipush 41, 2)) ∧ (decode cX9_isSign 9 = .ok (.if_icmp .eq 39, 3)) ∧ (decode cX9_isSign 12 = .ok (.iload_n 0, 1)) ∧ (decode cX9_isSign 13 = .ok (.bipush 59, 2)) := by decide +kernel
theorem dX9_isSign_0 : decode cX9_isSign 0 = .ok (.iload_n 0, 1) := dcX9_isSign_0.1
theorem dX9_isSign_1 : decode cX9_isSign 1 = .ok (.bipush 40, 2) := dcX9_isSign_0.2.1
theorem dX9_isSign_3 : decode cX9_isSign 3 = .ok (.if_icmp .eq 45, 3) := dcX9_isSign_0.2.2.1
theorem dX9_isSign_6 : decode cX9_isSign 6 = .ok (.iload_n 0, 1) := dcX9_isSign_0.2.2.2.1
theorem dX9_isSign_7 : decode cX9_isSign 7 = .ok (.bipush 41, 2) := dcX9_isSign_0.2.2.2.2.1
theorem dX9_isSign_9 : decode cX9_isSign 9 = .ok (.if_icmp .eq 39, 3) := dcX9_isSign_0.2.2.2.2.2.1
theorem dX9_isSign_12 : decode cX9_isSign 12 = .ok (.iload_n 0, 1) := dcX9_isSign_0.2.2.2.2.2.2.1
theorem dX9_isSign_13 : decode cX9_isSign 13 = .ok (.bipush 59, 2) := dcX9_isSign_0.2.2.2.2.2.2.2
theorem dcX9_isSign_1 : (decode cX9_isSign 15 = .ok (.if_icmp .eq 33, 3)) ∧ (decode cX9_isSign 18 = .ok (.iload_n 0, 1)) ∧ (decode cX9_isSign 19 = .ok (.bipush 43, 2)) ∧ (decode cX9_isSign 21 = .ok (.if_icmp .eq 27, 3)) ∧ (decode cX9_isSign 24 = .ok (.iload_n 0, 1)) ∧ (decode cX9_isSign 25 = .ok (.bipush 45, 2)) ∧ (decode cX9_isSign 27 = .ok (.if_icmp .eq 21, 3)) ∧ (decode cX9_isSign 30 = .ok (.iload_n 0, 1)) := by decide +kernel
theorem dX9_isSign_15 : decode cX9_isSign 15 = .ok (.if_icmp .eq 33, 3) := dcX9_isSign_1.1
theorem dX9_isSign_18 : decode cX9_isSign 18 = .ok (.iload_n 0, 1) := dcX9_isSign_1.2.1
theorem dX9_isSign_19 : decode cX9_isSign 19 = .ok (.bipush 43, 2) := dcX9_isSign_1.2.2.1
theorem dX9_isSign_21 : decode cX9_isSign 21 = .ok (.if_icmp .eq 27, 3) := dcX9_isSign_1.2.2.2.1
theorem dX9_isSign_24 : decode cX9_isSign 24 = .ok (.iload_n 0, 1) := dcX9_isSign_1.2.2.2.2.1
theorem dX9_isSign_25 : decode cX9_isSign 25 = .ok (.bipush 45, 2) := dcX9_isSign_1.2.2.2.2.2.1
theorem dX9_isSign_27 : decode cX9_isSign 27 = .ok (.if_icmp .eq 21, 3) := dcX9_isSign_1.2.2.2.2.2.2.1
theorem dX9_isSign_30 : decode cX9_isSign 30 = .ok (.iload_n 0, 1) := dcX9_isSign_1.2.2.2.2.2.2.2
theorem dcX9_isSign_2 : (decode cX9_isSign 31 = .ok (.bipush 42, 2)) ∧ (decode cX9_isSign 33 = .ok (.if_icmp .eq 15, 3)) ∧ (decode cX9_isSign 36 = .ok (.iload_n 0, 1)) ∧ (decode cX9_isSign 37 = .ok (.bipush 60, 2)) ∧ (decode cX9_isSign 39 = .ok (.if_icmp .eq 9, 3)) ∧ (decode cX9_isSign 42 = .ok (.iload_n 0, 1)) ∧ (decode cX9_isSign 43 = .ok (.bipush 61, 2)) ∧ (decode cX9_isSign 45 = .ok (.if_icmp .ne 7, 3)) := by decide +kernel
theorem dX9_isSign_31 : decode cX9_isSign 31 = .ok (.bipush 42, 2) := dcX9_isSign_2.1
theorem dX9_isSign_33 : decode cX9_isSign 33 = .ok (.if_icmp .eq 15, 3) := dcX9_isSign_2.2.1
theorem dX9_isSign_36 : decode cX9_isSign 36 = .ok (.iload_n 0, 1) := dcX9_isSign_2.2.2.1
theorem dX9_isSign_37 : decode cX9_isSign 37 = .ok (.bipush 60, 2) := dcX9_isSign_2.2.2.2.1
theorem dX9_isSign_39 : decode cX9_isSign 39 = .ok (.if_icmp .eq 9, 3) := dcX9_isSign_2.2.2.2.2.1
theorem dX9_isSign_42 : decode cX9_isSign 42 = .ok (.iload_n 0, 1) := dcX9_isSign_2.2.2.2.2.2.1
theorem dX9_isSign_43 : decode cX9_isSign 43 = .ok (.bipush 61, 2) := dcX9_isSign_2.2.2.2.2.2.2.1
theorem dX9_isSign_45 : decode cX9_isSign 45 = .ok (.if_icmp .ne 7, 3) := dcX9_isSign_2.2.2.2.2.2.2.2
theorem dcX9_isSign_3 : (decode cX9_isSign 48 = .ok (.iconst 1, 1)) ∧ (decode cX9_isSign 49 = .ok (.goto 4, 3)) ∧ (decode cX9_isSign 52 = .ok (.iconst 0, 1)) ∧ (decode cX9_isSign 53 = .ok (.ireturn, 1)) := by decide +kernel
theorem dX9_isSign_48 : decode cX9_isSign 48 = .ok (.iconst 1, 1) := dcX9_isSign_3.1
theorem dX9_isSign_49 : decode cX9_isSign 49 = .ok (.goto 4, 3) := dcX9_isSign_3.2.1
theorem dX9_isSign_52 : decode cX9_isSign 52 = .ok (.iconst 0, 1) := dcX9_isSign_3.2.2.1
theorem dX9_isSign_53 : decode cX9_isSign 53 = .ok (.ireturn, 1) := dcX9_isSign_3.2.2.2
theorem dcX10_init_0 : (decode cX10_init 0 = .ok (.aload_n 0, 1)) ∧ (decode cX10_init 1 = .ok (.invokespecial 3, 3)) ∧ (decode cX10_init 4 = .ok (.aload_n 0, 1)) ∧ (decode cX10_init 5 = .ok (.bipush 40, 2)) ∧ (decode cX10_init 7 = .ok (.newarray .int, 2)) ∧ (decode cX10_init 9 = .ok (.putfield 9, 3)) ∧ (decode cX10_init 12 = .ok (.aload_n 0, 1)) ∧ (decode cX10_init 13 = .ok (.aload_n 1, 1)) := by decide +kernel
theorem dX10_init_0 : decode cX10_init 0 = .ok (.aload_n 0, 1) := dcX10_init_0.1
theorem dX10_init_1 : decode cX10_init 1 = .ok (.invokespecial 3, 3) := dcX10_init_0.2.1
theorem dX10_init_4 : decode cX10_init 4 = .ok (.aload_n 0, 1) := dcX10_init_0.2.2.1
theorem dX10_init_5 : decode cX10_init 5 = .ok (.bipush 40, 2) := dcX10_init_0.2.2.2.1
theorem dX10_init_7 : decode cX10_init 7 = .ok (.newarray .int, 2) := dcX10_init_0.2.2.2.2.1
theorem dX10_init_9 : decode cX10_init 9 = .ok (.putfield 9, 3) := dcX10_init_0.2.2.2.2.2.1
theorem dX10_init_12 : decode cX10_init 12 = .ok (.aload_n 0, 1) := dcX10_init_0.2.2.2.2.2.2.1
theorem dX10_init_13 : decode cX10_init 13 = .ok (.aload_n 1, 1) := dcX10_init_0.2.2.2.2.2.2.2
theorem dcX10_init_1 : (decode cX10_init 14 = .ok (.putfield 15, 3)) ∧ (decode cX10_init 17 = .ok (.aload_n 0, 1)) ∧ (decode cX10_init 18 = .ok (.aload_n 2, 1)) ∧ (decode cX10_init 19 = .ok (.putfield 18, 3)) ∧ (decode cX10_init 22 = .ok (.return_, 1)) := by decide +kernel
theorem dX10_init_14 : decode cX10_init 14 = .ok (.putfield 15, 3) := dcX10_init_1.1
theorem dX10_init_17 : decode cX10_init 17 = .ok (.aload_n 0, 1) := dcX10_init_1.2.1
theorem dX10_init_18 : decode cX10_init 18 = .ok (.aload_n 2, 1) := dcX10_init_1.2.2.1
theorem dX10_init_19 : decode cX10_init 19 = .ok (.putfield 18, 3) := dcX10_init_1.2.2.2.1
theorem dX10_init_22 : decode cX10_init 22 = .ok (.return_, 1) := dcX10_init_1.2.2.2.2
theorem dcX10_worth_0 : (decode cX10_worth 0 = .ok (.iconst 0, 1)) ∧ (decode cX10_worth 1 = .ok (.istore_n 3, 1)) ∧ (decode cX10_worth 2 = .ok (.iload_n 1, 1)) ∧ (decode cX10_worth 3 = .ok (.ifCond .ne 7, 3)) ∧ (decode cX10_worth 6 = .ok (.iconst 0, 1)) ∧ (decode cX10_worth 7 = .ok (.goto 11, 3)) ∧ (decode cX10_worth 10 = .ok (.aload_n 0, 1)) ∧ (decode cX10_worth 11 = .ok (.getfield 18, 3)) := by decide +kernel
theorem dX10_worth_0 : decode cX10_worth 0 = .ok (.iconst 0, 1) := dcX10_worth_0.1
theorem dX10_worth_1 : decode cX10_worth 1 = .ok (.istore_n 3, 1) := dcX10_worth_0.2.1
theorem dX10_worth_2 : decode cX10_worth 2 = .ok (.iload_n 1, 1) := dcX10_worth_0.2.2.1
theorem dX10_worth_3 : decode cX10_worth 3 = .ok (.ifCond .ne 7, 3) := dcX10_worth_0.2.2.2.1
theorem dX10_worth_6 : decode cX10_worth 6 = .ok (.iconst 0, 1) := dcX10_worth_0.2.2.2.2.1
theorem dX10_worth_7 : decode cX10_worth 7 = .ok (.goto 11, 3) := dcX10_worth_0.2.2.2.2.2.1
theorem dX10_worth_10 : decode cX10_worth 10 = .ok (.aload_n 0, 1) := dcX10_worth_0.2.2.2.2.2.2.1
theorem dX10_worth_11 : decode cX10_worth 11 = .ok (.getfield 18, 3) := dcX10_worth_0.2.2.2.2.2.2.2
theorem dcX10_worth_1 : (decode cX10_worth 14 = .ok (.iload_n 1, 1)) ∧ (decode cX10_worth 15 = .ok (.iconst 1, 1)) ∧ (decode cX10_worth 16 = .ok (.isub, 1)) ∧ (decode cX10_worth 17 = .ok (.iaload, 1)) ∧ (decode cX10_worth 18 = .ok (.istore 4, 2)) ∧ (decode cX10_worth 20 = .ok (.iload 4, 2)) ∧ (decode cX10_worth 22 = .ok (.aload_n 0, 1)) ∧ (decode cX10_worth 23 = .ok (.getfield 18, 3)) := by decide +kernel
theorem dX10_worth_14 : decode cX10_worth 14 = .ok (.iload_n 1, 1) := dcX10_worth_1.1
theorem dX10_worth_15 : decode cX10_worth 15 = .ok (.iconst 1, 1) := dcX10_worth_1.2.1
theorem dX10_worth_16 : decode cX10_worth 16 = .ok (.isub, 1) := dcX10_worth_1.2.2.1
theorem dX10_worth_17 : decode cX10_worth 17 = .ok (.iaload, 1) := dcX10_worth_1.2.2.2.1
theorem dX10_worth_18 : decode cX10_worth 18 = .ok (.istore 4, 2) := dcX10_worth_1.2.2.2.2.1
theorem dX10_worth_20 : decode cX10_worth 20 = .ok (.iload 4, 2) := dcX10_worth_1.2.2.2.2.2.1
theorem dX10_worth_22 : decode cX10_worth 22 = .ok (.aload_n 0, 1) := dcX10_worth_1.2.2.2.2.2.2.1
theorem dX10_worth_23 : decode cX10_worth 23 = .ok (.getfield 18, 3) := dcX10_worth_1.2.2.2.2.2.2.2
theorem dcX10_worth_2 : (decode cX10_worth 26 = .ok (.iload_n 1, 1)) ∧ (decode cX10_worth 27 = .ok (.iaload, 1)) ∧ (decode cX10_worth 28 = .ok (.if_icmp .ge 186, 3)) ∧ (decode cX10_worth 31 = .ok (.aload_n 0, 1)) ∧ (decode cX10_worth 32 = .ok (.getfield 15, 3)) ∧ (decode cX10_worth 35 = .ok (.iload 4, 2)) ∧ (decode cX10_worth 37 = .ok (.iaload, 1)) ∧ (decode cX10_worth 38 = .ok (.istore 5, 2)) := by decide +kernel
theorem dX10_worth_26 : decode cX10_worth 26 = .ok (.iload_n 1, 1) := dcX10_worth_2.1
theorem dX10_worth_27 : decode cX10_worth 27 = .ok (.iaload, 1) := dcX10_worth_2.2.1
theorem dX10_worth_28 : decode cX10_worth 28 = .ok (.if_icmp .ge 186, 3) := dcX10_worth_2.2.2.1
theorem dX10_worth_31 : decode cX10_worth 31 = .ok (.aload_n 0, 1) := dcX10_worth_2.2.2.2.1
theorem dX10_worth_32 : decode cX10_worth 32 = .ok (.getfield 15, 3) := dcX10_worth_2.2.2.2.2.1
theorem dX10_worth_35 : decode cX10_worth 35 = .ok (.iload 4, 2) := dcX10_worth_2.2.2.2.2.2.1
theorem dX10_worth_37 : decode cX10_worth 37 = .ok (.iaload, 1) := dcX10_worth_2.2.2.2.2.2.2.1
theorem dX10_worth_38 : decode cX10_worth 38 = .ok (.istore 5, 2) := dcX10_worth_2.2.2.2.2.2.2.2
theorem dcX10_worth_3 : (decode cX10_worth 40 = .ok (.iload 5, 2)) ∧ (decode cX10_worth 42 = .ok (.ineg, 1)) ∧ (decode cX10_worth 43 = .ok (.sipush 262, 3)) ∧ (decode cX10_worth 46 = .ok (.isub, 1)) ∧ (decode cX10_worth 47 = .ok (.iconst 5, 1)) ∧ (decode cX10_worth 48 = .ok (.invokestatic 21, 3)) ∧ (decode cX10_worth 51 = .ok (.istore 6, 2)) ∧ (decode cX10_worth 53 = .ok (.iload 5, 2)) := by decide +kernel
theorem dX10_worth_40 : decode cX10_worth 40 = .ok (.iload 5, 2) := dcX10_worth_3.1
theorem dX10_worth_42 : decode cX10_worth 42 = .ok (.ineg, 1) := dcX10_worth_3.2.1
theorem dX10_worth_43 : decode cX10_worth 43 = .ok (.sipush 262, 3) := dcX10_worth_3.2.2.1
theorem dX10_worth_46 : decode cX10_worth 46 = .ok (.isub, 1) := dcX10_worth_3.2.2.2.1
theorem dX10_worth_47 : decode cX10_worth 47 = .ok (.iconst 5, 1) := dcX10_worth_3.2.2.2.2.1
theorem dX10_worth_48 : decode cX10_worth 48 = .ok (.invokestatic 21, 3) := dcX10_worth_3.2.2.2.2.2.1
theorem dX10_worth_51 : decode cX10_worth 51 = .ok (.istore 6, 2) := dcX10_worth_3.2.2.2.2.2.2.1
theorem dX10_worth_53 : decode cX10_worth 53 = .ok (.iload 5, 2) := dcX10_worth_3.2.2.2.2.2.2.2
theorem dcX10_worth_4 : (decode cX10_worth 55 = .ok (.ifCond .ge 8, 3)) ∧ (decode cX10_worth 58 = .ok (.iload 6, 2)) ∧ (decode cX10_worth 60 = .ok (.ifCond .eq 40, 3)) ∧ (decode cX10_worth 63 = .ok (.iload_n 3, 1)) ∧ (decode cX10_worth 64 = .ok (.bipush 40, 2)) ∧ (decode cX10_worth 66 = .ok (.if_icmp .ge 34, 3)) ∧ (decode cX10_worth 69 = .ok (.aload_n 0, 1)) ∧ (decode cX10_worth 70 = .ok (.getfield 9, 3)) := by decide +kernel
theorem dX10_worth_55 : decode cX10_worth 55 = .ok (.ifCond .ge 8, 3) := dcX10_worth_4.1
theorem dX10_worth_58 : decode cX10_worth 58 = .ok (.iload 6, 2) := dcX10_worth_4.2.1
theorem dX10_worth_60 : decode cX10_worth 60 = .ok (.ifCond .eq 40, 3) := dcX10_worth_4.2.2.1
theorem dX10_worth_63 : decode cX10_worth 63 = .ok (.iload_n 3, 1) := dcX10_worth_4.2.2.2.1
theorem dX10_worth_64 : decode cX10_worth 64 = .ok (.bipush 40, 2) := dcX10_worth_4.2.2.2.2.1
theorem dX10_worth_66 : decode cX10_worth 66 = .ok (.if_icmp .ge 34, 3) := dcX10_worth_4.2.2.2.2.2.1
theorem dX10_worth_69 : decode cX10_worth 69 = .ok (.aload_n 0, 1) := dcX10_worth_4.2.2.2.2.2.2.1
theorem dX10_worth_70 : decode cX10_worth 70 = .ok (.getfield 9, 3) := dcX10_worth_4.2.2.2.2.2.2.2
theorem dcX10_worth_5 : (decode cX10_worth 73 = .ok (.iload_n 3, 1)) ∧ (decode cX10_worth 74 = .ok (.iload 6, 2)) ∧ (decode cX10_worth 76 = .ok (.ifCond .eq 15, 3)) ∧ (decode cX10_worth 79 = .ok (.aload_n 2, 1)) ∧ (decode cX10_worth 80 = .ok (.iload 5, 2)) ∧ (decode cX10_worth 82 = .ok (.ineg, 1)) ∧ (decode cX10_worth 83 = .ok (.sipush 262, 3)) ∧ (decode cX10_worth 86 = .ok (.isub, 1)) := by decide +kernel
theorem dX10_worth_73 : decode cX10_worth 73 = .ok (.iload_n 3, 1) := dcX10_worth_5.1
theorem dX10_worth_74 : decode cX10_worth 74 = .ok (.iload 6, 2) := dcX10_worth_5.2.1
theorem dX10_worth_76 : decode cX10_worth 76 = .ok (.ifCond .eq 15, 3) := dcX10_worth_5.2.2.1
theorem dX10_worth_79 : decode cX10_worth 79 = .ok (.aload_n 2, 1) := dcX10_worth_5.2.2.2.1
theorem dX10_worth_80 : decode cX10_worth 80 = .ok (.iload 5, 2) := dcX10_worth_5.2.2.2.2.1
theorem dX10_worth_82 : decode cX10_worth 82 = .ok (.ineg, 1) := dcX10_worth_5.2.2.2.2.2.1
theorem dX10_worth_83 : decode cX10_worth 83 = .ok (.sipush 262, 3) := dcX10_worth_5.2.2.2.2.2.2.1
theorem dX10_worth_86 : decode cX10_worth 86 = .ok (.isub, 1) := dcX10_worth_5.2.2.2.2.2.2.2
theorem dcX10_worth_6 : (decode cX10_worth 87 = .ok (.iaload, 1)) ∧ (decode cX10_worth 88 = .ok (.goto 5, 3)) ∧ (decode cX10_worth 91 = .ok (.iload 5, 2)) ∧ (decode cX10_worth 93 = .ok (.iastore, 1)) ∧ (decode cX10_worth 94 = .ok (.iinc 3 1, 3)) ∧ (decode cX10_worth 97 = .ok (.goto 111, 3)) ∧ (decode cX10_worth 100 = .ok (.iload 5, 2)) ∧ (decode cX10_worth 102 = .ok (.sipush (-261), 3)) := by decide +kernel
theorem dX10_worth_87 : decode cX10_worth 87 = .ok (.iaload, 1) := dcX10_worth_6.1
theorem dX10_worth_88 : decode cX10_worth 88 = .ok (.goto 5, 3) := dcX10_worth_6.2.1
theorem dX10_worth_91 : decode cX10_worth 91 = .ok (.iload 5, 2) := dcX10_worth_6.2.2.1
theorem dX10_worth_93 : decode cX10_worth 93 = .ok (.iastore, 1) := dcX10_worth_6.2.2.2.1
theorem dX10_worth_94 : decode cX10_worth 94 = .ok (.iinc 3 1, 3) := dcX10_worth_6.2.2.2.2.1
theorem dX10_worth_97 : decode cX10_worth 97 = .ok (.goto 111, 3) := dcX10_worth_6.2.2.2.2.2.1
theorem dX10_worth_100 : decode cX10_worth 100 = .ok (.iload 5, 2) := dcX10_worth_6.2.2.2.2.2.2.1
theorem dX10_worth_102 : decode cX10_worth 102 = .ok (.sipush (-261), 3) := dcX10_worth_6.2.2.2.2.2.2.2
theorem dcX10_worth_7 : (decode cX10_worth 105 = .ok (.if_icmp .ne 35, 3)) ∧ (decode cX10_worth 108 = .ok (.iload_n 3, 1)) ∧ (decode cX10_worth 109 = .ok (.iconst 1, 1)) ∧ (decode cX10_worth 110 = .ok (.if_icmp .lt 30, 3)) ∧ (decode cX10_worth 113 = .ok (.aload_n 0, 1)) ∧ (decode cX10_worth 114 = .ok (.getfield 9, 3)) ∧ (decode cX10_worth 117 = .ok (.iload_n 3, 1)) ∧ (decode cX10_worth 118 = .ok (.iconst 1, 1)) := by decide +kernel
theorem dX10_worth_105 : decode cX10_worth 105 = .ok (.if_icmp .ne 35, 3) := dcX10_worth_7.1
theorem dX10_worth_108 : decode cX10_worth 108 = .ok (.iload_n 3, 1) := dcX10_worth_7.2.1
theorem dX10_worth_109 : decode cX10_worth 109 = .ok (.iconst 1, 1) := dcX10_worth_7.2.2.1
theorem dX10_worth_110 : decode cX10_worth 110 = .ok (.if_icmp .lt 30, 3) := dcX10_worth_7.2.2.2.1
theorem dX10_worth_113 : decode cX10_worth 113 = .ok (.aload_n 0, 1) := dcX10_worth_7.2.2.2.2.1
theorem dX10_worth_114 : decode cX10_worth 114 = .ok (.getfield 9, 3) := dcX10_worth_7.2.2.2.2.2.1
theorem dX10_worth_117 : decode cX10_worth 117 = .ok (.iload_n 3, 1) := dcX10_worth_7.2.2.2.2.2.2.1
theorem dX10_worth_118 : decode cX10_worth 118 = .ok (.iconst 1, 1) := dcX10_worth_7.2.2.2.2.2.2.2
theorem dcX10_worth_8 : (decode cX10_worth 119 = .ok (.isub, 1)) ∧ (decode cX10_worth 120 = .ok (.aload_n 0, 1)) ∧ (decode cX10_worth 121 = .ok (.getfield 9, 3)) ∧ (decode cX10_worth 124 = .ok (.iload_n 3, 1)) ∧ (decode cX10_worth 125 = .ok (.iconst 1, 1)) ∧ (decode cX10_worth 126 = .ok (.isub, 1)) ∧ (decode cX10_worth 127 = .ok (.iaload, 1)) ∧ (decode cX10_worth 128 = .ok (.ifCond .ne 7, 3)) := by decide +kernel
theorem dX10_worth_119 : decode cX10_worth 119 = .ok (.isub, 1) := dcX10_worth_8.1
theorem dX10_worth_120 : decode cX10_worth 120 = .ok (.aload_n 0, 1) := dcX10_worth_8.2.1
theorem dX10_worth_121 : decode cX10_worth 121 = .ok (.getfield 9, 3) := dcX10_worth_8.2.2.1
theorem dX10_worth_124 : decode cX10_worth 124 = .ok (.iload_n 3, 1) := dcX10_worth_8.2.2.2.1
theorem dX10_worth_125 : decode cX10_worth 125 = .ok (.iconst 1, 1) := dcX10_worth_8.2.2.2.2.1
theorem dX10_worth_126 : decode cX10_worth 126 = .ok (.isub, 1) := dcX10_worth_8.2.2.2.2.2.1
theorem dX10_worth_127 : decode cX10_worth 127 = .ok (.iaload, 1) := dcX10_worth_8.2.2.2.2.2.2.1
theorem dX10_worth_128 : decode cX10_worth 128 = .ok (.ifCond .ne 7, 3) := dcX10_worth_8.2.2.2.2.2.2.2
theorem dcX10_worth_9 : (decode cX10_worth 131 = .ok (.iconst 1, 1)) ∧ (decode cX10_worth 132 = .ok (.goto 4, 3)) ∧ (decode cX10_worth 135 = .ok (.iconst 0, 1)) ∧ (decode cX10_worth 136 = .ok (.iastore, 1)) ∧ (decode cX10_worth 137 = .ok (.goto 71, 3)) ∧ (decode cX10_worth 140 = .ok (.iload 5, 2)) ∧ (decode cX10_worth 142 = .ok (.bipush (-3), 2)) ∧ (decode cX10_worth 144 = .ok (.if_icmp .ne 28, 3)) := by decide +kernel
theorem dX10_worth_131 : decode cX10_worth 131 = .ok (.iconst 1, 1) := dcX10_worth_9.1
theorem dX10_worth_132 : decode cX10_worth 132 = .ok (.goto 4, 3) := dcX10_worth_9.2.1
theorem dX10_worth_135 : decode cX10_worth 135 = .ok (.iconst 0, 1) := dcX10_worth_9.2.2.1
theorem dX10_worth_136 : decode cX10_worth 136 = .ok (.iastore, 1) := dcX10_worth_9.2.2.2.1
theorem dX10_worth_137 : decode cX10_worth 137 = .ok (.goto 71, 3) := dcX10_worth_9.2.2.2.2.1
theorem dX10_worth_140 : decode cX10_worth 140 = .ok (.iload 5, 2) := dcX10_worth_9.2.2.2.2.2.1
theorem dX10_worth_142 : decode cX10_worth 142 = .ok (.bipush (-3), 2) := dcX10_worth_9.2.2.2.2.2.2.1
theorem dX10_worth_144 : decode cX10_worth 144 = .ok (.if_icmp .ne 28, 3) := dcX10_worth_9.2.2.2.2.2.2.2
theorem dcX10_worth_10 : (decode cX10_worth 147 = .ok (.iload_n 3, 1)) ∧ (decode cX10_worth 148 = .ok (.iconst 1, 1)) ∧ (decode cX10_worth 149 = .ok (.if_icmp .lt 23, 3)) ∧ (decode cX10_worth 152 = .ok (.aload_n 0, 1)) ∧ (decode cX10_worth 153 = .ok (.getfield 9, 3)) ∧ (decode cX10_worth 156 = .ok (.iload_n 3, 1)) ∧ (decode cX10_worth 157 = .ok (.iconst 1, 1)) ∧ (decode cX10_worth 158 = .ok (.isub, 1)) := by decide +kernel
theorem dX10_worth_147 : decode cX10_worth 147 = .ok (.iload_n 3, 1) := dcX10_worth_10.1
theorem dX10_worth_148 : decode cX10_worth 148 = .ok (.iconst 1, 1) := dcX10_worth_10.2.1
theorem dX10_worth_149 : decode cX10_worth 149 = .ok (.if_icmp .lt 23, 3) := dcX10_worth_10.2.2.1
theorem dX10_worth_152 : decode cX10_worth 152 = .ok (.aload_n 0, 1) := dcX10_worth_10.2.2.2.1
theorem dX10_worth_153 : decode cX10_worth 153 = .ok (.getfield 9, 3) := dcX10_worth_10.2.2.2.2.1
theorem dX10_worth_156 : decode cX10_worth 156 = .ok (.iload_n 3, 1) := dcX10_worth_10.2.2.2.2.2.1
theorem dX10_worth_157 : decode cX10_worth 157 = .ok (.iconst 1, 1) := dcX10_worth_10.2.2.2.2.2.2.1
theorem dX10_worth_158 : decode cX10_worth 158 = .ok (.isub, 1) := dcX10_worth_10.2.2.2.2.2.2.2
theorem dcX10_worth_11 : (decode cX10_worth 159 = .ok (.aload_n 0, 1)) ∧ (decode cX10_worth 160 = .ok (.getfield 9, 3)) ∧ (decode cX10_worth 163 = .ok (.iload_n 3, 1)) ∧ (decode cX10_worth 164 = .ok (.iconst 1, 1)) ∧ (decode cX10_worth 165 = .ok (.isub, 1)) ∧ (decode cX10_worth 166 = .ok (.iaload, 1)) ∧ (decode cX10_worth 167 = .ok (.ineg, 1)) ∧ (decode cX10_worth 168 = .ok (.iastore, 1)) := by decide +kernel
theorem dX10_worth_159 : decode cX10_worth 159 = .ok (.aload_n 0, 1) := dcX10_worth_11.1
theorem dX10_worth_160 : decode cX10_worth 160 = .ok (.getfield 9, 3) := dcX10_worth_11.2.1
theorem dX10_worth_163 : decode cX10_worth 163 = .ok (.iload_n 3, 1) := dcX10_worth_11.2.2.1
theorem dX10_worth_164 : decode cX10_worth 164 = .ok (.iconst 1, 1) := dcX10_worth_11.2.2.2.1
theorem dX10_worth_165 : decode cX10_worth 165 = .ok (.isub, 1) := dcX10_worth_11.2.2.2.2.1
theorem dX10_worth_166 : decode cX10_worth 166 = .ok (.iaload, 1) := dcX10_worth_11.2.2.2.2.2.1
theorem dX10_worth_167 : decode cX10_worth 167 = .ok (.ineg, 1) := dcX10_worth_11.2.2.2.2.2.2.1
theorem dX10_worth_168 : decode cX10_worth 168 = .ok (.iastore, 1) := dcX10_worth_11.2.2.2.2.2.2.2
theorem dcX10_worth_12 : (decode cX10_worth 169 = .ok (.goto 39, 3)) ∧ (decode cX10_worth 172 = .ok (.iload_n 3, 1)) ∧ (decode cX10_worth 173 = .ok (.iconst 2, 1)) ∧ (decode cX10_worth 174 = .ok (.if_icmp .lt 34, 3)) ∧ (decode cX10_worth 177 = .ok (.iinc 3 (-1), 3)) ∧ (decode cX10_worth 180 = .ok (.aload_n 0, 1)) ∧ (decode cX10_worth 181 = .ok (.getfield 9, 3)) ∧ (decode cX10_worth 184 = .ok (.iload_n 3, 1)) := by decide +kernel
theorem dX10_worth_169 : decode cX10_worth 169 = .ok (.goto 39, 3) := dcX10_worth_12.1
theorem dX10_worth_172 : decode cX10_worth 172 = .ok (.iload_n 3, 1) := dcX10_worth_12.2.1
theorem dX10_worth_173 : decode cX10_worth 173 = .ok (.iconst 2, 1) := dcX10_worth_12.2.2.1
theorem dX10_worth_174 : decode cX10_worth 174 = .ok (.if_icmp .lt 34, 3) := dcX10_worth_12.2.2.2.1
theorem dX10_worth_177 : decode cX10_worth 177 = .ok (.iinc 3 (-1), 3) := dcX10_worth_12.2.2.2.2.1
theorem dX10_worth_180 : decode cX10_worth 180 = .ok (.aload_n 0, 1) := dcX10_worth_12.2.2.2.2.2.1
theorem dX10_worth_181 : decode cX10_worth 181 = .ok (.getfield 9, 3) := dcX10_worth_12.2.2.2.2.2.2.1
theorem dX10_worth_184 : decode cX10_worth 184 = .ok (.iload_n 3, 1) := dcX10_worth_12.2.2.2.2.2.2.2
theorem dcX10_worth_13 : (decode cX10_worth 185 = .ok (.iconst 1, 1)) ∧ (decode cX10_worth 186 = .ok (.isub, 1)) ∧ (decode cX10_worth 187 = .ok (.iload 5, 2)) ∧ (decode cX10_worth 189 = .ok (.ineg, 1)) ∧ (decode cX10_worth 190 = .ok (.aload_n 0, 1)) ∧ (decode cX10_worth 191 = .ok (.getfield 9, 3)) ∧ (decode cX10_worth 194 = .ok (.iload_n 3, 1)) ∧ (decode cX10_worth 195 = .ok (.iconst 1, 1)) := by decide +kernel
theorem dX10_worth_185 : decode cX10_worth 185 = .ok (.iconst 1, 1) := dcX10_worth_13.1
theorem dX10_worth_186 : decode cX10_worth 186 = .ok (.isub, 1) := dcX10_worth_13.2.1
theorem dX10_worth_187 : decode cX10_worth 187 = .ok (.iload 5, 2) := dcX10_worth_13.2.2.1
theorem dX10_worth_189 : decode cX10_worth 189 = .ok (.ineg, 1) := dcX10_worth_13.2.2.2.1
theorem dX10_worth_190 : decode cX10_worth 190 = .ok (.aload_n 0, 1) := dcX10_worth_13.2.2.2.2.1
theorem dX10_worth_191 : decode cX10_worth 191 = .ok (.getfield 9, 3) := dcX10_worth_13.2.2.2.2.2.1
theorem dX10_worth_194 : decode cX10_worth 194 = .ok (.iload_n 3, 1) := dcX10_worth_13.2.2.2.2.2.2.1
theorem dX10_worth_195 : decode cX10_worth 195 = .ok (.iconst 1, 1) := dcX10_worth_13.2.2.2.2.2.2.2
theorem dcX10_worth_14 : (decode cX10_worth 196 = .ok (.isub, 1)) ∧ (decode cX10_worth 197 = .ok (.iaload, 1)) ∧ (decode cX10_worth 198 = .ok (.aload_n 0, 1)) ∧ (decode cX10_worth 199 = .ok (.getfield 9, 3)) ∧ (decode cX10_worth 202 = .ok (.iload_n 3, 1)) ∧ (decode cX10_worth 203 = .ok (.iaload, 1)) ∧ (decode cX10_worth 204 = .ok (.invokestatic 25, 3)) ∧ (decode cX10_worth 207 = .ok (.iastore, 1)) := by decide +kernel
theorem dX10_worth_196 : decode cX10_worth 196 = .ok (.isub, 1) := dcX10_worth_14.1
theorem dX10_worth_197 : decode cX10_worth 197 = .ok (.iaload, 1) := dcX10_worth_14.2.1
theorem dX10_worth_198 : decode cX10_worth 198 = .ok (.aload_n 0, 1) := dcX10_worth_14.2.2.1
theorem dX10_worth_199 : decode cX10_worth 199 = .ok (.getfield 9, 3) := dcX10_worth_14.2.2.2.1
theorem dX10_worth_202 : decode cX10_worth 202 = .ok (.iload_n 3, 1) := dcX10_worth_14.2.2.2.2.1
theorem dX10_worth_203 : decode cX10_worth 203 = .ok (.iaload, 1) := dcX10_worth_14.2.2.2.2.2.1
theorem dX10_worth_204 : decode cX10_worth 204 = .ok (.invokestatic 25, 3) := dcX10_worth_14.2.2.2.2.2.2.1
theorem dX10_worth_207 : decode cX10_worth 207 = .ok (.iastore, 1) := dcX10_worth_14.2.2.2.2.2.2.2
theorem dcX10_worth_15 : (decode cX10_worth 208 = .ok (.iinc 4 1, 3)) ∧ (decode cX10_worth 211 = .ok (.goto (-191), 3)) ∧ (decode cX10_worth 214 = .ok (.aload_n 0, 1)) ∧ (decode cX10_worth 215 = .ok (.getfield 9, 3)) ∧ (decode cX10_worth 218 = .ok (.iconst 0, 1)) ∧ (decode cX10_worth 219 = .ok (.iaload, 1)) ∧ (decode cX10_worth 220 = .ok (.ireturn, 1)) := by decide +kernel
theorem dX10_worth_208 : decode cX10_worth 208 = .ok (.iinc 4 1, 3) := dcX10_worth_15.1
theorem dX10_worth_211 : decode cX10_worth 211 = .ok (.goto (-191), 3) := dcX10_worth_15.2.1
theorem dX10_worth_214 : decode cX10_worth 214 = .ok (.aload_n 0, 1) := dcX10_worth_15.2.2.1
theorem dX10_worth_215 : decode cX10_worth 215 = .ok (.getfield 9, 3) := dcX10_worth_15.2.2.2.1
theorem dX10_worth_218 : decode cX10_worth 218 = .ok (.iconst 0, 1) := dcX10_worth_15.2.2.2.2.1
theorem dX10_worth_219 : decode cX10_worth 219 = .ok (.iaload, 1) := dcX10_worth_15.2.2.2.2.2.1
theorem dX10_worth_220 : decode cX10_worth 220 = .ok (.ireturn, 1) := dcX10_worth_15.2.2.2.2.2.2
theorem dcX10_joined_0 : (decode cX10_joined 0 = .ok (.iload_n 0, 1)) ∧ (decode cX10_joined 1 = .ok (.lookupswitch 117 #[(43, 109), (45, 113), (60, 87), (61, 98), (259, 59), (260, 73)], 59)) ∧ (decode cX10_joined 60 = .ok (.iload_n 1, 1)) ∧ (decode cX10_joined 61 = .ok (.ifCond .ne 7, 3)) ∧ (decode cX10_joined 64 = .ok (.iload_n 2, 1)) ∧ (decode cX10_joined 65 = .ok (.ifCond .eq 7, 3)) ∧ (decode cX10_joined 68 = .ok (.iconst 1, 1)) ∧ (decode cX10_joined 69 = .ok (.goto 4, 3)) := by decide +kernel
theorem dX10_joined_0 : decode cX10_joined 0 = .ok (.iload_n 0, 1) := dcX10_joined_0.1
theorem dX10_joined_1 : decode cX10_joined 1 = .ok (.lookupswitch 117 #[(43, 109), (45, 113), (60, 87), (61, 98), (259, 59), (260, 73)], 59) := dcX10_joined_0.2.1
theorem dX10_joined_60 : decode cX10_joined 60 = .ok (.iload_n 1, 1) := dcX10_joined_0.2.2.1
theorem dX10_joined_61 : decode cX10_joined 61 = .ok (.ifCond .ne 7, 3) := dcX10_joined_0.2.2.2.1
theorem dX10_joined_64 : decode cX10_joined 64 = .ok (.iload_n 2, 1) := dcX10_joined_0.2.2.2.2.1
theorem dX10_joined_65 : decode cX10_joined 65 = .ok (.ifCond .eq 7, 3) := dcX10_joined_0.2.2.2.2.2.1
theorem dX10_joined_68 : decode cX10_joined 68 = .ok (.iconst 1, 1) := dcX10_joined_0.2.2.2.2.2.2.1
theorem dX10_joined_69 : decode cX10_joined 69 = .ok (.goto 4, 3) := dcX10_joined_0.2.2.2.2.2.2.2
theorem dcX10_joined_1 : (decode cX10_joined 72 = .ok (.iconst 0, 1)) ∧ (decode cX10_joined 73 = .ok (.ireturn, 1)) ∧ (decode cX10_joined 74 = .ok (.iload_n 1, 1)) ∧ (decode cX10_joined 75 = .ok (.ifCond .eq 11, 3)) ∧ (decode cX10_joined 78 = .ok (.iload_n 2, 1)) ∧ (decode cX10_joined 79 = .ok (.ifCond .eq 7, 3)) ∧ (decode cX10_joined 82 = .ok (.iconst 1, 1)) ∧ (decode cX10_joined 83 = .ok (.goto 4, 3)) := by decide +kernel
theorem dX10_joined_72 : decode cX10_joined 72 = .ok (.iconst 0, 1) := dcX10_joined_1.1
theorem dX10_joined_73 : decode cX10_joined 73 = .ok (.ireturn, 1) := dcX10_joined_1.2.1
theorem dX10_joined_74 : decode cX10_joined 74 = .ok (.iload_n 1, 1) := dcX10_joined_1.2.2.1
theorem dX10_joined_75 : decode cX10_joined 75 = .ok (.ifCond .eq 11, 3) := dcX10_joined_1.2.2.2.1
theorem dX10_joined_78 : decode cX10_joined 78 = .ok (.iload_n 2, 1) := dcX10_joined_1.2.2.2.2.1
theorem dX10_joined_79 : decode cX10_joined 79 = .ok (.ifCond .eq 7, 3) := dcX10_joined_1.2.2.2.2.2.1
theorem dX10_joined_82 : decode cX10_joined 82 = .ok (.iconst 1, 1) := dcX10_joined_1.2.2.2.2.2.2.1
theorem dX10_joined_83 : decode cX10_joined 83 = .ok (.goto 4, 3) := dcX10_joined_1.2.2.2.2.2.2.2
theorem dcX10_joined_2 : (decode cX10_joined 86 = .ok (.iconst 0, 1)) ∧ (decode cX10_joined 87 = .ok (.ireturn, 1)) ∧ (decode cX10_joined 88 = .ok (.iload_n 1, 1)) ∧ (decode cX10_joined 89 = .ok (.iload_n 2, 1)) ∧ (decode cX10_joined 90 = .ok (.if_icmp .ge 7, 3)) ∧ (decode cX10_joined 93 = .ok (.iconst 1, 1)) ∧ (decode cX10_joined 94 = .ok (.goto 4, 3)) ∧ (decode cX10_joined 97 = .ok (.iconst 0, 1)) := by decide +kernel
theorem dX10_joined_86 : decode cX10_joined 86 = .ok (.iconst 0, 1) := dcX10_joined_2.1
theorem dX10_joined_87 : decode cX10_joined 87 = .ok (.ireturn, 1) := dcX10_joined_2.2.1
theorem dX10_joined_88 : decode cX10_joined 88 = .ok (.iload_n 1, 1) := dcX10_joined_2.2.2.1
theorem dX10_joined_89 : decode cX10_joined 89 = .ok (.iload_n 2, 1) := dcX10_joined_2.2.2.2.1
theorem dX10_joined_90 : decode cX10_joined 90 = .ok (.if_icmp .ge 7, 3) := dcX10_joined_2.2.2.2.2.1
theorem dX10_joined_93 : decode cX10_joined 93 = .ok (.iconst 1, 1) := dcX10_joined_2.2.2.2.2.2.1
theorem dX10_joined_94 : decode cX10_joined 94 = .ok (.goto 4, 3) := dcX10_joined_2.2.2.2.2.2.2.1
theorem dX10_joined_97 : decode cX10_joined 97 = .ok (.iconst 0, 1) := dcX10_joined_2.2.2.2.2.2.2.2
theorem dcX10_joined_3 : (decode cX10_joined 98 = .ok (.ireturn, 1)) ∧ (decode cX10_joined 99 = .ok (.iload_n 1, 1)) ∧ (decode cX10_joined 100 = .ok (.iload_n 2, 1)) ∧ (decode cX10_joined 101 = .ok (.if_icmp .ne 7, 3)) ∧ (decode cX10_joined 104 = .ok (.iconst 1, 1)) ∧ (decode cX10_joined 105 = .ok (.goto 4, 3)) ∧ (decode cX10_joined 108 = .ok (.iconst 0, 1)) ∧ (decode cX10_joined 109 = .ok (.ireturn, 1)) := by decide +kernel
theorem dX10_joined_98 : decode cX10_joined 98 = .ok (.ireturn, 1) := dcX10_joined_3.1
theorem dX10_joined_99 : decode cX10_joined 99 = .ok (.iload_n 1, 1) := dcX10_joined_3.2.1
theorem dX10_joined_100 : decode cX10_joined 100 = .ok (.iload_n 2, 1) := dcX10_joined_3.2.2.1
theorem dX10_joined_101 : decode cX10_joined 101 = .ok (.if_icmp .ne 7, 3) := dcX10_joined_3.2.2.2.1
theorem dX10_joined_104 : decode cX10_joined 104 = .ok (.iconst 1, 1) := dcX10_joined_3.2.2.2.2.1
theorem dX10_joined_105 : decode cX10_joined 105 = .ok (.goto 4, 3) := dcX10_joined_3.2.2.2.2.2.1
theorem dX10_joined_108 : decode cX10_joined 108 = .ok (.iconst 0, 1) := dcX10_joined_3.2.2.2.2.2.2.1
theorem dX10_joined_109 : decode cX10_joined 109 = .ok (.ireturn, 1) := dcX10_joined_3.2.2.2.2.2.2.2
theorem dcX10_joined_4 : (decode cX10_joined 110 = .ok (.iload_n 1, 1)) ∧ (decode cX10_joined 111 = .ok (.iload_n 2, 1)) ∧ (decode cX10_joined 112 = .ok (.iadd, 1)) ∧ (decode cX10_joined 113 = .ok (.ireturn, 1)) ∧ (decode cX10_joined 114 = .ok (.iload_n 1, 1)) ∧ (decode cX10_joined 115 = .ok (.iload_n 2, 1)) ∧ (decode cX10_joined 116 = .ok (.isub, 1)) ∧ (decode cX10_joined 117 = .ok (.ireturn, 1)) := by decide +kernel
theorem dX10_joined_110 : decode cX10_joined 110 = .ok (.iload_n 1, 1) := dcX10_joined_4.1
theorem dX10_joined_111 : decode cX10_joined 111 = .ok (.iload_n 2, 1) := dcX10_joined_4.2.1
theorem dX10_joined_112 : decode cX10_joined 112 = .ok (.iadd, 1) := dcX10_joined_4.2.2.1
theorem dX10_joined_113 : decode cX10_joined 113 = .ok (.ireturn, 1) := dcX10_joined_4.2.2.2.1
theorem dX10_joined_114 : decode cX10_joined 114 = .ok (.iload_n 1, 1) := dcX10_joined_4.2.2.2.2.1
theorem dX10_joined_115 : decode cX10_joined 115 = .ok (.iload_n 2, 1) := dcX10_joined_4.2.2.2.2.2.1
theorem dX10_joined_116 : decode cX10_joined 116 = .ok (.isub, 1) := dcX10_joined_4.2.2.2.2.2.2.1
theorem dX10_joined_117 : decode cX10_joined 117 = .ok (.ireturn, 1) := dcX10_joined_4.2.2.2.2.2.2.2
theorem dcX10_joined_5 : (decode cX10_joined 118 = .ok (.iload_n 1, 1)) ∧ (decode cX10_joined 119 = .ok (.iload_n 2, 1)) ∧ (decode cX10_joined 120 = .ok (.imul, 1)) ∧ (decode cX10_joined 121 = .ok (.ireturn, 1)) := by decide +kernel
theorem dX10_joined_118 : decode cX10_joined 118 = .ok (.iload_n 1, 1) := dcX10_joined_5.1
theorem dX10_joined_119 : decode cX10_joined 119 = .ok (.iload_n 2, 1) := dcX10_joined_5.2.1
theorem dX10_joined_120 : decode cX10_joined 120 = .ok (.imul, 1) := dcX10_joined_5.2.2.1
theorem dX10_joined_121 : decode cX10_joined 121 = .ok (.ireturn, 1) := dcX10_joined_5.2.2.2
theorem dcX11_init_0 : (decode cX11_init 0 = .ok (.aload_n 0, 1)) ∧ (decode cX11_init 1 = .ok (.invokespecial 3, 3)) ∧ (decode cX11_init 4 = .ok (.aload_n 0, 1)) ∧ (decode cX11_init 5 = .ok (.bipush 6, 2)) ∧ (decode cX11_init 7 = .ok (.anewarray 9, 3)) ∧ (decode cX11_init 10 = .ok (.dup, 1)) ∧ (decode cX11_init 11 = .ok (.iconst 0, 1)) ∧ (decode cX11_init 12 = .ok (.new 9, 3)) := by decide +kernel
theorem dX11_init_0 : decode cX11_init 0 = .ok (.aload_n 0, 1) := dcX11_init_0.1
theorem dX11_init_1 : decode cX11_init 1 = .ok (.invokespecial 3, 3) := dcX11_init_0.2.1
theorem dX11_init_4 : decode cX11_init 4 = .ok (.aload_n 0, 1) := dcX11_init_0.2.2.1
theorem dX11_init_5 : decode cX11_init 5 = .ok (.bipush 6, 2) := dcX11_init_0.2.2.2.1
theorem dX11_init_7 : decode cX11_init 7 = .ok (.anewarray 9, 3) := dcX11_init_0.2.2.2.2.1
theorem dX11_init_10 : decode cX11_init 10 = .ok (.dup, 1) := dcX11_init_0.2.2.2.2.2.1
theorem dX11_init_11 : decode cX11_init 11 = .ok (.iconst 0, 1) := dcX11_init_0.2.2.2.2.2.2.1
theorem dX11_init_12 : decode cX11_init 12 = .ok (.new 9, 3) := dcX11_init_0.2.2.2.2.2.2.2
theorem dcX11_init_1 : (decode cX11_init 15 = .ok (.dup, 1)) ∧ (decode cX11_init 16 = .ok (.iconst 0, 1)) ∧ (decode cX11_init 17 = .ok (.invokespecial 11, 3)) ∧ (decode cX11_init 20 = .ok (.aastore, 1)) ∧ (decode cX11_init 21 = .ok (.dup, 1)) ∧ (decode cX11_init 22 = .ok (.iconst 1, 1)) ∧ (decode cX11_init 23 = .ok (.new 14, 3)) ∧ (decode cX11_init 26 = .ok (.dup, 1)) := by decide +kernel
theorem dX11_init_15 : decode cX11_init 15 = .ok (.dup, 1) := dcX11_init_1.1
theorem dX11_init_16 : decode cX11_init 16 = .ok (.iconst 0, 1) := dcX11_init_1.2.1
theorem dX11_init_17 : decode cX11_init 17 = .ok (.invokespecial 11, 3) := dcX11_init_1.2.2.1
theorem dX11_init_20 : decode cX11_init 20 = .ok (.aastore, 1) := dcX11_init_1.2.2.2.1
theorem dX11_init_21 : decode cX11_init 21 = .ok (.dup, 1) := dcX11_init_1.2.2.2.2.1
theorem dX11_init_22 : decode cX11_init 22 = .ok (.iconst 1, 1) := dcX11_init_1.2.2.2.2.2.1
theorem dX11_init_23 : decode cX11_init 23 = .ok (.new 14, 3) := dcX11_init_1.2.2.2.2.2.2.1
theorem dX11_init_26 : decode cX11_init 26 = .ok (.dup, 1) := dcX11_init_1.2.2.2.2.2.2.2
theorem dcX11_init_2 : (decode cX11_init 27 = .ok (.iconst 1, 1)) ∧ (decode cX11_init 28 = .ok (.invokespecial 16, 3)) ∧ (decode cX11_init 31 = .ok (.aastore, 1)) ∧ (decode cX11_init 32 = .ok (.dup, 1)) ∧ (decode cX11_init 33 = .ok (.iconst 2, 1)) ∧ (decode cX11_init 34 = .ok (.new 17, 3)) ∧ (decode cX11_init 37 = .ok (.dup, 1)) ∧ (decode cX11_init 38 = .ok (.iconst 2, 1)) := by decide +kernel
theorem dX11_init_27 : decode cX11_init 27 = .ok (.iconst 1, 1) := dcX11_init_2.1
theorem dX11_init_28 : decode cX11_init 28 = .ok (.invokespecial 16, 3) := dcX11_init_2.2.1
theorem dX11_init_31 : decode cX11_init 31 = .ok (.aastore, 1) := dcX11_init_2.2.2.1
theorem dX11_init_32 : decode cX11_init 32 = .ok (.dup, 1) := dcX11_init_2.2.2.2.1
theorem dX11_init_33 : decode cX11_init 33 = .ok (.iconst 2, 1) := dcX11_init_2.2.2.2.2.1
theorem dX11_init_34 : decode cX11_init 34 = .ok (.new 17, 3) := dcX11_init_2.2.2.2.2.2.1
theorem dX11_init_37 : decode cX11_init 37 = .ok (.dup, 1) := dcX11_init_2.2.2.2.2.2.2.1
theorem dX11_init_38 : decode cX11_init 38 = .ok (.iconst 2, 1) := dcX11_init_2.2.2.2.2.2.2.2
theorem dcX11_init_3 : (decode cX11_init 39 = .ok (.invokespecial 19, 3)) ∧ (decode cX11_init 42 = .ok (.aastore, 1)) ∧ (decode cX11_init 43 = .ok (.dup, 1)) ∧ (decode cX11_init 44 = .ok (.iconst 3, 1)) ∧ (decode cX11_init 45 = .ok (.new 20, 3)) ∧ (decode cX11_init 48 = .ok (.dup, 1)) ∧ (decode cX11_init 49 = .ok (.iconst 3, 1)) ∧ (decode cX11_init 50 = .ok (.invokespecial 22, 3)) := by decide +kernel
theorem dX11_init_39 : decode cX11_init 39 = .ok (.invokespecial 19, 3) := dcX11_init_3.1
theorem dX11_init_42 : decode cX11_init 42 = .ok (.aastore, 1) := dcX11_init_3.2.1
theorem dX11_init_43 : decode cX11_init 43 = .ok (.dup, 1) := dcX11_init_3.2.2.1
theorem dX11_init_44 : decode cX11_init 44 = .ok (.iconst 3, 1) := dcX11_init_3.2.2.2.1
theorem dX11_init_45 : decode cX11_init 45 = .ok (.new 20, 3) := dcX11_init_3.2.2.2.2.1
theorem dX11_init_48 : decode cX11_init 48 = .ok (.dup, 1) := dcX11_init_3.2.2.2.2.2.1
theorem dX11_init_49 : decode cX11_init 49 = .ok (.iconst 3, 1) := dcX11_init_3.2.2.2.2.2.2.1
theorem dX11_init_50 : decode cX11_init 50 = .ok (.invokespecial 22, 3) := dcX11_init_3.2.2.2.2.2.2.2
theorem dcX11_init_4 : (decode cX11_init 53 = .ok (.aastore, 1)) ∧ (decode cX11_init 54 = .ok (.dup, 1)) ∧ (decode cX11_init 55 = .ok (.iconst 4, 1)) ∧ (decode cX11_init 56 = .ok (.new 23, 3)) ∧ (decode cX11_init 59 = .ok (.dup, 1)) ∧ (decode cX11_init 60 = .ok (.iconst 4, 1)) ∧ (decode cX11_init 61 = .ok (.invokespecial 25, 3)) ∧ (decode cX11_init 64 = .ok (.aastore, 1)) := by decide +kernel
theorem dX11_init_53 : decode cX11_init 53 = .ok (.aastore, 1) := dcX11_init_4.1
theorem dX11_init_54 : decode cX11_init 54 = .ok (.dup, 1) := dcX11_init_4.2.1
theorem dX11_init_55 : decode cX11_init 55 = .ok (.iconst 4, 1) := dcX11_init_4.2.2.1
theorem dX11_init_56 : decode cX11_init 56 = .ok (.new 23, 3) := dcX11_init_4.2.2.2.1
theorem dX11_init_59 : decode cX11_init 59 = .ok (.dup, 1) := dcX11_init_4.2.2.2.2.1
theorem dX11_init_60 : decode cX11_init 60 = .ok (.iconst 4, 1) := dcX11_init_4.2.2.2.2.2.1
theorem dX11_init_61 : decode cX11_init 61 = .ok (.invokespecial 25, 3) := dcX11_init_4.2.2.2.2.2.2.1
theorem dX11_init_64 : decode cX11_init 64 = .ok (.aastore, 1) := dcX11_init_4.2.2.2.2.2.2.2
theorem dcX11_init_5 : (decode cX11_init 65 = .ok (.dup, 1)) ∧ (decode cX11_init 66 = .ok (.iconst 5, 1)) ∧ (decode cX11_init 67 = .ok (.new 26, 3)) ∧ (decode cX11_init 70 = .ok (.dup, 1)) ∧ (decode cX11_init 71 = .ok (.iconst 5, 1)) ∧ (decode cX11_init 72 = .ok (.invokespecial 28, 3)) ∧ (decode cX11_init 75 = .ok (.aastore, 1)) ∧ (decode cX11_init 76 = .ok (.putfield 29, 3)) := by decide +kernel
theorem dX11_init_65 : decode cX11_init 65 = .ok (.dup, 1) := dcX11_init_5.1
theorem dX11_init_66 : decode cX11_init 66 = .ok (.iconst 5, 1) := dcX11_init_5.2.1
theorem dX11_init_67 : decode cX11_init 67 = .ok (.new 26, 3) := dcX11_init_5.2.2.1
theorem dX11_init_70 : decode cX11_init 70 = .ok (.dup, 1) := dcX11_init_5.2.2.2.1
theorem dX11_init_71 : decode cX11_init 71 = .ok (.iconst 5, 1) := dcX11_init_5.2.2.2.2.1
theorem dX11_init_72 : decode cX11_init 72 = .ok (.invokespecial 28, 3) := dcX11_init_5.2.2.2.2.2.1
theorem dX11_init_75 : decode cX11_init 75 = .ok (.aastore, 1) := dcX11_init_5.2.2.2.2.2.2.1
theorem dX11_init_76 : decode cX11_init 76 = .ok (.putfield 29, 3) := dcX11_init_5.2.2.2.2.2.2.2
theorem dcX11_init_6 : (decode cX11_init 79 = .ok (.aload_n 0, 1)) ∧ (decode cX11_init 80 = .ok (.aload_n 0, 1)) ∧ (decode cX11_init 81 = .ok (.getfield 29, 3)) ∧ (decode cX11_init 84 = .ok (.iconst 0, 1)) ∧ (decode cX11_init 85 = .ok (.aaload, 1)) ∧ (decode cX11_init 86 = .ok (.invokestatic 33, 3)) ∧ (decode cX11_init 89 = .ok (.putfield 37, 3)) ∧ (decode cX11_init 92 = .ok (.aload_n 0, 1)) := by decide +kernel
theorem dX11_init_79 : decode cX11_init 79 = .ok (.aload_n 0, 1) := dcX11_init_6.1
theorem dX11_init_80 : decode cX11_init 80 = .ok (.aload_n 0, 1) := dcX11_init_6.2.1
theorem dX11_init_81 : decode cX11_init 81 = .ok (.getfield 29, 3) := dcX11_init_6.2.2.1
theorem dX11_init_84 : decode cX11_init 84 = .ok (.iconst 0, 1) := dcX11_init_6.2.2.2.1
theorem dX11_init_85 : decode cX11_init 85 = .ok (.aaload, 1) := dcX11_init_6.2.2.2.2.1
theorem dX11_init_86 : decode cX11_init 86 = .ok (.invokestatic 33, 3) := dcX11_init_6.2.2.2.2.2.1
theorem dX11_init_89 : decode cX11_init 89 = .ok (.putfield 37, 3) := dcX11_init_6.2.2.2.2.2.2.1
theorem dX11_init_92 : decode cX11_init 92 = .ok (.aload_n 0, 1) := dcX11_init_6.2.2.2.2.2.2.2
theorem dcX11_init_7 : (decode cX11_init 93 = .ok (.aload_n 0, 1)) ∧ (decode cX11_init 94 = .ok (.getfield 29, 3)) ∧ (decode cX11_init 97 = .ok (.iconst 0, 1)) ∧ (decode cX11_init 98 = .ok (.aaload, 1)) ∧ (decode cX11_init 99 = .ok (.invokestatic 33, 3)) ∧ (decode cX11_init 102 = .ok (.putfield 41, 3)) ∧ (decode cX11_init 105 = .ok (.aload_n 0, 1)) ∧ (decode cX11_init 106 = .ok (.new 44, 3)) := by decide +kernel
theorem dX11_init_93 : decode cX11_init 93 = .ok (.aload_n 0, 1) := dcX11_init_7.1
theorem dX11_init_94 : decode cX11_init 94 = .ok (.getfield 29, 3) := dcX11_init_7.2.1
theorem dX11_init_97 : decode cX11_init 97 = .ok (.iconst 0, 1) := dcX11_init_7.2.2.1
theorem dX11_init_98 : decode cX11_init 98 = .ok (.aaload, 1) := dcX11_init_7.2.2.2.1
theorem dX11_init_99 : decode cX11_init 99 = .ok (.invokestatic 33, 3) := dcX11_init_7.2.2.2.2.1
theorem dX11_init_102 : decode cX11_init 102 = .ok (.putfield 41, 3) := dcX11_init_7.2.2.2.2.2.1
theorem dX11_init_105 : decode cX11_init 105 = .ok (.aload_n 0, 1) := dcX11_init_7.2.2.2.2.2.2.1
theorem dX11_init_106 : decode cX11_init 106 = .ok (.new 44, 3) := dcX11_init_7.2.2.2.2.2.2.2
theorem dcX11_init_8 : (decode cX11_init 109 = .ok (.dup, 1)) ∧ (decode cX11_init 110 = .ok (.aload_n 0, 1)) ∧ (decode cX11_init 111 = .ok (.getfield 29, 3)) ∧ (decode cX11_init 114 = .ok (.iconst 0, 1)) ∧ (decode cX11_init 115 = .ok (.aaload, 1)) ∧ (decode cX11_init 116 = .ok (.invokestatic 33, 3)) ∧ (decode cX11_init 119 = .ok (.invokespecial 46, 3)) ∧ (decode cX11_init 122 = .ok (.putfield 49, 3)) := by decide +kernel
theorem dX11_init_109 : decode cX11_init 109 = .ok (.dup, 1) := dcX11_init_8.1
theorem dX11_init_110 : decode cX11_init 110 = .ok (.aload_n 0, 1) := dcX11_init_8.2.1
theorem dX11_init_111 : decode cX11_init 111 = .ok (.getfield 29, 3) := dcX11_init_8.2.2.1
theorem dX11_init_114 : decode cX11_init 114 = .ok (.iconst 0, 1) := dcX11_init_8.2.2.2.1
theorem dX11_init_115 : decode cX11_init 115 = .ok (.aaload, 1) := dcX11_init_8.2.2.2.2.1
theorem dX11_init_116 : decode cX11_init 116 = .ok (.invokestatic 33, 3) := dcX11_init_8.2.2.2.2.2.1
theorem dX11_init_119 : decode cX11_init 119 = .ok (.invokespecial 46, 3) := dcX11_init_8.2.2.2.2.2.2.1
theorem dX11_init_122 : decode cX11_init 122 = .ok (.putfield 49, 3) := dcX11_init_8.2.2.2.2.2.2.2
theorem dcX11_init_9 : (decode cX11_init 125 = .ok (.aload_n 0, 1)) ∧ (decode cX11_init 126 = .ok (.bipush 6, 2)) ∧ (decode cX11_init 128 = .ok (.anewarray 53, 3)) ∧ (decode cX11_init 131 = .ok (.putfield 55, 3)) ∧ (decode cX11_init 134 = .ok (.aload_n 0, 1)) ∧ (decode cX11_init 135 = .ok (.new 59, 3)) ∧ (decode cX11_init 138 = .ok (.dup, 1)) ∧ (decode cX11_init 139 = .ok (.invokespecial 61, 3)) := by decide +kernel
theorem dX11_init_125 : decode cX11_init 125 = .ok (.aload_n 0, 1) := dcX11_init_9.1
theorem dX11_init_126 : decode cX11_init 126 = .ok (.bipush 6, 2) := dcX11_init_9.2.1
theorem dX11_init_128 : decode cX11_init 128 = .ok (.anewarray 53, 3) := dcX11_init_9.2.2.1
theorem dX11_init_131 : decode cX11_init 131 = .ok (.putfield 55, 3) := dcX11_init_9.2.2.2.1
theorem dX11_init_134 : decode cX11_init 134 = .ok (.aload_n 0, 1) := dcX11_init_9.2.2.2.2.1
theorem dX11_init_135 : decode cX11_init 135 = .ok (.new 59, 3) := dcX11_init_9.2.2.2.2.2.1
theorem dX11_init_138 : decode cX11_init 138 = .ok (.dup, 1) := dcX11_init_9.2.2.2.2.2.2.1
theorem dX11_init_139 : decode cX11_init 139 = .ok (.invokespecial 61, 3) := dcX11_init_9.2.2.2.2.2.2.2
theorem dcX11_init_10 : (decode cX11_init 142 = .ok (.putfield 62, 3)) ∧ (decode cX11_init 145 = .ok (.aload_n 0, 1)) ∧ (decode cX11_init 146 = .ok (.iconst 4, 1)) ∧ (decode cX11_init 147 = .ok (.anewarray 66, 3)) ∧ (decode cX11_init 150 = .ok (.dup, 1)) ∧ (decode cX11_init 151 = .ok (.iconst 0, 1)) ∧ (decode cX11_init 152 = .ok (.new 66, 3)) ∧ (decode cX11_init 155 = .ok (.dup, 1)) := by decide +kernel
theorem dX11_init_142 : decode cX11_init 142 = .ok (.putfield 62, 3) := dcX11_init_10.1
theorem dX11_init_145 : decode cX11_init 145 = .ok (.aload_n 0, 1) := dcX11_init_10.2.1
theorem dX11_init_146 : decode cX11_init 146 = .ok (.iconst 4, 1) := dcX11_init_10.2.2.1
theorem dX11_init_147 : decode cX11_init 147 = .ok (.anewarray 66, 3) := dcX11_init_10.2.2.2.1
theorem dX11_init_150 : decode cX11_init 150 = .ok (.dup, 1) := dcX11_init_10.2.2.2.2.1
theorem dX11_init_151 : decode cX11_init 151 = .ok (.iconst 0, 1) := dcX11_init_10.2.2.2.2.2.1
theorem dX11_init_152 : decode cX11_init 152 = .ok (.new 66, 3) := dcX11_init_10.2.2.2.2.2.2.1
theorem dX11_init_155 : decode cX11_init 155 = .ok (.dup, 1) := dcX11_init_10.2.2.2.2.2.2.2
theorem dcX11_init_11 : (decode cX11_init 156 = .ok (.invokespecial 68, 3)) ∧ (decode cX11_init 159 = .ok (.aastore, 1)) ∧ (decode cX11_init 160 = .ok (.dup, 1)) ∧ (decode cX11_init 161 = .ok (.iconst 1, 1)) ∧ (decode cX11_init 162 = .ok (.new 66, 3)) ∧ (decode cX11_init 165 = .ok (.dup, 1)) ∧ (decode cX11_init 166 = .ok (.invokespecial 68, 3)) ∧ (decode cX11_init 169 = .ok (.aastore, 1)) := by decide +kernel
theorem dX11_init_156 : decode cX11_init 156 = .ok (.invokespecial 68, 3) := dcX11_init_11.1
theorem dX11_init_159 : decode cX11_init 159 = .ok (.aastore, 1) := dcX11_init_11.2.1
theorem dX11_init_160 : decode cX11_init 160 = .ok (.dup, 1) := dcX11_init_11.2.2.1
theorem dX11_init_161 : decode cX11_init 161 = .ok (.iconst 1, 1) := dcX11_init_11.2.2.2.1
theorem dX11_init_162 : decode cX11_init 162 = .ok (.new 66, 3) := dcX11_init_11.2.2.2.2.1
theorem dX11_init_165 : decode cX11_init 165 = .ok (.dup, 1) := dcX11_init_11.2.2.2.2.2.1
theorem dX11_init_166 : decode cX11_init 166 = .ok (.invokespecial 68, 3) := dcX11_init_11.2.2.2.2.2.2.1
theorem dX11_init_169 : decode cX11_init 169 = .ok (.aastore, 1) := dcX11_init_11.2.2.2.2.2.2.2
theorem dcX11_init_12 : (decode cX11_init 170 = .ok (.dup, 1)) ∧ (decode cX11_init 171 = .ok (.iconst 2, 1)) ∧ (decode cX11_init 172 = .ok (.new 66, 3)) ∧ (decode cX11_init 175 = .ok (.dup, 1)) ∧ (decode cX11_init 176 = .ok (.invokespecial 68, 3)) ∧ (decode cX11_init 179 = .ok (.aastore, 1)) ∧ (decode cX11_init 180 = .ok (.dup, 1)) ∧ (decode cX11_init 181 = .ok (.iconst 3, 1)) := by decide +kernel
theorem dX11_init_170 : decode cX11_init 170 = .ok (.dup, 1) := dcX11_init_12.1
theorem dX11_init_171 : decode cX11_init 171 = .ok (.iconst 2, 1) := dcX11_init_12.2.1
theorem dX11_init_172 : decode cX11_init 172 = .ok (.new 66, 3) := dcX11_init_12.2.2.1
theorem dX11_init_175 : decode cX11_init 175 = .ok (.dup, 1) := dcX11_init_12.2.2.2.1
theorem dX11_init_176 : decode cX11_init 176 = .ok (.invokespecial 68, 3) := dcX11_init_12.2.2.2.2.1
theorem dX11_init_179 : decode cX11_init 179 = .ok (.aastore, 1) := dcX11_init_12.2.2.2.2.2.1
theorem dX11_init_180 : decode cX11_init 180 = .ok (.dup, 1) := dcX11_init_12.2.2.2.2.2.2.1
theorem dX11_init_181 : decode cX11_init 181 = .ok (.iconst 3, 1) := dcX11_init_12.2.2.2.2.2.2.2
theorem dcX11_init_13 : (decode cX11_init 182 = .ok (.new 66, 3)) ∧ (decode cX11_init 185 = .ok (.dup, 1)) ∧ (decode cX11_init 186 = .ok (.invokespecial 68, 3)) ∧ (decode cX11_init 189 = .ok (.aastore, 1)) ∧ (decode cX11_init 190 = .ok (.putfield 69, 3)) ∧ (decode cX11_init 193 = .ok (.aload_n 0, 1)) ∧ (decode cX11_init 194 = .ok (.bipush 16, 2)) ∧ (decode cX11_init 196 = .ok (.newarray .int, 2)) := by decide +kernel
theorem dX11_init_182 : decode cX11_init 182 = .ok (.new 66, 3) := dcX11_init_13.1
theorem dX11_init_185 : decode cX11_init 185 = .ok (.dup, 1) := dcX11_init_13.2.1
theorem dX11_init_186 : decode cX11_init 186 = .ok (.invokespecial 68, 3) := dcX11_init_13.2.2.1
theorem dX11_init_189 : decode cX11_init 189 = .ok (.aastore, 1) := dcX11_init_13.2.2.2.1
theorem dX11_init_190 : decode cX11_init 190 = .ok (.putfield 69, 3) := dcX11_init_13.2.2.2.2.1
theorem dX11_init_193 : decode cX11_init 193 = .ok (.aload_n 0, 1) := dcX11_init_13.2.2.2.2.2.1
theorem dX11_init_194 : decode cX11_init 194 = .ok (.bipush 16, 2) := dcX11_init_13.2.2.2.2.2.2.1
theorem dX11_init_196 : decode cX11_init 196 = .ok (.newarray .int, 2) := dcX11_init_13.2.2.2.2.2.2.2
theorem dcX11_init_14 : (decode cX11_init 198 = .ok (.putfield 73, 3)) ∧ (decode cX11_init 201 = .ok (.aload_n 0, 1)) ∧ (decode cX11_init 202 = .ok (.bipush 16, 2)) ∧ (decode cX11_init 204 = .ok (.newarray .int, 2)) ∧ (decode cX11_init 206 = .ok (.putfield 77, 3)) ∧ (decode cX11_init 209 = .ok (.aload_n 0, 1)) ∧ (decode cX11_init 210 = .ok (.iconst 0, 1)) ∧ (decode cX11_init 211 = .ok (.putfield 80, 3)) := by decide +kernel
theorem dX11_init_198 : decode cX11_init 198 = .ok (.putfield 73, 3) := dcX11_init_14.1
theorem dX11_init_201 : decode cX11_init 201 = .ok (.aload_n 0, 1) := dcX11_init_14.2.1
theorem dX11_init_202 : decode cX11_init 202 = .ok (.bipush 16, 2) := dcX11_init_14.2.2.1
theorem dX11_init_204 : decode cX11_init 204 = .ok (.newarray .int, 2) := dcX11_init_14.2.2.2.1
theorem dX11_init_206 : decode cX11_init 206 = .ok (.putfield 77, 3) := dcX11_init_14.2.2.2.2.1
theorem dX11_init_209 : decode cX11_init 209 = .ok (.aload_n 0, 1) := dcX11_init_14.2.2.2.2.2.1
theorem dX11_init_210 : decode cX11_init 210 = .ok (.iconst 0, 1) := dcX11_init_14.2.2.2.2.2.2.1
theorem dX11_init_211 : decode cX11_init 211 = .ok (.putfield 80, 3) := dcX11_init_14.2.2.2.2.2.2.2
theorem dcX11_init_15 : (decode cX11_init 214 = .ok (.aload_n 0, 1)) ∧ (decode cX11_init 215 = .ok (.iconst 0, 1)) ∧ (decode cX11_init 216 = .ok (.putfield 84, 3)) ∧ (decode cX11_init 219 = .ok (.aload_n 0, 1)) ∧ (decode cX11_init 220 = .ok (.bipush 60, 2)) ∧ (decode cX11_init 222 = .ok (.putfield 87, 3)) ∧ (decode cX11_init 225 = .ok (.aload_n 0, 1)) ∧ (decode cX11_init 226 = .ok (.iconst 1, 1)) := by decide +kernel
theorem dX11_init_214 : decode cX11_init 214 = .ok (.aload_n 0, 1) := dcX11_init_15.1
theorem dX11_init_215 : decode cX11_init 215 = .ok (.iconst 0, 1) := dcX11_init_15.2.1
theorem dX11_init_216 : decode cX11_init 216 = .ok (.putfield 84, 3) := dcX11_init_15.2.2.1
theorem dX11_init_219 : decode cX11_init 219 = .ok (.aload_n 0, 1) := dcX11_init_15.2.2.2.1
theorem dX11_init_220 : decode cX11_init 220 = .ok (.bipush 60, 2) := dcX11_init_15.2.2.2.2.1
theorem dX11_init_222 : decode cX11_init 222 = .ok (.putfield 87, 3) := dcX11_init_15.2.2.2.2.2.1
theorem dX11_init_225 : decode cX11_init 225 = .ok (.aload_n 0, 1) := dcX11_init_15.2.2.2.2.2.2.1
theorem dX11_init_226 : decode cX11_init 226 = .ok (.iconst 1, 1) := dcX11_init_15.2.2.2.2.2.2.2
theorem dcX11_init_16 : (decode cX11_init 227 = .ok (.putfield 90, 3)) ∧ (decode cX11_init 230 = .ok (.aload_n 0, 1)) ∧ (decode cX11_init 231 = .ok (.iconst 0, 1)) ∧ (decode cX11_init 232 = .ok (.putfield 93, 3)) ∧ (decode cX11_init 235 = .ok (.new 53, 3)) ∧ (decode cX11_init 238 = .ok (.dup, 1)) ∧ (decode cX11_init 239 = .ok (.iconst 3, 1)) ∧ (decode cX11_init 240 = .ok (.newarray .int, 2)) := by decide +kernel
theorem dX11_init_227 : decode cX11_init 227 = .ok (.putfield 90, 3) := dcX11_init_16.1
theorem dX11_init_230 : decode cX11_init 230 = .ok (.aload_n 0, 1) := dcX11_init_16.2.1
theorem dX11_init_231 : decode cX11_init 231 = .ok (.iconst 0, 1) := dcX11_init_16.2.2.1
theorem dX11_init_232 : decode cX11_init 232 = .ok (.putfield 93, 3) := dcX11_init_16.2.2.2.1
theorem dX11_init_235 : decode cX11_init 235 = .ok (.new 53, 3) := dcX11_init_16.2.2.2.2.1
theorem dX11_init_238 : decode cX11_init 238 = .ok (.dup, 1) := dcX11_init_16.2.2.2.2.2.1
theorem dX11_init_239 : decode cX11_init 239 = .ok (.iconst 3, 1) := dcX11_init_16.2.2.2.2.2.2.1
theorem dX11_init_240 : decode cX11_init 240 = .ok (.newarray .int, 2) := dcX11_init_16.2.2.2.2.2.2.2
theorem dcX11_init_17 : (decode cX11_init 242 = .ok (.dup, 1)) ∧ (decode cX11_init 243 = .ok (.iconst 0, 1)) ∧ (decode cX11_init 244 = .ok (.iconst 3, 1)) ∧ (decode cX11_init 245 = .ok (.iastore, 1)) ∧ (decode cX11_init 246 = .ok (.dup, 1)) ∧ (decode cX11_init 247 = .ok (.iconst 1, 1)) ∧ (decode cX11_init 248 = .ok (.bipush 10, 2)) ∧ (decode cX11_init 250 = .ok (.iastore, 1)) := by decide +kernel
theorem dX11_init_242 : decode cX11_init 242 = .ok (.dup, 1) := dcX11_init_17.1
theorem dX11_init_243 : decode cX11_init 243 = .ok (.iconst 0, 1) := dcX11_init_17.2.1
theorem dX11_init_244 : decode cX11_init 244 = .ok (.iconst 3, 1) := dcX11_init_17.2.2.1
theorem dX11_init_245 : decode cX11_init 245 = .ok (.iastore, 1) := dcX11_init_17.2.2.2.1
theorem dX11_init_246 : decode cX11_init 246 = .ok (.dup, 1) := dcX11_init_17.2.2.2.2.1
theorem dX11_init_247 : decode cX11_init 247 = .ok (.iconst 1, 1) := dcX11_init_17.2.2.2.2.2.1
theorem dX11_init_248 : decode cX11_init 248 = .ok (.bipush 10, 2) := dcX11_init_17.2.2.2.2.2.2.1
theorem dX11_init_250 : decode cX11_init 250 = .ok (.iastore, 1) := dcX11_init_17.2.2.2.2.2.2.2
theorem dcX11_init_18 : (decode cX11_init 251 = .ok (.dup, 1)) ∧ (decode cX11_init 252 = .ok (.iconst 2, 1)) ∧ (decode cX11_init 253 = .ok (.sipush (-264), 3)) ∧ (decode cX11_init 256 = .ok (.iastore, 1)) ∧ (decode cX11_init 257 = .ok (.iconst 3, 1)) ∧ (decode cX11_init 258 = .ok (.newarray .int, 2)) ∧ (decode cX11_init 260 = .ok (.dup, 1)) ∧ (decode cX11_init 261 = .ok (.iconst 0, 1)) := by decide +kernel
theorem dX11_init_251 : decode cX11_init 251 = .ok (.dup, 1) := dcX11_init_18.1
theorem dX11_init_252 : decode cX11_init 252 = .ok (.iconst 2, 1) := dcX11_init_18.2.1
theorem dX11_init_253 : decode cX11_init 253 = .ok (.sipush (-264), 3) := dcX11_init_18.2.2.1
theorem dX11_init_256 : decode cX11_init 256 = .ok (.iastore, 1) := dcX11_init_18.2.2.2.1
theorem dX11_init_257 : decode cX11_init 257 = .ok (.iconst 3, 1) := dcX11_init_18.2.2.2.2.1
theorem dX11_init_258 : decode cX11_init 258 = .ok (.newarray .int, 2) := dcX11_init_18.2.2.2.2.2.1
theorem dX11_init_260 : decode cX11_init 260 = .ok (.dup, 1) := dcX11_init_18.2.2.2.2.2.2.1
theorem dX11_init_261 : decode cX11_init 261 = .ok (.iconst 0, 1) := dcX11_init_18.2.2.2.2.2.2.2
theorem dcX11_init_19 : (decode cX11_init 262 = .ok (.iconst 1, 1)) ∧ (decode cX11_init 263 = .ok (.iastore, 1)) ∧ (decode cX11_init 264 = .ok (.dup, 1)) ∧ (decode cX11_init 265 = .ok (.iconst 1, 1)) ∧ (decode cX11_init 266 = .ok (.iconst 2, 1)) ∧ (decode cX11_init 267 = .ok (.iastore, 1)) ∧ (decode cX11_init 268 = .ok (.dup, 1)) ∧ (decode cX11_init 269 = .ok (.iconst 2, 1)) := by decide +kernel
theorem dX11_init_262 : decode cX11_init 262 = .ok (.iconst 1, 1) := dcX11_init_19.1
theorem dX11_init_263 : decode cX11_init 263 = .ok (.iastore, 1) := dcX11_init_19.2.1
theorem dX11_init_264 : decode cX11_init 264 = .ok (.dup, 1) := dcX11_init_19.2.2.1
theorem dX11_init_265 : decode cX11_init 265 = .ok (.iconst 1, 1) := dcX11_init_19.2.2.2.1
theorem dX11_init_266 : decode cX11_init 266 = .ok (.iconst 2, 1) := dcX11_init_19.2.2.2.2.1
theorem dX11_init_267 : decode cX11_init 267 = .ok (.iastore, 1) := dcX11_init_19.2.2.2.2.2.1
theorem dX11_init_268 : decode cX11_init 268 = .ok (.dup, 1) := dcX11_init_19.2.2.2.2.2.2.1
theorem dX11_init_269 : decode cX11_init 269 = .ok (.iconst 2, 1) := dcX11_init_19.2.2.2.2.2.2.2
theorem dcX11_init_20 : (decode cX11_init 270 = .ok (.iconst 3, 1)) ∧ (decode cX11_init 271 = .ok (.iastore, 1)) ∧ (decode cX11_init 272 = .ok (.invokespecial 96, 3)) ∧ (decode cX11_init 275 = .ok (.astore_n 1, 1)) ∧ (decode cX11_init 276 = .ok (.iconst 0, 1)) ∧ (decode cX11_init 277 = .ok (.istore_n 2, 1)) ∧ (decode cX11_init 278 = .ok (.iload_n 2, 1)) ∧ (decode cX11_init 279 = .ok (.bipush 6, 2)) := by decide +kernel
theorem dX11_init_270 : decode cX11_init 270 = .ok (.iconst 3, 1) := dcX11_init_20.1
theorem dX11_init_271 : decode cX11_init 271 = .ok (.iastore, 1) := dcX11_init_20.2.1
theorem dX11_init_272 : decode cX11_init 272 = .ok (.invokespecial 96, 3) := dcX11_init_20.2.2.1
theorem dX11_init_275 : decode cX11_init 275 = .ok (.astore_n 1, 1) := dcX11_init_20.2.2.2.1
theorem dX11_init_276 : decode cX11_init 276 = .ok (.iconst 0, 1) := dcX11_init_20.2.2.2.2.1
theorem dX11_init_277 : decode cX11_init 277 = .ok (.istore_n 2, 1) := dcX11_init_20.2.2.2.2.2.1
theorem dX11_init_278 : decode cX11_init 278 = .ok (.iload_n 2, 1) := dcX11_init_20.2.2.2.2.2.2.1
theorem dX11_init_279 : decode cX11_init 279 = .ok (.bipush 6, 2) := dcX11_init_20.2.2.2.2.2.2.2
theorem dcX11_init_21 : (decode cX11_init 281 = .ok (.if_icmp .ge 16, 3)) ∧ (decode cX11_init 284 = .ok (.aload_n 0, 1)) ∧ (decode cX11_init 285 = .ok (.getfield 55, 3)) ∧ (decode cX11_init 288 = .ok (.iload_n 2, 1)) ∧ (decode cX11_init 289 = .ok (.aload_n 1, 1)) ∧ (decode cX11_init 290 = .ok (.aastore, 1)) ∧ (decode cX11_init 291 = .ok (.iinc 2 1, 3)) ∧ (decode cX11_init 294 = .ok (.goto (-16), 3)) := by decide +kernel
theorem dX11_init_281 : decode cX11_init 281 = .ok (.if_icmp .ge 16, 3) := dcX11_init_21.1
theorem dX11_init_284 : decode cX11_init 284 = .ok (.aload_n 0, 1) := dcX11_init_21.2.1
theorem dX11_init_285 : decode cX11_init 285 = .ok (.getfield 55, 3) := dcX11_init_21.2.2.1
theorem dX11_init_288 : decode cX11_init 288 = .ok (.iload_n 2, 1) := dcX11_init_21.2.2.2.1
theorem dX11_init_289 : decode cX11_init 289 = .ok (.aload_n 1, 1) := dcX11_init_21.2.2.2.2.1
theorem dX11_init_290 : decode cX11_init 290 = .ok (.aastore, 1) := dcX11_init_21.2.2.2.2.2.1
theorem dX11_init_291 : decode cX11_init 291 = .ok (.iinc 2 1, 3) := dcX11_init_21.2.2.2.2.2.2.1
theorem dX11_init_294 : decode cX11_init 294 = .ok (.goto (-16), 3) := dcX11_init_21.2.2.2.2.2.2.2
theorem dX11_init_297 : decode cX11_init 297 = .ok (.return_, 1) := by decide +kernel
theorem dcX11_newPanes_0 : (decode cX11_newPanes 0 = .ok (.bipush 6, 2)) ∧ (decode cX11_newPanes 2 = .ok (.anewarray 99, 3)) ∧ (decode cX11_newPanes 5 = .ok (.astore_n 1, 1)) ∧ (decode cX11_newPanes 6 = .ok (.iconst 0, 1)) ∧ (decode cX11_newPanes 7 = .ok (.istore_n 2, 1)) ∧ (decode cX11_newPanes 8 = .ok (.iload_n 2, 1)) ∧ (decode cX11_newPanes 9 = .ok (.bipush 6, 2)) ∧ (decode cX11_newPanes 11 = .ok (.if_icmp .ge 20, 3)) := by decide +kernel
theorem dX11_newPanes_0 : decode cX11_newPanes 0 = .ok (.bipush 6, 2) := dcX11_newPanes_0.1
theorem dX11_newPanes_2 : decode cX11_newPanes 2 = .ok (.anewarray 99, 3) := dcX11_newPanes_0.2.1
theorem dX11_newPanes_5 : decode cX11_newPanes 5 = .ok (.astore_n 1, 1) := dcX11_newPanes_0.2.2.1
theorem dX11_newPanes_6 : decode cX11_newPanes 6 = .ok (.iconst 0, 1) := dcX11_newPanes_0.2.2.2.1
theorem dX11_newPanes_7 : decode cX11_newPanes 7 = .ok (.istore_n 2, 1) := dcX11_newPanes_0.2.2.2.2.1
theorem dX11_newPanes_8 : decode cX11_newPanes 8 = .ok (.iload_n 2, 1) := dcX11_newPanes_0.2.2.2.2.2.1
theorem dX11_newPanes_9 : decode cX11_newPanes 9 = .ok (.bipush 6, 2) := dcX11_newPanes_0.2.2.2.2.2.2.1
theorem dX11_newPanes_11 : decode cX11_newPanes 11 = .ok (.if_icmp .ge 20, 3) := dcX11_newPanes_0.2.2.2.2.2.2.2
theorem dcX11_newPanes_1 : (decode cX11_newPanes 14 = .ok (.aload_n 1, 1)) ∧ (decode cX11_newPanes 15 = .ok (.iload_n 2, 1)) ∧ (decode cX11_newPanes 16 = .ok (.new 99, 3)) ∧ (decode cX11_newPanes 19 = .ok (.dup, 1)) ∧ (decode cX11_newPanes 20 = .ok (.aload_n 0, 1)) ∧ (decode cX11_newPanes 21 = .ok (.invokespecial 101, 3)) ∧ (decode cX11_newPanes 24 = .ok (.aastore, 1)) ∧ (decode cX11_newPanes 25 = .ok (.iinc 2 1, 3)) := by decide +kernel
theorem dX11_newPanes_14 : decode cX11_newPanes 14 = .ok (.aload_n 1, 1) := dcX11_newPanes_1.1
theorem dX11_newPanes_15 : decode cX11_newPanes 15 = .ok (.iload_n 2, 1) := dcX11_newPanes_1.2.1
theorem dX11_newPanes_16 : decode cX11_newPanes 16 = .ok (.new 99, 3) := dcX11_newPanes_1.2.2.1
theorem dX11_newPanes_19 : decode cX11_newPanes 19 = .ok (.dup, 1) := dcX11_newPanes_1.2.2.2.1
theorem dX11_newPanes_20 : decode cX11_newPanes 20 = .ok (.aload_n 0, 1) := dcX11_newPanes_1.2.2.2.2.1
theorem dX11_newPanes_21 : decode cX11_newPanes 21 = .ok (.invokespecial 101, 3) := dcX11_newPanes_1.2.2.2.2.2.1
theorem dX11_newPanes_24 : decode cX11_newPanes 24 = .ok (.aastore, 1) := dcX11_newPanes_1.2.2.2.2.2.2.1
theorem dX11_newPanes_25 : decode cX11_newPanes 25 = .ok (.iinc 2 1, 3) := dcX11_newPanes_1.2.2.2.2.2.2.2
theorem dcX11_newPanes_2 : (decode cX11_newPanes 28 = .ok (.goto (-20), 3)) ∧ (decode cX11_newPanes 31 = .ok (.aload_n 1, 1)) ∧ (decode cX11_newPanes 32 = .ok (.areturn, 1)) := by decide +kernel
theorem dX11_newPanes_28 : decode cX11_newPanes 28 = .ok (.goto (-20), 3) := dcX11_newPanes_2.1
theorem dX11_newPanes_31 : decode cX11_newPanes 31 = .ok (.aload_n 1, 1) := dcX11_newPanes_2.2.1
theorem dX11_newPanes_32 : decode cX11_newPanes 32 = .ok (.areturn, 1) := dcX11_newPanes_2.2.2
theorem dcX11_count_0 : (decode cX11_count 0 = .ok (.iload_n 1, 1)) ∧ (decode cX11_count 1 = .ok (.tableswitch 72 0 5 #[39, 44, 49, 54, 59, 64], 39)) ∧ (decode cX11_count 40 = .ok (.aload_n 0, 1)) ∧ (decode cX11_count 41 = .ok (.getfield 80, 3)) ∧ (decode cX11_count 44 = .ok (.ireturn, 1)) ∧ (decode cX11_count 45 = .ok (.aload_n 0, 1)) ∧ (decode cX11_count 46 = .ok (.getfield 84, 3)) ∧ (decode cX11_count 49 = .ok (.ireturn, 1)) := by decide +kernel
theorem dX11_count_0 : decode cX11_count 0 = .ok (.iload_n 1, 1) := dcX11_count_0.1
theorem dX11_count_1 : decode cX11_count 1 = .ok (.tableswitch 72 0 5 #[39, 44, 49, 54, 59, 64], 39) := dcX11_count_0.2.1
theorem dX11_count_40 : decode cX11_count 40 = .ok (.aload_n 0, 1) := dcX11_count_0.2.2.1
theorem dX11_count_41 : decode cX11_count 41 = .ok (.getfield 80, 3) := dcX11_count_0.2.2.2.1
theorem dX11_count_44 : decode cX11_count 44 = .ok (.ireturn, 1) := dcX11_count_0.2.2.2.2.1
theorem dX11_count_45 : decode cX11_count 45 = .ok (.aload_n 0, 1) := dcX11_count_0.2.2.2.2.2.1
theorem dX11_count_46 : decode cX11_count 46 = .ok (.getfield 84, 3) := dcX11_count_0.2.2.2.2.2.2.1
theorem dX11_count_49 : decode cX11_count 49 = .ok (.ireturn, 1) := dcX11_count_0.2.2.2.2.2.2.2
theorem dcX11_count_1 : (decode cX11_count 50 = .ok (.aload_n 0, 1)) ∧ (decode cX11_count 51 = .ok (.getfield 87, 3)) ∧ (decode cX11_count 54 = .ok (.ireturn, 1)) ∧ (decode cX11_count 55 = .ok (.aload_n 0, 1)) ∧ (decode cX11_count 56 = .ok (.getfield 90, 3)) ∧ (decode cX11_count 59 = .ok (.ireturn, 1)) ∧ (decode cX11_count 60 = .ok (.aload_n 0, 1)) ∧ (decode cX11_count 61 = .ok (.getfield 93, 3)) := by decide +kernel
theorem dX11_count_50 : decode cX11_count 50 = .ok (.aload_n 0, 1) := dcX11_count_1.1
theorem dX11_count_51 : decode cX11_count 51 = .ok (.getfield 87, 3) := dcX11_count_1.2.1
theorem dX11_count_54 : decode cX11_count 54 = .ok (.ireturn, 1) := dcX11_count_1.2.2.1
theorem dX11_count_55 : decode cX11_count 55 = .ok (.aload_n 0, 1) := dcX11_count_1.2.2.2.1
theorem dX11_count_56 : decode cX11_count 56 = .ok (.getfield 90, 3) := dcX11_count_1.2.2.2.2.1
theorem dX11_count_59 : decode cX11_count 59 = .ok (.ireturn, 1) := dcX11_count_1.2.2.2.2.2.1
theorem dX11_count_60 : decode cX11_count 60 = .ok (.aload_n 0, 1) := dcX11_count_1.2.2.2.2.2.2.1
theorem dX11_count_61 : decode cX11_count 61 = .ok (.getfield 93, 3) := dcX11_count_1.2.2.2.2.2.2.2
theorem dcX11_count_2 : (decode cX11_count 64 = .ok (.ireturn, 1)) ∧ (decode cX11_count 65 = .ok (.aload_n 0, 1)) ∧ (decode cX11_count 66 = .ok (.getfield 62, 3)) ∧ (decode cX11_count 69 = .ok (.getfield 104, 3)) ∧ (decode cX11_count 72 = .ok (.ireturn, 1)) ∧ (decode cX11_count 73 = .ok (.bipush (-2), 2)) ∧ (decode cX11_count 75 = .ok (.ireturn, 1)) := by decide +kernel
theorem dX11_count_64 : decode cX11_count 64 = .ok (.ireturn, 1) := dcX11_count_2.1
theorem dX11_count_65 : decode cX11_count 65 = .ok (.aload_n 0, 1) := dcX11_count_2.2.1
theorem dX11_count_66 : decode cX11_count 66 = .ok (.getfield 62, 3) := dcX11_count_2.2.2.1
theorem dX11_count_69 : decode cX11_count 69 = .ok (.getfield 104, 3) := dcX11_count_2.2.2.2.1
theorem dX11_count_72 : decode cX11_count 72 = .ok (.ireturn, 1) := dcX11_count_2.2.2.2.2.1
theorem dX11_count_73 : decode cX11_count 73 = .ok (.bipush (-2), 2) := dcX11_count_2.2.2.2.2.2.1
theorem dX11_count_75 : decode cX11_count 75 = .ok (.ireturn, 1) := dcX11_count_2.2.2.2.2.2.2
theorem dcX11_hours_0 : (decode cX11_hours 0 = .ok (.iload_n 1, 1)) ∧ (decode cX11_hours 1 = .ok (.sipush 999, 3)) ∧ (decode cX11_hours 4 = .ok (.invokestatic 107, 3)) ∧ (decode cX11_hours 7 = .ok (.ifCond .ne 6, 3)) ∧ (decode cX11_hours 10 = .ok (.bipush (-2), 2)) ∧ (decode cX11_hours 12 = .ok (.ireturn, 1)) ∧ (decode cX11_hours 13 = .ok (.aload_n 0, 1)) ∧ (decode cX11_hours 14 = .ok (.getfield 87, 3)) := by decide +kernel
theorem dX11_hours_0 : decode cX11_hours 0 = .ok (.iload_n 1, 1) := dcX11_hours_0.1
theorem dX11_hours_1 : decode cX11_hours 1 = .ok (.sipush 999, 3) := dcX11_hours_0.2.1
theorem dX11_hours_4 : decode cX11_hours 4 = .ok (.invokestatic 107, 3) := dcX11_hours_0.2.2.1
theorem dX11_hours_7 : decode cX11_hours 7 = .ok (.ifCond .ne 6, 3) := dcX11_hours_0.2.2.2.1
theorem dX11_hours_10 : decode cX11_hours 10 = .ok (.bipush (-2), 2) := dcX11_hours_0.2.2.2.2.1
theorem dX11_hours_12 : decode cX11_hours 12 = .ok (.ireturn, 1) := dcX11_hours_0.2.2.2.2.2.1
theorem dX11_hours_13 : decode cX11_hours 13 = .ok (.aload_n 0, 1) := dcX11_hours_0.2.2.2.2.2.2.1
theorem dX11_hours_14 : decode cX11_hours 14 = .ok (.getfield 87, 3) := dcX11_hours_0.2.2.2.2.2.2.2
theorem dcX11_hours_1 : (decode cX11_hours 17 = .ok (.istore_n 2, 1)) ∧ (decode cX11_hours 18 = .ok (.aload_n 0, 1)) ∧ (decode cX11_hours 19 = .ok (.iload_n 1, 1)) ∧ (decode cX11_hours 20 = .ok (.putfield 87, 3)) ∧ (decode cX11_hours 23 = .ok (.iload_n 2, 1)) ∧ (decode cX11_hours 24 = .ok (.ireturn, 1)) := by decide +kernel
theorem dX11_hours_17 : decode cX11_hours 17 = .ok (.istore_n 2, 1) := dcX11_hours_1.1
theorem dX11_hours_18 : decode cX11_hours 18 = .ok (.aload_n 0, 1) := dcX11_hours_1.2.1
theorem dX11_hours_19 : decode cX11_hours 19 = .ok (.iload_n 1, 1) := dcX11_hours_1.2.2.1
theorem dX11_hours_20 : decode cX11_hours 20 = .ok (.putfield 87, 3) := dcX11_hours_1.2.2.2.1
theorem dX11_hours_23 : decode cX11_hours 23 = .ok (.iload_n 2, 1) := dcX11_hours_1.2.2.2.2.1
theorem dX11_hours_24 : decode cX11_hours 24 = .ok (.ireturn, 1) := dcX11_hours_1.2.2.2.2.2
theorem dcX11_feed_0 : (decode cX11_feed 0 = .ok (.iload_n 2, 1)) ∧ (decode cX11_feed 1 = .ok (.sipush 255, 3)) ∧ (decode cX11_feed 4 = .ok (.invokestatic 107, 3)) ∧ (decode cX11_feed 7 = .ok (.ifCond .eq 50, 3)) ∧ (decode cX11_feed 10 = .ok (.iload_n 3, 1)) ∧ (decode cX11_feed 11 = .ok (.sipush 255, 3)) ∧ (decode cX11_feed 14 = .ok (.invokestatic 107, 3)) ∧ (decode cX11_feed 17 = .ok (.ifCond .eq 40, 3)) := by decide +kernel
theorem dX11_feed_0 : decode cX11_feed 0 = .ok (.iload_n 2, 1) := dcX11_feed_0.1
theorem dX11_feed_1 : decode cX11_feed 1 = .ok (.sipush 255, 3) := dcX11_feed_0.2.1
theorem dX11_feed_4 : decode cX11_feed 4 = .ok (.invokestatic 107, 3) := dcX11_feed_0.2.2.1
theorem dX11_feed_7 : decode cX11_feed 7 = .ok (.ifCond .eq 50, 3) := dcX11_feed_0.2.2.2.1
theorem dX11_feed_10 : decode cX11_feed 10 = .ok (.iload_n 3, 1) := dcX11_feed_0.2.2.2.2.1
theorem dX11_feed_11 : decode cX11_feed 11 = .ok (.sipush 255, 3) := dcX11_feed_0.2.2.2.2.2.1
theorem dX11_feed_14 : decode cX11_feed 14 = .ok (.invokestatic 107, 3) := dcX11_feed_0.2.2.2.2.2.2.1
theorem dX11_feed_17 : decode cX11_feed 17 = .ok (.ifCond .eq 40, 3) := dcX11_feed_0.2.2.2.2.2.2.2
theorem dcX11_feed_1 : (decode cX11_feed 20 = .ok (.iload 4, 2)) ∧ (decode cX11_feed 22 = .ok (.sipush 255, 3)) ∧ (decode cX11_feed 25 = .ok (.invokestatic 107, 3)) ∧ (decode cX11_feed 28 = .ok (.ifCond .eq 29, 3)) ∧ (decode cX11_feed 31 = .ok (.iload 5, 2)) ∧ (decode cX11_feed 33 = .ok (.sipush 255, 3)) ∧ (decode cX11_feed 36 = .ok (.invokestatic 107, 3)) ∧ (decode cX11_feed 39 = .ok (.ifCond .eq 18, 3)) := by decide +kernel
theorem dX11_feed_20 : decode cX11_feed 20 = .ok (.iload 4, 2) := dcX11_feed_1.1
theorem dX11_feed_22 : decode cX11_feed 22 = .ok (.sipush 255, 3) := dcX11_feed_1.2.1
theorem dX11_feed_25 : decode cX11_feed 25 = .ok (.invokestatic 107, 3) := dcX11_feed_1.2.2.1
theorem dX11_feed_28 : decode cX11_feed 28 = .ok (.ifCond .eq 29, 3) := dcX11_feed_1.2.2.2.1
theorem dX11_feed_31 : decode cX11_feed 31 = .ok (.iload 5, 2) := dcX11_feed_1.2.2.2.2.1
theorem dX11_feed_33 : decode cX11_feed 33 = .ok (.sipush 255, 3) := dcX11_feed_1.2.2.2.2.2.1
theorem dX11_feed_36 : decode cX11_feed 36 = .ok (.invokestatic 107, 3) := dcX11_feed_1.2.2.2.2.2.2.1
theorem dX11_feed_39 : decode cX11_feed 39 = .ok (.ifCond .eq 18, 3) := dcX11_feed_1.2.2.2.2.2.2.2
theorem dcX11_feed_2 : (decode cX11_feed 42 = .ok (.iload 6, 2)) ∧ (decode cX11_feed 44 = .ok (.sipush 255, 3)) ∧ (decode cX11_feed 47 = .ok (.invokestatic 107, 3)) ∧ (decode cX11_feed 50 = .ok (.ifCond .eq 7, 3)) ∧ (decode cX11_feed 53 = .ok (.iconst 1, 1)) ∧ (decode cX11_feed 54 = .ok (.goto 4, 3)) ∧ (decode cX11_feed 57 = .ok (.iconst 0, 1)) ∧ (decode cX11_feed 58 = .ok (.istore 7, 2)) := by decide +kernel
theorem dX11_feed_42 : decode cX11_feed 42 = .ok (.iload 6, 2) := dcX11_feed_2.1
theorem dX11_feed_44 : decode cX11_feed 44 = .ok (.sipush 255, 3) := dcX11_feed_2.2.1
theorem dX11_feed_47 : decode cX11_feed 47 = .ok (.invokestatic 107, 3) := dcX11_feed_2.2.2.1
theorem dX11_feed_50 : decode cX11_feed 50 = .ok (.ifCond .eq 7, 3) := dcX11_feed_2.2.2.2.1
theorem dX11_feed_53 : decode cX11_feed 53 = .ok (.iconst 1, 1) := dcX11_feed_2.2.2.2.2.1
theorem dX11_feed_54 : decode cX11_feed 54 = .ok (.goto 4, 3) := dcX11_feed_2.2.2.2.2.2.1
theorem dX11_feed_57 : decode cX11_feed 57 = .ok (.iconst 0, 1) := dcX11_feed_2.2.2.2.2.2.2.1
theorem dX11_feed_58 : decode cX11_feed 58 = .ok (.istore 7, 2) := dcX11_feed_2.2.2.2.2.2.2.2
theorem dcX11_feed_3 : (decode cX11_feed 60 = .ok (.iload_n 1, 1)) ∧ (decode cX11_feed 61 = .ok (.iconst 1, 1)) ∧ (decode cX11_feed 62 = .ok (.if_icmp .lt 13, 3)) ∧ (decode cX11_feed 65 = .ok (.iload_n 1, 1)) ∧ (decode cX11_feed 66 = .ok (.iconst 5, 1)) ∧ (decode cX11_feed 67 = .ok (.if_icmp .gt 8, 3)) ∧ (decode cX11_feed 70 = .ok (.iload 7, 2)) ∧ (decode cX11_feed 72 = .ok (.ifCond .ne 6, 3)) := by decide +kernel
theorem dX11_feed_60 : decode cX11_feed 60 = .ok (.iload_n 1, 1) := dcX11_feed_3.1
theorem dX11_feed_61 : decode cX11_feed 61 = .ok (.iconst 1, 1) := dcX11_feed_3.2.1
theorem dX11_feed_62 : decode cX11_feed 62 = .ok (.if_icmp .lt 13, 3) := dcX11_feed_3.2.2.1
theorem dX11_feed_65 : decode cX11_feed 65 = .ok (.iload_n 1, 1) := dcX11_feed_3.2.2.2.1
theorem dX11_feed_66 : decode cX11_feed 66 = .ok (.iconst 5, 1) := dcX11_feed_3.2.2.2.2.1
theorem dX11_feed_67 : decode cX11_feed 67 = .ok (.if_icmp .gt 8, 3) := dcX11_feed_3.2.2.2.2.2.1
theorem dX11_feed_70 : decode cX11_feed 70 = .ok (.iload 7, 2) := dcX11_feed_3.2.2.2.2.2.2.1
theorem dX11_feed_72 : decode cX11_feed 72 = .ok (.ifCond .ne 6, 3) := dcX11_feed_3.2.2.2.2.2.2.2
theorem dcX11_feed_4 : (decode cX11_feed 75 = .ok (.bipush (-2), 2)) ∧ (decode cX11_feed 77 = .ok (.ireturn, 1)) ∧ (decode cX11_feed 78 = .ok (.aload_n 0, 1)) ∧ (decode cX11_feed 79 = .ok (.getfield 62, 3)) ∧ (decode cX11_feed 82 = .ok (.getfield 104, 3)) ∧ (decode cX11_feed 85 = .ok (.iload_n 1, 1)) ∧ (decode cX11_feed 86 = .ok (.iadd, 1)) ∧ (decode cX11_feed 87 = .ok (.sipush 160, 3)) := by decide +kernel
theorem dX11_feed_75 : decode cX11_feed 75 = .ok (.bipush (-2), 2) := dcX11_feed_4.1
theorem dX11_feed_77 : decode cX11_feed 77 = .ok (.ireturn, 1) := dcX11_feed_4.2.1
theorem dX11_feed_78 : decode cX11_feed 78 = .ok (.aload_n 0, 1) := dcX11_feed_4.2.2.1
theorem dX11_feed_79 : decode cX11_feed 79 = .ok (.getfield 62, 3) := dcX11_feed_4.2.2.2.1
theorem dX11_feed_82 : decode cX11_feed 82 = .ok (.getfield 104, 3) := dcX11_feed_4.2.2.2.2.1
theorem dX11_feed_85 : decode cX11_feed 85 = .ok (.iload_n 1, 1) := dcX11_feed_4.2.2.2.2.2.1
theorem dX11_feed_86 : decode cX11_feed 86 = .ok (.iadd, 1) := dcX11_feed_4.2.2.2.2.2.2.1
theorem dX11_feed_87 : decode cX11_feed 87 = .ok (.sipush 160, 3) := dcX11_feed_4.2.2.2.2.2.2.2
theorem dcX11_feed_5 : (decode cX11_feed 90 = .ok (.if_icmp .le 6, 3)) ∧ (decode cX11_feed 93 = .ok (.bipush (-4), 2)) ∧ (decode cX11_feed 95 = .ok (.ireturn, 1)) ∧ (decode cX11_feed 96 = .ok (.aload_n 0, 1)) ∧ (decode cX11_feed 97 = .ok (.getfield 62, 3)) ∧ (decode cX11_feed 100 = .ok (.iload_n 2, 1)) ∧ (decode cX11_feed 101 = .ok (.invokevirtual 111, 3)) ∧ (decode cX11_feed 104 = .ok (.iload_n 1, 1)) := by decide +kernel
theorem dX11_feed_90 : decode cX11_feed 90 = .ok (.if_icmp .le 6, 3) := dcX11_feed_5.1
theorem dX11_feed_93 : decode cX11_feed 93 = .ok (.bipush (-4), 2) := dcX11_feed_5.2.1
theorem dX11_feed_95 : decode cX11_feed 95 = .ok (.ireturn, 1) := dcX11_feed_5.2.2.1
theorem dX11_feed_96 : decode cX11_feed 96 = .ok (.aload_n 0, 1) := dcX11_feed_5.2.2.2.1
theorem dX11_feed_97 : decode cX11_feed 97 = .ok (.getfield 62, 3) := dcX11_feed_5.2.2.2.2.1
theorem dX11_feed_100 : decode cX11_feed 100 = .ok (.iload_n 2, 1) := dcX11_feed_5.2.2.2.2.2.1
theorem dX11_feed_101 : decode cX11_feed 101 = .ok (.invokevirtual 111, 3) := dcX11_feed_5.2.2.2.2.2.2.1
theorem dX11_feed_104 : decode cX11_feed 104 = .ok (.iload_n 1, 1) := dcX11_feed_5.2.2.2.2.2.2.2
theorem dcX11_feed_6 : (decode cX11_feed 105 = .ok (.iconst 1, 1)) ∧ (decode cX11_feed 106 = .ok (.if_icmp .le 11, 3)) ∧ (decode cX11_feed 109 = .ok (.aload_n 0, 1)) ∧ (decode cX11_feed 110 = .ok (.getfield 62, 3)) ∧ (decode cX11_feed 113 = .ok (.iload_n 3, 1)) ∧ (decode cX11_feed 114 = .ok (.invokevirtual 111, 3)) ∧ (decode cX11_feed 117 = .ok (.iload_n 1, 1)) ∧ (decode cX11_feed 118 = .ok (.iconst 2, 1)) := by decide +kernel
theorem dX11_feed_105 : decode cX11_feed 105 = .ok (.iconst 1, 1) := dcX11_feed_6.1
theorem dX11_feed_106 : decode cX11_feed 106 = .ok (.if_icmp .le 11, 3) := dcX11_feed_6.2.1
theorem dX11_feed_109 : decode cX11_feed 109 = .ok (.aload_n 0, 1) := dcX11_feed_6.2.2.1
theorem dX11_feed_110 : decode cX11_feed 110 = .ok (.getfield 62, 3) := dcX11_feed_6.2.2.2.1
theorem dX11_feed_113 : decode cX11_feed 113 = .ok (.iload_n 3, 1) := dcX11_feed_6.2.2.2.2.1
theorem dX11_feed_114 : decode cX11_feed 114 = .ok (.invokevirtual 111, 3) := dcX11_feed_6.2.2.2.2.2.1
theorem dX11_feed_117 : decode cX11_feed 117 = .ok (.iload_n 1, 1) := dcX11_feed_6.2.2.2.2.2.2.1
theorem dX11_feed_118 : decode cX11_feed 118 = .ok (.iconst 2, 1) := dcX11_feed_6.2.2.2.2.2.2.2
theorem dcX11_feed_7 : (decode cX11_feed 119 = .ok (.if_icmp .le 12, 3)) ∧ (decode cX11_feed 122 = .ok (.aload_n 0, 1)) ∧ (decode cX11_feed 123 = .ok (.getfield 62, 3)) ∧ (decode cX11_feed 126 = .ok (.iload 4, 2)) ∧ (decode cX11_feed 128 = .ok (.invokevirtual 111, 3)) ∧ (decode cX11_feed 131 = .ok (.iload_n 1, 1)) ∧ (decode cX11_feed 132 = .ok (.iconst 3, 1)) ∧ (decode cX11_feed 133 = .ok (.if_icmp .le 12, 3)) := by decide +kernel
theorem dX11_feed_119 : decode cX11_feed 119 = .ok (.if_icmp .le 12, 3) := dcX11_feed_7.1
theorem dX11_feed_122 : decode cX11_feed 122 = .ok (.aload_n 0, 1) := dcX11_feed_7.2.1
theorem dX11_feed_123 : decode cX11_feed 123 = .ok (.getfield 62, 3) := dcX11_feed_7.2.2.1
theorem dX11_feed_126 : decode cX11_feed 126 = .ok (.iload 4, 2) := dcX11_feed_7.2.2.2.1
theorem dX11_feed_128 : decode cX11_feed 128 = .ok (.invokevirtual 111, 3) := dcX11_feed_7.2.2.2.2.1
theorem dX11_feed_131 : decode cX11_feed 131 = .ok (.iload_n 1, 1) := dcX11_feed_7.2.2.2.2.2.1
theorem dX11_feed_132 : decode cX11_feed 132 = .ok (.iconst 3, 1) := dcX11_feed_7.2.2.2.2.2.2.1
theorem dX11_feed_133 : decode cX11_feed 133 = .ok (.if_icmp .le 12, 3) := dcX11_feed_7.2.2.2.2.2.2.2
theorem dcX11_feed_8 : (decode cX11_feed 136 = .ok (.aload_n 0, 1)) ∧ (decode cX11_feed 137 = .ok (.getfield 62, 3)) ∧ (decode cX11_feed 140 = .ok (.iload 5, 2)) ∧ (decode cX11_feed 142 = .ok (.invokevirtual 111, 3)) ∧ (decode cX11_feed 145 = .ok (.iload_n 1, 1)) ∧ (decode cX11_feed 146 = .ok (.iconst 4, 1)) ∧ (decode cX11_feed 147 = .ok (.if_icmp .le 12, 3)) ∧ (decode cX11_feed 150 = .ok (.aload_n 0, 1)) := by decide +kernel
theorem dX11_feed_136 : decode cX11_feed 136 = .ok (.aload_n 0, 1) := dcX11_feed_8.1
theorem dX11_feed_137 : decode cX11_feed 137 = .ok (.getfield 62, 3) := dcX11_feed_8.2.1
theorem dX11_feed_140 : decode cX11_feed 140 = .ok (.iload 5, 2) := dcX11_feed_8.2.2.1
theorem dX11_feed_142 : decode cX11_feed 142 = .ok (.invokevirtual 111, 3) := dcX11_feed_8.2.2.2.1
theorem dX11_feed_145 : decode cX11_feed 145 = .ok (.iload_n 1, 1) := dcX11_feed_8.2.2.2.2.1
theorem dX11_feed_146 : decode cX11_feed 146 = .ok (.iconst 4, 1) := dcX11_feed_8.2.2.2.2.2.1
theorem dX11_feed_147 : decode cX11_feed 147 = .ok (.if_icmp .le 12, 3) := dcX11_feed_8.2.2.2.2.2.2.1
theorem dX11_feed_150 : decode cX11_feed 150 = .ok (.aload_n 0, 1) := dcX11_feed_8.2.2.2.2.2.2.2
theorem dcX11_feed_9 : (decode cX11_feed 151 = .ok (.getfield 62, 3)) ∧ (decode cX11_feed 154 = .ok (.iload 6, 2)) ∧ (decode cX11_feed 156 = .ok (.invokevirtual 111, 3)) ∧ (decode cX11_feed 159 = .ok (.aload_n 0, 1)) ∧ (decode cX11_feed 160 = .ok (.getfield 62, 3)) ∧ (decode cX11_feed 163 = .ok (.getfield 104, 3)) ∧ (decode cX11_feed 166 = .ok (.ireturn, 1)) := by decide +kernel
theorem dX11_feed_151 : decode cX11_feed 151 = .ok (.getfield 62, 3) := dcX11_feed_9.1
theorem dX11_feed_154 : decode cX11_feed 154 = .ok (.iload 6, 2) := dcX11_feed_9.2.1
theorem dX11_feed_156 : decode cX11_feed 156 = .ok (.invokevirtual 111, 3) := dcX11_feed_9.2.2.1
theorem dX11_feed_159 : decode cX11_feed 159 = .ok (.aload_n 0, 1) := dcX11_feed_9.2.2.2.1
theorem dX11_feed_160 : decode cX11_feed 160 = .ok (.getfield 62, 3) := dcX11_feed_9.2.2.2.2.1
theorem dX11_feed_163 : decode cX11_feed 163 = .ok (.getfield 104, 3) := dcX11_feed_9.2.2.2.2.2.1
theorem dX11_feed_166 : decode cX11_feed 166 = .ok (.ireturn, 1) := dcX11_feed_9.2.2.2.2.2.2
theorem dcX11_text_0 : (decode cX11_text 0 = .ok (.aload_n 0, 1)) ∧ (decode cX11_text 1 = .ok (.getfield 90, 3)) ∧ (decode cX11_text 4 = .ok (.bipush 6, 2)) ∧ (decode cX11_text 6 = .ok (.if_icmp .lt 6, 3)) ∧ (decode cX11_text 9 = .ok (.bipush (-4), 2)) ∧ (decode cX11_text 11 = .ok (.ireturn, 1)) ∧ (decode cX11_text 12 = .ok (.aload_n 0, 1)) ∧ (decode cX11_text 13 = .ok (.getfield 62, 3)) := by decide +kernel
theorem dX11_text_0 : decode cX11_text 0 = .ok (.aload_n 0, 1) := dcX11_text_0.1
theorem dX11_text_1 : decode cX11_text 1 = .ok (.getfield 90, 3) := dcX11_text_0.2.1
theorem dX11_text_4 : decode cX11_text 4 = .ok (.bipush 6, 2) := dcX11_text_0.2.2.1
theorem dX11_text_6 : decode cX11_text 6 = .ok (.if_icmp .lt 6, 3) := dcX11_text_0.2.2.2.1
theorem dX11_text_9 : decode cX11_text 9 = .ok (.bipush (-4), 2) := dcX11_text_0.2.2.2.2.1
theorem dX11_text_11 : decode cX11_text 11 = .ok (.ireturn, 1) := dcX11_text_0.2.2.2.2.2.1
theorem dX11_text_12 : decode cX11_text 12 = .ok (.aload_n 0, 1) := dcX11_text_0.2.2.2.2.2.2.1
theorem dX11_text_13 : decode cX11_text 13 = .ok (.getfield 62, 3) := dcX11_text_0.2.2.2.2.2.2.2
theorem dcX11_text_1 : (decode cX11_text 16 = .ok (.invokevirtual 114, 3)) ∧ (decode cX11_text 19 = .ok (.istore_n 1, 1)) ∧ (decode cX11_text 20 = .ok (.aload_n 0, 1)) ∧ (decode cX11_text 21 = .ok (.getfield 62, 3)) ∧ (decode cX11_text 24 = .ok (.iconst 0, 1)) ∧ (decode cX11_text 25 = .ok (.putfield 104, 3)) ∧ (decode cX11_text 28 = .ok (.iload_n 1, 1)) ∧ (decode cX11_text 29 = .ok (.ifCond .ne 14, 3)) := by decide +kernel
theorem dX11_text_16 : decode cX11_text 16 = .ok (.invokevirtual 114, 3) := dcX11_text_1.1
theorem dX11_text_19 : decode cX11_text 19 = .ok (.istore_n 1, 1) := dcX11_text_1.2.1
theorem dX11_text_20 : decode cX11_text 20 = .ok (.aload_n 0, 1) := dcX11_text_1.2.2.1
theorem dX11_text_21 : decode cX11_text 21 = .ok (.getfield 62, 3) := dcX11_text_1.2.2.2.1
theorem dX11_text_24 : decode cX11_text 24 = .ok (.iconst 0, 1) := dcX11_text_1.2.2.2.2.1
theorem dX11_text_25 : decode cX11_text 25 = .ok (.putfield 104, 3) := dcX11_text_1.2.2.2.2.2.1
theorem dX11_text_28 : decode cX11_text 28 = .ok (.iload_n 1, 1) := dcX11_text_1.2.2.2.2.2.2.1
theorem dX11_text_29 : decode cX11_text 29 = .ok (.ifCond .ne 14, 3) := dcX11_text_1.2.2.2.2.2.2.2
theorem dcX11_text_2 : (decode cX11_text 32 = .ok (.bipush (-100), 2)) ∧ (decode cX11_text 34 = .ok (.aload_n 0, 1)) ∧ (decode cX11_text 35 = .ok (.getfield 62, 3)) ∧ (decode cX11_text 38 = .ok (.getfield 118, 3)) ∧ (decode cX11_text 41 = .ok (.isub, 1)) ∧ (decode cX11_text 42 = .ok (.ireturn, 1)) ∧ (decode cX11_text 43 = .ok (.aload_n 0, 1)) ∧ (decode cX11_text 44 = .ok (.getfield 55, 3)) := by decide +kernel
theorem dX11_text_32 : decode cX11_text 32 = .ok (.bipush (-100), 2) := dcX11_text_2.1
theorem dX11_text_34 : decode cX11_text 34 = .ok (.aload_n 0, 1) := dcX11_text_2.2.1
theorem dX11_text_35 : decode cX11_text 35 = .ok (.getfield 62, 3) := dcX11_text_2.2.2.1
theorem dX11_text_38 : decode cX11_text 38 = .ok (.getfield 118, 3) := dcX11_text_2.2.2.2.1
theorem dX11_text_41 : decode cX11_text 41 = .ok (.isub, 1) := dcX11_text_2.2.2.2.2.1
theorem dX11_text_42 : decode cX11_text 42 = .ok (.ireturn, 1) := dcX11_text_2.2.2.2.2.2.1
theorem dX11_text_43 : decode cX11_text 43 = .ok (.aload_n 0, 1) := dcX11_text_2.2.2.2.2.2.2.1
theorem dX11_text_44 : decode cX11_text 44 = .ok (.getfield 55, 3) := dcX11_text_2.2.2.2.2.2.2.2
theorem dcX11_text_3 : (decode cX11_text 47 = .ok (.aload_n 0, 1)) ∧ (decode cX11_text 48 = .ok (.getfield 90, 3)) ∧ (decode cX11_text 51 = .ok (.aload_n 0, 1)) ∧ (decode cX11_text 52 = .ok (.getfield 62, 3)) ∧ (decode cX11_text 55 = .ok (.invokevirtual 121, 3)) ∧ (decode cX11_text 58 = .ok (.aastore, 1)) ∧ (decode cX11_text 59 = .ok (.aload_n 0, 1)) ∧ (decode cX11_text 60 = .ok (.dup, 1)) := by decide +kernel
theorem dX11_text_47 : decode cX11_text 47 = .ok (.aload_n 0, 1) := dcX11_text_3.1
theorem dX11_text_48 : decode cX11_text 48 = .ok (.getfield 90, 3) := dcX11_text_3.2.1
theorem dX11_text_51 : decode cX11_text 51 = .ok (.aload_n 0, 1) := dcX11_text_3.2.2.1
theorem dX11_text_52 : decode cX11_text 52 = .ok (.getfield 62, 3) := dcX11_text_3.2.2.2.1
theorem dX11_text_55 : decode cX11_text 55 = .ok (.invokevirtual 121, 3) := dcX11_text_3.2.2.2.2.1
theorem dX11_text_58 : decode cX11_text 58 = .ok (.aastore, 1) := dcX11_text_3.2.2.2.2.2.1
theorem dX11_text_59 : decode cX11_text 59 = .ok (.aload_n 0, 1) := dcX11_text_3.2.2.2.2.2.2.1
theorem dX11_text_60 : decode cX11_text 60 = .ok (.dup, 1) := dcX11_text_3.2.2.2.2.2.2.2
theorem dcX11_text_4 : (decode cX11_text 61 = .ok (.getfield 90, 3)) ∧ (decode cX11_text 64 = .ok (.iconst 1, 1)) ∧ (decode cX11_text 65 = .ok (.iadd, 1)) ∧ (decode cX11_text 66 = .ok (.putfield 90, 3)) ∧ (decode cX11_text 69 = .ok (.aload_n 0, 1)) ∧ (decode cX11_text 70 = .ok (.getfield 90, 3)) ∧ (decode cX11_text 73 = .ok (.iconst 1, 1)) ∧ (decode cX11_text 74 = .ok (.isub, 1)) := by decide +kernel
theorem dX11_text_61 : decode cX11_text 61 = .ok (.getfield 90, 3) := dcX11_text_4.1
theorem dX11_text_64 : decode cX11_text 64 = .ok (.iconst 1, 1) := dcX11_text_4.2.1
theorem dX11_text_65 : decode cX11_text 65 = .ok (.iadd, 1) := dcX11_text_4.2.2.1
theorem dX11_text_66 : decode cX11_text 66 = .ok (.putfield 90, 3) := dcX11_text_4.2.2.2.1
theorem dX11_text_69 : decode cX11_text 69 = .ok (.aload_n 0, 1) := dcX11_text_4.2.2.2.2.1
theorem dX11_text_70 : decode cX11_text 70 = .ok (.getfield 90, 3) := dcX11_text_4.2.2.2.2.2.1
theorem dX11_text_73 : decode cX11_text 73 = .ok (.iconst 1, 1) := dcX11_text_4.2.2.2.2.2.2.1
theorem dX11_text_74 : decode cX11_text 74 = .ok (.isub, 1) := dcX11_text_4.2.2.2.2.2.2.2
theorem dX11_text_75 : decode cX11_text 75 = .ok (.ireturn, 1) := by decide +kernel
theorem dcX11_force_0 : (decode cX11_force 0 = .ok (.iload_n 1, 1)) ∧ (decode cX11_force 1 = .ok (.aload_n 0, 1)) ∧ (decode cX11_force 2 = .ok (.getfield 90, 3)) ∧ (decode cX11_force 5 = .ok (.iconst 1, 1)) ∧ (decode cX11_force 6 = .ok (.isub, 1)) ∧ (decode cX11_force 7 = .ok (.invokestatic 107, 3)) ∧ (decode cX11_force 10 = .ok (.ifCond .ne 6, 3)) ∧ (decode cX11_force 13 = .ok (.bipush (-2), 2)) := by decide +kernel
theorem dX11_force_0 : decode cX11_force 0 = .ok (.iload_n 1, 1) := dcX11_force_0.1
theorem dX11_force_1 : decode cX11_force 1 = .ok (.aload_n 0, 1) := dcX11_force_0.2.1
theorem dX11_force_2 : decode cX11_force 2 = .ok (.getfield 90, 3) := dcX11_force_0.2.2.1
theorem dX11_force_5 : decode cX11_force 5 = .ok (.iconst 1, 1) := dcX11_force_0.2.2.2.1
theorem dX11_force_6 : decode cX11_force 6 = .ok (.isub, 1) := dcX11_force_0.2.2.2.2.1
theorem dX11_force_7 : decode cX11_force 7 = .ok (.invokestatic 107, 3) := dcX11_force_0.2.2.2.2.2.1
theorem dX11_force_10 : decode cX11_force 10 = .ok (.ifCond .ne 6, 3) := dcX11_force_0.2.2.2.2.2.2.1
theorem dX11_force_13 : decode cX11_force 13 = .ok (.bipush (-2), 2) := dcX11_force_0.2.2.2.2.2.2.2
theorem dcX11_force_1 : (decode cX11_force 15 = .ok (.ireturn, 1)) ∧ (decode cX11_force 16 = .ok (.aload_n 0, 1)) ∧ (decode cX11_force 17 = .ok (.getfield 93, 3)) ∧ (decode cX11_force 20 = .ok (.istore_n 2, 1)) ∧ (decode cX11_force 21 = .ok (.aload_n 0, 1)) ∧ (decode cX11_force 22 = .ok (.iload_n 1, 1)) ∧ (decode cX11_force 23 = .ok (.putfield 93, 3)) ∧ (decode cX11_force 26 = .ok (.iload_n 2, 1)) := by decide +kernel
theorem dX11_force_15 : decode cX11_force 15 = .ok (.ireturn, 1) := dcX11_force_1.1
theorem dX11_force_16 : decode cX11_force 16 = .ok (.aload_n 0, 1) := dcX11_force_1.2.1
theorem dX11_force_17 : decode cX11_force 17 = .ok (.getfield 93, 3) := dcX11_force_1.2.2.1
theorem dX11_force_20 : decode cX11_force 20 = .ok (.istore_n 2, 1) := dcX11_force_1.2.2.2.1
theorem dX11_force_21 : decode cX11_force 21 = .ok (.aload_n 0, 1) := dcX11_force_1.2.2.2.2.1
theorem dX11_force_22 : decode cX11_force 22 = .ok (.iload_n 1, 1) := dcX11_force_1.2.2.2.2.2.1
theorem dX11_force_23 : decode cX11_force 23 = .ok (.putfield 93, 3) := dcX11_force_1.2.2.2.2.2.2.1
theorem dX11_force_26 : decode cX11_force 26 = .ok (.iload_n 2, 1) := dcX11_force_1.2.2.2.2.2.2.2
theorem dX11_force_27 : decode cX11_force 27 = .ok (.ireturn, 1) := by decide +kernel
theorem dcX11_asks_0 : (decode cX11_asks 0 = .ok (.iload_n 1, 1)) ∧ (decode cX11_asks 1 = .ok (.iconst 2, 1)) ∧ (decode cX11_asks 2 = .ok (.invokestatic 107, 3)) ∧ (decode cX11_asks 5 = .ok (.ifCond .eq 18, 3)) ∧ (decode cX11_asks 8 = .ok (.aload_n 0, 1)) ∧ (decode cX11_asks 9 = .ok (.iload_n 2, 1)) ∧ (decode cX11_asks 10 = .ok (.invokevirtual 125, 3)) ∧ (decode cX11_asks 13 = .ok (.ifCond .eq 10, 3)) := by decide +kernel
theorem dX11_asks_0 : decode cX11_asks 0 = .ok (.iload_n 1, 1) := dcX11_asks_0.1
theorem dX11_asks_1 : decode cX11_asks 1 = .ok (.iconst 2, 1) := dcX11_asks_0.2.1
theorem dX11_asks_2 : decode cX11_asks 2 = .ok (.invokestatic 107, 3) := dcX11_asks_0.2.2.1
theorem dX11_asks_5 : decode cX11_asks 5 = .ok (.ifCond .eq 18, 3) := dcX11_asks_0.2.2.2.1
theorem dX11_asks_8 : decode cX11_asks 8 = .ok (.aload_n 0, 1) := dcX11_asks_0.2.2.2.2.1
theorem dX11_asks_9 : decode cX11_asks 9 = .ok (.iload_n 2, 1) := dcX11_asks_0.2.2.2.2.2.1
theorem dX11_asks_10 : decode cX11_asks 10 = .ok (.invokevirtual 125, 3) := dcX11_asks_0.2.2.2.2.2.2.1
theorem dX11_asks_13 : decode cX11_asks 13 = .ok (.ifCond .eq 10, 3) := dcX11_asks_0.2.2.2.2.2.2.2
theorem dcX11_asks_1 : (decode cX11_asks 16 = .ok (.iload_n 3, 1)) ∧ (decode cX11_asks 17 = .ok (.invokestatic 129, 3)) ∧ (decode cX11_asks 20 = .ok (.ifCond .ne 6, 3)) ∧ (decode cX11_asks 23 = .ok (.bipush (-2), 2)) ∧ (decode cX11_asks 25 = .ok (.ireturn, 1)) ∧ (decode cX11_asks 26 = .ok (.aload_n 0, 1)) ∧ (decode cX11_asks 27 = .ok (.getfield 37, 3)) ∧ (decode cX11_asks 30 = .ok (.iload_n 2, 1)) := by decide +kernel
theorem dX11_asks_16 : decode cX11_asks 16 = .ok (.iload_n 3, 1) := dcX11_asks_1.1
theorem dX11_asks_17 : decode cX11_asks 17 = .ok (.invokestatic 129, 3) := dcX11_asks_1.2.1
theorem dX11_asks_20 : decode cX11_asks 20 = .ok (.ifCond .ne 6, 3) := dcX11_asks_1.2.2.1
theorem dX11_asks_23 : decode cX11_asks 23 = .ok (.bipush (-2), 2) := dcX11_asks_1.2.2.2.1
theorem dX11_asks_25 : decode cX11_asks 25 = .ok (.ireturn, 1) := dcX11_asks_1.2.2.2.2.1
theorem dX11_asks_26 : decode cX11_asks 26 = .ok (.aload_n 0, 1) := dcX11_asks_1.2.2.2.2.2.1
theorem dX11_asks_27 : decode cX11_asks 27 = .ok (.getfield 37, 3) := dcX11_asks_1.2.2.2.2.2.2.1
theorem dX11_asks_30 : decode cX11_asks 30 = .ok (.iload_n 2, 1) := dcX11_asks_1.2.2.2.2.2.2.2
theorem dcX11_asks_2 : (decode cX11_asks 31 = .ok (.aaload, 1)) ∧ (decode cX11_asks 32 = .ok (.aload_n 0, 1)) ∧ (decode cX11_asks 33 = .ok (.getfield 55, 3)) ∧ (decode cX11_asks 36 = .ok (.aload_n 0, 1)) ∧ (decode cX11_asks 37 = .ok (.getfield 93, 3)) ∧ (decode cX11_asks 40 = .ok (.aaload, 1)) ∧ (decode cX11_asks 41 = .ok (.iload_n 1, 1)) ∧ (decode cX11_asks 42 = .ok (.iload_n 3, 1)) := by decide +kernel
theorem dX11_asks_31 : decode cX11_asks 31 = .ok (.aaload, 1) := dcX11_asks_2.1
theorem dX11_asks_32 : decode cX11_asks 32 = .ok (.aload_n 0, 1) := dcX11_asks_2.2.1
theorem dX11_asks_33 : decode cX11_asks 33 = .ok (.getfield 55, 3) := dcX11_asks_2.2.2.1
theorem dX11_asks_36 : decode cX11_asks 36 = .ok (.aload_n 0, 1) := dcX11_asks_2.2.2.2.1
theorem dX11_asks_37 : decode cX11_asks 37 = .ok (.getfield 93, 3) := dcX11_asks_2.2.2.2.2.1
theorem dX11_asks_40 : decode cX11_asks 40 = .ok (.aaload, 1) := dcX11_asks_2.2.2.2.2.2.1
theorem dX11_asks_41 : decode cX11_asks 41 = .ok (.iload_n 1, 1) := dcX11_asks_2.2.2.2.2.2.2.1
theorem dX11_asks_42 : decode cX11_asks 42 = .ok (.iload_n 3, 1) := dcX11_asks_2.2.2.2.2.2.2.2
theorem dcX11_asks_3 : (decode cX11_asks 43 = .ok (.aload_n 0, 1)) ∧ (decode cX11_asks 44 = .ok (.getfield 84, 3)) ∧ (decode cX11_asks 47 = .ok (.invokevirtual 132, 3)) ∧ (decode cX11_asks 50 = .ok (.ireturn, 1)) := by decide +kernel
theorem dX11_asks_43 : decode cX11_asks 43 = .ok (.aload_n 0, 1) := dcX11_asks_3.1
theorem dX11_asks_44 : decode cX11_asks 44 = .ok (.getfield 84, 3) := dcX11_asks_3.2.1
theorem dX11_asks_47 : decode cX11_asks 47 = .ok (.invokevirtual 132, 3) := dcX11_asks_3.2.2.1
theorem dX11_asks_50 : decode cX11_asks 50 = .ok (.ireturn, 1) := dcX11_asks_3.2.2.2
theorem dcX11_sleeper_0 : (decode cX11_sleeper 0 = .ok (.iload_n 1, 1)) ∧ (decode cX11_sleeper 1 = .ok (.bipush 59, 2)) ∧ (decode cX11_sleeper 3 = .ok (.invokestatic 107, 3)) ∧ (decode cX11_sleeper 6 = .ok (.ifCond .eq 21, 3)) ∧ (decode cX11_sleeper 9 = .ok (.iload_n 2, 1)) ∧ (decode cX11_sleeper 10 = .ok (.ldc 136, 2)) ∧ (decode cX11_sleeper 12 = .ok (.invokestatic 107, 3)) ∧ (decode cX11_sleeper 15 = .ok (.ifCond .eq 12, 3)) := by decide +kernel
theorem dX11_sleeper_0 : decode cX11_sleeper 0 = .ok (.iload_n 1, 1) := dcX11_sleeper_0.1
theorem dX11_sleeper_1 : decode cX11_sleeper 1 = .ok (.bipush 59, 2) := dcX11_sleeper_0.2.1
theorem dX11_sleeper_3 : decode cX11_sleeper 3 = .ok (.invokestatic 107, 3) := dcX11_sleeper_0.2.2.1
theorem dX11_sleeper_6 : decode cX11_sleeper 6 = .ok (.ifCond .eq 21, 3) := dcX11_sleeper_0.2.2.2.1
theorem dX11_sleeper_9 : decode cX11_sleeper 9 = .ok (.iload_n 2, 1) := dcX11_sleeper_0.2.2.2.2.1
theorem dX11_sleeper_10 : decode cX11_sleeper 10 = .ok (.ldc 136, 2) := dcX11_sleeper_0.2.2.2.2.2.1
theorem dX11_sleeper_12 : decode cX11_sleeper 12 = .ok (.invokestatic 107, 3) := dcX11_sleeper_0.2.2.2.2.2.2.1
theorem dX11_sleeper_15 : decode cX11_sleeper 15 = .ok (.ifCond .eq 12, 3) := dcX11_sleeper_0.2.2.2.2.2.2.2
theorem dcX11_sleeper_1 : (decode cX11_sleeper 18 = .ok (.iload_n 3, 1)) ∧ (decode cX11_sleeper 19 = .ok (.bipush 99, 2)) ∧ (decode cX11_sleeper 21 = .ok (.invokestatic 107, 3)) ∧ (decode cX11_sleeper 24 = .ok (.ifCond .ne 6, 3)) ∧ (decode cX11_sleeper 27 = .ok (.bipush (-2), 2)) ∧ (decode cX11_sleeper 29 = .ok (.ireturn, 1)) ∧ (decode cX11_sleeper 30 = .ok (.aload_n 0, 1)) ∧ (decode cX11_sleeper 31 = .ok (.getfield 80, 3)) := by decide +kernel
theorem dX11_sleeper_18 : decode cX11_sleeper 18 = .ok (.iload_n 3, 1) := dcX11_sleeper_1.1
theorem dX11_sleeper_19 : decode cX11_sleeper 19 = .ok (.bipush 99, 2) := dcX11_sleeper_1.2.1
theorem dX11_sleeper_21 : decode cX11_sleeper 21 = .ok (.invokestatic 107, 3) := dcX11_sleeper_1.2.2.1
theorem dX11_sleeper_24 : decode cX11_sleeper 24 = .ok (.ifCond .ne 6, 3) := dcX11_sleeper_1.2.2.2.1
theorem dX11_sleeper_27 : decode cX11_sleeper 27 = .ok (.bipush (-2), 2) := dcX11_sleeper_1.2.2.2.2.1
theorem dX11_sleeper_29 : decode cX11_sleeper 29 = .ok (.ireturn, 1) := dcX11_sleeper_1.2.2.2.2.2.1
theorem dX11_sleeper_30 : decode cX11_sleeper 30 = .ok (.aload_n 0, 1) := dcX11_sleeper_1.2.2.2.2.2.2.1
theorem dX11_sleeper_31 : decode cX11_sleeper 31 = .ok (.getfield 80, 3) := dcX11_sleeper_1.2.2.2.2.2.2.2
theorem dcX11_sleeper_2 : (decode cX11_sleeper 34 = .ok (.bipush 6, 2)) ∧ (decode cX11_sleeper 36 = .ok (.if_icmp .lt 6, 3)) ∧ (decode cX11_sleeper 39 = .ok (.bipush (-4), 2)) ∧ (decode cX11_sleeper 41 = .ok (.ireturn, 1)) ∧ (decode cX11_sleeper 42 = .ok (.aload_n 0, 1)) ∧ (decode cX11_sleeper 43 = .ok (.getfield 37, 3)) ∧ (decode cX11_sleeper 46 = .ok (.aload_n 0, 1)) ∧ (decode cX11_sleeper 47 = .ok (.getfield 80, 3)) := by decide +kernel
theorem dX11_sleeper_34 : decode cX11_sleeper 34 = .ok (.bipush 6, 2) := dcX11_sleeper_2.1
theorem dX11_sleeper_36 : decode cX11_sleeper 36 = .ok (.if_icmp .lt 6, 3) := dcX11_sleeper_2.2.1
theorem dX11_sleeper_39 : decode cX11_sleeper 39 = .ok (.bipush (-4), 2) := dcX11_sleeper_2.2.2.1
theorem dX11_sleeper_41 : decode cX11_sleeper 41 = .ok (.ireturn, 1) := dcX11_sleeper_2.2.2.2.1
theorem dX11_sleeper_42 : decode cX11_sleeper 42 = .ok (.aload_n 0, 1) := dcX11_sleeper_2.2.2.2.2.1
theorem dX11_sleeper_43 : decode cX11_sleeper 43 = .ok (.getfield 37, 3) := dcX11_sleeper_2.2.2.2.2.2.1
theorem dX11_sleeper_46 : decode cX11_sleeper 46 = .ok (.aload_n 0, 1) := dcX11_sleeper_2.2.2.2.2.2.2.1
theorem dX11_sleeper_47 : decode cX11_sleeper 47 = .ok (.getfield 80, 3) := dcX11_sleeper_2.2.2.2.2.2.2.2
theorem dcX11_sleeper_3 : (decode cX11_sleeper 50 = .ok (.aaload, 1)) ∧ (decode cX11_sleeper 51 = .ok (.astore 4, 2)) ∧ (decode cX11_sleeper 53 = .ok (.aload 4, 2)) ∧ (decode cX11_sleeper 55 = .ok (.aload_n 0, 1)) ∧ (decode cX11_sleeper 56 = .ok (.getfield 29, 3)) ∧ (decode cX11_sleeper 59 = .ok (.iload_n 1, 1)) ∧ (decode cX11_sleeper 60 = .ok (.bipush 10, 2)) ∧ (decode cX11_sleeper 62 = .ok (.idiv, 1)) := by decide +kernel
theorem dX11_sleeper_50 : decode cX11_sleeper 50 = .ok (.aaload, 1) := dcX11_sleeper_3.1
theorem dX11_sleeper_51 : decode cX11_sleeper 51 = .ok (.astore 4, 2) := dcX11_sleeper_3.2.1
theorem dX11_sleeper_53 : decode cX11_sleeper 53 = .ok (.aload 4, 2) := dcX11_sleeper_3.2.2.1
theorem dX11_sleeper_55 : decode cX11_sleeper 55 = .ok (.aload_n 0, 1) := dcX11_sleeper_3.2.2.2.1
theorem dX11_sleeper_56 : decode cX11_sleeper 56 = .ok (.getfield 29, 3) := dcX11_sleeper_3.2.2.2.2.1
theorem dX11_sleeper_59 : decode cX11_sleeper 59 = .ok (.iload_n 1, 1) := dcX11_sleeper_3.2.2.2.2.2.1
theorem dX11_sleeper_60 : decode cX11_sleeper 60 = .ok (.bipush 10, 2) := dcX11_sleeper_3.2.2.2.2.2.2.1
theorem dX11_sleeper_62 : decode cX11_sleeper 62 = .ok (.idiv, 1) := dcX11_sleeper_3.2.2.2.2.2.2.2
theorem dcX11_sleeper_4 : (decode cX11_sleeper 63 = .ok (.aaload, 1)) ∧ (decode cX11_sleeper 64 = .ok (.putfield 137, 3)) ∧ (decode cX11_sleeper 67 = .ok (.aload 4, 2)) ∧ (decode cX11_sleeper 69 = .ok (.iload_n 1, 1)) ∧ (decode cX11_sleeper 70 = .ok (.bipush 10, 2)) ∧ (decode cX11_sleeper 72 = .ok (.irem, 1)) ∧ (decode cX11_sleeper 73 = .ok (.putfield 141, 3)) ∧ (decode cX11_sleeper 76 = .ok (.aload 4, 2)) := by decide +kernel
theorem dX11_sleeper_63 : decode cX11_sleeper 63 = .ok (.aaload, 1) := dcX11_sleeper_4.1
theorem dX11_sleeper_64 : decode cX11_sleeper 64 = .ok (.putfield 137, 3) := dcX11_sleeper_4.2.1
theorem dX11_sleeper_67 : decode cX11_sleeper 67 = .ok (.aload 4, 2) := dcX11_sleeper_4.2.2.1
theorem dX11_sleeper_69 : decode cX11_sleeper 69 = .ok (.iload_n 1, 1) := dcX11_sleeper_4.2.2.2.1
theorem dX11_sleeper_70 : decode cX11_sleeper 70 = .ok (.bipush 10, 2) := dcX11_sleeper_4.2.2.2.2.1
theorem dX11_sleeper_72 : decode cX11_sleeper 72 = .ok (.irem, 1) := dcX11_sleeper_4.2.2.2.2.2.1
theorem dX11_sleeper_73 : decode cX11_sleeper 73 = .ok (.putfield 141, 3) := dcX11_sleeper_4.2.2.2.2.2.2.1
theorem dX11_sleeper_76 : decode cX11_sleeper 76 = .ok (.aload 4, 2) := dcX11_sleeper_4.2.2.2.2.2.2.2
theorem dcX11_sleeper_5 : (decode cX11_sleeper 78 = .ok (.iload_n 2, 1)) ∧ (decode cX11_sleeper 79 = .ok (.putfield 144, 3)) ∧ (decode cX11_sleeper 82 = .ok (.aload 4, 2)) ∧ (decode cX11_sleeper 84 = .ok (.iload_n 3, 1)) ∧ (decode cX11_sleeper 85 = .ok (.invokevirtual 147, 3)) ∧ (decode cX11_sleeper 88 = .ok (.aload_n 0, 1)) ∧ (decode cX11_sleeper 89 = .ok (.dup, 1)) ∧ (decode cX11_sleeper 90 = .ok (.getfield 80, 3)) := by decide +kernel
theorem dX11_sleeper_78 : decode cX11_sleeper 78 = .ok (.iload_n 2, 1) := dcX11_sleeper_5.1
theorem dX11_sleeper_79 : decode cX11_sleeper 79 = .ok (.putfield 144, 3) := dcX11_sleeper_5.2.1
theorem dX11_sleeper_82 : decode cX11_sleeper 82 = .ok (.aload 4, 2) := dcX11_sleeper_5.2.2.1
theorem dX11_sleeper_84 : decode cX11_sleeper 84 = .ok (.iload_n 3, 1) := dcX11_sleeper_5.2.2.2.1
theorem dX11_sleeper_85 : decode cX11_sleeper 85 = .ok (.invokevirtual 147, 3) := dcX11_sleeper_5.2.2.2.2.1
theorem dX11_sleeper_88 : decode cX11_sleeper 88 = .ok (.aload_n 0, 1) := dcX11_sleeper_5.2.2.2.2.2.1
theorem dX11_sleeper_89 : decode cX11_sleeper 89 = .ok (.dup, 1) := dcX11_sleeper_5.2.2.2.2.2.2.1
theorem dX11_sleeper_90 : decode cX11_sleeper 90 = .ok (.getfield 80, 3) := dcX11_sleeper_5.2.2.2.2.2.2.2
theorem dcX11_sleeper_6 : (decode cX11_sleeper 93 = .ok (.iconst 1, 1)) ∧ (decode cX11_sleeper 94 = .ok (.iadd, 1)) ∧ (decode cX11_sleeper 95 = .ok (.putfield 80, 3)) ∧ (decode cX11_sleeper 98 = .ok (.aload_n 0, 1)) ∧ (decode cX11_sleeper 99 = .ok (.getfield 80, 3)) ∧ (decode cX11_sleeper 102 = .ok (.iconst 1, 1)) ∧ (decode cX11_sleeper 103 = .ok (.isub, 1)) ∧ (decode cX11_sleeper 104 = .ok (.ireturn, 1)) := by decide +kernel
theorem dX11_sleeper_93 : decode cX11_sleeper 93 = .ok (.iconst 1, 1) := dcX11_sleeper_6.1
theorem dX11_sleeper_94 : decode cX11_sleeper 94 = .ok (.iadd, 1) := dcX11_sleeper_6.2.1
theorem dX11_sleeper_95 : decode cX11_sleeper 95 = .ok (.putfield 80, 3) := dcX11_sleeper_6.2.2.1
theorem dX11_sleeper_98 : decode cX11_sleeper 98 = .ok (.aload_n 0, 1) := dcX11_sleeper_6.2.2.2.1
theorem dX11_sleeper_99 : decode cX11_sleeper 99 = .ok (.getfield 80, 3) := dcX11_sleeper_6.2.2.2.2.1
theorem dX11_sleeper_102 : decode cX11_sleeper 102 = .ok (.iconst 1, 1) := dcX11_sleeper_6.2.2.2.2.2.1
theorem dX11_sleeper_103 : decode cX11_sleeper 103 = .ok (.isub, 1) := dcX11_sleeper_6.2.2.2.2.2.2.1
theorem dX11_sleeper_104 : decode cX11_sleeper 104 = .ok (.ireturn, 1) := dcX11_sleeper_6.2.2.2.2.2.2.2
theorem dcX11_put_0 : (decode cX11_put 0 = .ok (.aload_n 0, 1)) ∧ (decode cX11_put 1 = .ok (.iload_n 1, 1)) ∧ (decode cX11_put 2 = .ok (.invokevirtual 125, 3)) ∧ (decode cX11_put 5 = .ok (.ifCond .ne 6, 3)) ∧ (decode cX11_put 8 = .ok (.bipush (-5), 2)) ∧ (decode cX11_put 10 = .ok (.ireturn, 1)) ∧ (decode cX11_put 11 = .ok (.iload_n 2, 1)) ∧ (decode cX11_put 12 = .ok (.bipush 16, 2)) := by decide +kernel
theorem dX11_put_0 : decode cX11_put 0 = .ok (.aload_n 0, 1) := dcX11_put_0.1
theorem dX11_put_1 : decode cX11_put 1 = .ok (.iload_n 1, 1) := dcX11_put_0.2.1
theorem dX11_put_2 : decode cX11_put 2 = .ok (.invokevirtual 125, 3) := dcX11_put_0.2.2.1
theorem dX11_put_5 : decode cX11_put 5 = .ok (.ifCond .ne 6, 3) := dcX11_put_0.2.2.2.1
theorem dX11_put_8 : decode cX11_put 8 = .ok (.bipush (-5), 2) := dcX11_put_0.2.2.2.2.1
theorem dX11_put_10 : decode cX11_put 10 = .ok (.ireturn, 1) := dcX11_put_0.2.2.2.2.2.1
theorem dX11_put_11 : decode cX11_put 11 = .ok (.iload_n 2, 1) := dcX11_put_0.2.2.2.2.2.2.1
theorem dX11_put_12 : decode cX11_put 12 = .ok (.bipush 16, 2) := dcX11_put_0.2.2.2.2.2.2.2
theorem dcX11_put_1 : (decode cX11_put 14 = .ok (.invokestatic 107, 3)) ∧ (decode cX11_put 17 = .ok (.ifCond .eq 23, 3)) ∧ (decode cX11_put 20 = .ok (.iload_n 3, 1)) ∧ (decode cX11_put 21 = .ok (.iload_n 2, 1)) ∧ (decode cX11_put 22 = .ok (.bipush 16, 2)) ∧ (decode cX11_put 24 = .ok (.if_icmp .ne 8, 3)) ∧ (decode cX11_put 27 = .ok (.ldc 136, 2)) ∧ (decode cX11_put 29 = .ok (.goto 5, 3)) := by decide +kernel
theorem dX11_put_14 : decode cX11_put 14 = .ok (.invokestatic 107, 3) := dcX11_put_1.1
theorem dX11_put_17 : decode cX11_put 17 = .ok (.ifCond .eq 23, 3) := dcX11_put_1.2.1
theorem dX11_put_20 : decode cX11_put 20 = .ok (.iload_n 3, 1) := dcX11_put_1.2.2.1
theorem dX11_put_21 : decode cX11_put 21 = .ok (.iload_n 2, 1) := dcX11_put_1.2.2.2.1
theorem dX11_put_22 : decode cX11_put 22 = .ok (.bipush 16, 2) := dcX11_put_1.2.2.2.2.1
theorem dX11_put_24 : decode cX11_put 24 = .ok (.if_icmp .ne 8, 3) := dcX11_put_1.2.2.2.2.2.1
theorem dX11_put_27 : decode cX11_put 27 = .ok (.ldc 136, 2) := dcX11_put_1.2.2.2.2.2.2.1
theorem dX11_put_29 : decode cX11_put 29 = .ok (.goto 5, 3) := dcX11_put_1.2.2.2.2.2.2.2
theorem dcX11_put_2 : (decode cX11_put 32 = .ok (.bipush 99, 2)) ∧ (decode cX11_put 34 = .ok (.invokestatic 107, 3)) ∧ (decode cX11_put 37 = .ok (.ifCond .ne 6, 3)) ∧ (decode cX11_put 40 = .ok (.bipush (-7), 2)) ∧ (decode cX11_put 42 = .ok (.ireturn, 1)) ∧ (decode cX11_put 43 = .ok (.aload_n 0, 1)) ∧ (decode cX11_put 44 = .ok (.getfield 37, 3)) ∧ (decode cX11_put 47 = .ok (.iload_n 1, 1)) := by decide +kernel
theorem dX11_put_32 : decode cX11_put 32 = .ok (.bipush 99, 2) := dcX11_put_2.1
theorem dX11_put_34 : decode cX11_put 34 = .ok (.invokestatic 107, 3) := dcX11_put_2.2.1
theorem dX11_put_37 : decode cX11_put 37 = .ok (.ifCond .ne 6, 3) := dcX11_put_2.2.2.1
theorem dX11_put_40 : decode cX11_put 40 = .ok (.bipush (-7), 2) := dcX11_put_2.2.2.2.1
theorem dX11_put_42 : decode cX11_put 42 = .ok (.ireturn, 1) := dcX11_put_2.2.2.2.2.1
theorem dX11_put_43 : decode cX11_put 43 = .ok (.aload_n 0, 1) := dcX11_put_2.2.2.2.2.2.1
theorem dX11_put_44 : decode cX11_put 44 = .ok (.getfield 37, 3) := dcX11_put_2.2.2.2.2.2.2.1
theorem dX11_put_47 : decode cX11_put 47 = .ok (.iload_n 1, 1) := dcX11_put_2.2.2.2.2.2.2.2
theorem dcX11_put_3 : (decode cX11_put 48 = .ok (.aaload, 1)) ∧ (decode cX11_put 49 = .ok (.astore 4, 2)) ∧ (decode cX11_put 51 = .ok (.iload_n 2, 1)) ∧ (decode cX11_put 52 = .ok (.bipush 16, 2)) ∧ (decode cX11_put 54 = .ok (.if_icmp .ne 19, 3)) ∧ (decode cX11_put 57 = .ok (.aload 4, 2)) ∧ (decode cX11_put 59 = .ok (.getfield 144, 3)) ∧ (decode cX11_put 62 = .ok (.istore 5, 2)) := by decide +kernel
theorem dX11_put_48 : decode cX11_put 48 = .ok (.aaload, 1) := dcX11_put_3.1
theorem dX11_put_49 : decode cX11_put 49 = .ok (.astore 4, 2) := dcX11_put_3.2.1
theorem dX11_put_51 : decode cX11_put 51 = .ok (.iload_n 2, 1) := dcX11_put_3.2.2.1
theorem dX11_put_52 : decode cX11_put 52 = .ok (.bipush 16, 2) := dcX11_put_3.2.2.2.1
theorem dX11_put_54 : decode cX11_put 54 = .ok (.if_icmp .ne 19, 3) := dcX11_put_3.2.2.2.2.1
theorem dX11_put_57 : decode cX11_put 57 = .ok (.aload 4, 2) := dcX11_put_3.2.2.2.2.2.1
theorem dX11_put_59 : decode cX11_put 59 = .ok (.getfield 144, 3) := dcX11_put_3.2.2.2.2.2.2.1
theorem dX11_put_62 : decode cX11_put 62 = .ok (.istore 5, 2) := dcX11_put_3.2.2.2.2.2.2.2
theorem dcX11_put_4 : (decode cX11_put 64 = .ok (.aload 4, 2)) ∧ (decode cX11_put 66 = .ok (.iload_n 3, 1)) ∧ (decode cX11_put 67 = .ok (.putfield 144, 3)) ∧ (decode cX11_put 70 = .ok (.goto 20, 3)) ∧ (decode cX11_put 73 = .ok (.aload 4, 2)) ∧ (decode cX11_put 75 = .ok (.getfield 150, 3)) ∧ (decode cX11_put 78 = .ok (.iload_n 2, 1)) ∧ (decode cX11_put 79 = .ok (.iaload, 1)) := by decide +kernel
theorem dX11_put_64 : decode cX11_put 64 = .ok (.aload 4, 2) := dcX11_put_4.1
theorem dX11_put_66 : decode cX11_put 66 = .ok (.iload_n 3, 1) := dcX11_put_4.2.1
theorem dX11_put_67 : decode cX11_put 67 = .ok (.putfield 144, 3) := dcX11_put_4.2.2.1
theorem dX11_put_70 : decode cX11_put 70 = .ok (.goto 20, 3) := dcX11_put_4.2.2.2.1
theorem dX11_put_73 : decode cX11_put 73 = .ok (.aload 4, 2) := dcX11_put_4.2.2.2.2.1
theorem dX11_put_75 : decode cX11_put 75 = .ok (.getfield 150, 3) := dcX11_put_4.2.2.2.2.2.1
theorem dX11_put_78 : decode cX11_put 78 = .ok (.iload_n 2, 1) := dcX11_put_4.2.2.2.2.2.2.1
theorem dX11_put_79 : decode cX11_put 79 = .ok (.iaload, 1) := dcX11_put_4.2.2.2.2.2.2.2
theorem dcX11_put_5 : (decode cX11_put 80 = .ok (.istore 5, 2)) ∧ (decode cX11_put 82 = .ok (.aload 4, 2)) ∧ (decode cX11_put 84 = .ok (.getfield 150, 3)) ∧ (decode cX11_put 87 = .ok (.iload_n 2, 1)) ∧ (decode cX11_put 88 = .ok (.iload_n 3, 1)) ∧ (decode cX11_put 89 = .ok (.iastore, 1)) ∧ (decode cX11_put 90 = .ok (.iload 5, 2)) ∧ (decode cX11_put 92 = .ok (.ireturn, 1)) := by decide +kernel
theorem dX11_put_80 : decode cX11_put 80 = .ok (.istore 5, 2) := dcX11_put_5.1
theorem dX11_put_82 : decode cX11_put 82 = .ok (.aload 4, 2) := dcX11_put_5.2.1
theorem dX11_put_84 : decode cX11_put 84 = .ok (.getfield 150, 3) := dcX11_put_5.2.2.1
theorem dX11_put_87 : decode cX11_put 87 = .ok (.iload_n 2, 1) := dcX11_put_5.2.2.2.1
theorem dX11_put_88 : decode cX11_put 88 = .ok (.iload_n 3, 1) := dcX11_put_5.2.2.2.2.1
theorem dX11_put_89 : decode cX11_put 89 = .ok (.iastore, 1) := dcX11_put_5.2.2.2.2.2.1
theorem dX11_put_90 : decode cX11_put 90 = .ok (.iload 5, 2) := dcX11_put_5.2.2.2.2.2.2.1
theorem dX11_put_92 : decode cX11_put 92 = .ok (.ireturn, 1) := dcX11_put_5.2.2.2.2.2.2.2
theorem dcX11_told_0 : (decode cX11_told 0 = .ok (.aload_n 0, 1)) ∧ (decode cX11_told 1 = .ok (.iload_n 1, 1)) ∧ (decode cX11_told 2 = .ok (.invokevirtual 125, 3)) ∧ (decode cX11_told 5 = .ok (.ifCond .ne 6, 3)) ∧ (decode cX11_told 8 = .ok (.bipush (-5), 2)) ∧ (decode cX11_told 10 = .ok (.ireturn, 1)) ∧ (decode cX11_told 11 = .ok (.iload_n 2, 1)) ∧ (decode cX11_told 12 = .ok (.invokestatic 129, 3)) := by decide +kernel
theorem dX11_told_0 : decode cX11_told 0 = .ok (.aload_n 0, 1) := dcX11_told_0.1
theorem dX11_told_1 : decode cX11_told 1 = .ok (.iload_n 1, 1) := dcX11_told_0.2.1
theorem dX11_told_2 : decode cX11_told 2 = .ok (.invokevirtual 125, 3) := dcX11_told_0.2.2.1
theorem dX11_told_5 : decode cX11_told 5 = .ok (.ifCond .ne 6, 3) := dcX11_told_0.2.2.2.1
theorem dX11_told_8 : decode cX11_told 8 = .ok (.bipush (-5), 2) := dcX11_told_0.2.2.2.2.1
theorem dX11_told_10 : decode cX11_told 10 = .ok (.ireturn, 1) := dcX11_told_0.2.2.2.2.2.1
theorem dX11_told_11 : decode cX11_told 11 = .ok (.iload_n 2, 1) := dcX11_told_0.2.2.2.2.2.2.1
theorem dX11_told_12 : decode cX11_told 12 = .ok (.invokestatic 129, 3) := dcX11_told_0.2.2.2.2.2.2.2
theorem dcX11_told_1 : (decode cX11_told 15 = .ok (.ifCond .eq 15, 3)) ∧ (decode cX11_told 18 = .ok (.aload_n 0, 1)) ∧ (decode cX11_told 19 = .ok (.getfield 37, 3)) ∧ (decode cX11_told 22 = .ok (.iload_n 1, 1)) ∧ (decode cX11_told 23 = .ok (.aaload, 1)) ∧ (decode cX11_told 24 = .ok (.getfield 150, 3)) ∧ (decode cX11_told 27 = .ok (.iload_n 2, 1)) ∧ (decode cX11_told 28 = .ok (.iaload, 1)) := by decide +kernel
theorem dX11_told_15 : decode cX11_told 15 = .ok (.ifCond .eq 15, 3) := dcX11_told_1.1
theorem dX11_told_18 : decode cX11_told 18 = .ok (.aload_n 0, 1) := dcX11_told_1.2.1
theorem dX11_told_19 : decode cX11_told 19 = .ok (.getfield 37, 3) := dcX11_told_1.2.2.1
theorem dX11_told_22 : decode cX11_told 22 = .ok (.iload_n 1, 1) := dcX11_told_1.2.2.2.1
theorem dX11_told_23 : decode cX11_told 23 = .ok (.aaload, 1) := dcX11_told_1.2.2.2.2.1
theorem dX11_told_24 : decode cX11_told 24 = .ok (.getfield 150, 3) := dcX11_told_1.2.2.2.2.2.1
theorem dX11_told_27 : decode cX11_told 27 = .ok (.iload_n 2, 1) := dcX11_told_1.2.2.2.2.2.2.1
theorem dX11_told_28 : decode cX11_told 28 = .ok (.iaload, 1) := dcX11_told_1.2.2.2.2.2.2.2
theorem dcX11_told_2 : (decode cX11_told 29 = .ok (.ireturn, 1)) ∧ (decode cX11_told 30 = .ok (.iload_n 2, 1)) ∧ (decode cX11_told 31 = .ok (.tableswitch 72 16 19 #[29, 39, 52, 62], 29)) ∧ (decode cX11_told 60 = .ok (.aload_n 0, 1)) ∧ (decode cX11_told 61 = .ok (.getfield 37, 3)) ∧ (decode cX11_told 64 = .ok (.iload_n 1, 1)) ∧ (decode cX11_told 65 = .ok (.aaload, 1)) ∧ (decode cX11_told 66 = .ok (.getfield 144, 3)) := by decide +kernel
theorem dX11_told_29 : decode cX11_told 29 = .ok (.ireturn, 1) := dcX11_told_2.1
theorem dX11_told_30 : decode cX11_told 30 = .ok (.iload_n 2, 1) := dcX11_told_2.2.1
theorem dX11_told_31 : decode cX11_told 31 = .ok (.tableswitch 72 16 19 #[29, 39, 52, 62], 29) := dcX11_told_2.2.2.1
theorem dX11_told_60 : decode cX11_told 60 = .ok (.aload_n 0, 1) := dcX11_told_2.2.2.2.1
theorem dX11_told_61 : decode cX11_told 61 = .ok (.getfield 37, 3) := dcX11_told_2.2.2.2.2.1
theorem dX11_told_64 : decode cX11_told 64 = .ok (.iload_n 1, 1) := dcX11_told_2.2.2.2.2.2.1
theorem dX11_told_65 : decode cX11_told 65 = .ok (.aaload, 1) := dcX11_told_2.2.2.2.2.2.2.1
theorem dX11_told_66 : decode cX11_told 66 = .ok (.getfield 144, 3) := dcX11_told_2.2.2.2.2.2.2.2
theorem dcX11_told_3 : (decode cX11_told 69 = .ok (.ireturn, 1)) ∧ (decode cX11_told 70 = .ok (.aload_n 0, 1)) ∧ (decode cX11_told 71 = .ok (.getfield 37, 3)) ∧ (decode cX11_told 74 = .ok (.iload_n 1, 1)) ∧ (decode cX11_told 75 = .ok (.aaload, 1)) ∧ (decode cX11_told 76 = .ok (.getfield 137, 3)) ∧ (decode cX11_told 79 = .ok (.getfield 153, 3)) ∧ (decode cX11_told 82 = .ok (.ireturn, 1)) := by decide +kernel
theorem dX11_told_69 : decode cX11_told 69 = .ok (.ireturn, 1) := dcX11_told_3.1
theorem dX11_told_70 : decode cX11_told 70 = .ok (.aload_n 0, 1) := dcX11_told_3.2.1
theorem dX11_told_71 : decode cX11_told 71 = .ok (.getfield 37, 3) := dcX11_told_3.2.2.1
theorem dX11_told_74 : decode cX11_told 74 = .ok (.iload_n 1, 1) := dcX11_told_3.2.2.2.1
theorem dX11_told_75 : decode cX11_told 75 = .ok (.aaload, 1) := dcX11_told_3.2.2.2.2.1
theorem dX11_told_76 : decode cX11_told 76 = .ok (.getfield 137, 3) := dcX11_told_3.2.2.2.2.2.1
theorem dX11_told_79 : decode cX11_told 79 = .ok (.getfield 153, 3) := dcX11_told_3.2.2.2.2.2.2.1
theorem dX11_told_82 : decode cX11_told 82 = .ok (.ireturn, 1) := dcX11_told_3.2.2.2.2.2.2.2
theorem dcX11_told_4 : (decode cX11_told 83 = .ok (.aload_n 0, 1)) ∧ (decode cX11_told 84 = .ok (.getfield 37, 3)) ∧ (decode cX11_told 87 = .ok (.iload_n 1, 1)) ∧ (decode cX11_told 88 = .ok (.aaload, 1)) ∧ (decode cX11_told 89 = .ok (.getfield 141, 3)) ∧ (decode cX11_told 92 = .ok (.ireturn, 1)) ∧ (decode cX11_told 93 = .ok (.aload_n 0, 1)) ∧ (decode cX11_told 94 = .ok (.getfield 37, 3)) := by decide +kernel
theorem dX11_told_83 : decode cX11_told 83 = .ok (.aload_n 0, 1) := dcX11_told_4.1
theorem dX11_told_84 : decode cX11_told 84 = .ok (.getfield 37, 3) := dcX11_told_4.2.1
theorem dX11_told_87 : decode cX11_told 87 = .ok (.iload_n 1, 1) := dcX11_told_4.2.2.1
theorem dX11_told_88 : decode cX11_told 88 = .ok (.aaload, 1) := dcX11_told_4.2.2.2.1
theorem dX11_told_89 : decode cX11_told 89 = .ok (.getfield 141, 3) := dcX11_told_4.2.2.2.2.1
theorem dX11_told_92 : decode cX11_told 92 = .ok (.ireturn, 1) := dcX11_told_4.2.2.2.2.2.1
theorem dX11_told_93 : decode cX11_told 93 = .ok (.aload_n 0, 1) := dcX11_told_4.2.2.2.2.2.2.1
theorem dX11_told_94 : decode cX11_told 94 = .ok (.getfield 37, 3) := dcX11_told_4.2.2.2.2.2.2.2
theorem dcX11_told_5 : (decode cX11_told 97 = .ok (.iload_n 1, 1)) ∧ (decode cX11_told 98 = .ok (.aaload, 1)) ∧ (decode cX11_told 99 = .ok (.invokevirtual 156, 3)) ∧ (decode cX11_told 102 = .ok (.ireturn, 1)) ∧ (decode cX11_told 103 = .ok (.bipush (-7), 2)) ∧ (decode cX11_told 105 = .ok (.ireturn, 1)) := by decide +kernel
theorem dX11_told_97 : decode cX11_told 97 = .ok (.iload_n 1, 1) := dcX11_told_5.1
theorem dX11_told_98 : decode cX11_told 98 = .ok (.aaload, 1) := dcX11_told_5.2.1
theorem dX11_told_99 : decode cX11_told 99 = .ok (.invokevirtual 156, 3) := dcX11_told_5.2.2.1
theorem dX11_told_102 : decode cX11_told 102 = .ok (.ireturn, 1) := dcX11_told_5.2.2.2.1
theorem dX11_told_103 : decode cX11_told 103 = .ok (.bipush (-7), 2) := dcX11_told_5.2.2.2.2.1
theorem dX11_told_105 : decode cX11_told 105 = .ok (.ireturn, 1) := dcX11_told_5.2.2.2.2.2
theorem dcX11_view_0 : (decode cX11_view 0 = .ok (.aload_n 0, 1)) ∧ (decode cX11_view 1 = .ok (.iload_n 1, 1)) ∧ (decode cX11_view 2 = .ok (.invokevirtual 125, 3)) ∧ (decode cX11_view 5 = .ok (.ifCond .ne 6, 3)) ∧ (decode cX11_view 8 = .ok (.bipush (-5), 2)) ∧ (decode cX11_view 10 = .ok (.ireturn, 1)) ∧ (decode cX11_view 11 = .ok (.aload_n 0, 1)) ∧ (decode cX11_view 12 = .ok (.getfield 37, 3)) := by decide +kernel
theorem dX11_view_0 : decode cX11_view 0 = .ok (.aload_n 0, 1) := dcX11_view_0.1
theorem dX11_view_1 : decode cX11_view 1 = .ok (.iload_n 1, 1) := dcX11_view_0.2.1
theorem dX11_view_2 : decode cX11_view 2 = .ok (.invokevirtual 125, 3) := dcX11_view_0.2.2.1
theorem dX11_view_5 : decode cX11_view 5 = .ok (.ifCond .ne 6, 3) := dcX11_view_0.2.2.2.1
theorem dX11_view_8 : decode cX11_view 8 = .ok (.bipush (-5), 2) := dcX11_view_0.2.2.2.2.1
theorem dX11_view_10 : decode cX11_view 10 = .ok (.ireturn, 1) := dcX11_view_0.2.2.2.2.2.1
theorem dX11_view_11 : decode cX11_view 11 = .ok (.aload_n 0, 1) := dcX11_view_0.2.2.2.2.2.2.1
theorem dX11_view_12 : decode cX11_view 12 = .ok (.getfield 37, 3) := dcX11_view_0.2.2.2.2.2.2.2
theorem dcX11_view_1 : (decode cX11_view 15 = .ok (.iload_n 1, 1)) ∧ (decode cX11_view 16 = .ok (.aaload, 1)) ∧ (decode cX11_view 17 = .ok (.astore_n 3, 1)) ∧ (decode cX11_view 18 = .ok (.iload_n 2, 1)) ∧ (decode cX11_view 19 = .ok (.tableswitch 106 0 3 #[29, 47, 65, 86], 29)) ∧ (decode cX11_view 48 = .ok (.aload_n 3, 1)) ∧ (decode cX11_view 49 = .ok (.aload_n 0, 1)) ∧ (decode cX11_view 50 = .ok (.getfield 55, 3)) := by decide +kernel
theorem dX11_view_15 : decode cX11_view 15 = .ok (.iload_n 1, 1) := dcX11_view_1.1
theorem dX11_view_16 : decode cX11_view 16 = .ok (.aaload, 1) := dcX11_view_1.2.1
theorem dX11_view_17 : decode cX11_view 17 = .ok (.astore_n 3, 1) := dcX11_view_1.2.2.1
theorem dX11_view_18 : decode cX11_view 18 = .ok (.iload_n 2, 1) := dcX11_view_1.2.2.2.1
theorem dX11_view_19 : decode cX11_view 19 = .ok (.tableswitch 106 0 3 #[29, 47, 65, 86], 29) := dcX11_view_1.2.2.2.2.1
theorem dX11_view_48 : decode cX11_view 48 = .ok (.aload_n 3, 1) := dcX11_view_1.2.2.2.2.2.1
theorem dX11_view_49 : decode cX11_view 49 = .ok (.aload_n 0, 1) := dcX11_view_1.2.2.2.2.2.2.1
theorem dX11_view_50 : decode cX11_view 50 = .ok (.getfield 55, 3) := dcX11_view_1.2.2.2.2.2.2.2
theorem dcX11_view_2 : (decode cX11_view 53 = .ok (.aload_n 0, 1)) ∧ (decode cX11_view 54 = .ok (.getfield 93, 3)) ∧ (decode cX11_view 57 = .ok (.aaload, 1)) ∧ (decode cX11_view 58 = .ok (.aload_n 0, 1)) ∧ (decode cX11_view 59 = .ok (.getfield 84, 3)) ∧ (decode cX11_view 62 = .ok (.invokevirtual 160, 3)) ∧ (decode cX11_view 65 = .ok (.ireturn, 1)) ∧ (decode cX11_view 66 = .ok (.aload_n 3, 1)) := by decide +kernel
theorem dX11_view_53 : decode cX11_view 53 = .ok (.aload_n 0, 1) := dcX11_view_2.1
theorem dX11_view_54 : decode cX11_view 54 = .ok (.getfield 93, 3) := dcX11_view_2.2.1
theorem dX11_view_57 : decode cX11_view 57 = .ok (.aaload, 1) := dcX11_view_2.2.2.1
theorem dX11_view_58 : decode cX11_view 58 = .ok (.aload_n 0, 1) := dcX11_view_2.2.2.2.1
theorem dX11_view_59 : decode cX11_view 59 = .ok (.getfield 84, 3) := dcX11_view_2.2.2.2.2.1
theorem dX11_view_62 : decode cX11_view 62 = .ok (.invokevirtual 160, 3) := dcX11_view_2.2.2.2.2.2.1
theorem dX11_view_65 : decode cX11_view 65 = .ok (.ireturn, 1) := dcX11_view_2.2.2.2.2.2.2.1
theorem dX11_view_66 : decode cX11_view 66 = .ok (.aload_n 3, 1) := dcX11_view_2.2.2.2.2.2.2.2
theorem dcX11_view_3 : (decode cX11_view 67 = .ok (.aload_n 0, 1)) ∧ (decode cX11_view 68 = .ok (.getfield 55, 3)) ∧ (decode cX11_view 71 = .ok (.aload_n 0, 1)) ∧ (decode cX11_view 72 = .ok (.getfield 93, 3)) ∧ (decode cX11_view 75 = .ok (.aaload, 1)) ∧ (decode cX11_view 76 = .ok (.aload_n 0, 1)) ∧ (decode cX11_view 77 = .ok (.getfield 84, 3)) ∧ (decode cX11_view 80 = .ok (.invokevirtual 164, 3)) := by decide +kernel
theorem dX11_view_67 : decode cX11_view 67 = .ok (.aload_n 0, 1) := dcX11_view_3.1
theorem dX11_view_68 : decode cX11_view 68 = .ok (.getfield 55, 3) := dcX11_view_3.2.1
theorem dX11_view_71 : decode cX11_view 71 = .ok (.aload_n 0, 1) := dcX11_view_3.2.2.1
theorem dX11_view_72 : decode cX11_view 72 = .ok (.getfield 93, 3) := dcX11_view_3.2.2.2.1
theorem dX11_view_75 : decode cX11_view 75 = .ok (.aaload, 1) := dcX11_view_3.2.2.2.2.1
theorem dX11_view_76 : decode cX11_view 76 = .ok (.aload_n 0, 1) := dcX11_view_3.2.2.2.2.2.1
theorem dX11_view_77 : decode cX11_view 77 = .ok (.getfield 84, 3) := dcX11_view_3.2.2.2.2.2.2.1
theorem dX11_view_80 : decode cX11_view 80 = .ok (.invokevirtual 164, 3) := dcX11_view_3.2.2.2.2.2.2.2
theorem dcX11_view_4 : (decode cX11_view 83 = .ok (.ireturn, 1)) ∧ (decode cX11_view 84 = .ok (.aload_n 3, 1)) ∧ (decode cX11_view 85 = .ok (.aload_n 0, 1)) ∧ (decode cX11_view 86 = .ok (.getfield 55, 3)) ∧ (decode cX11_view 89 = .ok (.aload_n 0, 1)) ∧ (decode cX11_view 90 = .ok (.getfield 93, 3)) ∧ (decode cX11_view 93 = .ok (.aaload, 1)) ∧ (decode cX11_view 94 = .ok (.aload_n 0, 1)) := by decide +kernel
theorem dX11_view_83 : decode cX11_view 83 = .ok (.ireturn, 1) := dcX11_view_4.1
theorem dX11_view_84 : decode cX11_view 84 = .ok (.aload_n 3, 1) := dcX11_view_4.2.1
theorem dX11_view_85 : decode cX11_view 85 = .ok (.aload_n 0, 1) := dcX11_view_4.2.2.1
theorem dX11_view_86 : decode cX11_view 86 = .ok (.getfield 55, 3) := dcX11_view_4.2.2.2.1
theorem dX11_view_89 : decode cX11_view 89 = .ok (.aload_n 0, 1) := dcX11_view_4.2.2.2.2.1
theorem dX11_view_90 : decode cX11_view 90 = .ok (.getfield 93, 3) := dcX11_view_4.2.2.2.2.2.1
theorem dX11_view_93 : decode cX11_view 93 = .ok (.aaload, 1) := dcX11_view_4.2.2.2.2.2.2.1
theorem dX11_view_94 : decode cX11_view 94 = .ok (.aload_n 0, 1) := dcX11_view_4.2.2.2.2.2.2.2
theorem dcX11_view_5 : (decode cX11_view 95 = .ok (.getfield 84, 3)) ∧ (decode cX11_view 98 = .ok (.invokevirtual 164, 3)) ∧ (decode cX11_view 101 = .ok (.invokestatic 167, 3)) ∧ (decode cX11_view 104 = .ok (.ireturn, 1)) ∧ (decode cX11_view 105 = .ok (.aload_n 3, 1)) ∧ (decode cX11_view 106 = .ok (.aload_n 0, 1)) ∧ (decode cX11_view 107 = .ok (.getfield 55, 3)) ∧ (decode cX11_view 110 = .ok (.aload_n 0, 1)) := by decide +kernel
theorem dX11_view_95 : decode cX11_view 95 = .ok (.getfield 84, 3) := dcX11_view_5.1
theorem dX11_view_98 : decode cX11_view 98 = .ok (.invokevirtual 164, 3) := dcX11_view_5.2.1
theorem dX11_view_101 : decode cX11_view 101 = .ok (.invokestatic 167, 3) := dcX11_view_5.2.2.1
theorem dX11_view_104 : decode cX11_view 104 = .ok (.ireturn, 1) := dcX11_view_5.2.2.2.1
theorem dX11_view_105 : decode cX11_view 105 = .ok (.aload_n 3, 1) := dcX11_view_5.2.2.2.2.1
theorem dX11_view_106 : decode cX11_view 106 = .ok (.aload_n 0, 1) := dcX11_view_5.2.2.2.2.2.1
theorem dX11_view_107 : decode cX11_view 107 = .ok (.getfield 55, 3) := dcX11_view_5.2.2.2.2.2.2.1
theorem dX11_view_110 : decode cX11_view 110 = .ok (.aload_n 0, 1) := dcX11_view_5.2.2.2.2.2.2.2
theorem dcX11_view_6 : (decode cX11_view 111 = .ok (.getfield 93, 3)) ∧ (decode cX11_view 114 = .ok (.aaload, 1)) ∧ (decode cX11_view 115 = .ok (.ldc 136, 2)) ∧ (decode cX11_view 117 = .ok (.aload_n 0, 1)) ∧ (decode cX11_view 118 = .ok (.getfield 84, 3)) ∧ (decode cX11_view 121 = .ok (.invokevirtual 173, 3)) ∧ (decode cX11_view 124 = .ok (.ireturn, 1)) ∧ (decode cX11_view 125 = .ok (.bipush (-7), 2)) := by decide +kernel
theorem dX11_view_111 : decode cX11_view 111 = .ok (.getfield 93, 3) := dcX11_view_6.1
theorem dX11_view_114 : decode cX11_view 114 = .ok (.aaload, 1) := dcX11_view_6.2.1
theorem dX11_view_115 : decode cX11_view 115 = .ok (.ldc 136, 2) := dcX11_view_6.2.2.1
theorem dX11_view_117 : decode cX11_view 117 = .ok (.aload_n 0, 1) := dcX11_view_6.2.2.2.1
theorem dX11_view_118 : decode cX11_view 118 = .ok (.getfield 84, 3) := dcX11_view_6.2.2.2.2.1
theorem dX11_view_121 : decode cX11_view 121 = .ok (.invokevirtual 173, 3) := dcX11_view_6.2.2.2.2.2.1
theorem dX11_view_124 : decode cX11_view 124 = .ok (.ireturn, 1) := dcX11_view_6.2.2.2.2.2.2.1
theorem dX11_view_125 : decode cX11_view 125 = .ok (.bipush (-7), 2) := dcX11_view_6.2.2.2.2.2.2.2
theorem dX11_view_127 : decode cX11_view 127 = .ok (.ireturn, 1) := by decide +kernel
theorem dcX11_all_0 : (decode cX11_all 0 = .ok (.iload_n 1, 1)) ∧ (decode cX11_all 1 = .ok (.iconst 2, 1)) ∧ (decode cX11_all 2 = .ok (.invokestatic 107, 3)) ∧ (decode cX11_all 5 = .ok (.ifCond .ne 6, 3)) ∧ (decode cX11_all 8 = .ok (.bipush (-2), 2)) ∧ (decode cX11_all 10 = .ok (.ireturn, 1)) ∧ (decode cX11_all 11 = .ok (.iconst 0, 1)) ∧ (decode cX11_all 12 = .ok (.istore_n 2, 1)) := by decide +kernel
theorem dX11_all_0 : decode cX11_all 0 = .ok (.iload_n 1, 1) := dcX11_all_0.1
theorem dX11_all_1 : decode cX11_all 1 = .ok (.iconst 2, 1) := dcX11_all_0.2.1
theorem dX11_all_2 : decode cX11_all 2 = .ok (.invokestatic 107, 3) := dcX11_all_0.2.2.1
theorem dX11_all_5 : decode cX11_all 5 = .ok (.ifCond .ne 6, 3) := dcX11_all_0.2.2.2.1
theorem dX11_all_8 : decode cX11_all 8 = .ok (.bipush (-2), 2) := dcX11_all_0.2.2.2.2.1
theorem dX11_all_10 : decode cX11_all 10 = .ok (.ireturn, 1) := dcX11_all_0.2.2.2.2.2.1
theorem dX11_all_11 : decode cX11_all 11 = .ok (.iconst 0, 1) := dcX11_all_0.2.2.2.2.2.2.1
theorem dX11_all_12 : decode cX11_all 12 = .ok (.istore_n 2, 1) := dcX11_all_0.2.2.2.2.2.2.2
theorem dcX11_all_1 : (decode cX11_all 13 = .ok (.aload_n 0, 1)) ∧ (decode cX11_all 14 = .ok (.getfield 80, 3)) ∧ (decode cX11_all 17 = .ok (.ifCond .ne 7, 3)) ∧ (decode cX11_all 20 = .ok (.iconst 0, 1)) ∧ (decode cX11_all 21 = .ok (.goto 5, 3)) ∧ (decode cX11_all 24 = .ok (.ldc 136, 2)) ∧ (decode cX11_all 26 = .ok (.istore_n 3, 1)) ∧ (decode cX11_all 27 = .ok (.iconst 0, 1)) := by decide +kernel
theorem dX11_all_13 : decode cX11_all 13 = .ok (.aload_n 0, 1) := dcX11_all_1.1
theorem dX11_all_14 : decode cX11_all 14 = .ok (.getfield 80, 3) := dcX11_all_1.2.1
theorem dX11_all_17 : decode cX11_all 17 = .ok (.ifCond .ne 7, 3) := dcX11_all_1.2.2.1
theorem dX11_all_20 : decode cX11_all 20 = .ok (.iconst 0, 1) := dcX11_all_1.2.2.2.1
theorem dX11_all_21 : decode cX11_all 21 = .ok (.goto 5, 3) := dcX11_all_1.2.2.2.2.1
theorem dX11_all_24 : decode cX11_all 24 = .ok (.ldc 136, 2) := dcX11_all_1.2.2.2.2.2.1
theorem dX11_all_26 : decode cX11_all 26 = .ok (.istore_n 3, 1) := dcX11_all_1.2.2.2.2.2.2.1
theorem dX11_all_27 : decode cX11_all 27 = .ok (.iconst 0, 1) := dcX11_all_1.2.2.2.2.2.2.2
theorem dcX11_all_2 : (decode cX11_all 28 = .ok (.istore 4, 2)) ∧ (decode cX11_all 30 = .ok (.iconst 0, 1)) ∧ (decode cX11_all 31 = .ok (.istore 5, 2)) ∧ (decode cX11_all 33 = .ok (.iload 5, 2)) ∧ (decode cX11_all 35 = .ok (.aload_n 0, 1)) ∧ (decode cX11_all 36 = .ok (.getfield 80, 3)) ∧ (decode cX11_all 39 = .ok (.if_icmp .ge 54, 3)) ∧ (decode cX11_all 42 = .ok (.aload_n 0, 1)) := by decide +kernel
theorem dX11_all_28 : decode cX11_all 28 = .ok (.istore 4, 2) := dcX11_all_2.1
theorem dX11_all_30 : decode cX11_all 30 = .ok (.iconst 0, 1) := dcX11_all_2.2.1
theorem dX11_all_31 : decode cX11_all 31 = .ok (.istore 5, 2) := dcX11_all_2.2.2.1
theorem dX11_all_33 : decode cX11_all 33 = .ok (.iload 5, 2) := dcX11_all_2.2.2.2.1
theorem dX11_all_35 : decode cX11_all 35 = .ok (.aload_n 0, 1) := dcX11_all_2.2.2.2.2.1
theorem dX11_all_36 : decode cX11_all 36 = .ok (.getfield 80, 3) := dcX11_all_2.2.2.2.2.2.1
theorem dX11_all_39 : decode cX11_all 39 = .ok (.if_icmp .ge 54, 3) := dcX11_all_2.2.2.2.2.2.2.1
theorem dX11_all_42 : decode cX11_all 42 = .ok (.aload_n 0, 1) := dcX11_all_2.2.2.2.2.2.2.2
theorem dcX11_all_3 : (decode cX11_all 43 = .ok (.getfield 37, 3)) ∧ (decode cX11_all 46 = .ok (.iload 5, 2)) ∧ (decode cX11_all 48 = .ok (.aaload, 1)) ∧ (decode cX11_all 49 = .ok (.aload_n 0, 1)) ∧ (decode cX11_all 50 = .ok (.getfield 55, 3)) ∧ (decode cX11_all 53 = .ok (.aload_n 0, 1)) ∧ (decode cX11_all 54 = .ok (.getfield 93, 3)) ∧ (decode cX11_all 57 = .ok (.aaload, 1)) := by decide +kernel
theorem dX11_all_43 : decode cX11_all 43 = .ok (.getfield 37, 3) := dcX11_all_3.1
theorem dX11_all_46 : decode cX11_all 46 = .ok (.iload 5, 2) := dcX11_all_3.2.1
theorem dX11_all_48 : decode cX11_all 48 = .ok (.aaload, 1) := dcX11_all_3.2.2.1
theorem dX11_all_49 : decode cX11_all 49 = .ok (.aload_n 0, 1) := dcX11_all_3.2.2.2.1
theorem dX11_all_50 : decode cX11_all 50 = .ok (.getfield 55, 3) := dcX11_all_3.2.2.2.2.1
theorem dX11_all_53 : decode cX11_all 53 = .ok (.aload_n 0, 1) := dcX11_all_3.2.2.2.2.2.1
theorem dX11_all_54 : decode cX11_all 54 = .ok (.getfield 93, 3) := dcX11_all_3.2.2.2.2.2.2.1
theorem dX11_all_57 : decode cX11_all 57 = .ok (.aaload, 1) := dcX11_all_3.2.2.2.2.2.2.2
theorem dcX11_all_4 : (decode cX11_all 58 = .ok (.aload_n 0, 1)) ∧ (decode cX11_all 59 = .ok (.getfield 84, 3)) ∧ (decode cX11_all 62 = .ok (.invokevirtual 164, 3)) ∧ (decode cX11_all 65 = .ok (.istore 6, 2)) ∧ (decode cX11_all 67 = .ok (.iload_n 2, 1)) ∧ (decode cX11_all 68 = .ok (.iload 6, 2)) ∧ (decode cX11_all 70 = .ok (.ior, 1)) ∧ (decode cX11_all 71 = .ok (.istore_n 2, 1)) := by decide +kernel
theorem dX11_all_58 : decode cX11_all 58 = .ok (.aload_n 0, 1) := dcX11_all_4.1
theorem dX11_all_59 : decode cX11_all 59 = .ok (.getfield 84, 3) := dcX11_all_4.2.1
theorem dX11_all_62 : decode cX11_all 62 = .ok (.invokevirtual 164, 3) := dcX11_all_4.2.2.1
theorem dX11_all_65 : decode cX11_all 65 = .ok (.istore 6, 2) := dcX11_all_4.2.2.2.1
theorem dX11_all_67 : decode cX11_all 67 = .ok (.iload_n 2, 1) := dcX11_all_4.2.2.2.2.1
theorem dX11_all_68 : decode cX11_all 68 = .ok (.iload 6, 2) := dcX11_all_4.2.2.2.2.2.1
theorem dX11_all_70 : decode cX11_all 70 = .ok (.ior, 1) := dcX11_all_4.2.2.2.2.2.2.1
theorem dX11_all_71 : decode cX11_all 71 = .ok (.istore_n 2, 1) := dcX11_all_4.2.2.2.2.2.2.2
theorem dcX11_all_5 : (decode cX11_all 72 = .ok (.iload_n 3, 1)) ∧ (decode cX11_all 73 = .ok (.iload 6, 2)) ∧ (decode cX11_all 75 = .ok (.iand, 1)) ∧ (decode cX11_all 76 = .ok (.istore_n 3, 1)) ∧ (decode cX11_all 77 = .ok (.iload 4, 2)) ∧ (decode cX11_all 79 = .ok (.iload 6, 2)) ∧ (decode cX11_all 81 = .ok (.invokestatic 167, 3)) ∧ (decode cX11_all 84 = .ok (.iadd, 1)) := by decide +kernel
theorem dX11_all_72 : decode cX11_all 72 = .ok (.iload_n 3, 1) := dcX11_all_5.1
theorem dX11_all_73 : decode cX11_all 73 = .ok (.iload 6, 2) := dcX11_all_5.2.1
theorem dX11_all_75 : decode cX11_all 75 = .ok (.iand, 1) := dcX11_all_5.2.2.1
theorem dX11_all_76 : decode cX11_all 76 = .ok (.istore_n 3, 1) := dcX11_all_5.2.2.2.1
theorem dX11_all_77 : decode cX11_all 77 = .ok (.iload 4, 2) := dcX11_all_5.2.2.2.2.1
theorem dX11_all_79 : decode cX11_all 79 = .ok (.iload 6, 2) := dcX11_all_5.2.2.2.2.2.1
theorem dX11_all_81 : decode cX11_all 81 = .ok (.invokestatic 167, 3) := dcX11_all_5.2.2.2.2.2.2.1
theorem dX11_all_84 : decode cX11_all 84 = .ok (.iadd, 1) := dcX11_all_5.2.2.2.2.2.2.2
theorem dcX11_all_6 : (decode cX11_all 85 = .ok (.istore 4, 2)) ∧ (decode cX11_all 87 = .ok (.iinc 5 1, 3)) ∧ (decode cX11_all 90 = .ok (.goto (-57), 3)) ∧ (decode cX11_all 93 = .ok (.iload_n 1, 1)) ∧ (decode cX11_all 94 = .ok (.ifCond .ne 5, 3)) ∧ (decode cX11_all 97 = .ok (.iload_n 2, 1)) ∧ (decode cX11_all 98 = .ok (.ireturn, 1)) ∧ (decode cX11_all 99 = .ok (.iload_n 1, 1)) := by decide +kernel
theorem dX11_all_85 : decode cX11_all 85 = .ok (.istore 4, 2) := dcX11_all_6.1
theorem dX11_all_87 : decode cX11_all 87 = .ok (.iinc 5 1, 3) := dcX11_all_6.2.1
theorem dX11_all_90 : decode cX11_all 90 = .ok (.goto (-57), 3) := dcX11_all_6.2.2.1
theorem dX11_all_93 : decode cX11_all 93 = .ok (.iload_n 1, 1) := dcX11_all_6.2.2.2.1
theorem dX11_all_94 : decode cX11_all 94 = .ok (.ifCond .ne 5, 3) := dcX11_all_6.2.2.2.2.1
theorem dX11_all_97 : decode cX11_all 97 = .ok (.iload_n 2, 1) := dcX11_all_6.2.2.2.2.2.1
theorem dX11_all_98 : decode cX11_all 98 = .ok (.ireturn, 1) := dcX11_all_6.2.2.2.2.2.2.1
theorem dX11_all_99 : decode cX11_all 99 = .ok (.iload_n 1, 1) := dcX11_all_6.2.2.2.2.2.2.2
theorem dcX11_all_7 : (decode cX11_all 100 = .ok (.iconst 1, 1)) ∧ (decode cX11_all 101 = .ok (.if_icmp .ne 7, 3)) ∧ (decode cX11_all 104 = .ok (.iload_n 3, 1)) ∧ (decode cX11_all 105 = .ok (.goto 5, 3)) ∧ (decode cX11_all 108 = .ok (.iload 4, 2)) ∧ (decode cX11_all 110 = .ok (.ireturn, 1)) := by decide +kernel
theorem dX11_all_100 : decode cX11_all 100 = .ok (.iconst 1, 1) := dcX11_all_7.1
theorem dX11_all_101 : decode cX11_all 101 = .ok (.if_icmp .ne 7, 3) := dcX11_all_7.2.1
theorem dX11_all_104 : decode cX11_all 104 = .ok (.iload_n 3, 1) := dcX11_all_7.2.2.1
theorem dX11_all_105 : decode cX11_all 105 = .ok (.goto 5, 3) := dcX11_all_7.2.2.2.1
theorem dX11_all_108 : decode cX11_all 108 = .ok (.iload 4, 2) := dcX11_all_7.2.2.2.2.1
theorem dX11_all_110 : decode cX11_all 110 = .ok (.ireturn, 1) := dcX11_all_7.2.2.2.2.2
theorem dcX11_sleep_0 : (decode cX11_sleep 0 = .ok (.aload_n 0, 1)) ∧ (decode cX11_sleep 1 = .ok (.getfield 84, 3)) ∧ (decode cX11_sleep 4 = .ok (.sipush 999, 3)) ∧ (decode cX11_sleep 7 = .ok (.if_icmp .lt 6, 3)) ∧ (decode cX11_sleep 10 = .ok (.bipush (-3), 2)) ∧ (decode cX11_sleep 12 = .ok (.ireturn, 1)) ∧ (decode cX11_sleep 13 = .ok (.iconst 0, 1)) ∧ (decode cX11_sleep 14 = .ok (.istore_n 1, 1)) := by decide +kernel
theorem dX11_sleep_0 : decode cX11_sleep 0 = .ok (.aload_n 0, 1) := dcX11_sleep_0.1
theorem dX11_sleep_1 : decode cX11_sleep 1 = .ok (.getfield 84, 3) := dcX11_sleep_0.2.1
theorem dX11_sleep_4 : decode cX11_sleep 4 = .ok (.sipush 999, 3) := dcX11_sleep_0.2.2.1
theorem dX11_sleep_7 : decode cX11_sleep 7 = .ok (.if_icmp .lt 6, 3) := dcX11_sleep_0.2.2.2.1
theorem dX11_sleep_10 : decode cX11_sleep 10 = .ok (.bipush (-3), 2) := dcX11_sleep_0.2.2.2.2.1
theorem dX11_sleep_12 : decode cX11_sleep 12 = .ok (.ireturn, 1) := dcX11_sleep_0.2.2.2.2.2.1
theorem dX11_sleep_13 : decode cX11_sleep 13 = .ok (.iconst 0, 1) := dcX11_sleep_0.2.2.2.2.2.2.1
theorem dX11_sleep_14 : decode cX11_sleep 14 = .ok (.istore_n 1, 1) := dcX11_sleep_0.2.2.2.2.2.2.2
theorem dcX11_sleep_1 : (decode cX11_sleep 15 = .ok (.iload_n 1, 1)) ∧ (decode cX11_sleep 16 = .ok (.aload_n 0, 1)) ∧ (decode cX11_sleep 17 = .ok (.getfield 80, 3)) ∧ (decode cX11_sleep 20 = .ok (.if_icmp .ge 31, 3)) ∧ (decode cX11_sleep 23 = .ok (.aload_n 0, 1)) ∧ (decode cX11_sleep 24 = .ok (.getfield 37, 3)) ∧ (decode cX11_sleep 27 = .ok (.iload_n 1, 1)) ∧ (decode cX11_sleep 28 = .ok (.aaload, 1)) := by decide +kernel
theorem dX11_sleep_15 : decode cX11_sleep 15 = .ok (.iload_n 1, 1) := dcX11_sleep_1.1
theorem dX11_sleep_16 : decode cX11_sleep 16 = .ok (.aload_n 0, 1) := dcX11_sleep_1.2.1
theorem dX11_sleep_17 : decode cX11_sleep 17 = .ok (.getfield 80, 3) := dcX11_sleep_1.2.2.1
theorem dX11_sleep_20 : decode cX11_sleep 20 = .ok (.if_icmp .ge 31, 3) := dcX11_sleep_1.2.2.2.1
theorem dX11_sleep_23 : decode cX11_sleep 23 = .ok (.aload_n 0, 1) := dcX11_sleep_1.2.2.2.2.1
theorem dX11_sleep_24 : decode cX11_sleep 24 = .ok (.getfield 37, 3) := dcX11_sleep_1.2.2.2.2.2.1
theorem dX11_sleep_27 : decode cX11_sleep 27 = .ok (.iload_n 1, 1) := dcX11_sleep_1.2.2.2.2.2.2.1
theorem dX11_sleep_28 : decode cX11_sleep 28 = .ok (.aaload, 1) := dcX11_sleep_1.2.2.2.2.2.2.2
theorem dcX11_sleep_2 : (decode cX11_sleep 29 = .ok (.aload_n 0, 1)) ∧ (decode cX11_sleep 30 = .ok (.getfield 55, 3)) ∧ (decode cX11_sleep 33 = .ok (.aload_n 0, 1)) ∧ (decode cX11_sleep 34 = .ok (.getfield 93, 3)) ∧ (decode cX11_sleep 37 = .ok (.aaload, 1)) ∧ (decode cX11_sleep 38 = .ok (.aload_n 0, 1)) ∧ (decode cX11_sleep 39 = .ok (.getfield 84, 3)) ∧ (decode cX11_sleep 42 = .ok (.invokevirtual 177, 3)) := by decide +kernel
theorem dX11_sleep_29 : decode cX11_sleep 29 = .ok (.aload_n 0, 1) := dcX11_sleep_2.1
theorem dX11_sleep_30 : decode cX11_sleep 30 = .ok (.getfield 55, 3) := dcX11_sleep_2.2.1
theorem dX11_sleep_33 : decode cX11_sleep 33 = .ok (.aload_n 0, 1) := dcX11_sleep_2.2.2.1
theorem dX11_sleep_34 : decode cX11_sleep 34 = .ok (.getfield 93, 3) := dcX11_sleep_2.2.2.2.1
theorem dX11_sleep_37 : decode cX11_sleep 37 = .ok (.aaload, 1) := dcX11_sleep_2.2.2.2.2.1
theorem dX11_sleep_38 : decode cX11_sleep 38 = .ok (.aload_n 0, 1) := dcX11_sleep_2.2.2.2.2.2.1
theorem dX11_sleep_39 : decode cX11_sleep 39 = .ok (.getfield 84, 3) := dcX11_sleep_2.2.2.2.2.2.2.1
theorem dX11_sleep_42 : decode cX11_sleep 42 = .ok (.invokevirtual 177, 3) := dcX11_sleep_2.2.2.2.2.2.2.2
theorem dcX11_sleep_3 : (decode cX11_sleep 45 = .ok (.iinc 1 1, 3)) ∧ (decode cX11_sleep 48 = .ok (.goto (-33), 3)) ∧ (decode cX11_sleep 51 = .ok (.aload_n 0, 1)) ∧ (decode cX11_sleep 52 = .ok (.dup, 1)) ∧ (decode cX11_sleep 53 = .ok (.getfield 84, 3)) ∧ (decode cX11_sleep 56 = .ok (.iconst 1, 1)) ∧ (decode cX11_sleep 57 = .ok (.iadd, 1)) ∧ (decode cX11_sleep 58 = .ok (.putfield 84, 3)) := by decide +kernel
theorem dX11_sleep_45 : decode cX11_sleep 45 = .ok (.iinc 1 1, 3) := dcX11_sleep_3.1
theorem dX11_sleep_48 : decode cX11_sleep 48 = .ok (.goto (-33), 3) := dcX11_sleep_3.2.1
theorem dX11_sleep_51 : decode cX11_sleep 51 = .ok (.aload_n 0, 1) := dcX11_sleep_3.2.2.1
theorem dX11_sleep_52 : decode cX11_sleep 52 = .ok (.dup, 1) := dcX11_sleep_3.2.2.2.1
theorem dX11_sleep_53 : decode cX11_sleep 53 = .ok (.getfield 84, 3) := dcX11_sleep_3.2.2.2.2.1
theorem dX11_sleep_56 : decode cX11_sleep 56 = .ok (.iconst 1, 1) := dcX11_sleep_3.2.2.2.2.2.1
theorem dX11_sleep_57 : decode cX11_sleep 57 = .ok (.iadd, 1) := dcX11_sleep_3.2.2.2.2.2.2.1
theorem dX11_sleep_58 : decode cX11_sleep 58 = .ok (.putfield 84, 3) := dcX11_sleep_3.2.2.2.2.2.2.2
theorem dcX11_sleep_4 : (decode cX11_sleep 61 = .ok (.aload_n 0, 1)) ∧ (decode cX11_sleep 62 = .ok (.getfield 84, 3)) ∧ (decode cX11_sleep 65 = .ok (.ireturn, 1)) := by decide +kernel
theorem dX11_sleep_61 : decode cX11_sleep 61 = .ok (.aload_n 0, 1) := dcX11_sleep_4.1
theorem dX11_sleep_62 : decode cX11_sleep 62 = .ok (.getfield 84, 3) := dcX11_sleep_4.2.1
theorem dX11_sleep_65 : decode cX11_sleep 65 = .ok (.ireturn, 1) := dcX11_sleep_4.2.2
theorem dcX11_clean_0 : (decode cX11_clean 0 = .ok (.aload_n 0, 1)) ∧ (decode cX11_clean 1 = .ok (.iload_n 1, 1)) ∧ (decode cX11_clean 2 = .ok (.invokevirtual 125, 3)) ∧ (decode cX11_clean 5 = .ok (.ifCond .ne 6, 3)) ∧ (decode cX11_clean 8 = .ok (.bipush (-5), 2)) ∧ (decode cX11_clean 10 = .ok (.ireturn, 1)) ∧ (decode cX11_clean 11 = .ok (.iload_n 2, 1)) ∧ (decode cX11_clean 12 = .ok (.invokestatic 129, 3)) := by decide +kernel
theorem dX11_clean_0 : decode cX11_clean 0 = .ok (.aload_n 0, 1) := dcX11_clean_0.1
theorem dX11_clean_1 : decode cX11_clean 1 = .ok (.iload_n 1, 1) := dcX11_clean_0.2.1
theorem dX11_clean_2 : decode cX11_clean 2 = .ok (.invokevirtual 125, 3) := dcX11_clean_0.2.2.1
theorem dX11_clean_5 : decode cX11_clean 5 = .ok (.ifCond .ne 6, 3) := dcX11_clean_0.2.2.2.1
theorem dX11_clean_8 : decode cX11_clean 8 = .ok (.bipush (-5), 2) := dcX11_clean_0.2.2.2.2.1
theorem dX11_clean_10 : decode cX11_clean 10 = .ok (.ireturn, 1) := dcX11_clean_0.2.2.2.2.2.1
theorem dX11_clean_11 : decode cX11_clean 11 = .ok (.iload_n 2, 1) := dcX11_clean_0.2.2.2.2.2.2.1
theorem dX11_clean_12 : decode cX11_clean 12 = .ok (.invokestatic 129, 3) := dcX11_clean_0.2.2.2.2.2.2.2
theorem dcX11_clean_1 : (decode cX11_clean 15 = .ok (.ifCond .ne 6, 3)) ∧ (decode cX11_clean 18 = .ok (.bipush (-7), 2)) ∧ (decode cX11_clean 20 = .ok (.ireturn, 1)) ∧ (decode cX11_clean 21 = .ok (.aload_n 0, 1)) ∧ (decode cX11_clean 22 = .ok (.getfield 37, 3)) ∧ (decode cX11_clean 25 = .ok (.iload_n 1, 1)) ∧ (decode cX11_clean 26 = .ok (.aaload, 1)) ∧ (decode cX11_clean 27 = .ok (.aload_n 0, 1)) := by decide +kernel
theorem dX11_clean_15 : decode cX11_clean 15 = .ok (.ifCond .ne 6, 3) := dcX11_clean_1.1
theorem dX11_clean_18 : decode cX11_clean 18 = .ok (.bipush (-7), 2) := dcX11_clean_1.2.1
theorem dX11_clean_20 : decode cX11_clean 20 = .ok (.ireturn, 1) := dcX11_clean_1.2.2.1
theorem dX11_clean_21 : decode cX11_clean 21 = .ok (.aload_n 0, 1) := dcX11_clean_1.2.2.2.1
theorem dX11_clean_22 : decode cX11_clean 22 = .ok (.getfield 37, 3) := dcX11_clean_1.2.2.2.2.1
theorem dX11_clean_25 : decode cX11_clean 25 = .ok (.iload_n 1, 1) := dcX11_clean_1.2.2.2.2.2.1
theorem dX11_clean_26 : decode cX11_clean 26 = .ok (.aaload, 1) := dcX11_clean_1.2.2.2.2.2.2.1
theorem dX11_clean_27 : decode cX11_clean 27 = .ok (.aload_n 0, 1) := dcX11_clean_1.2.2.2.2.2.2.2
theorem dcX11_clean_2 : (decode cX11_clean 28 = .ok (.getfield 55, 3)) ∧ (decode cX11_clean 31 = .ok (.aload_n 0, 1)) ∧ (decode cX11_clean 32 = .ok (.getfield 93, 3)) ∧ (decode cX11_clean 35 = .ok (.aaload, 1)) ∧ (decode cX11_clean 36 = .ok (.iload_n 2, 1)) ∧ (decode cX11_clean 37 = .ok (.aload_n 0, 1)) ∧ (decode cX11_clean 38 = .ok (.getfield 84, 3)) ∧ (decode cX11_clean 41 = .ok (.invokevirtual 181, 3)) := by decide +kernel
theorem dX11_clean_28 : decode cX11_clean 28 = .ok (.getfield 55, 3) := dcX11_clean_2.1
theorem dX11_clean_31 : decode cX11_clean 31 = .ok (.aload_n 0, 1) := dcX11_clean_2.2.1
theorem dX11_clean_32 : decode cX11_clean 32 = .ok (.getfield 93, 3) := dcX11_clean_2.2.2.1
theorem dX11_clean_35 : decode cX11_clean 35 = .ok (.aaload, 1) := dcX11_clean_2.2.2.2.1
theorem dX11_clean_36 : decode cX11_clean 36 = .ok (.iload_n 2, 1) := dcX11_clean_2.2.2.2.2.1
theorem dX11_clean_37 : decode cX11_clean 37 = .ok (.aload_n 0, 1) := dcX11_clean_2.2.2.2.2.2.1
theorem dX11_clean_38 : decode cX11_clean 38 = .ok (.getfield 84, 3) := dcX11_clean_2.2.2.2.2.2.2.1
theorem dX11_clean_41 : decode cX11_clean 41 = .ok (.invokevirtual 181, 3) := dcX11_clean_2.2.2.2.2.2.2.2
theorem dcX11_clean_3 : (decode cX11_clean 44 = .ok (.istore_n 3, 1)) ∧ (decode cX11_clean 45 = .ok (.iload_n 3, 1)) ∧ (decode cX11_clean 46 = .ok (.aload_n 0, 1)) ∧ (decode cX11_clean 47 = .ok (.getfield 87, 3)) ∧ (decode cX11_clean 50 = .ok (.if_icmp .le 6, 3)) ∧ (decode cX11_clean 53 = .ok (.bipush (-3), 2)) ∧ (decode cX11_clean 55 = .ok (.ireturn, 1)) ∧ (decode cX11_clean 56 = .ok (.aload_n 0, 1)) := by decide +kernel
theorem dX11_clean_44 : decode cX11_clean 44 = .ok (.istore_n 3, 1) := dcX11_clean_3.1
theorem dX11_clean_45 : decode cX11_clean 45 = .ok (.iload_n 3, 1) := dcX11_clean_3.2.1
theorem dX11_clean_46 : decode cX11_clean 46 = .ok (.aload_n 0, 1) := dcX11_clean_3.2.2.1
theorem dX11_clean_47 : decode cX11_clean 47 = .ok (.getfield 87, 3) := dcX11_clean_3.2.2.2.1
theorem dX11_clean_50 : decode cX11_clean 50 = .ok (.if_icmp .le 6, 3) := dcX11_clean_3.2.2.2.2.1
theorem dX11_clean_53 : decode cX11_clean 53 = .ok (.bipush (-3), 2) := dcX11_clean_3.2.2.2.2.2.1
theorem dX11_clean_55 : decode cX11_clean 55 = .ok (.ireturn, 1) := dcX11_clean_3.2.2.2.2.2.2.1
theorem dX11_clean_56 : decode cX11_clean 56 = .ok (.aload_n 0, 1) := dcX11_clean_3.2.2.2.2.2.2.2
theorem dcX11_clean_4 : (decode cX11_clean 57 = .ok (.getfield 37, 3)) ∧ (decode cX11_clean 60 = .ok (.iload_n 1, 1)) ∧ (decode cX11_clean 61 = .ok (.aaload, 1)) ∧ (decode cX11_clean 62 = .ok (.getfield 150, 3)) ∧ (decode cX11_clean 65 = .ok (.iload_n 2, 1)) ∧ (decode cX11_clean 66 = .ok (.iconst 0, 1)) ∧ (decode cX11_clean 67 = .ok (.iastore, 1)) ∧ (decode cX11_clean 68 = .ok (.iload_n 3, 1)) := by decide +kernel
theorem dX11_clean_57 : decode cX11_clean 57 = .ok (.getfield 37, 3) := dcX11_clean_4.1
theorem dX11_clean_60 : decode cX11_clean 60 = .ok (.iload_n 1, 1) := dcX11_clean_4.2.1
theorem dX11_clean_61 : decode cX11_clean 61 = .ok (.aaload, 1) := dcX11_clean_4.2.2.1
theorem dX11_clean_62 : decode cX11_clean 62 = .ok (.getfield 150, 3) := dcX11_clean_4.2.2.2.1
theorem dX11_clean_65 : decode cX11_clean 65 = .ok (.iload_n 2, 1) := dcX11_clean_4.2.2.2.2.1
theorem dX11_clean_66 : decode cX11_clean 66 = .ok (.iconst 0, 1) := dcX11_clean_4.2.2.2.2.2.1
theorem dX11_clean_67 : decode cX11_clean 67 = .ok (.iastore, 1) := dcX11_clean_4.2.2.2.2.2.2.1
theorem dX11_clean_68 : decode cX11_clean 68 = .ok (.iload_n 3, 1) := dcX11_clean_4.2.2.2.2.2.2.2
theorem dX11_clean_69 : decode cX11_clean 69 = .ok (.ireturn, 1) := by decide +kernel
theorem dcX11_run_0 : (decode cX11_run 0 = .ok (.aload_n 0, 1)) ∧ (decode cX11_run 1 = .ok (.iload_n 1, 1)) ∧ (decode cX11_run 2 = .ok (.invokevirtual 125, 3)) ∧ (decode cX11_run 5 = .ok (.ifCond .ne 6, 3)) ∧ (decode cX11_run 8 = .ok (.bipush (-5), 2)) ∧ (decode cX11_run 10 = .ok (.ireturn, 1)) ∧ (decode cX11_run 11 = .ok (.iload_n 2, 1)) ∧ (decode cX11_run 12 = .ok (.bipush 40, 2)) := by decide +kernel
theorem dX11_run_0 : decode cX11_run 0 = .ok (.aload_n 0, 1) := dcX11_run_0.1
theorem dX11_run_1 : decode cX11_run 1 = .ok (.iload_n 1, 1) := dcX11_run_0.2.1
theorem dX11_run_2 : decode cX11_run 2 = .ok (.invokevirtual 125, 3) := dcX11_run_0.2.2.1
theorem dX11_run_5 : decode cX11_run 5 = .ok (.ifCond .ne 6, 3) := dcX11_run_0.2.2.2.1
theorem dX11_run_8 : decode cX11_run 8 = .ok (.bipush (-5), 2) := dcX11_run_0.2.2.2.2.1
theorem dX11_run_10 : decode cX11_run 10 = .ok (.ireturn, 1) := dcX11_run_0.2.2.2.2.2.1
theorem dX11_run_11 : decode cX11_run 11 = .ok (.iload_n 2, 1) := dcX11_run_0.2.2.2.2.2.2.1
theorem dX11_run_12 : decode cX11_run 12 = .ok (.bipush 40, 2) := dcX11_run_0.2.2.2.2.2.2.2
theorem dcX11_run_1 : (decode cX11_run 14 = .ok (.invokestatic 107, 3)) ∧ (decode cX11_run 17 = .ok (.ifCond .eq 11, 3)) ∧ (decode cX11_run 20 = .ok (.iload_n 3, 1)) ∧ (decode cX11_run 21 = .ok (.iconst 1, 1)) ∧ (decode cX11_run 22 = .ok (.invokestatic 107, 3)) ∧ (decode cX11_run 25 = .ok (.ifCond .ne 6, 3)) ∧ (decode cX11_run 28 = .ok (.bipush (-7), 2)) ∧ (decode cX11_run 30 = .ok (.ireturn, 1)) := by decide +kernel
theorem dX11_run_14 : decode cX11_run 14 = .ok (.invokestatic 107, 3) := dcX11_run_1.1
theorem dX11_run_17 : decode cX11_run 17 = .ok (.ifCond .eq 11, 3) := dcX11_run_1.2.1
theorem dX11_run_20 : decode cX11_run 20 = .ok (.iload_n 3, 1) := dcX11_run_1.2.2.1
theorem dX11_run_21 : decode cX11_run 21 = .ok (.iconst 1, 1) := dcX11_run_1.2.2.2.1
theorem dX11_run_22 : decode cX11_run 22 = .ok (.invokestatic 107, 3) := dcX11_run_1.2.2.2.2.1
theorem dX11_run_25 : decode cX11_run 25 = .ok (.ifCond .ne 6, 3) := dcX11_run_1.2.2.2.2.2.1
theorem dX11_run_28 : decode cX11_run 28 = .ok (.bipush (-7), 2) := dcX11_run_1.2.2.2.2.2.2.1
theorem dX11_run_30 : decode cX11_run 30 = .ok (.ireturn, 1) := dcX11_run_1.2.2.2.2.2.2.2
theorem dcX11_run_2 : (decode cX11_run 31 = .ok (.aload_n 0, 1)) ∧ (decode cX11_run 32 = .ok (.iload_n 1, 1)) ∧ (decode cX11_run 33 = .ok (.invokevirtual 184, 3)) ∧ (decode cX11_run 36 = .ok (.astore 4, 2)) ∧ (decode cX11_run 38 = .ok (.iconst 0, 1)) ∧ (decode cX11_run 39 = .ok (.istore 5, 2)) ∧ (decode cX11_run 41 = .ok (.iload 5, 2)) ∧ (decode cX11_run 43 = .ok (.iload_n 2, 1)) := by decide +kernel
theorem dX11_run_31 : decode cX11_run 31 = .ok (.aload_n 0, 1) := dcX11_run_2.1
theorem dX11_run_32 : decode cX11_run 32 = .ok (.iload_n 1, 1) := dcX11_run_2.2.1
theorem dX11_run_33 : decode cX11_run 33 = .ok (.invokevirtual 184, 3) := dcX11_run_2.2.2.1
theorem dX11_run_36 : decode cX11_run 36 = .ok (.astore 4, 2) := dcX11_run_2.2.2.2.1
theorem dX11_run_38 : decode cX11_run 38 = .ok (.iconst 0, 1) := dcX11_run_2.2.2.2.2.1
theorem dX11_run_39 : decode cX11_run 39 = .ok (.istore 5, 2) := dcX11_run_2.2.2.2.2.2.1
theorem dX11_run_41 : decode cX11_run 41 = .ok (.iload 5, 2) := dcX11_run_2.2.2.2.2.2.2.1
theorem dX11_run_43 : decode cX11_run 43 = .ok (.iload_n 2, 1) := dcX11_run_2.2.2.2.2.2.2.2
theorem dcX11_run_3 : (decode cX11_run 44 = .ok (.if_icmp .ge 30, 3)) ∧ (decode cX11_run 47 = .ok (.aload 4, 2)) ∧ (decode cX11_run 49 = .ok (.aload_n 0, 1)) ∧ (decode cX11_run 50 = .ok (.getfield 55, 3)) ∧ (decode cX11_run 53 = .ok (.aload_n 0, 1)) ∧ (decode cX11_run 54 = .ok (.getfield 93, 3)) ∧ (decode cX11_run 57 = .ok (.aaload, 1)) ∧ (decode cX11_run 58 = .ok (.aload_n 0, 1)) := by decide +kernel
theorem dX11_run_44 : decode cX11_run 44 = .ok (.if_icmp .ge 30, 3) := dcX11_run_3.1
theorem dX11_run_47 : decode cX11_run 47 = .ok (.aload 4, 2) := dcX11_run_3.2.1
theorem dX11_run_49 : decode cX11_run 49 = .ok (.aload_n 0, 1) := dcX11_run_3.2.2.1
theorem dX11_run_50 : decode cX11_run 50 = .ok (.getfield 55, 3) := dcX11_run_3.2.2.2.1
theorem dX11_run_53 : decode cX11_run 53 = .ok (.aload_n 0, 1) := dcX11_run_3.2.2.2.2.1
theorem dX11_run_54 : decode cX11_run 54 = .ok (.getfield 93, 3) := dcX11_run_3.2.2.2.2.2.1
theorem dX11_run_57 : decode cX11_run 57 = .ok (.aaload, 1) := dcX11_run_3.2.2.2.2.2.2.1
theorem dX11_run_58 : decode cX11_run 58 = .ok (.aload_n 0, 1) := dcX11_run_3.2.2.2.2.2.2.2
theorem dcX11_run_4 : (decode cX11_run 59 = .ok (.getfield 84, 3)) ∧ (decode cX11_run 62 = .ok (.iload 5, 2)) ∧ (decode cX11_run 64 = .ok (.iadd, 1)) ∧ (decode cX11_run 65 = .ok (.invokevirtual 177, 3)) ∧ (decode cX11_run 68 = .ok (.iinc 5 1, 3)) ∧ (decode cX11_run 71 = .ok (.goto (-30), 3)) ∧ (decode cX11_run 74 = .ok (.iload_n 3, 1)) ∧ (decode cX11_run 75 = .ok (.ifCond .ne 26, 3)) := by decide +kernel
theorem dX11_run_59 : decode cX11_run 59 = .ok (.getfield 84, 3) := dcX11_run_4.1
theorem dX11_run_62 : decode cX11_run 62 = .ok (.iload 5, 2) := dcX11_run_4.2.1
theorem dX11_run_64 : decode cX11_run 64 = .ok (.iadd, 1) := dcX11_run_4.2.2.1
theorem dX11_run_65 : decode cX11_run 65 = .ok (.invokevirtual 177, 3) := dcX11_run_4.2.2.2.1
theorem dX11_run_68 : decode cX11_run 68 = .ok (.iinc 5 1, 3) := dcX11_run_4.2.2.2.2.1
theorem dX11_run_71 : decode cX11_run 71 = .ok (.goto (-30), 3) := dcX11_run_4.2.2.2.2.2.1
theorem dX11_run_74 : decode cX11_run 74 = .ok (.iload_n 3, 1) := dcX11_run_4.2.2.2.2.2.2.1
theorem dX11_run_75 : decode cX11_run 75 = .ok (.ifCond .ne 26, 3) := dcX11_run_4.2.2.2.2.2.2.2
theorem dcX11_run_5 : (decode cX11_run 78 = .ok (.aload 4, 2)) ∧ (decode cX11_run 80 = .ok (.aload_n 0, 1)) ∧ (decode cX11_run 81 = .ok (.getfield 55, 3)) ∧ (decode cX11_run 84 = .ok (.aload_n 0, 1)) ∧ (decode cX11_run 85 = .ok (.getfield 93, 3)) ∧ (decode cX11_run 88 = .ok (.aaload, 1)) ∧ (decode cX11_run 89 = .ok (.aload_n 0, 1)) ∧ (decode cX11_run 90 = .ok (.getfield 84, 3)) := by decide +kernel
theorem dX11_run_78 : decode cX11_run 78 = .ok (.aload 4, 2) := dcX11_run_5.1
theorem dX11_run_80 : decode cX11_run 80 = .ok (.aload_n 0, 1) := dcX11_run_5.2.1
theorem dX11_run_81 : decode cX11_run 81 = .ok (.getfield 55, 3) := dcX11_run_5.2.2.1
theorem dX11_run_84 : decode cX11_run 84 = .ok (.aload_n 0, 1) := dcX11_run_5.2.2.2.1
theorem dX11_run_85 : decode cX11_run 85 = .ok (.getfield 93, 3) := dcX11_run_5.2.2.2.2.1
theorem dX11_run_88 : decode cX11_run 88 = .ok (.aaload, 1) := dcX11_run_5.2.2.2.2.2.1
theorem dX11_run_89 : decode cX11_run 89 = .ok (.aload_n 0, 1) := dcX11_run_5.2.2.2.2.2.2.1
theorem dX11_run_90 : decode cX11_run 90 = .ok (.getfield 84, 3) := dcX11_run_5.2.2.2.2.2.2.2
theorem dcX11_run_6 : (decode cX11_run 93 = .ok (.iload_n 2, 1)) ∧ (decode cX11_run 94 = .ok (.iadd, 1)) ∧ (decode cX11_run 95 = .ok (.invokevirtual 164, 3)) ∧ (decode cX11_run 98 = .ok (.goto 8, 3)) ∧ (decode cX11_run 101 = .ok (.aload 4, 2)) ∧ (decode cX11_run 103 = .ok (.invokevirtual 156, 3)) ∧ (decode cX11_run 106 = .ok (.ireturn, 1)) := by decide +kernel
theorem dX11_run_93 : decode cX11_run 93 = .ok (.iload_n 2, 1) := dcX11_run_6.1
theorem dX11_run_94 : decode cX11_run 94 = .ok (.iadd, 1) := dcX11_run_6.2.1
theorem dX11_run_95 : decode cX11_run 95 = .ok (.invokevirtual 164, 3) := dcX11_run_6.2.2.1
theorem dX11_run_98 : decode cX11_run 98 = .ok (.goto 8, 3) := dcX11_run_6.2.2.2.1
theorem dX11_run_101 : decode cX11_run 101 = .ok (.aload 4, 2) := dcX11_run_6.2.2.2.2.1
theorem dX11_run_103 : decode cX11_run 103 = .ok (.invokevirtual 156, 3) := dcX11_run_6.2.2.2.2.2.1
theorem dX11_run_106 : decode cX11_run 106 = .ok (.ireturn, 1) := dcX11_run_6.2.2.2.2.2.2
theorem dcX11_blind_0 : (decode cX11_blind 0 = .ok (.aload_n 0, 1)) ∧ (decode cX11_blind 1 = .ok (.iload_n 1, 1)) ∧ (decode cX11_blind 2 = .ok (.invokevirtual 125, 3)) ∧ (decode cX11_blind 5 = .ok (.ifCond .ne 6, 3)) ∧ (decode cX11_blind 8 = .ok (.bipush (-5), 2)) ∧ (decode cX11_blind 10 = .ok (.ireturn, 1)) ∧ (decode cX11_blind 11 = .ok (.aload_n 0, 1)) ∧ (decode cX11_blind 12 = .ok (.iload_n 1, 1)) := by decide +kernel
theorem dX11_blind_0 : decode cX11_blind 0 = .ok (.aload_n 0, 1) := dcX11_blind_0.1
theorem dX11_blind_1 : decode cX11_blind 1 = .ok (.iload_n 1, 1) := dcX11_blind_0.2.1
theorem dX11_blind_2 : decode cX11_blind 2 = .ok (.invokevirtual 125, 3) := dcX11_blind_0.2.2.1
theorem dX11_blind_5 : decode cX11_blind 5 = .ok (.ifCond .ne 6, 3) := dcX11_blind_0.2.2.2.1
theorem dX11_blind_8 : decode cX11_blind 8 = .ok (.bipush (-5), 2) := dcX11_blind_0.2.2.2.2.1
theorem dX11_blind_10 : decode cX11_blind 10 = .ok (.ireturn, 1) := dcX11_blind_0.2.2.2.2.2.1
theorem dX11_blind_11 : decode cX11_blind 11 = .ok (.aload_n 0, 1) := dcX11_blind_0.2.2.2.2.2.2.1
theorem dX11_blind_12 : decode cX11_blind 12 = .ok (.iload_n 1, 1) := dcX11_blind_0.2.2.2.2.2.2.2
theorem dcX11_blind_1 : (decode cX11_blind 13 = .ok (.invokevirtual 184, 3)) ∧ (decode cX11_blind 16 = .ok (.astore_n 2, 1)) ∧ (decode cX11_blind 17 = .ok (.iconst 0, 1)) ∧ (decode cX11_blind 18 = .ok (.istore_n 3, 1)) ∧ (decode cX11_blind 19 = .ok (.iload_n 3, 1)) ∧ (decode cX11_blind 20 = .ok (.bipush 40, 2)) ∧ (decode cX11_blind 22 = .ok (.if_icmp .gt 52, 3)) ∧ (decode cX11_blind 25 = .ok (.aload_n 2, 1)) := by decide +kernel
theorem dX11_blind_13 : decode cX11_blind 13 = .ok (.invokevirtual 184, 3) := dcX11_blind_1.1
theorem dX11_blind_16 : decode cX11_blind 16 = .ok (.astore_n 2, 1) := dcX11_blind_1.2.1
theorem dX11_blind_17 : decode cX11_blind 17 = .ok (.iconst 0, 1) := dcX11_blind_1.2.2.1
theorem dX11_blind_18 : decode cX11_blind 18 = .ok (.istore_n 3, 1) := dcX11_blind_1.2.2.2.1
theorem dX11_blind_19 : decode cX11_blind 19 = .ok (.iload_n 3, 1) := dcX11_blind_1.2.2.2.2.1
theorem dX11_blind_20 : decode cX11_blind 20 = .ok (.bipush 40, 2) := dcX11_blind_1.2.2.2.2.2.1
theorem dX11_blind_22 : decode cX11_blind 22 = .ok (.if_icmp .gt 52, 3) := dcX11_blind_1.2.2.2.2.2.2.1
theorem dX11_blind_25 : decode cX11_blind 25 = .ok (.aload_n 2, 1) := dcX11_blind_1.2.2.2.2.2.2.2
theorem dcX11_blind_2 : (decode cX11_blind 26 = .ok (.aload_n 0, 1)) ∧ (decode cX11_blind 27 = .ok (.getfield 55, 3)) ∧ (decode cX11_blind 30 = .ok (.aload_n 0, 1)) ∧ (decode cX11_blind 31 = .ok (.getfield 93, 3)) ∧ (decode cX11_blind 34 = .ok (.aaload, 1)) ∧ (decode cX11_blind 35 = .ok (.aload_n 0, 1)) ∧ (decode cX11_blind 36 = .ok (.getfield 84, 3)) ∧ (decode cX11_blind 39 = .ok (.iload_n 3, 1)) := by decide +kernel
theorem dX11_blind_26 : decode cX11_blind 26 = .ok (.aload_n 0, 1) := dcX11_blind_2.1
theorem dX11_blind_27 : decode cX11_blind 27 = .ok (.getfield 55, 3) := dcX11_blind_2.2.1
theorem dX11_blind_30 : decode cX11_blind 30 = .ok (.aload_n 0, 1) := dcX11_blind_2.2.2.1
theorem dX11_blind_31 : decode cX11_blind 31 = .ok (.getfield 93, 3) := dcX11_blind_2.2.2.2.1
theorem dX11_blind_34 : decode cX11_blind 34 = .ok (.aaload, 1) := dcX11_blind_2.2.2.2.2.1
theorem dX11_blind_35 : decode cX11_blind 35 = .ok (.aload_n 0, 1) := dcX11_blind_2.2.2.2.2.2.1
theorem dX11_blind_36 : decode cX11_blind 36 = .ok (.getfield 84, 3) := dcX11_blind_2.2.2.2.2.2.2.1
theorem dX11_blind_39 : decode cX11_blind 39 = .ok (.iload_n 3, 1) := dcX11_blind_2.2.2.2.2.2.2.2
theorem dcX11_blind_3 : (decode cX11_blind 40 = .ok (.iadd, 1)) ∧ (decode cX11_blind 41 = .ok (.invokevirtual 164, 3)) ∧ (decode cX11_blind 44 = .ok (.ifCond .ne 5, 3)) ∧ (decode cX11_blind 47 = .ok (.iload_n 3, 1)) ∧ (decode cX11_blind 48 = .ok (.ireturn, 1)) ∧ (decode cX11_blind 49 = .ok (.aload_n 2, 1)) ∧ (decode cX11_blind 50 = .ok (.aload_n 0, 1)) ∧ (decode cX11_blind 51 = .ok (.getfield 55, 3)) := by decide +kernel
theorem dX11_blind_40 : decode cX11_blind 40 = .ok (.iadd, 1) := dcX11_blind_3.1
theorem dX11_blind_41 : decode cX11_blind 41 = .ok (.invokevirtual 164, 3) := dcX11_blind_3.2.1
theorem dX11_blind_44 : decode cX11_blind 44 = .ok (.ifCond .ne 5, 3) := dcX11_blind_3.2.2.1
theorem dX11_blind_47 : decode cX11_blind 47 = .ok (.iload_n 3, 1) := dcX11_blind_3.2.2.2.1
theorem dX11_blind_48 : decode cX11_blind 48 = .ok (.ireturn, 1) := dcX11_blind_3.2.2.2.2.1
theorem dX11_blind_49 : decode cX11_blind 49 = .ok (.aload_n 2, 1) := dcX11_blind_3.2.2.2.2.2.1
theorem dX11_blind_50 : decode cX11_blind 50 = .ok (.aload_n 0, 1) := dcX11_blind_3.2.2.2.2.2.2.1
theorem dX11_blind_51 : decode cX11_blind 51 = .ok (.getfield 55, 3) := dcX11_blind_3.2.2.2.2.2.2.2
theorem dcX11_blind_4 : (decode cX11_blind 54 = .ok (.aload_n 0, 1)) ∧ (decode cX11_blind 55 = .ok (.getfield 93, 3)) ∧ (decode cX11_blind 58 = .ok (.aaload, 1)) ∧ (decode cX11_blind 59 = .ok (.aload_n 0, 1)) ∧ (decode cX11_blind 60 = .ok (.getfield 84, 3)) ∧ (decode cX11_blind 63 = .ok (.iload_n 3, 1)) ∧ (decode cX11_blind 64 = .ok (.iadd, 1)) ∧ (decode cX11_blind 65 = .ok (.invokevirtual 177, 3)) := by decide +kernel
theorem dX11_blind_54 : decode cX11_blind 54 = .ok (.aload_n 0, 1) := dcX11_blind_4.1
theorem dX11_blind_55 : decode cX11_blind 55 = .ok (.getfield 93, 3) := dcX11_blind_4.2.1
theorem dX11_blind_58 : decode cX11_blind 58 = .ok (.aaload, 1) := dcX11_blind_4.2.2.1
theorem dX11_blind_59 : decode cX11_blind 59 = .ok (.aload_n 0, 1) := dcX11_blind_4.2.2.2.1
theorem dX11_blind_60 : decode cX11_blind 60 = .ok (.getfield 84, 3) := dcX11_blind_4.2.2.2.2.1
theorem dX11_blind_63 : decode cX11_blind 63 = .ok (.iload_n 3, 1) := dcX11_blind_4.2.2.2.2.2.1
theorem dX11_blind_64 : decode cX11_blind 64 = .ok (.iadd, 1) := dcX11_blind_4.2.2.2.2.2.2.1
theorem dX11_blind_65 : decode cX11_blind 65 = .ok (.invokevirtual 177, 3) := dcX11_blind_4.2.2.2.2.2.2.2
theorem dcX11_blind_5 : (decode cX11_blind 68 = .ok (.iinc 3 1, 3)) ∧ (decode cX11_blind 71 = .ok (.goto (-52), 3)) ∧ (decode cX11_blind 74 = .ok (.iconst (-1), 1)) ∧ (decode cX11_blind 75 = .ok (.ireturn, 1)) := by decide +kernel
theorem dX11_blind_68 : decode cX11_blind 68 = .ok (.iinc 3 1, 3) := dcX11_blind_5.1
theorem dX11_blind_71 : decode cX11_blind 71 = .ok (.goto (-52), 3) := dcX11_blind_5.2.1
theorem dX11_blind_74 : decode cX11_blind 74 = .ok (.iconst (-1), 1) := dcX11_blind_5.2.2.1
theorem dX11_blind_75 : decode cX11_blind 75 = .ok (.ireturn, 1) := dcX11_blind_5.2.2.2
theorem dcX11_best_0 : (decode cX11_best 0 = .ok (.aload_n 0, 1)) ∧ (decode cX11_best 1 = .ok (.iload_n 1, 1)) ∧ (decode cX11_best 2 = .ok (.invokevirtual 125, 3)) ∧ (decode cX11_best 5 = .ok (.ifCond .ne 6, 3)) ∧ (decode cX11_best 8 = .ok (.bipush (-5), 2)) ∧ (decode cX11_best 10 = .ok (.ireturn, 1)) ∧ (decode cX11_best 11 = .ok (.iload_n 2, 1)) ∧ (decode cX11_best 12 = .ok (.iconst 2, 1)) := by decide +kernel
theorem dX11_best_0 : decode cX11_best 0 = .ok (.aload_n 0, 1) := dcX11_best_0.1
theorem dX11_best_1 : decode cX11_best 1 = .ok (.iload_n 1, 1) := dcX11_best_0.2.1
theorem dX11_best_2 : decode cX11_best 2 = .ok (.invokevirtual 125, 3) := dcX11_best_0.2.2.1
theorem dX11_best_5 : decode cX11_best 5 = .ok (.ifCond .ne 6, 3) := dcX11_best_0.2.2.2.1
theorem dX11_best_8 : decode cX11_best 8 = .ok (.bipush (-5), 2) := dcX11_best_0.2.2.2.2.1
theorem dX11_best_10 : decode cX11_best 10 = .ok (.ireturn, 1) := dcX11_best_0.2.2.2.2.2.1
theorem dX11_best_11 : decode cX11_best 11 = .ok (.iload_n 2, 1) := dcX11_best_0.2.2.2.2.2.2.1
theorem dX11_best_12 : decode cX11_best 12 = .ok (.iconst 2, 1) := dcX11_best_0.2.2.2.2.2.2.2
theorem dcX11_best_1 : (decode cX11_best 13 = .ok (.invokestatic 107, 3)) ∧ (decode cX11_best 16 = .ok (.ifCond .ne 6, 3)) ∧ (decode cX11_best 19 = .ok (.bipush (-7), 2)) ∧ (decode cX11_best 21 = .ok (.ireturn, 1)) ∧ (decode cX11_best 22 = .ok (.aload_n 0, 1)) ∧ (decode cX11_best 23 = .ok (.iload_n 1, 1)) ∧ (decode cX11_best 24 = .ok (.invokevirtual 188, 3)) ∧ (decode cX11_best 27 = .ok (.istore_n 3, 1)) := by decide +kernel
theorem dX11_best_13 : decode cX11_best 13 = .ok (.invokestatic 107, 3) := dcX11_best_1.1
theorem dX11_best_16 : decode cX11_best 16 = .ok (.ifCond .ne 6, 3) := dcX11_best_1.2.1
theorem dX11_best_19 : decode cX11_best 19 = .ok (.bipush (-7), 2) := dcX11_best_1.2.2.1
theorem dX11_best_21 : decode cX11_best 21 = .ok (.ireturn, 1) := dcX11_best_1.2.2.2.1
theorem dX11_best_22 : decode cX11_best 22 = .ok (.aload_n 0, 1) := dcX11_best_1.2.2.2.2.1
theorem dX11_best_23 : decode cX11_best 23 = .ok (.iload_n 1, 1) := dcX11_best_1.2.2.2.2.2.1
theorem dX11_best_24 : decode cX11_best 24 = .ok (.invokevirtual 188, 3) := dcX11_best_1.2.2.2.2.2.2.1
theorem dX11_best_27 : decode cX11_best 27 = .ok (.istore_n 3, 1) := dcX11_best_1.2.2.2.2.2.2.2
theorem dcX11_best_2 : (decode cX11_best 28 = .ok (.iload_n 2, 1)) ∧ (decode cX11_best 29 = .ok (.ifCond .ne 5, 3)) ∧ (decode cX11_best 32 = .ok (.iload_n 3, 1)) ∧ (decode cX11_best 33 = .ok (.ireturn, 1)) ∧ (decode cX11_best 34 = .ok (.iload_n 2, 1)) ∧ (decode cX11_best 35 = .ok (.iconst 1, 1)) ∧ (decode cX11_best 36 = .ok (.if_icmp .ne 10, 3)) ∧ (decode cX11_best 39 = .ok (.iload_n 3, 1)) := by decide +kernel
theorem dX11_best_28 : decode cX11_best 28 = .ok (.iload_n 2, 1) := dcX11_best_2.1
theorem dX11_best_29 : decode cX11_best 29 = .ok (.ifCond .ne 5, 3) := dcX11_best_2.2.1
theorem dX11_best_32 : decode cX11_best 32 = .ok (.iload_n 3, 1) := dcX11_best_2.2.2.1
theorem dX11_best_33 : decode cX11_best 33 = .ok (.ireturn, 1) := dcX11_best_2.2.2.2.1
theorem dX11_best_34 : decode cX11_best 34 = .ok (.iload_n 2, 1) := dcX11_best_2.2.2.2.2.1
theorem dX11_best_35 : decode cX11_best 35 = .ok (.iconst 1, 1) := dcX11_best_2.2.2.2.2.2.1
theorem dX11_best_36 : decode cX11_best 36 = .ok (.if_icmp .ne 10, 3) := dcX11_best_2.2.2.2.2.2.2.1
theorem dX11_best_39 : decode cX11_best 39 = .ok (.iload_n 3, 1) := dcX11_best_2.2.2.2.2.2.2.2
theorem dcX11_best_3 : (decode cX11_best 40 = .ok (.invokestatic 167, 3)) ∧ (decode cX11_best 43 = .ok (.goto 26, 3)) ∧ (decode cX11_best 46 = .ok (.aload_n 0, 1)) ∧ (decode cX11_best 47 = .ok (.getfield 37, 3)) ∧ (decode cX11_best 50 = .ok (.iload_n 1, 1)) ∧ (decode cX11_best 51 = .ok (.aaload, 1)) ∧ (decode cX11_best 52 = .ok (.aload_n 0, 1)) ∧ (decode cX11_best 53 = .ok (.getfield 55, 3)) := by decide +kernel
theorem dX11_best_40 : decode cX11_best 40 = .ok (.invokestatic 167, 3) := dcX11_best_3.1
theorem dX11_best_43 : decode cX11_best 43 = .ok (.goto 26, 3) := dcX11_best_3.2.1
theorem dX11_best_46 : decode cX11_best 46 = .ok (.aload_n 0, 1) := dcX11_best_3.2.2.1
theorem dX11_best_47 : decode cX11_best 47 = .ok (.getfield 37, 3) := dcX11_best_3.2.2.2.1
theorem dX11_best_50 : decode cX11_best 50 = .ok (.iload_n 1, 1) := dcX11_best_3.2.2.2.2.1
theorem dX11_best_51 : decode cX11_best 51 = .ok (.aaload, 1) := dcX11_best_3.2.2.2.2.2.1
theorem dX11_best_52 : decode cX11_best 52 = .ok (.aload_n 0, 1) := dcX11_best_3.2.2.2.2.2.2.1
theorem dX11_best_53 : decode cX11_best 53 = .ok (.getfield 55, 3) := dcX11_best_3.2.2.2.2.2.2.2
theorem dcX11_best_4 : (decode cX11_best 56 = .ok (.aload_n 0, 1)) ∧ (decode cX11_best 57 = .ok (.getfield 93, 3)) ∧ (decode cX11_best 60 = .ok (.aaload, 1)) ∧ (decode cX11_best 61 = .ok (.iload_n 3, 1)) ∧ (decode cX11_best 62 = .ok (.aload_n 0, 1)) ∧ (decode cX11_best 63 = .ok (.getfield 84, 3)) ∧ (decode cX11_best 66 = .ok (.invokevirtual 173, 3)) ∧ (decode cX11_best 69 = .ok (.ireturn, 1)) := by decide +kernel
theorem dX11_best_56 : decode cX11_best 56 = .ok (.aload_n 0, 1) := dcX11_best_4.1
theorem dX11_best_57 : decode cX11_best 57 = .ok (.getfield 93, 3) := dcX11_best_4.2.1
theorem dX11_best_60 : decode cX11_best 60 = .ok (.aaload, 1) := dcX11_best_4.2.2.1
theorem dX11_best_61 : decode cX11_best 61 = .ok (.iload_n 3, 1) := dcX11_best_4.2.2.2.1
theorem dX11_best_62 : decode cX11_best 62 = .ok (.aload_n 0, 1) := dcX11_best_4.2.2.2.2.1
theorem dX11_best_63 : decode cX11_best 63 = .ok (.getfield 84, 3) := dcX11_best_4.2.2.2.2.2.1
theorem dX11_best_66 : decode cX11_best 66 = .ok (.invokevirtual 173, 3) := dcX11_best_4.2.2.2.2.2.2.1
theorem dX11_best_69 : decode cX11_best 69 = .ok (.ireturn, 1) := dcX11_best_4.2.2.2.2.2.2.2
theorem dcX11_whom_0 : (decode cX11_whom 0 = .ok (.iload_n 1, 1)) ∧ (decode cX11_whom 1 = .ok (.iconst 1, 1)) ∧ (decode cX11_whom 2 = .ok (.invokestatic 107, 3)) ∧ (decode cX11_whom 5 = .ok (.ifCond .ne 6, 3)) ∧ (decode cX11_whom 8 = .ok (.bipush (-2), 2)) ∧ (decode cX11_whom 10 = .ok (.ireturn, 1)) ∧ (decode cX11_whom 11 = .ok (.iconst (-1), 1)) ∧ (decode cX11_whom 12 = .ok (.istore_n 2, 1)) := by decide +kernel
theorem dX11_whom_0 : decode cX11_whom 0 = .ok (.iload_n 1, 1) := dcX11_whom_0.1
theorem dX11_whom_1 : decode cX11_whom 1 = .ok (.iconst 1, 1) := dcX11_whom_0.2.1
theorem dX11_whom_2 : decode cX11_whom 2 = .ok (.invokestatic 107, 3) := dcX11_whom_0.2.2.1
theorem dX11_whom_5 : decode cX11_whom 5 = .ok (.ifCond .ne 6, 3) := dcX11_whom_0.2.2.2.1
theorem dX11_whom_8 : decode cX11_whom 8 = .ok (.bipush (-2), 2) := dcX11_whom_0.2.2.2.2.1
theorem dX11_whom_10 : decode cX11_whom 10 = .ok (.ireturn, 1) := dcX11_whom_0.2.2.2.2.2.1
theorem dX11_whom_11 : decode cX11_whom 11 = .ok (.iconst (-1), 1) := dcX11_whom_0.2.2.2.2.2.2.1
theorem dX11_whom_12 : decode cX11_whom 12 = .ok (.istore_n 2, 1) := dcX11_whom_0.2.2.2.2.2.2.2
theorem dcX11_whom_1 : (decode cX11_whom 13 = .ok (.iconst (-1), 1)) ∧ (decode cX11_whom 14 = .ok (.istore_n 3, 1)) ∧ (decode cX11_whom 15 = .ok (.iconst 0, 1)) ∧ (decode cX11_whom 16 = .ok (.istore 4, 2)) ∧ (decode cX11_whom 18 = .ok (.iload 4, 2)) ∧ (decode cX11_whom 20 = .ok (.aload_n 0, 1)) ∧ (decode cX11_whom 21 = .ok (.getfield 80, 3)) ∧ (decode cX11_whom 24 = .ok (.if_icmp .ge 32, 3)) := by decide +kernel
theorem dX11_whom_13 : decode cX11_whom 13 = .ok (.iconst (-1), 1) := dcX11_whom_1.1
theorem dX11_whom_14 : decode cX11_whom 14 = .ok (.istore_n 3, 1) := dcX11_whom_1.2.1
theorem dX11_whom_15 : decode cX11_whom 15 = .ok (.iconst 0, 1) := dcX11_whom_1.2.2.1
theorem dX11_whom_16 : decode cX11_whom 16 = .ok (.istore 4, 2) := dcX11_whom_1.2.2.2.1
theorem dX11_whom_18 : decode cX11_whom 18 = .ok (.iload 4, 2) := dcX11_whom_1.2.2.2.2.1
theorem dX11_whom_20 : decode cX11_whom 20 = .ok (.aload_n 0, 1) := dcX11_whom_1.2.2.2.2.2.1
theorem dX11_whom_21 : decode cX11_whom 21 = .ok (.getfield 80, 3) := dcX11_whom_1.2.2.2.2.2.2.1
theorem dX11_whom_24 : decode cX11_whom 24 = .ok (.if_icmp .ge 32, 3) := dcX11_whom_1.2.2.2.2.2.2.2
theorem dcX11_whom_2 : (decode cX11_whom 27 = .ok (.aload_n 0, 1)) ∧ (decode cX11_whom 28 = .ok (.iload 4, 2)) ∧ (decode cX11_whom 30 = .ok (.invokevirtual 188, 3)) ∧ (decode cX11_whom 33 = .ok (.invokestatic 167, 3)) ∧ (decode cX11_whom 36 = .ok (.istore 5, 2)) ∧ (decode cX11_whom 38 = .ok (.iload 5, 2)) ∧ (decode cX11_whom 40 = .ok (.iload_n 3, 1)) ∧ (decode cX11_whom 41 = .ok (.if_icmp .le 9, 3)) := by decide +kernel
theorem dX11_whom_27 : decode cX11_whom 27 = .ok (.aload_n 0, 1) := dcX11_whom_2.1
theorem dX11_whom_28 : decode cX11_whom 28 = .ok (.iload 4, 2) := dcX11_whom_2.2.1
theorem dX11_whom_30 : decode cX11_whom 30 = .ok (.invokevirtual 188, 3) := dcX11_whom_2.2.2.1
theorem dX11_whom_33 : decode cX11_whom 33 = .ok (.invokestatic 167, 3) := dcX11_whom_2.2.2.2.1
theorem dX11_whom_36 : decode cX11_whom 36 = .ok (.istore 5, 2) := dcX11_whom_2.2.2.2.2.1
theorem dX11_whom_38 : decode cX11_whom 38 = .ok (.iload 5, 2) := dcX11_whom_2.2.2.2.2.2.1
theorem dX11_whom_40 : decode cX11_whom 40 = .ok (.iload_n 3, 1) := dcX11_whom_2.2.2.2.2.2.2.1
theorem dX11_whom_41 : decode cX11_whom 41 = .ok (.if_icmp .le 9, 3) := dcX11_whom_2.2.2.2.2.2.2.2
theorem dcX11_whom_3 : (decode cX11_whom 44 = .ok (.iload 4, 2)) ∧ (decode cX11_whom 46 = .ok (.istore_n 2, 1)) ∧ (decode cX11_whom 47 = .ok (.iload 5, 2)) ∧ (decode cX11_whom 49 = .ok (.istore_n 3, 1)) ∧ (decode cX11_whom 50 = .ok (.iinc 4 1, 3)) ∧ (decode cX11_whom 53 = .ok (.goto (-35), 3)) ∧ (decode cX11_whom 56 = .ok (.iload_n 1, 1)) ∧ (decode cX11_whom 57 = .ok (.ifCond .ne 7, 3)) := by decide +kernel
theorem dX11_whom_44 : decode cX11_whom 44 = .ok (.iload 4, 2) := dcX11_whom_3.1
theorem dX11_whom_46 : decode cX11_whom 46 = .ok (.istore_n 2, 1) := dcX11_whom_3.2.1
theorem dX11_whom_47 : decode cX11_whom 47 = .ok (.iload 5, 2) := dcX11_whom_3.2.2.1
theorem dX11_whom_49 : decode cX11_whom 49 = .ok (.istore_n 3, 1) := dcX11_whom_3.2.2.2.1
theorem dX11_whom_50 : decode cX11_whom 50 = .ok (.iinc 4 1, 3) := dcX11_whom_3.2.2.2.2.1
theorem dX11_whom_53 : decode cX11_whom 53 = .ok (.goto (-35), 3) := dcX11_whom_3.2.2.2.2.2.1
theorem dX11_whom_56 : decode cX11_whom 56 = .ok (.iload_n 1, 1) := dcX11_whom_3.2.2.2.2.2.2.1
theorem dX11_whom_57 : decode cX11_whom 57 = .ok (.ifCond .ne 7, 3) := dcX11_whom_3.2.2.2.2.2.2.2
theorem dcX11_whom_4 : (decode cX11_whom 60 = .ok (.iload_n 2, 1)) ∧ (decode cX11_whom 61 = .ok (.goto 8, 3)) ∧ (decode cX11_whom 64 = .ok (.iconst 0, 1)) ∧ (decode cX11_whom 65 = .ok (.iload_n 3, 1)) ∧ (decode cX11_whom 66 = .ok (.invokestatic 191, 3)) ∧ (decode cX11_whom 69 = .ok (.ireturn, 1)) := by decide +kernel
theorem dX11_whom_60 : decode cX11_whom 60 = .ok (.iload_n 2, 1) := dcX11_whom_4.1
theorem dX11_whom_61 : decode cX11_whom 61 = .ok (.goto 8, 3) := dcX11_whom_4.2.1
theorem dX11_whom_64 : decode cX11_whom 64 = .ok (.iconst 0, 1) := dcX11_whom_4.2.2.1
theorem dX11_whom_65 : decode cX11_whom 65 = .ok (.iload_n 3, 1) := dcX11_whom_4.2.2.2.1
theorem dX11_whom_66 : decode cX11_whom 66 = .ok (.invokestatic 191, 3) := dcX11_whom_4.2.2.2.2.1
theorem dX11_whom_69 : decode cX11_whom 69 = .ok (.ireturn, 1) := dcX11_whom_4.2.2.2.2.2
theorem dcX11_show_0 : (decode cX11_show 0 = .ok (.aload_n 0, 1)) ∧ (decode cX11_show 1 = .ok (.iload_n 1, 1)) ∧ (decode cX11_show 2 = .ok (.invokevirtual 125, 3)) ∧ (decode cX11_show 5 = .ok (.ifCond .ne 6, 3)) ∧ (decode cX11_show 8 = .ok (.bipush (-5), 2)) ∧ (decode cX11_show 10 = .ok (.ireturn, 1)) ∧ (decode cX11_show 11 = .ok (.iload_n 2, 1)) ∧ (decode cX11_show 12 = .ok (.ldc 136, 2)) := by decide +kernel
theorem dX11_show_0 : decode cX11_show 0 = .ok (.aload_n 0, 1) := dcX11_show_0.1
theorem dX11_show_1 : decode cX11_show 1 = .ok (.iload_n 1, 1) := dcX11_show_0.2.1
theorem dX11_show_2 : decode cX11_show 2 = .ok (.invokevirtual 125, 3) := dcX11_show_0.2.2.1
theorem dX11_show_5 : decode cX11_show 5 = .ok (.ifCond .ne 6, 3) := dcX11_show_0.2.2.2.1
theorem dX11_show_8 : decode cX11_show 8 = .ok (.bipush (-5), 2) := dcX11_show_0.2.2.2.2.1
theorem dX11_show_10 : decode cX11_show 10 = .ok (.ireturn, 1) := dcX11_show_0.2.2.2.2.2.1
theorem dX11_show_11 : decode cX11_show 11 = .ok (.iload_n 2, 1) := dcX11_show_0.2.2.2.2.2.2.1
theorem dX11_show_12 : decode cX11_show 12 = .ok (.ldc 136, 2) := dcX11_show_0.2.2.2.2.2.2.2
theorem dcX11_show_1 : (decode cX11_show 14 = .ok (.invokestatic 107, 3)) ∧ (decode cX11_show 17 = .ok (.ifCond .ne 6, 3)) ∧ (decode cX11_show 20 = .ok (.bipush (-7), 2)) ∧ (decode cX11_show 22 = .ok (.ireturn, 1)) ∧ (decode cX11_show 23 = .ok (.iload_n 2, 1)) ∧ (decode cX11_show 24 = .ok (.aload_n 0, 1)) ∧ (decode cX11_show 25 = .ok (.getfield 37, 3)) ∧ (decode cX11_show 28 = .ok (.iload_n 1, 1)) := by decide +kernel
theorem dX11_show_14 : decode cX11_show 14 = .ok (.invokestatic 107, 3) := dcX11_show_1.1
theorem dX11_show_17 : decode cX11_show 17 = .ok (.ifCond .ne 6, 3) := dcX11_show_1.2.1
theorem dX11_show_20 : decode cX11_show 20 = .ok (.bipush (-7), 2) := dcX11_show_1.2.2.1
theorem dX11_show_22 : decode cX11_show 22 = .ok (.ireturn, 1) := dcX11_show_1.2.2.2.1
theorem dX11_show_23 : decode cX11_show 23 = .ok (.iload_n 2, 1) := dcX11_show_1.2.2.2.2.1
theorem dX11_show_24 : decode cX11_show 24 = .ok (.aload_n 0, 1) := dcX11_show_1.2.2.2.2.2.1
theorem dX11_show_25 : decode cX11_show 25 = .ok (.getfield 37, 3) := dcX11_show_1.2.2.2.2.2.2.1
theorem dX11_show_28 : decode cX11_show 28 = .ok (.iload_n 1, 1) := dcX11_show_1.2.2.2.2.2.2.2
theorem dcX11_show_2 : (decode cX11_show 29 = .ok (.aaload, 1)) ∧ (decode cX11_show 30 = .ok (.getfield 144, 3)) ∧ (decode cX11_show 33 = .ok (.iconst (-1), 1)) ∧ (decode cX11_show 34 = .ok (.ixor, 1)) ∧ (decode cX11_show 35 = .ok (.iand, 1)) ∧ (decode cX11_show 36 = .ok (.ifCond .eq 5, 3)) ∧ (decode cX11_show 39 = .ok (.iconst (-1), 1)) ∧ (decode cX11_show 40 = .ok (.ireturn, 1)) := by decide +kernel
theorem dX11_show_29 : decode cX11_show 29 = .ok (.aaload, 1) := dcX11_show_2.1
theorem dX11_show_30 : decode cX11_show 30 = .ok (.getfield 144, 3) := dcX11_show_2.2.1
theorem dX11_show_33 : decode cX11_show 33 = .ok (.iconst (-1), 1) := dcX11_show_2.2.2.1
theorem dX11_show_34 : decode cX11_show 34 = .ok (.ixor, 1) := dcX11_show_2.2.2.2.1
theorem dX11_show_35 : decode cX11_show 35 = .ok (.iand, 1) := dcX11_show_2.2.2.2.2.1
theorem dX11_show_36 : decode cX11_show 36 = .ok (.ifCond .eq 5, 3) := dcX11_show_2.2.2.2.2.2.1
theorem dX11_show_39 : decode cX11_show 39 = .ok (.iconst (-1), 1) := dcX11_show_2.2.2.2.2.2.2.1
theorem dX11_show_40 : decode cX11_show 40 = .ok (.ireturn, 1) := dcX11_show_2.2.2.2.2.2.2.2
theorem dcX11_show_3 : (decode cX11_show 41 = .ok (.iload_n 2, 1)) ∧ (decode cX11_show 42 = .ok (.aload_n 0, 1)) ∧ (decode cX11_show 43 = .ok (.getfield 37, 3)) ∧ (decode cX11_show 46 = .ok (.iload_n 1, 1)) ∧ (decode cX11_show 47 = .ok (.aaload, 1)) ∧ (decode cX11_show 48 = .ok (.aload_n 0, 1)) ∧ (decode cX11_show 49 = .ok (.getfield 55, 3)) ∧ (decode cX11_show 52 = .ok (.aload_n 0, 1)) := by decide +kernel
theorem dX11_show_41 : decode cX11_show 41 = .ok (.iload_n 2, 1) := dcX11_show_3.1
theorem dX11_show_42 : decode cX11_show 42 = .ok (.aload_n 0, 1) := dcX11_show_3.2.1
theorem dX11_show_43 : decode cX11_show 43 = .ok (.getfield 37, 3) := dcX11_show_3.2.2.1
theorem dX11_show_46 : decode cX11_show 46 = .ok (.iload_n 1, 1) := dcX11_show_3.2.2.2.1
theorem dX11_show_47 : decode cX11_show 47 = .ok (.aaload, 1) := dcX11_show_3.2.2.2.2.1
theorem dX11_show_48 : decode cX11_show 48 = .ok (.aload_n 0, 1) := dcX11_show_3.2.2.2.2.2.1
theorem dX11_show_49 : decode cX11_show 49 = .ok (.getfield 55, 3) := dcX11_show_3.2.2.2.2.2.2.1
theorem dX11_show_52 : decode cX11_show 52 = .ok (.aload_n 0, 1) := dcX11_show_3.2.2.2.2.2.2.2
theorem dcX11_show_4 : (decode cX11_show 53 = .ok (.getfield 93, 3)) ∧ (decode cX11_show 56 = .ok (.aaload, 1)) ∧ (decode cX11_show 57 = .ok (.aload_n 0, 1)) ∧ (decode cX11_show 58 = .ok (.getfield 84, 3)) ∧ (decode cX11_show 61 = .ok (.invokevirtual 164, 3)) ∧ (decode cX11_show 64 = .ok (.iconst (-1), 1)) ∧ (decode cX11_show 65 = .ok (.ixor, 1)) ∧ (decode cX11_show 66 = .ok (.iand, 1)) := by decide +kernel
theorem dX11_show_53 : decode cX11_show 53 = .ok (.getfield 93, 3) := dcX11_show_4.1
theorem dX11_show_56 : decode cX11_show 56 = .ok (.aaload, 1) := dcX11_show_4.2.1
theorem dX11_show_57 : decode cX11_show 57 = .ok (.aload_n 0, 1) := dcX11_show_4.2.2.1
theorem dX11_show_58 : decode cX11_show 58 = .ok (.getfield 84, 3) := dcX11_show_4.2.2.2.1
theorem dX11_show_61 : decode cX11_show 61 = .ok (.invokevirtual 164, 3) := dcX11_show_4.2.2.2.2.1
theorem dX11_show_64 : decode cX11_show 64 = .ok (.iconst (-1), 1) := dcX11_show_4.2.2.2.2.2.1
theorem dX11_show_65 : decode cX11_show 65 = .ok (.ixor, 1) := dcX11_show_4.2.2.2.2.2.2.1
theorem dX11_show_66 : decode cX11_show 66 = .ok (.iand, 1) := dcX11_show_4.2.2.2.2.2.2.2
theorem dcX11_show_5 : (decode cX11_show 67 = .ok (.istore_n 3, 1)) ∧ (decode cX11_show 68 = .ok (.aload_n 0, 1)) ∧ (decode cX11_show 69 = .ok (.getfield 37, 3)) ∧ (decode cX11_show 72 = .ok (.iload_n 1, 1)) ∧ (decode cX11_show 73 = .ok (.aaload, 1)) ∧ (decode cX11_show 74 = .ok (.aload_n 0, 1)) ∧ (decode cX11_show 75 = .ok (.getfield 55, 3)) ∧ (decode cX11_show 78 = .ok (.aload_n 0, 1)) := by decide +kernel
theorem dX11_show_67 : decode cX11_show 67 = .ok (.istore_n 3, 1) := dcX11_show_5.1
theorem dX11_show_68 : decode cX11_show 68 = .ok (.aload_n 0, 1) := dcX11_show_5.2.1
theorem dX11_show_69 : decode cX11_show 69 = .ok (.getfield 37, 3) := dcX11_show_5.2.2.1
theorem dX11_show_72 : decode cX11_show 72 = .ok (.iload_n 1, 1) := dcX11_show_5.2.2.2.1
theorem dX11_show_73 : decode cX11_show 73 = .ok (.aaload, 1) := dcX11_show_5.2.2.2.2.1
theorem dX11_show_74 : decode cX11_show 74 = .ok (.aload_n 0, 1) := dcX11_show_5.2.2.2.2.2.1
theorem dX11_show_75 : decode cX11_show 75 = .ok (.getfield 55, 3) := dcX11_show_5.2.2.2.2.2.2.1
theorem dX11_show_78 : decode cX11_show 78 = .ok (.aload_n 0, 1) := dcX11_show_5.2.2.2.2.2.2.2
theorem dcX11_show_6 : (decode cX11_show 79 = .ok (.getfield 93, 3)) ∧ (decode cX11_show 82 = .ok (.aaload, 1)) ∧ (decode cX11_show 83 = .ok (.iload_n 3, 1)) ∧ (decode cX11_show 84 = .ok (.aload_n 0, 1)) ∧ (decode cX11_show 85 = .ok (.getfield 84, 3)) ∧ (decode cX11_show 88 = .ok (.invokevirtual 173, 3)) ∧ (decode cX11_show 91 = .ok (.ireturn, 1)) := by decide +kernel
theorem dX11_show_79 : decode cX11_show 79 = .ok (.getfield 93, 3) := dcX11_show_6.1
theorem dX11_show_82 : decode cX11_show 82 = .ok (.aaload, 1) := dcX11_show_6.2.1
theorem dX11_show_83 : decode cX11_show 83 = .ok (.iload_n 3, 1) := dcX11_show_6.2.2.1
theorem dX11_show_84 : decode cX11_show 84 = .ok (.aload_n 0, 1) := dcX11_show_6.2.2.2.1
theorem dX11_show_85 : decode cX11_show 85 = .ok (.getfield 84, 3) := dcX11_show_6.2.2.2.2.1
theorem dX11_show_88 : decode cX11_show 88 = .ok (.invokevirtual 173, 3) := dcX11_show_6.2.2.2.2.2.1
theorem dX11_show_91 : decode cX11_show 91 = .ok (.ireturn, 1) := dcX11_show_6.2.2.2.2.2.2
theorem dcX11_way_0 : (decode cX11_way 0 = .ok (.aload_n 0, 1)) ∧ (decode cX11_way 1 = .ok (.iload_n 1, 1)) ∧ (decode cX11_way 2 = .ok (.invokevirtual 125, 3)) ∧ (decode cX11_way 5 = .ok (.ifCond .ne 6, 3)) ∧ (decode cX11_way 8 = .ok (.bipush (-5), 2)) ∧ (decode cX11_way 10 = .ok (.ireturn, 1)) ∧ (decode cX11_way 11 = .ok (.iload_n 2, 1)) ∧ (decode cX11_way 12 = .ok (.ifCond .lt 23, 3)) := by decide +kernel
theorem dX11_way_0 : decode cX11_way 0 = .ok (.aload_n 0, 1) := dcX11_way_0.1
theorem dX11_way_1 : decode cX11_way 1 = .ok (.iload_n 1, 1) := dcX11_way_0.2.1
theorem dX11_way_2 : decode cX11_way 2 = .ok (.invokevirtual 125, 3) := dcX11_way_0.2.2.1
theorem dX11_way_5 : decode cX11_way 5 = .ok (.ifCond .ne 6, 3) := dcX11_way_0.2.2.2.1
theorem dX11_way_8 : decode cX11_way 8 = .ok (.bipush (-5), 2) := dcX11_way_0.2.2.2.2.1
theorem dX11_way_10 : decode cX11_way 10 = .ok (.ireturn, 1) := dcX11_way_0.2.2.2.2.2.1
theorem dX11_way_11 : decode cX11_way 11 = .ok (.iload_n 2, 1) := dcX11_way_0.2.2.2.2.2.2.1
theorem dX11_way_12 : decode cX11_way 12 = .ok (.ifCond .lt 23, 3) := dcX11_way_0.2.2.2.2.2.2.2
theorem dcX11_way_1 : (decode cX11_way 15 = .ok (.iload_n 2, 1)) ∧ (decode cX11_way 16 = .ok (.bipush 100, 2)) ∧ (decode cX11_way 18 = .ok (.idiv, 1)) ∧ (decode cX11_way 19 = .ok (.invokestatic 129, 3)) ∧ (decode cX11_way 22 = .ok (.ifCond .eq 13, 3)) ∧ (decode cX11_way 25 = .ok (.iload_n 2, 1)) ∧ (decode cX11_way 26 = .ok (.bipush 100, 2)) ∧ (decode cX11_way 28 = .ok (.irem, 1)) := by decide +kernel
theorem dX11_way_15 : decode cX11_way 15 = .ok (.iload_n 2, 1) := dcX11_way_1.1
theorem dX11_way_16 : decode cX11_way 16 = .ok (.bipush 100, 2) := dcX11_way_1.2.1
theorem dX11_way_18 : decode cX11_way 18 = .ok (.idiv, 1) := dcX11_way_1.2.2.1
theorem dX11_way_19 : decode cX11_way 19 = .ok (.invokestatic 129, 3) := dcX11_way_1.2.2.2.1
theorem dX11_way_22 : decode cX11_way 22 = .ok (.ifCond .eq 13, 3) := dcX11_way_1.2.2.2.2.1
theorem dX11_way_25 : decode cX11_way 25 = .ok (.iload_n 2, 1) := dcX11_way_1.2.2.2.2.2.1
theorem dX11_way_26 : decode cX11_way 26 = .ok (.bipush 100, 2) := dcX11_way_1.2.2.2.2.2.2.1
theorem dX11_way_28 : decode cX11_way 28 = .ok (.irem, 1) := dcX11_way_1.2.2.2.2.2.2.2
theorem dcX11_way_2 : (decode cX11_way 29 = .ok (.invokestatic 129, 3)) ∧ (decode cX11_way 32 = .ok (.ifCond .ne 6, 3)) ∧ (decode cX11_way 35 = .ok (.bipush (-7), 2)) ∧ (decode cX11_way 37 = .ok (.ireturn, 1)) ∧ (decode cX11_way 38 = .ok (.iconst 0, 1)) ∧ (decode cX11_way 39 = .ok (.istore_n 3, 1)) ∧ (decode cX11_way 40 = .ok (.iload_n 3, 1)) ∧ (decode cX11_way 41 = .ok (.bipush 16, 2)) := by decide +kernel
theorem dX11_way_29 : decode cX11_way 29 = .ok (.invokestatic 129, 3) := dcX11_way_2.1
theorem dX11_way_32 : decode cX11_way 32 = .ok (.ifCond .ne 6, 3) := dcX11_way_2.2.1
theorem dX11_way_35 : decode cX11_way 35 = .ok (.bipush (-7), 2) := dcX11_way_2.2.2.1
theorem dX11_way_37 : decode cX11_way 37 = .ok (.ireturn, 1) := dcX11_way_2.2.2.2.1
theorem dX11_way_38 : decode cX11_way 38 = .ok (.iconst 0, 1) := dcX11_way_2.2.2.2.2.1
theorem dX11_way_39 : decode cX11_way 39 = .ok (.istore_n 3, 1) := dcX11_way_2.2.2.2.2.2.1
theorem dX11_way_40 : decode cX11_way 40 = .ok (.iload_n 3, 1) := dcX11_way_2.2.2.2.2.2.2.1
theorem dX11_way_41 : decode cX11_way 41 = .ok (.bipush 16, 2) := dcX11_way_2.2.2.2.2.2.2.2
theorem dcX11_way_3 : (decode cX11_way 43 = .ok (.if_icmp .ge 46, 3)) ∧ (decode cX11_way 46 = .ok (.aload_n 0, 1)) ∧ (decode cX11_way 47 = .ok (.getfield 73, 3)) ∧ (decode cX11_way 50 = .ok (.iload_n 3, 1)) ∧ (decode cX11_way 51 = .ok (.aload_n 0, 1)) ∧ (decode cX11_way 52 = .ok (.getfield 37, 3)) ∧ (decode cX11_way 55 = .ok (.iload_n 1, 1)) ∧ (decode cX11_way 56 = .ok (.aaload, 1)) := by decide +kernel
theorem dX11_way_43 : decode cX11_way 43 = .ok (.if_icmp .ge 46, 3) := dcX11_way_3.1
theorem dX11_way_46 : decode cX11_way 46 = .ok (.aload_n 0, 1) := dcX11_way_3.2.1
theorem dX11_way_47 : decode cX11_way 47 = .ok (.getfield 73, 3) := dcX11_way_3.2.2.1
theorem dX11_way_50 : decode cX11_way 50 = .ok (.iload_n 3, 1) := dcX11_way_3.2.2.2.1
theorem dX11_way_51 : decode cX11_way 51 = .ok (.aload_n 0, 1) := dcX11_way_3.2.2.2.2.1
theorem dX11_way_52 : decode cX11_way 52 = .ok (.getfield 37, 3) := dcX11_way_3.2.2.2.2.2.1
theorem dX11_way_55 : decode cX11_way 55 = .ok (.iload_n 1, 1) := dcX11_way_3.2.2.2.2.2.2.1
theorem dX11_way_56 : decode cX11_way 56 = .ok (.aaload, 1) := dcX11_way_3.2.2.2.2.2.2.2
theorem dcX11_way_4 : (decode cX11_way 57 = .ok (.aload_n 0, 1)) ∧ (decode cX11_way 58 = .ok (.getfield 55, 3)) ∧ (decode cX11_way 61 = .ok (.aload_n 0, 1)) ∧ (decode cX11_way 62 = .ok (.getfield 93, 3)) ∧ (decode cX11_way 65 = .ok (.aaload, 1)) ∧ (decode cX11_way 66 = .ok (.iload_n 3, 1)) ∧ (decode cX11_way 67 = .ok (.aload_n 0, 1)) ∧ (decode cX11_way 68 = .ok (.getfield 84, 3)) := by decide +kernel
theorem dX11_way_57 : decode cX11_way 57 = .ok (.aload_n 0, 1) := dcX11_way_4.1
theorem dX11_way_58 : decode cX11_way 58 = .ok (.getfield 55, 3) := dcX11_way_4.2.1
theorem dX11_way_61 : decode cX11_way 61 = .ok (.aload_n 0, 1) := dcX11_way_4.2.2.1
theorem dX11_way_62 : decode cX11_way 62 = .ok (.getfield 93, 3) := dcX11_way_4.2.2.2.1
theorem dX11_way_65 : decode cX11_way 65 = .ok (.aaload, 1) := dcX11_way_4.2.2.2.2.1
theorem dX11_way_66 : decode cX11_way 66 = .ok (.iload_n 3, 1) := dcX11_way_4.2.2.2.2.2.1
theorem dX11_way_67 : decode cX11_way 67 = .ok (.aload_n 0, 1) := dcX11_way_4.2.2.2.2.2.2.1
theorem dX11_way_68 : decode cX11_way 68 = .ok (.getfield 84, 3) := dcX11_way_4.2.2.2.2.2.2.2
theorem dcX11_way_5 : (decode cX11_way 71 = .ok (.invokevirtual 181, 3)) ∧ (decode cX11_way 74 = .ok (.iastore, 1)) ∧ (decode cX11_way 75 = .ok (.aload_n 0, 1)) ∧ (decode cX11_way 76 = .ok (.getfield 77, 3)) ∧ (decode cX11_way 79 = .ok (.iload_n 3, 1)) ∧ (decode cX11_way 80 = .ok (.ldc 197, 2)) ∧ (decode cX11_way 82 = .ok (.iastore, 1)) ∧ (decode cX11_way 83 = .ok (.iinc 3 1, 3)) := by decide +kernel
theorem dX11_way_71 : decode cX11_way 71 = .ok (.invokevirtual 181, 3) := dcX11_way_5.1
theorem dX11_way_74 : decode cX11_way 74 = .ok (.iastore, 1) := dcX11_way_5.2.1
theorem dX11_way_75 : decode cX11_way 75 = .ok (.aload_n 0, 1) := dcX11_way_5.2.2.1
theorem dX11_way_76 : decode cX11_way 76 = .ok (.getfield 77, 3) := dcX11_way_5.2.2.2.1
theorem dX11_way_79 : decode cX11_way 79 = .ok (.iload_n 3, 1) := dcX11_way_5.2.2.2.2.1
theorem dX11_way_80 : decode cX11_way 80 = .ok (.ldc 197, 2) := dcX11_way_5.2.2.2.2.2.1
theorem dX11_way_82 : decode cX11_way 82 = .ok (.iastore, 1) := dcX11_way_5.2.2.2.2.2.2.1
theorem dX11_way_83 : decode cX11_way 83 = .ok (.iinc 3 1, 3) := dcX11_way_5.2.2.2.2.2.2.2
theorem dcX11_way_6 : (decode cX11_way 86 = .ok (.goto (-46), 3)) ∧ (decode cX11_way 89 = .ok (.aload_n 0, 1)) ∧ (decode cX11_way 90 = .ok (.getfield 77, 3)) ∧ (decode cX11_way 93 = .ok (.iload_n 2, 1)) ∧ (decode cX11_way 94 = .ok (.bipush 100, 2)) ∧ (decode cX11_way 96 = .ok (.idiv, 1)) ∧ (decode cX11_way 97 = .ok (.aload_n 0, 1)) ∧ (decode cX11_way 98 = .ok (.getfield 73, 3)) := by decide +kernel
theorem dX11_way_86 : decode cX11_way 86 = .ok (.goto (-46), 3) := dcX11_way_6.1
theorem dX11_way_89 : decode cX11_way 89 = .ok (.aload_n 0, 1) := dcX11_way_6.2.1
theorem dX11_way_90 : decode cX11_way 90 = .ok (.getfield 77, 3) := dcX11_way_6.2.2.1
theorem dX11_way_93 : decode cX11_way 93 = .ok (.iload_n 2, 1) := dcX11_way_6.2.2.2.1
theorem dX11_way_94 : decode cX11_way 94 = .ok (.bipush 100, 2) := dcX11_way_6.2.2.2.2.1
theorem dX11_way_96 : decode cX11_way 96 = .ok (.idiv, 1) := dcX11_way_6.2.2.2.2.2.1
theorem dX11_way_97 : decode cX11_way 97 = .ok (.aload_n 0, 1) := dcX11_way_6.2.2.2.2.2.2.1
theorem dX11_way_98 : decode cX11_way 98 = .ok (.getfield 73, 3) := dcX11_way_6.2.2.2.2.2.2.2
theorem dcX11_way_7 : (decode cX11_way 101 = .ok (.iload_n 2, 1)) ∧ (decode cX11_way 102 = .ok (.bipush 100, 2)) ∧ (decode cX11_way 104 = .ok (.idiv, 1)) ∧ (decode cX11_way 105 = .ok (.iaload, 1)) ∧ (decode cX11_way 106 = .ok (.iastore, 1)) ∧ (decode cX11_way 107 = .ok (.iconst 0, 1)) ∧ (decode cX11_way 108 = .ok (.istore_n 3, 1)) ∧ (decode cX11_way 109 = .ok (.iload_n 3, 1)) := by decide +kernel
theorem dX11_way_101 : decode cX11_way 101 = .ok (.iload_n 2, 1) := dcX11_way_7.1
theorem dX11_way_102 : decode cX11_way 102 = .ok (.bipush 100, 2) := dcX11_way_7.2.1
theorem dX11_way_104 : decode cX11_way 104 = .ok (.idiv, 1) := dcX11_way_7.2.2.1
theorem dX11_way_105 : decode cX11_way 105 = .ok (.iaload, 1) := dcX11_way_7.2.2.2.1
theorem dX11_way_106 : decode cX11_way 106 = .ok (.iastore, 1) := dcX11_way_7.2.2.2.2.1
theorem dX11_way_107 : decode cX11_way 107 = .ok (.iconst 0, 1) := dcX11_way_7.2.2.2.2.2.1
theorem dX11_way_108 : decode cX11_way 108 = .ok (.istore_n 3, 1) := dcX11_way_7.2.2.2.2.2.2.1
theorem dX11_way_109 : decode cX11_way 109 = .ok (.iload_n 3, 1) := dcX11_way_7.2.2.2.2.2.2.2
theorem dcX11_way_8 : (decode cX11_way 110 = .ok (.bipush 16, 2)) ∧ (decode cX11_way 112 = .ok (.if_icmp .ge 56, 3)) ∧ (decode cX11_way 115 = .ok (.iconst 0, 1)) ∧ (decode cX11_way 116 = .ok (.istore 4, 2)) ∧ (decode cX11_way 118 = .ok (.iload 4, 2)) ∧ (decode cX11_way 120 = .ok (.bipush 16, 2)) ∧ (decode cX11_way 122 = .ok (.if_icmp .ge 40, 3)) ∧ (decode cX11_way 125 = .ok (.aload_n 0, 1)) := by decide +kernel
theorem dX11_way_110 : decode cX11_way 110 = .ok (.bipush 16, 2) := dcX11_way_8.1
theorem dX11_way_112 : decode cX11_way 112 = .ok (.if_icmp .ge 56, 3) := dcX11_way_8.2.1
theorem dX11_way_115 : decode cX11_way 115 = .ok (.iconst 0, 1) := dcX11_way_8.2.2.1
theorem dX11_way_116 : decode cX11_way 116 = .ok (.istore 4, 2) := dcX11_way_8.2.2.2.1
theorem dX11_way_118 : decode cX11_way 118 = .ok (.iload 4, 2) := dcX11_way_8.2.2.2.2.1
theorem dX11_way_120 : decode cX11_way 120 = .ok (.bipush 16, 2) := dcX11_way_8.2.2.2.2.2.1
theorem dX11_way_122 : decode cX11_way 122 = .ok (.if_icmp .ge 40, 3) := dcX11_way_8.2.2.2.2.2.2.1
theorem dX11_way_125 : decode cX11_way 125 = .ok (.aload_n 0, 1) := dcX11_way_8.2.2.2.2.2.2.2
theorem dcX11_way_9 : (decode cX11_way 126 = .ok (.getfield 77, 3)) ∧ (decode cX11_way 129 = .ok (.iload 4, 2)) ∧ (decode cX11_way 131 = .ok (.aload_n 0, 1)) ∧ (decode cX11_way 132 = .ok (.getfield 77, 3)) ∧ (decode cX11_way 135 = .ok (.iload 4, 2)) ∧ (decode cX11_way 137 = .ok (.iaload, 1)) ∧ (decode cX11_way 138 = .ok (.aload_n 0, 1)) ∧ (decode cX11_way 139 = .ok (.iload 4, 2)) := by decide +kernel
theorem dX11_way_126 : decode cX11_way 126 = .ok (.getfield 77, 3) := dcX11_way_9.1
theorem dX11_way_129 : decode cX11_way 129 = .ok (.iload 4, 2) := dcX11_way_9.2.1
theorem dX11_way_131 : decode cX11_way 131 = .ok (.aload_n 0, 1) := dcX11_way_9.2.2.1
theorem dX11_way_132 : decode cX11_way 132 = .ok (.getfield 77, 3) := dcX11_way_9.2.2.2.1
theorem dX11_way_135 : decode cX11_way 135 = .ok (.iload 4, 2) := dcX11_way_9.2.2.2.2.1
theorem dX11_way_137 : decode cX11_way 137 = .ok (.iaload, 1) := dcX11_way_9.2.2.2.2.2.1
theorem dX11_way_138 : decode cX11_way 138 = .ok (.aload_n 0, 1) := dcX11_way_9.2.2.2.2.2.2.1
theorem dX11_way_139 : decode cX11_way 139 = .ok (.iload 4, 2) := dcX11_way_9.2.2.2.2.2.2.2
theorem dcX11_way_10 : (decode cX11_way 141 = .ok (.invokevirtual 198, 3)) ∧ (decode cX11_way 144 = .ok (.aload_n 0, 1)) ∧ (decode cX11_way 145 = .ok (.getfield 73, 3)) ∧ (decode cX11_way 148 = .ok (.iload 4, 2)) ∧ (decode cX11_way 150 = .ok (.iaload, 1)) ∧ (decode cX11_way 151 = .ok (.iadd, 1)) ∧ (decode cX11_way 152 = .ok (.invokestatic 201, 3)) ∧ (decode cX11_way 155 = .ok (.iastore, 1)) := by decide +kernel
theorem dX11_way_141 : decode cX11_way 141 = .ok (.invokevirtual 198, 3) := dcX11_way_10.1
theorem dX11_way_144 : decode cX11_way 144 = .ok (.aload_n 0, 1) := dcX11_way_10.2.1
theorem dX11_way_145 : decode cX11_way 145 = .ok (.getfield 73, 3) := dcX11_way_10.2.2.1
theorem dX11_way_148 : decode cX11_way 148 = .ok (.iload 4, 2) := dcX11_way_10.2.2.2.1
theorem dX11_way_150 : decode cX11_way 150 = .ok (.iaload, 1) := dcX11_way_10.2.2.2.2.1
theorem dX11_way_151 : decode cX11_way 151 = .ok (.iadd, 1) := dcX11_way_10.2.2.2.2.2.1
theorem dX11_way_152 : decode cX11_way 152 = .ok (.invokestatic 201, 3) := dcX11_way_10.2.2.2.2.2.2.1
theorem dX11_way_155 : decode cX11_way 155 = .ok (.iastore, 1) := dcX11_way_10.2.2.2.2.2.2.2
theorem dcX11_way_11 : (decode cX11_way 156 = .ok (.iinc 4 1, 3)) ∧ (decode cX11_way 159 = .ok (.goto (-41), 3)) ∧ (decode cX11_way 162 = .ok (.iinc 3 1, 3)) ∧ (decode cX11_way 165 = .ok (.goto (-56), 3)) ∧ (decode cX11_way 168 = .ok (.aload_n 0, 1)) ∧ (decode cX11_way 169 = .ok (.getfield 77, 3)) ∧ (decode cX11_way 172 = .ok (.iload_n 2, 1)) ∧ (decode cX11_way 173 = .ok (.bipush 100, 2)) := by decide +kernel
theorem dX11_way_156 : decode cX11_way 156 = .ok (.iinc 4 1, 3) := dcX11_way_11.1
theorem dX11_way_159 : decode cX11_way 159 = .ok (.goto (-41), 3) := dcX11_way_11.2.1
theorem dX11_way_162 : decode cX11_way 162 = .ok (.iinc 3 1, 3) := dcX11_way_11.2.2.1
theorem dX11_way_165 : decode cX11_way 165 = .ok (.goto (-56), 3) := dcX11_way_11.2.2.2.1
theorem dX11_way_168 : decode cX11_way 168 = .ok (.aload_n 0, 1) := dcX11_way_11.2.2.2.2.1
theorem dX11_way_169 : decode cX11_way 169 = .ok (.getfield 77, 3) := dcX11_way_11.2.2.2.2.2.1
theorem dX11_way_172 : decode cX11_way 172 = .ok (.iload_n 2, 1) := dcX11_way_11.2.2.2.2.2.2.1
theorem dX11_way_173 : decode cX11_way 173 = .ok (.bipush 100, 2) := dcX11_way_11.2.2.2.2.2.2.2
theorem dcX11_way_12 : (decode cX11_way 175 = .ok (.irem, 1)) ∧ (decode cX11_way 176 = .ok (.iaload, 1)) ∧ (decode cX11_way 177 = .ok (.ireturn, 1)) := by decide +kernel
theorem dX11_way_175 : decode cX11_way 175 = .ok (.irem, 1) := dcX11_way_12.1
theorem dX11_way_176 : decode cX11_way 176 = .ok (.iaload, 1) := dcX11_way_12.2.1
theorem dX11_way_177 : decode cX11_way 177 = .ok (.ireturn, 1) := dcX11_way_12.2.2
theorem dcX11_often_0 : (decode cX11_often 0 = .ok (.aload_n 0, 1)) ∧ (decode cX11_often 1 = .ok (.iload_n 1, 1)) ∧ (decode cX11_often 2 = .ok (.invokevirtual 125, 3)) ∧ (decode cX11_often 5 = .ok (.ifCond .ne 6, 3)) ∧ (decode cX11_often 8 = .ok (.bipush (-5), 2)) ∧ (decode cX11_often 10 = .ok (.ireturn, 1)) ∧ (decode cX11_often 11 = .ok (.bipush 9, 2)) ∧ (decode cX11_often 13 = .ok (.istore_n 2, 1)) := by decide +kernel
theorem dX11_often_0 : decode cX11_often 0 = .ok (.aload_n 0, 1) := dcX11_often_0.1
theorem dX11_often_1 : decode cX11_often 1 = .ok (.iload_n 1, 1) := dcX11_often_0.2.1
theorem dX11_often_2 : decode cX11_often 2 = .ok (.invokevirtual 125, 3) := dcX11_often_0.2.2.1
theorem dX11_often_5 : decode cX11_often 5 = .ok (.ifCond .ne 6, 3) := dcX11_often_0.2.2.2.1
theorem dX11_often_8 : decode cX11_often 8 = .ok (.bipush (-5), 2) := dcX11_often_0.2.2.2.2.1
theorem dX11_often_10 : decode cX11_often 10 = .ok (.ireturn, 1) := dcX11_often_0.2.2.2.2.2.1
theorem dX11_often_11 : decode cX11_often 11 = .ok (.bipush 9, 2) := dcX11_often_0.2.2.2.2.2.2.1
theorem dX11_often_13 : decode cX11_often 13 = .ok (.istore_n 2, 1) := dcX11_often_0.2.2.2.2.2.2.2
theorem dcX11_often_1 : (decode cX11_often 14 = .ok (.iload_n 2, 1)) ∧ (decode cX11_often 15 = .ok (.iconst 1, 1)) ∧ (decode cX11_often 16 = .ok (.if_icmp .lt 20, 3)) ∧ (decode cX11_often 19 = .ok (.aload_n 0, 1)) ∧ (decode cX11_often 20 = .ok (.iload_n 1, 1)) ∧ (decode cX11_often 21 = .ok (.iload_n 2, 1)) ∧ (decode cX11_often 22 = .ok (.invokevirtual 204, 3)) ∧ (decode cX11_often 25 = .ok (.ifCond .eq 5, 3)) := by decide +kernel
theorem dX11_often_14 : decode cX11_often 14 = .ok (.iload_n 2, 1) := dcX11_often_1.1
theorem dX11_often_15 : decode cX11_often 15 = .ok (.iconst 1, 1) := dcX11_often_1.2.1
theorem dX11_often_16 : decode cX11_often 16 = .ok (.if_icmp .lt 20, 3) := dcX11_often_1.2.2.1
theorem dX11_often_19 : decode cX11_often 19 = .ok (.aload_n 0, 1) := dcX11_often_1.2.2.2.1
theorem dX11_often_20 : decode cX11_often 20 = .ok (.iload_n 1, 1) := dcX11_often_1.2.2.2.2.1
theorem dX11_often_21 : decode cX11_often 21 = .ok (.iload_n 2, 1) := dcX11_often_1.2.2.2.2.2.1
theorem dX11_often_22 : decode cX11_often 22 = .ok (.invokevirtual 204, 3) := dcX11_often_1.2.2.2.2.2.2.1
theorem dX11_often_25 : decode cX11_often 25 = .ok (.ifCond .eq 5, 3) := dcX11_often_1.2.2.2.2.2.2.2
theorem dcX11_often_2 : (decode cX11_often 28 = .ok (.iload_n 2, 1)) ∧ (decode cX11_often 29 = .ok (.ireturn, 1)) ∧ (decode cX11_often 30 = .ok (.iinc 2 (-1), 3)) ∧ (decode cX11_often 33 = .ok (.goto (-19), 3)) ∧ (decode cX11_often 36 = .ok (.iconst (-1), 1)) ∧ (decode cX11_often 37 = .ok (.ireturn, 1)) := by decide +kernel
theorem dX11_often_28 : decode cX11_often 28 = .ok (.iload_n 2, 1) := dcX11_often_2.1
theorem dX11_often_29 : decode cX11_often 29 = .ok (.ireturn, 1) := dcX11_often_2.2.1
theorem dX11_often_30 : decode cX11_often 30 = .ok (.iinc 2 (-1), 3) := dcX11_often_2.2.2.1
theorem dX11_often_33 : decode cX11_often 33 = .ok (.goto (-19), 3) := dcX11_often_2.2.2.2.1
theorem dX11_often_36 : decode cX11_often 36 = .ok (.iconst (-1), 1) := dcX11_often_2.2.2.2.2.1
theorem dX11_often_37 : decode cX11_often 37 = .ok (.ireturn, 1) := dcX11_often_2.2.2.2.2.2
theorem dcX11_joins_0 : (decode cX11_joins 0 = .ok (.iload_n 1, 1)) ∧ (decode cX11_joins 1 = .ok (.bipush 10, 2)) ∧ (decode cX11_joins 3 = .ok (.idiv, 1)) ∧ (decode cX11_joins 4 = .ok (.istore_n 3, 1)) ∧ (decode cX11_joins 5 = .ok (.iload_n 1, 1)) ∧ (decode cX11_joins 6 = .ok (.bipush 10, 2)) ∧ (decode cX11_joins 8 = .ok (.irem, 1)) ∧ (decode cX11_joins 9 = .ok (.istore 4, 2)) := by decide +kernel
theorem dX11_joins_0 : decode cX11_joins 0 = .ok (.iload_n 1, 1) := dcX11_joins_0.1
theorem dX11_joins_1 : decode cX11_joins 1 = .ok (.bipush 10, 2) := dcX11_joins_0.2.1
theorem dX11_joins_3 : decode cX11_joins 3 = .ok (.idiv, 1) := dcX11_joins_0.2.2.1
theorem dX11_joins_4 : decode cX11_joins 4 = .ok (.istore_n 3, 1) := dcX11_joins_0.2.2.2.1
theorem dX11_joins_5 : decode cX11_joins 5 = .ok (.iload_n 1, 1) := dcX11_joins_0.2.2.2.2.1
theorem dX11_joins_6 : decode cX11_joins 6 = .ok (.bipush 10, 2) := dcX11_joins_0.2.2.2.2.2.1
theorem dX11_joins_8 : decode cX11_joins 8 = .ok (.irem, 1) := dcX11_joins_0.2.2.2.2.2.2.1
theorem dX11_joins_9 : decode cX11_joins 9 = .ok (.istore 4, 2) := dcX11_joins_0.2.2.2.2.2.2.2
theorem dcX11_joins_1 : (decode cX11_joins 11 = .ok (.aload_n 0, 1)) ∧ (decode cX11_joins 12 = .ok (.iload_n 3, 1)) ∧ (decode cX11_joins 13 = .ok (.invokevirtual 125, 3)) ∧ (decode cX11_joins 16 = .ok (.ifCond .eq 18, 3)) ∧ (decode cX11_joins 19 = .ok (.aload_n 0, 1)) ∧ (decode cX11_joins 20 = .ok (.iload 4, 2)) ∧ (decode cX11_joins 22 = .ok (.invokevirtual 125, 3)) ∧ (decode cX11_joins 25 = .ok (.ifCond .eq 9, 3)) := by decide +kernel
theorem dX11_joins_11 : decode cX11_joins 11 = .ok (.aload_n 0, 1) := dcX11_joins_1.1
theorem dX11_joins_12 : decode cX11_joins 12 = .ok (.iload_n 3, 1) := dcX11_joins_1.2.1
theorem dX11_joins_13 : decode cX11_joins 13 = .ok (.invokevirtual 125, 3) := dcX11_joins_1.2.2.1
theorem dX11_joins_16 : decode cX11_joins 16 = .ok (.ifCond .eq 18, 3) := dcX11_joins_1.2.2.2.1
theorem dX11_joins_19 : decode cX11_joins 19 = .ok (.aload_n 0, 1) := dcX11_joins_1.2.2.2.2.1
theorem dX11_joins_20 : decode cX11_joins 20 = .ok (.iload 4, 2) := dcX11_joins_1.2.2.2.2.2.1
theorem dX11_joins_22 : decode cX11_joins 22 = .ok (.invokevirtual 125, 3) := dcX11_joins_1.2.2.2.2.2.2.1
theorem dX11_joins_25 : decode cX11_joins 25 = .ok (.ifCond .eq 9, 3) := dcX11_joins_1.2.2.2.2.2.2.2
theorem dcX11_joins_2 : (decode cX11_joins 28 = .ok (.iload_n 3, 1)) ∧ (decode cX11_joins 29 = .ok (.iload 4, 2)) ∧ (decode cX11_joins 31 = .ok (.if_icmp .ne 6, 3)) ∧ (decode cX11_joins 34 = .ok (.bipush (-5), 2)) ∧ (decode cX11_joins 36 = .ok (.ireturn, 1)) ∧ (decode cX11_joins 37 = .ok (.iload_n 2, 1)) ∧ (decode cX11_joins 38 = .ok (.iconst 1, 1)) ∧ (decode cX11_joins 39 = .ok (.invokestatic 107, 3)) := by decide +kernel
theorem dX11_joins_28 : decode cX11_joins 28 = .ok (.iload_n 3, 1) := dcX11_joins_2.1
theorem dX11_joins_29 : decode cX11_joins 29 = .ok (.iload 4, 2) := dcX11_joins_2.2.1
theorem dX11_joins_31 : decode cX11_joins 31 = .ok (.if_icmp .ne 6, 3) := dcX11_joins_2.2.2.1
theorem dX11_joins_34 : decode cX11_joins 34 = .ok (.bipush (-5), 2) := dcX11_joins_2.2.2.2.1
theorem dX11_joins_36 : decode cX11_joins 36 = .ok (.ireturn, 1) := dcX11_joins_2.2.2.2.2.1
theorem dX11_joins_37 : decode cX11_joins 37 = .ok (.iload_n 2, 1) := dcX11_joins_2.2.2.2.2.2.1
theorem dX11_joins_38 : decode cX11_joins 38 = .ok (.iconst 1, 1) := dcX11_joins_2.2.2.2.2.2.2.1
theorem dX11_joins_39 : decode cX11_joins 39 = .ok (.invokestatic 107, 3) := dcX11_joins_2.2.2.2.2.2.2.2
theorem dcX11_joins_3 : (decode cX11_joins 42 = .ok (.ifCond .ne 6, 3)) ∧ (decode cX11_joins 45 = .ok (.bipush (-7), 2)) ∧ (decode cX11_joins 47 = .ok (.ireturn, 1)) ∧ (decode cX11_joins 48 = .ok (.aload_n 0, 1)) ∧ (decode cX11_joins 49 = .ok (.getfield 37, 3)) ∧ (decode cX11_joins 52 = .ok (.iload_n 3, 1)) ∧ (decode cX11_joins 53 = .ok (.aaload, 1)) ∧ (decode cX11_joins 54 = .ok (.aload_n 0, 1)) := by decide +kernel
theorem dX11_joins_42 : decode cX11_joins 42 = .ok (.ifCond .ne 6, 3) := dcX11_joins_3.1
theorem dX11_joins_45 : decode cX11_joins 45 = .ok (.bipush (-7), 2) := dcX11_joins_3.2.1
