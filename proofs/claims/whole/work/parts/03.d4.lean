theorem dX12_unlike_40 : decode cX12_unlike 40 = .ok (.if_icmp .eq 5, 3) := dcX12_unlike_3.2.2.2.1
theorem dX12_unlike_43 : decode cX12_unlike 43 = .ok (.iload_n 3, 1) := dcX12_unlike_3.2.2.2.2.1
theorem dX12_unlike_44 : decode cX12_unlike 44 = .ok (.ireturn, 1) := dcX12_unlike_3.2.2.2.2.2.1
theorem dX12_unlike_45 : decode cX12_unlike 45 = .ok (.aload_n 0, 1) := dcX12_unlike_3.2.2.2.2.2.2.1
theorem dX12_unlike_46 : decode cX12_unlike 46 = .ok (.iload_n 2, 1) := dcX12_unlike_3.2.2.2.2.2.2.2
theorem dcX12_unlike_4 : (decode cX12_unlike 47 = .ok (.invokevirtual 228, 3)) ∧ (decode cX12_unlike 50 = .ok (.iinc 3 1, 3)) ∧ (decode cX12_unlike 53 = .ok (.goto (-46), 3)) ∧ (decode cX12_unlike 56 = .ok (.iconst (-1), 1)) ∧ (decode cX12_unlike 57 = .ok (.ireturn, 1)) := by decide +kernel
theorem dX12_unlike_47 : decode cX12_unlike 47 = .ok (.invokevirtual 228, 3) := dcX12_unlike_4.1
theorem dX12_unlike_50 : decode cX12_unlike 50 = .ok (.iinc 3 1, 3) := dcX12_unlike_4.2.1
theorem dX12_unlike_53 : decode cX12_unlike 53 = .ok (.goto (-46), 3) := dcX12_unlike_4.2.2.1
theorem dX12_unlike_56 : decode cX12_unlike 56 = .ok (.iconst (-1), 1) := dcX12_unlike_4.2.2.2.1
theorem dX12_unlike_57 : decode cX12_unlike 57 = .ok (.ireturn, 1) := dcX12_unlike_4.2.2.2.2
theorem dcX12_judge_0 : (decode cX12_judge 0 = .ok (.aload_n 0, 1)) ∧ (decode cX12_judge 1 = .ok (.iload_n 1, 1)) ∧ (decode cX12_judge 2 = .ok (.iload_n 2, 1)) ∧ (decode cX12_judge 3 = .ok (.invokevirtual 260, 3)) ∧ (decode cX12_judge 6 = .ok (.istore_n 3, 1)) ∧ (decode cX12_judge 7 = .ok (.iload_n 3, 1)) ∧ (decode cX12_judge 8 = .ok (.ifCond .ne 12, 3)) ∧ (decode cX12_judge 11 = .ok (.aload_n 0, 1)) := by decide +kernel
theorem dX12_judge_0 : decode cX12_judge 0 = .ok (.aload_n 0, 1) := dcX12_judge_0.1
theorem dX12_judge_1 : decode cX12_judge 1 = .ok (.iload_n 1, 1) := dcX12_judge_0.2.1
theorem dX12_judge_2 : decode cX12_judge 2 = .ok (.iload_n 2, 1) := dcX12_judge_0.2.2.1
theorem dX12_judge_3 : decode cX12_judge 3 = .ok (.invokevirtual 260, 3) := dcX12_judge_0.2.2.2.1
theorem dX12_judge_6 : decode cX12_judge 6 = .ok (.istore_n 3, 1) := dcX12_judge_0.2.2.2.2.1
theorem dX12_judge_7 : decode cX12_judge 7 = .ok (.iload_n 3, 1) := dcX12_judge_0.2.2.2.2.2.1
theorem dX12_judge_8 : decode cX12_judge 8 = .ok (.ifCond .ne 12, 3) := dcX12_judge_0.2.2.2.2.2.2.1
theorem dX12_judge_11 : decode cX12_judge 11 = .ok (.aload_n 0, 1) := dcX12_judge_0.2.2.2.2.2.2.2
theorem dcX12_judge_1 : (decode cX12_judge 12 = .ok (.iload_n 1, 1)) ∧ (decode cX12_judge 13 = .ok (.iload_n 2, 1)) ∧ (decode cX12_judge 14 = .ok (.invokevirtual 263, 3)) ∧ (decode cX12_judge 17 = .ok (.goto 4, 3)) ∧ (decode cX12_judge 20 = .ok (.iload_n 3, 1)) ∧ (decode cX12_judge 21 = .ok (.ireturn, 1)) := by decide +kernel
theorem dX12_judge_12 : decode cX12_judge 12 = .ok (.iload_n 1, 1) := dcX12_judge_1.1
theorem dX12_judge_13 : decode cX12_judge 13 = .ok (.iload_n 2, 1) := dcX12_judge_1.2.1
theorem dX12_judge_14 : decode cX12_judge 14 = .ok (.invokevirtual 263, 3) := dcX12_judge_1.2.2.1
theorem dX12_judge_17 : decode cX12_judge 17 = .ok (.goto 4, 3) := dcX12_judge_1.2.2.2.1
theorem dX12_judge_20 : decode cX12_judge 20 = .ok (.iload_n 3, 1) := dcX12_judge_1.2.2.2.2.1
theorem dX12_judge_21 : decode cX12_judge 21 = .ok (.ireturn, 1) := dcX12_judge_1.2.2.2.2.2
theorem dcX12_kinds_0 : (decode cX12_kinds 0 = .ok (.aload_n 0, 1)) ∧ (decode cX12_kinds 1 = .ok (.iload_n 1, 1)) ∧ (decode cX12_kinds 2 = .ok (.iload_n 2, 1)) ∧ (decode cX12_kinds 3 = .ok (.invokevirtual 260, 3)) ∧ (decode cX12_kinds 6 = .ok (.istore 4, 2)) ∧ (decode cX12_kinds 8 = .ok (.iload 4, 2)) ∧ (decode cX12_kinds 10 = .ok (.ifCond .eq 6, 3)) ∧ (decode cX12_kinds 13 = .ok (.iload 4, 2)) := by decide +kernel
theorem dX12_kinds_0 : decode cX12_kinds 0 = .ok (.aload_n 0, 1) := dcX12_kinds_0.1
theorem dX12_kinds_1 : decode cX12_kinds 1 = .ok (.iload_n 1, 1) := dcX12_kinds_0.2.1
theorem dX12_kinds_2 : decode cX12_kinds 2 = .ok (.iload_n 2, 1) := dcX12_kinds_0.2.2.1
theorem dX12_kinds_3 : decode cX12_kinds 3 = .ok (.invokevirtual 260, 3) := dcX12_kinds_0.2.2.2.1
theorem dX12_kinds_6 : decode cX12_kinds 6 = .ok (.istore 4, 2) := dcX12_kinds_0.2.2.2.2.1
theorem dX12_kinds_8 : decode cX12_kinds 8 = .ok (.iload 4, 2) := dcX12_kinds_0.2.2.2.2.2.1
theorem dX12_kinds_10 : decode cX12_kinds 10 = .ok (.ifCond .eq 6, 3) := dcX12_kinds_0.2.2.2.2.2.2.1
theorem dX12_kinds_13 : decode cX12_kinds 13 = .ok (.iload 4, 2) := dcX12_kinds_0.2.2.2.2.2.2.2
theorem dcX12_kinds_1 : (decode cX12_kinds 15 = .ok (.ireturn, 1)) ∧ (decode cX12_kinds 16 = .ok (.iload_n 3, 1)) ∧ (decode cX12_kinds 17 = .ok (.iconst 0, 1)) ∧ (decode cX12_kinds 18 = .ok (.iconst 1, 1)) ∧ (decode cX12_kinds 19 = .ok (.invokestatic 93, 3)) ∧ (decode cX12_kinds 22 = .ok (.ifCond .ne 6, 3)) ∧ (decode cX12_kinds 25 = .ok (.bipush (-7), 2)) ∧ (decode cX12_kinds 27 = .ok (.ireturn, 1)) := by decide +kernel
theorem dX12_kinds_15 : decode cX12_kinds 15 = .ok (.ireturn, 1) := dcX12_kinds_1.1
theorem dX12_kinds_16 : decode cX12_kinds 16 = .ok (.iload_n 3, 1) := dcX12_kinds_1.2.1
theorem dX12_kinds_17 : decode cX12_kinds 17 = .ok (.iconst 0, 1) := dcX12_kinds_1.2.2.1
theorem dX12_kinds_18 : decode cX12_kinds 18 = .ok (.iconst 1, 1) := dcX12_kinds_1.2.2.2.1
theorem dX12_kinds_19 : decode cX12_kinds 19 = .ok (.invokestatic 93, 3) := dcX12_kinds_1.2.2.2.2.1
theorem dX12_kinds_22 : decode cX12_kinds 22 = .ok (.ifCond .ne 6, 3) := dcX12_kinds_1.2.2.2.2.2.1
theorem dX12_kinds_25 : decode cX12_kinds 25 = .ok (.bipush (-7), 2) := dcX12_kinds_1.2.2.2.2.2.2.1
theorem dX12_kinds_27 : decode cX12_kinds 27 = .ok (.ireturn, 1) := dcX12_kinds_1.2.2.2.2.2.2.2
theorem dcX12_kinds_2 : (decode cX12_kinds 28 = .ok (.aload_n 0, 1)) ∧ (decode cX12_kinds 29 = .ok (.getfield 7, 3)) ∧ (decode cX12_kinds 32 = .ok (.iload_n 2, 1)) ∧ (decode cX12_kinds 33 = .ok (.iaload, 1)) ∧ (decode cX12_kinds 34 = .ok (.istore 5, 2)) ∧ (decode cX12_kinds 36 = .ok (.aload_n 0, 1)) ∧ (decode cX12_kinds 37 = .ok (.getfield 13, 3)) ∧ (decode cX12_kinds 40 = .ok (.iload_n 2, 1)) := by decide +kernel
theorem dX12_kinds_28 : decode cX12_kinds 28 = .ok (.aload_n 0, 1) := dcX12_kinds_2.1
theorem dX12_kinds_29 : decode cX12_kinds 29 = .ok (.getfield 7, 3) := dcX12_kinds_2.2.1
theorem dX12_kinds_32 : decode cX12_kinds 32 = .ok (.iload_n 2, 1) := dcX12_kinds_2.2.2.1
theorem dX12_kinds_33 : decode cX12_kinds 33 = .ok (.iaload, 1) := dcX12_kinds_2.2.2.2.1
theorem dX12_kinds_34 : decode cX12_kinds 34 = .ok (.istore 5, 2) := dcX12_kinds_2.2.2.2.2.1
theorem dX12_kinds_36 : decode cX12_kinds 36 = .ok (.aload_n 0, 1) := dcX12_kinds_2.2.2.2.2.2.1
theorem dX12_kinds_37 : decode cX12_kinds 37 = .ok (.getfield 13, 3) := dcX12_kinds_2.2.2.2.2.2.2.1
theorem dX12_kinds_40 : decode cX12_kinds 40 = .ok (.iload_n 2, 1) := dcX12_kinds_2.2.2.2.2.2.2.2
theorem dcX12_kinds_3 : (decode cX12_kinds 41 = .ok (.iaload, 1)) ∧ (decode cX12_kinds 42 = .ok (.istore 6, 2)) ∧ (decode cX12_kinds 44 = .ok (.iconst 0, 1)) ∧ (decode cX12_kinds 45 = .ok (.istore 7, 2)) ∧ (decode cX12_kinds 47 = .ok (.iconst 0, 1)) ∧ (decode cX12_kinds 48 = .ok (.istore 8, 2)) ∧ (decode cX12_kinds 50 = .ok (.iload 8, 2)) ∧ (decode cX12_kinds 52 = .ok (.iload_n 3, 1)) := by decide +kernel
theorem dX12_kinds_41 : decode cX12_kinds 41 = .ok (.iaload, 1) := dcX12_kinds_3.1
theorem dX12_kinds_42 : decode cX12_kinds 42 = .ok (.istore 6, 2) := dcX12_kinds_3.2.1
theorem dX12_kinds_44 : decode cX12_kinds 44 = .ok (.iconst 0, 1) := dcX12_kinds_3.2.2.1
theorem dX12_kinds_45 : decode cX12_kinds 45 = .ok (.istore 7, 2) := dcX12_kinds_3.2.2.2.1
theorem dX12_kinds_47 : decode cX12_kinds 47 = .ok (.iconst 0, 1) := dcX12_kinds_3.2.2.2.2.1
theorem dX12_kinds_48 : decode cX12_kinds 48 = .ok (.istore 8, 2) := dcX12_kinds_3.2.2.2.2.2.1
theorem dX12_kinds_50 : decode cX12_kinds 50 = .ok (.iload 8, 2) := dcX12_kinds_3.2.2.2.2.2.2.1
theorem dX12_kinds_52 : decode cX12_kinds 52 = .ok (.iload_n 3, 1) := dcX12_kinds_3.2.2.2.2.2.2.2
theorem dcX12_kinds_4 : (decode cX12_kinds 53 = .ok (.ifCond .ne 8, 3)) ∧ (decode cX12_kinds 56 = .ok (.bipush 6, 2)) ∧ (decode cX12_kinds 58 = .ok (.goto 5, 3)) ∧ (decode cX12_kinds 61 = .ok (.bipush 10, 2)) ∧ (decode cX12_kinds 63 = .ok (.if_icmp .ge 67, 3)) ∧ (decode cX12_kinds 66 = .ok (.aload_n 0, 1)) ∧ (decode cX12_kinds 67 = .ok (.getfield 7, 3)) ∧ (decode cX12_kinds 70 = .ok (.iload_n 2, 1)) := by decide +kernel
theorem dX12_kinds_53 : decode cX12_kinds 53 = .ok (.ifCond .ne 8, 3) := dcX12_kinds_4.1
theorem dX12_kinds_56 : decode cX12_kinds 56 = .ok (.bipush 6, 2) := dcX12_kinds_4.2.1
theorem dX12_kinds_58 : decode cX12_kinds 58 = .ok (.goto 5, 3) := dcX12_kinds_4.2.2.1
theorem dX12_kinds_61 : decode cX12_kinds 61 = .ok (.bipush 10, 2) := dcX12_kinds_4.2.2.2.1
theorem dX12_kinds_63 : decode cX12_kinds 63 = .ok (.if_icmp .ge 67, 3) := dcX12_kinds_4.2.2.2.2.1
theorem dX12_kinds_66 : decode cX12_kinds 66 = .ok (.aload_n 0, 1) := dcX12_kinds_4.2.2.2.2.2.1
theorem dX12_kinds_67 : decode cX12_kinds 67 = .ok (.getfield 7, 3) := dcX12_kinds_4.2.2.2.2.2.2.1
theorem dX12_kinds_70 : decode cX12_kinds 70 = .ok (.iload_n 2, 1) := dcX12_kinds_4.2.2.2.2.2.2.2
theorem dcX12_kinds_5 : (decode cX12_kinds 71 = .ok (.iload_n 3, 1)) ∧ (decode cX12_kinds 72 = .ok (.ifCond .ne 8, 3)) ∧ (decode cX12_kinds 75 = .ok (.iload 8, 2)) ∧ (decode cX12_kinds 77 = .ok (.goto 5, 3)) ∧ (decode cX12_kinds 80 = .ok (.iload 5, 2)) ∧ (decode cX12_kinds 82 = .ok (.iastore, 1)) ∧ (decode cX12_kinds 83 = .ok (.aload_n 0, 1)) ∧ (decode cX12_kinds 84 = .ok (.getfield 13, 3)) := by decide +kernel
theorem dX12_kinds_71 : decode cX12_kinds 71 = .ok (.iload_n 3, 1) := dcX12_kinds_5.1
theorem dX12_kinds_72 : decode cX12_kinds 72 = .ok (.ifCond .ne 8, 3) := dcX12_kinds_5.2.1
theorem dX12_kinds_75 : decode cX12_kinds 75 = .ok (.iload 8, 2) := dcX12_kinds_5.2.2.1
theorem dX12_kinds_77 : decode cX12_kinds 77 = .ok (.goto 5, 3) := dcX12_kinds_5.2.2.2.1
theorem dX12_kinds_80 : decode cX12_kinds 80 = .ok (.iload 5, 2) := dcX12_kinds_5.2.2.2.2.1
theorem dX12_kinds_82 : decode cX12_kinds 82 = .ok (.iastore, 1) := dcX12_kinds_5.2.2.2.2.2.1
theorem dX12_kinds_83 : decode cX12_kinds 83 = .ok (.aload_n 0, 1) := dcX12_kinds_5.2.2.2.2.2.2.1
theorem dX12_kinds_84 : decode cX12_kinds 84 = .ok (.getfield 13, 3) := dcX12_kinds_5.2.2.2.2.2.2.2
theorem dcX12_kinds_6 : (decode cX12_kinds 87 = .ok (.iload_n 2, 1)) ∧ (decode cX12_kinds 88 = .ok (.iload_n 3, 1)) ∧ (decode cX12_kinds 89 = .ok (.iconst 1, 1)) ∧ (decode cX12_kinds 90 = .ok (.if_icmp .ne 8, 3)) ∧ (decode cX12_kinds 93 = .ok (.iload 8, 2)) ∧ (decode cX12_kinds 95 = .ok (.goto 5, 3)) ∧ (decode cX12_kinds 98 = .ok (.iload 6, 2)) ∧ (decode cX12_kinds 100 = .ok (.iastore, 1)) := by decide +kernel
theorem dX12_kinds_87 : decode cX12_kinds 87 = .ok (.iload_n 2, 1) := dcX12_kinds_6.1
theorem dX12_kinds_88 : decode cX12_kinds 88 = .ok (.iload_n 3, 1) := dcX12_kinds_6.2.1
theorem dX12_kinds_89 : decode cX12_kinds 89 = .ok (.iconst 1, 1) := dcX12_kinds_6.2.2.1
theorem dX12_kinds_90 : decode cX12_kinds 90 = .ok (.if_icmp .ne 8, 3) := dcX12_kinds_6.2.2.2.1
theorem dX12_kinds_93 : decode cX12_kinds 93 = .ok (.iload 8, 2) := dcX12_kinds_6.2.2.2.2.1
theorem dX12_kinds_95 : decode cX12_kinds 95 = .ok (.goto 5, 3) := dcX12_kinds_6.2.2.2.2.2.1
theorem dX12_kinds_98 : decode cX12_kinds 98 = .ok (.iload 6, 2) := dcX12_kinds_6.2.2.2.2.2.2.1
theorem dX12_kinds_100 : decode cX12_kinds 100 = .ok (.iastore, 1) := dcX12_kinds_6.2.2.2.2.2.2.2
theorem dcX12_kinds_7 : (decode cX12_kinds 101 = .ok (.iload 7, 2)) ∧ (decode cX12_kinds 103 = .ok (.aload_n 0, 1)) ∧ (decode cX12_kinds 104 = .ok (.iload_n 1, 1)) ∧ (decode cX12_kinds 105 = .ok (.iload_n 2, 1)) ∧ (decode cX12_kinds 106 = .ok (.invokevirtual 263, 3)) ∧ (decode cX12_kinds 109 = .ok (.iconst (-1), 1)) ∧ (decode cX12_kinds 110 = .ok (.if_icmp .ne 10, 3)) ∧ (decode cX12_kinds 113 = .ok (.iconst 1, 1)) := by decide +kernel
theorem dX12_kinds_101 : decode cX12_kinds 101 = .ok (.iload 7, 2) := dcX12_kinds_7.1
theorem dX12_kinds_103 : decode cX12_kinds 103 = .ok (.aload_n 0, 1) := dcX12_kinds_7.2.1
theorem dX12_kinds_104 : decode cX12_kinds 104 = .ok (.iload_n 1, 1) := dcX12_kinds_7.2.2.1
theorem dX12_kinds_105 : decode cX12_kinds 105 = .ok (.iload_n 2, 1) := dcX12_kinds_7.2.2.2.1
theorem dX12_kinds_106 : decode cX12_kinds 106 = .ok (.invokevirtual 263, 3) := dcX12_kinds_7.2.2.2.2.1
theorem dX12_kinds_109 : decode cX12_kinds 109 = .ok (.iconst (-1), 1) := dcX12_kinds_7.2.2.2.2.2.1
theorem dX12_kinds_110 : decode cX12_kinds 110 = .ok (.if_icmp .ne 10, 3) := dcX12_kinds_7.2.2.2.2.2.2.1
theorem dX12_kinds_113 : decode cX12_kinds 113 = .ok (.iconst 1, 1) := dcX12_kinds_7.2.2.2.2.2.2.2
theorem dcX12_kinds_8 : (decode cX12_kinds 114 = .ok (.iload 8, 2)) ∧ (decode cX12_kinds 116 = .ok (.ishl, 1)) ∧ (decode cX12_kinds 117 = .ok (.goto 4, 3)) ∧ (decode cX12_kinds 120 = .ok (.iconst 0, 1)) ∧ (decode cX12_kinds 121 = .ok (.ior, 1)) ∧ (decode cX12_kinds 122 = .ok (.istore 7, 2)) ∧ (decode cX12_kinds 124 = .ok (.iinc 8 1, 3)) ∧ (decode cX12_kinds 127 = .ok (.goto (-77), 3)) := by decide +kernel
theorem dX12_kinds_114 : decode cX12_kinds 114 = .ok (.iload 8, 2) := dcX12_kinds_8.1
theorem dX12_kinds_116 : decode cX12_kinds 116 = .ok (.ishl, 1) := dcX12_kinds_8.2.1
theorem dX12_kinds_117 : decode cX12_kinds 117 = .ok (.goto 4, 3) := dcX12_kinds_8.2.2.1
theorem dX12_kinds_120 : decode cX12_kinds 120 = .ok (.iconst 0, 1) := dcX12_kinds_8.2.2.2.1
theorem dX12_kinds_121 : decode cX12_kinds 121 = .ok (.ior, 1) := dcX12_kinds_8.2.2.2.2.1
theorem dX12_kinds_122 : decode cX12_kinds 122 = .ok (.istore 7, 2) := dcX12_kinds_8.2.2.2.2.2.1
theorem dX12_kinds_124 : decode cX12_kinds 124 = .ok (.iinc 8 1, 3) := dcX12_kinds_8.2.2.2.2.2.2.1
theorem dX12_kinds_127 : decode cX12_kinds 127 = .ok (.goto (-77), 3) := dcX12_kinds_8.2.2.2.2.2.2.2
theorem dcX12_kinds_9 : (decode cX12_kinds 130 = .ok (.aload_n 0, 1)) ∧ (decode cX12_kinds 131 = .ok (.getfield 7, 3)) ∧ (decode cX12_kinds 134 = .ok (.iload_n 2, 1)) ∧ (decode cX12_kinds 135 = .ok (.iload 5, 2)) ∧ (decode cX12_kinds 137 = .ok (.iastore, 1)) ∧ (decode cX12_kinds 138 = .ok (.aload_n 0, 1)) ∧ (decode cX12_kinds 139 = .ok (.getfield 13, 3)) ∧ (decode cX12_kinds 142 = .ok (.iload_n 2, 1)) := by decide +kernel
theorem dX12_kinds_130 : decode cX12_kinds 130 = .ok (.aload_n 0, 1) := dcX12_kinds_9.1
theorem dX12_kinds_131 : decode cX12_kinds 131 = .ok (.getfield 7, 3) := dcX12_kinds_9.2.1
theorem dX12_kinds_134 : decode cX12_kinds 134 = .ok (.iload_n 2, 1) := dcX12_kinds_9.2.2.1
theorem dX12_kinds_135 : decode cX12_kinds 135 = .ok (.iload 5, 2) := dcX12_kinds_9.2.2.2.1
theorem dX12_kinds_137 : decode cX12_kinds 137 = .ok (.iastore, 1) := dcX12_kinds_9.2.2.2.2.1
theorem dX12_kinds_138 : decode cX12_kinds 138 = .ok (.aload_n 0, 1) := dcX12_kinds_9.2.2.2.2.2.1
theorem dX12_kinds_139 : decode cX12_kinds 139 = .ok (.getfield 13, 3) := dcX12_kinds_9.2.2.2.2.2.2.1
theorem dX12_kinds_142 : decode cX12_kinds 142 = .ok (.iload_n 2, 1) := dcX12_kinds_9.2.2.2.2.2.2.2
theorem dcX12_kinds_10 : (decode cX12_kinds 143 = .ok (.iload 6, 2)) ∧ (decode cX12_kinds 145 = .ok (.iastore, 1)) ∧ (decode cX12_kinds 146 = .ok (.iload 7, 2)) ∧ (decode cX12_kinds 148 = .ok (.ireturn, 1)) := by decide +kernel
theorem dX12_kinds_143 : decode cX12_kinds 143 = .ok (.iload 6, 2) := dcX12_kinds_10.1
theorem dX12_kinds_145 : decode cX12_kinds 145 = .ok (.iastore, 1) := dcX12_kinds_10.2.1
theorem dX12_kinds_146 : decode cX12_kinds 146 = .ok (.iload 7, 2) := dcX12_kinds_10.2.2.1
theorem dX12_kinds_148 : decode cX12_kinds 148 = .ok (.ireturn, 1) := dcX12_kinds_10.2.2.2
theorem dcX12_isSoDull_0 : (decode cX12_isSoDull 0 = .ok (.iload 4, 2)) ∧ (decode cX12_isSoDull 2 = .ok (.istore 5, 2)) ∧ (decode cX12_isSoDull 4 = .ok (.iconst 0, 1)) ∧ (decode cX12_isSoDull 5 = .ok (.istore 6, 2)) ∧ (decode cX12_isSoDull 7 = .ok (.iload 6, 2)) ∧ (decode cX12_isSoDull 9 = .ok (.aload_n 0, 1)) ∧ (decode cX12_isSoDull 10 = .ok (.getfield 47, 3)) ∧ (decode cX12_isSoDull 13 = .ok (.iload_n 1, 1)) := by decide +kernel
theorem dX12_isSoDull_0 : decode cX12_isSoDull 0 = .ok (.iload 4, 2) := dcX12_isSoDull_0.1
theorem dX12_isSoDull_2 : decode cX12_isSoDull 2 = .ok (.istore 5, 2) := dcX12_isSoDull_0.2.1
theorem dX12_isSoDull_4 : decode cX12_isSoDull 4 = .ok (.iconst 0, 1) := dcX12_isSoDull_0.2.2.1
theorem dX12_isSoDull_5 : decode cX12_isSoDull 5 = .ok (.istore 6, 2) := dcX12_isSoDull_0.2.2.2.1
theorem dX12_isSoDull_7 : decode cX12_isSoDull 7 = .ok (.iload 6, 2) := dcX12_isSoDull_0.2.2.2.2.1
theorem dX12_isSoDull_9 : decode cX12_isSoDull 9 = .ok (.aload_n 0, 1) := dcX12_isSoDull_0.2.2.2.2.2.1
theorem dX12_isSoDull_10 : decode cX12_isSoDull 10 = .ok (.getfield 47, 3) := dcX12_isSoDull_0.2.2.2.2.2.2.1
theorem dX12_isSoDull_13 : decode cX12_isSoDull 13 = .ok (.iload_n 1, 1) := dcX12_isSoDull_0.2.2.2.2.2.2.2
theorem dcX12_isSoDull_1 : (decode cX12_isSoDull 14 = .ok (.iaload, 1)) ∧ (decode cX12_isSoDull 15 = .ok (.if_icmp .ge 108, 3)) ∧ (decode cX12_isSoDull 18 = .ok (.aload_n 0, 1)) ∧ (decode cX12_isSoDull 19 = .ok (.iload_n 2, 1)) ∧ (decode cX12_isSoDull 20 = .ok (.iload_n 3, 1)) ∧ (decode cX12_isSoDull 21 = .ok (.iload 5, 2)) ∧ (decode cX12_isSoDull 23 = .ok (.aload_n 0, 1)) ∧ (decode cX12_isSoDull 24 = .ok (.getfield 97, 3)) := by decide +kernel
theorem dX12_isSoDull_14 : decode cX12_isSoDull 14 = .ok (.iaload, 1) := dcX12_isSoDull_1.1
theorem dX12_isSoDull_15 : decode cX12_isSoDull 15 = .ok (.if_icmp .ge 108, 3) := dcX12_isSoDull_1.2.1
theorem dX12_isSoDull_18 : decode cX12_isSoDull 18 = .ok (.aload_n 0, 1) := dcX12_isSoDull_1.2.2.1
theorem dX12_isSoDull_19 : decode cX12_isSoDull 19 = .ok (.iload_n 2, 1) := dcX12_isSoDull_1.2.2.2.1
theorem dX12_isSoDull_20 : decode cX12_isSoDull 20 = .ok (.iload_n 3, 1) := dcX12_isSoDull_1.2.2.2.2.1
theorem dX12_isSoDull_21 : decode cX12_isSoDull 21 = .ok (.iload 5, 2) := dcX12_isSoDull_1.2.2.2.2.2.1
theorem dX12_isSoDull_23 : decode cX12_isSoDull 23 = .ok (.aload_n 0, 1) := dcX12_isSoDull_1.2.2.2.2.2.2.1
theorem dX12_isSoDull_24 : decode cX12_isSoDull 24 = .ok (.getfield 97, 3) := dcX12_isSoDull_1.2.2.2.2.2.2.2
theorem dcX12_isSoDull_2 : (decode cX12_isSoDull 27 = .ok (.iload 6, 2)) ∧ (decode cX12_isSoDull 29 = .ok (.iadd, 1)) ∧ (decode cX12_isSoDull 30 = .ok (.invokevirtual 196, 3)) ∧ (decode cX12_isSoDull 33 = .ok (.ifCond .eq 16, 3)) ∧ (decode cX12_isSoDull 36 = .ok (.aload_n 0, 1)) ∧ (decode cX12_isSoDull 37 = .ok (.getfield 19, 3)) ∧ (decode cX12_isSoDull 40 = .ok (.iload_n 2, 1)) ∧ (decode cX12_isSoDull 41 = .ok (.iaload, 1)) := by decide +kernel
theorem dX12_isSoDull_27 : decode cX12_isSoDull 27 = .ok (.iload 6, 2) := dcX12_isSoDull_2.1
theorem dX12_isSoDull_29 : decode cX12_isSoDull 29 = .ok (.iadd, 1) := dcX12_isSoDull_2.2.1
theorem dX12_isSoDull_30 : decode cX12_isSoDull 30 = .ok (.invokevirtual 196, 3) := dcX12_isSoDull_2.2.2.1
theorem dX12_isSoDull_33 : decode cX12_isSoDull 33 = .ok (.ifCond .eq 16, 3) := dcX12_isSoDull_2.2.2.2.1
theorem dX12_isSoDull_36 : decode cX12_isSoDull 36 = .ok (.aload_n 0, 1) := dcX12_isSoDull_2.2.2.2.2.1
theorem dX12_isSoDull_37 : decode cX12_isSoDull 37 = .ok (.getfield 19, 3) := dcX12_isSoDull_2.2.2.2.2.2.1
theorem dX12_isSoDull_40 : decode cX12_isSoDull 40 = .ok (.iload_n 2, 1) := dcX12_isSoDull_2.2.2.2.2.2.2.1
theorem dX12_isSoDull_41 : decode cX12_isSoDull 41 = .ok (.iaload, 1) := dcX12_isSoDull_2.2.2.2.2.2.2.2
theorem dcX12_isSoDull_3 : (decode cX12_isSoDull 42 = .ok (.iconst 1, 1)) ∧ (decode cX12_isSoDull 43 = .ok (.iload_n 3, 1)) ∧ (decode cX12_isSoDull 44 = .ok (.ishl, 1)) ∧ (decode cX12_isSoDull 45 = .ok (.iand, 1)) ∧ (decode cX12_isSoDull 46 = .ok (.goto 4, 3)) ∧ (decode cX12_isSoDull 49 = .ok (.iconst 0, 1)) ∧ (decode cX12_isSoDull 50 = .ok (.istore 7, 2)) ∧ (decode cX12_isSoDull 52 = .ok (.aload_n 0, 1)) := by decide +kernel
theorem dX12_isSoDull_42 : decode cX12_isSoDull 42 = .ok (.iconst 1, 1) := dcX12_isSoDull_3.1
theorem dX12_isSoDull_43 : decode cX12_isSoDull 43 = .ok (.iload_n 3, 1) := dcX12_isSoDull_3.2.1
theorem dX12_isSoDull_44 : decode cX12_isSoDull 44 = .ok (.ishl, 1) := dcX12_isSoDull_3.2.2.1
theorem dX12_isSoDull_45 : decode cX12_isSoDull 45 = .ok (.iand, 1) := dcX12_isSoDull_3.2.2.2.1
theorem dX12_isSoDull_46 : decode cX12_isSoDull 46 = .ok (.goto 4, 3) := dcX12_isSoDull_3.2.2.2.2.1
theorem dX12_isSoDull_49 : decode cX12_isSoDull 49 = .ok (.iconst 0, 1) := dcX12_isSoDull_3.2.2.2.2.2.1
theorem dX12_isSoDull_50 : decode cX12_isSoDull 50 = .ok (.istore 7, 2) := dcX12_isSoDull_3.2.2.2.2.2.2.1
theorem dX12_isSoDull_52 : decode cX12_isSoDull 52 = .ok (.aload_n 0, 1) := dcX12_isSoDull_3.2.2.2.2.2.2.2
theorem dcX12_isSoDull_4 : (decode cX12_isSoDull 53 = .ok (.getfield 50, 3)) ∧ (decode cX12_isSoDull 56 = .ok (.bipush 40, 2)) ∧ (decode cX12_isSoDull 58 = .ok (.iload_n 1, 1)) ∧ (decode cX12_isSoDull 59 = .ok (.imul, 1)) ∧ (decode cX12_isSoDull 60 = .ok (.iload 6, 2)) ∧ (decode cX12_isSoDull 62 = .ok (.iadd, 1)) ∧ (decode cX12_isSoDull 63 = .ok (.iaload, 1)) ∧ (decode cX12_isSoDull 64 = .ok (.aload_n 0, 1)) := by decide +kernel
theorem dX12_isSoDull_53 : decode cX12_isSoDull 53 = .ok (.getfield 50, 3) := dcX12_isSoDull_4.1
theorem dX12_isSoDull_56 : decode cX12_isSoDull 56 = .ok (.bipush 40, 2) := dcX12_isSoDull_4.2.1
theorem dX12_isSoDull_58 : decode cX12_isSoDull 58 = .ok (.iload_n 1, 1) := dcX12_isSoDull_4.2.2.1
theorem dX12_isSoDull_59 : decode cX12_isSoDull 59 = .ok (.imul, 1) := dcX12_isSoDull_4.2.2.2.1
theorem dX12_isSoDull_60 : decode cX12_isSoDull 60 = .ok (.iload 6, 2) := dcX12_isSoDull_4.2.2.2.2.1
theorem dX12_isSoDull_62 : decode cX12_isSoDull 62 = .ok (.iadd, 1) := dcX12_isSoDull_4.2.2.2.2.2.1
theorem dX12_isSoDull_63 : decode cX12_isSoDull 63 = .ok (.iaload, 1) := dcX12_isSoDull_4.2.2.2.2.2.2.1
theorem dX12_isSoDull_64 : decode cX12_isSoDull 64 = .ok (.aload_n 0, 1) := dcX12_isSoDull_4.2.2.2.2.2.2.2
theorem dcX12_isSoDull_5 : (decode cX12_isSoDull 65 = .ok (.getfield 77, 3)) ∧ (decode cX12_isSoDull 68 = .ok (.iload 6, 2)) ∧ (decode cX12_isSoDull 70 = .ok (.iconst 0, 1)) ∧ (decode cX12_isSoDull 71 = .ok (.bipush 19, 2)) ∧ (decode cX12_isSoDull 73 = .ok (.invokestatic 173, 3)) ∧ (decode cX12_isSoDull 76 = .ok (.iaload, 1)) ∧ (decode cX12_isSoDull 77 = .ok (.iconst 1, 1)) ∧ (decode cX12_isSoDull 78 = .ok (.iload_n 3, 1)) := by decide +kernel
theorem dX12_isSoDull_65 : decode cX12_isSoDull 65 = .ok (.getfield 77, 3) := dcX12_isSoDull_5.1
theorem dX12_isSoDull_68 : decode cX12_isSoDull 68 = .ok (.iload 6, 2) := dcX12_isSoDull_5.2.1
theorem dX12_isSoDull_70 : decode cX12_isSoDull 70 = .ok (.iconst 0, 1) := dcX12_isSoDull_5.2.2.1
theorem dX12_isSoDull_71 : decode cX12_isSoDull 71 = .ok (.bipush 19, 2) := dcX12_isSoDull_5.2.2.2.1
theorem dX12_isSoDull_73 : decode cX12_isSoDull 73 = .ok (.invokestatic 173, 3) := dcX12_isSoDull_5.2.2.2.2.1
theorem dX12_isSoDull_76 : decode cX12_isSoDull 76 = .ok (.iaload, 1) := dcX12_isSoDull_5.2.2.2.2.2.1
theorem dX12_isSoDull_77 : decode cX12_isSoDull 77 = .ok (.iconst 1, 1) := dcX12_isSoDull_5.2.2.2.2.2.2.1
theorem dX12_isSoDull_78 : decode cX12_isSoDull 78 = .ok (.iload_n 3, 1) := dcX12_isSoDull_5.2.2.2.2.2.2.2
theorem dcX12_isSoDull_6 : (decode cX12_isSoDull 79 = .ok (.ishl, 1)) ∧ (decode cX12_isSoDull 80 = .ok (.iconst (-1), 1)) ∧ (decode cX12_isSoDull 81 = .ok (.ixor, 1)) ∧ (decode cX12_isSoDull 82 = .ok (.iand, 1)) ∧ (decode cX12_isSoDull 83 = .ok (.iload 7, 2)) ∧ (decode cX12_isSoDull 85 = .ok (.ior, 1)) ∧ (decode cX12_isSoDull 86 = .ok (.if_icmp .eq 5, 3)) ∧ (decode cX12_isSoDull 89 = .ok (.iconst 0, 1)) := by decide +kernel
theorem dX12_isSoDull_79 : decode cX12_isSoDull 79 = .ok (.ishl, 1) := dcX12_isSoDull_6.1
theorem dX12_isSoDull_80 : decode cX12_isSoDull 80 = .ok (.iconst (-1), 1) := dcX12_isSoDull_6.2.1
theorem dX12_isSoDull_81 : decode cX12_isSoDull 81 = .ok (.ixor, 1) := dcX12_isSoDull_6.2.2.1
theorem dX12_isSoDull_82 : decode cX12_isSoDull 82 = .ok (.iand, 1) := dcX12_isSoDull_6.2.2.2.1
theorem dX12_isSoDull_83 : decode cX12_isSoDull 83 = .ok (.iload 7, 2) := dcX12_isSoDull_6.2.2.2.2.1
theorem dX12_isSoDull_85 : decode cX12_isSoDull 85 = .ok (.ior, 1) := dcX12_isSoDull_6.2.2.2.2.2.1
theorem dX12_isSoDull_86 : decode cX12_isSoDull 86 = .ok (.if_icmp .eq 5, 3) := dcX12_isSoDull_6.2.2.2.2.2.2.1
theorem dX12_isSoDull_89 : decode cX12_isSoDull 89 = .ok (.iconst 0, 1) := dcX12_isSoDull_6.2.2.2.2.2.2.2
theorem dcX12_isSoDull_7 : (decode cX12_isSoDull 90 = .ok (.ireturn, 1)) ∧ (decode cX12_isSoDull 91 = .ok (.iload 5, 2)) ∧ (decode cX12_isSoDull 93 = .ok (.aload_n 0, 1)) ∧ (decode cX12_isSoDull 94 = .ok (.iload_n 2, 1)) ∧ (decode cX12_isSoDull 95 = .ok (.iload_n 3, 1)) ∧ (decode cX12_isSoDull 96 = .ok (.iload 5, 2)) ∧ (decode cX12_isSoDull 98 = .ok (.aload_n 0, 1)) ∧ (decode cX12_isSoDull 99 = .ok (.getfield 97, 3)) := by decide +kernel
theorem dX12_isSoDull_90 : decode cX12_isSoDull 90 = .ok (.ireturn, 1) := dcX12_isSoDull_7.1
theorem dX12_isSoDull_91 : decode cX12_isSoDull 91 = .ok (.iload 5, 2) := dcX12_isSoDull_7.2.1
theorem dX12_isSoDull_93 : decode cX12_isSoDull 93 = .ok (.aload_n 0, 1) := dcX12_isSoDull_7.2.2.1
theorem dX12_isSoDull_94 : decode cX12_isSoDull 94 = .ok (.iload_n 2, 1) := dcX12_isSoDull_7.2.2.2.1
theorem dX12_isSoDull_95 : decode cX12_isSoDull 95 = .ok (.iload_n 3, 1) := dcX12_isSoDull_7.2.2.2.2.1
theorem dX12_isSoDull_96 : decode cX12_isSoDull 96 = .ok (.iload 5, 2) := dcX12_isSoDull_7.2.2.2.2.2.1
theorem dX12_isSoDull_98 : decode cX12_isSoDull 98 = .ok (.aload_n 0, 1) := dcX12_isSoDull_7.2.2.2.2.2.2.1
theorem dX12_isSoDull_99 : decode cX12_isSoDull 99 = .ok (.getfield 97, 3) := dcX12_isSoDull_7.2.2.2.2.2.2.2
theorem dcX12_isSoDull_8 : (decode cX12_isSoDull 102 = .ok (.iload 6, 2)) ∧ (decode cX12_isSoDull 104 = .ok (.iadd, 1)) ∧ (decode cX12_isSoDull 105 = .ok (.invokevirtual 218, 3)) ∧ (decode cX12_isSoDull 108 = .ok (.iadd, 1)) ∧ (decode cX12_isSoDull 109 = .ok (.iconst 0, 1)) ∧ (decode cX12_isSoDull 110 = .ok (.bipush 99, 2)) ∧ (decode cX12_isSoDull 112 = .ok (.invokestatic 173, 3)) ∧ (decode cX12_isSoDull 115 = .ok (.istore 5, 2)) := by decide +kernel
theorem dX12_isSoDull_102 : decode cX12_isSoDull 102 = .ok (.iload 6, 2) := dcX12_isSoDull_8.1
theorem dX12_isSoDull_104 : decode cX12_isSoDull 104 = .ok (.iadd, 1) := dcX12_isSoDull_8.2.1
theorem dX12_isSoDull_105 : decode cX12_isSoDull 105 = .ok (.invokevirtual 218, 3) := dcX12_isSoDull_8.2.2.1
theorem dX12_isSoDull_108 : decode cX12_isSoDull 108 = .ok (.iadd, 1) := dcX12_isSoDull_8.2.2.2.1
theorem dX12_isSoDull_109 : decode cX12_isSoDull 109 = .ok (.iconst 0, 1) := dcX12_isSoDull_8.2.2.2.2.1
theorem dX12_isSoDull_110 : decode cX12_isSoDull 110 = .ok (.bipush 99, 2) := dcX12_isSoDull_8.2.2.2.2.2.1
theorem dX12_isSoDull_112 : decode cX12_isSoDull 112 = .ok (.invokestatic 173, 3) := dcX12_isSoDull_8.2.2.2.2.2.2.1
theorem dX12_isSoDull_115 : decode cX12_isSoDull 115 = .ok (.istore 5, 2) := dcX12_isSoDull_8.2.2.2.2.2.2.2
theorem dcX12_isSoDull_9 : (decode cX12_isSoDull 117 = .ok (.iinc 6 1, 3)) ∧ (decode cX12_isSoDull 120 = .ok (.goto (-113), 3)) ∧ (decode cX12_isSoDull 123 = .ok (.iconst 1, 1)) ∧ (decode cX12_isSoDull 124 = .ok (.ireturn, 1)) := by decide +kernel
theorem dX12_isSoDull_117 : decode cX12_isSoDull 117 = .ok (.iinc 6 1, 3) := dcX12_isSoDull_9.1
theorem dX12_isSoDull_120 : decode cX12_isSoDull 120 = .ok (.goto (-113), 3) := dcX12_isSoDull_9.2.1
theorem dX12_isSoDull_123 : decode cX12_isSoDull 123 = .ok (.iconst 1, 1) := dcX12_isSoDull_9.2.2.1
theorem dX12_isSoDull_124 : decode cX12_isSoDull 124 = .ok (.ireturn, 1) := dcX12_isSoDull_9.2.2.2
theorem dcX12_dims_0 : (decode cX12_dims 0 = .ok (.aload_n 0, 1)) ∧ (decode cX12_dims 1 = .ok (.iload_n 1, 1)) ∧ (decode cX12_dims 2 = .ok (.iload_n 2, 1)) ∧ (decode cX12_dims 3 = .ok (.invokevirtual 260, 3)) ∧ (decode cX12_dims 6 = .ok (.istore 4, 2)) ∧ (decode cX12_dims 8 = .ok (.iload 4, 2)) ∧ (decode cX12_dims 10 = .ok (.ifCond .eq 6, 3)) ∧ (decode cX12_dims 13 = .ok (.iload 4, 2)) := by decide +kernel
theorem dX12_dims_0 : decode cX12_dims 0 = .ok (.aload_n 0, 1) := dcX12_dims_0.1
theorem dX12_dims_1 : decode cX12_dims 1 = .ok (.iload_n 1, 1) := dcX12_dims_0.2.1
theorem dX12_dims_2 : decode cX12_dims 2 = .ok (.iload_n 2, 1) := dcX12_dims_0.2.2.1
theorem dX12_dims_3 : decode cX12_dims 3 = .ok (.invokevirtual 260, 3) := dcX12_dims_0.2.2.2.1
theorem dX12_dims_6 : decode cX12_dims 6 = .ok (.istore 4, 2) := dcX12_dims_0.2.2.2.2.1
theorem dX12_dims_8 : decode cX12_dims 8 = .ok (.iload 4, 2) := dcX12_dims_0.2.2.2.2.2.1
theorem dX12_dims_10 : decode cX12_dims 10 = .ok (.ifCond .eq 6, 3) := dcX12_dims_0.2.2.2.2.2.2.1
theorem dX12_dims_13 : decode cX12_dims 13 = .ok (.iload 4, 2) := dcX12_dims_0.2.2.2.2.2.2.2
theorem dcX12_dims_1 : (decode cX12_dims 15 = .ok (.ireturn, 1)) ∧ (decode cX12_dims 16 = .ok (.iload_n 3, 1)) ∧ (decode cX12_dims 17 = .ok (.iconst 0, 1)) ∧ (decode cX12_dims 18 = .ok (.sipush 151, 3)) ∧ (decode cX12_dims 21 = .ok (.invokestatic 93, 3)) ∧ (decode cX12_dims 24 = .ok (.ifCond .eq 11, 3)) ∧ (decode cX12_dims 27 = .ok (.iload_n 3, 1)) ∧ (decode cX12_dims 28 = .ok (.bipush 10, 2)) := by decide +kernel
theorem dX12_dims_15 : decode cX12_dims 15 = .ok (.ireturn, 1) := dcX12_dims_1.1
theorem dX12_dims_16 : decode cX12_dims 16 = .ok (.iload_n 3, 1) := dcX12_dims_1.2.1
theorem dX12_dims_17 : decode cX12_dims 17 = .ok (.iconst 0, 1) := dcX12_dims_1.2.2.1
theorem dX12_dims_18 : decode cX12_dims 18 = .ok (.sipush 151, 3) := dcX12_dims_1.2.2.2.1
theorem dX12_dims_21 : decode cX12_dims 21 = .ok (.invokestatic 93, 3) := dcX12_dims_1.2.2.2.2.1
theorem dX12_dims_24 : decode cX12_dims 24 = .ok (.ifCond .eq 11, 3) := dcX12_dims_1.2.2.2.2.2.1
theorem dX12_dims_27 : decode cX12_dims 27 = .ok (.iload_n 3, 1) := dcX12_dims_1.2.2.2.2.2.2.1
theorem dX12_dims_28 : decode cX12_dims 28 = .ok (.bipush 10, 2) := dcX12_dims_1.2.2.2.2.2.2.2
theorem dcX12_dims_2 : (decode cX12_dims 30 = .ok (.irem, 1)) ∧ (decode cX12_dims 31 = .ok (.iconst 1, 1)) ∧ (decode cX12_dims 32 = .ok (.if_icmp .le 6, 3)) ∧ (decode cX12_dims 35 = .ok (.bipush (-7), 2)) ∧ (decode cX12_dims 37 = .ok (.ireturn, 1)) ∧ (decode cX12_dims 38 = .ok (.aload_n 0, 1)) ∧ (decode cX12_dims 39 = .ok (.iload_n 2, 1)) ∧ (decode cX12_dims 40 = .ok (.invokevirtual 225, 3)) := by decide +kernel
theorem dX12_dims_30 : decode cX12_dims 30 = .ok (.irem, 1) := dcX12_dims_2.1
theorem dX12_dims_31 : decode cX12_dims 31 = .ok (.iconst 1, 1) := dcX12_dims_2.2.1
theorem dX12_dims_32 : decode cX12_dims 32 = .ok (.if_icmp .le 6, 3) := dcX12_dims_2.2.2.1
theorem dX12_dims_35 : decode cX12_dims 35 = .ok (.bipush (-7), 2) := dcX12_dims_2.2.2.2.1
theorem dX12_dims_37 : decode cX12_dims 37 = .ok (.ireturn, 1) := dcX12_dims_2.2.2.2.2.1
theorem dX12_dims_38 : decode cX12_dims 38 = .ok (.aload_n 0, 1) := dcX12_dims_2.2.2.2.2.2.1
theorem dX12_dims_39 : decode cX12_dims 39 = .ok (.iload_n 2, 1) := dcX12_dims_2.2.2.2.2.2.2.1
theorem dX12_dims_40 : decode cX12_dims 40 = .ok (.invokevirtual 225, 3) := dcX12_dims_2.2.2.2.2.2.2.2
theorem dcX12_dims_3 : (decode cX12_dims 43 = .ok (.iconst 0, 1)) ∧ (decode cX12_dims 44 = .ok (.istore 5, 2)) ∧ (decode cX12_dims 46 = .ok (.iload 5, 2)) ∧ (decode cX12_dims 48 = .ok (.bipush 20, 2)) ∧ (decode cX12_dims 50 = .ok (.if_icmp .ge 44, 3)) ∧ (decode cX12_dims 53 = .ok (.iload 5, 2)) ∧ (decode cX12_dims 55 = .ok (.aload_n 0, 1)) ∧ (decode cX12_dims 56 = .ok (.getfield 47, 3)) := by decide +kernel
theorem dX12_dims_43 : decode cX12_dims 43 = .ok (.iconst 0, 1) := dcX12_dims_3.1
theorem dX12_dims_44 : decode cX12_dims 44 = .ok (.istore 5, 2) := dcX12_dims_3.2.1
theorem dX12_dims_46 : decode cX12_dims 46 = .ok (.iload 5, 2) := dcX12_dims_3.2.2.1
theorem dX12_dims_48 : decode cX12_dims 48 = .ok (.bipush 20, 2) := dcX12_dims_3.2.2.2.1
theorem dX12_dims_50 : decode cX12_dims 50 = .ok (.if_icmp .ge 44, 3) := dcX12_dims_3.2.2.2.2.1
theorem dX12_dims_53 : decode cX12_dims 53 = .ok (.iload 5, 2) := dcX12_dims_3.2.2.2.2.2.1
theorem dX12_dims_55 : decode cX12_dims 55 = .ok (.aload_n 0, 1) := dcX12_dims_3.2.2.2.2.2.2.1
theorem dX12_dims_56 : decode cX12_dims 56 = .ok (.getfield 47, 3) := dcX12_dims_3.2.2.2.2.2.2.2
theorem dcX12_dims_4 : (decode cX12_dims 59 = .ok (.iload_n 1, 1)) ∧ (decode cX12_dims 60 = .ok (.iaload, 1)) ∧ (decode cX12_dims 61 = .ok (.if_icmp .ge 27, 3)) ∧ (decode cX12_dims 64 = .ok (.aload_n 0, 1)) ∧ (decode cX12_dims 65 = .ok (.getfield 77, 3)) ∧ (decode cX12_dims 68 = .ok (.iload 5, 2)) ∧ (decode cX12_dims 70 = .ok (.aload_n 0, 1)) ∧ (decode cX12_dims 71 = .ok (.iload_n 2, 1)) := by decide +kernel
theorem dX12_dims_59 : decode cX12_dims 59 = .ok (.iload_n 1, 1) := dcX12_dims_4.1
theorem dX12_dims_60 : decode cX12_dims 60 = .ok (.iaload, 1) := dcX12_dims_4.2.1
theorem dX12_dims_61 : decode cX12_dims 61 = .ok (.if_icmp .ge 27, 3) := dcX12_dims_4.2.2.1
theorem dX12_dims_64 : decode cX12_dims 64 = .ok (.aload_n 0, 1) := dcX12_dims_4.2.2.2.1
theorem dX12_dims_65 : decode cX12_dims 65 = .ok (.getfield 77, 3) := dcX12_dims_4.2.2.2.2.1
theorem dX12_dims_68 : decode cX12_dims 68 = .ok (.iload 5, 2) := dcX12_dims_4.2.2.2.2.2.1
theorem dX12_dims_70 : decode cX12_dims 70 = .ok (.aload_n 0, 1) := dcX12_dims_4.2.2.2.2.2.2.1
theorem dX12_dims_71 : decode cX12_dims 71 = .ok (.iload_n 2, 1) := dcX12_dims_4.2.2.2.2.2.2.2
theorem dcX12_dims_5 : (decode cX12_dims 72 = .ok (.invokevirtual 231, 3)) ∧ (decode cX12_dims 75 = .ok (.aload_n 0, 1)) ∧ (decode cX12_dims 76 = .ok (.getfield 19, 3)) ∧ (decode cX12_dims 79 = .ok (.iload_n 2, 1)) ∧ (decode cX12_dims 80 = .ok (.iaload, 1)) ∧ (decode cX12_dims 81 = .ok (.iand, 1)) ∧ (decode cX12_dims 82 = .ok (.iastore, 1)) ∧ (decode cX12_dims 83 = .ok (.aload_n 0, 1)) := by decide +kernel
theorem dX12_dims_72 : decode cX12_dims 72 = .ok (.invokevirtual 231, 3) := dcX12_dims_5.1
theorem dX12_dims_75 : decode cX12_dims 75 = .ok (.aload_n 0, 1) := dcX12_dims_5.2.1
theorem dX12_dims_76 : decode cX12_dims 76 = .ok (.getfield 19, 3) := dcX12_dims_5.2.2.1
theorem dX12_dims_79 : decode cX12_dims 79 = .ok (.iload_n 2, 1) := dcX12_dims_5.2.2.2.1
theorem dX12_dims_80 : decode cX12_dims 80 = .ok (.iaload, 1) := dcX12_dims_5.2.2.2.2.1
theorem dX12_dims_81 : decode cX12_dims 81 = .ok (.iand, 1) := dcX12_dims_5.2.2.2.2.2.1
theorem dX12_dims_82 : decode cX12_dims 82 = .ok (.iastore, 1) := dcX12_dims_5.2.2.2.2.2.2.1
theorem dX12_dims_83 : decode cX12_dims 83 = .ok (.aload_n 0, 1) := dcX12_dims_5.2.2.2.2.2.2.2
theorem dcX12_dims_6 : (decode cX12_dims 84 = .ok (.iload_n 2, 1)) ∧ (decode cX12_dims 85 = .ok (.invokevirtual 228, 3)) ∧ (decode cX12_dims 88 = .ok (.iinc 5 1, 3)) ∧ (decode cX12_dims 91 = .ok (.goto (-45), 3)) ∧ (decode cX12_dims 94 = .ok (.iconst 0, 1)) ∧ (decode cX12_dims 95 = .ok (.istore 5, 2)) ∧ (decode cX12_dims 97 = .ok (.iconst (-1), 1)) ∧ (decode cX12_dims 98 = .ok (.istore 6, 2)) := by decide +kernel
theorem dX12_dims_84 : decode cX12_dims 84 = .ok (.iload_n 2, 1) := dcX12_dims_6.1
theorem dX12_dims_85 : decode cX12_dims 85 = .ok (.invokevirtual 228, 3) := dcX12_dims_6.2.1
theorem dX12_dims_88 : decode cX12_dims 88 = .ok (.iinc 5 1, 3) := dcX12_dims_6.2.2.1
theorem dX12_dims_91 : decode cX12_dims 91 = .ok (.goto (-45), 3) := dcX12_dims_6.2.2.2.1
theorem dX12_dims_94 : decode cX12_dims 94 = .ok (.iconst 0, 1) := dcX12_dims_6.2.2.2.2.1
theorem dX12_dims_95 : decode cX12_dims 95 = .ok (.istore 5, 2) := dcX12_dims_6.2.2.2.2.2.1
theorem dX12_dims_97 : decode cX12_dims 97 = .ok (.iconst (-1), 1) := dcX12_dims_6.2.2.2.2.2.2.1
theorem dX12_dims_98 : decode cX12_dims 98 = .ok (.istore 6, 2) := dcX12_dims_6.2.2.2.2.2.2.2
theorem dcX12_dims_7 : (decode cX12_dims 100 = .ok (.iconst 0, 1)) ∧ (decode cX12_dims 101 = .ok (.istore 7, 2)) ∧ (decode cX12_dims 103 = .ok (.iload 7, 2)) ∧ (decode cX12_dims 105 = .ok (.bipush 99, 2)) ∧ (decode cX12_dims 107 = .ok (.if_icmp .gt 58, 3)) ∧ (decode cX12_dims 110 = .ok (.aload_n 0, 1)) ∧ (decode cX12_dims 111 = .ok (.iload_n 1, 1)) ∧ (decode cX12_dims 112 = .ok (.iload_n 2, 1)) := by decide +kernel
theorem dX12_dims_100 : decode cX12_dims 100 = .ok (.iconst 0, 1) := dcX12_dims_7.1
theorem dX12_dims_101 : decode cX12_dims 101 = .ok (.istore 7, 2) := dcX12_dims_7.2.1
theorem dX12_dims_103 : decode cX12_dims 103 = .ok (.iload 7, 2) := dcX12_dims_7.2.2.1
theorem dX12_dims_105 : decode cX12_dims 105 = .ok (.bipush 99, 2) := dcX12_dims_7.2.2.2.1
theorem dX12_dims_107 : decode cX12_dims 107 = .ok (.if_icmp .gt 58, 3) := dcX12_dims_7.2.2.2.2.1
theorem dX12_dims_110 : decode cX12_dims 110 = .ok (.aload_n 0, 1) := dcX12_dims_7.2.2.2.2.2.1
theorem dX12_dims_111 : decode cX12_dims 111 = .ok (.iload_n 1, 1) := dcX12_dims_7.2.2.2.2.2.2.1
theorem dX12_dims_112 : decode cX12_dims 112 = .ok (.iload_n 2, 1) := dcX12_dims_7.2.2.2.2.2.2.2
theorem dcX12_dims_8 : (decode cX12_dims 113 = .ok (.iload_n 3, 1)) ∧ (decode cX12_dims 114 = .ok (.bipush 10, 2)) ∧ (decode cX12_dims 116 = .ok (.idiv, 1)) ∧ (decode cX12_dims 117 = .ok (.iload 7, 2)) ∧ (decode cX12_dims 119 = .ok (.invokevirtual 266, 3)) ∧ (decode cX12_dims 122 = .ok (.istore 8, 2)) ∧ (decode cX12_dims 124 = .ok (.iload 5, 2)) ∧ (decode cX12_dims 126 = .ok (.iload 8, 2)) := by decide +kernel
theorem dX12_dims_113 : decode cX12_dims 113 = .ok (.iload_n 3, 1) := dcX12_dims_8.1
theorem dX12_dims_114 : decode cX12_dims 114 = .ok (.bipush 10, 2) := dcX12_dims_8.2.1
theorem dX12_dims_116 : decode cX12_dims 116 = .ok (.idiv, 1) := dcX12_dims_8.2.2.1
theorem dX12_dims_117 : decode cX12_dims 117 = .ok (.iload 7, 2) := dcX12_dims_8.2.2.2.1
theorem dX12_dims_119 : decode cX12_dims 119 = .ok (.invokevirtual 266, 3) := dcX12_dims_8.2.2.2.2.1
theorem dX12_dims_122 : decode cX12_dims 122 = .ok (.istore 8, 2) := dcX12_dims_8.2.2.2.2.2.1
theorem dX12_dims_124 : decode cX12_dims 124 = .ok (.iload 5, 2) := dcX12_dims_8.2.2.2.2.2.2.1
theorem dX12_dims_126 : decode cX12_dims 126 = .ok (.iload 8, 2) := dcX12_dims_8.2.2.2.2.2.2.2
theorem dcX12_dims_9 : (decode cX12_dims 128 = .ok (.ifCond .eq 7, 3)) ∧ (decode cX12_dims 131 = .ok (.iconst 1, 1)) ∧ (decode cX12_dims 132 = .ok (.goto 4, 3)) ∧ (decode cX12_dims 135 = .ok (.iconst 0, 1)) ∧ (decode cX12_dims 136 = .ok (.iadd, 1)) ∧ (decode cX12_dims 137 = .ok (.istore 5, 2)) ∧ (decode cX12_dims 139 = .ok (.iload 8, 2)) ∧ (decode cX12_dims 141 = .ok (.ifCond .eq 14, 3)) := by decide +kernel
theorem dX12_dims_128 : decode cX12_dims 128 = .ok (.ifCond .eq 7, 3) := dcX12_dims_9.1
theorem dX12_dims_131 : decode cX12_dims 131 = .ok (.iconst 1, 1) := dcX12_dims_9.2.1
theorem dX12_dims_132 : decode cX12_dims 132 = .ok (.goto 4, 3) := dcX12_dims_9.2.2.1
theorem dX12_dims_135 : decode cX12_dims 135 = .ok (.iconst 0, 1) := dcX12_dims_9.2.2.2.1
theorem dX12_dims_136 : decode cX12_dims 136 = .ok (.iadd, 1) := dcX12_dims_9.2.2.2.2.1
theorem dX12_dims_137 : decode cX12_dims 137 = .ok (.istore 5, 2) := dcX12_dims_9.2.2.2.2.2.1
theorem dX12_dims_139 : decode cX12_dims 139 = .ok (.iload 8, 2) := dcX12_dims_9.2.2.2.2.2.2.1
theorem dX12_dims_141 : decode cX12_dims 141 = .ok (.ifCond .eq 14, 3) := dcX12_dims_9.2.2.2.2.2.2.2
theorem dcX12_dims_10 : (decode cX12_dims 144 = .ok (.iload 6, 2)) ∧ (decode cX12_dims 146 = .ok (.iconst (-1), 1)) ∧ (decode cX12_dims 147 = .ok (.if_icmp .ne 8, 3)) ∧ (decode cX12_dims 150 = .ok (.iload 7, 2)) ∧ (decode cX12_dims 152 = .ok (.goto 5, 3)) ∧ (decode cX12_dims 155 = .ok (.iload 6, 2)) ∧ (decode cX12_dims 157 = .ok (.istore 6, 2)) ∧ (decode cX12_dims 159 = .ok (.iinc 7 1, 3)) := by decide +kernel
theorem dX12_dims_144 : decode cX12_dims 144 = .ok (.iload 6, 2) := dcX12_dims_10.1
theorem dX12_dims_146 : decode cX12_dims 146 = .ok (.iconst (-1), 1) := dcX12_dims_10.2.1
theorem dX12_dims_147 : decode cX12_dims 147 = .ok (.if_icmp .ne 8, 3) := dcX12_dims_10.2.2.1
theorem dX12_dims_150 : decode cX12_dims 150 = .ok (.iload 7, 2) := dcX12_dims_10.2.2.2.1
theorem dX12_dims_152 : decode cX12_dims 152 = .ok (.goto 5, 3) := dcX12_dims_10.2.2.2.2.1
theorem dX12_dims_155 : decode cX12_dims 155 = .ok (.iload 6, 2) := dcX12_dims_10.2.2.2.2.2.1
theorem dX12_dims_157 : decode cX12_dims 157 = .ok (.istore 6, 2) := dcX12_dims_10.2.2.2.2.2.2.1
theorem dX12_dims_159 : decode cX12_dims 159 = .ok (.iinc 7 1, 3) := dcX12_dims_10.2.2.2.2.2.2.2
theorem dcX12_dims_11 : (decode cX12_dims 162 = .ok (.goto (-59), 3)) ∧ (decode cX12_dims 165 = .ok (.iload_n 3, 1)) ∧ (decode cX12_dims 166 = .ok (.bipush 10, 2)) ∧ (decode cX12_dims 168 = .ok (.irem, 1)) ∧ (decode cX12_dims 169 = .ok (.ifCond .ne 8, 3)) ∧ (decode cX12_dims 172 = .ok (.iload 5, 2)) ∧ (decode cX12_dims 174 = .ok (.goto 5, 3)) ∧ (decode cX12_dims 177 = .ok (.iload 6, 2)) := by decide +kernel
theorem dX12_dims_162 : decode cX12_dims 162 = .ok (.goto (-59), 3) := dcX12_dims_11.1
theorem dX12_dims_165 : decode cX12_dims 165 = .ok (.iload_n 3, 1) := dcX12_dims_11.2.1
theorem dX12_dims_166 : decode cX12_dims 166 = .ok (.bipush 10, 2) := dcX12_dims_11.2.2.1
theorem dX12_dims_168 : decode cX12_dims 168 = .ok (.irem, 1) := dcX12_dims_11.2.2.2.1
theorem dX12_dims_169 : decode cX12_dims 169 = .ok (.ifCond .ne 8, 3) := dcX12_dims_11.2.2.2.2.1
theorem dX12_dims_172 : decode cX12_dims 172 = .ok (.iload 5, 2) := dcX12_dims_11.2.2.2.2.2.1
theorem dX12_dims_174 : decode cX12_dims 174 = .ok (.goto 5, 3) := dcX12_dims_11.2.2.2.2.2.2.1
theorem dX12_dims_177 : decode cX12_dims 177 = .ok (.iload 6, 2) := dcX12_dims_11.2.2.2.2.2.2.2
theorem dX12_dims_179 : decode cX12_dims 179 = .ok (.ireturn, 1) := by decide +kernel
theorem dcX12_laws_0 : (decode cX12_laws 0 = .ok (.aload_n 0, 1)) ∧ (decode cX12_laws 1 = .ok (.iload_n 1, 1)) ∧ (decode cX12_laws 2 = .ok (.iload_n 2, 1)) ∧ (decode cX12_laws 3 = .ok (.invokevirtual 260, 3)) ∧ (decode cX12_laws 6 = .ok (.istore_n 3, 1)) ∧ (decode cX12_laws 7 = .ok (.iload_n 3, 1)) ∧ (decode cX12_laws 8 = .ok (.ifCond .eq 5, 3)) ∧ (decode cX12_laws 11 = .ok (.iload_n 3, 1)) := by decide +kernel
theorem dX12_laws_0 : decode cX12_laws 0 = .ok (.aload_n 0, 1) := dcX12_laws_0.1
theorem dX12_laws_1 : decode cX12_laws 1 = .ok (.iload_n 1, 1) := dcX12_laws_0.2.1
theorem dX12_laws_2 : decode cX12_laws 2 = .ok (.iload_n 2, 1) := dcX12_laws_0.2.2.1
theorem dX12_laws_3 : decode cX12_laws 3 = .ok (.invokevirtual 260, 3) := dcX12_laws_0.2.2.2.1
theorem dX12_laws_6 : decode cX12_laws 6 = .ok (.istore_n 3, 1) := dcX12_laws_0.2.2.2.2.1
theorem dX12_laws_7 : decode cX12_laws 7 = .ok (.iload_n 3, 1) := dcX12_laws_0.2.2.2.2.2.1
theorem dX12_laws_8 : decode cX12_laws 8 = .ok (.ifCond .eq 5, 3) := dcX12_laws_0.2.2.2.2.2.2.1
theorem dX12_laws_11 : decode cX12_laws 11 = .ok (.iload_n 3, 1) := dcX12_laws_0.2.2.2.2.2.2.2
theorem dcX12_laws_1 : (decode cX12_laws 12 = .ok (.ireturn, 1)) ∧ (decode cX12_laws 13 = .ok (.aload_n 0, 1)) ∧ (decode cX12_laws 14 = .ok (.getfield 103, 3)) ∧ (decode cX12_laws 17 = .ok (.istore 4, 2)) ∧ (decode cX12_laws 19 = .ok (.iconst 0, 1)) ∧ (decode cX12_laws 20 = .ok (.istore 5, 2)) ∧ (decode cX12_laws 22 = .ok (.iconst 0, 1)) ∧ (decode cX12_laws 23 = .ok (.istore 6, 2)) := by decide +kernel
theorem dX12_laws_12 : decode cX12_laws 12 = .ok (.ireturn, 1) := dcX12_laws_1.1
theorem dX12_laws_13 : decode cX12_laws 13 = .ok (.aload_n 0, 1) := dcX12_laws_1.2.1
theorem dX12_laws_14 : decode cX12_laws 14 = .ok (.getfield 103, 3) := dcX12_laws_1.2.2.1
theorem dX12_laws_17 : decode cX12_laws 17 = .ok (.istore 4, 2) := dcX12_laws_1.2.2.2.1
theorem dX12_laws_19 : decode cX12_laws 19 = .ok (.iconst 0, 1) := dcX12_laws_1.2.2.2.2.1
theorem dX12_laws_20 : decode cX12_laws 20 = .ok (.istore 5, 2) := dcX12_laws_1.2.2.2.2.2.1
theorem dX12_laws_22 : decode cX12_laws 22 = .ok (.iconst 0, 1) := dcX12_laws_1.2.2.2.2.2.2.1
theorem dX12_laws_23 : decode cX12_laws 23 = .ok (.istore 6, 2) := dcX12_laws_1.2.2.2.2.2.2.2
theorem dcX12_laws_2 : (decode cX12_laws 25 = .ok (.iload 6, 2)) ∧ (decode cX12_laws 27 = .ok (.aload_n 0, 1)) ∧ (decode cX12_laws 28 = .ok (.getfield 100, 3)) ∧ (decode cX12_laws 31 = .ok (.if_icmp .ge 38, 3)) ∧ (decode cX12_laws 34 = .ok (.aload_n 0, 1)) ∧ (decode cX12_laws 35 = .ok (.iload 6, 2)) ∧ (decode cX12_laws 37 = .ok (.putfield 103, 3)) ∧ (decode cX12_laws 40 = .ok (.iload 5, 2)) := by decide +kernel
theorem dX12_laws_25 : decode cX12_laws 25 = .ok (.iload 6, 2) := dcX12_laws_2.1
theorem dX12_laws_27 : decode cX12_laws 27 = .ok (.aload_n 0, 1) := dcX12_laws_2.2.1
theorem dX12_laws_28 : decode cX12_laws 28 = .ok (.getfield 100, 3) := dcX12_laws_2.2.2.1
theorem dX12_laws_31 : decode cX12_laws 31 = .ok (.if_icmp .ge 38, 3) := dcX12_laws_2.2.2.2.1
theorem dX12_laws_34 : decode cX12_laws 34 = .ok (.aload_n 0, 1) := dcX12_laws_2.2.2.2.2.1
theorem dX12_laws_35 : decode cX12_laws 35 = .ok (.iload 6, 2) := dcX12_laws_2.2.2.2.2.2.1
theorem dX12_laws_37 : decode cX12_laws 37 = .ok (.putfield 103, 3) := dcX12_laws_2.2.2.2.2.2.2.1
theorem dX12_laws_40 : decode cX12_laws 40 = .ok (.iload 5, 2) := dcX12_laws_2.2.2.2.2.2.2.2
theorem dcX12_laws_3 : (decode cX12_laws 42 = .ok (.aload_n 0, 1)) ∧ (decode cX12_laws 43 = .ok (.iload_n 1, 1)) ∧ (decode cX12_laws 44 = .ok (.iload_n 2, 1)) ∧ (decode cX12_laws 45 = .ok (.invokevirtual 263, 3)) ∧ (decode cX12_laws 48 = .ok (.iconst (-1), 1)) ∧ (decode cX12_laws 49 = .ok (.if_icmp .ne 10, 3)) ∧ (decode cX12_laws 52 = .ok (.iconst 1, 1)) ∧ (decode cX12_laws 53 = .ok (.iload 6, 2)) := by decide +kernel
theorem dX12_laws_42 : decode cX12_laws 42 = .ok (.aload_n 0, 1) := dcX12_laws_3.1
theorem dX12_laws_43 : decode cX12_laws 43 = .ok (.iload_n 1, 1) := dcX12_laws_3.2.1
theorem dX12_laws_44 : decode cX12_laws 44 = .ok (.iload_n 2, 1) := dcX12_laws_3.2.2.1
theorem dX12_laws_45 : decode cX12_laws 45 = .ok (.invokevirtual 263, 3) := dcX12_laws_3.2.2.2.1
theorem dX12_laws_48 : decode cX12_laws 48 = .ok (.iconst (-1), 1) := dcX12_laws_3.2.2.2.2.1
theorem dX12_laws_49 : decode cX12_laws 49 = .ok (.if_icmp .ne 10, 3) := dcX12_laws_3.2.2.2.2.2.1
theorem dX12_laws_52 : decode cX12_laws 52 = .ok (.iconst 1, 1) := dcX12_laws_3.2.2.2.2.2.2.1
theorem dX12_laws_53 : decode cX12_laws 53 = .ok (.iload 6, 2) := dcX12_laws_3.2.2.2.2.2.2.2
theorem dcX12_laws_4 : (decode cX12_laws 55 = .ok (.ishl, 1)) ∧ (decode cX12_laws 56 = .ok (.goto 4, 3)) ∧ (decode cX12_laws 59 = .ok (.iconst 0, 1)) ∧ (decode cX12_laws 60 = .ok (.ior, 1)) ∧ (decode cX12_laws 61 = .ok (.istore 5, 2)) ∧ (decode cX12_laws 63 = .ok (.iinc 6 1, 3)) ∧ (decode cX12_laws 66 = .ok (.goto (-41), 3)) ∧ (decode cX12_laws 69 = .ok (.aload_n 0, 1)) := by decide +kernel
theorem dX12_laws_55 : decode cX12_laws 55 = .ok (.ishl, 1) := dcX12_laws_4.1
theorem dX12_laws_56 : decode cX12_laws 56 = .ok (.goto 4, 3) := dcX12_laws_4.2.1
theorem dX12_laws_59 : decode cX12_laws 59 = .ok (.iconst 0, 1) := dcX12_laws_4.2.2.1
theorem dX12_laws_60 : decode cX12_laws 60 = .ok (.ior, 1) := dcX12_laws_4.2.2.2.1
theorem dX12_laws_61 : decode cX12_laws 61 = .ok (.istore 5, 2) := dcX12_laws_4.2.2.2.2.1
theorem dX12_laws_63 : decode cX12_laws 63 = .ok (.iinc 6 1, 3) := dcX12_laws_4.2.2.2.2.2.1
theorem dX12_laws_66 : decode cX12_laws 66 = .ok (.goto (-41), 3) := dcX12_laws_4.2.2.2.2.2.2.1
theorem dX12_laws_69 : decode cX12_laws 69 = .ok (.aload_n 0, 1) := dcX12_laws_4.2.2.2.2.2.2.2
theorem dcX12_laws_5 : (decode cX12_laws 70 = .ok (.iload 4, 2)) ∧ (decode cX12_laws 72 = .ok (.putfield 103, 3)) ∧ (decode cX12_laws 75 = .ok (.iload 5, 2)) ∧ (decode cX12_laws 77 = .ok (.ireturn, 1)) := by decide +kernel
theorem dX12_laws_70 : decode cX12_laws 70 = .ok (.iload 4, 2) := dcX12_laws_5.1
theorem dX12_laws_72 : decode cX12_laws 72 = .ok (.putfield 103, 3) := dcX12_laws_5.2.1
theorem dX12_laws_75 : decode cX12_laws 75 = .ok (.iload 5, 2) := dcX12_laws_5.2.2.1
theorem dX12_laws_77 : decode cX12_laws 77 = .ok (.ireturn, 1) := dcX12_laws_5.2.2.2
theorem dcX12_guess_0 : (decode cX12_guess 0 = .ok (.aload_n 0, 1)) ∧ (decode cX12_guess 1 = .ok (.iload_n 1, 1)) ∧ (decode cX12_guess 2 = .ok (.iload_n 2, 1)) ∧ (decode cX12_guess 3 = .ok (.invokevirtual 260, 3)) ∧ (decode cX12_guess 6 = .ok (.istore 4, 2)) ∧ (decode cX12_guess 8 = .ok (.iload 4, 2)) ∧ (decode cX12_guess 10 = .ok (.ifCond .eq 6, 3)) ∧ (decode cX12_guess 13 = .ok (.iload 4, 2)) := by decide +kernel
theorem dX12_guess_0 : decode cX12_guess 0 = .ok (.aload_n 0, 1) := dcX12_guess_0.1
theorem dX12_guess_1 : decode cX12_guess 1 = .ok (.iload_n 1, 1) := dcX12_guess_0.2.1
theorem dX12_guess_2 : decode cX12_guess 2 = .ok (.iload_n 2, 1) := dcX12_guess_0.2.2.1
theorem dX12_guess_3 : decode cX12_guess 3 = .ok (.invokevirtual 260, 3) := dcX12_guess_0.2.2.2.1
theorem dX12_guess_6 : decode cX12_guess 6 = .ok (.istore 4, 2) := dcX12_guess_0.2.2.2.2.1
theorem dX12_guess_8 : decode cX12_guess 8 = .ok (.iload 4, 2) := dcX12_guess_0.2.2.2.2.2.1
theorem dX12_guess_10 : decode cX12_guess 10 = .ok (.ifCond .eq 6, 3) := dcX12_guess_0.2.2.2.2.2.2.1
theorem dX12_guess_13 : decode cX12_guess 13 = .ok (.iload 4, 2) := dcX12_guess_0.2.2.2.2.2.2.2
theorem dcX12_guess_1 : (decode cX12_guess 15 = .ok (.ireturn, 1)) ∧ (decode cX12_guess 16 = .ok (.iload_n 3, 1)) ∧ (decode cX12_guess 17 = .ok (.iconst 0, 1)) ∧ (decode cX12_guess 18 = .ok (.iconst 1, 1)) ∧ (decode cX12_guess 19 = .ok (.invokestatic 93, 3)) ∧ (decode cX12_guess 22 = .ok (.ifCond .ne 6, 3)) ∧ (decode cX12_guess 25 = .ok (.bipush (-7), 2)) ∧ (decode cX12_guess 27 = .ok (.ireturn, 1)) := by decide +kernel
theorem dX12_guess_15 : decode cX12_guess 15 = .ok (.ireturn, 1) := dcX12_guess_1.1
theorem dX12_guess_16 : decode cX12_guess 16 = .ok (.iload_n 3, 1) := dcX12_guess_1.2.1
theorem dX12_guess_17 : decode cX12_guess 17 = .ok (.iconst 0, 1) := dcX12_guess_1.2.2.1
theorem dX12_guess_18 : decode cX12_guess 18 = .ok (.iconst 1, 1) := dcX12_guess_1.2.2.2.1
theorem dX12_guess_19 : decode cX12_guess 19 = .ok (.invokestatic 93, 3) := dcX12_guess_1.2.2.2.2.1
theorem dX12_guess_22 : decode cX12_guess 22 = .ok (.ifCond .ne 6, 3) := dcX12_guess_1.2.2.2.2.2.1
theorem dX12_guess_25 : decode cX12_guess 25 = .ok (.bipush (-7), 2) := dcX12_guess_1.2.2.2.2.2.2.1
theorem dX12_guess_27 : decode cX12_guess 27 = .ok (.ireturn, 1) := dcX12_guess_1.2.2.2.2.2.2.2
theorem dcX12_guess_2 : (decode cX12_guess 28 = .ok (.iconst 0, 1)) ∧ (decode cX12_guess 29 = .ok (.istore 5, 2)) ∧ (decode cX12_guess 31 = .ok (.iconst 0, 1)) ∧ (decode cX12_guess 32 = .ok (.istore 6, 2)) ∧ (decode cX12_guess 34 = .ok (.aload_n 0, 1)) ∧ (decode cX12_guess 35 = .ok (.iload_n 2, 1)) ∧ (decode cX12_guess 36 = .ok (.invokevirtual 225, 3)) ∧ (decode cX12_guess 39 = .ok (.iconst 0, 1)) := by decide +kernel
theorem dX12_guess_28 : decode cX12_guess 28 = .ok (.iconst 0, 1) := dcX12_guess_2.1
theorem dX12_guess_29 : decode cX12_guess 29 = .ok (.istore 5, 2) := dcX12_guess_2.2.1
theorem dX12_guess_31 : decode cX12_guess 31 = .ok (.iconst 0, 1) := dcX12_guess_2.2.2.1
theorem dX12_guess_32 : decode cX12_guess 32 = .ok (.istore 6, 2) := dcX12_guess_2.2.2.2.1
theorem dX12_guess_34 : decode cX12_guess 34 = .ok (.aload_n 0, 1) := dcX12_guess_2.2.2.2.2.1
theorem dX12_guess_35 : decode cX12_guess 35 = .ok (.iload_n 2, 1) := dcX12_guess_2.2.2.2.2.2.1
theorem dX12_guess_36 : decode cX12_guess 36 = .ok (.invokevirtual 225, 3) := dcX12_guess_2.2.2.2.2.2.2.1
theorem dX12_guess_39 : decode cX12_guess 39 = .ok (.iconst 0, 1) := dcX12_guess_2.2.2.2.2.2.2.2
theorem dcX12_guess_3 : (decode cX12_guess 40 = .ok (.istore 7, 2)) ∧ (decode cX12_guess 42 = .ok (.iload 7, 2)) ∧ (decode cX12_guess 44 = .ok (.aload_n 0, 1)) ∧ (decode cX12_guess 45 = .ok (.getfield 47, 3)) ∧ (decode cX12_guess 48 = .ok (.iload_n 1, 1)) ∧ (decode cX12_guess 49 = .ok (.iaload, 1)) ∧ (decode cX12_guess 50 = .ok (.if_icmp .ge 44, 3)) ∧ (decode cX12_guess 53 = .ok (.iload 5, 2)) := by decide +kernel
theorem dX12_guess_40 : decode cX12_guess 40 = .ok (.istore 7, 2) := dcX12_guess_3.1
theorem dX12_guess_42 : decode cX12_guess 42 = .ok (.iload 7, 2) := dcX12_guess_3.2.1
theorem dX12_guess_44 : decode cX12_guess 44 = .ok (.aload_n 0, 1) := dcX12_guess_3.2.2.1
theorem dX12_guess_45 : decode cX12_guess 45 = .ok (.getfield 47, 3) := dcX12_guess_3.2.2.2.1
theorem dX12_guess_48 : decode cX12_guess 48 = .ok (.iload_n 1, 1) := dcX12_guess_3.2.2.2.2.1
theorem dX12_guess_49 : decode cX12_guess 49 = .ok (.iaload, 1) := dcX12_guess_3.2.2.2.2.2.1
theorem dX12_guess_50 : decode cX12_guess 50 = .ok (.if_icmp .ge 44, 3) := dcX12_guess_3.2.2.2.2.2.2.1
theorem dX12_guess_53 : decode cX12_guess 53 = .ok (.iload 5, 2) := dcX12_guess_3.2.2.2.2.2.2.2
theorem dcX12_guess_4 : (decode cX12_guess 55 = .ok (.aload_n 0, 1)) ∧ (decode cX12_guess 56 = .ok (.getfield 50, 3)) ∧ (decode cX12_guess 59 = .ok (.bipush 40, 2)) ∧ (decode cX12_guess 61 = .ok (.iload_n 1, 1)) ∧ (decode cX12_guess 62 = .ok (.imul, 1)) ∧ (decode cX12_guess 63 = .ok (.iload 7, 2)) ∧ (decode cX12_guess 65 = .ok (.iadd, 1)) ∧ (decode cX12_guess 66 = .ok (.iaload, 1)) := by decide +kernel
theorem dX12_guess_55 : decode cX12_guess 55 = .ok (.aload_n 0, 1) := dcX12_guess_4.1
theorem dX12_guess_56 : decode cX12_guess 56 = .ok (.getfield 50, 3) := dcX12_guess_4.2.1
theorem dX12_guess_59 : decode cX12_guess 59 = .ok (.bipush 40, 2) := dcX12_guess_4.2.2.1
theorem dX12_guess_61 : decode cX12_guess 61 = .ok (.iload_n 1, 1) := dcX12_guess_4.2.2.2.1
theorem dX12_guess_62 : decode cX12_guess 62 = .ok (.imul, 1) := dcX12_guess_4.2.2.2.2.1
theorem dX12_guess_63 : decode cX12_guess 63 = .ok (.iload 7, 2) := dcX12_guess_4.2.2.2.2.2.1
theorem dX12_guess_65 : decode cX12_guess 65 = .ok (.iadd, 1) := dcX12_guess_4.2.2.2.2.2.2.1
theorem dX12_guess_66 : decode cX12_guess 66 = .ok (.iaload, 1) := dcX12_guess_4.2.2.2.2.2.2.2
theorem dcX12_guess_5 : (decode cX12_guess 67 = .ok (.ldc 186, 2)) ∧ (decode cX12_guess 69 = .ok (.iand, 1)) ∧ (decode cX12_guess 70 = .ok (.ior, 1)) ∧ (decode cX12_guess 71 = .ok (.istore 5, 2)) ∧ (decode cX12_guess 73 = .ok (.iload 6, 2)) ∧ (decode cX12_guess 75 = .ok (.aload_n 0, 1)) ∧ (decode cX12_guess 76 = .ok (.iload_n 2, 1)) ∧ (decode cX12_guess 77 = .ok (.invokevirtual 231, 3)) := by decide +kernel
theorem dX12_guess_67 : decode cX12_guess 67 = .ok (.ldc 186, 2) := dcX12_guess_5.1
theorem dX12_guess_69 : decode cX12_guess 69 = .ok (.iand, 1) := dcX12_guess_5.2.1
theorem dX12_guess_70 : decode cX12_guess 70 = .ok (.ior, 1) := dcX12_guess_5.2.2.1
theorem dX12_guess_71 : decode cX12_guess 71 = .ok (.istore 5, 2) := dcX12_guess_5.2.2.2.1
theorem dX12_guess_73 : decode cX12_guess 73 = .ok (.iload 6, 2) := dcX12_guess_5.2.2.2.2.1
theorem dX12_guess_75 : decode cX12_guess 75 = .ok (.aload_n 0, 1) := dcX12_guess_5.2.2.2.2.2.1
theorem dX12_guess_76 : decode cX12_guess 76 = .ok (.iload_n 2, 1) := dcX12_guess_5.2.2.2.2.2.2.1
theorem dX12_guess_77 : decode cX12_guess 77 = .ok (.invokevirtual 231, 3) := dcX12_guess_5.2.2.2.2.2.2.2
theorem dcX12_guess_6 : (decode cX12_guess 80 = .ok (.ior, 1)) ∧ (decode cX12_guess 81 = .ok (.istore 6, 2)) ∧ (decode cX12_guess 83 = .ok (.aload_n 0, 1)) ∧ (decode cX12_guess 84 = .ok (.iload_n 2, 1)) ∧ (decode cX12_guess 85 = .ok (.invokevirtual 228, 3)) ∧ (decode cX12_guess 88 = .ok (.iinc 7 1, 3)) ∧ (decode cX12_guess 91 = .ok (.goto (-49), 3)) ∧ (decode cX12_guess 94 = .ok (.iload_n 3, 1)) := by decide +kernel
theorem dX12_guess_80 : decode cX12_guess 80 = .ok (.ior, 1) := dcX12_guess_6.1
theorem dX12_guess_81 : decode cX12_guess 81 = .ok (.istore 6, 2) := dcX12_guess_6.2.1
theorem dX12_guess_83 : decode cX12_guess 83 = .ok (.aload_n 0, 1) := dcX12_guess_6.2.2.1
theorem dX12_guess_84 : decode cX12_guess 84 = .ok (.iload_n 2, 1) := dcX12_guess_6.2.2.2.1
theorem dX12_guess_85 : decode cX12_guess 85 = .ok (.invokevirtual 228, 3) := dcX12_guess_6.2.2.2.2.1
theorem dX12_guess_88 : decode cX12_guess 88 = .ok (.iinc 7 1, 3) := dcX12_guess_6.2.2.2.2.2.1
theorem dX12_guess_91 : decode cX12_guess 91 = .ok (.goto (-49), 3) := dcX12_guess_6.2.2.2.2.2.2.1
theorem dX12_guess_94 : decode cX12_guess 94 = .ok (.iload_n 3, 1) := dcX12_guess_6.2.2.2.2.2.2.2
theorem dcX12_guess_7 : (decode cX12_guess 95 = .ok (.ifCond .ne 8, 3)) ∧ (decode cX12_guess 98 = .ok (.iload 5, 2)) ∧ (decode cX12_guess 100 = .ok (.goto 10, 3)) ∧ (decode cX12_guess 103 = .ok (.ldc 186, 2)) ∧ (decode cX12_guess 105 = .ok (.iload 6, 2)) ∧ (decode cX12_guess 107 = .ok (.iconst (-1), 1)) ∧ (decode cX12_guess 108 = .ok (.ixor, 1)) ∧ (decode cX12_guess 109 = .ok (.iand, 1)) := by decide +kernel
theorem dX12_guess_95 : decode cX12_guess 95 = .ok (.ifCond .ne 8, 3) := dcX12_guess_7.1
theorem dX12_guess_98 : decode cX12_guess 98 = .ok (.iload 5, 2) := dcX12_guess_7.2.1
theorem dX12_guess_100 : decode cX12_guess 100 = .ok (.goto 10, 3) := dcX12_guess_7.2.2.1
theorem dX12_guess_103 : decode cX12_guess 103 = .ok (.ldc 186, 2) := dcX12_guess_7.2.2.2.1
theorem dX12_guess_105 : decode cX12_guess 105 = .ok (.iload 6, 2) := dcX12_guess_7.2.2.2.2.1
theorem dX12_guess_107 : decode cX12_guess 107 = .ok (.iconst (-1), 1) := dcX12_guess_7.2.2.2.2.2.1
theorem dX12_guess_108 : decode cX12_guess 108 = .ok (.ixor, 1) := dcX12_guess_7.2.2.2.2.2.2.1
theorem dX12_guess_109 : decode cX12_guess 109 = .ok (.iand, 1) := dcX12_guess_7.2.2.2.2.2.2.2
theorem dX12_guess_110 : decode cX12_guess 110 = .ok (.ireturn, 1) := by decide +kernel
theorem dcX12_film_0 : (decode cX12_film 0 = .ok (.iload_n 1, 1)) ∧ (decode cX12_film 1 = .ok (.iconst 0, 1)) ∧ (decode cX12_film 2 = .ok (.iconst 3, 1)) ∧ (decode cX12_film 3 = .ok (.invokestatic 93, 3)) ∧ (decode cX12_film 6 = .ok (.ifCond .ne 6, 3)) ∧ (decode cX12_film 9 = .ok (.bipush (-2), 2)) ∧ (decode cX12_film 11 = .ok (.ireturn, 1)) ∧ (decode cX12_film 12 = .ok (.aload_n 0, 1)) := by decide +kernel
theorem dX12_film_0 : decode cX12_film 0 = .ok (.iload_n 1, 1) := dcX12_film_0.1
theorem dX12_film_1 : decode cX12_film 1 = .ok (.iconst 0, 1) := dcX12_film_0.2.1
theorem dX12_film_2 : decode cX12_film 2 = .ok (.iconst 3, 1) := dcX12_film_0.2.2.1
theorem dX12_film_3 : decode cX12_film 3 = .ok (.invokestatic 93, 3) := dcX12_film_0.2.2.2.1
theorem dX12_film_6 : decode cX12_film 6 = .ok (.ifCond .ne 6, 3) := dcX12_film_0.2.2.2.2.1
theorem dX12_film_9 : decode cX12_film 9 = .ok (.bipush (-2), 2) := dcX12_film_0.2.2.2.2.2.1
theorem dX12_film_11 : decode cX12_film 11 = .ok (.ireturn, 1) := dcX12_film_0.2.2.2.2.2.2.1
theorem dX12_film_12 : decode cX12_film 12 = .ok (.aload_n 0, 1) := dcX12_film_0.2.2.2.2.2.2.2
theorem dcX12_film_1 : (decode cX12_film 13 = .ok (.iload_n 2, 1)) ∧ (decode cX12_film 14 = .ok (.invokevirtual 176, 3)) ∧ (decode cX12_film 17 = .ok (.ifCond .ne 6, 3)) ∧ (decode cX12_film 20 = .ok (.bipush (-5), 2)) ∧ (decode cX12_film 22 = .ok (.ireturn, 1)) ∧ (decode cX12_film 23 = .ok (.iload_n 3, 1)) ∧ (decode cX12_film 24 = .ok (.iconst 0, 1)) ∧ (decode cX12_film 25 = .ok (.bipush 20, 2)) := by decide +kernel
theorem dX12_film_13 : decode cX12_film 13 = .ok (.iload_n 2, 1) := dcX12_film_1.1
theorem dX12_film_14 : decode cX12_film 14 = .ok (.invokevirtual 176, 3) := dcX12_film_1.2.1
theorem dX12_film_17 : decode cX12_film 17 = .ok (.ifCond .ne 6, 3) := dcX12_film_1.2.2.1
theorem dX12_film_20 : decode cX12_film 20 = .ok (.bipush (-5), 2) := dcX12_film_1.2.2.2.1
theorem dX12_film_22 : decode cX12_film 22 = .ok (.ireturn, 1) := dcX12_film_1.2.2.2.2.1
theorem dX12_film_23 : decode cX12_film 23 = .ok (.iload_n 3, 1) := dcX12_film_1.2.2.2.2.2.1
theorem dX12_film_24 : decode cX12_film 24 = .ok (.iconst 0, 1) := dcX12_film_1.2.2.2.2.2.2.1
theorem dX12_film_25 : decode cX12_film 25 = .ok (.bipush 20, 2) := dcX12_film_1.2.2.2.2.2.2.2
theorem dcX12_film_2 : (decode cX12_film 27 = .ok (.invokestatic 93, 3)) ∧ (decode cX12_film 30 = .ok (.ifCond .ne 6, 3)) ∧ (decode cX12_film 33 = .ok (.bipush (-7), 2)) ∧ (decode cX12_film 35 = .ok (.ireturn, 1)) ∧ (decode cX12_film 36 = .ok (.aload_n 0, 1)) ∧ (decode cX12_film 37 = .ok (.getfield 44, 3)) ∧ (decode cX12_film 40 = .ok (.iload_n 1, 1)) ∧ (decode cX12_film 41 = .ok (.iconst 2, 1)) := by decide +kernel
theorem dX12_film_27 : decode cX12_film 27 = .ok (.invokestatic 93, 3) := dcX12_film_2.1
theorem dX12_film_30 : decode cX12_film 30 = .ok (.ifCond .ne 6, 3) := dcX12_film_2.2.1
theorem dX12_film_33 : decode cX12_film 33 = .ok (.bipush (-7), 2) := dcX12_film_2.2.2.1
theorem dX12_film_35 : decode cX12_film 35 = .ok (.ireturn, 1) := dcX12_film_2.2.2.2.1
theorem dX12_film_36 : decode cX12_film 36 = .ok (.aload_n 0, 1) := dcX12_film_2.2.2.2.2.1
theorem dX12_film_37 : decode cX12_film 37 = .ok (.getfield 44, 3) := dcX12_film_2.2.2.2.2.2.1
theorem dX12_film_40 : decode cX12_film 40 = .ok (.iload_n 1, 1) := dcX12_film_2.2.2.2.2.2.2.1
theorem dX12_film_41 : decode cX12_film 41 = .ok (.iconst 2, 1) := dcX12_film_2.2.2.2.2.2.2.2
theorem dcX12_film_3 : (decode cX12_film 42 = .ok (.iastore, 1)) ∧ (decode cX12_film 43 = .ok (.aload_n 0, 1)) ∧ (decode cX12_film 44 = .ok (.getfield 47, 3)) ∧ (decode cX12_film 47 = .ok (.iload_n 1, 1)) ∧ (decode cX12_film 48 = .ok (.iload_n 3, 1)) ∧ (decode cX12_film 49 = .ok (.iastore, 1)) ∧ (decode cX12_film 50 = .ok (.aload_n 0, 1)) ∧ (decode cX12_film 51 = .ok (.iload_n 2, 1)) := by decide +kernel
theorem dX12_film_42 : decode cX12_film 42 = .ok (.iastore, 1) := dcX12_film_3.1
theorem dX12_film_43 : decode cX12_film 43 = .ok (.aload_n 0, 1) := dcX12_film_3.2.1
theorem dX12_film_44 : decode cX12_film 44 = .ok (.getfield 47, 3) := dcX12_film_3.2.2.1
theorem dX12_film_47 : decode cX12_film 47 = .ok (.iload_n 1, 1) := dcX12_film_3.2.2.2.1
theorem dX12_film_48 : decode cX12_film 48 = .ok (.iload_n 3, 1) := dcX12_film_3.2.2.2.2.1
theorem dX12_film_49 : decode cX12_film 49 = .ok (.iastore, 1) := dcX12_film_3.2.2.2.2.2.1
theorem dX12_film_50 : decode cX12_film 50 = .ok (.aload_n 0, 1) := dcX12_film_3.2.2.2.2.2.2.1
theorem dX12_film_51 : decode cX12_film 51 = .ok (.iload_n 2, 1) := dcX12_film_3.2.2.2.2.2.2.2
theorem dcX12_film_4 : (decode cX12_film 52 = .ok (.invokevirtual 225, 3)) ∧ (decode cX12_film 55 = .ok (.iconst 0, 1)) ∧ (decode cX12_film 56 = .ok (.istore 4, 2)) ∧ (decode cX12_film 58 = .ok (.iload 4, 2)) ∧ (decode cX12_film 60 = .ok (.bipush 40, 2)) ∧ (decode cX12_film 62 = .ok (.if_icmp .ge 57, 3)) ∧ (decode cX12_film 65 = .ok (.aload_n 0, 1)) ∧ (decode cX12_film 66 = .ok (.getfield 50, 3)) := by decide +kernel
theorem dX12_film_52 : decode cX12_film 52 = .ok (.invokevirtual 225, 3) := dcX12_film_4.1
theorem dX12_film_55 : decode cX12_film 55 = .ok (.iconst 0, 1) := dcX12_film_4.2.1
theorem dX12_film_56 : decode cX12_film 56 = .ok (.istore 4, 2) := dcX12_film_4.2.2.1
theorem dX12_film_58 : decode cX12_film 58 = .ok (.iload 4, 2) := dcX12_film_4.2.2.2.1
theorem dX12_film_60 : decode cX12_film 60 = .ok (.bipush 40, 2) := dcX12_film_4.2.2.2.2.1
theorem dX12_film_62 : decode cX12_film 62 = .ok (.if_icmp .ge 57, 3) := dcX12_film_4.2.2.2.2.2.1
theorem dX12_film_65 : decode cX12_film 65 = .ok (.aload_n 0, 1) := dcX12_film_4.2.2.2.2.2.2.1
theorem dX12_film_66 : decode cX12_film 66 = .ok (.getfield 50, 3) := dcX12_film_4.2.2.2.2.2.2.2
theorem dcX12_film_5 : (decode cX12_film 69 = .ok (.bipush 40, 2)) ∧ (decode cX12_film 71 = .ok (.iload_n 1, 1)) ∧ (decode cX12_film 72 = .ok (.imul, 1)) ∧ (decode cX12_film 73 = .ok (.iload 4, 2)) ∧ (decode cX12_film 75 = .ok (.iadd, 1)) ∧ (decode cX12_film 76 = .ok (.iconst 0, 1)) ∧ (decode cX12_film 77 = .ok (.iastore, 1)) ∧ (decode cX12_film 78 = .ok (.iload 4, 2)) := by decide +kernel
theorem dX12_film_69 : decode cX12_film 69 = .ok (.bipush 40, 2) := dcX12_film_5.1
theorem dX12_film_71 : decode cX12_film 71 = .ok (.iload_n 1, 1) := dcX12_film_5.2.1
theorem dX12_film_72 : decode cX12_film 72 = .ok (.imul, 1) := dcX12_film_5.2.2.1
theorem dX12_film_73 : decode cX12_film 73 = .ok (.iload 4, 2) := dcX12_film_5.2.2.2.1
theorem dX12_film_75 : decode cX12_film 75 = .ok (.iadd, 1) := dcX12_film_5.2.2.2.2.1
theorem dX12_film_76 : decode cX12_film 76 = .ok (.iconst 0, 1) := dcX12_film_5.2.2.2.2.2.1
theorem dX12_film_77 : decode cX12_film 77 = .ok (.iastore, 1) := dcX12_film_5.2.2.2.2.2.2.1
theorem dX12_film_78 : decode cX12_film 78 = .ok (.iload 4, 2) := dcX12_film_5.2.2.2.2.2.2.2
theorem dcX12_film_6 : (decode cX12_film 80 = .ok (.iload_n 3, 1)) ∧ (decode cX12_film 81 = .ok (.if_icmp .ge 32, 3)) ∧ (decode cX12_film 84 = .ok (.aload_n 0, 1)) ∧ (decode cX12_film 85 = .ok (.getfield 50, 3)) ∧ (decode cX12_film 88 = .ok (.bipush 40, 2)) ∧ (decode cX12_film 90 = .ok (.iload_n 1, 1)) ∧ (decode cX12_film 91 = .ok (.imul, 1)) ∧ (decode cX12_film 92 = .ok (.iload 4, 2)) := by decide +kernel
theorem dX12_film_80 : decode cX12_film 80 = .ok (.iload_n 3, 1) := dcX12_film_6.1
theorem dX12_film_81 : decode cX12_film 81 = .ok (.if_icmp .ge 32, 3) := dcX12_film_6.2.1
theorem dX12_film_84 : decode cX12_film 84 = .ok (.aload_n 0, 1) := dcX12_film_6.2.2.1
theorem dX12_film_85 : decode cX12_film 85 = .ok (.getfield 50, 3) := dcX12_film_6.2.2.2.1
theorem dX12_film_88 : decode cX12_film 88 = .ok (.bipush 40, 2) := dcX12_film_6.2.2.2.2.1
theorem dX12_film_90 : decode cX12_film 90 = .ok (.iload_n 1, 1) := dcX12_film_6.2.2.2.2.2.1
theorem dX12_film_91 : decode cX12_film 91 = .ok (.imul, 1) := dcX12_film_6.2.2.2.2.2.2.1
theorem dX12_film_92 : decode cX12_film 92 = .ok (.iload 4, 2) := dcX12_film_6.2.2.2.2.2.2.2
theorem dcX12_film_7 : (decode cX12_film 94 = .ok (.iadd, 1)) ∧ (decode cX12_film 95 = .ok (.aload_n 0, 1)) ∧ (decode cX12_film 96 = .ok (.iload_n 2, 1)) ∧ (decode cX12_film 97 = .ok (.invokevirtual 231, 3)) ∧ (decode cX12_film 100 = .ok (.aload_n 0, 1)) ∧ (decode cX12_film 101 = .ok (.getfield 19, 3)) ∧ (decode cX12_film 104 = .ok (.iload_n 2, 1)) ∧ (decode cX12_film 105 = .ok (.iaload, 1)) := by decide +kernel
theorem dX12_film_94 : decode cX12_film 94 = .ok (.iadd, 1) := dcX12_film_7.1
theorem dX12_film_95 : decode cX12_film 95 = .ok (.aload_n 0, 1) := dcX12_film_7.2.1
theorem dX12_film_96 : decode cX12_film 96 = .ok (.iload_n 2, 1) := dcX12_film_7.2.2.1
theorem dX12_film_97 : decode cX12_film 97 = .ok (.invokevirtual 231, 3) := dcX12_film_7.2.2.2.1
theorem dX12_film_100 : decode cX12_film 100 = .ok (.aload_n 0, 1) := dcX12_film_7.2.2.2.2.1
theorem dX12_film_101 : decode cX12_film 101 = .ok (.getfield 19, 3) := dcX12_film_7.2.2.2.2.2.1
theorem dX12_film_104 : decode cX12_film 104 = .ok (.iload_n 2, 1) := dcX12_film_7.2.2.2.2.2.2.1
theorem dX12_film_105 : decode cX12_film 105 = .ok (.iaload, 1) := dcX12_film_7.2.2.2.2.2.2.2
theorem dcX12_film_8 : (decode cX12_film 106 = .ok (.iand, 1)) ∧ (decode cX12_film 107 = .ok (.iastore, 1)) ∧ (decode cX12_film 108 = .ok (.aload_n 0, 1)) ∧ (decode cX12_film 109 = .ok (.iload_n 2, 1)) ∧ (decode cX12_film 110 = .ok (.invokevirtual 228, 3)) ∧ (decode cX12_film 113 = .ok (.iinc 4 1, 3)) ∧ (decode cX12_film 116 = .ok (.goto (-58), 3)) ∧ (decode cX12_film 119 = .ok (.iload_n 3, 1)) := by decide +kernel
theorem dX12_film_106 : decode cX12_film 106 = .ok (.iand, 1) := dcX12_film_8.1
theorem dX12_film_107 : decode cX12_film 107 = .ok (.iastore, 1) := dcX12_film_8.2.1
theorem dX12_film_108 : decode cX12_film 108 = .ok (.aload_n 0, 1) := dcX12_film_8.2.2.1
theorem dX12_film_109 : decode cX12_film 109 = .ok (.iload_n 2, 1) := dcX12_film_8.2.2.2.1
theorem dX12_film_110 : decode cX12_film 110 = .ok (.invokevirtual 228, 3) := dcX12_film_8.2.2.2.2.1
theorem dX12_film_113 : decode cX12_film 113 = .ok (.iinc 4 1, 3) := dcX12_film_8.2.2.2.2.2.1
theorem dX12_film_116 : decode cX12_film 116 = .ok (.goto (-58), 3) := dcX12_film_8.2.2.2.2.2.2.1
theorem dX12_film_119 : decode cX12_film 119 = .ok (.iload_n 3, 1) := dcX12_film_8.2.2.2.2.2.2.2
theorem dX12_film_120 : decode cX12_film 120 = .ok (.ireturn, 1) := by decide +kernel
theorem dcX12_seenBy_0 : (decode cX12_seenBy 0 = .ok (.iload_n 1, 1)) ∧ (decode cX12_seenBy 1 = .ok (.i2l, 1)) ∧ (decode cX12_seenBy 2 = .ok (.lconst 1, 1)) ∧ (decode cX12_seenBy 3 = .ok (.ladd, 1)) ∧ (decode cX12_seenBy 4 = .ok (.lstore_n 3, 1)) ∧ (decode cX12_seenBy 5 = .ok (.iconst 0, 1)) ∧ (decode cX12_seenBy 6 = .ok (.istore 5, 2)) ∧ (decode cX12_seenBy 8 = .ok (.iload 5, 2)) := by decide +kernel
theorem dX12_seenBy_0 : decode cX12_seenBy 0 = .ok (.iload_n 1, 1) := dcX12_seenBy_0.1
theorem dX12_seenBy_1 : decode cX12_seenBy 1 = .ok (.i2l, 1) := dcX12_seenBy_0.2.1
theorem dX12_seenBy_2 : decode cX12_seenBy 2 = .ok (.lconst 1, 1) := dcX12_seenBy_0.2.2.1
theorem dX12_seenBy_3 : decode cX12_seenBy 3 = .ok (.ladd, 1) := dcX12_seenBy_0.2.2.2.1
theorem dX12_seenBy_4 : decode cX12_seenBy 4 = .ok (.lstore_n 3, 1) := dcX12_seenBy_0.2.2.2.2.1
theorem dX12_seenBy_5 : decode cX12_seenBy 5 = .ok (.iconst 0, 1) := dcX12_seenBy_0.2.2.2.2.2.1
theorem dX12_seenBy_6 : decode cX12_seenBy 6 = .ok (.istore 5, 2) := dcX12_seenBy_0.2.2.2.2.2.2.1
theorem dX12_seenBy_8 : decode cX12_seenBy 8 = .ok (.iload 5, 2) := dcX12_seenBy_0.2.2.2.2.2.2.2
theorem dcX12_seenBy_1 : (decode cX12_seenBy 10 = .ok (.bipush 96, 2)) ∧ (decode cX12_seenBy 12 = .ok (.if_icmp .ge 23, 3)) ∧ (decode cX12_seenBy 15 = .ok (.aload_n 0, 1)) ∧ (decode cX12_seenBy 16 = .ok (.getfield 80, 3)) ∧ (decode cX12_seenBy 19 = .ok (.iload 5, 2)) ∧ (decode cX12_seenBy 21 = .ok (.aload_n 0, 1)) ∧ (decode cX12_seenBy 22 = .ok (.getfield 16, 3)) ∧ (decode cX12_seenBy 25 = .ok (.iload 5, 2)) := by decide +kernel
theorem dX12_seenBy_10 : decode cX12_seenBy 10 = .ok (.bipush 96, 2) := dcX12_seenBy_1.1
theorem dX12_seenBy_12 : decode cX12_seenBy 12 = .ok (.if_icmp .ge 23, 3) := dcX12_seenBy_1.2.1
theorem dX12_seenBy_15 : decode cX12_seenBy 15 = .ok (.aload_n 0, 1) := dcX12_seenBy_1.2.2.1
theorem dX12_seenBy_16 : decode cX12_seenBy 16 = .ok (.getfield 80, 3) := dcX12_seenBy_1.2.2.2.1
theorem dX12_seenBy_19 : decode cX12_seenBy 19 = .ok (.iload 5, 2) := dcX12_seenBy_1.2.2.2.2.1
theorem dX12_seenBy_21 : decode cX12_seenBy 21 = .ok (.aload_n 0, 1) := dcX12_seenBy_1.2.2.2.2.2.1
theorem dX12_seenBy_22 : decode cX12_seenBy 22 = .ok (.getfield 16, 3) := dcX12_seenBy_1.2.2.2.2.2.2.1
theorem dX12_seenBy_25 : decode cX12_seenBy 25 = .ok (.iload 5, 2) := dcX12_seenBy_1.2.2.2.2.2.2.2
theorem dcX12_seenBy_2 : (decode cX12_seenBy 27 = .ok (.iaload, 1)) ∧ (decode cX12_seenBy 28 = .ok (.iastore, 1)) ∧ (decode cX12_seenBy 29 = .ok (.iinc 5 1, 3)) ∧ (decode cX12_seenBy 32 = .ok (.goto (-24), 3)) ∧ (decode cX12_seenBy 35 = .ok (.iconst 0, 1)) ∧ (decode cX12_seenBy 36 = .ok (.istore 5, 2)) ∧ (decode cX12_seenBy 38 = .ok (.iload 5, 2)) ∧ (decode cX12_seenBy 40 = .ok (.iload_n 2, 1)) := by decide +kernel
theorem dX12_seenBy_27 : decode cX12_seenBy 27 = .ok (.iaload, 1) := dcX12_seenBy_2.1
theorem dX12_seenBy_28 : decode cX12_seenBy 28 = .ok (.iastore, 1) := dcX12_seenBy_2.2.1
theorem dX12_seenBy_29 : decode cX12_seenBy 29 = .ok (.iinc 5 1, 3) := dcX12_seenBy_2.2.2.1
theorem dX12_seenBy_32 : decode cX12_seenBy 32 = .ok (.goto (-24), 3) := dcX12_seenBy_2.2.2.2.1
theorem dX12_seenBy_35 : decode cX12_seenBy 35 = .ok (.iconst 0, 1) := dcX12_seenBy_2.2.2.2.2.1
theorem dX12_seenBy_36 : decode cX12_seenBy 36 = .ok (.istore 5, 2) := dcX12_seenBy_2.2.2.2.2.2.1
theorem dX12_seenBy_38 : decode cX12_seenBy 38 = .ok (.iload 5, 2) := dcX12_seenBy_2.2.2.2.2.2.2.1
theorem dX12_seenBy_40 : decode cX12_seenBy 40 = .ok (.iload_n 2, 1) := dcX12_seenBy_2.2.2.2.2.2.2.2
theorem dcX12_seenBy_3 : (decode cX12_seenBy 41 = .ok (.if_icmp .ge 69, 3)) ∧ (decode cX12_seenBy 44 = .ok (.aload_n 0, 1)) ∧ (decode cX12_seenBy 45 = .ok (.getfield 90, 3)) ∧ (decode cX12_seenBy 48 = .ok (.ifCond .le 62, 3)) ∧ (decode cX12_seenBy 51 = .ok (.lload_n 3, 1)) ∧ (decode cX12_seenBy 52 = .ok (.ldc2_w 269, 3)) ∧ (decode cX12_seenBy 55 = .ok (.lmul, 1)) ∧ (decode cX12_seenBy 56 = .ok (.ldc2_w 271, 3)) := by decide +kernel
theorem dX12_seenBy_41 : decode cX12_seenBy 41 = .ok (.if_icmp .ge 69, 3) := dcX12_seenBy_3.1
theorem dX12_seenBy_44 : decode cX12_seenBy 44 = .ok (.aload_n 0, 1) := dcX12_seenBy_3.2.1
theorem dX12_seenBy_45 : decode cX12_seenBy 45 = .ok (.getfield 90, 3) := dcX12_seenBy_3.2.2.1
theorem dX12_seenBy_48 : decode cX12_seenBy 48 = .ok (.ifCond .le 62, 3) := dcX12_seenBy_3.2.2.2.1
theorem dX12_seenBy_51 : decode cX12_seenBy 51 = .ok (.lload_n 3, 1) := dcX12_seenBy_3.2.2.2.2.1
theorem dX12_seenBy_52 : decode cX12_seenBy 52 = .ok (.ldc2_w 269, 3) := dcX12_seenBy_3.2.2.2.2.2.1
theorem dX12_seenBy_55 : decode cX12_seenBy 55 = .ok (.lmul, 1) := dcX12_seenBy_3.2.2.2.2.2.2.1
theorem dX12_seenBy_56 : decode cX12_seenBy 56 = .ok (.ldc2_w 271, 3) := dcX12_seenBy_3.2.2.2.2.2.2.2
theorem dcX12_seenBy_4 : (decode cX12_seenBy 59 = .ok (.lrem, 1)) ∧ (decode cX12_seenBy 60 = .ok (.lstore_n 3, 1)) ∧ (decode cX12_seenBy 61 = .ok (.lload_n 3, 1)) ∧ (decode cX12_seenBy 62 = .ok (.ldc2_w 273, 3)) ∧ (decode cX12_seenBy 65 = .ok (.aload_n 0, 1)) ∧ (decode cX12_seenBy 66 = .ok (.getfield 90, 3)) ∧ (decode cX12_seenBy 69 = .ok (.i2l, 1)) ∧ (decode cX12_seenBy 70 = .ok (.lmul, 1)) := by decide +kernel
theorem dX12_seenBy_59 : decode cX12_seenBy 59 = .ok (.lrem, 1) := dcX12_seenBy_4.1
theorem dX12_seenBy_60 : decode cX12_seenBy 60 = .ok (.lstore_n 3, 1) := dcX12_seenBy_4.2.1
theorem dX12_seenBy_61 : decode cX12_seenBy 61 = .ok (.lload_n 3, 1) := dcX12_seenBy_4.2.2.1
theorem dX12_seenBy_62 : decode cX12_seenBy 62 = .ok (.ldc2_w 273, 3) := dcX12_seenBy_4.2.2.2.1
theorem dX12_seenBy_65 : decode cX12_seenBy 65 = .ok (.aload_n 0, 1) := dcX12_seenBy_4.2.2.2.2.1
theorem dX12_seenBy_66 : decode cX12_seenBy 66 = .ok (.getfield 90, 3) := dcX12_seenBy_4.2.2.2.2.2.1
theorem dX12_seenBy_69 : decode cX12_seenBy 69 = .ok (.i2l, 1) := dcX12_seenBy_4.2.2.2.2.2.2.1
theorem dX12_seenBy_70 : decode cX12_seenBy 70 = .ok (.lmul, 1) := dcX12_seenBy_4.2.2.2.2.2.2.2
theorem dcX12_seenBy_5 : (decode cX12_seenBy 71 = .ok (.lrem, 1)) ∧ (decode cX12_seenBy 72 = .ok (.l2i, 1)) ∧ (decode cX12_seenBy 73 = .ok (.iconst 0, 1)) ∧ (decode cX12_seenBy 74 = .ok (.bipush 95, 2)) ∧ (decode cX12_seenBy 76 = .ok (.invokestatic 173, 3)) ∧ (decode cX12_seenBy 79 = .ok (.istore 6, 2)) ∧ (decode cX12_seenBy 81 = .ok (.aload_n 0, 1)) ∧ (decode cX12_seenBy 82 = .ok (.getfield 16, 3)) := by decide +kernel
theorem dX12_seenBy_71 : decode cX12_seenBy 71 = .ok (.lrem, 1) := dcX12_seenBy_5.1
theorem dX12_seenBy_72 : decode cX12_seenBy 72 = .ok (.l2i, 1) := dcX12_seenBy_5.2.1
theorem dX12_seenBy_73 : decode cX12_seenBy 73 = .ok (.iconst 0, 1) := dcX12_seenBy_5.2.2.1
theorem dX12_seenBy_74 : decode cX12_seenBy 74 = .ok (.bipush 95, 2) := dcX12_seenBy_5.2.2.2.1
theorem dX12_seenBy_76 : decode cX12_seenBy 76 = .ok (.invokestatic 173, 3) := dcX12_seenBy_5.2.2.2.2.1
theorem dX12_seenBy_79 : decode cX12_seenBy 79 = .ok (.istore 6, 2) := dcX12_seenBy_5.2.2.2.2.2.1
theorem dX12_seenBy_81 : decode cX12_seenBy 81 = .ok (.aload_n 0, 1) := dcX12_seenBy_5.2.2.2.2.2.2.1
theorem dX12_seenBy_82 : decode cX12_seenBy 82 = .ok (.getfield 16, 3) := dcX12_seenBy_5.2.2.2.2.2.2.2
theorem dcX12_seenBy_6 : (decode cX12_seenBy 85 = .ok (.iload 6, 2)) ∧ (decode cX12_seenBy 87 = .ok (.aload_n 0, 1)) ∧ (decode cX12_seenBy 88 = .ok (.getfield 16, 3)) ∧ (decode cX12_seenBy 91 = .ok (.iload 6, 2)) ∧ (decode cX12_seenBy 93 = .ok (.iaload, 1)) ∧ (decode cX12_seenBy 94 = .ok (.bipush 20, 2)) ∧ (decode cX12_seenBy 96 = .ok (.iadd, 1)) ∧ (decode cX12_seenBy 97 = .ok (.iconst 0, 1)) := by decide +kernel
theorem dX12_seenBy_85 : decode cX12_seenBy 85 = .ok (.iload 6, 2) := dcX12_seenBy_6.1
theorem dX12_seenBy_87 : decode cX12_seenBy 87 = .ok (.aload_n 0, 1) := dcX12_seenBy_6.2.1
theorem dX12_seenBy_88 : decode cX12_seenBy 88 = .ok (.getfield 16, 3) := dcX12_seenBy_6.2.2.1
theorem dX12_seenBy_91 : decode cX12_seenBy 91 = .ok (.iload 6, 2) := dcX12_seenBy_6.2.2.2.1
theorem dX12_seenBy_93 : decode cX12_seenBy 93 = .ok (.iaload, 1) := dcX12_seenBy_6.2.2.2.2.1
theorem dX12_seenBy_94 : decode cX12_seenBy 94 = .ok (.bipush 20, 2) := dcX12_seenBy_6.2.2.2.2.2.1
theorem dX12_seenBy_96 : decode cX12_seenBy 96 = .ok (.iadd, 1) := dcX12_seenBy_6.2.2.2.2.2.2.1
theorem dX12_seenBy_97 : decode cX12_seenBy 97 = .ok (.iconst 0, 1) := dcX12_seenBy_6.2.2.2.2.2.2.2
theorem dcX12_seenBy_7 : (decode cX12_seenBy 98 = .ok (.bipush 99, 2)) ∧ (decode cX12_seenBy 100 = .ok (.invokestatic 173, 3)) ∧ (decode cX12_seenBy 103 = .ok (.iastore, 1)) ∧ (decode cX12_seenBy 104 = .ok (.iinc 5 1, 3)) ∧ (decode cX12_seenBy 107 = .ok (.goto (-69), 3)) ∧ (decode cX12_seenBy 110 = .ok (.aload_n 0, 1)) ∧ (decode cX12_seenBy 111 = .ok (.invokevirtual 215, 3)) ∧ (decode cX12_seenBy 114 = .ok (.istore 5, 2)) := by decide +kernel
theorem dX12_seenBy_98 : decode cX12_seenBy 98 = .ok (.bipush 99, 2) := dcX12_seenBy_7.1
theorem dX12_seenBy_100 : decode cX12_seenBy 100 = .ok (.invokestatic 173, 3) := dcX12_seenBy_7.2.1
theorem dX12_seenBy_103 : decode cX12_seenBy 103 = .ok (.iastore, 1) := dcX12_seenBy_7.2.2.1
theorem dX12_seenBy_104 : decode cX12_seenBy 104 = .ok (.iinc 5 1, 3) := dcX12_seenBy_7.2.2.2.1
theorem dX12_seenBy_107 : decode cX12_seenBy 107 = .ok (.goto (-69), 3) := dcX12_seenBy_7.2.2.2.2.1
theorem dX12_seenBy_110 : decode cX12_seenBy 110 = .ok (.aload_n 0, 1) := dcX12_seenBy_7.2.2.2.2.2.1
theorem dX12_seenBy_111 : decode cX12_seenBy 111 = .ok (.invokevirtual 215, 3) := dcX12_seenBy_7.2.2.2.2.2.2.1
theorem dX12_seenBy_114 : decode cX12_seenBy 114 = .ok (.istore 5, 2) := dcX12_seenBy_7.2.2.2.2.2.2.2
theorem dcX12_seenBy_8 : (decode cX12_seenBy 116 = .ok (.iconst 0, 1)) ∧ (decode cX12_seenBy 117 = .ok (.istore 6, 2)) ∧ (decode cX12_seenBy 119 = .ok (.iload 6, 2)) ∧ (decode cX12_seenBy 121 = .ok (.bipush 96, 2)) ∧ (decode cX12_seenBy 123 = .ok (.if_icmp .ge 23, 3)) ∧ (decode cX12_seenBy 126 = .ok (.aload_n 0, 1)) ∧ (decode cX12_seenBy 127 = .ok (.getfield 16, 3)) ∧ (decode cX12_seenBy 130 = .ok (.iload 6, 2)) := by decide +kernel
theorem dX12_seenBy_116 : decode cX12_seenBy 116 = .ok (.iconst 0, 1) := dcX12_seenBy_8.1
theorem dX12_seenBy_117 : decode cX12_seenBy 117 = .ok (.istore 6, 2) := dcX12_seenBy_8.2.1
theorem dX12_seenBy_119 : decode cX12_seenBy 119 = .ok (.iload 6, 2) := dcX12_seenBy_8.2.2.1
theorem dX12_seenBy_121 : decode cX12_seenBy 121 = .ok (.bipush 96, 2) := dcX12_seenBy_8.2.2.2.1
theorem dX12_seenBy_123 : decode cX12_seenBy 123 = .ok (.if_icmp .ge 23, 3) := dcX12_seenBy_8.2.2.2.2.1
theorem dX12_seenBy_126 : decode cX12_seenBy 126 = .ok (.aload_n 0, 1) := dcX12_seenBy_8.2.2.2.2.2.1
theorem dX12_seenBy_127 : decode cX12_seenBy 127 = .ok (.getfield 16, 3) := dcX12_seenBy_8.2.2.2.2.2.2.1
theorem dX12_seenBy_130 : decode cX12_seenBy 130 = .ok (.iload 6, 2) := dcX12_seenBy_8.2.2.2.2.2.2.2
theorem dcX12_seenBy_9 : (decode cX12_seenBy 132 = .ok (.aload_n 0, 1)) ∧ (decode cX12_seenBy 133 = .ok (.getfield 80, 3)) ∧ (decode cX12_seenBy 136 = .ok (.iload 6, 2)) ∧ (decode cX12_seenBy 138 = .ok (.iaload, 1)) ∧ (decode cX12_seenBy 139 = .ok (.iastore, 1)) ∧ (decode cX12_seenBy 140 = .ok (.iinc 6 1, 3)) ∧ (decode cX12_seenBy 143 = .ok (.goto (-24), 3)) ∧ (decode cX12_seenBy 146 = .ok (.iload 5, 2)) := by decide +kernel
theorem dX12_seenBy_132 : decode cX12_seenBy 132 = .ok (.aload_n 0, 1) := dcX12_seenBy_9.1
theorem dX12_seenBy_133 : decode cX12_seenBy 133 = .ok (.getfield 80, 3) := dcX12_seenBy_9.2.1
theorem dX12_seenBy_136 : decode cX12_seenBy 136 = .ok (.iload 6, 2) := dcX12_seenBy_9.2.2.1
theorem dX12_seenBy_138 : decode cX12_seenBy 138 = .ok (.iaload, 1) := dcX12_seenBy_9.2.2.2.1
theorem dX12_seenBy_139 : decode cX12_seenBy 139 = .ok (.iastore, 1) := dcX12_seenBy_9.2.2.2.2.1
theorem dX12_seenBy_140 : decode cX12_seenBy 140 = .ok (.iinc 6 1, 3) := dcX12_seenBy_9.2.2.2.2.2.1
theorem dX12_seenBy_143 : decode cX12_seenBy 143 = .ok (.goto (-24), 3) := dcX12_seenBy_9.2.2.2.2.2.2.1
theorem dX12_seenBy_146 : decode cX12_seenBy 146 = .ok (.iload 5, 2) := dcX12_seenBy_9.2.2.2.2.2.2.2
theorem dX12_seenBy_148 : decode cX12_seenBy 148 = .ok (.ireturn, 1) := by decide +kernel
theorem dcX12_drawn_0 : (decode cX12_drawn 0 = .ok (.iload_n 1, 1)) ∧ (decode cX12_drawn 1 = .ok (.iconst 0, 1)) ∧ (decode cX12_drawn 2 = .ok (.ldc_w 275, 3)) ∧ (decode cX12_drawn 5 = .ok (.invokestatic 93, 3)) ∧ (decode cX12_drawn 8 = .ok (.ifCond .eq 22, 3)) ∧ (decode cX12_drawn 11 = .ok (.iload_n 2, 1)) ∧ (decode cX12_drawn 12 = .ok (.iconst 0, 1)) ∧ (decode cX12_drawn 13 = .ok (.bipush 99, 2)) := by decide +kernel
theorem dX12_drawn_0 : decode cX12_drawn 0 = .ok (.iload_n 1, 1) := dcX12_drawn_0.1
theorem dX12_drawn_1 : decode cX12_drawn 1 = .ok (.iconst 0, 1) := dcX12_drawn_0.2.1
theorem dX12_drawn_2 : decode cX12_drawn 2 = .ok (.ldc_w 275, 3) := dcX12_drawn_0.2.2.1
theorem dX12_drawn_5 : decode cX12_drawn 5 = .ok (.invokestatic 93, 3) := dcX12_drawn_0.2.2.2.1
theorem dX12_drawn_8 : decode cX12_drawn 8 = .ok (.ifCond .eq 22, 3) := dcX12_drawn_0.2.2.2.2.1
theorem dX12_drawn_11 : decode cX12_drawn 11 = .ok (.iload_n 2, 1) := dcX12_drawn_0.2.2.2.2.2.1
theorem dX12_drawn_12 : decode cX12_drawn 12 = .ok (.iconst 0, 1) := dcX12_drawn_0.2.2.2.2.2.2.1
theorem dX12_drawn_13 : decode cX12_drawn 13 = .ok (.bipush 99, 2) := dcX12_drawn_0.2.2.2.2.2.2.2
theorem dcX12_drawn_1 : (decode cX12_drawn 15 = .ok (.invokestatic 93, 3)) ∧ (decode cX12_drawn 18 = .ok (.ifCond .eq 12, 3)) ∧ (decode cX12_drawn 21 = .ok (.aload_n 0, 1)) ∧ (decode cX12_drawn 22 = .ok (.iload_n 1, 1)) ∧ (decode cX12_drawn 23 = .ok (.iload_n 2, 1)) ∧ (decode cX12_drawn 24 = .ok (.invokevirtual 276, 3)) ∧ (decode cX12_drawn 27 = .ok (.goto 5, 3)) ∧ (decode cX12_drawn 30 = .ok (.bipush (-2), 2)) := by decide +kernel
theorem dX12_drawn_15 : decode cX12_drawn 15 = .ok (.invokestatic 93, 3) := dcX12_drawn_1.1
theorem dX12_drawn_18 : decode cX12_drawn 18 = .ok (.ifCond .eq 12, 3) := dcX12_drawn_1.2.1
theorem dX12_drawn_21 : decode cX12_drawn 21 = .ok (.aload_n 0, 1) := dcX12_drawn_1.2.2.1
theorem dX12_drawn_22 : decode cX12_drawn 22 = .ok (.iload_n 1, 1) := dcX12_drawn_1.2.2.2.1
theorem dX12_drawn_23 : decode cX12_drawn 23 = .ok (.iload_n 2, 1) := dcX12_drawn_1.2.2.2.2.1
theorem dX12_drawn_24 : decode cX12_drawn 24 = .ok (.invokevirtual 276, 3) := dcX12_drawn_1.2.2.2.2.2.1
theorem dX12_drawn_27 : decode cX12_drawn 27 = .ok (.goto 5, 3) := dcX12_drawn_1.2.2.2.2.2.2.1
theorem dX12_drawn_30 : decode cX12_drawn 30 = .ok (.bipush (-2), 2) := dcX12_drawn_1.2.2.2.2.2.2.2
theorem dX12_drawn_32 : decode cX12_drawn 32 = .ok (.ireturn, 1) := by decide +kernel
theorem dcX12_lowest_0 : (decode cX12_lowest 0 = .ok (.lload_n 0, 1)) ∧ (decode cX12_lowest 1 = .ok (.lconst 0, 1)) ∧ (decode cX12_lowest 2 = .ok (.lcmp, 1)) ∧ (decode cX12_lowest 3 = .ok (.ifCond .ne 7, 3)) ∧ (decode cX12_lowest 6 = .ok (.iload 4, 2)) ∧ (decode cX12_lowest 8 = .ok (.i2l, 1)) ∧ (decode cX12_lowest 9 = .ok (.lreturn, 1)) ∧ (decode cX12_lowest 10 = .ok (.lload_n 0, 1)) := by decide +kernel
theorem dX12_lowest_0 : decode cX12_lowest 0 = .ok (.lload_n 0, 1) := dcX12_lowest_0.1
theorem dX12_lowest_1 : decode cX12_lowest 1 = .ok (.lconst 0, 1) := dcX12_lowest_0.2.1
theorem dX12_lowest_2 : decode cX12_lowest 2 = .ok (.lcmp, 1) := dcX12_lowest_0.2.2.1
theorem dX12_lowest_3 : decode cX12_lowest 3 = .ok (.ifCond .ne 7, 3) := dcX12_lowest_0.2.2.2.1
theorem dX12_lowest_6 : decode cX12_lowest 6 = .ok (.iload 4, 2) := dcX12_lowest_0.2.2.2.2.1
theorem dX12_lowest_8 : decode cX12_lowest 8 = .ok (.i2l, 1) := dcX12_lowest_0.2.2.2.2.2.1
theorem dX12_lowest_9 : decode cX12_lowest 9 = .ok (.lreturn, 1) := dcX12_lowest_0.2.2.2.2.2.2.1
theorem dX12_lowest_10 : decode cX12_lowest 10 = .ok (.lload_n 0, 1) := dcX12_lowest_0.2.2.2.2.2.2.2
theorem dcX12_lowest_1 : (decode cX12_lowest 11 = .ok (.lstore 5, 2)) ∧ (decode cX12_lowest 13 = .ok (.lload_n 2, 1)) ∧ (decode cX12_lowest 14 = .ok (.lstore 7, 2)) ∧ (decode cX12_lowest 16 = .ok (.lload 7, 2)) ∧ (decode cX12_lowest 18 = .ok (.lconst 0, 1)) ∧ (decode cX12_lowest 19 = .ok (.lcmp, 1)) ∧ (decode cX12_lowest 20 = .ok (.ifCond .eq 21, 3)) ∧ (decode cX12_lowest 23 = .ok (.lload 5, 2)) := by decide +kernel
theorem dX12_lowest_11 : decode cX12_lowest 11 = .ok (.lstore 5, 2) := dcX12_lowest_1.1
theorem dX12_lowest_13 : decode cX12_lowest 13 = .ok (.lload_n 2, 1) := dcX12_lowest_1.2.1
theorem dX12_lowest_14 : decode cX12_lowest 14 = .ok (.lstore 7, 2) := dcX12_lowest_1.2.2.1
theorem dX12_lowest_16 : decode cX12_lowest 16 = .ok (.lload 7, 2) := dcX12_lowest_1.2.2.2.1
theorem dX12_lowest_18 : decode cX12_lowest 18 = .ok (.lconst 0, 1) := dcX12_lowest_1.2.2.2.2.1
theorem dX12_lowest_19 : decode cX12_lowest 19 = .ok (.lcmp, 1) := dcX12_lowest_1.2.2.2.2.2.1
theorem dX12_lowest_20 : decode cX12_lowest 20 = .ok (.ifCond .eq 21, 3) := dcX12_lowest_1.2.2.2.2.2.2.1
theorem dX12_lowest_23 : decode cX12_lowest 23 = .ok (.lload 5, 2) := dcX12_lowest_1.2.2.2.2.2.2.2
theorem dcX12_lowest_2 : (decode cX12_lowest 25 = .ok (.lload 7, 2)) ∧ (decode cX12_lowest 27 = .ok (.lrem, 1)) ∧ (decode cX12_lowest 28 = .ok (.lstore 9, 2)) ∧ (decode cX12_lowest 30 = .ok (.lload 7, 2)) ∧ (decode cX12_lowest 32 = .ok (.lstore 5, 2)) ∧ (decode cX12_lowest 34 = .ok (.lload 9, 2)) ∧ (decode cX12_lowest 36 = .ok (.lstore 7, 2)) ∧ (decode cX12_lowest 38 = .ok (.goto (-22), 3)) := by decide +kernel
theorem dX12_lowest_25 : decode cX12_lowest 25 = .ok (.lload 7, 2) := dcX12_lowest_2.1
theorem dX12_lowest_27 : decode cX12_lowest 27 = .ok (.lrem, 1) := dcX12_lowest_2.2.1
theorem dX12_lowest_28 : decode cX12_lowest 28 = .ok (.lstore 9, 2) := dcX12_lowest_2.2.2.1
theorem dX12_lowest_30 : decode cX12_lowest 30 = .ok (.lload 7, 2) := dcX12_lowest_2.2.2.2.1
theorem dX12_lowest_32 : decode cX12_lowest 32 = .ok (.lstore 5, 2) := dcX12_lowest_2.2.2.2.2.1
theorem dX12_lowest_34 : decode cX12_lowest 34 = .ok (.lload 9, 2) := dcX12_lowest_2.2.2.2.2.2.1
theorem dX12_lowest_36 : decode cX12_lowest 36 = .ok (.lstore 7, 2) := dcX12_lowest_2.2.2.2.2.2.2.1
theorem dX12_lowest_38 : decode cX12_lowest 38 = .ok (.goto (-22), 3) := dcX12_lowest_2.2.2.2.2.2.2.2
theorem dcX12_lowest_3 : (decode cX12_lowest 41 = .ok (.iload 4, 2)) ∧ (decode cX12_lowest 43 = .ok (.ifCond .ne 7, 3)) ∧ (decode cX12_lowest 46 = .ok (.lload_n 0, 1)) ∧ (decode cX12_lowest 47 = .ok (.goto 4, 3)) ∧ (decode cX12_lowest 50 = .ok (.lload_n 2, 1)) ∧ (decode cX12_lowest 51 = .ok (.lload 5, 2)) ∧ (decode cX12_lowest 53 = .ok (.ldiv, 1)) ∧ (decode cX12_lowest 54 = .ok (.lreturn, 1)) := by decide +kernel
theorem dX12_lowest_41 : decode cX12_lowest 41 = .ok (.iload 4, 2) := dcX12_lowest_3.1
theorem dX12_lowest_43 : decode cX12_lowest 43 = .ok (.ifCond .ne 7, 3) := dcX12_lowest_3.2.1
theorem dX12_lowest_46 : decode cX12_lowest 46 = .ok (.lload_n 0, 1) := dcX12_lowest_3.2.2.1
theorem dX12_lowest_47 : decode cX12_lowest 47 = .ok (.goto 4, 3) := dcX12_lowest_3.2.2.2.1
theorem dX12_lowest_50 : decode cX12_lowest 50 = .ok (.lload_n 2, 1) := dcX12_lowest_3.2.2.2.2.1
theorem dX12_lowest_51 : decode cX12_lowest 51 = .ok (.lload 5, 2) := dcX12_lowest_3.2.2.2.2.2.1
theorem dX12_lowest_53 : decode cX12_lowest 53 = .ok (.ldiv, 1) := dcX12_lowest_3.2.2.2.2.2.2.1
theorem dX12_lowest_54 : decode cX12_lowest 54 = .ok (.lreturn, 1) := dcX12_lowest_3.2.2.2.2.2.2.2
theorem dcX12_odds_0 : (decode cX12_odds 0 = .ok (.iload_n 1, 1)) ∧ (decode cX12_odds 1 = .ok (.iconst 0, 1)) ∧ (decode cX12_odds 2 = .ok (.ldc_w 275, 3)) ∧ (decode cX12_odds 5 = .ok (.invokestatic 93, 3)) ∧ (decode cX12_odds 8 = .ok (.ifCond .eq 48, 3)) ∧ (decode cX12_odds 11 = .ok (.iload_n 2, 1)) ∧ (decode cX12_odds 12 = .ok (.iconst 1, 1)) ∧ (decode cX12_odds 13 = .ok (.bipush 40, 2)) := by decide +kernel
theorem dX12_odds_0 : decode cX12_odds 0 = .ok (.iload_n 1, 1) := dcX12_odds_0.1
theorem dX12_odds_1 : decode cX12_odds 1 = .ok (.iconst 0, 1) := dcX12_odds_0.2.1
theorem dX12_odds_2 : decode cX12_odds 2 = .ok (.ldc_w 275, 3) := dcX12_odds_0.2.2.1
theorem dX12_odds_5 : decode cX12_odds 5 = .ok (.invokestatic 93, 3) := dcX12_odds_0.2.2.2.1
theorem dX12_odds_8 : decode cX12_odds 8 = .ok (.ifCond .eq 48, 3) := dcX12_odds_0.2.2.2.2.1
theorem dX12_odds_11 : decode cX12_odds 11 = .ok (.iload_n 2, 1) := dcX12_odds_0.2.2.2.2.2.1
theorem dX12_odds_12 : decode cX12_odds 12 = .ok (.iconst 1, 1) := dcX12_odds_0.2.2.2.2.2.2.1
theorem dX12_odds_13 : decode cX12_odds 13 = .ok (.bipush 40, 2) := dcX12_odds_0.2.2.2.2.2.2.2
theorem dcX12_odds_1 : (decode cX12_odds 15 = .ok (.invokestatic 93, 3)) ∧ (decode cX12_odds 18 = .ok (.ifCond .eq 38, 3)) ∧ (decode cX12_odds 21 = .ok (.iload_n 3, 1)) ∧ (decode cX12_odds 22 = .ok (.iconst 0, 1)) ∧ (decode cX12_odds 23 = .ok (.bipush 99, 2)) ∧ (decode cX12_odds 25 = .ok (.invokestatic 93, 3)) ∧ (decode cX12_odds 28 = .ok (.ifCond .eq 28, 3)) ∧ (decode cX12_odds 31 = .ok (.iload 4, 2)) := by decide +kernel
theorem dX12_odds_15 : decode cX12_odds 15 = .ok (.invokestatic 93, 3) := dcX12_odds_1.1
theorem dX12_odds_18 : decode cX12_odds 18 = .ok (.ifCond .eq 38, 3) := dcX12_odds_1.2.1
theorem dX12_odds_21 : decode cX12_odds 21 = .ok (.iload_n 3, 1) := dcX12_odds_1.2.2.1
theorem dX12_odds_22 : decode cX12_odds 22 = .ok (.iconst 0, 1) := dcX12_odds_1.2.2.2.1
theorem dX12_odds_23 : decode cX12_odds 23 = .ok (.bipush 99, 2) := dcX12_odds_1.2.2.2.2.1
theorem dX12_odds_25 : decode cX12_odds 25 = .ok (.invokestatic 93, 3) := dcX12_odds_1.2.2.2.2.2.1
theorem dX12_odds_28 : decode cX12_odds 28 = .ok (.ifCond .eq 28, 3) := dcX12_odds_1.2.2.2.2.2.2.1
theorem dX12_odds_31 : decode cX12_odds 31 = .ok (.iload 4, 2) := dcX12_odds_1.2.2.2.2.2.2.2
theorem dcX12_odds_2 : (decode cX12_odds 33 = .ok (.iconst 0, 1)) ∧ (decode cX12_odds 34 = .ok (.bipush 96, 2)) ∧ (decode cX12_odds 36 = .ok (.invokestatic 93, 3)) ∧ (decode cX12_odds 39 = .ok (.ifCond .eq 17, 3)) ∧ (decode cX12_odds 42 = .ok (.iload 5, 2)) ∧ (decode cX12_odds 44 = .ok (.iconst 0, 1)) ∧ (decode cX12_odds 45 = .ok (.iconst 1, 1)) ∧ (decode cX12_odds 46 = .ok (.invokestatic 93, 3)) := by decide +kernel
theorem dX12_odds_33 : decode cX12_odds 33 = .ok (.iconst 0, 1) := dcX12_odds_2.1
theorem dX12_odds_34 : decode cX12_odds 34 = .ok (.bipush 96, 2) := dcX12_odds_2.2.1
theorem dX12_odds_36 : decode cX12_odds 36 = .ok (.invokestatic 93, 3) := dcX12_odds_2.2.2.1
theorem dX12_odds_39 : decode cX12_odds 39 = .ok (.ifCond .eq 17, 3) := dcX12_odds_2.2.2.2.1
theorem dX12_odds_42 : decode cX12_odds 42 = .ok (.iload 5, 2) := dcX12_odds_2.2.2.2.2.1
theorem dX12_odds_44 : decode cX12_odds 44 = .ok (.iconst 0, 1) := dcX12_odds_2.2.2.2.2.2.1
theorem dX12_odds_45 : decode cX12_odds 45 = .ok (.iconst 1, 1) := dcX12_odds_2.2.2.2.2.2.2.1
theorem dX12_odds_46 : decode cX12_odds 46 = .ok (.invokestatic 93, 3) := dcX12_odds_2.2.2.2.2.2.2.2
theorem dcX12_odds_3 : (decode cX12_odds 49 = .ok (.ifCond .eq 7, 3)) ∧ (decode cX12_odds 52 = .ok (.iconst 1, 1)) ∧ (decode cX12_odds 53 = .ok (.goto 4, 3)) ∧ (decode cX12_odds 56 = .ok (.iconst 0, 1)) ∧ (decode cX12_odds 57 = .ok (.istore 6, 2)) ∧ (decode cX12_odds 59 = .ok (.iload 6, 2)) ∧ (decode cX12_odds 61 = .ok (.ifCond .ne 7, 3)) ∧ (decode cX12_odds 64 = .ok (.ldc2_w 279, 3)) := by decide +kernel
theorem dX12_odds_49 : decode cX12_odds 49 = .ok (.ifCond .eq 7, 3) := dcX12_odds_3.1
theorem dX12_odds_52 : decode cX12_odds 52 = .ok (.iconst 1, 1) := dcX12_odds_3.2.1
theorem dX12_odds_53 : decode cX12_odds 53 = .ok (.goto 4, 3) := dcX12_odds_3.2.2.1
theorem dX12_odds_56 : decode cX12_odds 56 = .ok (.iconst 0, 1) := dcX12_odds_3.2.2.2.1
theorem dX12_odds_57 : decode cX12_odds 57 = .ok (.istore 6, 2) := dcX12_odds_3.2.2.2.2.1
theorem dX12_odds_59 : decode cX12_odds 59 = .ok (.iload 6, 2) := dcX12_odds_3.2.2.2.2.2.1
theorem dX12_odds_61 : decode cX12_odds 61 = .ok (.ifCond .ne 7, 3) := dcX12_odds_3.2.2.2.2.2.2.1
theorem dX12_odds_64 : decode cX12_odds 64 = .ok (.ldc2_w 279, 3) := dcX12_odds_3.2.2.2.2.2.2.2
theorem dcX12_odds_4 : (decode cX12_odds 67 = .ok (.lreturn, 1)) ∧ (decode cX12_odds 68 = .ok (.lconst 0, 1)) ∧ (decode cX12_odds 69 = .ok (.lstore 7, 2)) ∧ (decode cX12_odds 71 = .ok (.iconst 0, 1)) ∧ (decode cX12_odds 72 = .ok (.istore 9, 2)) ∧ (decode cX12_odds 74 = .ok (.iload 9, 2)) ∧ (decode cX12_odds 76 = .ok (.iload_n 2, 1)) ∧ (decode cX12_odds 77 = .ok (.if_icmp .ge 33, 3)) := by decide +kernel
theorem dX12_odds_67 : decode cX12_odds 67 = .ok (.lreturn, 1) := dcX12_odds_4.1
theorem dX12_odds_68 : decode cX12_odds 68 = .ok (.lconst 0, 1) := dcX12_odds_4.2.1
theorem dX12_odds_69 : decode cX12_odds 69 = .ok (.lstore 7, 2) := dcX12_odds_4.2.2.1
theorem dX12_odds_71 : decode cX12_odds 71 = .ok (.iconst 0, 1) := dcX12_odds_4.2.2.2.1
theorem dX12_odds_72 : decode cX12_odds 72 = .ok (.istore 9, 2) := dcX12_odds_4.2.2.2.2.1
theorem dX12_odds_74 : decode cX12_odds 74 = .ok (.iload 9, 2) := dcX12_odds_4.2.2.2.2.2.1
theorem dX12_odds_76 : decode cX12_odds 76 = .ok (.iload_n 2, 1) := dcX12_odds_4.2.2.2.2.2.2.1
theorem dX12_odds_77 : decode cX12_odds 77 = .ok (.if_icmp .ge 33, 3) := dcX12_odds_4.2.2.2.2.2.2.2
theorem dcX12_odds_5 : (decode cX12_odds 80 = .ok (.lload 7, 2)) ∧ (decode cX12_odds 82 = .ok (.aload_n 0, 1)) ∧ (decode cX12_odds 83 = .ok (.iload_n 1, 1)) ∧ (decode cX12_odds 84 = .ok (.iload 9, 2)) ∧ (decode cX12_odds 86 = .ok (.iadd, 1)) ∧ (decode cX12_odds 87 = .ok (.iload_n 3, 1)) ∧ (decode cX12_odds 88 = .ok (.invokevirtual 276, 3)) ∧ (decode cX12_odds 91 = .ok (.iload 4, 2)) := by decide +kernel
theorem dX12_odds_80 : decode cX12_odds 80 = .ok (.lload 7, 2) := dcX12_odds_5.1
theorem dX12_odds_82 : decode cX12_odds 82 = .ok (.aload_n 0, 1) := dcX12_odds_5.2.1
theorem dX12_odds_83 : decode cX12_odds 83 = .ok (.iload_n 1, 1) := dcX12_odds_5.2.2.1
theorem dX12_odds_84 : decode cX12_odds 84 = .ok (.iload 9, 2) := dcX12_odds_5.2.2.2.1
theorem dX12_odds_86 : decode cX12_odds 86 = .ok (.iadd, 1) := dcX12_odds_5.2.2.2.2.1
theorem dX12_odds_87 : decode cX12_odds 87 = .ok (.iload_n 3, 1) := dcX12_odds_5.2.2.2.2.2.1
theorem dX12_odds_88 : decode cX12_odds 88 = .ok (.invokevirtual 276, 3) := dcX12_odds_5.2.2.2.2.2.2.1
theorem dX12_odds_91 : decode cX12_odds 91 = .ok (.iload 4, 2) := dcX12_odds_5.2.2.2.2.2.2.2
theorem dcX12_odds_6 : (decode cX12_odds 93 = .ok (.if_icmp .lt 7, 3)) ∧ (decode cX12_odds 96 = .ok (.lconst 1, 1)) ∧ (decode cX12_odds 97 = .ok (.goto 4, 3)) ∧ (decode cX12_odds 100 = .ok (.lconst 0, 1)) ∧ (decode cX12_odds 101 = .ok (.ladd, 1)) ∧ (decode cX12_odds 102 = .ok (.lstore 7, 2)) ∧ (decode cX12_odds 104 = .ok (.iinc 9 1, 3)) ∧ (decode cX12_odds 107 = .ok (.goto (-33), 3)) := by decide +kernel
theorem dX12_odds_93 : decode cX12_odds 93 = .ok (.if_icmp .lt 7, 3) := dcX12_odds_6.1
theorem dX12_odds_96 : decode cX12_odds 96 = .ok (.lconst 1, 1) := dcX12_odds_6.2.1
theorem dX12_odds_97 : decode cX12_odds 97 = .ok (.goto 4, 3) := dcX12_odds_6.2.2.1
theorem dX12_odds_100 : decode cX12_odds 100 = .ok (.lconst 0, 1) := dcX12_odds_6.2.2.2.1
theorem dX12_odds_101 : decode cX12_odds 101 = .ok (.ladd, 1) := dcX12_odds_6.2.2.2.2.1
theorem dX12_odds_102 : decode cX12_odds 102 = .ok (.lstore 7, 2) := dcX12_odds_6.2.2.2.2.2.1
theorem dX12_odds_104 : decode cX12_odds 104 = .ok (.iinc 9 1, 3) := dcX12_odds_6.2.2.2.2.2.2.1
theorem dX12_odds_107 : decode cX12_odds 107 = .ok (.goto (-33), 3) := dcX12_odds_6.2.2.2.2.2.2.2
theorem dcX12_odds_7 : (decode cX12_odds 110 = .ok (.lload 7, 2)) ∧ (decode cX12_odds 112 = .ok (.iload_n 2, 1)) ∧ (decode cX12_odds 113 = .ok (.i2l, 1)) ∧ (decode cX12_odds 114 = .ok (.iload 5, 2)) ∧ (decode cX12_odds 116 = .ok (.invokestatic 281, 3)) ∧ (decode cX12_odds 119 = .ok (.lreturn, 1)) := by decide +kernel
theorem dX12_odds_110 : decode cX12_odds 110 = .ok (.lload 7, 2) := dcX12_odds_7.1
theorem dX12_odds_112 : decode cX12_odds 112 = .ok (.iload_n 2, 1) := dcX12_odds_7.2.1
theorem dX12_odds_113 : decode cX12_odds 113 = .ok (.i2l, 1) := dcX12_odds_7.2.2.1
theorem dX12_odds_114 : decode cX12_odds 114 = .ok (.iload 5, 2) := dcX12_odds_7.2.2.2.1
theorem dX12_odds_116 : decode cX12_odds 116 = .ok (.invokestatic 281, 3) := dcX12_odds_7.2.2.2.2.1
theorem dX12_odds_119 : decode cX12_odds 119 = .ok (.lreturn, 1) := dcX12_odds_7.2.2.2.2.2
theorem dcX12_image_0 : (decode cX12_image 0 = .ok (.aload_n 0, 1)) ∧ (decode cX12_image 1 = .ok (.iconst 1, 1)) ∧ (decode cX12_image 2 = .ok (.putfield 285, 3)) ∧ (decode cX12_image 5 = .ok (.iconst 0, 1)) ∧ (decode cX12_image 6 = .ok (.istore_n 1, 1)) ∧ (decode cX12_image 7 = .ok (.iload_n 1, 1)) ∧ (decode cX12_image 8 = .ok (.bipush 96, 2)) ∧ (decode cX12_image 10 = .ok (.if_icmp .ge 21, 3)) := by decide +kernel
theorem dX12_image_0 : decode cX12_image 0 = .ok (.aload_n 0, 1) := dcX12_image_0.1
theorem dX12_image_1 : decode cX12_image 1 = .ok (.iconst 1, 1) := dcX12_image_0.2.1
theorem dX12_image_2 : decode cX12_image 2 = .ok (.putfield 285, 3) := dcX12_image_0.2.2.1
theorem dX12_image_5 : decode cX12_image 5 = .ok (.iconst 0, 1) := dcX12_image_0.2.2.2.1
theorem dX12_image_6 : decode cX12_image 6 = .ok (.istore_n 1, 1) := dcX12_image_0.2.2.2.2.1
theorem dX12_image_7 : decode cX12_image 7 = .ok (.iload_n 1, 1) := dcX12_image_0.2.2.2.2.2.1
theorem dX12_image_8 : decode cX12_image 8 = .ok (.bipush 96, 2) := dcX12_image_0.2.2.2.2.2.2.1
theorem dX12_image_10 : decode cX12_image 10 = .ok (.if_icmp .ge 21, 3) := dcX12_image_0.2.2.2.2.2.2.2
theorem dcX12_image_1 : (decode cX12_image 13 = .ok (.aload_n 0, 1)) ∧ (decode cX12_image 14 = .ok (.getfield 35, 3)) ∧ (decode cX12_image 17 = .ok (.iload_n 1, 1)) ∧ (decode cX12_image 18 = .ok (.aload_n 0, 1)) ∧ (decode cX12_image 19 = .ok (.getfield 16, 3)) ∧ (decode cX12_image 22 = .ok (.iload_n 1, 1)) ∧ (decode cX12_image 23 = .ok (.iaload, 1)) ∧ (decode cX12_image 24 = .ok (.iastore, 1)) := by decide +kernel
theorem dX12_image_13 : decode cX12_image 13 = .ok (.aload_n 0, 1) := dcX12_image_1.1
theorem dX12_image_14 : decode cX12_image 14 = .ok (.getfield 35, 3) := dcX12_image_1.2.1
theorem dX12_image_17 : decode cX12_image 17 = .ok (.iload_n 1, 1) := dcX12_image_1.2.2.1
theorem dX12_image_18 : decode cX12_image 18 = .ok (.aload_n 0, 1) := dcX12_image_1.2.2.2.1
theorem dX12_image_19 : decode cX12_image 19 = .ok (.getfield 16, 3) := dcX12_image_1.2.2.2.2.1
theorem dX12_image_22 : decode cX12_image 22 = .ok (.iload_n 1, 1) := dcX12_image_1.2.2.2.2.2.1
theorem dX12_image_23 : decode cX12_image 23 = .ok (.iaload, 1) := dcX12_image_1.2.2.2.2.2.2.1
theorem dX12_image_24 : decode cX12_image 24 = .ok (.iastore, 1) := dcX12_image_1.2.2.2.2.2.2.2
theorem dcX12_image_2 : (decode cX12_image 25 = .ok (.iinc 1 1, 3)) ∧ (decode cX12_image 28 = .ok (.goto (-21), 3)) ∧ (decode cX12_image 31 = .ok (.iconst 0, 1)) ∧ (decode cX12_image 32 = .ok (.istore_n 1, 1)) ∧ (decode cX12_image 33 = .ok (.iload_n 1, 1)) ∧ (decode cX12_image 34 = .ok (.bipush 6, 2)) ∧ (decode cX12_image 36 = .ok (.if_icmp .ge 21, 3)) ∧ (decode cX12_image 39 = .ok (.aload_n 0, 1)) := by decide +kernel
theorem dX12_image_25 : decode cX12_image 25 = .ok (.iinc 1 1, 3) := dcX12_image_2.1
theorem dX12_image_28 : decode cX12_image 28 = .ok (.goto (-21), 3) := dcX12_image_2.2.1
theorem dX12_image_31 : decode cX12_image 31 = .ok (.iconst 0, 1) := dcX12_image_2.2.2.1
theorem dX12_image_32 : decode cX12_image 32 = .ok (.istore_n 1, 1) := dcX12_image_2.2.2.2.1
theorem dX12_image_33 : decode cX12_image 33 = .ok (.iload_n 1, 1) := dcX12_image_2.2.2.2.2.1
theorem dX12_image_34 : decode cX12_image 34 = .ok (.bipush 6, 2) := dcX12_image_2.2.2.2.2.2.1
theorem dX12_image_36 : decode cX12_image 36 = .ok (.if_icmp .ge 21, 3) := dcX12_image_2.2.2.2.2.2.2.1
theorem dX12_image_39 : decode cX12_image 39 = .ok (.aload_n 0, 1) := dcX12_image_2.2.2.2.2.2.2.2
theorem dcX12_image_3 : (decode cX12_image 40 = .ok (.getfield 38, 3)) ∧ (decode cX12_image 43 = .ok (.iload_n 1, 1)) ∧ (decode cX12_image 44 = .ok (.aload_n 0, 1)) ∧ (decode cX12_image 45 = .ok (.getfield 19, 3)) ∧ (decode cX12_image 48 = .ok (.iload_n 1, 1)) ∧ (decode cX12_image 49 = .ok (.iaload, 1)) ∧ (decode cX12_image 50 = .ok (.iastore, 1)) ∧ (decode cX12_image 51 = .ok (.iinc 1 1, 3)) := by decide +kernel
theorem dX12_image_40 : decode cX12_image 40 = .ok (.getfield 38, 3) := dcX12_image_3.1
theorem dX12_image_43 : decode cX12_image 43 = .ok (.iload_n 1, 1) := dcX12_image_3.2.1
theorem dX12_image_44 : decode cX12_image 44 = .ok (.aload_n 0, 1) := dcX12_image_3.2.2.1
theorem dX12_image_45 : decode cX12_image 45 = .ok (.getfield 19, 3) := dcX12_image_3.2.2.2.1
theorem dX12_image_48 : decode cX12_image 48 = .ok (.iload_n 1, 1) := dcX12_image_3.2.2.2.2.1
theorem dX12_image_49 : decode cX12_image 49 = .ok (.iaload, 1) := dcX12_image_3.2.2.2.2.2.1
theorem dX12_image_50 : decode cX12_image 50 = .ok (.iastore, 1) := dcX12_image_3.2.2.2.2.2.2.1
theorem dX12_image_51 : decode cX12_image 51 = .ok (.iinc 1 1, 3) := dcX12_image_3.2.2.2.2.2.2.2
theorem dcX12_image_4 : (decode cX12_image 54 = .ok (.goto (-21), 3)) ∧ (decode cX12_image 57 = .ok (.aload_n 0, 1)) ∧ (decode cX12_image 58 = .ok (.getfield 41, 3)) ∧ (decode cX12_image 61 = .ok (.iconst 0, 1)) ∧ (decode cX12_image 62 = .ok (.aload_n 0, 1)) ∧ (decode cX12_image 63 = .ok (.getfield 90, 3)) ∧ (decode cX12_image 66 = .ok (.iastore, 1)) ∧ (decode cX12_image 67 = .ok (.aload_n 0, 1)) := by decide +kernel
theorem dX12_image_54 : decode cX12_image 54 = .ok (.goto (-21), 3) := dcX12_image_4.1
theorem dX12_image_57 : decode cX12_image 57 = .ok (.aload_n 0, 1) := dcX12_image_4.2.1
theorem dX12_image_58 : decode cX12_image 58 = .ok (.getfield 41, 3) := dcX12_image_4.2.2.1
theorem dX12_image_61 : decode cX12_image 61 = .ok (.iconst 0, 1) := dcX12_image_4.2.2.2.1
theorem dX12_image_62 : decode cX12_image 62 = .ok (.aload_n 0, 1) := dcX12_image_4.2.2.2.2.1
theorem dX12_image_63 : decode cX12_image 63 = .ok (.getfield 90, 3) := dcX12_image_4.2.2.2.2.2.1
theorem dX12_image_66 : decode cX12_image 66 = .ok (.iastore, 1) := dcX12_image_4.2.2.2.2.2.2.1
theorem dX12_image_67 : decode cX12_image 67 = .ok (.aload_n 0, 1) := dcX12_image_4.2.2.2.2.2.2.2
theorem dcX12_image_5 : (decode cX12_image 68 = .ok (.getfield 41, 3)) ∧ (decode cX12_image 71 = .ok (.iconst 1, 1)) ∧ (decode cX12_image 72 = .ok (.aload_n 0, 1)) ∧ (decode cX12_image 73 = .ok (.getfield 97, 3)) ∧ (decode cX12_image 76 = .ok (.iastore, 1)) ∧ (decode cX12_image 77 = .ok (.aload_n 0, 1)) ∧ (decode cX12_image 78 = .ok (.getfield 41, 3)) ∧ (decode cX12_image 81 = .ok (.iconst 2, 1)) := by decide +kernel
theorem dX12_image_68 : decode cX12_image 68 = .ok (.getfield 41, 3) := dcX12_image_5.1
theorem dX12_image_71 : decode cX12_image 71 = .ok (.iconst 1, 1) := dcX12_image_5.2.1
theorem dX12_image_72 : decode cX12_image 72 = .ok (.aload_n 0, 1) := dcX12_image_5.2.2.1
theorem dX12_image_73 : decode cX12_image 73 = .ok (.getfield 97, 3) := dcX12_image_5.2.2.2.1
theorem dX12_image_76 : decode cX12_image 76 = .ok (.iastore, 1) := dcX12_image_5.2.2.2.2.1
theorem dX12_image_77 : decode cX12_image 77 = .ok (.aload_n 0, 1) := dcX12_image_5.2.2.2.2.2.1
theorem dX12_image_78 : decode cX12_image 78 = .ok (.getfield 41, 3) := dcX12_image_5.2.2.2.2.2.2.1
theorem dX12_image_81 : decode cX12_image 81 = .ok (.iconst 2, 1) := dcX12_image_5.2.2.2.2.2.2.2
theorem dcX12_image_6 : (decode cX12_image 82 = .ok (.aload_n 0, 1)) ∧ (decode cX12_image 83 = .ok (.getfield 22, 3)) ∧ (decode cX12_image 86 = .ok (.iastore, 1)) ∧ (decode cX12_image 87 = .ok (.aload_n 0, 1)) ∧ (decode cX12_image 88 = .ok (.getfield 41, 3)) ∧ (decode cX12_image 91 = .ok (.iconst 3, 1)) ∧ (decode cX12_image 92 = .ok (.aload_n 0, 1)) ∧ (decode cX12_image 93 = .ok (.getfield 103, 3)) := by decide +kernel
theorem dX12_image_82 : decode cX12_image 82 = .ok (.aload_n 0, 1) := dcX12_image_6.1
theorem dX12_image_83 : decode cX12_image 83 = .ok (.getfield 22, 3) := dcX12_image_6.2.1
theorem dX12_image_86 : decode cX12_image 86 = .ok (.iastore, 1) := dcX12_image_6.2.2.1
theorem dX12_image_87 : decode cX12_image 87 = .ok (.aload_n 0, 1) := dcX12_image_6.2.2.2.1
theorem dX12_image_88 : decode cX12_image 88 = .ok (.getfield 41, 3) := dcX12_image_6.2.2.2.2.1
theorem dX12_image_91 : decode cX12_image 91 = .ok (.iconst 3, 1) := dcX12_image_6.2.2.2.2.2.1
theorem dX12_image_92 : decode cX12_image 92 = .ok (.aload_n 0, 1) := dcX12_image_6.2.2.2.2.2.2.1
theorem dX12_image_93 : decode cX12_image 93 = .ok (.getfield 103, 3) := dcX12_image_6.2.2.2.2.2.2.2
theorem dcX12_image_7 : (decode cX12_image 96 = .ok (.iastore, 1)) ∧ (decode cX12_image 97 = .ok (.aload_n 0, 1)) ∧ (decode cX12_image 98 = .ok (.getfield 90, 3)) ∧ (decode cX12_image 101 = .ok (.ireturn, 1)) := by decide +kernel
theorem dX12_image_96 : decode cX12_image 96 = .ok (.iastore, 1) := dcX12_image_7.1
theorem dX12_image_97 : decode cX12_image 97 = .ok (.aload_n 0, 1) := dcX12_image_7.2.1
theorem dX12_image_98 : decode cX12_image 98 = .ok (.getfield 90, 3) := dcX12_image_7.2.2.1
theorem dX12_image_101 : decode cX12_image 101 = .ok (.ireturn, 1) := dcX12_image_7.2.2.2
theorem dcX12_back_0 : (decode cX12_back 0 = .ok (.aload_n 0, 1)) ∧ (decode cX12_back 1 = .ok (.getfield 285, 3)) ∧ (decode cX12_back 4 = .ok (.ifCond .ne 6, 3)) ∧ (decode cX12_back 7 = .ok (.bipush (-3), 2)) ∧ (decode cX12_back 9 = .ok (.ireturn, 1)) ∧ (decode cX12_back 10 = .ok (.iconst 0, 1)) ∧ (decode cX12_back 11 = .ok (.istore_n 1, 1)) ∧ (decode cX12_back 12 = .ok (.iload_n 1, 1)) := by decide +kernel
theorem dX12_back_0 : decode cX12_back 0 = .ok (.aload_n 0, 1) := dcX12_back_0.1
theorem dX12_back_1 : decode cX12_back 1 = .ok (.getfield 285, 3) := dcX12_back_0.2.1
theorem dX12_back_4 : decode cX12_back 4 = .ok (.ifCond .ne 6, 3) := dcX12_back_0.2.2.1
theorem dX12_back_7 : decode cX12_back 7 = .ok (.bipush (-3), 2) := dcX12_back_0.2.2.2.1
theorem dX12_back_9 : decode cX12_back 9 = .ok (.ireturn, 1) := dcX12_back_0.2.2.2.2.1
theorem dX12_back_10 : decode cX12_back 10 = .ok (.iconst 0, 1) := dcX12_back_0.2.2.2.2.2.1
theorem dX12_back_11 : decode cX12_back 11 = .ok (.istore_n 1, 1) := dcX12_back_0.2.2.2.2.2.2.1
theorem dX12_back_12 : decode cX12_back 12 = .ok (.iload_n 1, 1) := dcX12_back_0.2.2.2.2.2.2.2
theorem dcX12_back_1 : (decode cX12_back 13 = .ok (.bipush 96, 2)) ∧ (decode cX12_back 15 = .ok (.if_icmp .ge 21, 3)) ∧ (decode cX12_back 18 = .ok (.aload_n 0, 1)) ∧ (decode cX12_back 19 = .ok (.getfield 16, 3)) ∧ (decode cX12_back 22 = .ok (.iload_n 1, 1)) ∧ (decode cX12_back 23 = .ok (.aload_n 0, 1)) ∧ (decode cX12_back 24 = .ok (.getfield 35, 3)) ∧ (decode cX12_back 27 = .ok (.iload_n 1, 1)) := by decide +kernel
theorem dX12_back_13 : decode cX12_back 13 = .ok (.bipush 96, 2) := dcX12_back_1.1
theorem dX12_back_15 : decode cX12_back 15 = .ok (.if_icmp .ge 21, 3) := dcX12_back_1.2.1
theorem dX12_back_18 : decode cX12_back 18 = .ok (.aload_n 0, 1) := dcX12_back_1.2.2.1
theorem dX12_back_19 : decode cX12_back 19 = .ok (.getfield 16, 3) := dcX12_back_1.2.2.2.1
theorem dX12_back_22 : decode cX12_back 22 = .ok (.iload_n 1, 1) := dcX12_back_1.2.2.2.2.1
theorem dX12_back_23 : decode cX12_back 23 = .ok (.aload_n 0, 1) := dcX12_back_1.2.2.2.2.2.1
theorem dX12_back_24 : decode cX12_back 24 = .ok (.getfield 35, 3) := dcX12_back_1.2.2.2.2.2.2.1
theorem dX12_back_27 : decode cX12_back 27 = .ok (.iload_n 1, 1) := dcX12_back_1.2.2.2.2.2.2.2
theorem dcX12_back_2 : (decode cX12_back 28 = .ok (.iaload, 1)) ∧ (decode cX12_back 29 = .ok (.iastore, 1)) ∧ (decode cX12_back 30 = .ok (.iinc 1 1, 3)) ∧ (decode cX12_back 33 = .ok (.goto (-21), 3)) ∧ (decode cX12_back 36 = .ok (.iconst 0, 1)) ∧ (decode cX12_back 37 = .ok (.istore_n 1, 1)) ∧ (decode cX12_back 38 = .ok (.iload_n 1, 1)) ∧ (decode cX12_back 39 = .ok (.bipush 6, 2)) := by decide +kernel
theorem dX12_back_28 : decode cX12_back 28 = .ok (.iaload, 1) := dcX12_back_2.1
theorem dX12_back_29 : decode cX12_back 29 = .ok (.iastore, 1) := dcX12_back_2.2.1
theorem dX12_back_30 : decode cX12_back 30 = .ok (.iinc 1 1, 3) := dcX12_back_2.2.2.1
theorem dX12_back_33 : decode cX12_back 33 = .ok (.goto (-21), 3) := dcX12_back_2.2.2.2.1
theorem dX12_back_36 : decode cX12_back 36 = .ok (.iconst 0, 1) := dcX12_back_2.2.2.2.2.1
theorem dX12_back_37 : decode cX12_back 37 = .ok (.istore_n 1, 1) := dcX12_back_2.2.2.2.2.2.1
theorem dX12_back_38 : decode cX12_back 38 = .ok (.iload_n 1, 1) := dcX12_back_2.2.2.2.2.2.2.1
theorem dX12_back_39 : decode cX12_back 39 = .ok (.bipush 6, 2) := dcX12_back_2.2.2.2.2.2.2.2
theorem dcX12_back_3 : (decode cX12_back 41 = .ok (.if_icmp .ge 21, 3)) ∧ (decode cX12_back 44 = .ok (.aload_n 0, 1)) ∧ (decode cX12_back 45 = .ok (.getfield 19, 3)) ∧ (decode cX12_back 48 = .ok (.iload_n 1, 1)) ∧ (decode cX12_back 49 = .ok (.aload_n 0, 1)) ∧ (decode cX12_back 50 = .ok (.getfield 38, 3)) ∧ (decode cX12_back 53 = .ok (.iload_n 1, 1)) ∧ (decode cX12_back 54 = .ok (.iaload, 1)) := by decide +kernel
theorem dX12_back_41 : decode cX12_back 41 = .ok (.if_icmp .ge 21, 3) := dcX12_back_3.1
theorem dX12_back_44 : decode cX12_back 44 = .ok (.aload_n 0, 1) := dcX12_back_3.2.1
theorem dX12_back_45 : decode cX12_back 45 = .ok (.getfield 19, 3) := dcX12_back_3.2.2.1
theorem dX12_back_48 : decode cX12_back 48 = .ok (.iload_n 1, 1) := dcX12_back_3.2.2.2.1
theorem dX12_back_49 : decode cX12_back 49 = .ok (.aload_n 0, 1) := dcX12_back_3.2.2.2.2.1
theorem dX12_back_50 : decode cX12_back 50 = .ok (.getfield 38, 3) := dcX12_back_3.2.2.2.2.2.1
theorem dX12_back_53 : decode cX12_back 53 = .ok (.iload_n 1, 1) := dcX12_back_3.2.2.2.2.2.2.1
theorem dX12_back_54 : decode cX12_back 54 = .ok (.iaload, 1) := dcX12_back_3.2.2.2.2.2.2.2
theorem dcX12_back_4 : (decode cX12_back 55 = .ok (.iastore, 1)) ∧ (decode cX12_back 56 = .ok (.iinc 1 1, 3)) ∧ (decode cX12_back 59 = .ok (.goto (-21), 3)) ∧ (decode cX12_back 62 = .ok (.aload_n 0, 1)) ∧ (decode cX12_back 63 = .ok (.aload_n 0, 1)) ∧ (decode cX12_back 64 = .ok (.getfield 41, 3)) ∧ (decode cX12_back 67 = .ok (.iconst 0, 1)) ∧ (decode cX12_back 68 = .ok (.iaload, 1)) := by decide +kernel
theorem dX12_back_55 : decode cX12_back 55 = .ok (.iastore, 1) := dcX12_back_4.1
theorem dX12_back_56 : decode cX12_back 56 = .ok (.iinc 1 1, 3) := dcX12_back_4.2.1
theorem dX12_back_59 : decode cX12_back 59 = .ok (.goto (-21), 3) := dcX12_back_4.2.2.1
theorem dX12_back_62 : decode cX12_back 62 = .ok (.aload_n 0, 1) := dcX12_back_4.2.2.2.1
theorem dX12_back_63 : decode cX12_back 63 = .ok (.aload_n 0, 1) := dcX12_back_4.2.2.2.2.1
theorem dX12_back_64 : decode cX12_back 64 = .ok (.getfield 41, 3) := dcX12_back_4.2.2.2.2.2.1
theorem dX12_back_67 : decode cX12_back 67 = .ok (.iconst 0, 1) := dcX12_back_4.2.2.2.2.2.2.1
theorem dX12_back_68 : decode cX12_back 68 = .ok (.iaload, 1) := dcX12_back_4.2.2.2.2.2.2.2
theorem dcX12_back_5 : (decode cX12_back 69 = .ok (.putfield 90, 3)) ∧ (decode cX12_back 72 = .ok (.aload_n 0, 1)) ∧ (decode cX12_back 73 = .ok (.aload_n 0, 1)) ∧ (decode cX12_back 74 = .ok (.getfield 41, 3)) ∧ (decode cX12_back 77 = .ok (.iconst 1, 1)) ∧ (decode cX12_back 78 = .ok (.iaload, 1)) ∧ (decode cX12_back 79 = .ok (.putfield 97, 3)) ∧ (decode cX12_back 82 = .ok (.aload_n 0, 1)) := by decide +kernel
theorem dX12_back_69 : decode cX12_back 69 = .ok (.putfield 90, 3) := dcX12_back_5.1
theorem dX12_back_72 : decode cX12_back 72 = .ok (.aload_n 0, 1) := dcX12_back_5.2.1
theorem dX12_back_73 : decode cX12_back 73 = .ok (.aload_n 0, 1) := dcX12_back_5.2.2.1
theorem dX12_back_74 : decode cX12_back 74 = .ok (.getfield 41, 3) := dcX12_back_5.2.2.2.1
theorem dX12_back_77 : decode cX12_back 77 = .ok (.iconst 1, 1) := dcX12_back_5.2.2.2.2.1
theorem dX12_back_78 : decode cX12_back 78 = .ok (.iaload, 1) := dcX12_back_5.2.2.2.2.2.1
theorem dX12_back_79 : decode cX12_back 79 = .ok (.putfield 97, 3) := dcX12_back_5.2.2.2.2.2.2.1
theorem dX12_back_82 : decode cX12_back 82 = .ok (.aload_n 0, 1) := dcX12_back_5.2.2.2.2.2.2.2
theorem dcX12_back_6 : (decode cX12_back 83 = .ok (.aload_n 0, 1)) ∧ (decode cX12_back 84 = .ok (.getfield 41, 3)) ∧ (decode cX12_back 87 = .ok (.iconst 2, 1)) ∧ (decode cX12_back 88 = .ok (.iaload, 1)) ∧ (decode cX12_back 89 = .ok (.putfield 22, 3)) ∧ (decode cX12_back 92 = .ok (.aload_n 0, 1)) ∧ (decode cX12_back 93 = .ok (.aload_n 0, 1)) ∧ (decode cX12_back 94 = .ok (.getfield 41, 3)) := by decide +kernel
theorem dX12_back_83 : decode cX12_back 83 = .ok (.aload_n 0, 1) := dcX12_back_6.1
theorem dX12_back_84 : decode cX12_back 84 = .ok (.getfield 41, 3) := dcX12_back_6.2.1
theorem dX12_back_87 : decode cX12_back 87 = .ok (.iconst 2, 1) := dcX12_back_6.2.2.1
theorem dX12_back_88 : decode cX12_back 88 = .ok (.iaload, 1) := dcX12_back_6.2.2.2.1
theorem dX12_back_89 : decode cX12_back 89 = .ok (.putfield 22, 3) := dcX12_back_6.2.2.2.2.1
theorem dX12_back_92 : decode cX12_back 92 = .ok (.aload_n 0, 1) := dcX12_back_6.2.2.2.2.2.1
theorem dX12_back_93 : decode cX12_back 93 = .ok (.aload_n 0, 1) := dcX12_back_6.2.2.2.2.2.2.1
theorem dX12_back_94 : decode cX12_back 94 = .ok (.getfield 41, 3) := dcX12_back_6.2.2.2.2.2.2.2
theorem dcX12_back_7 : (decode cX12_back 97 = .ok (.iconst 3, 1)) ∧ (decode cX12_back 98 = .ok (.iaload, 1)) ∧ (decode cX12_back 99 = .ok (.putfield 103, 3)) ∧ (decode cX12_back 102 = .ok (.aload_n 0, 1)) ∧ (decode cX12_back 103 = .ok (.getfield 90, 3)) ∧ (decode cX12_back 106 = .ok (.ireturn, 1)) := by decide +kernel
theorem dX12_back_97 : decode cX12_back 97 = .ok (.iconst 3, 1) := dcX12_back_7.1
theorem dX12_back_98 : decode cX12_back 98 = .ok (.iaload, 1) := dcX12_back_7.2.1
theorem dX12_back_99 : decode cX12_back 99 = .ok (.putfield 103, 3) := dcX12_back_7.2.2.1
theorem dX12_back_102 : decode cX12_back 102 = .ok (.aload_n 0, 1) := dcX12_back_7.2.2.2.1
theorem dX12_back_103 : decode cX12_back 103 = .ok (.getfield 90, 3) := dcX12_back_7.2.2.2.2.1
theorem dX12_back_106 : decode cX12_back 106 = .ok (.ireturn, 1) := dcX12_back_7.2.2.2.2.2
theorem dcX12_sheet_0 : (decode cX12_sheet 0 = .ok (.iload_n 1, 1)) ∧ (decode cX12_sheet 1 = .ok (.iconst 0, 1)) ∧ (decode cX12_sheet 2 = .ok (.iconst 3, 1)) ∧ (decode cX12_sheet 3 = .ok (.invokestatic 93, 3)) ∧ (decode cX12_sheet 6 = .ok (.ifCond .eq 23, 3)) ∧ (decode cX12_sheet 9 = .ok (.iload_n 2, 1)) ∧ (decode cX12_sheet 10 = .ok (.iconst (-1), 1)) ∧ (decode cX12_sheet 11 = .ok (.iconst 2, 1)) := by decide +kernel
theorem dX12_sheet_0 : decode cX12_sheet 0 = .ok (.iload_n 1, 1) := dcX12_sheet_0.1
theorem dX12_sheet_1 : decode cX12_sheet 1 = .ok (.iconst 0, 1) := dcX12_sheet_0.2.1
theorem dX12_sheet_2 : decode cX12_sheet 2 = .ok (.iconst 3, 1) := dcX12_sheet_0.2.2.1
theorem dX12_sheet_3 : decode cX12_sheet 3 = .ok (.invokestatic 93, 3) := dcX12_sheet_0.2.2.2.1
theorem dX12_sheet_6 : decode cX12_sheet 6 = .ok (.ifCond .eq 23, 3) := dcX12_sheet_0.2.2.2.2.1
theorem dX12_sheet_9 : decode cX12_sheet 9 = .ok (.iload_n 2, 1) := dcX12_sheet_0.2.2.2.2.2.1
theorem dX12_sheet_10 : decode cX12_sheet 10 = .ok (.iconst (-1), 1) := dcX12_sheet_0.2.2.2.2.2.2.1
theorem dX12_sheet_11 : decode cX12_sheet 11 = .ok (.iconst 2, 1) := dcX12_sheet_0.2.2.2.2.2.2.2
theorem dcX12_sheet_1 : (decode cX12_sheet 12 = .ok (.invokestatic 93, 3)) ∧ (decode cX12_sheet 15 = .ok (.ifCond .eq 14, 3)) ∧ (decode cX12_sheet 18 = .ok (.iload_n 2, 1)) ∧ (decode cX12_sheet 19 = .ok (.iconst (-1), 1)) ∧ (decode cX12_sheet 20 = .ok (.if_icmp .eq 12, 3)) ∧ (decode cX12_sheet 23 = .ok (.iload_n 3, 1)) ∧ (decode cX12_sheet 24 = .ok (.bipush 40, 2)) ∧ (decode cX12_sheet 26 = .ok (.if_icmp .le 6, 3)) := by decide +kernel
theorem dX12_sheet_12 : decode cX12_sheet 12 = .ok (.invokestatic 93, 3) := dcX12_sheet_1.1
theorem dX12_sheet_15 : decode cX12_sheet 15 = .ok (.ifCond .eq 14, 3) := dcX12_sheet_1.2.1
theorem dX12_sheet_18 : decode cX12_sheet 18 = .ok (.iload_n 2, 1) := dcX12_sheet_1.2.2.1
theorem dX12_sheet_19 : decode cX12_sheet 19 = .ok (.iconst (-1), 1) := dcX12_sheet_1.2.2.2.1
theorem dX12_sheet_20 : decode cX12_sheet 20 = .ok (.if_icmp .eq 12, 3) := dcX12_sheet_1.2.2.2.2.1
theorem dX12_sheet_23 : decode cX12_sheet 23 = .ok (.iload_n 3, 1) := dcX12_sheet_1.2.2.2.2.2.1
theorem dX12_sheet_24 : decode cX12_sheet 24 = .ok (.bipush 40, 2) := dcX12_sheet_1.2.2.2.2.2.2.1
theorem dX12_sheet_26 : decode cX12_sheet 26 = .ok (.if_icmp .le 6, 3) := dcX12_sheet_1.2.2.2.2.2.2.2
theorem dcX12_sheet_2 : (decode cX12_sheet 29 = .ok (.bipush (-2), 2)) ∧ (decode cX12_sheet 31 = .ok (.ireturn, 1)) ∧ (decode cX12_sheet 32 = .ok (.iload_n 2, 1)) ∧ (decode cX12_sheet 33 = .ok (.iconst (-1), 1)) ∧ (decode cX12_sheet 34 = .ok (.if_icmp .eq 10, 3)) ∧ (decode cX12_sheet 37 = .ok (.iload_n 3, 1)) ∧ (decode cX12_sheet 38 = .ok (.ifCond .ge 6, 3)) ∧ (decode cX12_sheet 41 = .ok (.bipush (-14), 2)) := by decide +kernel
theorem dX12_sheet_29 : decode cX12_sheet 29 = .ok (.bipush (-2), 2) := dcX12_sheet_2.1
theorem dX12_sheet_31 : decode cX12_sheet 31 = .ok (.ireturn, 1) := dcX12_sheet_2.2.1
theorem dX12_sheet_32 : decode cX12_sheet 32 = .ok (.iload_n 2, 1) := dcX12_sheet_2.2.2.1
theorem dX12_sheet_33 : decode cX12_sheet 33 = .ok (.iconst (-1), 1) := dcX12_sheet_2.2.2.2.1
theorem dX12_sheet_34 : decode cX12_sheet 34 = .ok (.if_icmp .eq 10, 3) := dcX12_sheet_2.2.2.2.2.1
theorem dX12_sheet_37 : decode cX12_sheet 37 = .ok (.iload_n 3, 1) := dcX12_sheet_2.2.2.2.2.2.1
theorem dX12_sheet_38 : decode cX12_sheet 38 = .ok (.ifCond .ge 6, 3) := dcX12_sheet_2.2.2.2.2.2.2.1
theorem dX12_sheet_41 : decode cX12_sheet 41 = .ok (.bipush (-14), 2) := dcX12_sheet_2.2.2.2.2.2.2.2
theorem dcX12_sheet_3 : (decode cX12_sheet 43 = .ok (.ireturn, 1)) ∧ (decode cX12_sheet 44 = .ok (.aload_n 0, 1)) ∧ (decode cX12_sheet 45 = .ok (.getfield 44, 3)) ∧ (decode cX12_sheet 48 = .ok (.iload_n 1, 1)) ∧ (decode cX12_sheet 49 = .ok (.iload_n 2, 1)) ∧ (decode cX12_sheet 50 = .ok (.iastore, 1)) ∧ (decode cX12_sheet 51 = .ok (.aload_n 0, 1)) ∧ (decode cX12_sheet 52 = .ok (.getfield 47, 3)) := by decide +kernel
theorem dX12_sheet_43 : decode cX12_sheet 43 = .ok (.ireturn, 1) := dcX12_sheet_3.1
theorem dX12_sheet_44 : decode cX12_sheet 44 = .ok (.aload_n 0, 1) := dcX12_sheet_3.2.1
theorem dX12_sheet_45 : decode cX12_sheet 45 = .ok (.getfield 44, 3) := dcX12_sheet_3.2.2.1
theorem dX12_sheet_48 : decode cX12_sheet 48 = .ok (.iload_n 1, 1) := dcX12_sheet_3.2.2.2.1
theorem dX12_sheet_49 : decode cX12_sheet 49 = .ok (.iload_n 2, 1) := dcX12_sheet_3.2.2.2.2.1
theorem dX12_sheet_50 : decode cX12_sheet 50 = .ok (.iastore, 1) := dcX12_sheet_3.2.2.2.2.2.1
theorem dX12_sheet_51 : decode cX12_sheet 51 = .ok (.aload_n 0, 1) := dcX12_sheet_3.2.2.2.2.2.2.1
theorem dX12_sheet_52 : decode cX12_sheet 52 = .ok (.getfield 47, 3) := dcX12_sheet_3.2.2.2.2.2.2.2
theorem dcX12_sheet_4 : (decode cX12_sheet 55 = .ok (.iload_n 1, 1)) ∧ (decode cX12_sheet 56 = .ok (.iload_n 2, 1)) ∧ (decode cX12_sheet 57 = .ok (.iconst (-1), 1)) ∧ (decode cX12_sheet 58 = .ok (.if_icmp .ne 7, 3)) ∧ (decode cX12_sheet 61 = .ok (.iconst 0, 1)) ∧ (decode cX12_sheet 62 = .ok (.goto 4, 3)) ∧ (decode cX12_sheet 65 = .ok (.iload_n 3, 1)) ∧ (decode cX12_sheet 66 = .ok (.iastore, 1)) := by decide +kernel
theorem dX12_sheet_55 : decode cX12_sheet 55 = .ok (.iload_n 1, 1) := dcX12_sheet_4.1
theorem dX12_sheet_56 : decode cX12_sheet 56 = .ok (.iload_n 2, 1) := dcX12_sheet_4.2.1
theorem dX12_sheet_57 : decode cX12_sheet 57 = .ok (.iconst (-1), 1) := dcX12_sheet_4.2.2.1
theorem dX12_sheet_58 : decode cX12_sheet 58 = .ok (.if_icmp .ne 7, 3) := dcX12_sheet_4.2.2.2.1
theorem dX12_sheet_61 : decode cX12_sheet 61 = .ok (.iconst 0, 1) := dcX12_sheet_4.2.2.2.2.1
theorem dX12_sheet_62 : decode cX12_sheet 62 = .ok (.goto 4, 3) := dcX12_sheet_4.2.2.2.2.2.1
theorem dX12_sheet_65 : decode cX12_sheet 65 = .ok (.iload_n 3, 1) := dcX12_sheet_4.2.2.2.2.2.2.1
theorem dX12_sheet_66 : decode cX12_sheet 66 = .ok (.iastore, 1) := dcX12_sheet_4.2.2.2.2.2.2.2
theorem dcX12_sheet_5 : (decode cX12_sheet 67 = .ok (.iconst 0, 1)) ∧ (decode cX12_sheet 68 = .ok (.istore 4, 2)) ∧ (decode cX12_sheet 70 = .ok (.iload 4, 2)) ∧ (decode cX12_sheet 72 = .ok (.bipush 40, 2)) ∧ (decode cX12_sheet 74 = .ok (.if_icmp .ge 22, 3)) ∧ (decode cX12_sheet 77 = .ok (.aload_n 0, 1)) ∧ (decode cX12_sheet 78 = .ok (.getfield 50, 3)) ∧ (decode cX12_sheet 81 = .ok (.bipush 40, 2)) := by decide +kernel
theorem dX12_sheet_67 : decode cX12_sheet 67 = .ok (.iconst 0, 1) := dcX12_sheet_5.1
theorem dX12_sheet_68 : decode cX12_sheet 68 = .ok (.istore 4, 2) := dcX12_sheet_5.2.1
theorem dX12_sheet_70 : decode cX12_sheet 70 = .ok (.iload 4, 2) := dcX12_sheet_5.2.2.1
theorem dX12_sheet_72 : decode cX12_sheet 72 = .ok (.bipush 40, 2) := dcX12_sheet_5.2.2.2.1
theorem dX12_sheet_74 : decode cX12_sheet 74 = .ok (.if_icmp .ge 22, 3) := dcX12_sheet_5.2.2.2.2.1
theorem dX12_sheet_77 : decode cX12_sheet 77 = .ok (.aload_n 0, 1) := dcX12_sheet_5.2.2.2.2.2.1
theorem dX12_sheet_78 : decode cX12_sheet 78 = .ok (.getfield 50, 3) := dcX12_sheet_5.2.2.2.2.2.2.1
theorem dX12_sheet_81 : decode cX12_sheet 81 = .ok (.bipush 40, 2) := dcX12_sheet_5.2.2.2.2.2.2.2
theorem dcX12_sheet_6 : (decode cX12_sheet 83 = .ok (.iload_n 1, 1)) ∧ (decode cX12_sheet 84 = .ok (.imul, 1)) ∧ (decode cX12_sheet 85 = .ok (.iload 4, 2)) ∧ (decode cX12_sheet 87 = .ok (.iadd, 1)) ∧ (decode cX12_sheet 88 = .ok (.iconst 0, 1)) ∧ (decode cX12_sheet 89 = .ok (.iastore, 1)) ∧ (decode cX12_sheet 90 = .ok (.iinc 4 1, 3)) ∧ (decode cX12_sheet 93 = .ok (.goto (-23), 3)) := by decide +kernel
theorem dX12_sheet_83 : decode cX12_sheet 83 = .ok (.iload_n 1, 1) := dcX12_sheet_6.1
theorem dX12_sheet_84 : decode cX12_sheet 84 = .ok (.imul, 1) := dcX12_sheet_6.2.1
theorem dX12_sheet_85 : decode cX12_sheet 85 = .ok (.iload 4, 2) := dcX12_sheet_6.2.2.1
theorem dX12_sheet_87 : decode cX12_sheet 87 = .ok (.iadd, 1) := dcX12_sheet_6.2.2.2.1
theorem dX12_sheet_88 : decode cX12_sheet 88 = .ok (.iconst 0, 1) := dcX12_sheet_6.2.2.2.2.1
theorem dX12_sheet_89 : decode cX12_sheet 89 = .ok (.iastore, 1) := dcX12_sheet_6.2.2.2.2.2.1
theorem dX12_sheet_90 : decode cX12_sheet 90 = .ok (.iinc 4 1, 3) := dcX12_sheet_6.2.2.2.2.2.2.1
theorem dX12_sheet_93 : decode cX12_sheet 93 = .ok (.goto (-23), 3) := dcX12_sheet_6.2.2.2.2.2.2.2
theorem dcX12_sheet_7 : (decode cX12_sheet 96 = .ok (.iconst 1, 1)) ∧ (decode cX12_sheet 97 = .ok (.ireturn, 1)) := by decide +kernel
theorem dX12_sheet_96 : decode cX12_sheet 96 = .ok (.iconst 1, 1) := dcX12_sheet_7.1
theorem dX12_sheet_97 : decode cX12_sheet 97 = .ok (.ireturn, 1) := dcX12_sheet_7.2
theorem dcX12_cell_0 : (decode cX12_cell 0 = .ok (.iload_n 1, 1)) ∧ (decode cX12_cell 1 = .ok (.iconst 0, 1)) ∧ (decode cX12_cell 2 = .ok (.iconst 3, 1)) ∧ (decode cX12_cell 3 = .ok (.invokestatic 93, 3)) ∧ (decode cX12_cell 6 = .ok (.ifCond .ne 6, 3)) ∧ (decode cX12_cell 9 = .ok (.bipush (-2), 2)) ∧ (decode cX12_cell 11 = .ok (.ireturn, 1)) ∧ (decode cX12_cell 12 = .ok (.aload_n 0, 1)) := by decide +kernel
theorem dX12_cell_0 : decode cX12_cell 0 = .ok (.iload_n 1, 1) := dcX12_cell_0.1
theorem dX12_cell_1 : decode cX12_cell 1 = .ok (.iconst 0, 1) := dcX12_cell_0.2.1
theorem dX12_cell_2 : decode cX12_cell 2 = .ok (.iconst 3, 1) := dcX12_cell_0.2.2.1
theorem dX12_cell_3 : decode cX12_cell 3 = .ok (.invokestatic 93, 3) := dcX12_cell_0.2.2.2.1
theorem dX12_cell_6 : decode cX12_cell 6 = .ok (.ifCond .ne 6, 3) := dcX12_cell_0.2.2.2.2.1
theorem dX12_cell_9 : decode cX12_cell 9 = .ok (.bipush (-2), 2) := dcX12_cell_0.2.2.2.2.2.1
theorem dX12_cell_11 : decode cX12_cell 11 = .ok (.ireturn, 1) := dcX12_cell_0.2.2.2.2.2.2.1
theorem dX12_cell_12 : decode cX12_cell 12 = .ok (.aload_n 0, 1) := dcX12_cell_0.2.2.2.2.2.2.2
theorem dcX12_cell_1 : (decode cX12_cell 13 = .ok (.getfield 44, 3)) ∧ (decode cX12_cell 16 = .ok (.iload_n 1, 1)) ∧ (decode cX12_cell 17 = .ok (.iaload, 1)) ∧ (decode cX12_cell 18 = .ok (.iconst (-1), 1)) ∧ (decode cX12_cell 19 = .ok (.if_icmp .ne 6, 3)) ∧ (decode cX12_cell 22 = .ok (.bipush (-11), 2)) ∧ (decode cX12_cell 24 = .ok (.ireturn, 1)) ∧ (decode cX12_cell 25 = .ok (.iload_n 2, 1)) := by decide +kernel
theorem dX12_cell_13 : decode cX12_cell 13 = .ok (.getfield 44, 3) := dcX12_cell_1.1
theorem dX12_cell_16 : decode cX12_cell 16 = .ok (.iload_n 1, 1) := dcX12_cell_1.2.1
theorem dX12_cell_17 : decode cX12_cell 17 = .ok (.iaload, 1) := dcX12_cell_1.2.2.1
theorem dX12_cell_18 : decode cX12_cell 18 = .ok (.iconst (-1), 1) := dcX12_cell_1.2.2.2.1
theorem dX12_cell_19 : decode cX12_cell 19 = .ok (.if_icmp .ne 6, 3) := dcX12_cell_1.2.2.2.2.1
theorem dX12_cell_22 : decode cX12_cell 22 = .ok (.bipush (-11), 2) := dcX12_cell_1.2.2.2.2.2.1
theorem dX12_cell_24 : decode cX12_cell 24 = .ok (.ireturn, 1) := dcX12_cell_1.2.2.2.2.2.2.1
theorem dX12_cell_25 : decode cX12_cell 25 = .ok (.iload_n 2, 1) := dcX12_cell_1.2.2.2.2.2.2.2
theorem dcX12_cell_2 : (decode cX12_cell 26 = .ok (.iconst 0, 1)) ∧ (decode cX12_cell 27 = .ok (.aload_n 0, 1)) ∧ (decode cX12_cell 28 = .ok (.getfield 47, 3)) ∧ (decode cX12_cell 31 = .ok (.iload_n 1, 1)) ∧ (decode cX12_cell 32 = .ok (.iaload, 1)) ∧ (decode cX12_cell 33 = .ok (.iconst 1, 1)) ∧ (decode cX12_cell 34 = .ok (.isub, 1)) ∧ (decode cX12_cell 35 = .ok (.invokestatic 93, 3)) := by decide +kernel
theorem dX12_cell_26 : decode cX12_cell 26 = .ok (.iconst 0, 1) := dcX12_cell_2.1
theorem dX12_cell_27 : decode cX12_cell 27 = .ok (.aload_n 0, 1) := dcX12_cell_2.2.1
theorem dX12_cell_28 : decode cX12_cell 28 = .ok (.getfield 47, 3) := dcX12_cell_2.2.2.1
theorem dX12_cell_31 : decode cX12_cell 31 = .ok (.iload_n 1, 1) := dcX12_cell_2.2.2.2.1
theorem dX12_cell_32 : decode cX12_cell 32 = .ok (.iaload, 1) := dcX12_cell_2.2.2.2.2.1
theorem dX12_cell_33 : decode cX12_cell 33 = .ok (.iconst 1, 1) := dcX12_cell_2.2.2.2.2.2.1
theorem dX12_cell_34 : decode cX12_cell 34 = .ok (.isub, 1) := dcX12_cell_2.2.2.2.2.2.2.1
theorem dX12_cell_35 : decode cX12_cell 35 = .ok (.invokestatic 93, 3) := dcX12_cell_2.2.2.2.2.2.2.2
theorem dcX12_cell_3 : (decode cX12_cell 38 = .ok (.ifCond .ne 6, 3)) ∧ (decode cX12_cell 41 = .ok (.bipush (-12), 2)) ∧ (decode cX12_cell 43 = .ok (.ireturn, 1)) ∧ (decode cX12_cell 44 = .ok (.aload_n 0, 1)) ∧ (decode cX12_cell 45 = .ok (.getfield 50, 3)) ∧ (decode cX12_cell 48 = .ok (.bipush 40, 2)) ∧ (decode cX12_cell 50 = .ok (.iload_n 1, 1)) ∧ (decode cX12_cell 51 = .ok (.imul, 1)) := by decide +kernel
theorem dX12_cell_38 : decode cX12_cell 38 = .ok (.ifCond .ne 6, 3) := dcX12_cell_3.1
theorem dX12_cell_41 : decode cX12_cell 41 = .ok (.bipush (-12), 2) := dcX12_cell_3.2.1
theorem dX12_cell_43 : decode cX12_cell 43 = .ok (.ireturn, 1) := dcX12_cell_3.2.2.1
theorem dX12_cell_44 : decode cX12_cell 44 = .ok (.aload_n 0, 1) := dcX12_cell_3.2.2.2.1
theorem dX12_cell_45 : decode cX12_cell 45 = .ok (.getfield 50, 3) := dcX12_cell_3.2.2.2.2.1
theorem dX12_cell_48 : decode cX12_cell 48 = .ok (.bipush 40, 2) := dcX12_cell_3.2.2.2.2.2.1
theorem dX12_cell_50 : decode cX12_cell 50 = .ok (.iload_n 1, 1) := dcX12_cell_3.2.2.2.2.2.2.1
theorem dX12_cell_51 : decode cX12_cell 51 = .ok (.imul, 1) := dcX12_cell_3.2.2.2.2.2.2.2
theorem dcX12_cell_4 : (decode cX12_cell 52 = .ok (.iload_n 2, 1)) ∧ (decode cX12_cell 53 = .ok (.iadd, 1)) ∧ (decode cX12_cell 54 = .ok (.aload_n 0, 1)) ∧ (decode cX12_cell 55 = .ok (.getfield 44, 3)) ∧ (decode cX12_cell 58 = .ok (.iload_n 1, 1)) ∧ (decode cX12_cell 59 = .ok (.iaload, 1)) ∧ (decode cX12_cell 60 = .ok (.ifCond .ne 8, 3)) ∧ (decode cX12_cell 63 = .ok (.iload_n 3, 1)) := by decide +kernel
theorem dX12_cell_52 : decode cX12_cell 52 = .ok (.iload_n 2, 1) := dcX12_cell_4.1
theorem dX12_cell_53 : decode cX12_cell 53 = .ok (.iadd, 1) := dcX12_cell_4.2.1
theorem dX12_cell_54 : decode cX12_cell 54 = .ok (.aload_n 0, 1) := dcX12_cell_4.2.2.1
theorem dX12_cell_55 : decode cX12_cell 55 = .ok (.getfield 44, 3) := dcX12_cell_4.2.2.2.1
theorem dX12_cell_58 : decode cX12_cell 58 = .ok (.iload_n 1, 1) := dcX12_cell_4.2.2.2.2.1
theorem dX12_cell_59 : decode cX12_cell 59 = .ok (.iaload, 1) := dcX12_cell_4.2.2.2.2.2.1
theorem dX12_cell_60 : decode cX12_cell 60 = .ok (.ifCond .ne 8, 3) := dcX12_cell_4.2.2.2.2.2.2.1
theorem dX12_cell_63 : decode cX12_cell 63 = .ok (.iload_n 3, 1) := dcX12_cell_4.2.2.2.2.2.2.2
theorem dcX12_cell_5 : (decode cX12_cell 64 = .ok (.i2b, 1)) ∧ (decode cX12_cell 65 = .ok (.goto 19, 3)) ∧ (decode cX12_cell 68 = .ok (.aload_n 0, 1)) ∧ (decode cX12_cell 69 = .ok (.getfield 44, 3)) ∧ (decode cX12_cell 72 = .ok (.iload_n 1, 1)) ∧ (decode cX12_cell 73 = .ok (.iaload, 1)) ∧ (decode cX12_cell 74 = .ok (.iconst 1, 1)) ∧ (decode cX12_cell 75 = .ok (.if_icmp .ne 8, 3)) := by decide +kernel
theorem dX12_cell_64 : decode cX12_cell 64 = .ok (.i2b, 1) := dcX12_cell_5.1
theorem dX12_cell_65 : decode cX12_cell 65 = .ok (.goto 19, 3) := dcX12_cell_5.2.1
theorem dX12_cell_68 : decode cX12_cell 68 = .ok (.aload_n 0, 1) := dcX12_cell_5.2.2.1
theorem dX12_cell_69 : decode cX12_cell 69 = .ok (.getfield 44, 3) := dcX12_cell_5.2.2.2.1
theorem dX12_cell_72 : decode cX12_cell 72 = .ok (.iload_n 1, 1) := dcX12_cell_5.2.2.2.2.1
theorem dX12_cell_73 : decode cX12_cell 73 = .ok (.iaload, 1) := dcX12_cell_5.2.2.2.2.2.1
theorem dX12_cell_74 : decode cX12_cell 74 = .ok (.iconst 1, 1) := dcX12_cell_5.2.2.2.2.2.2.1
theorem dX12_cell_75 : decode cX12_cell 75 = .ok (.if_icmp .ne 8, 3) := dcX12_cell_5.2.2.2.2.2.2.2
theorem dcX12_cell_6 : (decode cX12_cell 78 = .ok (.iload_n 3, 1)) ∧ (decode cX12_cell 79 = .ok (.i2s, 1)) ∧ (decode cX12_cell 80 = .ok (.goto 4, 3)) ∧ (decode cX12_cell 83 = .ok (.iload_n 3, 1)) ∧ (decode cX12_cell 84 = .ok (.iastore, 1)) ∧ (decode cX12_cell 85 = .ok (.iconst 1, 1)) ∧ (decode cX12_cell 86 = .ok (.ireturn, 1)) := by decide +kernel
theorem dX12_cell_78 : decode cX12_cell 78 = .ok (.iload_n 3, 1) := dcX12_cell_6.1
theorem dX12_cell_79 : decode cX12_cell 79 = .ok (.i2s, 1) := dcX12_cell_6.2.1
theorem dX12_cell_80 : decode cX12_cell 80 = .ok (.goto 4, 3) := dcX12_cell_6.2.2.1
theorem dX12_cell_83 : decode cX12_cell 83 = .ok (.iload_n 3, 1) := dcX12_cell_6.2.2.2.1
theorem dX12_cell_84 : decode cX12_cell 84 = .ok (.iastore, 1) := dcX12_cell_6.2.2.2.2.1
theorem dX12_cell_85 : decode cX12_cell 85 = .ok (.iconst 1, 1) := dcX12_cell_6.2.2.2.2.2.1
theorem dX12_cell_86 : decode cX12_cell 86 = .ok (.ireturn, 1) := dcX12_cell_6.2.2.2.2.2.2
theorem dcX12_copy_0 : (decode cX12_copy 0 = .ok (.iload_n 1, 1)) ∧ (decode cX12_copy 1 = .ok (.iconst 0, 1)) ∧ (decode cX12_copy 2 = .ok (.iconst 3, 1)) ∧ (decode cX12_copy 3 = .ok (.invokestatic 93, 3)) ∧ (decode cX12_copy 6 = .ok (.ifCond .eq 12, 3)) ∧ (decode cX12_copy 9 = .ok (.iload_n 3, 1)) ∧ (decode cX12_copy 10 = .ok (.iconst 0, 1)) ∧ (decode cX12_copy 11 = .ok (.iconst 3, 1)) := by decide +kernel
theorem dX12_copy_0 : decode cX12_copy 0 = .ok (.iload_n 1, 1) := dcX12_copy_0.1
theorem dX12_copy_1 : decode cX12_copy 1 = .ok (.iconst 0, 1) := dcX12_copy_0.2.1
theorem dX12_copy_2 : decode cX12_copy 2 = .ok (.iconst 3, 1) := dcX12_copy_0.2.2.1
theorem dX12_copy_3 : decode cX12_copy 3 = .ok (.invokestatic 93, 3) := dcX12_copy_0.2.2.2.1
theorem dX12_copy_6 : decode cX12_copy 6 = .ok (.ifCond .eq 12, 3) := dcX12_copy_0.2.2.2.2.1
theorem dX12_copy_9 : decode cX12_copy 9 = .ok (.iload_n 3, 1) := dcX12_copy_0.2.2.2.2.2.1
theorem dX12_copy_10 : decode cX12_copy 10 = .ok (.iconst 0, 1) := dcX12_copy_0.2.2.2.2.2.2.1
theorem dX12_copy_11 : decode cX12_copy 11 = .ok (.iconst 3, 1) := dcX12_copy_0.2.2.2.2.2.2.2
theorem dcX12_copy_1 : (decode cX12_copy 12 = .ok (.invokestatic 93, 3)) ∧ (decode cX12_copy 15 = .ok (.ifCond .ne 6, 3)) ∧ (decode cX12_copy 18 = .ok (.bipush (-2), 2)) ∧ (decode cX12_copy 20 = .ok (.ireturn, 1)) ∧ (decode cX12_copy 21 = .ok (.aload_n 0, 1)) ∧ (decode cX12_copy 22 = .ok (.getfield 44, 3)) ∧ (decode cX12_copy 25 = .ok (.iload_n 1, 1)) ∧ (decode cX12_copy 26 = .ok (.iaload, 1)) := by decide +kernel
theorem dX12_copy_12 : decode cX12_copy 12 = .ok (.invokestatic 93, 3) := dcX12_copy_1.1
theorem dX12_copy_15 : decode cX12_copy 15 = .ok (.ifCond .ne 6, 3) := dcX12_copy_1.2.1
theorem dX12_copy_18 : decode cX12_copy 18 = .ok (.bipush (-2), 2) := dcX12_copy_1.2.2.1
theorem dX12_copy_20 : decode cX12_copy 20 = .ok (.ireturn, 1) := dcX12_copy_1.2.2.2.1
theorem dX12_copy_21 : decode cX12_copy 21 = .ok (.aload_n 0, 1) := dcX12_copy_1.2.2.2.2.1
theorem dX12_copy_22 : decode cX12_copy 22 = .ok (.getfield 44, 3) := dcX12_copy_1.2.2.2.2.2.1
theorem dX12_copy_25 : decode cX12_copy 25 = .ok (.iload_n 1, 1) := dcX12_copy_1.2.2.2.2.2.2.1
theorem dX12_copy_26 : decode cX12_copy 26 = .ok (.iaload, 1) := dcX12_copy_1.2.2.2.2.2.2.2
theorem dcX12_copy_2 : (decode cX12_copy 27 = .ok (.iconst (-1), 1)) ∧ (decode cX12_copy 28 = .ok (.if_icmp .eq 13, 3)) ∧ (decode cX12_copy 31 = .ok (.aload_n 0, 1)) ∧ (decode cX12_copy 32 = .ok (.getfield 44, 3)) ∧ (decode cX12_copy 35 = .ok (.iload_n 3, 1)) ∧ (decode cX12_copy 36 = .ok (.iaload, 1)) ∧ (decode cX12_copy 37 = .ok (.iconst (-1), 1)) ∧ (decode cX12_copy 38 = .ok (.if_icmp .ne 6, 3)) := by decide +kernel
theorem dX12_copy_27 : decode cX12_copy 27 = .ok (.iconst (-1), 1) := dcX12_copy_2.1
theorem dX12_copy_28 : decode cX12_copy 28 = .ok (.if_icmp .eq 13, 3) := dcX12_copy_2.2.1
theorem dX12_copy_31 : decode cX12_copy 31 = .ok (.aload_n 0, 1) := dcX12_copy_2.2.2.1
theorem dX12_copy_32 : decode cX12_copy 32 = .ok (.getfield 44, 3) := dcX12_copy_2.2.2.2.1
theorem dX12_copy_35 : decode cX12_copy 35 = .ok (.iload_n 3, 1) := dcX12_copy_2.2.2.2.2.1
theorem dX12_copy_36 : decode cX12_copy 36 = .ok (.iaload, 1) := dcX12_copy_2.2.2.2.2.2.1
theorem dX12_copy_37 : decode cX12_copy 37 = .ok (.iconst (-1), 1) := dcX12_copy_2.2.2.2.2.2.2.1
theorem dX12_copy_38 : decode cX12_copy 38 = .ok (.if_icmp .ne 6, 3) := dcX12_copy_2.2.2.2.2.2.2.2
theorem dcX12_copy_3 : (decode cX12_copy 41 = .ok (.bipush (-11), 2)) ∧ (decode cX12_copy 43 = .ok (.ireturn, 1)) ∧ (decode cX12_copy 44 = .ok (.aload_n 0, 1)) ∧ (decode cX12_copy 45 = .ok (.getfield 44, 3)) ∧ (decode cX12_copy 48 = .ok (.iload_n 1, 1)) ∧ (decode cX12_copy 49 = .ok (.iaload, 1)) ∧ (decode cX12_copy 50 = .ok (.aload_n 0, 1)) ∧ (decode cX12_copy 51 = .ok (.getfield 44, 3)) := by decide +kernel
theorem dX12_copy_41 : decode cX12_copy 41 = .ok (.bipush (-11), 2) := dcX12_copy_3.1
theorem dX12_copy_43 : decode cX12_copy 43 = .ok (.ireturn, 1) := dcX12_copy_3.2.1
theorem dX12_copy_44 : decode cX12_copy 44 = .ok (.aload_n 0, 1) := dcX12_copy_3.2.2.1
theorem dX12_copy_45 : decode cX12_copy 45 = .ok (.getfield 44, 3) := dcX12_copy_3.2.2.2.1
theorem dX12_copy_48 : decode cX12_copy 48 = .ok (.iload_n 1, 1) := dcX12_copy_3.2.2.2.2.1
theorem dX12_copy_49 : decode cX12_copy 49 = .ok (.iaload, 1) := dcX12_copy_3.2.2.2.2.2.1
theorem dX12_copy_50 : decode cX12_copy 50 = .ok (.aload_n 0, 1) := dcX12_copy_3.2.2.2.2.2.2.1
theorem dX12_copy_51 : decode cX12_copy 51 = .ok (.getfield 44, 3) := dcX12_copy_3.2.2.2.2.2.2.2
theorem dcX12_copy_4 : (decode cX12_copy 54 = .ok (.iload_n 3, 1)) ∧ (decode cX12_copy 55 = .ok (.iaload, 1)) ∧ (decode cX12_copy 56 = .ok (.if_icmp .eq 6, 3)) ∧ (decode cX12_copy 59 = .ok (.bipush (-13), 2)) ∧ (decode cX12_copy 61 = .ok (.ireturn, 1)) ∧ (decode cX12_copy 62 = .ok (.iload 5, 2)) ∧ (decode cX12_copy 64 = .ok (.ifCond .lt 60, 3)) ∧ (decode cX12_copy 67 = .ok (.iload_n 2, 1)) := by decide +kernel
theorem dX12_copy_54 : decode cX12_copy 54 = .ok (.iload_n 3, 1) := dcX12_copy_4.1
theorem dX12_copy_55 : decode cX12_copy 55 = .ok (.iaload, 1) := dcX12_copy_4.2.1
theorem dX12_copy_56 : decode cX12_copy 56 = .ok (.if_icmp .eq 6, 3) := dcX12_copy_4.2.2.1
theorem dX12_copy_59 : decode cX12_copy 59 = .ok (.bipush (-13), 2) := dcX12_copy_4.2.2.2.1
theorem dX12_copy_61 : decode cX12_copy 61 = .ok (.ireturn, 1) := dcX12_copy_4.2.2.2.2.1
theorem dX12_copy_62 : decode cX12_copy 62 = .ok (.iload 5, 2) := dcX12_copy_4.2.2.2.2.2.1
theorem dX12_copy_64 : decode cX12_copy 64 = .ok (.ifCond .lt 60, 3) := dcX12_copy_4.2.2.2.2.2.2.1
theorem dX12_copy_67 : decode cX12_copy 67 = .ok (.iload_n 2, 1) := dcX12_copy_4.2.2.2.2.2.2.2
theorem dcX12_copy_5 : (decode cX12_copy 68 = .ok (.ifCond .lt 56, 3)) ∧ (decode cX12_copy 71 = .ok (.iload 4, 2)) ∧ (decode cX12_copy 73 = .ok (.ifCond .lt 51, 3)) ∧ (decode cX12_copy 76 = .ok (.iload_n 2, 1)) ∧ (decode cX12_copy 77 = .ok (.aload_n 0, 1)) ∧ (decode cX12_copy 78 = .ok (.getfield 47, 3)) ∧ (decode cX12_copy 81 = .ok (.iload_n 1, 1)) ∧ (decode cX12_copy 82 = .ok (.iaload, 1)) := by decide +kernel
theorem dX12_copy_68 : decode cX12_copy 68 = .ok (.ifCond .lt 56, 3) := dcX12_copy_5.1
theorem dX12_copy_71 : decode cX12_copy 71 = .ok (.iload 4, 2) := dcX12_copy_5.2.1
theorem dX12_copy_73 : decode cX12_copy 73 = .ok (.ifCond .lt 51, 3) := dcX12_copy_5.2.2.1
theorem dX12_copy_76 : decode cX12_copy 76 = .ok (.iload_n 2, 1) := dcX12_copy_5.2.2.2.1
theorem dX12_copy_77 : decode cX12_copy 77 = .ok (.aload_n 0, 1) := dcX12_copy_5.2.2.2.2.1
theorem dX12_copy_78 : decode cX12_copy 78 = .ok (.getfield 47, 3) := dcX12_copy_5.2.2.2.2.2.1
theorem dX12_copy_81 : decode cX12_copy 81 = .ok (.iload_n 1, 1) := dcX12_copy_5.2.2.2.2.2.2.1
theorem dX12_copy_82 : decode cX12_copy 82 = .ok (.iaload, 1) := dcX12_copy_5.2.2.2.2.2.2.2
theorem dcX12_copy_6 : (decode cX12_copy 83 = .ok (.if_icmp .gt 41, 3)) ∧ (decode cX12_copy 86 = .ok (.iload 4, 2)) ∧ (decode cX12_copy 88 = .ok (.aload_n 0, 1)) ∧ (decode cX12_copy 89 = .ok (.getfield 47, 3)) ∧ (decode cX12_copy 92 = .ok (.iload_n 3, 1)) ∧ (decode cX12_copy 93 = .ok (.iaload, 1)) ∧ (decode cX12_copy 94 = .ok (.if_icmp .gt 30, 3)) ∧ (decode cX12_copy 97 = .ok (.iload 5, 2)) := by decide +kernel
theorem dX12_copy_83 : decode cX12_copy 83 = .ok (.if_icmp .gt 41, 3) := dcX12_copy_6.1
theorem dX12_copy_86 : decode cX12_copy 86 = .ok (.iload 4, 2) := dcX12_copy_6.2.1
theorem dX12_copy_88 : decode cX12_copy 88 = .ok (.aload_n 0, 1) := dcX12_copy_6.2.2.1
theorem dX12_copy_89 : decode cX12_copy 89 = .ok (.getfield 47, 3) := dcX12_copy_6.2.2.2.1
theorem dX12_copy_92 : decode cX12_copy 92 = .ok (.iload_n 3, 1) := dcX12_copy_6.2.2.2.2.1
theorem dX12_copy_93 : decode cX12_copy 93 = .ok (.iaload, 1) := dcX12_copy_6.2.2.2.2.2.1
theorem dX12_copy_94 : decode cX12_copy 94 = .ok (.if_icmp .gt 30, 3) := dcX12_copy_6.2.2.2.2.2.2.1
theorem dX12_copy_97 : decode cX12_copy 97 = .ok (.iload 5, 2) := dcX12_copy_6.2.2.2.2.2.2.2
theorem dcX12_copy_7 : (decode cX12_copy 99 = .ok (.aload_n 0, 1)) ∧ (decode cX12_copy 100 = .ok (.getfield 47, 3)) ∧ (decode cX12_copy 103 = .ok (.iload_n 1, 1)) ∧ (decode cX12_copy 104 = .ok (.iaload, 1)) ∧ (decode cX12_copy 105 = .ok (.iload_n 2, 1)) ∧ (decode cX12_copy 106 = .ok (.isub, 1)) ∧ (decode cX12_copy 107 = .ok (.if_icmp .gt 17, 3)) ∧ (decode cX12_copy 110 = .ok (.iload 5, 2)) := by decide +kernel
theorem dX12_copy_99 : decode cX12_copy 99 = .ok (.aload_n 0, 1) := dcX12_copy_7.1
theorem dX12_copy_100 : decode cX12_copy 100 = .ok (.getfield 47, 3) := dcX12_copy_7.2.1
theorem dX12_copy_103 : decode cX12_copy 103 = .ok (.iload_n 1, 1) := dcX12_copy_7.2.2.1
theorem dX12_copy_104 : decode cX12_copy 104 = .ok (.iaload, 1) := dcX12_copy_7.2.2.2.1
theorem dX12_copy_105 : decode cX12_copy 105 = .ok (.iload_n 2, 1) := dcX12_copy_7.2.2.2.2.1
theorem dX12_copy_106 : decode cX12_copy 106 = .ok (.isub, 1) := dcX12_copy_7.2.2.2.2.2.1
theorem dX12_copy_107 : decode cX12_copy 107 = .ok (.if_icmp .gt 17, 3) := dcX12_copy_7.2.2.2.2.2.2.1
theorem dX12_copy_110 : decode cX12_copy 110 = .ok (.iload 5, 2) := dcX12_copy_7.2.2.2.2.2.2.2
theorem dcX12_copy_8 : (decode cX12_copy 112 = .ok (.aload_n 0, 1)) ∧ (decode cX12_copy 113 = .ok (.getfield 47, 3)) ∧ (decode cX12_copy 116 = .ok (.iload_n 3, 1)) ∧ (decode cX12_copy 117 = .ok (.iaload, 1)) ∧ (decode cX12_copy 118 = .ok (.iload 4, 2)) ∧ (decode cX12_copy 120 = .ok (.isub, 1)) ∧ (decode cX12_copy 121 = .ok (.if_icmp .le 6, 3)) ∧ (decode cX12_copy 124 = .ok (.bipush (-12), 2)) := by decide +kernel
theorem dX12_copy_112 : decode cX12_copy 112 = .ok (.aload_n 0, 1) := dcX12_copy_8.1
theorem dX12_copy_113 : decode cX12_copy 113 = .ok (.getfield 47, 3) := dcX12_copy_8.2.1
theorem dX12_copy_116 : decode cX12_copy 116 = .ok (.iload_n 3, 1) := dcX12_copy_8.2.2.1
theorem dX12_copy_117 : decode cX12_copy 117 = .ok (.iaload, 1) := dcX12_copy_8.2.2.2.1
theorem dX12_copy_118 : decode cX12_copy 118 = .ok (.iload 4, 2) := dcX12_copy_8.2.2.2.2.1
theorem dX12_copy_120 : decode cX12_copy 120 = .ok (.isub, 1) := dcX12_copy_8.2.2.2.2.2.1
theorem dX12_copy_121 : decode cX12_copy 121 = .ok (.if_icmp .le 6, 3) := dcX12_copy_8.2.2.2.2.2.2.1
theorem dX12_copy_124 : decode cX12_copy 124 = .ok (.bipush (-12), 2) := dcX12_copy_8.2.2.2.2.2.2.2
theorem dcX12_copy_9 : (decode cX12_copy 126 = .ok (.ireturn, 1)) ∧ (decode cX12_copy 127 = .ok (.bipush 40, 2)) ∧ (decode cX12_copy 129 = .ok (.iload_n 1, 1)) ∧ (decode cX12_copy 130 = .ok (.imul, 1)) ∧ (decode cX12_copy 131 = .ok (.iload_n 2, 1)) ∧ (decode cX12_copy 132 = .ok (.iadd, 1)) ∧ (decode cX12_copy 133 = .ok (.istore 6, 2)) ∧ (decode cX12_copy 135 = .ok (.bipush 40, 2)) := by decide +kernel
theorem dX12_copy_126 : decode cX12_copy 126 = .ok (.ireturn, 1) := dcX12_copy_9.1
theorem dX12_copy_127 : decode cX12_copy 127 = .ok (.bipush 40, 2) := dcX12_copy_9.2.1
theorem dX12_copy_129 : decode cX12_copy 129 = .ok (.iload_n 1, 1) := dcX12_copy_9.2.2.1
theorem dX12_copy_130 : decode cX12_copy 130 = .ok (.imul, 1) := dcX12_copy_9.2.2.2.1
theorem dX12_copy_131 : decode cX12_copy 131 = .ok (.iload_n 2, 1) := dcX12_copy_9.2.2.2.2.1
theorem dX12_copy_132 : decode cX12_copy 132 = .ok (.iadd, 1) := dcX12_copy_9.2.2.2.2.2.1
theorem dX12_copy_133 : decode cX12_copy 133 = .ok (.istore 6, 2) := dcX12_copy_9.2.2.2.2.2.2.1
theorem dX12_copy_135 : decode cX12_copy 135 = .ok (.bipush 40, 2) := dcX12_copy_9.2.2.2.2.2.2.2
theorem dcX12_copy_10 : (decode cX12_copy 137 = .ok (.iload_n 3, 1)) ∧ (decode cX12_copy 138 = .ok (.imul, 1)) ∧ (decode cX12_copy 139 = .ok (.iload 4, 2)) ∧ (decode cX12_copy 141 = .ok (.iadd, 1)) ∧ (decode cX12_copy 142 = .ok (.istore 7, 2)) ∧ (decode cX12_copy 144 = .ok (.iconst 0, 1)) ∧ (decode cX12_copy 145 = .ok (.istore 8, 2)) ∧ (decode cX12_copy 147 = .ok (.iload 8, 2)) := by decide +kernel
theorem dX12_copy_137 : decode cX12_copy 137 = .ok (.iload_n 3, 1) := dcX12_copy_10.1
theorem dX12_copy_138 : decode cX12_copy 138 = .ok (.imul, 1) := dcX12_copy_10.2.1
theorem dX12_copy_139 : decode cX12_copy 139 = .ok (.iload 4, 2) := dcX12_copy_10.2.2.1
theorem dX12_copy_141 : decode cX12_copy 141 = .ok (.iadd, 1) := dcX12_copy_10.2.2.2.1
theorem dX12_copy_142 : decode cX12_copy 142 = .ok (.istore 7, 2) := dcX12_copy_10.2.2.2.2.1
theorem dX12_copy_144 : decode cX12_copy 144 = .ok (.iconst 0, 1) := dcX12_copy_10.2.2.2.2.2.1
theorem dX12_copy_145 : decode cX12_copy 145 = .ok (.istore 8, 2) := dcX12_copy_10.2.2.2.2.2.2.1
theorem dX12_copy_147 : decode cX12_copy 147 = .ok (.iload 8, 2) := dcX12_copy_10.2.2.2.2.2.2.2
theorem dcX12_copy_11 : (decode cX12_copy 149 = .ok (.iload 5, 2)) ∧ (decode cX12_copy 151 = .ok (.if_icmp .ge 50, 3)) ∧ (decode cX12_copy 154 = .ok (.iload 6, 2)) ∧ (decode cX12_copy 156 = .ok (.iload 7, 2)) ∧ (decode cX12_copy 158 = .ok (.if_icmp .ge 13, 3)) ∧ (decode cX12_copy 161 = .ok (.iload 5, 2)) ∧ (decode cX12_copy 163 = .ok (.iconst 1, 1)) ∧ (decode cX12_copy 164 = .ok (.isub, 1)) := by decide +kernel
theorem dX12_copy_149 : decode cX12_copy 149 = .ok (.iload 5, 2) := dcX12_copy_11.1
theorem dX12_copy_151 : decode cX12_copy 151 = .ok (.if_icmp .ge 50, 3) := dcX12_copy_11.2.1
theorem dX12_copy_154 : decode cX12_copy 154 = .ok (.iload 6, 2) := dcX12_copy_11.2.2.1
theorem dX12_copy_156 : decode cX12_copy 156 = .ok (.iload 7, 2) := dcX12_copy_11.2.2.2.1
theorem dX12_copy_158 : decode cX12_copy 158 = .ok (.if_icmp .ge 13, 3) := dcX12_copy_11.2.2.2.2.1
theorem dX12_copy_161 : decode cX12_copy 161 = .ok (.iload 5, 2) := dcX12_copy_11.2.2.2.2.2.1
theorem dX12_copy_163 : decode cX12_copy 163 = .ok (.iconst 1, 1) := dcX12_copy_11.2.2.2.2.2.2.1
theorem dX12_copy_164 : decode cX12_copy 164 = .ok (.isub, 1) := dcX12_copy_11.2.2.2.2.2.2.2
theorem dcX12_copy_12 : (decode cX12_copy 165 = .ok (.iload 8, 2)) ∧ (decode cX12_copy 167 = .ok (.isub, 1)) ∧ (decode cX12_copy 168 = .ok (.goto 5, 3)) ∧ (decode cX12_copy 171 = .ok (.iload 8, 2)) ∧ (decode cX12_copy 173 = .ok (.istore 9, 2)) ∧ (decode cX12_copy 175 = .ok (.aload_n 0, 1)) ∧ (decode cX12_copy 176 = .ok (.getfield 50, 3)) ∧ (decode cX12_copy 179 = .ok (.iload 7, 2)) := by decide +kernel
theorem dX12_copy_165 : decode cX12_copy 165 = .ok (.iload 8, 2) := dcX12_copy_12.1
theorem dX12_copy_167 : decode cX12_copy 167 = .ok (.isub, 1) := dcX12_copy_12.2.1
theorem dX12_copy_168 : decode cX12_copy 168 = .ok (.goto 5, 3) := dcX12_copy_12.2.2.1
theorem dX12_copy_171 : decode cX12_copy 171 = .ok (.iload 8, 2) := dcX12_copy_12.2.2.2.1
theorem dX12_copy_173 : decode cX12_copy 173 = .ok (.istore 9, 2) := dcX12_copy_12.2.2.2.2.1
theorem dX12_copy_175 : decode cX12_copy 175 = .ok (.aload_n 0, 1) := dcX12_copy_12.2.2.2.2.2.1
theorem dX12_copy_176 : decode cX12_copy 176 = .ok (.getfield 50, 3) := dcX12_copy_12.2.2.2.2.2.2.1
theorem dX12_copy_179 : decode cX12_copy 179 = .ok (.iload 7, 2) := dcX12_copy_12.2.2.2.2.2.2.2
theorem dcX12_copy_13 : (decode cX12_copy 181 = .ok (.iload 9, 2)) ∧ (decode cX12_copy 183 = .ok (.iadd, 1)) ∧ (decode cX12_copy 184 = .ok (.aload_n 0, 1)) ∧ (decode cX12_copy 185 = .ok (.getfield 50, 3)) ∧ (decode cX12_copy 188 = .ok (.iload 6, 2)) ∧ (decode cX12_copy 190 = .ok (.iload 9, 2)) ∧ (decode cX12_copy 192 = .ok (.iadd, 1)) ∧ (decode cX12_copy 193 = .ok (.iaload, 1)) := by decide +kernel
theorem dX12_copy_181 : decode cX12_copy 181 = .ok (.iload 9, 2) := dcX12_copy_13.1
theorem dX12_copy_183 : decode cX12_copy 183 = .ok (.iadd, 1) := dcX12_copy_13.2.1
theorem dX12_copy_184 : decode cX12_copy 184 = .ok (.aload_n 0, 1) := dcX12_copy_13.2.2.1
theorem dX12_copy_185 : decode cX12_copy 185 = .ok (.getfield 50, 3) := dcX12_copy_13.2.2.2.1
theorem dX12_copy_188 : decode cX12_copy 188 = .ok (.iload 6, 2) := dcX12_copy_13.2.2.2.2.1
theorem dX12_copy_190 : decode cX12_copy 190 = .ok (.iload 9, 2) := dcX12_copy_13.2.2.2.2.2.1
theorem dX12_copy_192 : decode cX12_copy 192 = .ok (.iadd, 1) := dcX12_copy_13.2.2.2.2.2.2.1
theorem dX12_copy_193 : decode cX12_copy 193 = .ok (.iaload, 1) := dcX12_copy_13.2.2.2.2.2.2.2
theorem dcX12_copy_14 : (decode cX12_copy 194 = .ok (.iastore, 1)) ∧ (decode cX12_copy 195 = .ok (.iinc 8 1, 3)) ∧ (decode cX12_copy 198 = .ok (.goto (-51), 3)) ∧ (decode cX12_copy 201 = .ok (.iload 5, 2)) ∧ (decode cX12_copy 203 = .ok (.ireturn, 1)) := by decide +kernel
theorem dX12_copy_194 : decode cX12_copy 194 = .ok (.iastore, 1) := dcX12_copy_14.1
theorem dX12_copy_195 : decode cX12_copy 195 = .ok (.iinc 8 1, 3) := dcX12_copy_14.2.1
theorem dX12_copy_198 : decode cX12_copy 198 = .ok (.goto (-51), 3) := dcX12_copy_14.2.2.1
theorem dX12_copy_201 : decode cX12_copy 201 = .ok (.iload 5, 2) := dcX12_copy_14.2.2.2.1
theorem dX12_copy_203 : decode cX12_copy 203 = .ok (.ireturn, 1) := dcX12_copy_14.2.2.2.2
theorem dcX12_sleepersBy_0 : (decode cX12_sleepersBy 0 = .ok (.iload_n 1, 1)) ∧ (decode cX12_sleepersBy 1 = .ok (.iconst 0, 1)) ∧ (decode cX12_sleepersBy 2 = .ok (.iconst 3, 1)) ∧ (decode cX12_sleepersBy 3 = .ok (.invokestatic 93, 3)) ∧ (decode cX12_sleepersBy 6 = .ok (.ifCond .eq 23, 3)) ∧ (decode cX12_sleepersBy 9 = .ok (.iload_n 2, 1)) ∧ (decode cX12_sleepersBy 10 = .ok (.iconst 0, 1)) ∧ (decode cX12_sleepersBy 11 = .ok (.iconst 2, 1)) := by decide +kernel
theorem dX12_sleepersBy_0 : decode cX12_sleepersBy 0 = .ok (.iload_n 1, 1) := dcX12_sleepersBy_0.1
theorem dX12_sleepersBy_1 : decode cX12_sleepersBy 1 = .ok (.iconst 0, 1) := dcX12_sleepersBy_0.2.1
theorem dX12_sleepersBy_2 : decode cX12_sleepersBy 2 = .ok (.iconst 3, 1) := dcX12_sleepersBy_0.2.2.1
theorem dX12_sleepersBy_3 : decode cX12_sleepersBy 3 = .ok (.invokestatic 93, 3) := dcX12_sleepersBy_0.2.2.2.1
theorem dX12_sleepersBy_6 : decode cX12_sleepersBy 6 = .ok (.ifCond .eq 23, 3) := dcX12_sleepersBy_0.2.2.2.2.1
theorem dX12_sleepersBy_9 : decode cX12_sleepersBy 9 = .ok (.iload_n 2, 1) := dcX12_sleepersBy_0.2.2.2.2.2.1
theorem dX12_sleepersBy_10 : decode cX12_sleepersBy 10 = .ok (.iconst 0, 1) := dcX12_sleepersBy_0.2.2.2.2.2.2.1
theorem dX12_sleepersBy_11 : decode cX12_sleepersBy 11 = .ok (.iconst 2, 1) := dcX12_sleepersBy_0.2.2.2.2.2.2.2
theorem dcX12_sleepersBy_1 : (decode cX12_sleepersBy 12 = .ok (.invokestatic 93, 3)) ∧ (decode cX12_sleepersBy 15 = .ok (.ifCond .eq 14, 3)) ∧ (decode cX12_sleepersBy 18 = .ok (.iload 4, 2)) ∧ (decode cX12_sleepersBy 20 = .ok (.iconst 0, 1)) ∧ (decode cX12_sleepersBy 21 = .ok (.bipush 6, 2)) ∧ (decode cX12_sleepersBy 23 = .ok (.invokestatic 93, 3)) ∧ (decode cX12_sleepersBy 26 = .ok (.ifCond .ne 6, 3)) ∧ (decode cX12_sleepersBy 29 = .ok (.bipush (-2), 2)) := by decide +kernel
theorem dX12_sleepersBy_12 : decode cX12_sleepersBy 12 = .ok (.invokestatic 93, 3) := dcX12_sleepersBy_1.1
theorem dX12_sleepersBy_15 : decode cX12_sleepersBy 15 = .ok (.ifCond .eq 14, 3) := dcX12_sleepersBy_1.2.1
theorem dX12_sleepersBy_18 : decode cX12_sleepersBy 18 = .ok (.iload 4, 2) := dcX12_sleepersBy_1.2.2.1
theorem dX12_sleepersBy_20 : decode cX12_sleepersBy 20 = .ok (.iconst 0, 1) := dcX12_sleepersBy_1.2.2.2.1
theorem dX12_sleepersBy_21 : decode cX12_sleepersBy 21 = .ok (.bipush 6, 2) := dcX12_sleepersBy_1.2.2.2.2.1
theorem dX12_sleepersBy_23 : decode cX12_sleepersBy 23 = .ok (.invokestatic 93, 3) := dcX12_sleepersBy_1.2.2.2.2.2.1
theorem dX12_sleepersBy_26 : decode cX12_sleepersBy 26 = .ok (.ifCond .ne 6, 3) := dcX12_sleepersBy_1.2.2.2.2.2.2.1
theorem dX12_sleepersBy_29 : decode cX12_sleepersBy 29 = .ok (.bipush (-2), 2) := dcX12_sleepersBy_1.2.2.2.2.2.2.2
theorem dcX12_sleepersBy_2 : (decode cX12_sleepersBy 31 = .ok (.ireturn, 1)) ∧ (decode cX12_sleepersBy 32 = .ok (.aload_n 0, 1)) ∧ (decode cX12_sleepersBy 33 = .ok (.getfield 44, 3)) ∧ (decode cX12_sleepersBy 36 = .ok (.iload_n 1, 1)) ∧ (decode cX12_sleepersBy 37 = .ok (.iaload, 1)) ∧ (decode cX12_sleepersBy 38 = .ok (.iconst (-1), 1)) ∧ (decode cX12_sleepersBy 39 = .ok (.if_icmp .ne 6, 3)) ∧ (decode cX12_sleepersBy 42 = .ok (.bipush (-11), 2)) := by decide +kernel
theorem dX12_sleepersBy_31 : decode cX12_sleepersBy 31 = .ok (.ireturn, 1) := dcX12_sleepersBy_2.1
theorem dX12_sleepersBy_32 : decode cX12_sleepersBy 32 = .ok (.aload_n 0, 1) := dcX12_sleepersBy_2.2.1
theorem dX12_sleepersBy_33 : decode cX12_sleepersBy 33 = .ok (.getfield 44, 3) := dcX12_sleepersBy_2.2.2.1
theorem dX12_sleepersBy_36 : decode cX12_sleepersBy 36 = .ok (.iload_n 1, 1) := dcX12_sleepersBy_2.2.2.2.1
theorem dX12_sleepersBy_37 : decode cX12_sleepersBy 37 = .ok (.iaload, 1) := dcX12_sleepersBy_2.2.2.2.2.1
theorem dX12_sleepersBy_38 : decode cX12_sleepersBy 38 = .ok (.iconst (-1), 1) := dcX12_sleepersBy_2.2.2.2.2.2.1
theorem dX12_sleepersBy_39 : decode cX12_sleepersBy 39 = .ok (.if_icmp .ne 6, 3) := dcX12_sleepersBy_2.2.2.2.2.2.2.1
theorem dX12_sleepersBy_42 : decode cX12_sleepersBy 42 = .ok (.bipush (-11), 2) := dcX12_sleepersBy_2.2.2.2.2.2.2.2
theorem dcX12_sleepersBy_3 : (decode cX12_sleepersBy 44 = .ok (.ireturn, 1)) ∧ (decode cX12_sleepersBy 45 = .ok (.aload_n 0, 1)) ∧ (decode cX12_sleepersBy 46 = .ok (.getfield 44, 3)) ∧ (decode cX12_sleepersBy 49 = .ok (.iload_n 1, 1)) ∧ (decode cX12_sleepersBy 50 = .ok (.iaload, 1)) ∧ (decode cX12_sleepersBy 51 = .ok (.iload_n 2, 1)) ∧ (decode cX12_sleepersBy 52 = .ok (.if_icmp .eq 6, 3)) ∧ (decode cX12_sleepersBy 55 = .ok (.bipush (-13), 2)) := by decide +kernel
theorem dX12_sleepersBy_44 : decode cX12_sleepersBy 44 = .ok (.ireturn, 1) := dcX12_sleepersBy_3.1
theorem dX12_sleepersBy_45 : decode cX12_sleepersBy 45 = .ok (.aload_n 0, 1) := dcX12_sleepersBy_3.2.1
theorem dX12_sleepersBy_46 : decode cX12_sleepersBy 46 = .ok (.getfield 44, 3) := dcX12_sleepersBy_3.2.2.1
theorem dX12_sleepersBy_49 : decode cX12_sleepersBy 49 = .ok (.iload_n 1, 1) := dcX12_sleepersBy_3.2.2.2.1
theorem dX12_sleepersBy_50 : decode cX12_sleepersBy 50 = .ok (.iaload, 1) := dcX12_sleepersBy_3.2.2.2.2.1
theorem dX12_sleepersBy_51 : decode cX12_sleepersBy 51 = .ok (.iload_n 2, 1) := dcX12_sleepersBy_3.2.2.2.2.2.1
theorem dX12_sleepersBy_52 : decode cX12_sleepersBy 52 = .ok (.if_icmp .eq 6, 3) := dcX12_sleepersBy_3.2.2.2.2.2.2.1
theorem dX12_sleepersBy_55 : decode cX12_sleepersBy 55 = .ok (.bipush (-13), 2) := dcX12_sleepersBy_3.2.2.2.2.2.2.2
theorem dcX12_sleepersBy_4 : (decode cX12_sleepersBy 57 = .ok (.ireturn, 1)) ∧ (decode cX12_sleepersBy 58 = .ok (.iconst 0, 1)) ∧ (decode cX12_sleepersBy 59 = .ok (.istore 5, 2)) ∧ (decode cX12_sleepersBy 61 = .ok (.iconst 0, 1)) ∧ (decode cX12_sleepersBy 62 = .ok (.istore 6, 2)) ∧ (decode cX12_sleepersBy 64 = .ok (.iload 6, 2)) ∧ (decode cX12_sleepersBy 66 = .ok (.iload 4, 2)) ∧ (decode cX12_sleepersBy 68 = .ok (.if_icmp .ge 94, 3)) := by decide +kernel
theorem dX12_sleepersBy_57 : decode cX12_sleepersBy 57 = .ok (.ireturn, 1) := dcX12_sleepersBy_4.1
theorem dX12_sleepersBy_58 : decode cX12_sleepersBy 58 = .ok (.iconst 0, 1) := dcX12_sleepersBy_4.2.1
theorem dX12_sleepersBy_59 : decode cX12_sleepersBy 59 = .ok (.istore 5, 2) := dcX12_sleepersBy_4.2.2.1
theorem dX12_sleepersBy_61 : decode cX12_sleepersBy 61 = .ok (.iconst 0, 1) := dcX12_sleepersBy_4.2.2.2.1
theorem dX12_sleepersBy_62 : decode cX12_sleepersBy 62 = .ok (.istore 6, 2) := dcX12_sleepersBy_4.2.2.2.2.1
theorem dX12_sleepersBy_64 : decode cX12_sleepersBy 64 = .ok (.iload 6, 2) := dcX12_sleepersBy_4.2.2.2.2.2.1
theorem dX12_sleepersBy_66 : decode cX12_sleepersBy 66 = .ok (.iload 4, 2) := dcX12_sleepersBy_4.2.2.2.2.2.2.1
theorem dX12_sleepersBy_68 : decode cX12_sleepersBy 68 = .ok (.if_icmp .ge 94, 3) := dcX12_sleepersBy_4.2.2.2.2.2.2.2
theorem dcX12_sleepersBy_5 : (decode cX12_sleepersBy 71 = .ok (.iload_n 3, 1)) ∧ (decode cX12_sleepersBy 72 = .ok (.iconst 3, 1)) ∧ (decode cX12_sleepersBy 73 = .ok (.iload 6, 2)) ∧ (decode cX12_sleepersBy 75 = .ok (.imul, 1)) ∧ (decode cX12_sleepersBy 76 = .ok (.iadd, 1)) ∧ (decode cX12_sleepersBy 77 = .ok (.istore 7, 2)) ∧ (decode cX12_sleepersBy 79 = .ok (.iload_n 3, 1)) ∧ (decode cX12_sleepersBy 80 = .ok (.ifCond .lt 22, 3)) := by decide +kernel
theorem dX12_sleepersBy_71 : decode cX12_sleepersBy 71 = .ok (.iload_n 3, 1) := dcX12_sleepersBy_5.1
theorem dX12_sleepersBy_72 : decode cX12_sleepersBy 72 = .ok (.iconst 3, 1) := dcX12_sleepersBy_5.2.1
theorem dX12_sleepersBy_73 : decode cX12_sleepersBy 73 = .ok (.iload 6, 2) := dcX12_sleepersBy_5.2.2.1
theorem dX12_sleepersBy_75 : decode cX12_sleepersBy 75 = .ok (.imul, 1) := dcX12_sleepersBy_5.2.2.2.1
theorem dX12_sleepersBy_76 : decode cX12_sleepersBy 76 = .ok (.iadd, 1) := dcX12_sleepersBy_5.2.2.2.2.1
theorem dX12_sleepersBy_77 : decode cX12_sleepersBy 77 = .ok (.istore 7, 2) := dcX12_sleepersBy_5.2.2.2.2.2.1
theorem dX12_sleepersBy_79 : decode cX12_sleepersBy 79 = .ok (.iload_n 3, 1) := dcX12_sleepersBy_5.2.2.2.2.2.2.1
theorem dX12_sleepersBy_80 : decode cX12_sleepersBy 80 = .ok (.ifCond .lt 22, 3) := dcX12_sleepersBy_5.2.2.2.2.2.2.2
theorem dcX12_sleepersBy_6 : (decode cX12_sleepersBy 83 = .ok (.iload 7, 2)) ∧ (decode cX12_sleepersBy 85 = .ok (.iload_n 3, 1)) ∧ (decode cX12_sleepersBy 86 = .ok (.if_icmp .lt 16, 3)) ∧ (decode cX12_sleepersBy 89 = .ok (.iload 7, 2)) ∧ (decode cX12_sleepersBy 91 = .ok (.aload_n 0, 1)) ∧ (decode cX12_sleepersBy 92 = .ok (.getfield 47, 3)) ∧ (decode cX12_sleepersBy 95 = .ok (.iload_n 1, 1)) ∧ (decode cX12_sleepersBy 96 = .ok (.iaload, 1)) := by decide +kernel
theorem dX12_sleepersBy_83 : decode cX12_sleepersBy 83 = .ok (.iload 7, 2) := dcX12_sleepersBy_6.1
theorem dX12_sleepersBy_85 : decode cX12_sleepersBy 85 = .ok (.iload_n 3, 1) := dcX12_sleepersBy_6.2.1
theorem dX12_sleepersBy_86 : decode cX12_sleepersBy 86 = .ok (.if_icmp .lt 16, 3) := dcX12_sleepersBy_6.2.2.1
theorem dX12_sleepersBy_89 : decode cX12_sleepersBy 89 = .ok (.iload 7, 2) := dcX12_sleepersBy_6.2.2.2.1
theorem dX12_sleepersBy_91 : decode cX12_sleepersBy 91 = .ok (.aload_n 0, 1) := dcX12_sleepersBy_6.2.2.2.2.1
theorem dX12_sleepersBy_92 : decode cX12_sleepersBy 92 = .ok (.getfield 47, 3) := dcX12_sleepersBy_6.2.2.2.2.2.1
theorem dX12_sleepersBy_95 : decode cX12_sleepersBy 95 = .ok (.iload_n 1, 1) := dcX12_sleepersBy_6.2.2.2.2.2.2.1
theorem dX12_sleepersBy_96 : decode cX12_sleepersBy 96 = .ok (.iaload, 1) := dcX12_sleepersBy_6.2.2.2.2.2.2.2
theorem dcX12_sleepersBy_7 : (decode cX12_sleepersBy 97 = .ok (.iconst 3, 1)) ∧ (decode cX12_sleepersBy 98 = .ok (.isub, 1)) ∧ (decode cX12_sleepersBy 99 = .ok (.if_icmp .le 6, 3)) ∧ (decode cX12_sleepersBy 102 = .ok (.bipush (-12), 2)) ∧ (decode cX12_sleepersBy 104 = .ok (.ireturn, 1)) ∧ (decode cX12_sleepersBy 105 = .ok (.bipush 40, 2)) ∧ (decode cX12_sleepersBy 107 = .ok (.iload_n 1, 1)) ∧ (decode cX12_sleepersBy 108 = .ok (.imul, 1)) := by decide +kernel
theorem dX12_sleepersBy_97 : decode cX12_sleepersBy 97 = .ok (.iconst 3, 1) := dcX12_sleepersBy_7.1
theorem dX12_sleepersBy_98 : decode cX12_sleepersBy 98 = .ok (.isub, 1) := dcX12_sleepersBy_7.2.1
theorem dX12_sleepersBy_99 : decode cX12_sleepersBy 99 = .ok (.if_icmp .le 6, 3) := dcX12_sleepersBy_7.2.2.1
theorem dX12_sleepersBy_102 : decode cX12_sleepersBy 102 = .ok (.bipush (-12), 2) := dcX12_sleepersBy_7.2.2.2.1
theorem dX12_sleepersBy_104 : decode cX12_sleepersBy 104 = .ok (.ireturn, 1) := dcX12_sleepersBy_7.2.2.2.2.1
theorem dX12_sleepersBy_105 : decode cX12_sleepersBy 105 = .ok (.bipush 40, 2) := dcX12_sleepersBy_7.2.2.2.2.2.1
theorem dX12_sleepersBy_107 : decode cX12_sleepersBy 107 = .ok (.iload_n 1, 1) := dcX12_sleepersBy_7.2.2.2.2.2.2.1
theorem dX12_sleepersBy_108 : decode cX12_sleepersBy 108 = .ok (.imul, 1) := dcX12_sleepersBy_7.2.2.2.2.2.2.2
theorem dcX12_sleepersBy_8 : (decode cX12_sleepersBy 109 = .ok (.iload 7, 2)) ∧ (decode cX12_sleepersBy 111 = .ok (.iadd, 1)) ∧ (decode cX12_sleepersBy 112 = .ok (.istore 8, 2)) ∧ (decode cX12_sleepersBy 114 = .ok (.iload 5, 2)) ∧ (decode cX12_sleepersBy 116 = .ok (.aload_n 0, 1)) ∧ (decode cX12_sleepersBy 117 = .ok (.aload_n 0, 1)) ∧ (decode cX12_sleepersBy 118 = .ok (.getfield 50, 3)) ∧ (decode cX12_sleepersBy 121 = .ok (.iload 8, 2)) := by decide +kernel
theorem dX12_sleepersBy_109 : decode cX12_sleepersBy 109 = .ok (.iload 7, 2) := dcX12_sleepersBy_8.1
theorem dX12_sleepersBy_111 : decode cX12_sleepersBy 111 = .ok (.iadd, 1) := dcX12_sleepersBy_8.2.1
theorem dX12_sleepersBy_112 : decode cX12_sleepersBy 112 = .ok (.istore 8, 2) := dcX12_sleepersBy_8.2.2.1
theorem dX12_sleepersBy_114 : decode cX12_sleepersBy 114 = .ok (.iload 5, 2) := dcX12_sleepersBy_8.2.2.2.1
theorem dX12_sleepersBy_116 : decode cX12_sleepersBy 116 = .ok (.aload_n 0, 1) := dcX12_sleepersBy_8.2.2.2.2.1
theorem dX12_sleepersBy_117 : decode cX12_sleepersBy 117 = .ok (.aload_n 0, 1) := dcX12_sleepersBy_8.2.2.2.2.2.1
theorem dX12_sleepersBy_118 : decode cX12_sleepersBy 118 = .ok (.getfield 50, 3) := dcX12_sleepersBy_8.2.2.2.2.2.2.1
theorem dX12_sleepersBy_121 : decode cX12_sleepersBy 121 = .ok (.iload 8, 2) := dcX12_sleepersBy_8.2.2.2.2.2.2.2
theorem dcX12_sleepersBy_9 : (decode cX12_sleepersBy 123 = .ok (.iaload, 1)) ∧ (decode cX12_sleepersBy 124 = .ok (.aload_n 0, 1)) ∧ (decode cX12_sleepersBy 125 = .ok (.getfield 50, 3)) ∧ (decode cX12_sleepersBy 128 = .ok (.iload 8, 2)) ∧ (decode cX12_sleepersBy 130 = .ok (.iconst 1, 1)) ∧ (decode cX12_sleepersBy 131 = .ok (.iadd, 1)) ∧ (decode cX12_sleepersBy 132 = .ok (.iaload, 1)) ∧ (decode cX12_sleepersBy 133 = .ok (.aload_n 0, 1)) := by decide +kernel
theorem dX12_sleepersBy_123 : decode cX12_sleepersBy 123 = .ok (.iaload, 1) := dcX12_sleepersBy_9.1
theorem dX12_sleepersBy_124 : decode cX12_sleepersBy 124 = .ok (.aload_n 0, 1) := dcX12_sleepersBy_9.2.1
theorem dX12_sleepersBy_125 : decode cX12_sleepersBy 125 = .ok (.getfield 50, 3) := dcX12_sleepersBy_9.2.2.1
theorem dX12_sleepersBy_128 : decode cX12_sleepersBy 128 = .ok (.iload 8, 2) := dcX12_sleepersBy_9.2.2.2.1
theorem dX12_sleepersBy_130 : decode cX12_sleepersBy 130 = .ok (.iconst 1, 1) := dcX12_sleepersBy_9.2.2.2.2.1
theorem dX12_sleepersBy_131 : decode cX12_sleepersBy 131 = .ok (.iadd, 1) := dcX12_sleepersBy_9.2.2.2.2.2.1
theorem dX12_sleepersBy_132 : decode cX12_sleepersBy 132 = .ok (.iaload, 1) := dcX12_sleepersBy_9.2.2.2.2.2.2.1
theorem dX12_sleepersBy_133 : decode cX12_sleepersBy 133 = .ok (.aload_n 0, 1) := dcX12_sleepersBy_9.2.2.2.2.2.2.2
theorem dcX12_sleepersBy_10 : (decode cX12_sleepersBy 134 = .ok (.getfield 50, 3)) ∧ (decode cX12_sleepersBy 137 = .ok (.iload 8, 2)) ∧ (decode cX12_sleepersBy 139 = .ok (.iconst 2, 1)) ∧ (decode cX12_sleepersBy 140 = .ok (.iadd, 1)) ∧ (decode cX12_sleepersBy 141 = .ok (.iaload, 1)) ∧ (decode cX12_sleepersBy 142 = .ok (.invokevirtual 289, 3)) ∧ (decode cX12_sleepersBy 145 = .ok (.ifCond .lt 7, 3)) ∧ (decode cX12_sleepersBy 148 = .ok (.iconst 1, 1)) := by decide +kernel
theorem dX12_sleepersBy_134 : decode cX12_sleepersBy 134 = .ok (.getfield 50, 3) := dcX12_sleepersBy_10.1
theorem dX12_sleepersBy_137 : decode cX12_sleepersBy 137 = .ok (.iload 8, 2) := dcX12_sleepersBy_10.2.1
theorem dX12_sleepersBy_139 : decode cX12_sleepersBy 139 = .ok (.iconst 2, 1) := dcX12_sleepersBy_10.2.2.1
theorem dX12_sleepersBy_140 : decode cX12_sleepersBy 140 = .ok (.iadd, 1) := dcX12_sleepersBy_10.2.2.2.1
theorem dX12_sleepersBy_141 : decode cX12_sleepersBy 141 = .ok (.iaload, 1) := dcX12_sleepersBy_10.2.2.2.2.1
theorem dX12_sleepersBy_142 : decode cX12_sleepersBy 142 = .ok (.invokevirtual 289, 3) := dcX12_sleepersBy_10.2.2.2.2.2.1
theorem dX12_sleepersBy_145 : decode cX12_sleepersBy 145 = .ok (.ifCond .lt 7, 3) := dcX12_sleepersBy_10.2.2.2.2.2.2.1
theorem dX12_sleepersBy_148 : decode cX12_sleepersBy 148 = .ok (.iconst 1, 1) := dcX12_sleepersBy_10.2.2.2.2.2.2.2
theorem dcX12_sleepersBy_11 : (decode cX12_sleepersBy 149 = .ok (.goto 4, 3)) ∧ (decode cX12_sleepersBy 152 = .ok (.iconst 0, 1)) ∧ (decode cX12_sleepersBy 153 = .ok (.iadd, 1)) ∧ (decode cX12_sleepersBy 154 = .ok (.istore 5, 2)) ∧ (decode cX12_sleepersBy 156 = .ok (.iinc 6 1, 3)) ∧ (decode cX12_sleepersBy 159 = .ok (.goto (-95), 3)) ∧ (decode cX12_sleepersBy 162 = .ok (.iload 5, 2)) ∧ (decode cX12_sleepersBy 164 = .ok (.ireturn, 1)) := by decide +kernel
theorem dX12_sleepersBy_149 : decode cX12_sleepersBy 149 = .ok (.goto 4, 3) := dcX12_sleepersBy_11.1
theorem dX12_sleepersBy_152 : decode cX12_sleepersBy 152 = .ok (.iconst 0, 1) := dcX12_sleepersBy_11.2.1
theorem dX12_sleepersBy_153 : decode cX12_sleepersBy 153 = .ok (.iadd, 1) := dcX12_sleepersBy_11.2.2.1
theorem dX12_sleepersBy_154 : decode cX12_sleepersBy 154 = .ok (.istore 5, 2) := dcX12_sleepersBy_11.2.2.2.1
theorem dX12_sleepersBy_156 : decode cX12_sleepersBy 156 = .ok (.iinc 6 1, 3) := dcX12_sleepersBy_11.2.2.2.2.1
theorem dX12_sleepersBy_159 : decode cX12_sleepersBy 159 = .ok (.goto (-95), 3) := dcX12_sleepersBy_11.2.2.2.2.2.1
theorem dX12_sleepersBy_162 : decode cX12_sleepersBy 162 = .ok (.iload 5, 2) := dcX12_sleepersBy_11.2.2.2.2.2.2.1
theorem dX12_sleepersBy_164 : decode cX12_sleepersBy 164 = .ok (.ireturn, 1) := dcX12_sleepersBy_11.2.2.2.2.2.2.2
theorem dcX12_isUnder_0 : (decode cX12_isUnder 0 = .ok (.iload_n 1, 1)) ∧ (decode cX12_isUnder 1 = .ok (.ifCond .eq 28, 3)) ∧ (decode cX12_isUnder 4 = .ok (.iload_n 0, 1)) ∧ (decode cX12_isUnder 5 = .ok (.iload_n 1, 1)) ∧ (decode cX12_isUnder 6 = .ok (.if_icmp .eq 23, 3)) ∧ (decode cX12_isUnder 9 = .ok (.iload_n 1, 1)) ∧ (decode cX12_isUnder 10 = .ok (.iconst 1, 1)) ∧ (decode cX12_isUnder 11 = .ok (.if_icmp .ne 8, 3)) := by decide +kernel
theorem dX12_isUnder_0 : decode cX12_isUnder 0 = .ok (.iload_n 1, 1) := dcX12_isUnder_0.1
theorem dX12_isUnder_1 : decode cX12_isUnder 1 = .ok (.ifCond .eq 28, 3) := dcX12_isUnder_0.2.1
theorem dX12_isUnder_4 : decode cX12_isUnder 4 = .ok (.iload_n 0, 1) := dcX12_isUnder_0.2.2.1
theorem dX12_isUnder_5 : decode cX12_isUnder 5 = .ok (.iload_n 1, 1) := dcX12_isUnder_0.2.2.2.1
theorem dX12_isUnder_6 : decode cX12_isUnder 6 = .ok (.if_icmp .eq 23, 3) := dcX12_isUnder_0.2.2.2.2.1
theorem dX12_isUnder_9 : decode cX12_isUnder 9 = .ok (.iload_n 1, 1) := dcX12_isUnder_0.2.2.2.2.2.1
theorem dX12_isUnder_10 : decode cX12_isUnder 10 = .ok (.iconst 1, 1) := dcX12_isUnder_0.2.2.2.2.2.2.1
theorem dX12_isUnder_11 : decode cX12_isUnder 11 = .ok (.if_icmp .ne 8, 3) := dcX12_isUnder_0.2.2.2.2.2.2.2
theorem dcX12_isUnder_1 : (decode cX12_isUnder 14 = .ok (.iload_n 0, 1)) ∧ (decode cX12_isUnder 15 = .ok (.iconst 3, 1)) ∧ (decode cX12_isUnder 16 = .ok (.if_icmp .eq 13, 3)) ∧ (decode cX12_isUnder 19 = .ok (.iload_n 1, 1)) ∧ (decode cX12_isUnder 20 = .ok (.iconst 2, 1)) ∧ (decode cX12_isUnder 21 = .ok (.if_icmp .ne 12, 3)) ∧ (decode cX12_isUnder 24 = .ok (.iload_n 0, 1)) ∧ (decode cX12_isUnder 25 = .ok (.iconst 4, 1)) := by decide +kernel
theorem dX12_isUnder_14 : decode cX12_isUnder 14 = .ok (.iload_n 0, 1) := dcX12_isUnder_1.1
theorem dX12_isUnder_15 : decode cX12_isUnder 15 = .ok (.iconst 3, 1) := dcX12_isUnder_1.2.1
theorem dX12_isUnder_16 : decode cX12_isUnder 16 = .ok (.if_icmp .eq 13, 3) := dcX12_isUnder_1.2.2.1
theorem dX12_isUnder_19 : decode cX12_isUnder 19 = .ok (.iload_n 1, 1) := dcX12_isUnder_1.2.2.2.1
theorem dX12_isUnder_20 : decode cX12_isUnder 20 = .ok (.iconst 2, 1) := dcX12_isUnder_1.2.2.2.2.1
theorem dX12_isUnder_21 : decode cX12_isUnder 21 = .ok (.if_icmp .ne 12, 3) := dcX12_isUnder_1.2.2.2.2.2.1
theorem dX12_isUnder_24 : decode cX12_isUnder 24 = .ok (.iload_n 0, 1) := dcX12_isUnder_1.2.2.2.2.2.2.1
theorem dX12_isUnder_25 : decode cX12_isUnder 25 = .ok (.iconst 4, 1) := dcX12_isUnder_1.2.2.2.2.2.2.2
theorem dcX12_isUnder_2 : (decode cX12_isUnder 26 = .ok (.if_icmp .ne 7, 3)) ∧ (decode cX12_isUnder 29 = .ok (.iconst 1, 1)) ∧ (decode cX12_isUnder 30 = .ok (.goto 4, 3)) ∧ (decode cX12_isUnder 33 = .ok (.iconst 0, 1)) ∧ (decode cX12_isUnder 34 = .ok (.ireturn, 1)) := by decide +kernel
theorem dX12_isUnder_26 : decode cX12_isUnder 26 = .ok (.if_icmp .ne 7, 3) := dcX12_isUnder_2.1
theorem dX12_isUnder_29 : decode cX12_isUnder 29 = .ok (.iconst 1, 1) := dcX12_isUnder_2.2.1
theorem dX12_isUnder_30 : decode cX12_isUnder 30 = .ok (.goto 4, 3) := dcX12_isUnder_2.2.2.1
theorem dX12_isUnder_33 : decode cX12_isUnder 33 = .ok (.iconst 0, 1) := dcX12_isUnder_2.2.2.2.1
theorem dX12_isUnder_34 : decode cX12_isUnder 34 = .ok (.ireturn, 1) := dcX12_isUnder_2.2.2.2.2
theorem dcX12_taken_0 : (decode cX12_taken 0 = .ok (.iload_n 2, 1)) ∧ (decode cX12_taken 1 = .ok (.iconst 0, 1)) ∧ (decode cX12_taken 2 = .ok (.bipush 6, 2)) ∧ (decode cX12_taken 4 = .ok (.invokestatic 93, 3)) ∧ (decode cX12_taken 7 = .ok (.ifCond .ne 6, 3)) ∧ (decode cX12_taken 10 = .ok (.bipush (-2), 2)) ∧ (decode cX12_taken 12 = .ok (.ireturn, 1)) ∧ (decode cX12_taken 13 = .ok (.iload_n 1, 1)) := by decide +kernel
theorem dX12_taken_0 : decode cX12_taken 0 = .ok (.iload_n 2, 1) := dcX12_taken_0.1
theorem dX12_taken_1 : decode cX12_taken 1 = .ok (.iconst 0, 1) := dcX12_taken_0.2.1
theorem dX12_taken_2 : decode cX12_taken 2 = .ok (.bipush 6, 2) := dcX12_taken_0.2.2.1
theorem dX12_taken_4 : decode cX12_taken 4 = .ok (.invokestatic 93, 3) := dcX12_taken_0.2.2.2.1
theorem dX12_taken_7 : decode cX12_taken 7 = .ok (.ifCond .ne 6, 3) := dcX12_taken_0.2.2.2.2.1
theorem dX12_taken_10 : decode cX12_taken 10 = .ok (.bipush (-2), 2) := dcX12_taken_0.2.2.2.2.2.1
theorem dX12_taken_12 : decode cX12_taken 12 = .ok (.ireturn, 1) := dcX12_taken_0.2.2.2.2.2.2.1
theorem dX12_taken_13 : decode cX12_taken 13 = .ok (.iload_n 1, 1) := dcX12_taken_0.2.2.2.2.2.2.2
theorem dcX12_taken_1 : (decode cX12_taken 14 = .ok (.iconst 0, 1)) ∧ (decode cX12_taken 15 = .ok (.bipush 11, 2)) ∧ (decode cX12_taken 17 = .ok (.invokestatic 93, 3)) ∧ (decode cX12_taken 20 = .ok (.ifCond .ne 6, 3)) ∧ (decode cX12_taken 23 = .ok (.bipush (-12), 2)) ∧ (decode cX12_taken 25 = .ok (.ireturn, 1)) ∧ (decode cX12_taken 26 = .ok (.iload_n 1, 1)) ∧ (decode cX12_taken 27 = .ok (.bipush 6, 2)) := by decide +kernel
theorem dX12_taken_14 : decode cX12_taken 14 = .ok (.iconst 0, 1) := dcX12_taken_1.1
theorem dX12_taken_15 : decode cX12_taken 15 = .ok (.bipush 11, 2) := dcX12_taken_1.2.1
theorem dX12_taken_17 : decode cX12_taken 17 = .ok (.invokestatic 93, 3) := dcX12_taken_1.2.2.1
theorem dX12_taken_20 : decode cX12_taken 20 = .ok (.ifCond .ne 6, 3) := dcX12_taken_1.2.2.2.1
theorem dX12_taken_23 : decode cX12_taken 23 = .ok (.bipush (-12), 2) := dcX12_taken_1.2.2.2.2.1
theorem dX12_taken_25 : decode cX12_taken 25 = .ok (.ireturn, 1) := dcX12_taken_1.2.2.2.2.2.1
theorem dX12_taken_26 : decode cX12_taken 26 = .ok (.iload_n 1, 1) := dcX12_taken_1.2.2.2.2.2.2.1
theorem dX12_taken_27 : decode cX12_taken 27 = .ok (.bipush 6, 2) := dcX12_taken_1.2.2.2.2.2.2.2
theorem dcX12_taken_2 : (decode cX12_taken 29 = .ok (.irem, 1)) ∧ (decode cX12_taken 30 = .ok (.aload_n 0, 1)) ∧ (decode cX12_taken 31 = .ok (.getfield 90, 3)) ∧ (decode cX12_taken 34 = .ok (.if_icmp .lt 6, 3)) ∧ (decode cX12_taken 37 = .ok (.bipush (-11), 2)) ∧ (decode cX12_taken 39 = .ok (.ireturn, 1)) ∧ (decode cX12_taken 40 = .ok (.iload_n 1, 1)) ∧ (decode cX12_taken 41 = .ok (.bipush 6, 2)) := by decide +kernel
theorem dX12_taken_29 : decode cX12_taken 29 = .ok (.irem, 1) := dcX12_taken_2.1
theorem dX12_taken_30 : decode cX12_taken 30 = .ok (.aload_n 0, 1) := dcX12_taken_2.2.1
theorem dX12_taken_31 : decode cX12_taken 31 = .ok (.getfield 90, 3) := dcX12_taken_2.2.2.1
theorem dX12_taken_34 : decode cX12_taken 34 = .ok (.if_icmp .lt 6, 3) := dcX12_taken_2.2.2.2.1
theorem dX12_taken_37 : decode cX12_taken 37 = .ok (.bipush (-11), 2) := dcX12_taken_2.2.2.2.2.1
theorem dX12_taken_39 : decode cX12_taken 39 = .ok (.ireturn, 1) := dcX12_taken_2.2.2.2.2.2.1
theorem dX12_taken_40 : decode cX12_taken 40 = .ok (.iload_n 1, 1) := dcX12_taken_2.2.2.2.2.2.2.1
theorem dX12_taken_41 : decode cX12_taken 41 = .ok (.bipush 6, 2) := dcX12_taken_2.2.2.2.2.2.2.2
theorem dcX12_taken_3 : (decode cX12_taken 43 = .ok (.if_icmp .lt 24, 3)) ∧ (decode cX12_taken 46 = .ok (.iload_n 2, 1)) ∧ (decode cX12_taken 47 = .ok (.bipush 6, 2)) ∧ (decode cX12_taken 49 = .ok (.if_icmp .ne 15, 3)) ∧ (decode cX12_taken 52 = .ok (.aload_n 0, 1)) ∧ (decode cX12_taken 53 = .ok (.getfield 19, 3)) ∧ (decode cX12_taken 56 = .ok (.iload_n 1, 1)) ∧ (decode cX12_taken 57 = .ok (.bipush 6, 2)) := by decide +kernel
theorem dX12_taken_43 : decode cX12_taken 43 = .ok (.if_icmp .lt 24, 3) := dcX12_taken_3.1
theorem dX12_taken_46 : decode cX12_taken 46 = .ok (.iload_n 2, 1) := dcX12_taken_3.2.1
theorem dX12_taken_47 : decode cX12_taken 47 = .ok (.bipush 6, 2) := dcX12_taken_3.2.2.1
theorem dX12_taken_49 : decode cX12_taken 49 = .ok (.if_icmp .ne 15, 3) := dcX12_taken_3.2.2.2.1
theorem dX12_taken_52 : decode cX12_taken 52 = .ok (.aload_n 0, 1) := dcX12_taken_3.2.2.2.2.1
theorem dX12_taken_53 : decode cX12_taken 53 = .ok (.getfield 19, 3) := dcX12_taken_3.2.2.2.2.2.1
theorem dX12_taken_56 : decode cX12_taken 56 = .ok (.iload_n 1, 1) := dcX12_taken_3.2.2.2.2.2.2.1
theorem dX12_taken_57 : decode cX12_taken 57 = .ok (.bipush 6, 2) := dcX12_taken_3.2.2.2.2.2.2.2
theorem dcX12_taken_4 : (decode cX12_taken 59 = .ok (.isub, 1)) ∧ (decode cX12_taken 60 = .ok (.iaload, 1)) ∧ (decode cX12_taken 61 = .ok (.goto 5, 3)) ∧ (decode cX12_taken 64 = .ok (.bipush (-13), 2)) ∧ (decode cX12_taken 66 = .ok (.ireturn, 1)) ∧ (decode cX12_taken 67 = .ok (.iload_n 2, 1)) ∧ (decode cX12_taken 68 = .ok (.bipush 6, 2)) ∧ (decode cX12_taken 70 = .ok (.if_icmp .ge 20, 3)) := by decide +kernel
theorem dX12_taken_59 : decode cX12_taken 59 = .ok (.isub, 1) := dcX12_taken_4.1
theorem dX12_taken_60 : decode cX12_taken 60 = .ok (.iaload, 1) := dcX12_taken_4.2.1
theorem dX12_taken_61 : decode cX12_taken 61 = .ok (.goto 5, 3) := dcX12_taken_4.2.2.1
theorem dX12_taken_64 : decode cX12_taken 64 = .ok (.bipush (-13), 2) := dcX12_taken_4.2.2.2.1
theorem dX12_taken_66 : decode cX12_taken 66 = .ok (.ireturn, 1) := dcX12_taken_4.2.2.2.2.1
theorem dX12_taken_67 : decode cX12_taken 67 = .ok (.iload_n 2, 1) := dcX12_taken_4.2.2.2.2.2.1
theorem dX12_taken_68 : decode cX12_taken 68 = .ok (.bipush 6, 2) := dcX12_taken_4.2.2.2.2.2.2.1
theorem dX12_taken_70 : decode cX12_taken 70 = .ok (.if_icmp .ge 20, 3) := dcX12_taken_4.2.2.2.2.2.2.2
theorem dcX12_taken_5 : (decode cX12_taken 73 = .ok (.aload_n 0, 1)) ∧ (decode cX12_taken 74 = .ok (.getfield 7, 3)) ∧ (decode cX12_taken 77 = .ok (.iload_n 1, 1)) ∧ (decode cX12_taken 78 = .ok (.iaload, 1)) ∧ (decode cX12_taken 79 = .ok (.iload_n 2, 1)) ∧ (decode cX12_taken 80 = .ok (.invokestatic 292, 3)) ∧ (decode cX12_taken 83 = .ok (.ifCond .eq 7, 3)) ∧ (decode cX12_taken 86 = .ok (.iload_n 1, 1)) := by decide +kernel
theorem dX12_taken_73 : decode cX12_taken 73 = .ok (.aload_n 0, 1) := dcX12_taken_5.1
theorem dX12_taken_74 : decode cX12_taken 74 = .ok (.getfield 7, 3) := dcX12_taken_5.2.1
theorem dX12_taken_77 : decode cX12_taken 77 = .ok (.iload_n 1, 1) := dcX12_taken_5.2.2.1
theorem dX12_taken_78 : decode cX12_taken 78 = .ok (.iaload, 1) := dcX12_taken_5.2.2.2.1
theorem dX12_taken_79 : decode cX12_taken 79 = .ok (.iload_n 2, 1) := dcX12_taken_5.2.2.2.2.1
theorem dX12_taken_80 : decode cX12_taken 80 = .ok (.invokestatic 292, 3) := dcX12_taken_5.2.2.2.2.2.1
theorem dX12_taken_83 : decode cX12_taken 83 = .ok (.ifCond .eq 7, 3) := dcX12_taken_5.2.2.2.2.2.2.1
theorem dX12_taken_86 : decode cX12_taken 86 = .ok (.iload_n 1, 1) := dcX12_taken_5.2.2.2.2.2.2.2
theorem dcX12_taken_6 : (decode cX12_taken 87 = .ok (.goto 5, 3)) ∧ (decode cX12_taken 90 = .ok (.bipush (-13), 2)) ∧ (decode cX12_taken 92 = .ok (.ireturn, 1)) := by decide +kernel
theorem dX12_taken_87 : decode cX12_taken 87 = .ok (.goto 5, 3) := dcX12_taken_6.1
theorem dX12_taken_90 : decode cX12_taken 90 = .ok (.bipush (-13), 2) := dcX12_taken_6.2.1
theorem dX12_taken_92 : decode cX12_taken 92 = .ok (.ireturn, 1) := dcX12_taken_6.2.2
theorem dcJ6_bitCount_0f7a4_0 : (decode cJ6_bitCount_0f7a4 0 = .ok (.iload_n 0, 1)) ∧ (decode cJ6_bitCount_0f7a4 1 = .ok (.iload_n 0, 1)) ∧ (decode cJ6_bitCount_0f7a4 2 = .ok (.iconst 1, 1)) ∧ (decode cJ6_bitCount_0f7a4 3 = .ok (.iushr, 1)) ∧ (decode cJ6_bitCount_0f7a4 4 = .ok (.ldc_w 265, 3)) ∧ (decode cJ6_bitCount_0f7a4 7 = .ok (.iand, 1)) ∧ (decode cJ6_bitCount_0f7a4 8 = .ok (.isub, 1)) ∧ (decode cJ6_bitCount_0f7a4 9 = .ok (.istore_n 0, 1)) := by decide +kernel
theorem dJ6_bitCount_0f7a4_0 : decode cJ6_bitCount_0f7a4 0 = .ok (.iload_n 0, 1) := dcJ6_bitCount_0f7a4_0.1
theorem dJ6_bitCount_0f7a4_1 : decode cJ6_bitCount_0f7a4 1 = .ok (.iload_n 0, 1) := dcJ6_bitCount_0f7a4_0.2.1
theorem dJ6_bitCount_0f7a4_2 : decode cJ6_bitCount_0f7a4 2 = .ok (.iconst 1, 1) := dcJ6_bitCount_0f7a4_0.2.2.1
theorem dJ6_bitCount_0f7a4_3 : decode cJ6_bitCount_0f7a4 3 = .ok (.iushr, 1) := dcJ6_bitCount_0f7a4_0.2.2.2.1
theorem dJ6_bitCount_0f7a4_4 : decode cJ6_bitCount_0f7a4 4 = .ok (.ldc_w 265, 3) := dcJ6_bitCount_0f7a4_0.2.2.2.2.1
theorem dJ6_bitCount_0f7a4_7 : decode cJ6_bitCount_0f7a4 7 = .ok (.iand, 1) := dcJ6_bitCount_0f7a4_0.2.2.2.2.2.1
theorem dJ6_bitCount_0f7a4_8 : decode cJ6_bitCount_0f7a4 8 = .ok (.isub, 1) := dcJ6_bitCount_0f7a4_0.2.2.2.2.2.2.1
theorem dJ6_bitCount_0f7a4_9 : decode cJ6_bitCount_0f7a4 9 = .ok (.istore_n 0, 1) := dcJ6_bitCount_0f7a4_0.2.2.2.2.2.2.2
theorem dcJ6_bitCount_0f7a4_1 : (decode cJ6_bitCount_0f7a4 10 = .ok (.iload_n 0, 1)) ∧ (decode cJ6_bitCount_0f7a4 11 = .ok (.ldc_w 266, 3)) ∧ (decode cJ6_bitCount_0f7a4 14 = .ok (.iand, 1)) ∧ (decode cJ6_bitCount_0f7a4 15 = .ok (.iload_n 0, 1)) ∧ (decode cJ6_bitCount_0f7a4 16 = .ok (.iconst 2, 1)) ∧ (decode cJ6_bitCount_0f7a4 17 = .ok (.iushr, 1)) ∧ (decode cJ6_bitCount_0f7a4 18 = .ok (.ldc_w 266, 3)) ∧ (decode cJ6_bitCount_0f7a4 21 = .ok (.iand, 1)) := by decide +kernel
theorem dJ6_bitCount_0f7a4_10 : decode cJ6_bitCount_0f7a4 10 = .ok (.iload_n 0, 1) := dcJ6_bitCount_0f7a4_1.1
theorem dJ6_bitCount_0f7a4_11 : decode cJ6_bitCount_0f7a4 11 = .ok (.ldc_w 266, 3) := dcJ6_bitCount_0f7a4_1.2.1
theorem dJ6_bitCount_0f7a4_14 : decode cJ6_bitCount_0f7a4 14 = .ok (.iand, 1) := dcJ6_bitCount_0f7a4_1.2.2.1
theorem dJ6_bitCount_0f7a4_15 : decode cJ6_bitCount_0f7a4 15 = .ok (.iload_n 0, 1) := dcJ6_bitCount_0f7a4_1.2.2.2.1
theorem dJ6_bitCount_0f7a4_16 : decode cJ6_bitCount_0f7a4 16 = .ok (.iconst 2, 1) := dcJ6_bitCount_0f7a4_1.2.2.2.2.1
theorem dJ6_bitCount_0f7a4_17 : decode cJ6_bitCount_0f7a4 17 = .ok (.iushr, 1) := dcJ6_bitCount_0f7a4_1.2.2.2.2.2.1
theorem dJ6_bitCount_0f7a4_18 : decode cJ6_bitCount_0f7a4 18 = .ok (.ldc_w 266, 3) := dcJ6_bitCount_0f7a4_1.2.2.2.2.2.2.1
theorem dJ6_bitCount_0f7a4_21 : decode cJ6_bitCount_0f7a4 21 = .ok (.iand, 1) := dcJ6_bitCount_0f7a4_1.2.2.2.2.2.2.2
theorem dcJ6_bitCount_0f7a4_2 : (decode cJ6_bitCount_0f7a4 22 = .ok (.iadd, 1)) ∧ (decode cJ6_bitCount_0f7a4 23 = .ok (.istore_n 0, 1)) ∧ (decode cJ6_bitCount_0f7a4 24 = .ok (.iload_n 0, 1)) ∧ (decode cJ6_bitCount_0f7a4 25 = .ok (.iload_n 0, 1)) ∧ (decode cJ6_bitCount_0f7a4 26 = .ok (.iconst 4, 1)) ∧ (decode cJ6_bitCount_0f7a4 27 = .ok (.iushr, 1)) ∧ (decode cJ6_bitCount_0f7a4 28 = .ok (.iadd, 1)) ∧ (decode cJ6_bitCount_0f7a4 29 = .ok (.ldc_w 267, 3)) := by decide +kernel
theorem dJ6_bitCount_0f7a4_22 : decode cJ6_bitCount_0f7a4 22 = .ok (.iadd, 1) := dcJ6_bitCount_0f7a4_2.1
theorem dJ6_bitCount_0f7a4_23 : decode cJ6_bitCount_0f7a4 23 = .ok (.istore_n 0, 1) := dcJ6_bitCount_0f7a4_2.2.1
theorem dJ6_bitCount_0f7a4_24 : decode cJ6_bitCount_0f7a4 24 = .ok (.iload_n 0, 1) := dcJ6_bitCount_0f7a4_2.2.2.1
theorem dJ6_bitCount_0f7a4_25 : decode cJ6_bitCount_0f7a4 25 = .ok (.iload_n 0, 1) := dcJ6_bitCount_0f7a4_2.2.2.2.1
theorem dJ6_bitCount_0f7a4_26 : decode cJ6_bitCount_0f7a4 26 = .ok (.iconst 4, 1) := dcJ6_bitCount_0f7a4_2.2.2.2.2.1
theorem dJ6_bitCount_0f7a4_27 : decode cJ6_bitCount_0f7a4 27 = .ok (.iushr, 1) := dcJ6_bitCount_0f7a4_2.2.2.2.2.2.1
theorem dJ6_bitCount_0f7a4_28 : decode cJ6_bitCount_0f7a4 28 = .ok (.iadd, 1) := dcJ6_bitCount_0f7a4_2.2.2.2.2.2.2.1
theorem dJ6_bitCount_0f7a4_29 : decode cJ6_bitCount_0f7a4 29 = .ok (.ldc_w 267, 3) := dcJ6_bitCount_0f7a4_2.2.2.2.2.2.2.2
theorem dcJ6_bitCount_0f7a4_3 : (decode cJ6_bitCount_0f7a4 32 = .ok (.iand, 1)) ∧ (decode cJ6_bitCount_0f7a4 33 = .ok (.istore_n 0, 1)) ∧ (decode cJ6_bitCount_0f7a4 34 = .ok (.iload_n 0, 1)) ∧ (decode cJ6_bitCount_0f7a4 35 = .ok (.iload_n 0, 1)) ∧ (decode cJ6_bitCount_0f7a4 36 = .ok (.bipush 8, 2)) ∧ (decode cJ6_bitCount_0f7a4 38 = .ok (.iushr, 1)) ∧ (decode cJ6_bitCount_0f7a4 39 = .ok (.iadd, 1)) ∧ (decode cJ6_bitCount_0f7a4 40 = .ok (.istore_n 0, 1)) := by decide +kernel
theorem dJ6_bitCount_0f7a4_32 : decode cJ6_bitCount_0f7a4 32 = .ok (.iand, 1) := dcJ6_bitCount_0f7a4_3.1
theorem dJ6_bitCount_0f7a4_33 : decode cJ6_bitCount_0f7a4 33 = .ok (.istore_n 0, 1) := dcJ6_bitCount_0f7a4_3.2.1
theorem dJ6_bitCount_0f7a4_34 : decode cJ6_bitCount_0f7a4 34 = .ok (.iload_n 0, 1) := dcJ6_bitCount_0f7a4_3.2.2.1
theorem dJ6_bitCount_0f7a4_35 : decode cJ6_bitCount_0f7a4 35 = .ok (.iload_n 0, 1) := dcJ6_bitCount_0f7a4_3.2.2.2.1
theorem dJ6_bitCount_0f7a4_36 : decode cJ6_bitCount_0f7a4 36 = .ok (.bipush 8, 2) := dcJ6_bitCount_0f7a4_3.2.2.2.2.1
theorem dJ6_bitCount_0f7a4_38 : decode cJ6_bitCount_0f7a4 38 = .ok (.iushr, 1) := dcJ6_bitCount_0f7a4_3.2.2.2.2.2.1
theorem dJ6_bitCount_0f7a4_39 : decode cJ6_bitCount_0f7a4 39 = .ok (.iadd, 1) := dcJ6_bitCount_0f7a4_3.2.2.2.2.2.2.1
theorem dJ6_bitCount_0f7a4_40 : decode cJ6_bitCount_0f7a4 40 = .ok (.istore_n 0, 1) := dcJ6_bitCount_0f7a4_3.2.2.2.2.2.2.2
theorem dcJ6_bitCount_0f7a4_4 : (decode cJ6_bitCount_0f7a4 41 = .ok (.iload_n 0, 1)) ∧ (decode cJ6_bitCount_0f7a4 42 = .ok (.iload_n 0, 1)) ∧ (decode cJ6_bitCount_0f7a4 43 = .ok (.bipush 16, 2)) ∧ (decode cJ6_bitCount_0f7a4 45 = .ok (.iushr, 1)) ∧ (decode cJ6_bitCount_0f7a4 46 = .ok (.iadd, 1)) ∧ (decode cJ6_bitCount_0f7a4 47 = .ok (.istore_n 0, 1)) ∧ (decode cJ6_bitCount_0f7a4 48 = .ok (.iload_n 0, 1)) ∧ (decode cJ6_bitCount_0f7a4 49 = .ok (.bipush 63, 2)) := by decide +kernel
theorem dJ6_bitCount_0f7a4_41 : decode cJ6_bitCount_0f7a4 41 = .ok (.iload_n 0, 1) := dcJ6_bitCount_0f7a4_4.1
theorem dJ6_bitCount_0f7a4_42 : decode cJ6_bitCount_0f7a4 42 = .ok (.iload_n 0, 1) := dcJ6_bitCount_0f7a4_4.2.1
theorem dJ6_bitCount_0f7a4_43 : decode cJ6_bitCount_0f7a4 43 = .ok (.bipush 16, 2) := dcJ6_bitCount_0f7a4_4.2.2.1
theorem dJ6_bitCount_0f7a4_45 : decode cJ6_bitCount_0f7a4 45 = .ok (.iushr, 1) := dcJ6_bitCount_0f7a4_4.2.2.2.1
theorem dJ6_bitCount_0f7a4_46 : decode cJ6_bitCount_0f7a4 46 = .ok (.iadd, 1) := dcJ6_bitCount_0f7a4_4.2.2.2.2.1
theorem dJ6_bitCount_0f7a4_47 : decode cJ6_bitCount_0f7a4 47 = .ok (.istore_n 0, 1) := dcJ6_bitCount_0f7a4_4.2.2.2.2.2.1
theorem dJ6_bitCount_0f7a4_48 : decode cJ6_bitCount_0f7a4 48 = .ok (.iload_n 0, 1) := dcJ6_bitCount_0f7a4_4.2.2.2.2.2.2.1
theorem dJ6_bitCount_0f7a4_49 : decode cJ6_bitCount_0f7a4 49 = .ok (.bipush 63, 2) := dcJ6_bitCount_0f7a4_4.2.2.2.2.2.2.2
theorem dcJ6_bitCount_0f7a4_5 : (decode cJ6_bitCount_0f7a4 51 = .ok (.iand, 1)) ∧ (decode cJ6_bitCount_0f7a4 52 = .ok (.ireturn, 1)) := by decide +kernel
theorem dJ6_bitCount_0f7a4_51 : decode cJ6_bitCount_0f7a4 51 = .ok (.iand, 1) := dcJ6_bitCount_0f7a4_5.1
theorem dJ6_bitCount_0f7a4_52 : decode cJ6_bitCount_0f7a4 52 = .ok (.ireturn, 1) := dcJ6_bitCount_0f7a4_5.2
theorem dcJ9_max_7cf53_0 : (decode cJ9_max_7cf53 0 = .ok (.iload_n 0, 1)) ∧ (decode cJ9_max_7cf53 1 = .ok (.iload_n 1, 1)) ∧ (decode cJ9_max_7cf53 2 = .ok (.if_icmp .lt 7, 3)) ∧ (decode cJ9_max_7cf53 5 = .ok (.iload_n 0, 1)) ∧ (decode cJ9_max_7cf53 6 = .ok (.goto 4, 3)) ∧ (decode cJ9_max_7cf53 9 = .ok (.iload_n 1, 1)) ∧ (decode cJ9_max_7cf53 10 = .ok (.ireturn, 1)) := by decide +kernel
theorem dJ9_max_7cf53_0 : decode cJ9_max_7cf53 0 = .ok (.iload_n 0, 1) := dcJ9_max_7cf53_0.1
theorem dJ9_max_7cf53_1 : decode cJ9_max_7cf53 1 = .ok (.iload_n 1, 1) := dcJ9_max_7cf53_0.2.1
theorem dJ9_max_7cf53_2 : decode cJ9_max_7cf53 2 = .ok (.if_icmp .lt 7, 3) := dcJ9_max_7cf53_0.2.2.1
theorem dJ9_max_7cf53_5 : decode cJ9_max_7cf53 5 = .ok (.iload_n 0, 1) := dcJ9_max_7cf53_0.2.2.2.1
theorem dJ9_max_7cf53_6 : decode cJ9_max_7cf53 6 = .ok (.goto 4, 3) := dcJ9_max_7cf53_0.2.2.2.2.1
theorem dJ9_max_7cf53_9 : decode cJ9_max_7cf53 9 = .ok (.iload_n 1, 1) := dcJ9_max_7cf53_0.2.2.2.2.2.1
theorem dJ9_max_7cf53_10 : decode cJ9_max_7cf53 10 = .ok (.ireturn, 1) := dcJ9_max_7cf53_0.2.2.2.2.2.2
theorem dcJ9_min_7cf53_0 : (decode cJ9_min_7cf53 0 = .ok (.iload_n 0, 1)) ∧ (decode cJ9_min_7cf53 1 = .ok (.iload_n 1, 1)) ∧ (decode cJ9_min_7cf53 2 = .ok (.if_icmp .gt 7, 3)) ∧ (decode cJ9_min_7cf53 5 = .ok (.iload_n 0, 1)) ∧ (decode cJ9_min_7cf53 6 = .ok (.goto 4, 3)) ∧ (decode cJ9_min_7cf53 9 = .ok (.iload_n 1, 1)) ∧ (decode cJ9_min_7cf53 10 = .ok (.ireturn, 1)) := by decide +kernel
theorem dJ9_min_7cf53_0 : decode cJ9_min_7cf53 0 = .ok (.iload_n 0, 1) := dcJ9_min_7cf53_0.1
theorem dJ9_min_7cf53_1 : decode cJ9_min_7cf53 1 = .ok (.iload_n 1, 1) := dcJ9_min_7cf53_0.2.1
theorem dJ9_min_7cf53_2 : decode cJ9_min_7cf53 2 = .ok (.if_icmp .gt 7, 3) := dcJ9_min_7cf53_0.2.2.1
theorem dJ9_min_7cf53_5 : decode cJ9_min_7cf53 5 = .ok (.iload_n 0, 1) := dcJ9_min_7cf53_0.2.2.2.1
theorem dJ9_min_7cf53_6 : decode cJ9_min_7cf53 6 = .ok (.goto 4, 3) := dcJ9_min_7cf53_0.2.2.2.2.1
theorem dJ9_min_7cf53_9 : decode cJ9_min_7cf53 9 = .ok (.iload_n 1, 1) := dcJ9_min_7cf53_0.2.2.2.2.2.1
theorem dJ9_min_7cf53_10 : decode cJ9_min_7cf53 10 = .ok (.ireturn, 1) := dcJ9_min_7cf53_0.2.2.2.2.2.2
theorem dcJ0_length_8abf5_0 : (decode cJ0_length_8abf5 0 = .ok (.aload_n 0, 1)) ∧ (decode cJ0_length_8abf5 1 = .ok (.getfield 9, 3)) ∧ (decode cJ0_length_8abf5 4 = .ok (.arraylength, 1)) ∧ (decode cJ0_length_8abf5 5 = .ok (.aload_n 0, 1)) ∧ (decode cJ0_length_8abf5 6 = .ok (.invokevirtual 335, 3)) ∧ (decode cJ0_length_8abf5 9 = .ok (.ishr, 1)) ∧ (decode cJ0_length_8abf5 10 = .ok (.ireturn, 1)) := by decide +kernel
theorem dJ0_length_8abf5_0 : decode cJ0_length_8abf5 0 = .ok (.aload_n 0, 1) := dcJ0_length_8abf5_0.1
theorem dJ0_length_8abf5_1 : decode cJ0_length_8abf5 1 = .ok (.getfield 9, 3) := dcJ0_length_8abf5_0.2.1
theorem dJ0_length_8abf5_4 : decode cJ0_length_8abf5 4 = .ok (.arraylength, 1) := dcJ0_length_8abf5_0.2.2.1
theorem dJ0_length_8abf5_5 : decode cJ0_length_8abf5 5 = .ok (.aload_n 0, 1) := dcJ0_length_8abf5_0.2.2.2.1
theorem dJ0_length_8abf5_6 : decode cJ0_length_8abf5 6 = .ok (.invokevirtual 335, 3) := dcJ0_length_8abf5_0.2.2.2.2.1
theorem dJ0_length_8abf5_9 : decode cJ0_length_8abf5 9 = .ok (.ishr, 1) := dcJ0_length_8abf5_0.2.2.2.2.2.1
theorem dJ0_length_8abf5_10 : decode cJ0_length_8abf5 10 = .ok (.ireturn, 1) := dcJ0_length_8abf5_0.2.2.2.2.2.2
theorem dcJ0_charAt_5068e_0 : (decode cJ0_charAt_5068e 0 = .ok (.aload_n 0, 1)) ∧ (decode cJ0_charAt_5068e 1 = .ok (.invokevirtual 492, 3)) ∧ (decode cJ0_charAt_5068e 4 = .ok (.ifCond .eq 12, 3)) ∧ (decode cJ0_charAt_5068e 7 = .ok (.aload_n 0, 1)) ∧ (decode cJ0_charAt_5068e 8 = .ok (.getfield 9, 3)) ∧ (decode cJ0_charAt_5068e 11 = .ok (.iload_n 1, 1)) ∧ (decode cJ0_charAt_5068e 12 = .ok (.invokestatic 495, 3)) ∧ (decode cJ0_charAt_5068e 15 = .ok (.ireturn, 1)) := by decide +kernel
theorem dJ0_charAt_5068e_0 : decode cJ0_charAt_5068e 0 = .ok (.aload_n 0, 1) := dcJ0_charAt_5068e_0.1
theorem dJ0_charAt_5068e_1 : decode cJ0_charAt_5068e 1 = .ok (.invokevirtual 492, 3) := dcJ0_charAt_5068e_0.2.1
theorem dJ0_charAt_5068e_4 : decode cJ0_charAt_5068e 4 = .ok (.ifCond .eq 12, 3) := dcJ0_charAt_5068e_0.2.2.1
theorem dJ0_charAt_5068e_7 : decode cJ0_charAt_5068e 7 = .ok (.aload_n 0, 1) := dcJ0_charAt_5068e_0.2.2.2.1
theorem dJ0_charAt_5068e_8 : decode cJ0_charAt_5068e 8 = .ok (.getfield 9, 3) := dcJ0_charAt_5068e_0.2.2.2.2.1
theorem dJ0_charAt_5068e_11 : decode cJ0_charAt_5068e 11 = .ok (.iload_n 1, 1) := dcJ0_charAt_5068e_0.2.2.2.2.2.1
theorem dJ0_charAt_5068e_12 : decode cJ0_charAt_5068e 12 = .ok (.invokestatic 495, 3) := dcJ0_charAt_5068e_0.2.2.2.2.2.2.1
theorem dJ0_charAt_5068e_15 : decode cJ0_charAt_5068e 15 = .ok (.ireturn, 1) := dcJ0_charAt_5068e_0.2.2.2.2.2.2.2
theorem dcJ0_charAt_5068e_1 : (decode cJ0_charAt_5068e 16 = .ok (.aload_n 0, 1)) ∧ (decode cJ0_charAt_5068e 17 = .ok (.getfield 9, 3)) ∧ (decode cJ0_charAt_5068e 20 = .ok (.iload_n 1, 1)) ∧ (decode cJ0_charAt_5068e 21 = .ok (.invokestatic 498, 3)) ∧ (decode cJ0_charAt_5068e 24 = .ok (.ireturn, 1)) := by decide +kernel
theorem dJ0_charAt_5068e_16 : decode cJ0_charAt_5068e 16 = .ok (.aload_n 0, 1) := dcJ0_charAt_5068e_1.1
theorem dJ0_charAt_5068e_17 : decode cJ0_charAt_5068e 17 = .ok (.getfield 9, 3) := dcJ0_charAt_5068e_1.2.1
theorem dJ0_charAt_5068e_20 : decode cJ0_charAt_5068e 20 = .ok (.iload_n 1, 1) := dcJ0_charAt_5068e_1.2.2.1
theorem dJ0_charAt_5068e_21 : decode cJ0_charAt_5068e 21 = .ok (.invokestatic 498, 3) := dcJ0_charAt_5068e_1.2.2.2.1
theorem dJ0_charAt_5068e_24 : decode cJ0_charAt_5068e 24 = .ok (.ireturn, 1) := dcJ0_charAt_5068e_1.2.2.2.2
theorem dcJ0_coder_7d493_0 : (decode cJ0_coder_7d493 0 = .ok (.getstatic 38, 3)) ∧ (decode cJ0_coder_7d493 3 = .ok (.ifCond .eq 10, 3)) ∧ (decode cJ0_coder_7d493 6 = .ok (.aload_n 0, 1)) ∧ (decode cJ0_coder_7d493 7 = .ok (.getfield 15, 3)) ∧ (decode cJ0_coder_7d493 10 = .ok (.goto 4, 3)) ∧ (decode cJ0_coder_7d493 13 = .ok (.iconst 1, 1)) ∧ (decode cJ0_coder_7d493 14 = .ok (.ireturn, 1)) := by decide +kernel
theorem dJ0_coder_7d493_0 : decode cJ0_coder_7d493 0 = .ok (.getstatic 38, 3) := dcJ0_coder_7d493_0.1
theorem dJ0_coder_7d493_3 : decode cJ0_coder_7d493 3 = .ok (.ifCond .eq 10, 3) := dcJ0_coder_7d493_0.2.1
theorem dJ0_coder_7d493_6 : decode cJ0_coder_7d493 6 = .ok (.aload_n 0, 1) := dcJ0_coder_7d493_0.2.2.1
theorem dJ0_coder_7d493_7 : decode cJ0_coder_7d493 7 = .ok (.getfield 15, 3) := dcJ0_coder_7d493_0.2.2.2.1
theorem dJ0_coder_7d493_10 : decode cJ0_coder_7d493 10 = .ok (.goto 4, 3) := dcJ0_coder_7d493_0.2.2.2.2.1
theorem dJ0_coder_7d493_13 : decode cJ0_coder_7d493 13 = .ok (.iconst 1, 1) := dcJ0_coder_7d493_0.2.2.2.2.2.1
theorem dJ0_coder_7d493_14 : decode cJ0_coder_7d493 14 = .ok (.ireturn, 1) := dcJ0_coder_7d493_0.2.2.2.2.2.2
theorem dcJ0_isLatin1_aae02_0 : (decode cJ0_isLatin1_aae02 0 = .ok (.getstatic 38, 3)) ∧ (decode cJ0_isLatin1_aae02 3 = .ok (.ifCond .eq 14, 3)) ∧ (decode cJ0_isLatin1_aae02 6 = .ok (.aload_n 0, 1)) ∧ (decode cJ0_isLatin1_aae02 7 = .ok (.getfield 15, 3)) ∧ (decode cJ0_isLatin1_aae02 10 = .ok (.ifCond .ne 7, 3)) ∧ (decode cJ0_isLatin1_aae02 13 = .ok (.iconst 1, 1)) ∧ (decode cJ0_isLatin1_aae02 14 = .ok (.goto 4, 3)) ∧ (decode cJ0_isLatin1_aae02 17 = .ok (.iconst 0, 1)) := by decide +kernel
theorem dJ0_isLatin1_aae02_0 : decode cJ0_isLatin1_aae02 0 = .ok (.getstatic 38, 3) := dcJ0_isLatin1_aae02_0.1
theorem dJ0_isLatin1_aae02_3 : decode cJ0_isLatin1_aae02 3 = .ok (.ifCond .eq 14, 3) := dcJ0_isLatin1_aae02_0.2.1
theorem dJ0_isLatin1_aae02_6 : decode cJ0_isLatin1_aae02 6 = .ok (.aload_n 0, 1) := dcJ0_isLatin1_aae02_0.2.2.1
theorem dJ0_isLatin1_aae02_7 : decode cJ0_isLatin1_aae02 7 = .ok (.getfield 15, 3) := dcJ0_isLatin1_aae02_0.2.2.2.1
theorem dJ0_isLatin1_aae02_10 : decode cJ0_isLatin1_aae02 10 = .ok (.ifCond .ne 7, 3) := dcJ0_isLatin1_aae02_0.2.2.2.2.1
theorem dJ0_isLatin1_aae02_13 : decode cJ0_isLatin1_aae02 13 = .ok (.iconst 1, 1) := dcJ0_isLatin1_aae02_0.2.2.2.2.2.1
theorem dJ0_isLatin1_aae02_14 : decode cJ0_isLatin1_aae02 14 = .ok (.goto 4, 3) := dcJ0_isLatin1_aae02_0.2.2.2.2.2.2.1
theorem dJ0_isLatin1_aae02_17 : decode cJ0_isLatin1_aae02 17 = .ok (.iconst 0, 1) := dcJ0_isLatin1_aae02_0.2.2.2.2.2.2.2
theorem dJ0_isLatin1_aae02_18 : decode cJ0_isLatin1_aae02 18 = .ok (.ireturn, 1) := by decide +kernel
theorem dcJ0_checkIndex_df160_0 : (decode cJ0_checkIndex_df160 0 = .ok (.iload_n 0, 1)) ∧ (decode cJ0_checkIndex_df160 1 = .ok (.iload_n 1, 1)) ∧ (decode cJ0_checkIndex_df160 2 = .ok (.getstatic 1053, 3)) ∧ (decode cJ0_checkIndex_df160 5 = .ok (.invokestatic 1059, 3)) ∧ (decode cJ0_checkIndex_df160 8 = .ok (.pop, 1)) ∧ (decode cJ0_checkIndex_df160 9 = .ok (.return_, 1)) := by decide +kernel
theorem dJ0_checkIndex_df160_0 : decode cJ0_checkIndex_df160 0 = .ok (.iload_n 0, 1) := dcJ0_checkIndex_df160_0.1
theorem dJ0_checkIndex_df160_1 : decode cJ0_checkIndex_df160 1 = .ok (.iload_n 1, 1) := dcJ0_checkIndex_df160_0.2.1
theorem dJ0_checkIndex_df160_2 : decode cJ0_checkIndex_df160 2 = .ok (.getstatic 1053, 3) := dcJ0_checkIndex_df160_0.2.2.1
theorem dJ0_checkIndex_df160_5 : decode cJ0_checkIndex_df160 5 = .ok (.invokestatic 1059, 3) := dcJ0_checkIndex_df160_0.2.2.2.1
theorem dJ0_checkIndex_df160_8 : decode cJ0_checkIndex_df160 8 = .ok (.pop, 1) := dcJ0_checkIndex_df160_0.2.2.2.2.1
theorem dJ0_checkIndex_df160_9 : decode cJ0_checkIndex_df160 9 = .ok (.return_, 1) := dcJ0_checkIndex_df160_0.2.2.2.2.2
theorem dcJ1_charAt_3b067_0 : (decode cJ1_charAt_3b067 0 = .ok (.iload_n 1, 1)) ∧ (decode cJ1_charAt_3b067 1 = .ok (.aload_n 0, 1)) ∧ (decode cJ1_charAt_3b067 2 = .ok (.arraylength, 1)) ∧ (decode cJ1_charAt_3b067 3 = .ok (.invokestatic 9, 3)) ∧ (decode cJ1_charAt_3b067 6 = .ok (.aload_n 0, 1)) ∧ (decode cJ1_charAt_3b067 7 = .ok (.iload_n 1, 1)) ∧ (decode cJ1_charAt_3b067 8 = .ok (.baload, 1)) ∧ (decode cJ1_charAt_3b067 9 = .ok (.sipush 255, 3)) := by decide +kernel
theorem dJ1_charAt_3b067_0 : decode cJ1_charAt_3b067 0 = .ok (.iload_n 1, 1) := dcJ1_charAt_3b067_0.1
theorem dJ1_charAt_3b067_1 : decode cJ1_charAt_3b067 1 = .ok (.aload_n 0, 1) := dcJ1_charAt_3b067_0.2.1
theorem dJ1_charAt_3b067_2 : decode cJ1_charAt_3b067 2 = .ok (.arraylength, 1) := dcJ1_charAt_3b067_0.2.2.1
theorem dJ1_charAt_3b067_3 : decode cJ1_charAt_3b067 3 = .ok (.invokestatic 9, 3) := dcJ1_charAt_3b067_0.2.2.2.1
theorem dJ1_charAt_3b067_6 : decode cJ1_charAt_3b067 6 = .ok (.aload_n 0, 1) := dcJ1_charAt_3b067_0.2.2.2.2.1
theorem dJ1_charAt_3b067_7 : decode cJ1_charAt_3b067 7 = .ok (.iload_n 1, 1) := dcJ1_charAt_3b067_0.2.2.2.2.2.1
theorem dJ1_charAt_3b067_8 : decode cJ1_charAt_3b067 8 = .ok (.baload, 1) := dcJ1_charAt_3b067_0.2.2.2.2.2.2.1
theorem dJ1_charAt_3b067_9 : decode cJ1_charAt_3b067 9 = .ok (.sipush 255, 3) := dcJ1_charAt_3b067_0.2.2.2.2.2.2.2
theorem dcJ1_charAt_3b067_1 : (decode cJ1_charAt_3b067 12 = .ok (.iand, 1)) ∧ (decode cJ1_charAt_3b067 13 = .ok (.i2c, 1)) ∧ (decode cJ1_charAt_3b067 14 = .ok (.ireturn, 1)) := by decide +kernel
theorem dJ1_charAt_3b067_12 : decode cJ1_charAt_3b067 12 = .ok (.iand, 1) := dcJ1_charAt_3b067_1.1
theorem dJ1_charAt_3b067_13 : decode cJ1_charAt_3b067 13 = .ok (.i2c, 1) := dcJ1_charAt_3b067_1.2.1
theorem dJ1_charAt_3b067_14 : decode cJ1_charAt_3b067 14 = .ok (.ireturn, 1) := dcJ1_charAt_3b067_1.2.2
theorem dcJ2_getChar_3b067_0 : (decode cJ2_getChar_3b067 0 = .ok (.getstatic 44, 3)) ∧ (decode cJ2_getChar_3b067 3 = .ok (.ifCond .ne 25, 3)) ∧ (decode cJ2_getChar_3b067 6 = .ok (.iload_n 1, 1)) ∧ (decode cJ2_getChar_3b067 7 = .ok (.ifCond .lt 11, 3)) ∧ (decode cJ2_getChar_3b067 10 = .ok (.iload_n 1, 1)) ∧ (decode cJ2_getChar_3b067 11 = .ok (.aload_n 0, 1)) ∧ (decode cJ2_getChar_3b067 12 = .ok (.invokestatic 48, 3)) ∧ (decode cJ2_getChar_3b067 15 = .ok (.if_icmp .lt 13, 3)) := by decide +kernel
theorem dJ2_getChar_3b067_0 : decode cJ2_getChar_3b067 0 = .ok (.getstatic 44, 3) := dcJ2_getChar_3b067_0.1
theorem dJ2_getChar_3b067_3 : decode cJ2_getChar_3b067 3 = .ok (.ifCond .ne 25, 3) := dcJ2_getChar_3b067_0.2.1
theorem dJ2_getChar_3b067_6 : decode cJ2_getChar_3b067 6 = .ok (.iload_n 1, 1) := dcJ2_getChar_3b067_0.2.2.1
theorem dJ2_getChar_3b067_7 : decode cJ2_getChar_3b067 7 = .ok (.ifCond .lt 11, 3) := dcJ2_getChar_3b067_0.2.2.2.1
theorem dJ2_getChar_3b067_10 : decode cJ2_getChar_3b067 10 = .ok (.iload_n 1, 1) := dcJ2_getChar_3b067_0.2.2.2.2.1
theorem dJ2_getChar_3b067_11 : decode cJ2_getChar_3b067 11 = .ok (.aload_n 0, 1) := dcJ2_getChar_3b067_0.2.2.2.2.2.1
theorem dJ2_getChar_3b067_12 : decode cJ2_getChar_3b067 12 = .ok (.invokestatic 48, 3) := dcJ2_getChar_3b067_0.2.2.2.2.2.2.1
theorem dJ2_getChar_3b067_15 : decode cJ2_getChar_3b067 15 = .ok (.if_icmp .lt 13, 3) := dcJ2_getChar_3b067_0.2.2.2.2.2.2.2
theorem dcJ2_getChar_3b067_1 : (decode cJ2_getChar_3b067 18 = .ok (.new 52, 3)) ∧ (decode cJ2_getChar_3b067 21 = .ok (.dup, 1)) ∧ (decode cJ2_getChar_3b067 22 = .ok (.ldc 54, 2)) ∧ (decode cJ2_getChar_3b067 24 = .ok (.invokespecial 56, 3)) ∧ (decode cJ2_getChar_3b067 27 = .ok (.athrow, 1)) ∧ (decode cJ2_getChar_3b067 28 = .ok (.iload_n 1, 1)) ∧ (decode cJ2_getChar_3b067 29 = .ok (.iconst 1, 1)) ∧ (decode cJ2_getChar_3b067 30 = .ok (.ishl, 1)) := by decide +kernel
theorem dJ2_getChar_3b067_18 : decode cJ2_getChar_3b067 18 = .ok (.new 52, 3) := dcJ2_getChar_3b067_1.1
theorem dJ2_getChar_3b067_21 : decode cJ2_getChar_3b067 21 = .ok (.dup, 1) := dcJ2_getChar_3b067_1.2.1
theorem dJ2_getChar_3b067_22 : decode cJ2_getChar_3b067 22 = .ok (.ldc 54, 2) := dcJ2_getChar_3b067_1.2.2.1
theorem dJ2_getChar_3b067_24 : decode cJ2_getChar_3b067 24 = .ok (.invokespecial 56, 3) := dcJ2_getChar_3b067_1.2.2.2.1
theorem dJ2_getChar_3b067_27 : decode cJ2_getChar_3b067 27 = .ok (.athrow, 1) := dcJ2_getChar_3b067_1.2.2.2.2.1
theorem dJ2_getChar_3b067_28 : decode cJ2_getChar_3b067 28 = .ok (.iload_n 1, 1) := dcJ2_getChar_3b067_1.2.2.2.2.2.1
theorem dJ2_getChar_3b067_29 : decode cJ2_getChar_3b067 29 = .ok (.iconst 1, 1) := dcJ2_getChar_3b067_1.2.2.2.2.2.2.1
theorem dJ2_getChar_3b067_30 : decode cJ2_getChar_3b067 30 = .ok (.ishl, 1) := dcJ2_getChar_3b067_1.2.2.2.2.2.2.2
theorem dcJ2_getChar_3b067_2 : (decode cJ2_getChar_3b067 31 = .ok (.istore_n 1, 1)) ∧ (decode cJ2_getChar_3b067 32 = .ok (.aload_n 0, 1)) ∧ (decode cJ2_getChar_3b067 33 = .ok (.iload_n 1, 1)) ∧ (decode cJ2_getChar_3b067 34 = .ok (.iinc 1 1, 3)) ∧ (decode cJ2_getChar_3b067 37 = .ok (.baload, 1)) ∧ (decode cJ2_getChar_3b067 38 = .ok (.sipush 255, 3)) ∧ (decode cJ2_getChar_3b067 41 = .ok (.iand, 1)) ∧ (decode cJ2_getChar_3b067 42 = .ok (.getstatic 59, 3)) := by decide +kernel
theorem dJ2_getChar_3b067_31 : decode cJ2_getChar_3b067 31 = .ok (.istore_n 1, 1) := dcJ2_getChar_3b067_2.1
theorem dJ2_getChar_3b067_32 : decode cJ2_getChar_3b067 32 = .ok (.aload_n 0, 1) := dcJ2_getChar_3b067_2.2.1
theorem dJ2_getChar_3b067_33 : decode cJ2_getChar_3b067 33 = .ok (.iload_n 1, 1) := dcJ2_getChar_3b067_2.2.2.1
theorem dJ2_getChar_3b067_34 : decode cJ2_getChar_3b067 34 = .ok (.iinc 1 1, 3) := dcJ2_getChar_3b067_2.2.2.2.1
theorem dJ2_getChar_3b067_37 : decode cJ2_getChar_3b067 37 = .ok (.baload, 1) := dcJ2_getChar_3b067_2.2.2.2.2.1
theorem dJ2_getChar_3b067_38 : decode cJ2_getChar_3b067 38 = .ok (.sipush 255, 3) := dcJ2_getChar_3b067_2.2.2.2.2.2.1
theorem dJ2_getChar_3b067_41 : decode cJ2_getChar_3b067 41 = .ok (.iand, 1) := dcJ2_getChar_3b067_2.2.2.2.2.2.2.1
theorem dJ2_getChar_3b067_42 : decode cJ2_getChar_3b067 42 = .ok (.getstatic 59, 3) := dcJ2_getChar_3b067_2.2.2.2.2.2.2.2
theorem dcJ2_getChar_3b067_3 : (decode cJ2_getChar_3b067 45 = .ok (.ishl, 1)) ∧ (decode cJ2_getChar_3b067 46 = .ok (.aload_n 0, 1)) ∧ (decode cJ2_getChar_3b067 47 = .ok (.iload_n 1, 1)) ∧ (decode cJ2_getChar_3b067 48 = .ok (.baload, 1)) ∧ (decode cJ2_getChar_3b067 49 = .ok (.sipush 255, 3)) ∧ (decode cJ2_getChar_3b067 52 = .ok (.iand, 1)) ∧ (decode cJ2_getChar_3b067 53 = .ok (.getstatic 63, 3)) ∧ (decode cJ2_getChar_3b067 56 = .ok (.ishl, 1)) := by decide +kernel
theorem dJ2_getChar_3b067_45 : decode cJ2_getChar_3b067 45 = .ok (.ishl, 1) := dcJ2_getChar_3b067_3.1
theorem dJ2_getChar_3b067_46 : decode cJ2_getChar_3b067 46 = .ok (.aload_n 0, 1) := dcJ2_getChar_3b067_3.2.1
theorem dJ2_getChar_3b067_47 : decode cJ2_getChar_3b067 47 = .ok (.iload_n 1, 1) := dcJ2_getChar_3b067_3.2.2.1
theorem dJ2_getChar_3b067_48 : decode cJ2_getChar_3b067 48 = .ok (.baload, 1) := dcJ2_getChar_3b067_3.2.2.2.1
theorem dJ2_getChar_3b067_49 : decode cJ2_getChar_3b067 49 = .ok (.sipush 255, 3) := dcJ2_getChar_3b067_3.2.2.2.2.1
theorem dJ2_getChar_3b067_52 : decode cJ2_getChar_3b067 52 = .ok (.iand, 1) := dcJ2_getChar_3b067_3.2.2.2.2.2.1
theorem dJ2_getChar_3b067_53 : decode cJ2_getChar_3b067 53 = .ok (.getstatic 63, 3) := dcJ2_getChar_3b067_3.2.2.2.2.2.2.1
theorem dJ2_getChar_3b067_56 : decode cJ2_getChar_3b067 56 = .ok (.ishl, 1) := dcJ2_getChar_3b067_3.2.2.2.2.2.2.2
theorem dcJ2_getChar_3b067_4 : (decode cJ2_getChar_3b067 57 = .ok (.ior, 1)) ∧ (decode cJ2_getChar_3b067 58 = .ok (.i2c, 1)) ∧ (decode cJ2_getChar_3b067 59 = .ok (.ireturn, 1)) := by decide +kernel
theorem dJ2_getChar_3b067_57 : decode cJ2_getChar_3b067 57 = .ok (.ior, 1) := dcJ2_getChar_3b067_4.1
theorem dJ2_getChar_3b067_58 : decode cJ2_getChar_3b067 58 = .ok (.i2c, 1) := dcJ2_getChar_3b067_4.2.1
theorem dJ2_getChar_3b067_59 : decode cJ2_getChar_3b067 59 = .ok (.ireturn, 1) := dcJ2_getChar_3b067_4.2.2
theorem dcJ2_length_9d52b_0 : (decode cJ2_length_9d52b 0 = .ok (.aload_n 0, 1)) ∧ (decode cJ2_length_9d52b 1 = .ok (.arraylength, 1)) ∧ (decode cJ2_length_9d52b 2 = .ok (.iconst 1, 1)) ∧ (decode cJ2_length_9d52b 3 = .ok (.ishr, 1)) ∧ (decode cJ2_length_9d52b 4 = .ok (.ireturn, 1)) := by decide +kernel
theorem dJ2_length_9d52b_0 : decode cJ2_length_9d52b 0 = .ok (.aload_n 0, 1) := dcJ2_length_9d52b_0.1
theorem dJ2_length_9d52b_1 : decode cJ2_length_9d52b 1 = .ok (.arraylength, 1) := dcJ2_length_9d52b_0.2.1
theorem dJ2_length_9d52b_2 : decode cJ2_length_9d52b 2 = .ok (.iconst 1, 1) := dcJ2_length_9d52b_0.2.2.1
theorem dJ2_length_9d52b_3 : decode cJ2_length_9d52b 3 = .ok (.ishr, 1) := dcJ2_length_9d52b_0.2.2.2.1
theorem dJ2_length_9d52b_4 : decode cJ2_length_9d52b 4 = .ok (.ireturn, 1) := dcJ2_length_9d52b_0.2.2.2.2
theorem dcJ2_charAt_3b067_0 : (decode cJ2_charAt_3b067 0 = .ok (.iload_n 1, 1)) ∧ (decode cJ2_charAt_3b067 1 = .ok (.aload_n 0, 1)) ∧ (decode cJ2_charAt_3b067 2 = .ok (.invokestatic 67, 3)) ∧ (decode cJ2_charAt_3b067 5 = .ok (.aload_n 0, 1)) ∧ (decode cJ2_charAt_3b067 6 = .ok (.iload_n 1, 1)) ∧ (decode cJ2_charAt_3b067 7 = .ok (.invokestatic 71, 3)) ∧ (decode cJ2_charAt_3b067 10 = .ok (.ireturn, 1)) := by decide +kernel
theorem dJ2_charAt_3b067_0 : decode cJ2_charAt_3b067 0 = .ok (.iload_n 1, 1) := dcJ2_charAt_3b067_0.1
theorem dJ2_charAt_3b067_1 : decode cJ2_charAt_3b067 1 = .ok (.aload_n 0, 1) := dcJ2_charAt_3b067_0.2.1
theorem dJ2_charAt_3b067_2 : decode cJ2_charAt_3b067 2 = .ok (.invokestatic 67, 3) := dcJ2_charAt_3b067_0.2.2.1
theorem dJ2_charAt_3b067_5 : decode cJ2_charAt_3b067 5 = .ok (.aload_n 0, 1) := dcJ2_charAt_3b067_0.2.2.2.1
theorem dJ2_charAt_3b067_6 : decode cJ2_charAt_3b067 6 = .ok (.iload_n 1, 1) := dcJ2_charAt_3b067_0.2.2.2.2.1
theorem dJ2_charAt_3b067_7 : decode cJ2_charAt_3b067 7 = .ok (.invokestatic 71, 3) := dcJ2_charAt_3b067_0.2.2.2.2.2.1
theorem dJ2_charAt_3b067_10 : decode cJ2_charAt_3b067 10 = .ok (.ireturn, 1) := dcJ2_charAt_3b067_0.2.2.2.2.2.2
theorem dcJ2_checkIndex_2214a_0 : (decode cJ2_checkIndex_2214a 0 = .ok (.iload_n 0, 1)) ∧ (decode cJ2_checkIndex_2214a 1 = .ok (.aload_n 1, 1)) ∧ (decode cJ2_checkIndex_2214a 2 = .ok (.invokestatic 48, 3)) ∧ (decode cJ2_checkIndex_2214a 5 = .ok (.invokestatic 414, 3)) ∧ (decode cJ2_checkIndex_2214a 8 = .ok (.return_, 1)) := by decide +kernel
theorem dJ2_checkIndex_2214a_0 : decode cJ2_checkIndex_2214a 0 = .ok (.iload_n 0, 1) := dcJ2_checkIndex_2214a_0.1
theorem dJ2_checkIndex_2214a_1 : decode cJ2_checkIndex_2214a 1 = .ok (.aload_n 1, 1) := dcJ2_checkIndex_2214a_0.2.1
theorem dJ2_checkIndex_2214a_2 : decode cJ2_checkIndex_2214a 2 = .ok (.invokestatic 48, 3) := dcJ2_checkIndex_2214a_0.2.2.1
theorem dJ2_checkIndex_2214a_5 : decode cJ2_checkIndex_2214a 5 = .ok (.invokestatic 414, 3) := dcJ2_checkIndex_2214a_0.2.2.2.1
theorem dJ2_checkIndex_2214a_8 : decode cJ2_checkIndex_2214a 8 = .ok (.return_, 1) := dcJ2_checkIndex_2214a_0.2.2.2.2
theorem dcJ7_fill_53178_0 : (decode cJ7_fill_53178 0 = .ok (.iconst 0, 1)) ∧ (decode cJ7_fill_53178 1 = .ok (.istore_n 2, 1)) ∧ (decode cJ7_fill_53178 2 = .ok (.aload_n 0, 1)) ∧ (decode cJ7_fill_53178 3 = .ok (.arraylength, 1)) ∧ (decode cJ7_fill_53178 4 = .ok (.istore_n 3, 1)) ∧ (decode cJ7_fill_53178 5 = .ok (.iload_n 2, 1)) ∧ (decode cJ7_fill_53178 6 = .ok (.iload_n 3, 1)) ∧ (decode cJ7_fill_53178 7 = .ok (.if_icmp .ge 13, 3)) := by decide +kernel
theorem dJ7_fill_53178_0 : decode cJ7_fill_53178 0 = .ok (.iconst 0, 1) := dcJ7_fill_53178_0.1
theorem dJ7_fill_53178_1 : decode cJ7_fill_53178 1 = .ok (.istore_n 2, 1) := dcJ7_fill_53178_0.2.1
theorem dJ7_fill_53178_2 : decode cJ7_fill_53178 2 = .ok (.aload_n 0, 1) := dcJ7_fill_53178_0.2.2.1
theorem dJ7_fill_53178_3 : decode cJ7_fill_53178 3 = .ok (.arraylength, 1) := dcJ7_fill_53178_0.2.2.2.1
theorem dJ7_fill_53178_4 : decode cJ7_fill_53178 4 = .ok (.istore_n 3, 1) := dcJ7_fill_53178_0.2.2.2.2.1
theorem dJ7_fill_53178_5 : decode cJ7_fill_53178 5 = .ok (.iload_n 2, 1) := dcJ7_fill_53178_0.2.2.2.2.2.1
theorem dJ7_fill_53178_6 : decode cJ7_fill_53178 6 = .ok (.iload_n 3, 1) := dcJ7_fill_53178_0.2.2.2.2.2.2.1
theorem dJ7_fill_53178_7 : decode cJ7_fill_53178 7 = .ok (.if_icmp .ge 13, 3) := dcJ7_fill_53178_0.2.2.2.2.2.2.2
theorem dcJ7_fill_53178_1 : (decode cJ7_fill_53178 10 = .ok (.aload_n 0, 1)) ∧ (decode cJ7_fill_53178 11 = .ok (.iload_n 2, 1)) ∧ (decode cJ7_fill_53178 12 = .ok (.iload_n 1, 1)) ∧ (decode cJ7_fill_53178 13 = .ok (.iastore, 1)) ∧ (decode cJ7_fill_53178 14 = .ok (.iinc 2 1, 3)) ∧ (decode cJ7_fill_53178 17 = .ok (.goto (-12), 3)) ∧ (decode cJ7_fill_53178 20 = .ok (.return_, 1)) := by decide +kernel
theorem dJ7_fill_53178_10 : decode cJ7_fill_53178 10 = .ok (.aload_n 0, 1) := dcJ7_fill_53178_1.1
theorem dJ7_fill_53178_11 : decode cJ7_fill_53178 11 = .ok (.iload_n 2, 1) := dcJ7_fill_53178_1.2.1
theorem dJ7_fill_53178_12 : decode cJ7_fill_53178 12 = .ok (.iload_n 1, 1) := dcJ7_fill_53178_1.2.2.1
theorem dJ7_fill_53178_13 : decode cJ7_fill_53178 13 = .ok (.iastore, 1) := dcJ7_fill_53178_1.2.2.2.1
theorem dJ7_fill_53178_14 : decode cJ7_fill_53178 14 = .ok (.iinc 2 1, 3) := dcJ7_fill_53178_1.2.2.2.2.1
theorem dJ7_fill_53178_17 : decode cJ7_fill_53178 17 = .ok (.goto (-12), 3) := dcJ7_fill_53178_1.2.2.2.2.2.1
theorem dJ7_fill_53178_20 : decode cJ7_fill_53178 20 = .ok (.return_, 1) := dcJ7_fill_53178_1.2.2.2.2.2.2
theorem dcJ7_copyOf_59c91_0 : (decode cJ7_copyOf_59c91 0 = .ok (.iload_n 1, 1)) ∧ (decode cJ7_copyOf_59c91 1 = .ok (.aload_n 0, 1)) ∧ (decode cJ7_copyOf_59c91 2 = .ok (.arraylength, 1)) ∧ (decode cJ7_copyOf_59c91 3 = .ok (.if_icmp .ne 11, 3)) ∧ (decode cJ7_copyOf_59c91 6 = .ok (.aload_n 0, 1)) ∧ (decode cJ7_copyOf_59c91 7 = .ok (.invokevirtual 316, 3)) ∧ (decode cJ7_copyOf_59c91 10 = .ok (.checkcast 317, 3)) ∧ (decode cJ7_copyOf_59c91 13 = .ok (.areturn, 1)) := by decide +kernel
theorem dJ7_copyOf_59c91_0 : decode cJ7_copyOf_59c91 0 = .ok (.iload_n 1, 1) := dcJ7_copyOf_59c91_0.1
theorem dJ7_copyOf_59c91_1 : decode cJ7_copyOf_59c91 1 = .ok (.aload_n 0, 1) := dcJ7_copyOf_59c91_0.2.1
theorem dJ7_copyOf_59c91_2 : decode cJ7_copyOf_59c91 2 = .ok (.arraylength, 1) := dcJ7_copyOf_59c91_0.2.2.1
theorem dJ7_copyOf_59c91_3 : decode cJ7_copyOf_59c91 3 = .ok (.if_icmp .ne 11, 3) := dcJ7_copyOf_59c91_0.2.2.2.1
theorem dJ7_copyOf_59c91_6 : decode cJ7_copyOf_59c91 6 = .ok (.aload_n 0, 1) := dcJ7_copyOf_59c91_0.2.2.2.2.1
theorem dJ7_copyOf_59c91_7 : decode cJ7_copyOf_59c91 7 = .ok (.invokevirtual 316, 3) := dcJ7_copyOf_59c91_0.2.2.2.2.2.1
theorem dJ7_copyOf_59c91_10 : decode cJ7_copyOf_59c91 10 = .ok (.checkcast 317, 3) := dcJ7_copyOf_59c91_0.2.2.2.2.2.2.1
theorem dJ7_copyOf_59c91_13 : decode cJ7_copyOf_59c91 13 = .ok (.areturn, 1) := dcJ7_copyOf_59c91_0.2.2.2.2.2.2.2
theorem dcJ7_copyOf_59c91_1 : (decode cJ7_copyOf_59c91 14 = .ok (.iload_n 1, 1)) ∧ (decode cJ7_copyOf_59c91 15 = .ok (.newarray .int, 2)) ∧ (decode cJ7_copyOf_59c91 17 = .ok (.astore_n 2, 1)) ∧ (decode cJ7_copyOf_59c91 18 = .ok (.aload_n 0, 1)) ∧ (decode cJ7_copyOf_59c91 19 = .ok (.iconst 0, 1)) ∧ (decode cJ7_copyOf_59c91 20 = .ok (.aload_n 2, 1)) ∧ (decode cJ7_copyOf_59c91 21 = .ok (.iconst 0, 1)) ∧ (decode cJ7_copyOf_59c91 22 = .ok (.aload_n 0, 1)) := by decide +kernel
theorem dJ7_copyOf_59c91_14 : decode cJ7_copyOf_59c91 14 = .ok (.iload_n 1, 1) := dcJ7_copyOf_59c91_1.1
theorem dJ7_copyOf_59c91_15 : decode cJ7_copyOf_59c91 15 = .ok (.newarray .int, 2) := dcJ7_copyOf_59c91_1.2.1
theorem dJ7_copyOf_59c91_17 : decode cJ7_copyOf_59c91 17 = .ok (.astore_n 2, 1) := dcJ7_copyOf_59c91_1.2.2.1
theorem dJ7_copyOf_59c91_18 : decode cJ7_copyOf_59c91 18 = .ok (.aload_n 0, 1) := dcJ7_copyOf_59c91_1.2.2.2.1
theorem dJ7_copyOf_59c91_19 : decode cJ7_copyOf_59c91 19 = .ok (.iconst 0, 1) := dcJ7_copyOf_59c91_1.2.2.2.2.1
theorem dJ7_copyOf_59c91_20 : decode cJ7_copyOf_59c91 20 = .ok (.aload_n 2, 1) := dcJ7_copyOf_59c91_1.2.2.2.2.2.1
theorem dJ7_copyOf_59c91_21 : decode cJ7_copyOf_59c91 21 = .ok (.iconst 0, 1) := dcJ7_copyOf_59c91_1.2.2.2.2.2.2.1
theorem dJ7_copyOf_59c91_22 : decode cJ7_copyOf_59c91 22 = .ok (.aload_n 0, 1) := dcJ7_copyOf_59c91_1.2.2.2.2.2.2.2
theorem dcJ7_copyOf_59c91_2 : (decode cJ7_copyOf_59c91 23 = .ok (.arraylength, 1)) ∧ (decode cJ7_copyOf_59c91 24 = .ok (.iload_n 1, 1)) ∧ (decode cJ7_copyOf_59c91 25 = .ok (.invokestatic 304, 3)) ∧ (decode cJ7_copyOf_59c91 28 = .ok (.invokestatic 150, 3)) ∧ (decode cJ7_copyOf_59c91 31 = .ok (.aload_n 2, 1)) ∧ (decode cJ7_copyOf_59c91 32 = .ok (.areturn, 1)) := by decide +kernel
theorem dJ7_copyOf_59c91_23 : decode cJ7_copyOf_59c91 23 = .ok (.arraylength, 1) := dcJ7_copyOf_59c91_2.1
theorem dJ7_copyOf_59c91_24 : decode cJ7_copyOf_59c91 24 = .ok (.iload_n 1, 1) := dcJ7_copyOf_59c91_2.2.1
theorem dJ7_copyOf_59c91_25 : decode cJ7_copyOf_59c91 25 = .ok (.invokestatic 304, 3) := dcJ7_copyOf_59c91_2.2.2.1
theorem dJ7_copyOf_59c91_28 : decode cJ7_copyOf_59c91 28 = .ok (.invokestatic 150, 3) := dcJ7_copyOf_59c91_2.2.2.2.1
theorem dJ7_copyOf_59c91_31 : decode cJ7_copyOf_59c91 31 = .ok (.aload_n 2, 1) := dcJ7_copyOf_59c91_2.2.2.2.2.1
theorem dJ7_copyOf_59c91_32 : decode cJ7_copyOf_59c91 32 = .ok (.areturn, 1) := dcJ7_copyOf_59c91_2.2.2.2.2.2
theorem dcJ3_checkIndex_8e157_0 : (decode cJ3_checkIndex_8e157 0 = .ok (.iload_n 0, 1)) ∧ (decode cJ3_checkIndex_8e157 1 = .ok (.ifCond .lt 8, 3)) ∧ (decode cJ3_checkIndex_8e157 4 = .ok (.iload_n 0, 1)) ∧ (decode cJ3_checkIndex_8e157 5 = .ok (.iload_n 1, 1)) ∧ (decode cJ3_checkIndex_8e157 6 = .ok (.if_icmp .lt 10, 3)) ∧ (decode cJ3_checkIndex_8e157 9 = .ok (.aload_n 2, 1)) ∧ (decode cJ3_checkIndex_8e157 10 = .ok (.iload_n 0, 1)) ∧ (decode cJ3_checkIndex_8e157 11 = .ok (.iload_n 1, 1)) := by decide +kernel
theorem dJ3_checkIndex_8e157_0 : decode cJ3_checkIndex_8e157 0 = .ok (.iload_n 0, 1) := dcJ3_checkIndex_8e157_0.1
theorem dJ3_checkIndex_8e157_1 : decode cJ3_checkIndex_8e157 1 = .ok (.ifCond .lt 8, 3) := dcJ3_checkIndex_8e157_0.2.1
theorem dJ3_checkIndex_8e157_4 : decode cJ3_checkIndex_8e157 4 = .ok (.iload_n 0, 1) := dcJ3_checkIndex_8e157_0.2.2.1
theorem dJ3_checkIndex_8e157_5 : decode cJ3_checkIndex_8e157 5 = .ok (.iload_n 1, 1) := dcJ3_checkIndex_8e157_0.2.2.2.1
theorem dJ3_checkIndex_8e157_6 : decode cJ3_checkIndex_8e157 6 = .ok (.if_icmp .lt 10, 3) := dcJ3_checkIndex_8e157_0.2.2.2.2.1
theorem dJ3_checkIndex_8e157_9 : decode cJ3_checkIndex_8e157 9 = .ok (.aload_n 2, 1) := dcJ3_checkIndex_8e157_0.2.2.2.2.2.1
theorem dJ3_checkIndex_8e157_10 : decode cJ3_checkIndex_8e157 10 = .ok (.iload_n 0, 1) := dcJ3_checkIndex_8e157_0.2.2.2.2.2.2.1
theorem dJ3_checkIndex_8e157_11 : decode cJ3_checkIndex_8e157 11 = .ok (.iload_n 1, 1) := dcJ3_checkIndex_8e157_0.2.2.2.2.2.2.2
theorem dcJ3_checkIndex_8e157_1 : (decode cJ3_checkIndex_8e157 12 = .ok (.invokestatic 95, 3)) ∧ (decode cJ3_checkIndex_8e157 15 = .ok (.athrow, 1)) ∧ (decode cJ3_checkIndex_8e157 16 = .ok (.iload_n 0, 1)) ∧ (decode cJ3_checkIndex_8e157 17 = .ok (.ireturn, 1)) := by decide +kernel
theorem dJ3_checkIndex_8e157_12 : decode cJ3_checkIndex_8e157 12 = .ok (.invokestatic 95, 3) := dcJ3_checkIndex_8e157_1.1
theorem dJ3_checkIndex_8e157_15 : decode cJ3_checkIndex_8e157 15 = .ok (.athrow, 1) := dcJ3_checkIndex_8e157_1.2.1
theorem dJ3_checkIndex_8e157_16 : decode cJ3_checkIndex_8e157 16 = .ok (.iload_n 0, 1) := dcJ3_checkIndex_8e157_1.2.2.1
theorem dJ3_checkIndex_8e157_17 : decode cJ3_checkIndex_8e157 17 = .ok (.ireturn, 1) := dcJ3_checkIndex_8e157_1.2.2.2
theorem dcL_law_0 : (decode cL_law 0 = .ok (.new 7, 3)) ∧ (decode cL_law 3 = .ok (.dup, 1)) ∧ (decode cL_law 4 = .ok (.invokespecial 9, 3)) ∧ (decode cL_law 7 = .ok (.astore_n 1, 1)) ∧ (decode cL_law 8 = .ok (.new 10, 3)) ∧ (decode cL_law 11 = .ok (.dup, 1)) ∧ (decode cL_law 12 = .ok (.invokespecial 12, 3)) ∧ (decode cL_law 15 = .ok (.astore_n 2, 1)) := by decide +kernel
theorem dL_law_0 : decode cL_law 0 = .ok (.new 7, 3) := dcL_law_0.1
theorem dL_law_3 : decode cL_law 3 = .ok (.dup, 1) := dcL_law_0.2.1
theorem dL_law_4 : decode cL_law 4 = .ok (.invokespecial 9, 3) := dcL_law_0.2.2.1
theorem dL_law_7 : decode cL_law 7 = .ok (.astore_n 1, 1) := dcL_law_0.2.2.2.1
theorem dL_law_8 : decode cL_law 8 = .ok (.new 10, 3) := dcL_law_0.2.2.2.2.1
theorem dL_law_11 : decode cL_law 11 = .ok (.dup, 1) := dcL_law_0.2.2.2.2.2.1
theorem dL_law_12 : decode cL_law 12 = .ok (.invokespecial 12, 3) := dcL_law_0.2.2.2.2.2.2.1
theorem dL_law_15 : decode cL_law 15 = .ok (.astore_n 2, 1) := dcL_law_0.2.2.2.2.2.2.2
theorem dcL_law_1 : (decode cL_law 16 = .ok (.iconst 0, 1)) ∧ (decode cL_law 17 = .ok (.istore_n 3, 1)) ∧ (decode cL_law 18 = .ok (.iload_n 3, 1)) ∧ (decode cL_law 19 = .ok (.aload_n 0, 1)) ∧ (decode cL_law 20 = .ok (.arraylength, 1)) ∧ (decode cL_law 21 = .ok (.bipush 7, 2)) ∧ (decode cL_law 23 = .ok (.isub, 1)) ∧ (decode cL_law 24 = .ok (.if_icmp .gt 1435, 3)) := by decide +kernel
theorem dL_law_16 : decode cL_law 16 = .ok (.iconst 0, 1) := dcL_law_1.1
theorem dL_law_17 : decode cL_law 17 = .ok (.istore_n 3, 1) := dcL_law_1.2.1
theorem dL_law_18 : decode cL_law 18 = .ok (.iload_n 3, 1) := dcL_law_1.2.2.1
theorem dL_law_19 : decode cL_law 19 = .ok (.aload_n 0, 1) := dcL_law_1.2.2.2.1
theorem dL_law_20 : decode cL_law 20 = .ok (.arraylength, 1) := dcL_law_1.2.2.2.2.1
theorem dL_law_21 : decode cL_law 21 = .ok (.bipush 7, 2) := dcL_law_1.2.2.2.2.2.1
theorem dL_law_23 : decode cL_law 23 = .ok (.isub, 1) := dcL_law_1.2.2.2.2.2.2.1
theorem dL_law_24 : decode cL_law 24 = .ok (.if_icmp .gt 1435, 3) := dcL_law_1.2.2.2.2.2.2.2
theorem dcL_law_2 : (decode cL_law 27 = .ok (.aload_n 0, 1)) ∧ (decode cL_law 28 = .ok (.iload_n 3, 1)) ∧ (decode cL_law 29 = .ok (.iaload, 1)) ∧ (decode cL_law 30 = .ok (.bipush 63, 2)) ∧ (decode cL_law 32 = .ok (.iand, 1)) ∧ (decode cL_law 33 = .ok (.tableswitch 1420 0 35 #[159, 182, 205, 280, 293, 316, 359, 402, 445, 478, 511, 534, 547, 580, 623, 646, 679, 702, 735, 768, 791, 824, 857, 900, 943, 976, 1019, 1062, 1095, 1159, 1172, 1185, 1228, 1271, 1334, 1387], 159)) ∧ (decode cL_law 192 = .ok (.aload_n 1, 1)) ∧ (decode cL_law 193 = .ok (.aload_n 0, 1)) := by decide +kernel
theorem dL_law_27 : decode cL_law 27 = .ok (.aload_n 0, 1) := dcL_law_2.1
theorem dL_law_28 : decode cL_law 28 = .ok (.iload_n 3, 1) := dcL_law_2.2.1
theorem dL_law_29 : decode cL_law 29 = .ok (.iaload, 1) := dcL_law_2.2.2.1
theorem dL_law_30 : decode cL_law 30 = .ok (.bipush 63, 2) := dcL_law_2.2.2.2.1
theorem dL_law_32 : decode cL_law 32 = .ok (.iand, 1) := dcL_law_2.2.2.2.2.1
theorem dL_law_33 : decode cL_law 33 = .ok (.tableswitch 1420 0 35 #[159, 182, 205, 280, 293, 316, 359, 402, 445, 478, 511, 534, 547, 580, 623, 646, 679, 702, 735, 768, 791, 824, 857, 900, 943, 976, 1019, 1062, 1095, 1159, 1172, 1185, 1228, 1271, 1334, 1387], 159) := dcL_law_2.2.2.2.2.2.1
theorem dL_law_192 : decode cL_law 192 = .ok (.aload_n 1, 1) := dcL_law_2.2.2.2.2.2.2.1
theorem dL_law_193 : decode cL_law 193 = .ok (.aload_n 0, 1) := dcL_law_2.2.2.2.2.2.2.2
theorem dcL_law_3 : (decode cL_law 194 = .ok (.iload_n 3, 1)) ∧ (decode cL_law 195 = .ok (.iconst 1, 1)) ∧ (decode cL_law 196 = .ok (.iadd, 1)) ∧ (decode cL_law 197 = .ok (.iaload, 1)) ∧ (decode cL_law 198 = .ok (.invokevirtual 13, 3)) ∧ (decode cL_law 201 = .ok (.aload_n 2, 1)) ∧ (decode cL_law 202 = .ok (.aload_n 0, 1)) ∧ (decode cL_law 203 = .ok (.iload_n 3, 1)) := by decide +kernel
theorem dL_law_194 : decode cL_law 194 = .ok (.iload_n 3, 1) := dcL_law_3.1
theorem dL_law_195 : decode cL_law 195 = .ok (.iconst 1, 1) := dcL_law_3.2.1
theorem dL_law_196 : decode cL_law 196 = .ok (.iadd, 1) := dcL_law_3.2.2.1
theorem dL_law_197 : decode cL_law 197 = .ok (.iaload, 1) := dcL_law_3.2.2.2.1
theorem dL_law_198 : decode cL_law 198 = .ok (.invokevirtual 13, 3) := dcL_law_3.2.2.2.2.1
theorem dL_law_201 : decode cL_law 201 = .ok (.aload_n 2, 1) := dcL_law_3.2.2.2.2.2.1
theorem dL_law_202 : decode cL_law 202 = .ok (.aload_n 0, 1) := dcL_law_3.2.2.2.2.2.2.1
theorem dL_law_203 : decode cL_law 203 = .ok (.iload_n 3, 1) := dcL_law_3.2.2.2.2.2.2.2
theorem dcL_law_4 : (decode cL_law 204 = .ok (.iconst 1, 1)) ∧ (decode cL_law 205 = .ok (.iadd, 1)) ∧ (decode cL_law 206 = .ok (.iaload, 1)) ∧ (decode cL_law 207 = .ok (.invokevirtual 17, 3)) ∧ (decode cL_law 210 = .ok (.if_icmp .eq 1243, 3)) ∧ (decode cL_law 213 = .ok (.iconst 0, 1)) ∧ (decode cL_law 214 = .ok (.ireturn, 1)) ∧ (decode cL_law 215 = .ok (.aload_n 1, 1)) := by decide +kernel
theorem dL_law_204 : decode cL_law 204 = .ok (.iconst 1, 1) := dcL_law_4.1
theorem dL_law_205 : decode cL_law 205 = .ok (.iadd, 1) := dcL_law_4.2.1
theorem dL_law_206 : decode cL_law 206 = .ok (.iaload, 1) := dcL_law_4.2.2.1
theorem dL_law_207 : decode cL_law 207 = .ok (.invokevirtual 17, 3) := dcL_law_4.2.2.2.1
theorem dL_law_210 : decode cL_law 210 = .ok (.if_icmp .eq 1243, 3) := dcL_law_4.2.2.2.2.1
theorem dL_law_213 : decode cL_law 213 = .ok (.iconst 0, 1) := dcL_law_4.2.2.2.2.2.1
theorem dL_law_214 : decode cL_law 214 = .ok (.ireturn, 1) := dcL_law_4.2.2.2.2.2.2.1
theorem dL_law_215 : decode cL_law 215 = .ok (.aload_n 1, 1) := dcL_law_4.2.2.2.2.2.2.2
theorem dcL_law_5 : (decode cL_law 216 = .ok (.aload_n 0, 1)) ∧ (decode cL_law 217 = .ok (.iload_n 3, 1)) ∧ (decode cL_law 218 = .ok (.iconst 1, 1)) ∧ (decode cL_law 219 = .ok (.iadd, 1)) ∧ (decode cL_law 220 = .ok (.iaload, 1)) ∧ (decode cL_law 221 = .ok (.invokevirtual 18, 3)) ∧ (decode cL_law 224 = .ok (.aload_n 2, 1)) ∧ (decode cL_law 225 = .ok (.aload_n 0, 1)) := by decide +kernel
theorem dL_law_216 : decode cL_law 216 = .ok (.aload_n 0, 1) := dcL_law_5.1
theorem dL_law_217 : decode cL_law 217 = .ok (.iload_n 3, 1) := dcL_law_5.2.1
theorem dL_law_218 : decode cL_law 218 = .ok (.iconst 1, 1) := dcL_law_5.2.2.1
theorem dL_law_219 : decode cL_law 219 = .ok (.iadd, 1) := dcL_law_5.2.2.2.1
theorem dL_law_220 : decode cL_law 220 = .ok (.iaload, 1) := dcL_law_5.2.2.2.2.1
theorem dL_law_221 : decode cL_law 221 = .ok (.invokevirtual 18, 3) := dcL_law_5.2.2.2.2.2.1
theorem dL_law_224 : decode cL_law 224 = .ok (.aload_n 2, 1) := dcL_law_5.2.2.2.2.2.2.1
theorem dL_law_225 : decode cL_law 225 = .ok (.aload_n 0, 1) := dcL_law_5.2.2.2.2.2.2.2
theorem dcL_law_6 : (decode cL_law 226 = .ok (.iload_n 3, 1)) ∧ (decode cL_law 227 = .ok (.iconst 1, 1)) ∧ (decode cL_law 228 = .ok (.iadd, 1)) ∧ (decode cL_law 229 = .ok (.iaload, 1)) ∧ (decode cL_law 230 = .ok (.invokevirtual 21, 3)) ∧ (decode cL_law 233 = .ok (.if_icmp .eq 1220, 3)) ∧ (decode cL_law 236 = .ok (.iconst 0, 1)) ∧ (decode cL_law 237 = .ok (.ireturn, 1)) := by decide +kernel
theorem dL_law_226 : decode cL_law 226 = .ok (.iload_n 3, 1) := dcL_law_6.1
theorem dL_law_227 : decode cL_law 227 = .ok (.iconst 1, 1) := dcL_law_6.2.1
theorem dL_law_228 : decode cL_law 228 = .ok (.iadd, 1) := dcL_law_6.2.2.1
theorem dL_law_229 : decode cL_law 229 = .ok (.iaload, 1) := dcL_law_6.2.2.2.1
theorem dL_law_230 : decode cL_law 230 = .ok (.invokevirtual 21, 3) := dcL_law_6.2.2.2.2.1
theorem dL_law_233 : decode cL_law 233 = .ok (.if_icmp .eq 1220, 3) := dcL_law_6.2.2.2.2.2.1
theorem dL_law_236 : decode cL_law 236 = .ok (.iconst 0, 1) := dcL_law_6.2.2.2.2.2.2.1
theorem dL_law_237 : decode cL_law 237 = .ok (.ireturn, 1) := dcL_law_6.2.2.2.2.2.2.2
theorem dcL_law_7 : (decode cL_law 238 = .ok (.aload_n 1, 1)) ∧ (decode cL_law 239 = .ok (.aload_n 0, 1)) ∧ (decode cL_law 240 = .ok (.iload_n 3, 1)) ∧ (decode cL_law 241 = .ok (.iconst 1, 1)) ∧ (decode cL_law 242 = .ok (.iadd, 1)) ∧ (decode cL_law 243 = .ok (.iaload, 1)) ∧ (decode cL_law 244 = .ok (.aload_n 0, 1)) ∧ (decode cL_law 245 = .ok (.iload_n 3, 1)) := by decide +kernel
theorem dL_law_238 : decode cL_law 238 = .ok (.aload_n 1, 1) := dcL_law_7.1
theorem dL_law_239 : decode cL_law 239 = .ok (.aload_n 0, 1) := dcL_law_7.2.1
theorem dL_law_240 : decode cL_law 240 = .ok (.iload_n 3, 1) := dcL_law_7.2.2.1
theorem dL_law_241 : decode cL_law 241 = .ok (.iconst 1, 1) := dcL_law_7.2.2.2.1
theorem dL_law_242 : decode cL_law 242 = .ok (.iadd, 1) := dcL_law_7.2.2.2.2.1
theorem dL_law_243 : decode cL_law 243 = .ok (.iaload, 1) := dcL_law_7.2.2.2.2.2.1
theorem dL_law_244 : decode cL_law 244 = .ok (.aload_n 0, 1) := dcL_law_7.2.2.2.2.2.2.1
theorem dL_law_245 : decode cL_law 245 = .ok (.iload_n 3, 1) := dcL_law_7.2.2.2.2.2.2.2
theorem dcL_law_8 : (decode cL_law 246 = .ok (.iconst 2, 1)) ∧ (decode cL_law 247 = .ok (.iadd, 1)) ∧ (decode cL_law 248 = .ok (.iaload, 1)) ∧ (decode cL_law 249 = .ok (.aload_n 0, 1)) ∧ (decode cL_law 250 = .ok (.iload_n 3, 1)) ∧ (decode cL_law 251 = .ok (.iconst 3, 1)) ∧ (decode cL_law 252 = .ok (.iadd, 1)) ∧ (decode cL_law 253 = .ok (.iaload, 1)) := by decide +kernel
theorem dL_law_246 : decode cL_law 246 = .ok (.iconst 2, 1) := dcL_law_8.1
theorem dL_law_247 : decode cL_law 247 = .ok (.iadd, 1) := dcL_law_8.2.1
theorem dL_law_248 : decode cL_law 248 = .ok (.iaload, 1) := dcL_law_8.2.2.1
theorem dL_law_249 : decode cL_law 249 = .ok (.aload_n 0, 1) := dcL_law_8.2.2.2.1
theorem dL_law_250 : decode cL_law 250 = .ok (.iload_n 3, 1) := dcL_law_8.2.2.2.2.1
theorem dL_law_251 : decode cL_law 251 = .ok (.iconst 3, 1) := dcL_law_8.2.2.2.2.2.1
theorem dL_law_252 : decode cL_law 252 = .ok (.iadd, 1) := dcL_law_8.2.2.2.2.2.2.1
theorem dL_law_253 : decode cL_law 253 = .ok (.iaload, 1) := dcL_law_8.2.2.2.2.2.2.2
theorem dcL_law_9 : (decode cL_law 254 = .ok (.aload_n 0, 1)) ∧ (decode cL_law 255 = .ok (.iload_n 3, 1)) ∧ (decode cL_law 256 = .ok (.iconst 4, 1)) ∧ (decode cL_law 257 = .ok (.iadd, 1)) ∧ (decode cL_law 258 = .ok (.iaload, 1)) ∧ (decode cL_law 259 = .ok (.aload_n 0, 1)) ∧ (decode cL_law 260 = .ok (.iload_n 3, 1)) ∧ (decode cL_law 261 = .ok (.iconst 5, 1)) := by decide +kernel
theorem dL_law_254 : decode cL_law 254 = .ok (.aload_n 0, 1) := dcL_law_9.1
theorem dL_law_255 : decode cL_law 255 = .ok (.iload_n 3, 1) := dcL_law_9.2.1
theorem dL_law_256 : decode cL_law 256 = .ok (.iconst 4, 1) := dcL_law_9.2.2.1
theorem dL_law_257 : decode cL_law 257 = .ok (.iadd, 1) := dcL_law_9.2.2.2.1
theorem dL_law_258 : decode cL_law 258 = .ok (.iaload, 1) := dcL_law_9.2.2.2.2.1
theorem dL_law_259 : decode cL_law 259 = .ok (.aload_n 0, 1) := dcL_law_9.2.2.2.2.2.1
theorem dL_law_260 : decode cL_law 260 = .ok (.iload_n 3, 1) := dcL_law_9.2.2.2.2.2.2.1
theorem dL_law_261 : decode cL_law 261 = .ok (.iconst 5, 1) := dcL_law_9.2.2.2.2.2.2.2
theorem dcL_law_10 : (decode cL_law 262 = .ok (.iadd, 1)) ∧ (decode cL_law 263 = .ok (.iaload, 1)) ∧ (decode cL_law 264 = .ok (.aload_n 0, 1)) ∧ (decode cL_law 265 = .ok (.iload_n 3, 1)) ∧ (decode cL_law 266 = .ok (.bipush 6, 2)) ∧ (decode cL_law 268 = .ok (.iadd, 1)) ∧ (decode cL_law 269 = .ok (.iaload, 1)) ∧ (decode cL_law 270 = .ok (.invokevirtual 22, 3)) := by decide +kernel
theorem dL_law_262 : decode cL_law 262 = .ok (.iadd, 1) := dcL_law_10.1
theorem dL_law_263 : decode cL_law 263 = .ok (.iaload, 1) := dcL_law_10.2.1
theorem dL_law_264 : decode cL_law 264 = .ok (.aload_n 0, 1) := dcL_law_10.2.2.1
theorem dL_law_265 : decode cL_law 265 = .ok (.iload_n 3, 1) := dcL_law_10.2.2.2.1
theorem dL_law_266 : decode cL_law 266 = .ok (.bipush 6, 2) := dcL_law_10.2.2.2.2.1
theorem dL_law_268 : decode cL_law 268 = .ok (.iadd, 1) := dcL_law_10.2.2.2.2.2.1
theorem dL_law_269 : decode cL_law 269 = .ok (.iaload, 1) := dcL_law_10.2.2.2.2.2.2.1
theorem dL_law_270 : decode cL_law 270 = .ok (.invokevirtual 22, 3) := dcL_law_10.2.2.2.2.2.2.2
theorem dcL_law_11 : (decode cL_law 273 = .ok (.aload_n 2, 1)) ∧ (decode cL_law 274 = .ok (.aload_n 0, 1)) ∧ (decode cL_law 275 = .ok (.iload_n 3, 1)) ∧ (decode cL_law 276 = .ok (.iconst 1, 1)) ∧ (decode cL_law 277 = .ok (.iadd, 1)) ∧ (decode cL_law 278 = .ok (.iaload, 1)) ∧ (decode cL_law 279 = .ok (.aload_n 0, 1)) ∧ (decode cL_law 280 = .ok (.iload_n 3, 1)) := by decide +kernel
theorem dL_law_273 : decode cL_law 273 = .ok (.aload_n 2, 1) := dcL_law_11.1
theorem dL_law_274 : decode cL_law 274 = .ok (.aload_n 0, 1) := dcL_law_11.2.1
theorem dL_law_275 : decode cL_law 275 = .ok (.iload_n 3, 1) := dcL_law_11.2.2.1
theorem dL_law_276 : decode cL_law 276 = .ok (.iconst 1, 1) := dcL_law_11.2.2.2.1
theorem dL_law_277 : decode cL_law 277 = .ok (.iadd, 1) := dcL_law_11.2.2.2.2.1
theorem dL_law_278 : decode cL_law 278 = .ok (.iaload, 1) := dcL_law_11.2.2.2.2.2.1
theorem dL_law_279 : decode cL_law 279 = .ok (.aload_n 0, 1) := dcL_law_11.2.2.2.2.2.2.1
theorem dL_law_280 : decode cL_law 280 = .ok (.iload_n 3, 1) := dcL_law_11.2.2.2.2.2.2.2
theorem dcL_law_12 : (decode cL_law 281 = .ok (.iconst 2, 1)) ∧ (decode cL_law 282 = .ok (.iadd, 1)) ∧ (decode cL_law 283 = .ok (.iaload, 1)) ∧ (decode cL_law 284 = .ok (.aload_n 0, 1)) ∧ (decode cL_law 285 = .ok (.iload_n 3, 1)) ∧ (decode cL_law 286 = .ok (.iconst 3, 1)) ∧ (decode cL_law 287 = .ok (.iadd, 1)) ∧ (decode cL_law 288 = .ok (.iaload, 1)) := by decide +kernel
theorem dL_law_281 : decode cL_law 281 = .ok (.iconst 2, 1) := dcL_law_12.1
theorem dL_law_282 : decode cL_law 282 = .ok (.iadd, 1) := dcL_law_12.2.1
theorem dL_law_283 : decode cL_law 283 = .ok (.iaload, 1) := dcL_law_12.2.2.1
theorem dL_law_284 : decode cL_law 284 = .ok (.aload_n 0, 1) := dcL_law_12.2.2.2.1
theorem dL_law_285 : decode cL_law 285 = .ok (.iload_n 3, 1) := dcL_law_12.2.2.2.2.1
theorem dL_law_286 : decode cL_law 286 = .ok (.iconst 3, 1) := dcL_law_12.2.2.2.2.2.1
theorem dL_law_287 : decode cL_law 287 = .ok (.iadd, 1) := dcL_law_12.2.2.2.2.2.2.1
theorem dL_law_288 : decode cL_law 288 = .ok (.iaload, 1) := dcL_law_12.2.2.2.2.2.2.2
theorem dcL_law_13 : (decode cL_law 289 = .ok (.aload_n 0, 1)) ∧ (decode cL_law 290 = .ok (.iload_n 3, 1)) ∧ (decode cL_law 291 = .ok (.iconst 4, 1)) ∧ (decode cL_law 292 = .ok (.iadd, 1)) ∧ (decode cL_law 293 = .ok (.iaload, 1)) ∧ (decode cL_law 294 = .ok (.aload_n 0, 1)) ∧ (decode cL_law 295 = .ok (.iload_n 3, 1)) ∧ (decode cL_law 296 = .ok (.iconst 5, 1)) := by decide +kernel
theorem dL_law_289 : decode cL_law 289 = .ok (.aload_n 0, 1) := dcL_law_13.1
theorem dL_law_290 : decode cL_law 290 = .ok (.iload_n 3, 1) := dcL_law_13.2.1
theorem dL_law_291 : decode cL_law 291 = .ok (.iconst 4, 1) := dcL_law_13.2.2.1
theorem dL_law_292 : decode cL_law 292 = .ok (.iadd, 1) := dcL_law_13.2.2.2.1
theorem dL_law_293 : decode cL_law 293 = .ok (.iaload, 1) := dcL_law_13.2.2.2.2.1
theorem dL_law_294 : decode cL_law 294 = .ok (.aload_n 0, 1) := dcL_law_13.2.2.2.2.2.1
theorem dL_law_295 : decode cL_law 295 = .ok (.iload_n 3, 1) := dcL_law_13.2.2.2.2.2.2.1
theorem dL_law_296 : decode cL_law 296 = .ok (.iconst 5, 1) := dcL_law_13.2.2.2.2.2.2.2
theorem dcL_law_14 : (decode cL_law 297 = .ok (.iadd, 1)) ∧ (decode cL_law 298 = .ok (.iaload, 1)) ∧ (decode cL_law 299 = .ok (.aload_n 0, 1)) ∧ (decode cL_law 300 = .ok (.iload_n 3, 1)) ∧ (decode cL_law 301 = .ok (.bipush 6, 2)) ∧ (decode cL_law 303 = .ok (.iadd, 1)) ∧ (decode cL_law 304 = .ok (.iaload, 1)) ∧ (decode cL_law 305 = .ok (.invokevirtual 26, 3)) := by decide +kernel
theorem dL_law_297 : decode cL_law 297 = .ok (.iadd, 1) := dcL_law_14.1
theorem dL_law_298 : decode cL_law 298 = .ok (.iaload, 1) := dcL_law_14.2.1
theorem dL_law_299 : decode cL_law 299 = .ok (.aload_n 0, 1) := dcL_law_14.2.2.1
theorem dL_law_300 : decode cL_law 300 = .ok (.iload_n 3, 1) := dcL_law_14.2.2.2.1
theorem dL_law_301 : decode cL_law 301 = .ok (.bipush 6, 2) := dcL_law_14.2.2.2.2.1
theorem dL_law_303 : decode cL_law 303 = .ok (.iadd, 1) := dcL_law_14.2.2.2.2.2.1
theorem dL_law_304 : decode cL_law 304 = .ok (.iaload, 1) := dcL_law_14.2.2.2.2.2.2.1
theorem dL_law_305 : decode cL_law 305 = .ok (.invokevirtual 26, 3) := dcL_law_14.2.2.2.2.2.2.2
theorem dcL_law_15 : (decode cL_law 308 = .ok (.if_icmp .eq 1145, 3)) ∧ (decode cL_law 311 = .ok (.iconst 0, 1)) ∧ (decode cL_law 312 = .ok (.ireturn, 1)) ∧ (decode cL_law 313 = .ok (.aload_n 1, 1)) ∧ (decode cL_law 314 = .ok (.invokevirtual 27, 3)) ∧ (decode cL_law 317 = .ok (.aload_n 2, 1)) ∧ (decode cL_law 318 = .ok (.invokevirtual 31, 3)) ∧ (decode cL_law 321 = .ok (.if_icmp .eq 1132, 3)) := by decide +kernel
theorem dL_law_308 : decode cL_law 308 = .ok (.if_icmp .eq 1145, 3) := dcL_law_15.1
theorem dL_law_311 : decode cL_law 311 = .ok (.iconst 0, 1) := dcL_law_15.2.1
theorem dL_law_312 : decode cL_law 312 = .ok (.ireturn, 1) := dcL_law_15.2.2.1
theorem dL_law_313 : decode cL_law 313 = .ok (.aload_n 1, 1) := dcL_law_15.2.2.2.1
theorem dL_law_314 : decode cL_law 314 = .ok (.invokevirtual 27, 3) := dcL_law_15.2.2.2.2.1
theorem dL_law_317 : decode cL_law 317 = .ok (.aload_n 2, 1) := dcL_law_15.2.2.2.2.2.1
theorem dL_law_318 : decode cL_law 318 = .ok (.invokevirtual 31, 3) := dcL_law_15.2.2.2.2.2.2.1
theorem dL_law_321 : decode cL_law 321 = .ok (.if_icmp .eq 1132, 3) := dcL_law_15.2.2.2.2.2.2.2
theorem dcL_law_16 : (decode cL_law 324 = .ok (.iconst 0, 1)) ∧ (decode cL_law 325 = .ok (.ireturn, 1)) ∧ (decode cL_law 326 = .ok (.aload_n 1, 1)) ∧ (decode cL_law 327 = .ok (.aload_n 0, 1)) ∧ (decode cL_law 328 = .ok (.iload_n 3, 1)) ∧ (decode cL_law 329 = .ok (.iconst 1, 1)) ∧ (decode cL_law 330 = .ok (.iadd, 1)) ∧ (decode cL_law 331 = .ok (.iaload, 1)) := by decide +kernel
theorem dL_law_324 : decode cL_law 324 = .ok (.iconst 0, 1) := dcL_law_16.1
theorem dL_law_325 : decode cL_law 325 = .ok (.ireturn, 1) := dcL_law_16.2.1
theorem dL_law_326 : decode cL_law 326 = .ok (.aload_n 1, 1) := dcL_law_16.2.2.1
theorem dL_law_327 : decode cL_law 327 = .ok (.aload_n 0, 1) := dcL_law_16.2.2.2.1
theorem dL_law_328 : decode cL_law 328 = .ok (.iload_n 3, 1) := dcL_law_16.2.2.2.2.1
theorem dL_law_329 : decode cL_law 329 = .ok (.iconst 1, 1) := dcL_law_16.2.2.2.2.2.1
theorem dL_law_330 : decode cL_law 330 = .ok (.iadd, 1) := dcL_law_16.2.2.2.2.2.2.1
theorem dL_law_331 : decode cL_law 331 = .ok (.iaload, 1) := dcL_law_16.2.2.2.2.2.2.2
theorem dcL_law_17 : (decode cL_law 332 = .ok (.invokevirtual 32, 3)) ∧ (decode cL_law 335 = .ok (.aload_n 2, 1)) ∧ (decode cL_law 336 = .ok (.aload_n 0, 1)) ∧ (decode cL_law 337 = .ok (.iload_n 3, 1)) ∧ (decode cL_law 338 = .ok (.iconst 1, 1)) ∧ (decode cL_law 339 = .ok (.iadd, 1)) ∧ (decode cL_law 340 = .ok (.iaload, 1)) ∧ (decode cL_law 341 = .ok (.invokevirtual 35, 3)) := by decide +kernel
theorem dL_law_332 : decode cL_law 332 = .ok (.invokevirtual 32, 3) := dcL_law_17.1
theorem dL_law_335 : decode cL_law 335 = .ok (.aload_n 2, 1) := dcL_law_17.2.1
theorem dL_law_336 : decode cL_law 336 = .ok (.aload_n 0, 1) := dcL_law_17.2.2.1
theorem dL_law_337 : decode cL_law 337 = .ok (.iload_n 3, 1) := dcL_law_17.2.2.2.1
theorem dL_law_338 : decode cL_law 338 = .ok (.iconst 1, 1) := dcL_law_17.2.2.2.2.1
theorem dL_law_339 : decode cL_law 339 = .ok (.iadd, 1) := dcL_law_17.2.2.2.2.2.1
theorem dL_law_340 : decode cL_law 340 = .ok (.iaload, 1) := dcL_law_17.2.2.2.2.2.2.1
theorem dL_law_341 : decode cL_law 341 = .ok (.invokevirtual 35, 3) := dcL_law_17.2.2.2.2.2.2.2
theorem dcL_law_18 : (decode cL_law 344 = .ok (.if_icmp .eq 1109, 3)) ∧ (decode cL_law 347 = .ok (.iconst 0, 1)) ∧ (decode cL_law 348 = .ok (.ireturn, 1)) ∧ (decode cL_law 349 = .ok (.aload_n 1, 1)) ∧ (decode cL_law 350 = .ok (.aload_n 0, 1)) ∧ (decode cL_law 351 = .ok (.iload_n 3, 1)) ∧ (decode cL_law 352 = .ok (.iconst 1, 1)) ∧ (decode cL_law 353 = .ok (.iadd, 1)) := by decide +kernel
theorem dL_law_344 : decode cL_law 344 = .ok (.if_icmp .eq 1109, 3) := dcL_law_18.1
theorem dL_law_347 : decode cL_law 347 = .ok (.iconst 0, 1) := dcL_law_18.2.1
theorem dL_law_348 : decode cL_law 348 = .ok (.ireturn, 1) := dcL_law_18.2.2.1
theorem dL_law_349 : decode cL_law 349 = .ok (.aload_n 1, 1) := dcL_law_18.2.2.2.1
theorem dL_law_350 : decode cL_law 350 = .ok (.aload_n 0, 1) := dcL_law_18.2.2.2.2.1
theorem dL_law_351 : decode cL_law 351 = .ok (.iload_n 3, 1) := dcL_law_18.2.2.2.2.2.1
theorem dL_law_352 : decode cL_law 352 = .ok (.iconst 1, 1) := dcL_law_18.2.2.2.2.2.2.1
theorem dL_law_353 : decode cL_law 353 = .ok (.iadd, 1) := dcL_law_18.2.2.2.2.2.2.2
theorem dcL_law_19 : (decode cL_law 354 = .ok (.iaload, 1)) ∧ (decode cL_law 355 = .ok (.aload_n 0, 1)) ∧ (decode cL_law 356 = .ok (.iload_n 3, 1)) ∧ (decode cL_law 357 = .ok (.iconst 2, 1)) ∧ (decode cL_law 358 = .ok (.iadd, 1)) ∧ (decode cL_law 359 = .ok (.iaload, 1)) ∧ (decode cL_law 360 = .ok (.aload_n 0, 1)) ∧ (decode cL_law 361 = .ok (.iload_n 3, 1)) := by decide +kernel
theorem dL_law_354 : decode cL_law 354 = .ok (.iaload, 1) := dcL_law_19.1
theorem dL_law_355 : decode cL_law 355 = .ok (.aload_n 0, 1) := dcL_law_19.2.1
theorem dL_law_356 : decode cL_law 356 = .ok (.iload_n 3, 1) := dcL_law_19.2.2.1
theorem dL_law_357 : decode cL_law 357 = .ok (.iconst 2, 1) := dcL_law_19.2.2.2.1
theorem dL_law_358 : decode cL_law 358 = .ok (.iadd, 1) := dcL_law_19.2.2.2.2.1
theorem dL_law_359 : decode cL_law 359 = .ok (.iaload, 1) := dcL_law_19.2.2.2.2.2.1
theorem dL_law_360 : decode cL_law 360 = .ok (.aload_n 0, 1) := dcL_law_19.2.2.2.2.2.2.1
theorem dL_law_361 : decode cL_law 361 = .ok (.iload_n 3, 1) := dcL_law_19.2.2.2.2.2.2.2
theorem dcL_law_20 : (decode cL_law 362 = .ok (.iconst 3, 1)) ∧ (decode cL_law 363 = .ok (.iadd, 1)) ∧ (decode cL_law 364 = .ok (.iaload, 1)) ∧ (decode cL_law 365 = .ok (.invokevirtual 36, 3)) ∧ (decode cL_law 368 = .ok (.aload_n 2, 1)) ∧ (decode cL_law 369 = .ok (.aload_n 0, 1)) ∧ (decode cL_law 370 = .ok (.iload_n 3, 1)) ∧ (decode cL_law 371 = .ok (.iconst 1, 1)) := by decide +kernel
theorem dL_law_362 : decode cL_law 362 = .ok (.iconst 3, 1) := dcL_law_20.1
theorem dL_law_363 : decode cL_law 363 = .ok (.iadd, 1) := dcL_law_20.2.1
theorem dL_law_364 : decode cL_law 364 = .ok (.iaload, 1) := dcL_law_20.2.2.1
theorem dL_law_365 : decode cL_law 365 = .ok (.invokevirtual 36, 3) := dcL_law_20.2.2.2.1
theorem dL_law_368 : decode cL_law 368 = .ok (.aload_n 2, 1) := dcL_law_20.2.2.2.2.1
theorem dL_law_369 : decode cL_law 369 = .ok (.aload_n 0, 1) := dcL_law_20.2.2.2.2.2.1
theorem dL_law_370 : decode cL_law 370 = .ok (.iload_n 3, 1) := dcL_law_20.2.2.2.2.2.2.1
theorem dL_law_371 : decode cL_law 371 = .ok (.iconst 1, 1) := dcL_law_20.2.2.2.2.2.2.2
theorem dcL_law_21 : (decode cL_law 372 = .ok (.iadd, 1)) ∧ (decode cL_law 373 = .ok (.iaload, 1)) ∧ (decode cL_law 374 = .ok (.aload_n 0, 1)) ∧ (decode cL_law 375 = .ok (.iload_n 3, 1)) ∧ (decode cL_law 376 = .ok (.iconst 2, 1)) ∧ (decode cL_law 377 = .ok (.iadd, 1)) ∧ (decode cL_law 378 = .ok (.iaload, 1)) ∧ (decode cL_law 379 = .ok (.aload_n 0, 1)) := by decide +kernel
theorem dL_law_372 : decode cL_law 372 = .ok (.iadd, 1) := dcL_law_21.1
theorem dL_law_373 : decode cL_law 373 = .ok (.iaload, 1) := dcL_law_21.2.1
theorem dL_law_374 : decode cL_law 374 = .ok (.aload_n 0, 1) := dcL_law_21.2.2.1
theorem dL_law_375 : decode cL_law 375 = .ok (.iload_n 3, 1) := dcL_law_21.2.2.2.1
theorem dL_law_376 : decode cL_law 376 = .ok (.iconst 2, 1) := dcL_law_21.2.2.2.2.1
theorem dL_law_377 : decode cL_law 377 = .ok (.iadd, 1) := dcL_law_21.2.2.2.2.2.1
theorem dL_law_378 : decode cL_law 378 = .ok (.iaload, 1) := dcL_law_21.2.2.2.2.2.2.1
theorem dL_law_379 : decode cL_law 379 = .ok (.aload_n 0, 1) := dcL_law_21.2.2.2.2.2.2.2
theorem dcL_law_22 : (decode cL_law 380 = .ok (.iload_n 3, 1)) ∧ (decode cL_law 381 = .ok (.iconst 3, 1)) ∧ (decode cL_law 382 = .ok (.iadd, 1)) ∧ (decode cL_law 383 = .ok (.iaload, 1)) ∧ (decode cL_law 384 = .ok (.invokevirtual 40, 3)) ∧ (decode cL_law 387 = .ok (.if_icmp .eq 1066, 3)) ∧ (decode cL_law 390 = .ok (.iconst 0, 1)) ∧ (decode cL_law 391 = .ok (.ireturn, 1)) := by decide +kernel
theorem dL_law_380 : decode cL_law 380 = .ok (.iload_n 3, 1) := dcL_law_22.1
theorem dL_law_381 : decode cL_law 381 = .ok (.iconst 3, 1) := dcL_law_22.2.1
theorem dL_law_382 : decode cL_law 382 = .ok (.iadd, 1) := dcL_law_22.2.2.1
theorem dL_law_383 : decode cL_law 383 = .ok (.iaload, 1) := dcL_law_22.2.2.2.1
theorem dL_law_384 : decode cL_law 384 = .ok (.invokevirtual 40, 3) := dcL_law_22.2.2.2.2.1
theorem dL_law_387 : decode cL_law 387 = .ok (.if_icmp .eq 1066, 3) := dcL_law_22.2.2.2.2.2.1
theorem dL_law_390 : decode cL_law 390 = .ok (.iconst 0, 1) := dcL_law_22.2.2.2.2.2.2.1
theorem dL_law_391 : decode cL_law 391 = .ok (.ireturn, 1) := dcL_law_22.2.2.2.2.2.2.2
theorem dcL_law_23 : (decode cL_law 392 = .ok (.aload_n 1, 1)) ∧ (decode cL_law 393 = .ok (.aload_n 0, 1)) ∧ (decode cL_law 394 = .ok (.iload_n 3, 1)) ∧ (decode cL_law 395 = .ok (.iconst 1, 1)) ∧ (decode cL_law 396 = .ok (.iadd, 1)) ∧ (decode cL_law 397 = .ok (.iaload, 1)) ∧ (decode cL_law 398 = .ok (.aload_n 0, 1)) ∧ (decode cL_law 399 = .ok (.iload_n 3, 1)) := by decide +kernel
theorem dL_law_392 : decode cL_law 392 = .ok (.aload_n 1, 1) := dcL_law_23.1
theorem dL_law_393 : decode cL_law 393 = .ok (.aload_n 0, 1) := dcL_law_23.2.1
theorem dL_law_394 : decode cL_law 394 = .ok (.iload_n 3, 1) := dcL_law_23.2.2.1
theorem dL_law_395 : decode cL_law 395 = .ok (.iconst 1, 1) := dcL_law_23.2.2.2.1
theorem dL_law_396 : decode cL_law 396 = .ok (.iadd, 1) := dcL_law_23.2.2.2.2.1
theorem dL_law_397 : decode cL_law 397 = .ok (.iaload, 1) := dcL_law_23.2.2.2.2.2.1
theorem dL_law_398 : decode cL_law 398 = .ok (.aload_n 0, 1) := dcL_law_23.2.2.2.2.2.2.1
theorem dL_law_399 : decode cL_law 399 = .ok (.iload_n 3, 1) := dcL_law_23.2.2.2.2.2.2.2
theorem dcL_law_24 : (decode cL_law 400 = .ok (.iconst 2, 1)) ∧ (decode cL_law 401 = .ok (.iadd, 1)) ∧ (decode cL_law 402 = .ok (.iaload, 1)) ∧ (decode cL_law 403 = .ok (.aload_n 0, 1)) ∧ (decode cL_law 404 = .ok (.iload_n 3, 1)) ∧ (decode cL_law 405 = .ok (.iconst 3, 1)) ∧ (decode cL_law 406 = .ok (.iadd, 1)) ∧ (decode cL_law 407 = .ok (.iaload, 1)) := by decide +kernel
theorem dL_law_400 : decode cL_law 400 = .ok (.iconst 2, 1) := dcL_law_24.1
theorem dL_law_401 : decode cL_law 401 = .ok (.iadd, 1) := dcL_law_24.2.1
theorem dL_law_402 : decode cL_law 402 = .ok (.iaload, 1) := dcL_law_24.2.2.1
theorem dL_law_403 : decode cL_law 403 = .ok (.aload_n 0, 1) := dcL_law_24.2.2.2.1
theorem dL_law_404 : decode cL_law 404 = .ok (.iload_n 3, 1) := dcL_law_24.2.2.2.2.1
theorem dL_law_405 : decode cL_law 405 = .ok (.iconst 3, 1) := dcL_law_24.2.2.2.2.2.1
theorem dL_law_406 : decode cL_law 406 = .ok (.iadd, 1) := dcL_law_24.2.2.2.2.2.2.1
theorem dL_law_407 : decode cL_law 407 = .ok (.iaload, 1) := dcL_law_24.2.2.2.2.2.2.2
theorem dcL_law_25 : (decode cL_law 408 = .ok (.invokevirtual 41, 3)) ∧ (decode cL_law 411 = .ok (.aload_n 2, 1)) ∧ (decode cL_law 412 = .ok (.aload_n 0, 1)) ∧ (decode cL_law 413 = .ok (.iload_n 3, 1)) ∧ (decode cL_law 414 = .ok (.iconst 1, 1)) ∧ (decode cL_law 415 = .ok (.iadd, 1)) ∧ (decode cL_law 416 = .ok (.iaload, 1)) ∧ (decode cL_law 417 = .ok (.aload_n 0, 1)) := by decide +kernel
theorem dL_law_408 : decode cL_law 408 = .ok (.invokevirtual 41, 3) := dcL_law_25.1
theorem dL_law_411 : decode cL_law 411 = .ok (.aload_n 2, 1) := dcL_law_25.2.1
theorem dL_law_412 : decode cL_law 412 = .ok (.aload_n 0, 1) := dcL_law_25.2.2.1
theorem dL_law_413 : decode cL_law 413 = .ok (.iload_n 3, 1) := dcL_law_25.2.2.2.1
theorem dL_law_414 : decode cL_law 414 = .ok (.iconst 1, 1) := dcL_law_25.2.2.2.2.1
theorem dL_law_415 : decode cL_law 415 = .ok (.iadd, 1) := dcL_law_25.2.2.2.2.2.1
theorem dL_law_416 : decode cL_law 416 = .ok (.iaload, 1) := dcL_law_25.2.2.2.2.2.2.1
theorem dL_law_417 : decode cL_law 417 = .ok (.aload_n 0, 1) := dcL_law_25.2.2.2.2.2.2.2
theorem dcL_law_26 : (decode cL_law 418 = .ok (.iload_n 3, 1)) ∧ (decode cL_law 419 = .ok (.iconst 2, 1)) ∧ (decode cL_law 420 = .ok (.iadd, 1)) ∧ (decode cL_law 421 = .ok (.iaload, 1)) ∧ (decode cL_law 422 = .ok (.aload_n 0, 1)) ∧ (decode cL_law 423 = .ok (.iload_n 3, 1)) ∧ (decode cL_law 424 = .ok (.iconst 3, 1)) ∧ (decode cL_law 425 = .ok (.iadd, 1)) := by decide +kernel
theorem dL_law_418 : decode cL_law 418 = .ok (.iload_n 3, 1) := dcL_law_26.1
theorem dL_law_419 : decode cL_law 419 = .ok (.iconst 2, 1) := dcL_law_26.2.1
theorem dL_law_420 : decode cL_law 420 = .ok (.iadd, 1) := dcL_law_26.2.2.1
theorem dL_law_421 : decode cL_law 421 = .ok (.iaload, 1) := dcL_law_26.2.2.2.1
theorem dL_law_422 : decode cL_law 422 = .ok (.aload_n 0, 1) := dcL_law_26.2.2.2.2.1
theorem dL_law_423 : decode cL_law 423 = .ok (.iload_n 3, 1) := dcL_law_26.2.2.2.2.2.1
theorem dL_law_424 : decode cL_law 424 = .ok (.iconst 3, 1) := dcL_law_26.2.2.2.2.2.2.1
theorem dL_law_425 : decode cL_law 425 = .ok (.iadd, 1) := dcL_law_26.2.2.2.2.2.2.2
theorem dcL_law_27 : (decode cL_law 426 = .ok (.iaload, 1)) ∧ (decode cL_law 427 = .ok (.invokevirtual 44, 3)) ∧ (decode cL_law 430 = .ok (.if_icmp .eq 1023, 3)) ∧ (decode cL_law 433 = .ok (.iconst 0, 1)) ∧ (decode cL_law 434 = .ok (.ireturn, 1)) ∧ (decode cL_law 435 = .ok (.aload_n 1, 1)) ∧ (decode cL_law 436 = .ok (.aload_n 0, 1)) ∧ (decode cL_law 437 = .ok (.iload_n 3, 1)) := by decide +kernel
theorem dL_law_426 : decode cL_law 426 = .ok (.iaload, 1) := dcL_law_27.1
theorem dL_law_427 : decode cL_law 427 = .ok (.invokevirtual 44, 3) := dcL_law_27.2.1
theorem dL_law_430 : decode cL_law 430 = .ok (.if_icmp .eq 1023, 3) := dcL_law_27.2.2.1
theorem dL_law_433 : decode cL_law 433 = .ok (.iconst 0, 1) := dcL_law_27.2.2.2.1
theorem dL_law_434 : decode cL_law 434 = .ok (.ireturn, 1) := dcL_law_27.2.2.2.2.1
theorem dL_law_435 : decode cL_law 435 = .ok (.aload_n 1, 1) := dcL_law_27.2.2.2.2.2.1
theorem dL_law_436 : decode cL_law 436 = .ok (.aload_n 0, 1) := dcL_law_27.2.2.2.2.2.2.1
theorem dL_law_437 : decode cL_law 437 = .ok (.iload_n 3, 1) := dcL_law_27.2.2.2.2.2.2.2
theorem dcL_law_28 : (decode cL_law 438 = .ok (.iconst 1, 1)) ∧ (decode cL_law 439 = .ok (.iadd, 1)) ∧ (decode cL_law 440 = .ok (.iaload, 1)) ∧ (decode cL_law 441 = .ok (.aload_n 0, 1)) ∧ (decode cL_law 442 = .ok (.iload_n 3, 1)) ∧ (decode cL_law 443 = .ok (.iconst 2, 1)) ∧ (decode cL_law 444 = .ok (.iadd, 1)) ∧ (decode cL_law 445 = .ok (.iaload, 1)) := by decide +kernel
theorem dL_law_438 : decode cL_law 438 = .ok (.iconst 1, 1) := dcL_law_28.1
theorem dL_law_439 : decode cL_law 439 = .ok (.iadd, 1) := dcL_law_28.2.1
theorem dL_law_440 : decode cL_law 440 = .ok (.iaload, 1) := dcL_law_28.2.2.1
theorem dL_law_441 : decode cL_law 441 = .ok (.aload_n 0, 1) := dcL_law_28.2.2.2.1
theorem dL_law_442 : decode cL_law 442 = .ok (.iload_n 3, 1) := dcL_law_28.2.2.2.2.1
theorem dL_law_443 : decode cL_law 443 = .ok (.iconst 2, 1) := dcL_law_28.2.2.2.2.2.1
theorem dL_law_444 : decode cL_law 444 = .ok (.iadd, 1) := dcL_law_28.2.2.2.2.2.2.1
theorem dL_law_445 : decode cL_law 445 = .ok (.iaload, 1) := dcL_law_28.2.2.2.2.2.2.2
theorem dcL_law_29 : (decode cL_law 446 = .ok (.aload_n 0, 1)) ∧ (decode cL_law 447 = .ok (.iload_n 3, 1)) ∧ (decode cL_law 448 = .ok (.iconst 3, 1)) ∧ (decode cL_law 449 = .ok (.iadd, 1)) ∧ (decode cL_law 450 = .ok (.iaload, 1)) ∧ (decode cL_law 451 = .ok (.invokevirtual 45, 3)) ∧ (decode cL_law 454 = .ok (.aload_n 2, 1)) ∧ (decode cL_law 455 = .ok (.aload_n 0, 1)) := by decide +kernel
theorem dL_law_446 : decode cL_law 446 = .ok (.aload_n 0, 1) := dcL_law_29.1
theorem dL_law_447 : decode cL_law 447 = .ok (.iload_n 3, 1) := dcL_law_29.2.1
theorem dL_law_448 : decode cL_law 448 = .ok (.iconst 3, 1) := dcL_law_29.2.2.1
theorem dL_law_449 : decode cL_law 449 = .ok (.iadd, 1) := dcL_law_29.2.2.2.1
theorem dL_law_450 : decode cL_law 450 = .ok (.iaload, 1) := dcL_law_29.2.2.2.2.1
theorem dL_law_451 : decode cL_law 451 = .ok (.invokevirtual 45, 3) := dcL_law_29.2.2.2.2.2.1
theorem dL_law_454 : decode cL_law 454 = .ok (.aload_n 2, 1) := dcL_law_29.2.2.2.2.2.2.1
theorem dL_law_455 : decode cL_law 455 = .ok (.aload_n 0, 1) := dcL_law_29.2.2.2.2.2.2.2
theorem dcL_law_30 : (decode cL_law 456 = .ok (.iload_n 3, 1)) ∧ (decode cL_law 457 = .ok (.iconst 1, 1)) ∧ (decode cL_law 458 = .ok (.iadd, 1)) ∧ (decode cL_law 459 = .ok (.iaload, 1)) ∧ (decode cL_law 460 = .ok (.aload_n 0, 1)) ∧ (decode cL_law 461 = .ok (.iload_n 3, 1)) ∧ (decode cL_law 462 = .ok (.iconst 2, 1)) ∧ (decode cL_law 463 = .ok (.iadd, 1)) := by decide +kernel
theorem dL_law_456 : decode cL_law 456 = .ok (.iload_n 3, 1) := dcL_law_30.1
theorem dL_law_457 : decode cL_law 457 = .ok (.iconst 1, 1) := dcL_law_30.2.1
theorem dL_law_458 : decode cL_law 458 = .ok (.iadd, 1) := dcL_law_30.2.2.1
theorem dL_law_459 : decode cL_law 459 = .ok (.iaload, 1) := dcL_law_30.2.2.2.1
theorem dL_law_460 : decode cL_law 460 = .ok (.aload_n 0, 1) := dcL_law_30.2.2.2.2.1
theorem dL_law_461 : decode cL_law 461 = .ok (.iload_n 3, 1) := dcL_law_30.2.2.2.2.2.1
theorem dL_law_462 : decode cL_law 462 = .ok (.iconst 2, 1) := dcL_law_30.2.2.2.2.2.2.1
theorem dL_law_463 : decode cL_law 463 = .ok (.iadd, 1) := dcL_law_30.2.2.2.2.2.2.2
theorem dcL_law_31 : (decode cL_law 464 = .ok (.iaload, 1)) ∧ (decode cL_law 465 = .ok (.aload_n 0, 1)) ∧ (decode cL_law 466 = .ok (.iload_n 3, 1)) ∧ (decode cL_law 467 = .ok (.iconst 3, 1)) ∧ (decode cL_law 468 = .ok (.iadd, 1)) ∧ (decode cL_law 469 = .ok (.iaload, 1)) ∧ (decode cL_law 470 = .ok (.invokevirtual 48, 3)) ∧ (decode cL_law 473 = .ok (.if_icmp .eq 980, 3)) := by decide +kernel
theorem dL_law_464 : decode cL_law 464 = .ok (.iaload, 1) := dcL_law_31.1
theorem dL_law_465 : decode cL_law 465 = .ok (.aload_n 0, 1) := dcL_law_31.2.1
theorem dL_law_466 : decode cL_law 466 = .ok (.iload_n 3, 1) := dcL_law_31.2.2.1
theorem dL_law_467 : decode cL_law 467 = .ok (.iconst 3, 1) := dcL_law_31.2.2.2.1
theorem dL_law_468 : decode cL_law 468 = .ok (.iadd, 1) := dcL_law_31.2.2.2.2.1
theorem dL_law_469 : decode cL_law 469 = .ok (.iaload, 1) := dcL_law_31.2.2.2.2.2.1
theorem dL_law_470 : decode cL_law 470 = .ok (.invokevirtual 48, 3) := dcL_law_31.2.2.2.2.2.2.1
theorem dL_law_473 : decode cL_law 473 = .ok (.if_icmp .eq 980, 3) := dcL_law_31.2.2.2.2.2.2.2
theorem dcL_law_32 : (decode cL_law 476 = .ok (.iconst 0, 1)) ∧ (decode cL_law 477 = .ok (.ireturn, 1)) ∧ (decode cL_law 478 = .ok (.aload_n 1, 1)) ∧ (decode cL_law 479 = .ok (.aload_n 0, 1)) ∧ (decode cL_law 480 = .ok (.iload_n 3, 1)) ∧ (decode cL_law 481 = .ok (.iconst 1, 1)) ∧ (decode cL_law 482 = .ok (.iadd, 1)) ∧ (decode cL_law 483 = .ok (.iaload, 1)) := by decide +kernel
theorem dL_law_476 : decode cL_law 476 = .ok (.iconst 0, 1) := dcL_law_32.1
theorem dL_law_477 : decode cL_law 477 = .ok (.ireturn, 1) := dcL_law_32.2.1
theorem dL_law_478 : decode cL_law 478 = .ok (.aload_n 1, 1) := dcL_law_32.2.2.1
theorem dL_law_479 : decode cL_law 479 = .ok (.aload_n 0, 1) := dcL_law_32.2.2.2.1
theorem dL_law_480 : decode cL_law 480 = .ok (.iload_n 3, 1) := dcL_law_32.2.2.2.2.1
theorem dL_law_481 : decode cL_law 481 = .ok (.iconst 1, 1) := dcL_law_32.2.2.2.2.2.1
theorem dL_law_482 : decode cL_law 482 = .ok (.iadd, 1) := dcL_law_32.2.2.2.2.2.2.1
theorem dL_law_483 : decode cL_law 483 = .ok (.iaload, 1) := dcL_law_32.2.2.2.2.2.2.2
theorem dcL_law_33 : (decode cL_law 484 = .ok (.aload_n 0, 1)) ∧ (decode cL_law 485 = .ok (.iload_n 3, 1)) ∧ (decode cL_law 486 = .ok (.iconst 2, 1)) ∧ (decode cL_law 487 = .ok (.iadd, 1)) ∧ (decode cL_law 488 = .ok (.iaload, 1)) ∧ (decode cL_law 489 = .ok (.invokevirtual 49, 3)) ∧ (decode cL_law 492 = .ok (.aload_n 2, 1)) ∧ (decode cL_law 493 = .ok (.aload_n 0, 1)) := by decide +kernel
theorem dL_law_484 : decode cL_law 484 = .ok (.aload_n 0, 1) := dcL_law_33.1
theorem dL_law_485 : decode cL_law 485 = .ok (.iload_n 3, 1) := dcL_law_33.2.1
theorem dL_law_486 : decode cL_law 486 = .ok (.iconst 2, 1) := dcL_law_33.2.2.1
theorem dL_law_487 : decode cL_law 487 = .ok (.iadd, 1) := dcL_law_33.2.2.2.1
theorem dL_law_488 : decode cL_law 488 = .ok (.iaload, 1) := dcL_law_33.2.2.2.2.1
theorem dL_law_489 : decode cL_law 489 = .ok (.invokevirtual 49, 3) := dcL_law_33.2.2.2.2.2.1
theorem dL_law_492 : decode cL_law 492 = .ok (.aload_n 2, 1) := dcL_law_33.2.2.2.2.2.2.1
theorem dL_law_493 : decode cL_law 493 = .ok (.aload_n 0, 1) := dcL_law_33.2.2.2.2.2.2.2
theorem dcL_law_34 : (decode cL_law 494 = .ok (.iload_n 3, 1)) ∧ (decode cL_law 495 = .ok (.iconst 1, 1)) ∧ (decode cL_law 496 = .ok (.iadd, 1)) ∧ (decode cL_law 497 = .ok (.iaload, 1)) ∧ (decode cL_law 498 = .ok (.aload_n 0, 1)) ∧ (decode cL_law 499 = .ok (.iload_n 3, 1)) ∧ (decode cL_law 500 = .ok (.iconst 2, 1)) ∧ (decode cL_law 501 = .ok (.iadd, 1)) := by decide +kernel
theorem dL_law_494 : decode cL_law 494 = .ok (.iload_n 3, 1) := dcL_law_34.1
theorem dL_law_495 : decode cL_law 495 = .ok (.iconst 1, 1) := dcL_law_34.2.1
theorem dL_law_496 : decode cL_law 496 = .ok (.iadd, 1) := dcL_law_34.2.2.1
theorem dL_law_497 : decode cL_law 497 = .ok (.iaload, 1) := dcL_law_34.2.2.2.1
theorem dL_law_498 : decode cL_law 498 = .ok (.aload_n 0, 1) := dcL_law_34.2.2.2.2.1
theorem dL_law_499 : decode cL_law 499 = .ok (.iload_n 3, 1) := dcL_law_34.2.2.2.2.2.1
theorem dL_law_500 : decode cL_law 500 = .ok (.iconst 2, 1) := dcL_law_34.2.2.2.2.2.2.1
theorem dL_law_501 : decode cL_law 501 = .ok (.iadd, 1) := dcL_law_34.2.2.2.2.2.2.2
theorem dcL_law_35 : (decode cL_law 502 = .ok (.iaload, 1)) ∧ (decode cL_law 503 = .ok (.invokevirtual 53, 3)) ∧ (decode cL_law 506 = .ok (.if_icmp .eq 947, 3)) ∧ (decode cL_law 509 = .ok (.iconst 0, 1)) ∧ (decode cL_law 510 = .ok (.ireturn, 1)) ∧ (decode cL_law 511 = .ok (.aload_n 1, 1)) ∧ (decode cL_law 512 = .ok (.aload_n 0, 1)) ∧ (decode cL_law 513 = .ok (.iload_n 3, 1)) := by decide +kernel
theorem dL_law_502 : decode cL_law 502 = .ok (.iaload, 1) := dcL_law_35.1
theorem dL_law_503 : decode cL_law 503 = .ok (.invokevirtual 53, 3) := dcL_law_35.2.1
theorem dL_law_506 : decode cL_law 506 = .ok (.if_icmp .eq 947, 3) := dcL_law_35.2.2.1
theorem dL_law_509 : decode cL_law 509 = .ok (.iconst 0, 1) := dcL_law_35.2.2.2.1
theorem dL_law_510 : decode cL_law 510 = .ok (.ireturn, 1) := dcL_law_35.2.2.2.2.1
theorem dL_law_511 : decode cL_law 511 = .ok (.aload_n 1, 1) := dcL_law_35.2.2.2.2.2.1
theorem dL_law_512 : decode cL_law 512 = .ok (.aload_n 0, 1) := dcL_law_35.2.2.2.2.2.2.1
theorem dL_law_513 : decode cL_law 513 = .ok (.iload_n 3, 1) := dcL_law_35.2.2.2.2.2.2.2
theorem dcL_law_36 : (decode cL_law 514 = .ok (.iconst 1, 1)) ∧ (decode cL_law 515 = .ok (.iadd, 1)) ∧ (decode cL_law 516 = .ok (.iaload, 1)) ∧ (decode cL_law 517 = .ok (.aload_n 0, 1)) ∧ (decode cL_law 518 = .ok (.iload_n 3, 1)) ∧ (decode cL_law 519 = .ok (.iconst 2, 1)) ∧ (decode cL_law 520 = .ok (.iadd, 1)) ∧ (decode cL_law 521 = .ok (.iaload, 1)) := by decide +kernel
theorem dL_law_514 : decode cL_law 514 = .ok (.iconst 1, 1) := dcL_law_36.1
theorem dL_law_515 : decode cL_law 515 = .ok (.iadd, 1) := dcL_law_36.2.1
theorem dL_law_516 : decode cL_law 516 = .ok (.iaload, 1) := dcL_law_36.2.2.1
theorem dL_law_517 : decode cL_law 517 = .ok (.aload_n 0, 1) := dcL_law_36.2.2.2.1
theorem dL_law_518 : decode cL_law 518 = .ok (.iload_n 3, 1) := dcL_law_36.2.2.2.2.1
theorem dL_law_519 : decode cL_law 519 = .ok (.iconst 2, 1) := dcL_law_36.2.2.2.2.2.1
theorem dL_law_520 : decode cL_law 520 = .ok (.iadd, 1) := dcL_law_36.2.2.2.2.2.2.1
theorem dL_law_521 : decode cL_law 521 = .ok (.iaload, 1) := dcL_law_36.2.2.2.2.2.2.2
theorem dcL_law_37 : (decode cL_law 522 = .ok (.invokevirtual 54, 3)) ∧ (decode cL_law 525 = .ok (.aload_n 2, 1)) ∧ (decode cL_law 526 = .ok (.aload_n 0, 1)) ∧ (decode cL_law 527 = .ok (.iload_n 3, 1)) ∧ (decode cL_law 528 = .ok (.iconst 1, 1)) ∧ (decode cL_law 529 = .ok (.iadd, 1)) ∧ (decode cL_law 530 = .ok (.iaload, 1)) ∧ (decode cL_law 531 = .ok (.aload_n 0, 1)) := by decide +kernel
theorem dL_law_522 : decode cL_law 522 = .ok (.invokevirtual 54, 3) := dcL_law_37.1
theorem dL_law_525 : decode cL_law 525 = .ok (.aload_n 2, 1) := dcL_law_37.2.1
theorem dL_law_526 : decode cL_law 526 = .ok (.aload_n 0, 1) := dcL_law_37.2.2.1
theorem dL_law_527 : decode cL_law 527 = .ok (.iload_n 3, 1) := dcL_law_37.2.2.2.1
theorem dL_law_528 : decode cL_law 528 = .ok (.iconst 1, 1) := dcL_law_37.2.2.2.2.1
theorem dL_law_529 : decode cL_law 529 = .ok (.iadd, 1) := dcL_law_37.2.2.2.2.2.1
theorem dL_law_530 : decode cL_law 530 = .ok (.iaload, 1) := dcL_law_37.2.2.2.2.2.2.1
theorem dL_law_531 : decode cL_law 531 = .ok (.aload_n 0, 1) := dcL_law_37.2.2.2.2.2.2.2
theorem dcL_law_38 : (decode cL_law 532 = .ok (.iload_n 3, 1)) ∧ (decode cL_law 533 = .ok (.iconst 2, 1)) ∧ (decode cL_law 534 = .ok (.iadd, 1)) ∧ (decode cL_law 535 = .ok (.iaload, 1)) ∧ (decode cL_law 536 = .ok (.invokevirtual 57, 3)) ∧ (decode cL_law 539 = .ok (.if_icmp .eq 914, 3)) ∧ (decode cL_law 542 = .ok (.iconst 0, 1)) ∧ (decode cL_law 543 = .ok (.ireturn, 1)) := by decide +kernel
theorem dL_law_532 : decode cL_law 532 = .ok (.iload_n 3, 1) := dcL_law_38.1
theorem dL_law_533 : decode cL_law 533 = .ok (.iconst 2, 1) := dcL_law_38.2.1
theorem dL_law_534 : decode cL_law 534 = .ok (.iadd, 1) := dcL_law_38.2.2.1
theorem dL_law_535 : decode cL_law 535 = .ok (.iaload, 1) := dcL_law_38.2.2.2.1
theorem dL_law_536 : decode cL_law 536 = .ok (.invokevirtual 57, 3) := dcL_law_38.2.2.2.2.1
theorem dL_law_539 : decode cL_law 539 = .ok (.if_icmp .eq 914, 3) := dcL_law_38.2.2.2.2.2.1
theorem dL_law_542 : decode cL_law 542 = .ok (.iconst 0, 1) := dcL_law_38.2.2.2.2.2.2.1
theorem dL_law_543 : decode cL_law 543 = .ok (.ireturn, 1) := dcL_law_38.2.2.2.2.2.2.2
theorem dcL_law_39 : (decode cL_law 544 = .ok (.aload_n 1, 1)) ∧ (decode cL_law 545 = .ok (.aload_n 0, 1)) ∧ (decode cL_law 546 = .ok (.iload_n 3, 1)) ∧ (decode cL_law 547 = .ok (.iconst 1, 1)) ∧ (decode cL_law 548 = .ok (.iadd, 1)) ∧ (decode cL_law 549 = .ok (.iaload, 1)) ∧ (decode cL_law 550 = .ok (.invokevirtual 58, 3)) ∧ (decode cL_law 553 = .ok (.aload_n 2, 1)) := by decide +kernel
theorem dL_law_544 : decode cL_law 544 = .ok (.aload_n 1, 1) := dcL_law_39.1
theorem dL_law_545 : decode cL_law 545 = .ok (.aload_n 0, 1) := dcL_law_39.2.1
theorem dL_law_546 : decode cL_law 546 = .ok (.iload_n 3, 1) := dcL_law_39.2.2.1
theorem dL_law_547 : decode cL_law 547 = .ok (.iconst 1, 1) := dcL_law_39.2.2.2.1
theorem dL_law_548 : decode cL_law 548 = .ok (.iadd, 1) := dcL_law_39.2.2.2.2.1
theorem dL_law_549 : decode cL_law 549 = .ok (.iaload, 1) := dcL_law_39.2.2.2.2.2.1
theorem dL_law_550 : decode cL_law 550 = .ok (.invokevirtual 58, 3) := dcL_law_39.2.2.2.2.2.2.1
theorem dL_law_553 : decode cL_law 553 = .ok (.aload_n 2, 1) := dcL_law_39.2.2.2.2.2.2.2
theorem dcL_law_40 : (decode cL_law 554 = .ok (.aload_n 0, 1)) ∧ (decode cL_law 555 = .ok (.iload_n 3, 1)) ∧ (decode cL_law 556 = .ok (.iconst 1, 1)) ∧ (decode cL_law 557 = .ok (.iadd, 1)) ∧ (decode cL_law 558 = .ok (.iaload, 1)) ∧ (decode cL_law 559 = .ok (.invokevirtual 61, 3)) ∧ (decode cL_law 562 = .ok (.if_icmp .eq 891, 3)) ∧ (decode cL_law 565 = .ok (.iconst 0, 1)) := by decide +kernel
theorem dL_law_554 : decode cL_law 554 = .ok (.aload_n 0, 1) := dcL_law_40.1
theorem dL_law_555 : decode cL_law 555 = .ok (.iload_n 3, 1) := dcL_law_40.2.1
theorem dL_law_556 : decode cL_law 556 = .ok (.iconst 1, 1) := dcL_law_40.2.2.1
theorem dL_law_557 : decode cL_law 557 = .ok (.iadd, 1) := dcL_law_40.2.2.2.1
theorem dL_law_558 : decode cL_law 558 = .ok (.iaload, 1) := dcL_law_40.2.2.2.2.1
theorem dL_law_559 : decode cL_law 559 = .ok (.invokevirtual 61, 3) := dcL_law_40.2.2.2.2.2.1
theorem dL_law_562 : decode cL_law 562 = .ok (.if_icmp .eq 891, 3) := dcL_law_40.2.2.2.2.2.2.1
theorem dL_law_565 : decode cL_law 565 = .ok (.iconst 0, 1) := dcL_law_40.2.2.2.2.2.2.2
theorem dcL_law_41 : (decode cL_law 566 = .ok (.ireturn, 1)) ∧ (decode cL_law 567 = .ok (.aload_n 1, 1)) ∧ (decode cL_law 568 = .ok (.invokevirtual 62, 3)) ∧ (decode cL_law 571 = .ok (.aload_n 2, 1)) ∧ (decode cL_law 572 = .ok (.invokevirtual 65, 3)) ∧ (decode cL_law 575 = .ok (.if_icmp .eq 878, 3)) ∧ (decode cL_law 578 = .ok (.iconst 0, 1)) ∧ (decode cL_law 579 = .ok (.ireturn, 1)) := by decide +kernel
theorem dL_law_566 : decode cL_law 566 = .ok (.ireturn, 1) := dcL_law_41.1
theorem dL_law_567 : decode cL_law 567 = .ok (.aload_n 1, 1) := dcL_law_41.2.1
theorem dL_law_568 : decode cL_law 568 = .ok (.invokevirtual 62, 3) := dcL_law_41.2.2.1
theorem dL_law_571 : decode cL_law 571 = .ok (.aload_n 2, 1) := dcL_law_41.2.2.2.1
theorem dL_law_572 : decode cL_law 572 = .ok (.invokevirtual 65, 3) := dcL_law_41.2.2.2.2.1
theorem dL_law_575 : decode cL_law 575 = .ok (.if_icmp .eq 878, 3) := dcL_law_41.2.2.2.2.2.1
theorem dL_law_578 : decode cL_law 578 = .ok (.iconst 0, 1) := dcL_law_41.2.2.2.2.2.2.1
theorem dL_law_579 : decode cL_law 579 = .ok (.ireturn, 1) := dcL_law_41.2.2.2.2.2.2.2
theorem dcL_law_42 : (decode cL_law 580 = .ok (.aload_n 1, 1)) ∧ (decode cL_law 581 = .ok (.aload_n 0, 1)) ∧ (decode cL_law 582 = .ok (.iload_n 3, 1)) ∧ (decode cL_law 583 = .ok (.iconst 1, 1)) ∧ (decode cL_law 584 = .ok (.iadd, 1)) ∧ (decode cL_law 585 = .ok (.iaload, 1)) ∧ (decode cL_law 586 = .ok (.aload_n 0, 1)) ∧ (decode cL_law 587 = .ok (.iload_n 3, 1)) := by decide +kernel
theorem dL_law_580 : decode cL_law 580 = .ok (.aload_n 1, 1) := dcL_law_42.1
theorem dL_law_581 : decode cL_law 581 = .ok (.aload_n 0, 1) := dcL_law_42.2.1
theorem dL_law_582 : decode cL_law 582 = .ok (.iload_n 3, 1) := dcL_law_42.2.2.1
theorem dL_law_583 : decode cL_law 583 = .ok (.iconst 1, 1) := dcL_law_42.2.2.2.1
theorem dL_law_584 : decode cL_law 584 = .ok (.iadd, 1) := dcL_law_42.2.2.2.2.1
theorem dL_law_585 : decode cL_law 585 = .ok (.iaload, 1) := dcL_law_42.2.2.2.2.2.1
theorem dL_law_586 : decode cL_law 586 = .ok (.aload_n 0, 1) := dcL_law_42.2.2.2.2.2.2.1
theorem dL_law_587 : decode cL_law 587 = .ok (.iload_n 3, 1) := dcL_law_42.2.2.2.2.2.2.2
theorem dcL_law_43 : (decode cL_law 588 = .ok (.iconst 2, 1)) ∧ (decode cL_law 589 = .ok (.iadd, 1)) ∧ (decode cL_law 590 = .ok (.iaload, 1)) ∧ (decode cL_law 591 = .ok (.invokevirtual 66, 3)) ∧ (decode cL_law 594 = .ok (.aload_n 2, 1)) ∧ (decode cL_law 595 = .ok (.aload_n 0, 1)) ∧ (decode cL_law 596 = .ok (.iload_n 3, 1)) ∧ (decode cL_law 597 = .ok (.iconst 1, 1)) := by decide +kernel
theorem dL_law_588 : decode cL_law 588 = .ok (.iconst 2, 1) := dcL_law_43.1
theorem dL_law_589 : decode cL_law 589 = .ok (.iadd, 1) := dcL_law_43.2.1
theorem dL_law_590 : decode cL_law 590 = .ok (.iaload, 1) := dcL_law_43.2.2.1
theorem dL_law_591 : decode cL_law 591 = .ok (.invokevirtual 66, 3) := dcL_law_43.2.2.2.1
theorem dL_law_594 : decode cL_law 594 = .ok (.aload_n 2, 1) := dcL_law_43.2.2.2.2.1
theorem dL_law_595 : decode cL_law 595 = .ok (.aload_n 0, 1) := dcL_law_43.2.2.2.2.2.1
theorem dL_law_596 : decode cL_law 596 = .ok (.iload_n 3, 1) := dcL_law_43.2.2.2.2.2.2.1
theorem dL_law_597 : decode cL_law 597 = .ok (.iconst 1, 1) := dcL_law_43.2.2.2.2.2.2.2
theorem dcL_law_44 : (decode cL_law 598 = .ok (.iadd, 1)) ∧ (decode cL_law 599 = .ok (.iaload, 1)) ∧ (decode cL_law 600 = .ok (.aload_n 0, 1)) ∧ (decode cL_law 601 = .ok (.iload_n 3, 1)) ∧ (decode cL_law 602 = .ok (.iconst 2, 1)) ∧ (decode cL_law 603 = .ok (.iadd, 1)) ∧ (decode cL_law 604 = .ok (.iaload, 1)) ∧ (decode cL_law 605 = .ok (.invokevirtual 69, 3)) := by decide +kernel
theorem dL_law_598 : decode cL_law 598 = .ok (.iadd, 1) := dcL_law_44.1
theorem dL_law_599 : decode cL_law 599 = .ok (.iaload, 1) := dcL_law_44.2.1
theorem dL_law_600 : decode cL_law 600 = .ok (.aload_n 0, 1) := dcL_law_44.2.2.1
theorem dL_law_601 : decode cL_law 601 = .ok (.iload_n 3, 1) := dcL_law_44.2.2.2.1
theorem dL_law_602 : decode cL_law 602 = .ok (.iconst 2, 1) := dcL_law_44.2.2.2.2.1
theorem dL_law_603 : decode cL_law 603 = .ok (.iadd, 1) := dcL_law_44.2.2.2.2.2.1
theorem dL_law_604 : decode cL_law 604 = .ok (.iaload, 1) := dcL_law_44.2.2.2.2.2.2.1
theorem dL_law_605 : decode cL_law 605 = .ok (.invokevirtual 69, 3) := dcL_law_44.2.2.2.2.2.2.2
theorem dcL_law_45 : (decode cL_law 608 = .ok (.if_icmp .eq 845, 3)) ∧ (decode cL_law 611 = .ok (.iconst 0, 1)) ∧ (decode cL_law 612 = .ok (.ireturn, 1)) ∧ (decode cL_law 613 = .ok (.aload_n 1, 1)) ∧ (decode cL_law 614 = .ok (.aload_n 0, 1)) ∧ (decode cL_law 615 = .ok (.iload_n 3, 1)) ∧ (decode cL_law 616 = .ok (.iconst 1, 1)) ∧ (decode cL_law 617 = .ok (.iadd, 1)) := by decide +kernel
theorem dL_law_608 : decode cL_law 608 = .ok (.if_icmp .eq 845, 3) := dcL_law_45.1
theorem dL_law_611 : decode cL_law 611 = .ok (.iconst 0, 1) := dcL_law_45.2.1
theorem dL_law_612 : decode cL_law 612 = .ok (.ireturn, 1) := dcL_law_45.2.2.1
theorem dL_law_613 : decode cL_law 613 = .ok (.aload_n 1, 1) := dcL_law_45.2.2.2.1
theorem dL_law_614 : decode cL_law 614 = .ok (.aload_n 0, 1) := dcL_law_45.2.2.2.2.1
theorem dL_law_615 : decode cL_law 615 = .ok (.iload_n 3, 1) := dcL_law_45.2.2.2.2.2.1
theorem dL_law_616 : decode cL_law 616 = .ok (.iconst 1, 1) := dcL_law_45.2.2.2.2.2.2.1
theorem dL_law_617 : decode cL_law 617 = .ok (.iadd, 1) := dcL_law_45.2.2.2.2.2.2.2
theorem dcL_law_46 : (decode cL_law 618 = .ok (.iaload, 1)) ∧ (decode cL_law 619 = .ok (.aload_n 0, 1)) ∧ (decode cL_law 620 = .ok (.iload_n 3, 1)) ∧ (decode cL_law 621 = .ok (.iconst 2, 1)) ∧ (decode cL_law 622 = .ok (.iadd, 1)) ∧ (decode cL_law 623 = .ok (.iaload, 1)) ∧ (decode cL_law 624 = .ok (.aload_n 0, 1)) ∧ (decode cL_law 625 = .ok (.iload_n 3, 1)) := by decide +kernel
theorem dL_law_618 : decode cL_law 618 = .ok (.iaload, 1) := dcL_law_46.1
theorem dL_law_619 : decode cL_law 619 = .ok (.aload_n 0, 1) := dcL_law_46.2.1
theorem dL_law_620 : decode cL_law 620 = .ok (.iload_n 3, 1) := dcL_law_46.2.2.1
theorem dL_law_621 : decode cL_law 621 = .ok (.iconst 2, 1) := dcL_law_46.2.2.2.1
theorem dL_law_622 : decode cL_law 622 = .ok (.iadd, 1) := dcL_law_46.2.2.2.2.1
theorem dL_law_623 : decode cL_law 623 = .ok (.iaload, 1) := dcL_law_46.2.2.2.2.2.1
theorem dL_law_624 : decode cL_law 624 = .ok (.aload_n 0, 1) := dcL_law_46.2.2.2.2.2.2.1
theorem dL_law_625 : decode cL_law 625 = .ok (.iload_n 3, 1) := dcL_law_46.2.2.2.2.2.2.2
theorem dcL_law_47 : (decode cL_law 626 = .ok (.iconst 3, 1)) ∧ (decode cL_law 627 = .ok (.iadd, 1)) ∧ (decode cL_law 628 = .ok (.iaload, 1)) ∧ (decode cL_law 629 = .ok (.invokevirtual 70, 3)) ∧ (decode cL_law 632 = .ok (.aload_n 2, 1)) ∧ (decode cL_law 633 = .ok (.aload_n 0, 1)) ∧ (decode cL_law 634 = .ok (.iload_n 3, 1)) ∧ (decode cL_law 635 = .ok (.iconst 1, 1)) := by decide +kernel
theorem dL_law_626 : decode cL_law 626 = .ok (.iconst 3, 1) := dcL_law_47.1
theorem dL_law_627 : decode cL_law 627 = .ok (.iadd, 1) := dcL_law_47.2.1
theorem dL_law_628 : decode cL_law 628 = .ok (.iaload, 1) := dcL_law_47.2.2.1
theorem dL_law_629 : decode cL_law 629 = .ok (.invokevirtual 70, 3) := dcL_law_47.2.2.2.1
theorem dL_law_632 : decode cL_law 632 = .ok (.aload_n 2, 1) := dcL_law_47.2.2.2.2.1
theorem dL_law_633 : decode cL_law 633 = .ok (.aload_n 0, 1) := dcL_law_47.2.2.2.2.2.1
theorem dL_law_634 : decode cL_law 634 = .ok (.iload_n 3, 1) := dcL_law_47.2.2.2.2.2.2.1
theorem dL_law_635 : decode cL_law 635 = .ok (.iconst 1, 1) := dcL_law_47.2.2.2.2.2.2.2
theorem dcL_law_48 : (decode cL_law 636 = .ok (.iadd, 1)) ∧ (decode cL_law 637 = .ok (.iaload, 1)) ∧ (decode cL_law 638 = .ok (.aload_n 0, 1)) ∧ (decode cL_law 639 = .ok (.iload_n 3, 1)) ∧ (decode cL_law 640 = .ok (.iconst 2, 1)) ∧ (decode cL_law 641 = .ok (.iadd, 1)) ∧ (decode cL_law 642 = .ok (.iaload, 1)) ∧ (decode cL_law 643 = .ok (.aload_n 0, 1)) := by decide +kernel
theorem dL_law_636 : decode cL_law 636 = .ok (.iadd, 1) := dcL_law_48.1
theorem dL_law_637 : decode cL_law 637 = .ok (.iaload, 1) := dcL_law_48.2.1
theorem dL_law_638 : decode cL_law 638 = .ok (.aload_n 0, 1) := dcL_law_48.2.2.1
theorem dL_law_639 : decode cL_law 639 = .ok (.iload_n 3, 1) := dcL_law_48.2.2.2.1
theorem dL_law_640 : decode cL_law 640 = .ok (.iconst 2, 1) := dcL_law_48.2.2.2.2.1
theorem dL_law_641 : decode cL_law 641 = .ok (.iadd, 1) := dcL_law_48.2.2.2.2.2.1
theorem dL_law_642 : decode cL_law 642 = .ok (.iaload, 1) := dcL_law_48.2.2.2.2.2.2.1
theorem dL_law_643 : decode cL_law 643 = .ok (.aload_n 0, 1) := dcL_law_48.2.2.2.2.2.2.2
theorem dcL_law_49 : (decode cL_law 644 = .ok (.iload_n 3, 1)) ∧ (decode cL_law 645 = .ok (.iconst 3, 1)) ∧ (decode cL_law 646 = .ok (.iadd, 1)) ∧ (decode cL_law 647 = .ok (.iaload, 1)) ∧ (decode cL_law 648 = .ok (.invokevirtual 73, 3)) ∧ (decode cL_law 651 = .ok (.if_icmp .eq 802, 3)) ∧ (decode cL_law 654 = .ok (.iconst 0, 1)) ∧ (decode cL_law 655 = .ok (.ireturn, 1)) := by decide +kernel
theorem dL_law_644 : decode cL_law 644 = .ok (.iload_n 3, 1) := dcL_law_49.1
theorem dL_law_645 : decode cL_law 645 = .ok (.iconst 3, 1) := dcL_law_49.2.1
theorem dL_law_646 : decode cL_law 646 = .ok (.iadd, 1) := dcL_law_49.2.2.1
theorem dL_law_647 : decode cL_law 647 = .ok (.iaload, 1) := dcL_law_49.2.2.2.1
theorem dL_law_648 : decode cL_law 648 = .ok (.invokevirtual 73, 3) := dcL_law_49.2.2.2.2.1
theorem dL_law_651 : decode cL_law 651 = .ok (.if_icmp .eq 802, 3) := dcL_law_49.2.2.2.2.2.1
theorem dL_law_654 : decode cL_law 654 = .ok (.iconst 0, 1) := dcL_law_49.2.2.2.2.2.2.1
theorem dL_law_655 : decode cL_law 655 = .ok (.ireturn, 1) := dcL_law_49.2.2.2.2.2.2.2
theorem dcL_law_50 : (decode cL_law 656 = .ok (.aload_n 1, 1)) ∧ (decode cL_law 657 = .ok (.aload_n 0, 1)) ∧ (decode cL_law 658 = .ok (.iload_n 3, 1)) ∧ (decode cL_law 659 = .ok (.iconst 1, 1)) ∧ (decode cL_law 660 = .ok (.iadd, 1)) ∧ (decode cL_law 661 = .ok (.iaload, 1)) ∧ (decode cL_law 662 = .ok (.invokevirtual 74, 3)) ∧ (decode cL_law 665 = .ok (.aload_n 2, 1)) := by decide +kernel
theorem dL_law_656 : decode cL_law 656 = .ok (.aload_n 1, 1) := dcL_law_50.1
theorem dL_law_657 : decode cL_law 657 = .ok (.aload_n 0, 1) := dcL_law_50.2.1
theorem dL_law_658 : decode cL_law 658 = .ok (.iload_n 3, 1) := dcL_law_50.2.2.1
theorem dL_law_659 : decode cL_law 659 = .ok (.iconst 1, 1) := dcL_law_50.2.2.2.1
theorem dL_law_660 : decode cL_law 660 = .ok (.iadd, 1) := dcL_law_50.2.2.2.2.1
theorem dL_law_661 : decode cL_law 661 = .ok (.iaload, 1) := dcL_law_50.2.2.2.2.2.1
theorem dL_law_662 : decode cL_law 662 = .ok (.invokevirtual 74, 3) := dcL_law_50.2.2.2.2.2.2.1
theorem dL_law_665 : decode cL_law 665 = .ok (.aload_n 2, 1) := dcL_law_50.2.2.2.2.2.2.2
theorem dcL_law_51 : (decode cL_law 666 = .ok (.aload_n 0, 1)) ∧ (decode cL_law 667 = .ok (.iload_n 3, 1)) ∧ (decode cL_law 668 = .ok (.iconst 1, 1)) ∧ (decode cL_law 669 = .ok (.iadd, 1)) ∧ (decode cL_law 670 = .ok (.iaload, 1)) ∧ (decode cL_law 671 = .ok (.invokevirtual 77, 3)) ∧ (decode cL_law 674 = .ok (.if_icmp .eq 779, 3)) ∧ (decode cL_law 677 = .ok (.iconst 0, 1)) := by decide +kernel
theorem dL_law_666 : decode cL_law 666 = .ok (.aload_n 0, 1) := dcL_law_51.1
theorem dL_law_667 : decode cL_law 667 = .ok (.iload_n 3, 1) := dcL_law_51.2.1
theorem dL_law_668 : decode cL_law 668 = .ok (.iconst 1, 1) := dcL_law_51.2.2.1
theorem dL_law_669 : decode cL_law 669 = .ok (.iadd, 1) := dcL_law_51.2.2.2.1
theorem dL_law_670 : decode cL_law 670 = .ok (.iaload, 1) := dcL_law_51.2.2.2.2.1
theorem dL_law_671 : decode cL_law 671 = .ok (.invokevirtual 77, 3) := dcL_law_51.2.2.2.2.2.1
theorem dL_law_674 : decode cL_law 674 = .ok (.if_icmp .eq 779, 3) := dcL_law_51.2.2.2.2.2.2.1
theorem dL_law_677 : decode cL_law 677 = .ok (.iconst 0, 1) := dcL_law_51.2.2.2.2.2.2.2
theorem dcL_law_52 : (decode cL_law 678 = .ok (.ireturn, 1)) ∧ (decode cL_law 679 = .ok (.aload_n 1, 1)) ∧ (decode cL_law 680 = .ok (.aload_n 0, 1)) ∧ (decode cL_law 681 = .ok (.iload_n 3, 1)) ∧ (decode cL_law 682 = .ok (.iconst 1, 1)) ∧ (decode cL_law 683 = .ok (.iadd, 1)) ∧ (decode cL_law 684 = .ok (.iaload, 1)) ∧ (decode cL_law 685 = .ok (.aload_n 0, 1)) := by decide +kernel
theorem dL_law_678 : decode cL_law 678 = .ok (.ireturn, 1) := dcL_law_52.1
theorem dL_law_679 : decode cL_law 679 = .ok (.aload_n 1, 1) := dcL_law_52.2.1
theorem dL_law_680 : decode cL_law 680 = .ok (.aload_n 0, 1) := dcL_law_52.2.2.1
theorem dL_law_681 : decode cL_law 681 = .ok (.iload_n 3, 1) := dcL_law_52.2.2.2.1
theorem dL_law_682 : decode cL_law 682 = .ok (.iconst 1, 1) := dcL_law_52.2.2.2.2.1
theorem dL_law_683 : decode cL_law 683 = .ok (.iadd, 1) := dcL_law_52.2.2.2.2.2.1
theorem dL_law_684 : decode cL_law 684 = .ok (.iaload, 1) := dcL_law_52.2.2.2.2.2.2.1
theorem dL_law_685 : decode cL_law 685 = .ok (.aload_n 0, 1) := dcL_law_52.2.2.2.2.2.2.2
theorem dcL_law_53 : (decode cL_law 686 = .ok (.iload_n 3, 1)) ∧ (decode cL_law 687 = .ok (.iconst 2, 1)) ∧ (decode cL_law 688 = .ok (.iadd, 1)) ∧ (decode cL_law 689 = .ok (.iaload, 1)) ∧ (decode cL_law 690 = .ok (.invokevirtual 78, 3)) ∧ (decode cL_law 693 = .ok (.aload_n 2, 1)) ∧ (decode cL_law 694 = .ok (.aload_n 0, 1)) ∧ (decode cL_law 695 = .ok (.iload_n 3, 1)) := by decide +kernel
theorem dL_law_686 : decode cL_law 686 = .ok (.iload_n 3, 1) := dcL_law_53.1
theorem dL_law_687 : decode cL_law 687 = .ok (.iconst 2, 1) := dcL_law_53.2.1
theorem dL_law_688 : decode cL_law 688 = .ok (.iadd, 1) := dcL_law_53.2.2.1
theorem dL_law_689 : decode cL_law 689 = .ok (.iaload, 1) := dcL_law_53.2.2.2.1
theorem dL_law_690 : decode cL_law 690 = .ok (.invokevirtual 78, 3) := dcL_law_53.2.2.2.2.1
theorem dL_law_693 : decode cL_law 693 = .ok (.aload_n 2, 1) := dcL_law_53.2.2.2.2.2.1
theorem dL_law_694 : decode cL_law 694 = .ok (.aload_n 0, 1) := dcL_law_53.2.2.2.2.2.2.1
theorem dL_law_695 : decode cL_law 695 = .ok (.iload_n 3, 1) := dcL_law_53.2.2.2.2.2.2.2
theorem dcL_law_54 : (decode cL_law 696 = .ok (.iconst 1, 1)) ∧ (decode cL_law 697 = .ok (.iadd, 1)) ∧ (decode cL_law 698 = .ok (.iaload, 1)) ∧ (decode cL_law 699 = .ok (.aload_n 0, 1)) ∧ (decode cL_law 700 = .ok (.iload_n 3, 1)) ∧ (decode cL_law 701 = .ok (.iconst 2, 1)) ∧ (decode cL_law 702 = .ok (.iadd, 1)) ∧ (decode cL_law 703 = .ok (.iaload, 1)) := by decide +kernel
theorem dL_law_696 : decode cL_law 696 = .ok (.iconst 1, 1) := dcL_law_54.1
theorem dL_law_697 : decode cL_law 697 = .ok (.iadd, 1) := dcL_law_54.2.1
theorem dL_law_698 : decode cL_law 698 = .ok (.iaload, 1) := dcL_law_54.2.2.1
theorem dL_law_699 : decode cL_law 699 = .ok (.aload_n 0, 1) := dcL_law_54.2.2.2.1
theorem dL_law_700 : decode cL_law 700 = .ok (.iload_n 3, 1) := dcL_law_54.2.2.2.2.1
theorem dL_law_701 : decode cL_law 701 = .ok (.iconst 2, 1) := dcL_law_54.2.2.2.2.2.1
theorem dL_law_702 : decode cL_law 702 = .ok (.iadd, 1) := dcL_law_54.2.2.2.2.2.2.1
theorem dL_law_703 : decode cL_law 703 = .ok (.iaload, 1) := dcL_law_54.2.2.2.2.2.2.2
theorem dcL_law_55 : (decode cL_law 704 = .ok (.invokevirtual 81, 3)) ∧ (decode cL_law 707 = .ok (.if_icmp .eq 746, 3)) ∧ (decode cL_law 710 = .ok (.iconst 0, 1)) ∧ (decode cL_law 711 = .ok (.ireturn, 1)) ∧ (decode cL_law 712 = .ok (.aload_n 1, 1)) ∧ (decode cL_law 713 = .ok (.aload_n 0, 1)) ∧ (decode cL_law 714 = .ok (.iload_n 3, 1)) ∧ (decode cL_law 715 = .ok (.iconst 1, 1)) := by decide +kernel
theorem dL_law_704 : decode cL_law 704 = .ok (.invokevirtual 81, 3) := dcL_law_55.1
theorem dL_law_707 : decode cL_law 707 = .ok (.if_icmp .eq 746, 3) := dcL_law_55.2.1
theorem dL_law_710 : decode cL_law 710 = .ok (.iconst 0, 1) := dcL_law_55.2.2.1
theorem dL_law_711 : decode cL_law 711 = .ok (.ireturn, 1) := dcL_law_55.2.2.2.1
theorem dL_law_712 : decode cL_law 712 = .ok (.aload_n 1, 1) := dcL_law_55.2.2.2.2.1
theorem dL_law_713 : decode cL_law 713 = .ok (.aload_n 0, 1) := dcL_law_55.2.2.2.2.2.1
theorem dL_law_714 : decode cL_law 714 = .ok (.iload_n 3, 1) := dcL_law_55.2.2.2.2.2.2.1
theorem dL_law_715 : decode cL_law 715 = .ok (.iconst 1, 1) := dcL_law_55.2.2.2.2.2.2.2
theorem dcL_law_56 : (decode cL_law 716 = .ok (.iadd, 1)) ∧ (decode cL_law 717 = .ok (.iaload, 1)) ∧ (decode cL_law 718 = .ok (.invokevirtual 82, 3)) ∧ (decode cL_law 721 = .ok (.aload_n 2, 1)) ∧ (decode cL_law 722 = .ok (.aload_n 0, 1)) ∧ (decode cL_law 723 = .ok (.iload_n 3, 1)) ∧ (decode cL_law 724 = .ok (.iconst 1, 1)) ∧ (decode cL_law 725 = .ok (.iadd, 1)) := by decide +kernel
theorem dL_law_716 : decode cL_law 716 = .ok (.iadd, 1) := dcL_law_56.1
theorem dL_law_717 : decode cL_law 717 = .ok (.iaload, 1) := dcL_law_56.2.1
theorem dL_law_718 : decode cL_law 718 = .ok (.invokevirtual 82, 3) := dcL_law_56.2.2.1
theorem dL_law_721 : decode cL_law 721 = .ok (.aload_n 2, 1) := dcL_law_56.2.2.2.1
theorem dL_law_722 : decode cL_law 722 = .ok (.aload_n 0, 1) := dcL_law_56.2.2.2.2.1
theorem dL_law_723 : decode cL_law 723 = .ok (.iload_n 3, 1) := dcL_law_56.2.2.2.2.2.1
theorem dL_law_724 : decode cL_law 724 = .ok (.iconst 1, 1) := dcL_law_56.2.2.2.2.2.2.1
theorem dL_law_725 : decode cL_law 725 = .ok (.iadd, 1) := dcL_law_56.2.2.2.2.2.2.2
theorem dcL_law_57 : (decode cL_law 726 = .ok (.iaload, 1)) ∧ (decode cL_law 727 = .ok (.invokevirtual 85, 3)) ∧ (decode cL_law 730 = .ok (.if_icmp .eq 723, 3)) ∧ (decode cL_law 733 = .ok (.iconst 0, 1)) ∧ (decode cL_law 734 = .ok (.ireturn, 1)) ∧ (decode cL_law 735 = .ok (.aload_n 1, 1)) ∧ (decode cL_law 736 = .ok (.aload_n 0, 1)) ∧ (decode cL_law 737 = .ok (.iload_n 3, 1)) := by decide +kernel
theorem dL_law_726 : decode cL_law 726 = .ok (.iaload, 1) := dcL_law_57.1
theorem dL_law_727 : decode cL_law 727 = .ok (.invokevirtual 85, 3) := dcL_law_57.2.1
theorem dL_law_730 : decode cL_law 730 = .ok (.if_icmp .eq 723, 3) := dcL_law_57.2.2.1
theorem dL_law_733 : decode cL_law 733 = .ok (.iconst 0, 1) := dcL_law_57.2.2.2.1
theorem dL_law_734 : decode cL_law 734 = .ok (.ireturn, 1) := dcL_law_57.2.2.2.2.1
theorem dL_law_735 : decode cL_law 735 = .ok (.aload_n 1, 1) := dcL_law_57.2.2.2.2.2.1
theorem dL_law_736 : decode cL_law 736 = .ok (.aload_n 0, 1) := dcL_law_57.2.2.2.2.2.2.1
theorem dL_law_737 : decode cL_law 737 = .ok (.iload_n 3, 1) := dcL_law_57.2.2.2.2.2.2.2
theorem dcL_law_58 : (decode cL_law 738 = .ok (.iconst 1, 1)) ∧ (decode cL_law 739 = .ok (.iadd, 1)) ∧ (decode cL_law 740 = .ok (.iaload, 1)) ∧ (decode cL_law 741 = .ok (.aload_n 0, 1)) ∧ (decode cL_law 742 = .ok (.iload_n 3, 1)) ∧ (decode cL_law 743 = .ok (.iconst 2, 1)) ∧ (decode cL_law 744 = .ok (.iadd, 1)) ∧ (decode cL_law 745 = .ok (.iaload, 1)) := by decide +kernel
theorem dL_law_738 : decode cL_law 738 = .ok (.iconst 1, 1) := dcL_law_58.1
theorem dL_law_739 : decode cL_law 739 = .ok (.iadd, 1) := dcL_law_58.2.1
theorem dL_law_740 : decode cL_law 740 = .ok (.iaload, 1) := dcL_law_58.2.2.1
theorem dL_law_741 : decode cL_law 741 = .ok (.aload_n 0, 1) := dcL_law_58.2.2.2.1
theorem dL_law_742 : decode cL_law 742 = .ok (.iload_n 3, 1) := dcL_law_58.2.2.2.2.1
theorem dL_law_743 : decode cL_law 743 = .ok (.iconst 2, 1) := dcL_law_58.2.2.2.2.2.1
theorem dL_law_744 : decode cL_law 744 = .ok (.iadd, 1) := dcL_law_58.2.2.2.2.2.2.1
theorem dL_law_745 : decode cL_law 745 = .ok (.iaload, 1) := dcL_law_58.2.2.2.2.2.2.2
theorem dcL_law_59 : (decode cL_law 746 = .ok (.invokevirtual 86, 3)) ∧ (decode cL_law 749 = .ok (.aload_n 2, 1)) ∧ (decode cL_law 750 = .ok (.aload_n 0, 1)) ∧ (decode cL_law 751 = .ok (.iload_n 3, 1)) ∧ (decode cL_law 752 = .ok (.iconst 1, 1)) ∧ (decode cL_law 753 = .ok (.iadd, 1)) ∧ (decode cL_law 754 = .ok (.iaload, 1)) ∧ (decode cL_law 755 = .ok (.aload_n 0, 1)) := by decide +kernel
theorem dL_law_746 : decode cL_law 746 = .ok (.invokevirtual 86, 3) := dcL_law_59.1
theorem dL_law_749 : decode cL_law 749 = .ok (.aload_n 2, 1) := dcL_law_59.2.1
theorem dL_law_750 : decode cL_law 750 = .ok (.aload_n 0, 1) := dcL_law_59.2.2.1
theorem dL_law_751 : decode cL_law 751 = .ok (.iload_n 3, 1) := dcL_law_59.2.2.2.1
theorem dL_law_752 : decode cL_law 752 = .ok (.iconst 1, 1) := dcL_law_59.2.2.2.2.1
theorem dL_law_753 : decode cL_law 753 = .ok (.iadd, 1) := dcL_law_59.2.2.2.2.2.1
theorem dL_law_754 : decode cL_law 754 = .ok (.iaload, 1) := dcL_law_59.2.2.2.2.2.2.1
theorem dL_law_755 : decode cL_law 755 = .ok (.aload_n 0, 1) := dcL_law_59.2.2.2.2.2.2.2
theorem dcL_law_60 : (decode cL_law 756 = .ok (.iload_n 3, 1)) ∧ (decode cL_law 757 = .ok (.iconst 2, 1)) ∧ (decode cL_law 758 = .ok (.iadd, 1)) ∧ (decode cL_law 759 = .ok (.iaload, 1)) ∧ (decode cL_law 760 = .ok (.invokevirtual 89, 3)) ∧ (decode cL_law 763 = .ok (.if_icmp .eq 690, 3)) ∧ (decode cL_law 766 = .ok (.iconst 0, 1)) ∧ (decode cL_law 767 = .ok (.ireturn, 1)) := by decide +kernel
theorem dL_law_756 : decode cL_law 756 = .ok (.iload_n 3, 1) := dcL_law_60.1
theorem dL_law_757 : decode cL_law 757 = .ok (.iconst 2, 1) := dcL_law_60.2.1
theorem dL_law_758 : decode cL_law 758 = .ok (.iadd, 1) := dcL_law_60.2.2.1
theorem dL_law_759 : decode cL_law 759 = .ok (.iaload, 1) := dcL_law_60.2.2.2.1
theorem dL_law_760 : decode cL_law 760 = .ok (.invokevirtual 89, 3) := dcL_law_60.2.2.2.2.1
theorem dL_law_763 : decode cL_law 763 = .ok (.if_icmp .eq 690, 3) := dcL_law_60.2.2.2.2.2.1
theorem dL_law_766 : decode cL_law 766 = .ok (.iconst 0, 1) := dcL_law_60.2.2.2.2.2.2.1
theorem dL_law_767 : decode cL_law 767 = .ok (.ireturn, 1) := dcL_law_60.2.2.2.2.2.2.2
theorem dcL_law_61 : (decode cL_law 768 = .ok (.aload_n 1, 1)) ∧ (decode cL_law 769 = .ok (.aload_n 0, 1)) ∧ (decode cL_law 770 = .ok (.iload_n 3, 1)) ∧ (decode cL_law 771 = .ok (.iconst 1, 1)) ∧ (decode cL_law 772 = .ok (.iadd, 1)) ∧ (decode cL_law 773 = .ok (.iaload, 1)) ∧ (decode cL_law 774 = .ok (.aload_n 0, 1)) ∧ (decode cL_law 775 = .ok (.iload_n 3, 1)) := by decide +kernel
theorem dL_law_768 : decode cL_law 768 = .ok (.aload_n 1, 1) := dcL_law_61.1
theorem dL_law_769 : decode cL_law 769 = .ok (.aload_n 0, 1) := dcL_law_61.2.1
theorem dL_law_770 : decode cL_law 770 = .ok (.iload_n 3, 1) := dcL_law_61.2.2.1
theorem dL_law_771 : decode cL_law 771 = .ok (.iconst 1, 1) := dcL_law_61.2.2.2.1
theorem dL_law_772 : decode cL_law 772 = .ok (.iadd, 1) := dcL_law_61.2.2.2.2.1
theorem dL_law_773 : decode cL_law 773 = .ok (.iaload, 1) := dcL_law_61.2.2.2.2.2.1
theorem dL_law_774 : decode cL_law 774 = .ok (.aload_n 0, 1) := dcL_law_61.2.2.2.2.2.2.1
theorem dL_law_775 : decode cL_law 775 = .ok (.iload_n 3, 1) := dcL_law_61.2.2.2.2.2.2.2
theorem dcL_law_62 : (decode cL_law 776 = .ok (.iconst 2, 1)) ∧ (decode cL_law 777 = .ok (.iadd, 1)) ∧ (decode cL_law 778 = .ok (.iaload, 1)) ∧ (decode cL_law 779 = .ok (.invokevirtual 90, 3)) ∧ (decode cL_law 782 = .ok (.aload_n 2, 1)) ∧ (decode cL_law 783 = .ok (.aload_n 0, 1)) ∧ (decode cL_law 784 = .ok (.iload_n 3, 1)) ∧ (decode cL_law 785 = .ok (.iconst 1, 1)) := by decide +kernel
theorem dL_law_776 : decode cL_law 776 = .ok (.iconst 2, 1) := dcL_law_62.1
theorem dL_law_777 : decode cL_law 777 = .ok (.iadd, 1) := dcL_law_62.2.1
theorem dL_law_778 : decode cL_law 778 = .ok (.iaload, 1) := dcL_law_62.2.2.1
theorem dL_law_779 : decode cL_law 779 = .ok (.invokevirtual 90, 3) := dcL_law_62.2.2.2.1
theorem dL_law_782 : decode cL_law 782 = .ok (.aload_n 2, 1) := dcL_law_62.2.2.2.2.1
theorem dL_law_783 : decode cL_law 783 = .ok (.aload_n 0, 1) := dcL_law_62.2.2.2.2.2.1
theorem dL_law_784 : decode cL_law 784 = .ok (.iload_n 3, 1) := dcL_law_62.2.2.2.2.2.2.1
theorem dL_law_785 : decode cL_law 785 = .ok (.iconst 1, 1) := dcL_law_62.2.2.2.2.2.2.2
theorem dcL_law_63 : (decode cL_law 786 = .ok (.iadd, 1)) ∧ (decode cL_law 787 = .ok (.iaload, 1)) ∧ (decode cL_law 788 = .ok (.aload_n 0, 1)) ∧ (decode cL_law 789 = .ok (.iload_n 3, 1)) ∧ (decode cL_law 790 = .ok (.iconst 2, 1)) ∧ (decode cL_law 791 = .ok (.iadd, 1)) ∧ (decode cL_law 792 = .ok (.iaload, 1)) ∧ (decode cL_law 793 = .ok (.invokevirtual 93, 3)) := by decide +kernel
theorem dL_law_786 : decode cL_law 786 = .ok (.iadd, 1) := dcL_law_63.1
theorem dL_law_787 : decode cL_law 787 = .ok (.iaload, 1) := dcL_law_63.2.1
theorem dL_law_788 : decode cL_law 788 = .ok (.aload_n 0, 1) := dcL_law_63.2.2.1
theorem dL_law_789 : decode cL_law 789 = .ok (.iload_n 3, 1) := dcL_law_63.2.2.2.1
theorem dL_law_790 : decode cL_law 790 = .ok (.iconst 2, 1) := dcL_law_63.2.2.2.2.1
theorem dL_law_791 : decode cL_law 791 = .ok (.iadd, 1) := dcL_law_63.2.2.2.2.2.1
theorem dL_law_792 : decode cL_law 792 = .ok (.iaload, 1) := dcL_law_63.2.2.2.2.2.2.1
theorem dL_law_793 : decode cL_law 793 = .ok (.invokevirtual 93, 3) := dcL_law_63.2.2.2.2.2.2.2
theorem dcL_law_64 : (decode cL_law 796 = .ok (.if_icmp .eq 657, 3)) ∧ (decode cL_law 799 = .ok (.iconst 0, 1)) ∧ (decode cL_law 800 = .ok (.ireturn, 1)) ∧ (decode cL_law 801 = .ok (.aload_n 1, 1)) ∧ (decode cL_law 802 = .ok (.aload_n 0, 1)) ∧ (decode cL_law 803 = .ok (.iload_n 3, 1)) ∧ (decode cL_law 804 = .ok (.iconst 1, 1)) ∧ (decode cL_law 805 = .ok (.iadd, 1)) := by decide +kernel
theorem dL_law_796 : decode cL_law 796 = .ok (.if_icmp .eq 657, 3) := dcL_law_64.1
theorem dL_law_799 : decode cL_law 799 = .ok (.iconst 0, 1) := dcL_law_64.2.1
theorem dL_law_800 : decode cL_law 800 = .ok (.ireturn, 1) := dcL_law_64.2.2.1
theorem dL_law_801 : decode cL_law 801 = .ok (.aload_n 1, 1) := dcL_law_64.2.2.2.1
theorem dL_law_802 : decode cL_law 802 = .ok (.aload_n 0, 1) := dcL_law_64.2.2.2.2.1
theorem dL_law_803 : decode cL_law 803 = .ok (.iload_n 3, 1) := dcL_law_64.2.2.2.2.2.1
theorem dL_law_804 : decode cL_law 804 = .ok (.iconst 1, 1) := dcL_law_64.2.2.2.2.2.2.1
theorem dL_law_805 : decode cL_law 805 = .ok (.iadd, 1) := dcL_law_64.2.2.2.2.2.2.2
theorem dcL_law_65 : (decode cL_law 806 = .ok (.iaload, 1)) ∧ (decode cL_law 807 = .ok (.invokevirtual 94, 3)) ∧ (decode cL_law 810 = .ok (.aload_n 2, 1)) ∧ (decode cL_law 811 = .ok (.aload_n 0, 1)) ∧ (decode cL_law 812 = .ok (.iload_n 3, 1)) ∧ (decode cL_law 813 = .ok (.iconst 1, 1)) ∧ (decode cL_law 814 = .ok (.iadd, 1)) ∧ (decode cL_law 815 = .ok (.iaload, 1)) := by decide +kernel
theorem dL_law_806 : decode cL_law 806 = .ok (.iaload, 1) := dcL_law_65.1
theorem dL_law_807 : decode cL_law 807 = .ok (.invokevirtual 94, 3) := dcL_law_65.2.1
theorem dL_law_810 : decode cL_law 810 = .ok (.aload_n 2, 1) := dcL_law_65.2.2.1
theorem dL_law_811 : decode cL_law 811 = .ok (.aload_n 0, 1) := dcL_law_65.2.2.2.1
theorem dL_law_812 : decode cL_law 812 = .ok (.iload_n 3, 1) := dcL_law_65.2.2.2.2.1
theorem dL_law_813 : decode cL_law 813 = .ok (.iconst 1, 1) := dcL_law_65.2.2.2.2.2.1
theorem dL_law_814 : decode cL_law 814 = .ok (.iadd, 1) := dcL_law_65.2.2.2.2.2.2.1
theorem dL_law_815 : decode cL_law 815 = .ok (.iaload, 1) := dcL_law_65.2.2.2.2.2.2.2
theorem dcL_law_66 : (decode cL_law 816 = .ok (.invokevirtual 97, 3)) ∧ (decode cL_law 819 = .ok (.if_icmp .eq 634, 3)) ∧ (decode cL_law 822 = .ok (.iconst 0, 1)) ∧ (decode cL_law 823 = .ok (.ireturn, 1)) ∧ (decode cL_law 824 = .ok (.aload_n 1, 1)) ∧ (decode cL_law 825 = .ok (.aload_n 0, 1)) ∧ (decode cL_law 826 = .ok (.iload_n 3, 1)) ∧ (decode cL_law 827 = .ok (.iconst 1, 1)) := by decide +kernel
theorem dL_law_816 : decode cL_law 816 = .ok (.invokevirtual 97, 3) := dcL_law_66.1
theorem dL_law_819 : decode cL_law 819 = .ok (.if_icmp .eq 634, 3) := dcL_law_66.2.1
theorem dL_law_822 : decode cL_law 822 = .ok (.iconst 0, 1) := dcL_law_66.2.2.1
theorem dL_law_823 : decode cL_law 823 = .ok (.ireturn, 1) := dcL_law_66.2.2.2.1
theorem dL_law_824 : decode cL_law 824 = .ok (.aload_n 1, 1) := dcL_law_66.2.2.2.2.1
theorem dL_law_825 : decode cL_law 825 = .ok (.aload_n 0, 1) := dcL_law_66.2.2.2.2.2.1
theorem dL_law_826 : decode cL_law 826 = .ok (.iload_n 3, 1) := dcL_law_66.2.2.2.2.2.2.1
theorem dL_law_827 : decode cL_law 827 = .ok (.iconst 1, 1) := dcL_law_66.2.2.2.2.2.2.2
theorem dcL_law_67 : (decode cL_law 828 = .ok (.iadd, 1)) ∧ (decode cL_law 829 = .ok (.iaload, 1)) ∧ (decode cL_law 830 = .ok (.aload_n 0, 1)) ∧ (decode cL_law 831 = .ok (.iload_n 3, 1)) ∧ (decode cL_law 832 = .ok (.iconst 2, 1)) ∧ (decode cL_law 833 = .ok (.iadd, 1)) ∧ (decode cL_law 834 = .ok (.iaload, 1)) ∧ (decode cL_law 835 = .ok (.invokevirtual 98, 3)) := by decide +kernel
theorem dL_law_828 : decode cL_law 828 = .ok (.iadd, 1) := dcL_law_67.1
theorem dL_law_829 : decode cL_law 829 = .ok (.iaload, 1) := dcL_law_67.2.1
theorem dL_law_830 : decode cL_law 830 = .ok (.aload_n 0, 1) := dcL_law_67.2.2.1
theorem dL_law_831 : decode cL_law 831 = .ok (.iload_n 3, 1) := dcL_law_67.2.2.2.1
theorem dL_law_832 : decode cL_law 832 = .ok (.iconst 2, 1) := dcL_law_67.2.2.2.2.1
theorem dL_law_833 : decode cL_law 833 = .ok (.iadd, 1) := dcL_law_67.2.2.2.2.2.1
theorem dL_law_834 : decode cL_law 834 = .ok (.iaload, 1) := dcL_law_67.2.2.2.2.2.2.1
theorem dL_law_835 : decode cL_law 835 = .ok (.invokevirtual 98, 3) := dcL_law_67.2.2.2.2.2.2.2
theorem dcL_law_68 : (decode cL_law 838 = .ok (.aload_n 2, 1)) ∧ (decode cL_law 839 = .ok (.aload_n 0, 1)) ∧ (decode cL_law 840 = .ok (.iload_n 3, 1)) ∧ (decode cL_law 841 = .ok (.iconst 1, 1)) ∧ (decode cL_law 842 = .ok (.iadd, 1)) ∧ (decode cL_law 843 = .ok (.iaload, 1)) ∧ (decode cL_law 844 = .ok (.aload_n 0, 1)) ∧ (decode cL_law 845 = .ok (.iload_n 3, 1)) := by decide +kernel
theorem dL_law_838 : decode cL_law 838 = .ok (.aload_n 2, 1) := dcL_law_68.1
theorem dL_law_839 : decode cL_law 839 = .ok (.aload_n 0, 1) := dcL_law_68.2.1
theorem dL_law_840 : decode cL_law 840 = .ok (.iload_n 3, 1) := dcL_law_68.2.2.1
theorem dL_law_841 : decode cL_law 841 = .ok (.iconst 1, 1) := dcL_law_68.2.2.2.1
theorem dL_law_842 : decode cL_law 842 = .ok (.iadd, 1) := dcL_law_68.2.2.2.2.1
theorem dL_law_843 : decode cL_law 843 = .ok (.iaload, 1) := dcL_law_68.2.2.2.2.2.1
theorem dL_law_844 : decode cL_law 844 = .ok (.aload_n 0, 1) := dcL_law_68.2.2.2.2.2.2.1
theorem dL_law_845 : decode cL_law 845 = .ok (.iload_n 3, 1) := dcL_law_68.2.2.2.2.2.2.2
theorem dcL_law_69 : (decode cL_law 846 = .ok (.iconst 2, 1)) ∧ (decode cL_law 847 = .ok (.iadd, 1)) ∧ (decode cL_law 848 = .ok (.iaload, 1)) ∧ (decode cL_law 849 = .ok (.invokevirtual 101, 3)) ∧ (decode cL_law 852 = .ok (.if_icmp .eq 601, 3)) ∧ (decode cL_law 855 = .ok (.iconst 0, 1)) ∧ (decode cL_law 856 = .ok (.ireturn, 1)) ∧ (decode cL_law 857 = .ok (.aload_n 1, 1)) := by decide +kernel
theorem dL_law_846 : decode cL_law 846 = .ok (.iconst 2, 1) := dcL_law_69.1
theorem dL_law_847 : decode cL_law 847 = .ok (.iadd, 1) := dcL_law_69.2.1
theorem dL_law_848 : decode cL_law 848 = .ok (.iaload, 1) := dcL_law_69.2.2.1
theorem dL_law_849 : decode cL_law 849 = .ok (.invokevirtual 101, 3) := dcL_law_69.2.2.2.1
theorem dL_law_852 : decode cL_law 852 = .ok (.if_icmp .eq 601, 3) := dcL_law_69.2.2.2.2.1
theorem dL_law_855 : decode cL_law 855 = .ok (.iconst 0, 1) := dcL_law_69.2.2.2.2.2.1
theorem dL_law_856 : decode cL_law 856 = .ok (.ireturn, 1) := dcL_law_69.2.2.2.2.2.2.1
theorem dL_law_857 : decode cL_law 857 = .ok (.aload_n 1, 1) := dcL_law_69.2.2.2.2.2.2.2
theorem dcL_law_70 : (decode cL_law 858 = .ok (.aload_n 0, 1)) ∧ (decode cL_law 859 = .ok (.iload_n 3, 1)) ∧ (decode cL_law 860 = .ok (.iconst 1, 1)) ∧ (decode cL_law 861 = .ok (.iadd, 1)) ∧ (decode cL_law 862 = .ok (.iaload, 1)) ∧ (decode cL_law 863 = .ok (.aload_n 0, 1)) ∧ (decode cL_law 864 = .ok (.iload_n 3, 1)) ∧ (decode cL_law 865 = .ok (.iconst 2, 1)) := by decide +kernel
theorem dL_law_858 : decode cL_law 858 = .ok (.aload_n 0, 1) := dcL_law_70.1
theorem dL_law_859 : decode cL_law 859 = .ok (.iload_n 3, 1) := dcL_law_70.2.1
theorem dL_law_860 : decode cL_law 860 = .ok (.iconst 1, 1) := dcL_law_70.2.2.1
theorem dL_law_861 : decode cL_law 861 = .ok (.iadd, 1) := dcL_law_70.2.2.2.1
theorem dL_law_862 : decode cL_law 862 = .ok (.iaload, 1) := dcL_law_70.2.2.2.2.1
theorem dL_law_863 : decode cL_law 863 = .ok (.aload_n 0, 1) := dcL_law_70.2.2.2.2.2.1
theorem dL_law_864 : decode cL_law 864 = .ok (.iload_n 3, 1) := dcL_law_70.2.2.2.2.2.2.1
theorem dL_law_865 : decode cL_law 865 = .ok (.iconst 2, 1) := dcL_law_70.2.2.2.2.2.2.2
theorem dcL_law_71 : (decode cL_law 866 = .ok (.iadd, 1)) ∧ (decode cL_law 867 = .ok (.iaload, 1)) ∧ (decode cL_law 868 = .ok (.invokevirtual 102, 3)) ∧ (decode cL_law 871 = .ok (.aload_n 2, 1)) ∧ (decode cL_law 872 = .ok (.aload_n 0, 1)) ∧ (decode cL_law 873 = .ok (.iload_n 3, 1)) ∧ (decode cL_law 874 = .ok (.iconst 1, 1)) ∧ (decode cL_law 875 = .ok (.iadd, 1)) := by decide +kernel
theorem dL_law_866 : decode cL_law 866 = .ok (.iadd, 1) := dcL_law_71.1
theorem dL_law_867 : decode cL_law 867 = .ok (.iaload, 1) := dcL_law_71.2.1
theorem dL_law_868 : decode cL_law 868 = .ok (.invokevirtual 102, 3) := dcL_law_71.2.2.1
theorem dL_law_871 : decode cL_law 871 = .ok (.aload_n 2, 1) := dcL_law_71.2.2.2.1
theorem dL_law_872 : decode cL_law 872 = .ok (.aload_n 0, 1) := dcL_law_71.2.2.2.2.1
theorem dL_law_873 : decode cL_law 873 = .ok (.iload_n 3, 1) := dcL_law_71.2.2.2.2.2.1
theorem dL_law_874 : decode cL_law 874 = .ok (.iconst 1, 1) := dcL_law_71.2.2.2.2.2.2.1
theorem dL_law_875 : decode cL_law 875 = .ok (.iadd, 1) := dcL_law_71.2.2.2.2.2.2.2
theorem dcL_law_72 : (decode cL_law 876 = .ok (.iaload, 1)) ∧ (decode cL_law 877 = .ok (.aload_n 0, 1)) ∧ (decode cL_law 878 = .ok (.iload_n 3, 1)) ∧ (decode cL_law 879 = .ok (.iconst 2, 1)) ∧ (decode cL_law 880 = .ok (.iadd, 1)) ∧ (decode cL_law 881 = .ok (.iaload, 1)) ∧ (decode cL_law 882 = .ok (.invokevirtual 105, 3)) ∧ (decode cL_law 885 = .ok (.if_icmp .eq 568, 3)) := by decide +kernel
theorem dL_law_876 : decode cL_law 876 = .ok (.iaload, 1) := dcL_law_72.1
theorem dL_law_877 : decode cL_law 877 = .ok (.aload_n 0, 1) := dcL_law_72.2.1
theorem dL_law_878 : decode cL_law 878 = .ok (.iload_n 3, 1) := dcL_law_72.2.2.1
theorem dL_law_879 : decode cL_law 879 = .ok (.iconst 2, 1) := dcL_law_72.2.2.2.1
theorem dL_law_880 : decode cL_law 880 = .ok (.iadd, 1) := dcL_law_72.2.2.2.2.1
theorem dL_law_881 : decode cL_law 881 = .ok (.iaload, 1) := dcL_law_72.2.2.2.2.2.1
theorem dL_law_882 : decode cL_law 882 = .ok (.invokevirtual 105, 3) := dcL_law_72.2.2.2.2.2.2.1
theorem dL_law_885 : decode cL_law 885 = .ok (.if_icmp .eq 568, 3) := dcL_law_72.2.2.2.2.2.2.2
theorem dcL_law_73 : (decode cL_law 888 = .ok (.iconst 0, 1)) ∧ (decode cL_law 889 = .ok (.ireturn, 1)) ∧ (decode cL_law 890 = .ok (.aload_n 1, 1)) ∧ (decode cL_law 891 = .ok (.aload_n 0, 1)) ∧ (decode cL_law 892 = .ok (.iload_n 3, 1)) ∧ (decode cL_law 893 = .ok (.iconst 1, 1)) ∧ (decode cL_law 894 = .ok (.iadd, 1)) ∧ (decode cL_law 895 = .ok (.iaload, 1)) := by decide +kernel
theorem dL_law_888 : decode cL_law 888 = .ok (.iconst 0, 1) := dcL_law_73.1
theorem dL_law_889 : decode cL_law 889 = .ok (.ireturn, 1) := dcL_law_73.2.1
theorem dL_law_890 : decode cL_law 890 = .ok (.aload_n 1, 1) := dcL_law_73.2.2.1
theorem dL_law_891 : decode cL_law 891 = .ok (.aload_n 0, 1) := dcL_law_73.2.2.2.1
theorem dL_law_892 : decode cL_law 892 = .ok (.iload_n 3, 1) := dcL_law_73.2.2.2.2.1
theorem dL_law_893 : decode cL_law 893 = .ok (.iconst 1, 1) := dcL_law_73.2.2.2.2.2.1
theorem dL_law_894 : decode cL_law 894 = .ok (.iadd, 1) := dcL_law_73.2.2.2.2.2.2.1
theorem dL_law_895 : decode cL_law 895 = .ok (.iaload, 1) := dcL_law_73.2.2.2.2.2.2.2
theorem dcL_law_74 : (decode cL_law 896 = .ok (.aload_n 0, 1)) ∧ (decode cL_law 897 = .ok (.iload_n 3, 1)) ∧ (decode cL_law 898 = .ok (.iconst 2, 1)) ∧ (decode cL_law 899 = .ok (.iadd, 1)) ∧ (decode cL_law 900 = .ok (.iaload, 1)) ∧ (decode cL_law 901 = .ok (.aload_n 0, 1)) ∧ (decode cL_law 902 = .ok (.iload_n 3, 1)) ∧ (decode cL_law 903 = .ok (.iconst 3, 1)) := by decide +kernel
theorem dL_law_896 : decode cL_law 896 = .ok (.aload_n 0, 1) := dcL_law_74.1
theorem dL_law_897 : decode cL_law 897 = .ok (.iload_n 3, 1) := dcL_law_74.2.1
theorem dL_law_898 : decode cL_law 898 = .ok (.iconst 2, 1) := dcL_law_74.2.2.1
theorem dL_law_899 : decode cL_law 899 = .ok (.iadd, 1) := dcL_law_74.2.2.2.1
theorem dL_law_900 : decode cL_law 900 = .ok (.iaload, 1) := dcL_law_74.2.2.2.2.1
theorem dL_law_901 : decode cL_law 901 = .ok (.aload_n 0, 1) := dcL_law_74.2.2.2.2.2.1
theorem dL_law_902 : decode cL_law 902 = .ok (.iload_n 3, 1) := dcL_law_74.2.2.2.2.2.2.1
theorem dL_law_903 : decode cL_law 903 = .ok (.iconst 3, 1) := dcL_law_74.2.2.2.2.2.2.2
theorem dcL_law_75 : (decode cL_law 904 = .ok (.iadd, 1)) ∧ (decode cL_law 905 = .ok (.iaload, 1)) ∧ (decode cL_law 906 = .ok (.invokevirtual 106, 3)) ∧ (decode cL_law 909 = .ok (.aload_n 2, 1)) ∧ (decode cL_law 910 = .ok (.aload_n 0, 1)) ∧ (decode cL_law 911 = .ok (.iload_n 3, 1)) ∧ (decode cL_law 912 = .ok (.iconst 1, 1)) ∧ (decode cL_law 913 = .ok (.iadd, 1)) := by decide +kernel
theorem dL_law_904 : decode cL_law 904 = .ok (.iadd, 1) := dcL_law_75.1
theorem dL_law_905 : decode cL_law 905 = .ok (.iaload, 1) := dcL_law_75.2.1
theorem dL_law_906 : decode cL_law 906 = .ok (.invokevirtual 106, 3) := dcL_law_75.2.2.1
theorem dL_law_909 : decode cL_law 909 = .ok (.aload_n 2, 1) := dcL_law_75.2.2.2.1
theorem dL_law_910 : decode cL_law 910 = .ok (.aload_n 0, 1) := dcL_law_75.2.2.2.2.1
theorem dL_law_911 : decode cL_law 911 = .ok (.iload_n 3, 1) := dcL_law_75.2.2.2.2.2.1
theorem dL_law_912 : decode cL_law 912 = .ok (.iconst 1, 1) := dcL_law_75.2.2.2.2.2.2.1
theorem dL_law_913 : decode cL_law 913 = .ok (.iadd, 1) := dcL_law_75.2.2.2.2.2.2.2
theorem dcL_law_76 : (decode cL_law 914 = .ok (.iaload, 1)) ∧ (decode cL_law 915 = .ok (.aload_n 0, 1)) ∧ (decode cL_law 916 = .ok (.iload_n 3, 1)) ∧ (decode cL_law 917 = .ok (.iconst 2, 1)) ∧ (decode cL_law 918 = .ok (.iadd, 1)) ∧ (decode cL_law 919 = .ok (.iaload, 1)) ∧ (decode cL_law 920 = .ok (.aload_n 0, 1)) ∧ (decode cL_law 921 = .ok (.iload_n 3, 1)) := by decide +kernel
theorem dL_law_914 : decode cL_law 914 = .ok (.iaload, 1) := dcL_law_76.1
theorem dL_law_915 : decode cL_law 915 = .ok (.aload_n 0, 1) := dcL_law_76.2.1
theorem dL_law_916 : decode cL_law 916 = .ok (.iload_n 3, 1) := dcL_law_76.2.2.1
theorem dL_law_917 : decode cL_law 917 = .ok (.iconst 2, 1) := dcL_law_76.2.2.2.1
theorem dL_law_918 : decode cL_law 918 = .ok (.iadd, 1) := dcL_law_76.2.2.2.2.1
theorem dL_law_919 : decode cL_law 919 = .ok (.iaload, 1) := dcL_law_76.2.2.2.2.2.1
theorem dL_law_920 : decode cL_law 920 = .ok (.aload_n 0, 1) := dcL_law_76.2.2.2.2.2.2.1
theorem dL_law_921 : decode cL_law 921 = .ok (.iload_n 3, 1) := dcL_law_76.2.2.2.2.2.2.2
theorem dcL_law_77 : (decode cL_law 922 = .ok (.iconst 3, 1)) ∧ (decode cL_law 923 = .ok (.iadd, 1)) ∧ (decode cL_law 924 = .ok (.iaload, 1)) ∧ (decode cL_law 925 = .ok (.invokevirtual 109, 3)) ∧ (decode cL_law 928 = .ok (.if_icmp .eq 525, 3)) ∧ (decode cL_law 931 = .ok (.iconst 0, 1)) ∧ (decode cL_law 932 = .ok (.ireturn, 1)) ∧ (decode cL_law 933 = .ok (.aload_n 1, 1)) := by decide +kernel
theorem dL_law_922 : decode cL_law 922 = .ok (.iconst 3, 1) := dcL_law_77.1
theorem dL_law_923 : decode cL_law 923 = .ok (.iadd, 1) := dcL_law_77.2.1
theorem dL_law_924 : decode cL_law 924 = .ok (.iaload, 1) := dcL_law_77.2.2.1
theorem dL_law_925 : decode cL_law 925 = .ok (.invokevirtual 109, 3) := dcL_law_77.2.2.2.1
theorem dL_law_928 : decode cL_law 928 = .ok (.if_icmp .eq 525, 3) := dcL_law_77.2.2.2.2.1
theorem dL_law_931 : decode cL_law 931 = .ok (.iconst 0, 1) := dcL_law_77.2.2.2.2.2.1
theorem dL_law_932 : decode cL_law 932 = .ok (.ireturn, 1) := dcL_law_77.2.2.2.2.2.2.1
theorem dL_law_933 : decode cL_law 933 = .ok (.aload_n 1, 1) := dcL_law_77.2.2.2.2.2.2.2
theorem dcL_law_78 : (decode cL_law 934 = .ok (.aload_n 0, 1)) ∧ (decode cL_law 935 = .ok (.iload_n 3, 1)) ∧ (decode cL_law 936 = .ok (.iconst 1, 1)) ∧ (decode cL_law 937 = .ok (.iadd, 1)) ∧ (decode cL_law 938 = .ok (.iaload, 1)) ∧ (decode cL_law 939 = .ok (.aload_n 0, 1)) ∧ (decode cL_law 940 = .ok (.iload_n 3, 1)) ∧ (decode cL_law 941 = .ok (.iconst 2, 1)) := by decide +kernel
theorem dL_law_934 : decode cL_law 934 = .ok (.aload_n 0, 1) := dcL_law_78.1
theorem dL_law_935 : decode cL_law 935 = .ok (.iload_n 3, 1) := dcL_law_78.2.1
theorem dL_law_936 : decode cL_law 936 = .ok (.iconst 1, 1) := dcL_law_78.2.2.1
theorem dL_law_937 : decode cL_law 937 = .ok (.iadd, 1) := dcL_law_78.2.2.2.1
theorem dL_law_938 : decode cL_law 938 = .ok (.iaload, 1) := dcL_law_78.2.2.2.2.1
theorem dL_law_939 : decode cL_law 939 = .ok (.aload_n 0, 1) := dcL_law_78.2.2.2.2.2.1
theorem dL_law_940 : decode cL_law 940 = .ok (.iload_n 3, 1) := dcL_law_78.2.2.2.2.2.2.1
theorem dL_law_941 : decode cL_law 941 = .ok (.iconst 2, 1) := dcL_law_78.2.2.2.2.2.2.2
theorem dcL_law_79 : (decode cL_law 942 = .ok (.iadd, 1)) ∧ (decode cL_law 943 = .ok (.iaload, 1)) ∧ (decode cL_law 944 = .ok (.aload_n 0, 1)) ∧ (decode cL_law 945 = .ok (.iload_n 3, 1)) ∧ (decode cL_law 946 = .ok (.iconst 3, 1)) ∧ (decode cL_law 947 = .ok (.iadd, 1)) ∧ (decode cL_law 948 = .ok (.iaload, 1)) ∧ (decode cL_law 949 = .ok (.invokevirtual 110, 3)) := by decide +kernel
theorem dL_law_942 : decode cL_law 942 = .ok (.iadd, 1) := dcL_law_79.1
theorem dL_law_943 : decode cL_law 943 = .ok (.iaload, 1) := dcL_law_79.2.1
theorem dL_law_944 : decode cL_law 944 = .ok (.aload_n 0, 1) := dcL_law_79.2.2.1
theorem dL_law_945 : decode cL_law 945 = .ok (.iload_n 3, 1) := dcL_law_79.2.2.2.1
theorem dL_law_946 : decode cL_law 946 = .ok (.iconst 3, 1) := dcL_law_79.2.2.2.2.1
theorem dL_law_947 : decode cL_law 947 = .ok (.iadd, 1) := dcL_law_79.2.2.2.2.2.1
theorem dL_law_948 : decode cL_law 948 = .ok (.iaload, 1) := dcL_law_79.2.2.2.2.2.2.1
theorem dL_law_949 : decode cL_law 949 = .ok (.invokevirtual 110, 3) := dcL_law_79.2.2.2.2.2.2.2
theorem dcL_law_80 : (decode cL_law 952 = .ok (.aload_n 2, 1)) ∧ (decode cL_law 953 = .ok (.aload_n 0, 1)) ∧ (decode cL_law 954 = .ok (.iload_n 3, 1)) ∧ (decode cL_law 955 = .ok (.iconst 1, 1)) ∧ (decode cL_law 956 = .ok (.iadd, 1)) ∧ (decode cL_law 957 = .ok (.iaload, 1)) ∧ (decode cL_law 958 = .ok (.aload_n 0, 1)) ∧ (decode cL_law 959 = .ok (.iload_n 3, 1)) := by decide +kernel
theorem dL_law_952 : decode cL_law 952 = .ok (.aload_n 2, 1) := dcL_law_80.1
theorem dL_law_953 : decode cL_law 953 = .ok (.aload_n 0, 1) := dcL_law_80.2.1
theorem dL_law_954 : decode cL_law 954 = .ok (.iload_n 3, 1) := dcL_law_80.2.2.1
theorem dL_law_955 : decode cL_law 955 = .ok (.iconst 1, 1) := dcL_law_80.2.2.2.1
theorem dL_law_956 : decode cL_law 956 = .ok (.iadd, 1) := dcL_law_80.2.2.2.2.1
theorem dL_law_957 : decode cL_law 957 = .ok (.iaload, 1) := dcL_law_80.2.2.2.2.2.1
theorem dL_law_958 : decode cL_law 958 = .ok (.aload_n 0, 1) := dcL_law_80.2.2.2.2.2.2.1
theorem dL_law_959 : decode cL_law 959 = .ok (.iload_n 3, 1) := dcL_law_80.2.2.2.2.2.2.2
theorem dcL_law_81 : (decode cL_law 960 = .ok (.iconst 2, 1)) ∧ (decode cL_law 961 = .ok (.iadd, 1)) ∧ (decode cL_law 962 = .ok (.iaload, 1)) ∧ (decode cL_law 963 = .ok (.aload_n 0, 1)) ∧ (decode cL_law 964 = .ok (.iload_n 3, 1)) ∧ (decode cL_law 965 = .ok (.iconst 3, 1)) ∧ (decode cL_law 966 = .ok (.iadd, 1)) ∧ (decode cL_law 967 = .ok (.iaload, 1)) := by decide +kernel
theorem dL_law_960 : decode cL_law 960 = .ok (.iconst 2, 1) := dcL_law_81.1
theorem dL_law_961 : decode cL_law 961 = .ok (.iadd, 1) := dcL_law_81.2.1
theorem dL_law_962 : decode cL_law 962 = .ok (.iaload, 1) := dcL_law_81.2.2.1
theorem dL_law_963 : decode cL_law 963 = .ok (.aload_n 0, 1) := dcL_law_81.2.2.2.1
theorem dL_law_964 : decode cL_law 964 = .ok (.iload_n 3, 1) := dcL_law_81.2.2.2.2.1
theorem dL_law_965 : decode cL_law 965 = .ok (.iconst 3, 1) := dcL_law_81.2.2.2.2.2.1
theorem dL_law_966 : decode cL_law 966 = .ok (.iadd, 1) := dcL_law_81.2.2.2.2.2.2.1
theorem dL_law_967 : decode cL_law 967 = .ok (.iaload, 1) := dcL_law_81.2.2.2.2.2.2.2
theorem dcL_law_82 : (decode cL_law 968 = .ok (.invokevirtual 113, 3)) ∧ (decode cL_law 971 = .ok (.if_icmp .eq 482, 3)) ∧ (decode cL_law 974 = .ok (.iconst 0, 1)) ∧ (decode cL_law 975 = .ok (.ireturn, 1)) ∧ (decode cL_law 976 = .ok (.aload_n 1, 1)) ∧ (decode cL_law 977 = .ok (.aload_n 0, 1)) ∧ (decode cL_law 978 = .ok (.iload_n 3, 1)) ∧ (decode cL_law 979 = .ok (.iconst 1, 1)) := by decide +kernel
theorem dL_law_968 : decode cL_law 968 = .ok (.invokevirtual 113, 3) := dcL_law_82.1
theorem dL_law_971 : decode cL_law 971 = .ok (.if_icmp .eq 482, 3) := dcL_law_82.2.1
theorem dL_law_974 : decode cL_law 974 = .ok (.iconst 0, 1) := dcL_law_82.2.2.1
theorem dL_law_975 : decode cL_law 975 = .ok (.ireturn, 1) := dcL_law_82.2.2.2.1
theorem dL_law_976 : decode cL_law 976 = .ok (.aload_n 1, 1) := dcL_law_82.2.2.2.2.1
theorem dL_law_977 : decode cL_law 977 = .ok (.aload_n 0, 1) := dcL_law_82.2.2.2.2.2.1
theorem dL_law_978 : decode cL_law 978 = .ok (.iload_n 3, 1) := dcL_law_82.2.2.2.2.2.2.1
theorem dL_law_979 : decode cL_law 979 = .ok (.iconst 1, 1) := dcL_law_82.2.2.2.2.2.2.2
theorem dcL_law_83 : (decode cL_law 980 = .ok (.iadd, 1)) ∧ (decode cL_law 981 = .ok (.iaload, 1)) ∧ (decode cL_law 982 = .ok (.aload_n 0, 1)) ∧ (decode cL_law 983 = .ok (.iload_n 3, 1)) ∧ (decode cL_law 984 = .ok (.iconst 2, 1)) ∧ (decode cL_law 985 = .ok (.iadd, 1)) ∧ (decode cL_law 986 = .ok (.iaload, 1)) ∧ (decode cL_law 987 = .ok (.invokevirtual 114, 3)) := by decide +kernel
theorem dL_law_980 : decode cL_law 980 = .ok (.iadd, 1) := dcL_law_83.1
theorem dL_law_981 : decode cL_law 981 = .ok (.iaload, 1) := dcL_law_83.2.1
theorem dL_law_982 : decode cL_law 982 = .ok (.aload_n 0, 1) := dcL_law_83.2.2.1
theorem dL_law_983 : decode cL_law 983 = .ok (.iload_n 3, 1) := dcL_law_83.2.2.2.1
theorem dL_law_984 : decode cL_law 984 = .ok (.iconst 2, 1) := dcL_law_83.2.2.2.2.1
theorem dL_law_985 : decode cL_law 985 = .ok (.iadd, 1) := dcL_law_83.2.2.2.2.2.1
theorem dL_law_986 : decode cL_law 986 = .ok (.iaload, 1) := dcL_law_83.2.2.2.2.2.2.1
theorem dL_law_987 : decode cL_law 987 = .ok (.invokevirtual 114, 3) := dcL_law_83.2.2.2.2.2.2.2
theorem dcL_law_84 : (decode cL_law 990 = .ok (.aload_n 2, 1)) ∧ (decode cL_law 991 = .ok (.aload_n 0, 1)) ∧ (decode cL_law 992 = .ok (.iload_n 3, 1)) ∧ (decode cL_law 993 = .ok (.iconst 1, 1)) ∧ (decode cL_law 994 = .ok (.iadd, 1)) ∧ (decode cL_law 995 = .ok (.iaload, 1)) ∧ (decode cL_law 996 = .ok (.aload_n 0, 1)) ∧ (decode cL_law 997 = .ok (.iload_n 3, 1)) := by decide +kernel
theorem dL_law_990 : decode cL_law 990 = .ok (.aload_n 2, 1) := dcL_law_84.1
theorem dL_law_991 : decode cL_law 991 = .ok (.aload_n 0, 1) := dcL_law_84.2.1
theorem dL_law_992 : decode cL_law 992 = .ok (.iload_n 3, 1) := dcL_law_84.2.2.1
theorem dL_law_993 : decode cL_law 993 = .ok (.iconst 1, 1) := dcL_law_84.2.2.2.1
theorem dL_law_994 : decode cL_law 994 = .ok (.iadd, 1) := dcL_law_84.2.2.2.2.1
theorem dL_law_995 : decode cL_law 995 = .ok (.iaload, 1) := dcL_law_84.2.2.2.2.2.1
theorem dL_law_996 : decode cL_law 996 = .ok (.aload_n 0, 1) := dcL_law_84.2.2.2.2.2.2.1
theorem dL_law_997 : decode cL_law 997 = .ok (.iload_n 3, 1) := dcL_law_84.2.2.2.2.2.2.2
theorem dcL_law_85 : (decode cL_law 998 = .ok (.iconst 2, 1)) ∧ (decode cL_law 999 = .ok (.iadd, 1)) ∧ (decode cL_law 1000 = .ok (.iaload, 1)) ∧ (decode cL_law 1001 = .ok (.invokevirtual 117, 3)) ∧ (decode cL_law 1004 = .ok (.if_icmp .eq 449, 3)) ∧ (decode cL_law 1007 = .ok (.iconst 0, 1)) ∧ (decode cL_law 1008 = .ok (.ireturn, 1)) ∧ (decode cL_law 1009 = .ok (.aload_n 1, 1)) := by decide +kernel
theorem dL_law_998 : decode cL_law 998 = .ok (.iconst 2, 1) := dcL_law_85.1
theorem dL_law_999 : decode cL_law 999 = .ok (.iadd, 1) := dcL_law_85.2.1
theorem dL_law_1000 : decode cL_law 1000 = .ok (.iaload, 1) := dcL_law_85.2.2.1
theorem dL_law_1001 : decode cL_law 1001 = .ok (.invokevirtual 117, 3) := dcL_law_85.2.2.2.1
theorem dL_law_1004 : decode cL_law 1004 = .ok (.if_icmp .eq 449, 3) := dcL_law_85.2.2.2.2.1
theorem dL_law_1007 : decode cL_law 1007 = .ok (.iconst 0, 1) := dcL_law_85.2.2.2.2.2.1
theorem dL_law_1008 : decode cL_law 1008 = .ok (.ireturn, 1) := dcL_law_85.2.2.2.2.2.2.1
theorem dL_law_1009 : decode cL_law 1009 = .ok (.aload_n 1, 1) := dcL_law_85.2.2.2.2.2.2.2
theorem dcL_law_86 : (decode cL_law 1010 = .ok (.aload_n 0, 1)) ∧ (decode cL_law 1011 = .ok (.iload_n 3, 1)) ∧ (decode cL_law 1012 = .ok (.iconst 1, 1)) ∧ (decode cL_law 1013 = .ok (.iadd, 1)) ∧ (decode cL_law 1014 = .ok (.iaload, 1)) ∧ (decode cL_law 1015 = .ok (.aload_n 0, 1)) ∧ (decode cL_law 1016 = .ok (.iload_n 3, 1)) ∧ (decode cL_law 1017 = .ok (.iconst 2, 1)) := by decide +kernel
theorem dL_law_1010 : decode cL_law 1010 = .ok (.aload_n 0, 1) := dcL_law_86.1
theorem dL_law_1011 : decode cL_law 1011 = .ok (.iload_n 3, 1) := dcL_law_86.2.1
theorem dL_law_1012 : decode cL_law 1012 = .ok (.iconst 1, 1) := dcL_law_86.2.2.1
theorem dL_law_1013 : decode cL_law 1013 = .ok (.iadd, 1) := dcL_law_86.2.2.2.1
theorem dL_law_1014 : decode cL_law 1014 = .ok (.iaload, 1) := dcL_law_86.2.2.2.2.1
theorem dL_law_1015 : decode cL_law 1015 = .ok (.aload_n 0, 1) := dcL_law_86.2.2.2.2.2.1
theorem dL_law_1016 : decode cL_law 1016 = .ok (.iload_n 3, 1) := dcL_law_86.2.2.2.2.2.2.1
theorem dL_law_1017 : decode cL_law 1017 = .ok (.iconst 2, 1) := dcL_law_86.2.2.2.2.2.2.2
theorem dcL_law_87 : (decode cL_law 1018 = .ok (.iadd, 1)) ∧ (decode cL_law 1019 = .ok (.iaload, 1)) ∧ (decode cL_law 1020 = .ok (.aload_n 0, 1)) ∧ (decode cL_law 1021 = .ok (.iload_n 3, 1)) ∧ (decode cL_law 1022 = .ok (.iconst 3, 1)) ∧ (decode cL_law 1023 = .ok (.iadd, 1)) ∧ (decode cL_law 1024 = .ok (.iaload, 1)) ∧ (decode cL_law 1025 = .ok (.invokevirtual 118, 3)) := by decide +kernel
theorem dL_law_1018 : decode cL_law 1018 = .ok (.iadd, 1) := dcL_law_87.1
theorem dL_law_1019 : decode cL_law 1019 = .ok (.iaload, 1) := dcL_law_87.2.1
theorem dL_law_1020 : decode cL_law 1020 = .ok (.aload_n 0, 1) := dcL_law_87.2.2.1
theorem dL_law_1021 : decode cL_law 1021 = .ok (.iload_n 3, 1) := dcL_law_87.2.2.2.1
theorem dL_law_1022 : decode cL_law 1022 = .ok (.iconst 3, 1) := dcL_law_87.2.2.2.2.1
theorem dL_law_1023 : decode cL_law 1023 = .ok (.iadd, 1) := dcL_law_87.2.2.2.2.2.1
theorem dL_law_1024 : decode cL_law 1024 = .ok (.iaload, 1) := dcL_law_87.2.2.2.2.2.2.1
theorem dL_law_1025 : decode cL_law 1025 = .ok (.invokevirtual 118, 3) := dcL_law_87.2.2.2.2.2.2.2
theorem dcL_law_88 : (decode cL_law 1028 = .ok (.aload_n 2, 1)) ∧ (decode cL_law 1029 = .ok (.aload_n 0, 1)) ∧ (decode cL_law 1030 = .ok (.iload_n 3, 1)) ∧ (decode cL_law 1031 = .ok (.iconst 1, 1)) ∧ (decode cL_law 1032 = .ok (.iadd, 1)) ∧ (decode cL_law 1033 = .ok (.iaload, 1)) ∧ (decode cL_law 1034 = .ok (.aload_n 0, 1)) ∧ (decode cL_law 1035 = .ok (.iload_n 3, 1)) := by decide +kernel
theorem dL_law_1028 : decode cL_law 1028 = .ok (.aload_n 2, 1) := dcL_law_88.1
theorem dL_law_1029 : decode cL_law 1029 = .ok (.aload_n 0, 1) := dcL_law_88.2.1
theorem dL_law_1030 : decode cL_law 1030 = .ok (.iload_n 3, 1) := dcL_law_88.2.2.1
theorem dL_law_1031 : decode cL_law 1031 = .ok (.iconst 1, 1) := dcL_law_88.2.2.2.1
theorem dL_law_1032 : decode cL_law 1032 = .ok (.iadd, 1) := dcL_law_88.2.2.2.2.1
theorem dL_law_1033 : decode cL_law 1033 = .ok (.iaload, 1) := dcL_law_88.2.2.2.2.2.1
theorem dL_law_1034 : decode cL_law 1034 = .ok (.aload_n 0, 1) := dcL_law_88.2.2.2.2.2.2.1
theorem dL_law_1035 : decode cL_law 1035 = .ok (.iload_n 3, 1) := dcL_law_88.2.2.2.2.2.2.2
theorem dcL_law_89 : (decode cL_law 1036 = .ok (.iconst 2, 1)) ∧ (decode cL_law 1037 = .ok (.iadd, 1)) ∧ (decode cL_law 1038 = .ok (.iaload, 1)) ∧ (decode cL_law 1039 = .ok (.aload_n 0, 1)) ∧ (decode cL_law 1040 = .ok (.iload_n 3, 1)) ∧ (decode cL_law 1041 = .ok (.iconst 3, 1)) ∧ (decode cL_law 1042 = .ok (.iadd, 1)) ∧ (decode cL_law 1043 = .ok (.iaload, 1)) := by decide +kernel
theorem dL_law_1036 : decode cL_law 1036 = .ok (.iconst 2, 1) := dcL_law_89.1
theorem dL_law_1037 : decode cL_law 1037 = .ok (.iadd, 1) := dcL_law_89.2.1
theorem dL_law_1038 : decode cL_law 1038 = .ok (.iaload, 1) := dcL_law_89.2.2.1
theorem dL_law_1039 : decode cL_law 1039 = .ok (.aload_n 0, 1) := dcL_law_89.2.2.2.1
theorem dL_law_1040 : decode cL_law 1040 = .ok (.iload_n 3, 1) := dcL_law_89.2.2.2.2.1
theorem dL_law_1041 : decode cL_law 1041 = .ok (.iconst 3, 1) := dcL_law_89.2.2.2.2.2.1
theorem dL_law_1042 : decode cL_law 1042 = .ok (.iadd, 1) := dcL_law_89.2.2.2.2.2.2.1
theorem dL_law_1043 : decode cL_law 1043 = .ok (.iaload, 1) := dcL_law_89.2.2.2.2.2.2.2
theorem dcL_law_90 : (decode cL_law 1044 = .ok (.invokevirtual 121, 3)) ∧ (decode cL_law 1047 = .ok (.if_icmp .eq 406, 3)) ∧ (decode cL_law 1050 = .ok (.iconst 0, 1)) ∧ (decode cL_law 1051 = .ok (.ireturn, 1)) ∧ (decode cL_law 1052 = .ok (.aload_n 1, 1)) ∧ (decode cL_law 1053 = .ok (.aload_n 0, 1)) ∧ (decode cL_law 1054 = .ok (.iload_n 3, 1)) ∧ (decode cL_law 1055 = .ok (.iconst 1, 1)) := by decide +kernel
theorem dL_law_1044 : decode cL_law 1044 = .ok (.invokevirtual 121, 3) := dcL_law_90.1
theorem dL_law_1047 : decode cL_law 1047 = .ok (.if_icmp .eq 406, 3) := dcL_law_90.2.1
theorem dL_law_1050 : decode cL_law 1050 = .ok (.iconst 0, 1) := dcL_law_90.2.2.1
theorem dL_law_1051 : decode cL_law 1051 = .ok (.ireturn, 1) := dcL_law_90.2.2.2.1
theorem dL_law_1052 : decode cL_law 1052 = .ok (.aload_n 1, 1) := dcL_law_90.2.2.2.2.1
theorem dL_law_1053 : decode cL_law 1053 = .ok (.aload_n 0, 1) := dcL_law_90.2.2.2.2.2.1
theorem dL_law_1054 : decode cL_law 1054 = .ok (.iload_n 3, 1) := dcL_law_90.2.2.2.2.2.2.1
theorem dL_law_1055 : decode cL_law 1055 = .ok (.iconst 1, 1) := dcL_law_90.2.2.2.2.2.2.2
theorem dcL_law_91 : (decode cL_law 1056 = .ok (.iadd, 1)) ∧ (decode cL_law 1057 = .ok (.iaload, 1)) ∧ (decode cL_law 1058 = .ok (.aload_n 0, 1)) ∧ (decode cL_law 1059 = .ok (.iload_n 3, 1)) ∧ (decode cL_law 1060 = .ok (.iconst 2, 1)) ∧ (decode cL_law 1061 = .ok (.iadd, 1)) ∧ (decode cL_law 1062 = .ok (.iaload, 1)) ∧ (decode cL_law 1063 = .ok (.aload_n 0, 1)) := by decide +kernel
theorem dL_law_1056 : decode cL_law 1056 = .ok (.iadd, 1) := dcL_law_91.1
theorem dL_law_1057 : decode cL_law 1057 = .ok (.iaload, 1) := dcL_law_91.2.1
theorem dL_law_1058 : decode cL_law 1058 = .ok (.aload_n 0, 1) := dcL_law_91.2.2.1
theorem dL_law_1059 : decode cL_law 1059 = .ok (.iload_n 3, 1) := dcL_law_91.2.2.2.1
theorem dL_law_1060 : decode cL_law 1060 = .ok (.iconst 2, 1) := dcL_law_91.2.2.2.2.1
theorem dL_law_1061 : decode cL_law 1061 = .ok (.iadd, 1) := dcL_law_91.2.2.2.2.2.1
theorem dL_law_1062 : decode cL_law 1062 = .ok (.iaload, 1) := dcL_law_91.2.2.2.2.2.2.1
theorem dL_law_1063 : decode cL_law 1063 = .ok (.aload_n 0, 1) := dcL_law_91.2.2.2.2.2.2.2
theorem dcL_law_92 : (decode cL_law 1064 = .ok (.iload_n 3, 1)) ∧ (decode cL_law 1065 = .ok (.iconst 3, 1)) ∧ (decode cL_law 1066 = .ok (.iadd, 1)) ∧ (decode cL_law 1067 = .ok (.iaload, 1)) ∧ (decode cL_law 1068 = .ok (.invokevirtual 122, 3)) ∧ (decode cL_law 1071 = .ok (.aload_n 2, 1)) ∧ (decode cL_law 1072 = .ok (.aload_n 0, 1)) ∧ (decode cL_law 1073 = .ok (.iload_n 3, 1)) := by decide +kernel
theorem dL_law_1064 : decode cL_law 1064 = .ok (.iload_n 3, 1) := dcL_law_92.1
theorem dL_law_1065 : decode cL_law 1065 = .ok (.iconst 3, 1) := dcL_law_92.2.1
theorem dL_law_1066 : decode cL_law 1066 = .ok (.iadd, 1) := dcL_law_92.2.2.1
theorem dL_law_1067 : decode cL_law 1067 = .ok (.iaload, 1) := dcL_law_92.2.2.2.1
theorem dL_law_1068 : decode cL_law 1068 = .ok (.invokevirtual 122, 3) := dcL_law_92.2.2.2.2.1
theorem dL_law_1071 : decode cL_law 1071 = .ok (.aload_n 2, 1) := dcL_law_92.2.2.2.2.2.1
theorem dL_law_1072 : decode cL_law 1072 = .ok (.aload_n 0, 1) := dcL_law_92.2.2.2.2.2.2.1
theorem dL_law_1073 : decode cL_law 1073 = .ok (.iload_n 3, 1) := dcL_law_92.2.2.2.2.2.2.2
theorem dcL_law_93 : (decode cL_law 1074 = .ok (.iconst 1, 1)) ∧ (decode cL_law 1075 = .ok (.iadd, 1)) ∧ (decode cL_law 1076 = .ok (.iaload, 1)) ∧ (decode cL_law 1077 = .ok (.aload_n 0, 1)) ∧ (decode cL_law 1078 = .ok (.iload_n 3, 1)) ∧ (decode cL_law 1079 = .ok (.iconst 2, 1)) ∧ (decode cL_law 1080 = .ok (.iadd, 1)) ∧ (decode cL_law 1081 = .ok (.iaload, 1)) := by decide +kernel
theorem dL_law_1074 : decode cL_law 1074 = .ok (.iconst 1, 1) := dcL_law_93.1
theorem dL_law_1075 : decode cL_law 1075 = .ok (.iadd, 1) := dcL_law_93.2.1
theorem dL_law_1076 : decode cL_law 1076 = .ok (.iaload, 1) := dcL_law_93.2.2.1
theorem dL_law_1077 : decode cL_law 1077 = .ok (.aload_n 0, 1) := dcL_law_93.2.2.2.1
theorem dL_law_1078 : decode cL_law 1078 = .ok (.iload_n 3, 1) := dcL_law_93.2.2.2.2.1
theorem dL_law_1079 : decode cL_law 1079 = .ok (.iconst 2, 1) := dcL_law_93.2.2.2.2.2.1
theorem dL_law_1080 : decode cL_law 1080 = .ok (.iadd, 1) := dcL_law_93.2.2.2.2.2.2.1
theorem dL_law_1081 : decode cL_law 1081 = .ok (.iaload, 1) := dcL_law_93.2.2.2.2.2.2.2
theorem dcL_law_94 : (decode cL_law 1082 = .ok (.aload_n 0, 1)) ∧ (decode cL_law 1083 = .ok (.iload_n 3, 1)) ∧ (decode cL_law 1084 = .ok (.iconst 3, 1)) ∧ (decode cL_law 1085 = .ok (.iadd, 1)) ∧ (decode cL_law 1086 = .ok (.iaload, 1)) ∧ (decode cL_law 1087 = .ok (.invokevirtual 125, 3)) ∧ (decode cL_law 1090 = .ok (.if_icmp .eq 363, 3)) ∧ (decode cL_law 1093 = .ok (.iconst 0, 1)) := by decide +kernel
theorem dL_law_1082 : decode cL_law 1082 = .ok (.aload_n 0, 1) := dcL_law_94.1
theorem dL_law_1083 : decode cL_law 1083 = .ok (.iload_n 3, 1) := dcL_law_94.2.1
theorem dL_law_1084 : decode cL_law 1084 = .ok (.iconst 3, 1) := dcL_law_94.2.2.1
theorem dL_law_1085 : decode cL_law 1085 = .ok (.iadd, 1) := dcL_law_94.2.2.2.1
theorem dL_law_1086 : decode cL_law 1086 = .ok (.iaload, 1) := dcL_law_94.2.2.2.2.1
theorem dL_law_1087 : decode cL_law 1087 = .ok (.invokevirtual 125, 3) := dcL_law_94.2.2.2.2.2.1
theorem dL_law_1090 : decode cL_law 1090 = .ok (.if_icmp .eq 363, 3) := dcL_law_94.2.2.2.2.2.2.1
theorem dL_law_1093 : decode cL_law 1093 = .ok (.iconst 0, 1) := dcL_law_94.2.2.2.2.2.2.2
theorem dcL_law_95 : (decode cL_law 1094 = .ok (.ireturn, 1)) ∧ (decode cL_law 1095 = .ok (.aload_n 1, 1)) ∧ (decode cL_law 1096 = .ok (.aload_n 0, 1)) ∧ (decode cL_law 1097 = .ok (.iload_n 3, 1)) ∧ (decode cL_law 1098 = .ok (.iconst 1, 1)) ∧ (decode cL_law 1099 = .ok (.iadd, 1)) ∧ (decode cL_law 1100 = .ok (.iaload, 1)) ∧ (decode cL_law 1101 = .ok (.aload_n 0, 1)) := by decide +kernel
theorem dL_law_1094 : decode cL_law 1094 = .ok (.ireturn, 1) := dcL_law_95.1
theorem dL_law_1095 : decode cL_law 1095 = .ok (.aload_n 1, 1) := dcL_law_95.2.1
theorem dL_law_1096 : decode cL_law 1096 = .ok (.aload_n 0, 1) := dcL_law_95.2.2.1
theorem dL_law_1097 : decode cL_law 1097 = .ok (.iload_n 3, 1) := dcL_law_95.2.2.2.1
theorem dL_law_1098 : decode cL_law 1098 = .ok (.iconst 1, 1) := dcL_law_95.2.2.2.2.1
theorem dL_law_1099 : decode cL_law 1099 = .ok (.iadd, 1) := dcL_law_95.2.2.2.2.2.1
theorem dL_law_1100 : decode cL_law 1100 = .ok (.iaload, 1) := dcL_law_95.2.2.2.2.2.2.1
theorem dL_law_1101 : decode cL_law 1101 = .ok (.aload_n 0, 1) := dcL_law_95.2.2.2.2.2.2.2
theorem dcL_law_96 : (decode cL_law 1102 = .ok (.iload_n 3, 1)) ∧ (decode cL_law 1103 = .ok (.iconst 2, 1)) ∧ (decode cL_law 1104 = .ok (.iadd, 1)) ∧ (decode cL_law 1105 = .ok (.iaload, 1)) ∧ (decode cL_law 1106 = .ok (.invokevirtual 126, 3)) ∧ (decode cL_law 1109 = .ok (.aload_n 2, 1)) ∧ (decode cL_law 1110 = .ok (.aload_n 0, 1)) ∧ (decode cL_law 1111 = .ok (.iload_n 3, 1)) := by decide +kernel
theorem dL_law_1102 : decode cL_law 1102 = .ok (.iload_n 3, 1) := dcL_law_96.1
theorem dL_law_1103 : decode cL_law 1103 = .ok (.iconst 2, 1) := dcL_law_96.2.1
theorem dL_law_1104 : decode cL_law 1104 = .ok (.iadd, 1) := dcL_law_96.2.2.1
theorem dL_law_1105 : decode cL_law 1105 = .ok (.iaload, 1) := dcL_law_96.2.2.2.1
theorem dL_law_1106 : decode cL_law 1106 = .ok (.invokevirtual 126, 3) := dcL_law_96.2.2.2.2.1
theorem dL_law_1109 : decode cL_law 1109 = .ok (.aload_n 2, 1) := dcL_law_96.2.2.2.2.2.1
theorem dL_law_1110 : decode cL_law 1110 = .ok (.aload_n 0, 1) := dcL_law_96.2.2.2.2.2.2.1
theorem dL_law_1111 : decode cL_law 1111 = .ok (.iload_n 3, 1) := dcL_law_96.2.2.2.2.2.2.2
theorem dcL_law_97 : (decode cL_law 1112 = .ok (.iconst 1, 1)) ∧ (decode cL_law 1113 = .ok (.iadd, 1)) ∧ (decode cL_law 1114 = .ok (.iaload, 1)) ∧ (decode cL_law 1115 = .ok (.aload_n 0, 1)) ∧ (decode cL_law 1116 = .ok (.iload_n 3, 1)) ∧ (decode cL_law 1117 = .ok (.iconst 2, 1)) ∧ (decode cL_law 1118 = .ok (.iadd, 1)) ∧ (decode cL_law 1119 = .ok (.iaload, 1)) := by decide +kernel
theorem dL_law_1112 : decode cL_law 1112 = .ok (.iconst 1, 1) := dcL_law_97.1
theorem dL_law_1113 : decode cL_law 1113 = .ok (.iadd, 1) := dcL_law_97.2.1
theorem dL_law_1114 : decode cL_law 1114 = .ok (.iaload, 1) := dcL_law_97.2.2.1
theorem dL_law_1115 : decode cL_law 1115 = .ok (.aload_n 0, 1) := dcL_law_97.2.2.2.1
theorem dL_law_1116 : decode cL_law 1116 = .ok (.iload_n 3, 1) := dcL_law_97.2.2.2.2.1
theorem dL_law_1117 : decode cL_law 1117 = .ok (.iconst 2, 1) := dcL_law_97.2.2.2.2.2.1
theorem dL_law_1118 : decode cL_law 1118 = .ok (.iadd, 1) := dcL_law_97.2.2.2.2.2.2.1
theorem dL_law_1119 : decode cL_law 1119 = .ok (.iaload, 1) := dcL_law_97.2.2.2.2.2.2.2
theorem dcL_law_98 : (decode cL_law 1120 = .ok (.invokevirtual 129, 3)) ∧ (decode cL_law 1123 = .ok (.if_icmp .eq 330, 3)) ∧ (decode cL_law 1126 = .ok (.iconst 0, 1)) ∧ (decode cL_law 1127 = .ok (.ireturn, 1)) ∧ (decode cL_law 1128 = .ok (.aload_n 1, 1)) ∧ (decode cL_law 1129 = .ok (.aload_n 0, 1)) ∧ (decode cL_law 1130 = .ok (.iload_n 3, 1)) ∧ (decode cL_law 1131 = .ok (.iconst 1, 1)) := by decide +kernel
theorem dL_law_1120 : decode cL_law 1120 = .ok (.invokevirtual 129, 3) := dcL_law_98.1
theorem dL_law_1123 : decode cL_law 1123 = .ok (.if_icmp .eq 330, 3) := dcL_law_98.2.1
theorem dL_law_1126 : decode cL_law 1126 = .ok (.iconst 0, 1) := dcL_law_98.2.2.1
theorem dL_law_1127 : decode cL_law 1127 = .ok (.ireturn, 1) := dcL_law_98.2.2.2.1
theorem dL_law_1128 : decode cL_law 1128 = .ok (.aload_n 1, 1) := dcL_law_98.2.2.2.2.1
theorem dL_law_1129 : decode cL_law 1129 = .ok (.aload_n 0, 1) := dcL_law_98.2.2.2.2.2.1
theorem dL_law_1130 : decode cL_law 1130 = .ok (.iload_n 3, 1) := dcL_law_98.2.2.2.2.2.2.1
theorem dL_law_1131 : decode cL_law 1131 = .ok (.iconst 1, 1) := dcL_law_98.2.2.2.2.2.2.2
theorem dcL_law_99 : (decode cL_law 1132 = .ok (.iadd, 1)) ∧ (decode cL_law 1133 = .ok (.iaload, 1)) ∧ (decode cL_law 1134 = .ok (.aload_n 0, 1)) ∧ (decode cL_law 1135 = .ok (.iload_n 3, 1)) ∧ (decode cL_law 1136 = .ok (.iconst 2, 1)) ∧ (decode cL_law 1137 = .ok (.iadd, 1)) ∧ (decode cL_law 1138 = .ok (.iaload, 1)) ∧ (decode cL_law 1139 = .ok (.aload_n 0, 1)) := by decide +kernel
theorem dL_law_1132 : decode cL_law 1132 = .ok (.iadd, 1) := dcL_law_99.1
theorem dL_law_1133 : decode cL_law 1133 = .ok (.iaload, 1) := dcL_law_99.2.1
theorem dL_law_1134 : decode cL_law 1134 = .ok (.aload_n 0, 1) := dcL_law_99.2.2.1
theorem dL_law_1135 : decode cL_law 1135 = .ok (.iload_n 3, 1) := dcL_law_99.2.2.2.1
theorem dL_law_1136 : decode cL_law 1136 = .ok (.iconst 2, 1) := dcL_law_99.2.2.2.2.1
theorem dL_law_1137 : decode cL_law 1137 = .ok (.iadd, 1) := dcL_law_99.2.2.2.2.2.1
theorem dL_law_1138 : decode cL_law 1138 = .ok (.iaload, 1) := dcL_law_99.2.2.2.2.2.2.1
theorem dL_law_1139 : decode cL_law 1139 = .ok (.aload_n 0, 1) := dcL_law_99.2.2.2.2.2.2.2
theorem dcL_law_100 : (decode cL_law 1140 = .ok (.iload_n 3, 1)) ∧ (decode cL_law 1141 = .ok (.iconst 3, 1)) ∧ (decode cL_law 1142 = .ok (.iadd, 1)) ∧ (decode cL_law 1143 = .ok (.iaload, 1)) ∧ (decode cL_law 1144 = .ok (.aload_n 0, 1)) ∧ (decode cL_law 1145 = .ok (.iload_n 3, 1)) ∧ (decode cL_law 1146 = .ok (.iconst 4, 1)) ∧ (decode cL_law 1147 = .ok (.iadd, 1)) := by decide +kernel
theorem dL_law_1140 : decode cL_law 1140 = .ok (.iload_n 3, 1) := dcL_law_100.1
theorem dL_law_1141 : decode cL_law 1141 = .ok (.iconst 3, 1) := dcL_law_100.2.1
theorem dL_law_1142 : decode cL_law 1142 = .ok (.iadd, 1) := dcL_law_100.2.2.1
theorem dL_law_1143 : decode cL_law 1143 = .ok (.iaload, 1) := dcL_law_100.2.2.2.1
theorem dL_law_1144 : decode cL_law 1144 = .ok (.aload_n 0, 1) := dcL_law_100.2.2.2.2.1
theorem dL_law_1145 : decode cL_law 1145 = .ok (.iload_n 3, 1) := dcL_law_100.2.2.2.2.2.1
theorem dL_law_1146 : decode cL_law 1146 = .ok (.iconst 4, 1) := dcL_law_100.2.2.2.2.2.2.1
theorem dL_law_1147 : decode cL_law 1147 = .ok (.iadd, 1) := dcL_law_100.2.2.2.2.2.2.2
theorem dcL_law_101 : (decode cL_law 1148 = .ok (.iaload, 1)) ∧ (decode cL_law 1149 = .ok (.aload_n 0, 1)) ∧ (decode cL_law 1150 = .ok (.iload_n 3, 1)) ∧ (decode cL_law 1151 = .ok (.iconst 5, 1)) ∧ (decode cL_law 1152 = .ok (.iadd, 1)) ∧ (decode cL_law 1153 = .ok (.iaload, 1)) ∧ (decode cL_law 1154 = .ok (.invokevirtual 130, 3)) ∧ (decode cL_law 1157 = .ok (.aload_n 2, 1)) := by decide +kernel
theorem dL_law_1148 : decode cL_law 1148 = .ok (.iaload, 1) := dcL_law_101.1
theorem dL_law_1149 : decode cL_law 1149 = .ok (.aload_n 0, 1) := dcL_law_101.2.1
theorem dL_law_1150 : decode cL_law 1150 = .ok (.iload_n 3, 1) := dcL_law_101.2.2.1
theorem dL_law_1151 : decode cL_law 1151 = .ok (.iconst 5, 1) := dcL_law_101.2.2.2.1
theorem dL_law_1152 : decode cL_law 1152 = .ok (.iadd, 1) := dcL_law_101.2.2.2.2.1
theorem dL_law_1153 : decode cL_law 1153 = .ok (.iaload, 1) := dcL_law_101.2.2.2.2.2.1
theorem dL_law_1154 : decode cL_law 1154 = .ok (.invokevirtual 130, 3) := dcL_law_101.2.2.2.2.2.2.1
theorem dL_law_1157 : decode cL_law 1157 = .ok (.aload_n 2, 1) := dcL_law_101.2.2.2.2.2.2.2
theorem dcL_law_102 : (decode cL_law 1158 = .ok (.aload_n 0, 1)) ∧ (decode cL_law 1159 = .ok (.iload_n 3, 1)) ∧ (decode cL_law 1160 = .ok (.iconst 1, 1)) ∧ (decode cL_law 1161 = .ok (.iadd, 1)) ∧ (decode cL_law 1162 = .ok (.iaload, 1)) ∧ (decode cL_law 1163 = .ok (.aload_n 0, 1)) ∧ (decode cL_law 1164 = .ok (.iload_n 3, 1)) ∧ (decode cL_law 1165 = .ok (.iconst 2, 1)) := by decide +kernel
theorem dL_law_1158 : decode cL_law 1158 = .ok (.aload_n 0, 1) := dcL_law_102.1
theorem dL_law_1159 : decode cL_law 1159 = .ok (.iload_n 3, 1) := dcL_law_102.2.1
theorem dL_law_1160 : decode cL_law 1160 = .ok (.iconst 1, 1) := dcL_law_102.2.2.1
theorem dL_law_1161 : decode cL_law 1161 = .ok (.iadd, 1) := dcL_law_102.2.2.2.1
theorem dL_law_1162 : decode cL_law 1162 = .ok (.iaload, 1) := dcL_law_102.2.2.2.2.1
theorem dL_law_1163 : decode cL_law 1163 = .ok (.aload_n 0, 1) := dcL_law_102.2.2.2.2.2.1
theorem dL_law_1164 : decode cL_law 1164 = .ok (.iload_n 3, 1) := dcL_law_102.2.2.2.2.2.2.1
theorem dL_law_1165 : decode cL_law 1165 = .ok (.iconst 2, 1) := dcL_law_102.2.2.2.2.2.2.2
theorem dcL_law_103 : (decode cL_law 1166 = .ok (.iadd, 1)) ∧ (decode cL_law 1167 = .ok (.iaload, 1)) ∧ (decode cL_law 1168 = .ok (.aload_n 0, 1)) ∧ (decode cL_law 1169 = .ok (.iload_n 3, 1)) ∧ (decode cL_law 1170 = .ok (.iconst 3, 1)) ∧ (decode cL_law 1171 = .ok (.iadd, 1)) ∧ (decode cL_law 1172 = .ok (.iaload, 1)) ∧ (decode cL_law 1173 = .ok (.aload_n 0, 1)) := by decide +kernel
theorem dL_law_1166 : decode cL_law 1166 = .ok (.iadd, 1) := dcL_law_103.1
theorem dL_law_1167 : decode cL_law 1167 = .ok (.iaload, 1) := dcL_law_103.2.1
theorem dL_law_1168 : decode cL_law 1168 = .ok (.aload_n 0, 1) := dcL_law_103.2.2.1
theorem dL_law_1169 : decode cL_law 1169 = .ok (.iload_n 3, 1) := dcL_law_103.2.2.2.1
theorem dL_law_1170 : decode cL_law 1170 = .ok (.iconst 3, 1) := dcL_law_103.2.2.2.2.1
theorem dL_law_1171 : decode cL_law 1171 = .ok (.iadd, 1) := dcL_law_103.2.2.2.2.2.1
theorem dL_law_1172 : decode cL_law 1172 = .ok (.iaload, 1) := dcL_law_103.2.2.2.2.2.2.1
theorem dL_law_1173 : decode cL_law 1173 = .ok (.aload_n 0, 1) := dcL_law_103.2.2.2.2.2.2.2
theorem dcL_law_104 : (decode cL_law 1174 = .ok (.iload_n 3, 1)) ∧ (decode cL_law 1175 = .ok (.iconst 4, 1)) ∧ (decode cL_law 1176 = .ok (.iadd, 1)) ∧ (decode cL_law 1177 = .ok (.iaload, 1)) ∧ (decode cL_law 1178 = .ok (.aload_n 0, 1)) ∧ (decode cL_law 1179 = .ok (.iload_n 3, 1)) ∧ (decode cL_law 1180 = .ok (.iconst 5, 1)) ∧ (decode cL_law 1181 = .ok (.iadd, 1)) := by decide +kernel
theorem dL_law_1174 : decode cL_law 1174 = .ok (.iload_n 3, 1) := dcL_law_104.1
theorem dL_law_1175 : decode cL_law 1175 = .ok (.iconst 4, 1) := dcL_law_104.2.1
theorem dL_law_1176 : decode cL_law 1176 = .ok (.iadd, 1) := dcL_law_104.2.2.1
theorem dL_law_1177 : decode cL_law 1177 = .ok (.iaload, 1) := dcL_law_104.2.2.2.1
theorem dL_law_1178 : decode cL_law 1178 = .ok (.aload_n 0, 1) := dcL_law_104.2.2.2.2.1
theorem dL_law_1179 : decode cL_law 1179 = .ok (.iload_n 3, 1) := dcL_law_104.2.2.2.2.2.1
theorem dL_law_1180 : decode cL_law 1180 = .ok (.iconst 5, 1) := dcL_law_104.2.2.2.2.2.2.1
theorem dL_law_1181 : decode cL_law 1181 = .ok (.iadd, 1) := dcL_law_104.2.2.2.2.2.2.2
theorem dcL_law_105 : (decode cL_law 1182 = .ok (.iaload, 1)) ∧ (decode cL_law 1183 = .ok (.invokevirtual 134, 3)) ∧ (decode cL_law 1186 = .ok (.lcmp, 1)) ∧ (decode cL_law 1187 = .ok (.ifCond .eq 266, 3)) ∧ (decode cL_law 1190 = .ok (.iconst 0, 1)) ∧ (decode cL_law 1191 = .ok (.ireturn, 1)) ∧ (decode cL_law 1192 = .ok (.aload_n 1, 1)) ∧ (decode cL_law 1193 = .ok (.invokevirtual 135, 3)) := by decide +kernel
theorem dL_law_1182 : decode cL_law 1182 = .ok (.iaload, 1) := dcL_law_105.1
theorem dL_law_1183 : decode cL_law 1183 = .ok (.invokevirtual 134, 3) := dcL_law_105.2.1
theorem dL_law_1186 : decode cL_law 1186 = .ok (.lcmp, 1) := dcL_law_105.2.2.1
theorem dL_law_1187 : decode cL_law 1187 = .ok (.ifCond .eq 266, 3) := dcL_law_105.2.2.2.1
theorem dL_law_1190 : decode cL_law 1190 = .ok (.iconst 0, 1) := dcL_law_105.2.2.2.2.1
theorem dL_law_1191 : decode cL_law 1191 = .ok (.ireturn, 1) := dcL_law_105.2.2.2.2.2.1
theorem dL_law_1192 : decode cL_law 1192 = .ok (.aload_n 1, 1) := dcL_law_105.2.2.2.2.2.2.1
theorem dL_law_1193 : decode cL_law 1193 = .ok (.invokevirtual 135, 3) := dcL_law_105.2.2.2.2.2.2.2
theorem dcL_law_106 : (decode cL_law 1196 = .ok (.aload_n 2, 1)) ∧ (decode cL_law 1197 = .ok (.invokevirtual 138, 3)) ∧ (decode cL_law 1200 = .ok (.if_icmp .eq 253, 3)) ∧ (decode cL_law 1203 = .ok (.iconst 0, 1)) ∧ (decode cL_law 1204 = .ok (.ireturn, 1)) ∧ (decode cL_law 1205 = .ok (.aload_n 1, 1)) ∧ (decode cL_law 1206 = .ok (.invokevirtual 139, 3)) ∧ (decode cL_law 1209 = .ok (.aload_n 2, 1)) := by decide +kernel
theorem dL_law_1196 : decode cL_law 1196 = .ok (.aload_n 2, 1) := dcL_law_106.1
theorem dL_law_1197 : decode cL_law 1197 = .ok (.invokevirtual 138, 3) := dcL_law_106.2.1
theorem dL_law_1200 : decode cL_law 1200 = .ok (.if_icmp .eq 253, 3) := dcL_law_106.2.2.1
theorem dL_law_1203 : decode cL_law 1203 = .ok (.iconst 0, 1) := dcL_law_106.2.2.2.1
theorem dL_law_1204 : decode cL_law 1204 = .ok (.ireturn, 1) := dcL_law_106.2.2.2.2.1
theorem dL_law_1205 : decode cL_law 1205 = .ok (.aload_n 1, 1) := dcL_law_106.2.2.2.2.2.1
theorem dL_law_1206 : decode cL_law 1206 = .ok (.invokevirtual 139, 3) := dcL_law_106.2.2.2.2.2.2.1
theorem dL_law_1209 : decode cL_law 1209 = .ok (.aload_n 2, 1) := dcL_law_106.2.2.2.2.2.2.2
theorem dcL_law_107 : (decode cL_law 1210 = .ok (.invokevirtual 142, 3)) ∧ (decode cL_law 1213 = .ok (.if_icmp .eq 240, 3)) ∧ (decode cL_law 1216 = .ok (.iconst 0, 1)) ∧ (decode cL_law 1217 = .ok (.ireturn, 1)) ∧ (decode cL_law 1218 = .ok (.aload_n 1, 1)) ∧ (decode cL_law 1219 = .ok (.aload_n 0, 1)) ∧ (decode cL_law 1220 = .ok (.iload_n 3, 1)) ∧ (decode cL_law 1221 = .ok (.iconst 1, 1)) := by decide +kernel
theorem dL_law_1210 : decode cL_law 1210 = .ok (.invokevirtual 142, 3) := dcL_law_107.1
theorem dL_law_1213 : decode cL_law 1213 = .ok (.if_icmp .eq 240, 3) := dcL_law_107.2.1
theorem dL_law_1216 : decode cL_law 1216 = .ok (.iconst 0, 1) := dcL_law_107.2.2.1
theorem dL_law_1217 : decode cL_law 1217 = .ok (.ireturn, 1) := dcL_law_107.2.2.2.1
theorem dL_law_1218 : decode cL_law 1218 = .ok (.aload_n 1, 1) := dcL_law_107.2.2.2.2.1
theorem dL_law_1219 : decode cL_law 1219 = .ok (.aload_n 0, 1) := dcL_law_107.2.2.2.2.2.1
theorem dL_law_1220 : decode cL_law 1220 = .ok (.iload_n 3, 1) := dcL_law_107.2.2.2.2.2.2.1
theorem dL_law_1221 : decode cL_law 1221 = .ok (.iconst 1, 1) := dcL_law_107.2.2.2.2.2.2.2
theorem dcL_law_108 : (decode cL_law 1222 = .ok (.iadd, 1)) ∧ (decode cL_law 1223 = .ok (.iaload, 1)) ∧ (decode cL_law 1224 = .ok (.aload_n 0, 1)) ∧ (decode cL_law 1225 = .ok (.iload_n 3, 1)) ∧ (decode cL_law 1226 = .ok (.iconst 2, 1)) ∧ (decode cL_law 1227 = .ok (.iadd, 1)) ∧ (decode cL_law 1228 = .ok (.iaload, 1)) ∧ (decode cL_law 1229 = .ok (.aload_n 0, 1)) := by decide +kernel
theorem dL_law_1222 : decode cL_law 1222 = .ok (.iadd, 1) := dcL_law_108.1
theorem dL_law_1223 : decode cL_law 1223 = .ok (.iaload, 1) := dcL_law_108.2.1
theorem dL_law_1224 : decode cL_law 1224 = .ok (.aload_n 0, 1) := dcL_law_108.2.2.1
theorem dL_law_1225 : decode cL_law 1225 = .ok (.iload_n 3, 1) := dcL_law_108.2.2.2.1
theorem dL_law_1226 : decode cL_law 1226 = .ok (.iconst 2, 1) := dcL_law_108.2.2.2.2.1
theorem dL_law_1227 : decode cL_law 1227 = .ok (.iadd, 1) := dcL_law_108.2.2.2.2.2.1
theorem dL_law_1228 : decode cL_law 1228 = .ok (.iaload, 1) := dcL_law_108.2.2.2.2.2.2.1
theorem dL_law_1229 : decode cL_law 1229 = .ok (.aload_n 0, 1) := dcL_law_108.2.2.2.2.2.2.2
theorem dcL_law_109 : (decode cL_law 1230 = .ok (.iload_n 3, 1)) ∧ (decode cL_law 1231 = .ok (.iconst 3, 1)) ∧ (decode cL_law 1232 = .ok (.iadd, 1)) ∧ (decode cL_law 1233 = .ok (.iaload, 1)) ∧ (decode cL_law 1234 = .ok (.invokevirtual 143, 3)) ∧ (decode cL_law 1237 = .ok (.aload_n 2, 1)) ∧ (decode cL_law 1238 = .ok (.aload_n 0, 1)) ∧ (decode cL_law 1239 = .ok (.iload_n 3, 1)) := by decide +kernel
theorem dL_law_1230 : decode cL_law 1230 = .ok (.iload_n 3, 1) := dcL_law_109.1
theorem dL_law_1231 : decode cL_law 1231 = .ok (.iconst 3, 1) := dcL_law_109.2.1
theorem dL_law_1232 : decode cL_law 1232 = .ok (.iadd, 1) := dcL_law_109.2.2.1
theorem dL_law_1233 : decode cL_law 1233 = .ok (.iaload, 1) := dcL_law_109.2.2.2.1
theorem dL_law_1234 : decode cL_law 1234 = .ok (.invokevirtual 143, 3) := dcL_law_109.2.2.2.2.1
theorem dL_law_1237 : decode cL_law 1237 = .ok (.aload_n 2, 1) := dcL_law_109.2.2.2.2.2.1
theorem dL_law_1238 : decode cL_law 1238 = .ok (.aload_n 0, 1) := dcL_law_109.2.2.2.2.2.2.1
theorem dL_law_1239 : decode cL_law 1239 = .ok (.iload_n 3, 1) := dcL_law_109.2.2.2.2.2.2.2
theorem dcL_law_110 : (decode cL_law 1240 = .ok (.iconst 1, 1)) ∧ (decode cL_law 1241 = .ok (.iadd, 1)) ∧ (decode cL_law 1242 = .ok (.iaload, 1)) ∧ (decode cL_law 1243 = .ok (.aload_n 0, 1)) ∧ (decode cL_law 1244 = .ok (.iload_n 3, 1)) ∧ (decode cL_law 1245 = .ok (.iconst 2, 1)) ∧ (decode cL_law 1246 = .ok (.iadd, 1)) ∧ (decode cL_law 1247 = .ok (.iaload, 1)) := by decide +kernel
theorem dL_law_1240 : decode cL_law 1240 = .ok (.iconst 1, 1) := dcL_law_110.1
theorem dL_law_1241 : decode cL_law 1241 = .ok (.iadd, 1) := dcL_law_110.2.1
theorem dL_law_1242 : decode cL_law 1242 = .ok (.iaload, 1) := dcL_law_110.2.2.1
theorem dL_law_1243 : decode cL_law 1243 = .ok (.aload_n 0, 1) := dcL_law_110.2.2.2.1
theorem dL_law_1244 : decode cL_law 1244 = .ok (.iload_n 3, 1) := dcL_law_110.2.2.2.2.1
theorem dL_law_1245 : decode cL_law 1245 = .ok (.iconst 2, 1) := dcL_law_110.2.2.2.2.2.1
theorem dL_law_1246 : decode cL_law 1246 = .ok (.iadd, 1) := dcL_law_110.2.2.2.2.2.2.1
theorem dL_law_1247 : decode cL_law 1247 = .ok (.iaload, 1) := dcL_law_110.2.2.2.2.2.2.2
theorem dcL_law_111 : (decode cL_law 1248 = .ok (.aload_n 0, 1)) ∧ (decode cL_law 1249 = .ok (.iload_n 3, 1)) ∧ (decode cL_law 1250 = .ok (.iconst 3, 1)) ∧ (decode cL_law 1251 = .ok (.iadd, 1)) ∧ (decode cL_law 1252 = .ok (.iaload, 1)) ∧ (decode cL_law 1253 = .ok (.invokevirtual 146, 3)) ∧ (decode cL_law 1256 = .ok (.if_icmp .eq 197, 3)) ∧ (decode cL_law 1259 = .ok (.iconst 0, 1)) := by decide +kernel
theorem dL_law_1248 : decode cL_law 1248 = .ok (.aload_n 0, 1) := dcL_law_111.1
theorem dL_law_1249 : decode cL_law 1249 = .ok (.iload_n 3, 1) := dcL_law_111.2.1
theorem dL_law_1250 : decode cL_law 1250 = .ok (.iconst 3, 1) := dcL_law_111.2.2.1
theorem dL_law_1251 : decode cL_law 1251 = .ok (.iadd, 1) := dcL_law_111.2.2.2.1
theorem dL_law_1252 : decode cL_law 1252 = .ok (.iaload, 1) := dcL_law_111.2.2.2.2.1
theorem dL_law_1253 : decode cL_law 1253 = .ok (.invokevirtual 146, 3) := dcL_law_111.2.2.2.2.2.1
theorem dL_law_1256 : decode cL_law 1256 = .ok (.if_icmp .eq 197, 3) := dcL_law_111.2.2.2.2.2.2.1
theorem dL_law_1259 : decode cL_law 1259 = .ok (.iconst 0, 1) := dcL_law_111.2.2.2.2.2.2.2
theorem dcL_law_112 : (decode cL_law 1260 = .ok (.ireturn, 1)) ∧ (decode cL_law 1261 = .ok (.aload_n 1, 1)) ∧ (decode cL_law 1262 = .ok (.aload_n 0, 1)) ∧ (decode cL_law 1263 = .ok (.iload_n 3, 1)) ∧ (decode cL_law 1264 = .ok (.iconst 1, 1)) ∧ (decode cL_law 1265 = .ok (.iadd, 1)) ∧ (decode cL_law 1266 = .ok (.iaload, 1)) ∧ (decode cL_law 1267 = .ok (.aload_n 0, 1)) := by decide +kernel
theorem dL_law_1260 : decode cL_law 1260 = .ok (.ireturn, 1) := dcL_law_112.1
theorem dL_law_1261 : decode cL_law 1261 = .ok (.aload_n 1, 1) := dcL_law_112.2.1
theorem dL_law_1262 : decode cL_law 1262 = .ok (.aload_n 0, 1) := dcL_law_112.2.2.1
theorem dL_law_1263 : decode cL_law 1263 = .ok (.iload_n 3, 1) := dcL_law_112.2.2.2.1
theorem dL_law_1264 : decode cL_law 1264 = .ok (.iconst 1, 1) := dcL_law_112.2.2.2.2.1
theorem dL_law_1265 : decode cL_law 1265 = .ok (.iadd, 1) := dcL_law_112.2.2.2.2.2.1
theorem dL_law_1266 : decode cL_law 1266 = .ok (.iaload, 1) := dcL_law_112.2.2.2.2.2.2.1
theorem dL_law_1267 : decode cL_law 1267 = .ok (.aload_n 0, 1) := dcL_law_112.2.2.2.2.2.2.2
theorem dcL_law_113 : (decode cL_law 1268 = .ok (.iload_n 3, 1)) ∧ (decode cL_law 1269 = .ok (.iconst 2, 1)) ∧ (decode cL_law 1270 = .ok (.iadd, 1)) ∧ (decode cL_law 1271 = .ok (.iaload, 1)) ∧ (decode cL_law 1272 = .ok (.aload_n 0, 1)) ∧ (decode cL_law 1273 = .ok (.iload_n 3, 1)) ∧ (decode cL_law 1274 = .ok (.iconst 3, 1)) ∧ (decode cL_law 1275 = .ok (.iadd, 1)) := by decide +kernel
theorem dL_law_1268 : decode cL_law 1268 = .ok (.iload_n 3, 1) := dcL_law_113.1
theorem dL_law_1269 : decode cL_law 1269 = .ok (.iconst 2, 1) := dcL_law_113.2.1
theorem dL_law_1270 : decode cL_law 1270 = .ok (.iadd, 1) := dcL_law_113.2.2.1
theorem dL_law_1271 : decode cL_law 1271 = .ok (.iaload, 1) := dcL_law_113.2.2.2.1
theorem dL_law_1272 : decode cL_law 1272 = .ok (.aload_n 0, 1) := dcL_law_113.2.2.2.2.1
theorem dL_law_1273 : decode cL_law 1273 = .ok (.iload_n 3, 1) := dcL_law_113.2.2.2.2.2.1
theorem dL_law_1274 : decode cL_law 1274 = .ok (.iconst 3, 1) := dcL_law_113.2.2.2.2.2.2.1
theorem dL_law_1275 : decode cL_law 1275 = .ok (.iadd, 1) := dcL_law_113.2.2.2.2.2.2.2
theorem dcL_law_114 : (decode cL_law 1276 = .ok (.iaload, 1)) ∧ (decode cL_law 1277 = .ok (.invokevirtual 147, 3)) ∧ (decode cL_law 1280 = .ok (.aload_n 2, 1)) ∧ (decode cL_law 1281 = .ok (.aload_n 0, 1)) ∧ (decode cL_law 1282 = .ok (.iload_n 3, 1)) ∧ (decode cL_law 1283 = .ok (.iconst 1, 1)) ∧ (decode cL_law 1284 = .ok (.iadd, 1)) ∧ (decode cL_law 1285 = .ok (.iaload, 1)) := by decide +kernel
theorem dL_law_1276 : decode cL_law 1276 = .ok (.iaload, 1) := dcL_law_114.1
theorem dL_law_1277 : decode cL_law 1277 = .ok (.invokevirtual 147, 3) := dcL_law_114.2.1
theorem dL_law_1280 : decode cL_law 1280 = .ok (.aload_n 2, 1) := dcL_law_114.2.2.1
theorem dL_law_1281 : decode cL_law 1281 = .ok (.aload_n 0, 1) := dcL_law_114.2.2.2.1
theorem dL_law_1282 : decode cL_law 1282 = .ok (.iload_n 3, 1) := dcL_law_114.2.2.2.2.1
theorem dL_law_1283 : decode cL_law 1283 = .ok (.iconst 1, 1) := dcL_law_114.2.2.2.2.2.1
theorem dL_law_1284 : decode cL_law 1284 = .ok (.iadd, 1) := dcL_law_114.2.2.2.2.2.2.1
theorem dL_law_1285 : decode cL_law 1285 = .ok (.iaload, 1) := dcL_law_114.2.2.2.2.2.2.2
theorem dcL_law_115 : (decode cL_law 1286 = .ok (.aload_n 0, 1)) ∧ (decode cL_law 1287 = .ok (.iload_n 3, 1)) ∧ (decode cL_law 1288 = .ok (.iconst 2, 1)) ∧ (decode cL_law 1289 = .ok (.iadd, 1)) ∧ (decode cL_law 1290 = .ok (.iaload, 1)) ∧ (decode cL_law 1291 = .ok (.aload_n 0, 1)) ∧ (decode cL_law 1292 = .ok (.iload_n 3, 1)) ∧ (decode cL_law 1293 = .ok (.iconst 3, 1)) := by decide +kernel
theorem dL_law_1286 : decode cL_law 1286 = .ok (.aload_n 0, 1) := dcL_law_115.1
theorem dL_law_1287 : decode cL_law 1287 = .ok (.iload_n 3, 1) := dcL_law_115.2.1
theorem dL_law_1288 : decode cL_law 1288 = .ok (.iconst 2, 1) := dcL_law_115.2.2.1
theorem dL_law_1289 : decode cL_law 1289 = .ok (.iadd, 1) := dcL_law_115.2.2.2.1
theorem dL_law_1290 : decode cL_law 1290 = .ok (.iaload, 1) := dcL_law_115.2.2.2.2.1
theorem dL_law_1291 : decode cL_law 1291 = .ok (.aload_n 0, 1) := dcL_law_115.2.2.2.2.2.1
theorem dL_law_1292 : decode cL_law 1292 = .ok (.iload_n 3, 1) := dcL_law_115.2.2.2.2.2.2.1
theorem dL_law_1293 : decode cL_law 1293 = .ok (.iconst 3, 1) := dcL_law_115.2.2.2.2.2.2.2
theorem dcL_law_116 : (decode cL_law 1294 = .ok (.iadd, 1)) ∧ (decode cL_law 1295 = .ok (.iaload, 1)) ∧ (decode cL_law 1296 = .ok (.invokevirtual 150, 3)) ∧ (decode cL_law 1299 = .ok (.if_icmp .eq 154, 3)) ∧ (decode cL_law 1302 = .ok (.iconst 0, 1)) ∧ (decode cL_law 1303 = .ok (.ireturn, 1)) ∧ (decode cL_law 1304 = .ok (.aload_n 1, 1)) ∧ (decode cL_law 1305 = .ok (.aload_n 0, 1)) := by decide +kernel
theorem dL_law_1294 : decode cL_law 1294 = .ok (.iadd, 1) := dcL_law_116.1
theorem dL_law_1295 : decode cL_law 1295 = .ok (.iaload, 1) := dcL_law_116.2.1
theorem dL_law_1296 : decode cL_law 1296 = .ok (.invokevirtual 150, 3) := dcL_law_116.2.2.1
theorem dL_law_1299 : decode cL_law 1299 = .ok (.if_icmp .eq 154, 3) := dcL_law_116.2.2.2.1
theorem dL_law_1302 : decode cL_law 1302 = .ok (.iconst 0, 1) := dcL_law_116.2.2.2.2.1
theorem dL_law_1303 : decode cL_law 1303 = .ok (.ireturn, 1) := dcL_law_116.2.2.2.2.2.1
theorem dL_law_1304 : decode cL_law 1304 = .ok (.aload_n 1, 1) := dcL_law_116.2.2.2.2.2.2.1
theorem dL_law_1305 : decode cL_law 1305 = .ok (.aload_n 0, 1) := dcL_law_116.2.2.2.2.2.2.2
theorem dcL_law_117 : (decode cL_law 1306 = .ok (.iload_n 3, 1)) ∧ (decode cL_law 1307 = .ok (.iconst 1, 1)) ∧ (decode cL_law 1308 = .ok (.iadd, 1)) ∧ (decode cL_law 1309 = .ok (.iaload, 1)) ∧ (decode cL_law 1310 = .ok (.aload_n 0, 1)) ∧ (decode cL_law 1311 = .ok (.iload_n 3, 1)) ∧ (decode cL_law 1312 = .ok (.iconst 2, 1)) ∧ (decode cL_law 1313 = .ok (.iadd, 1)) := by decide +kernel
theorem dL_law_1306 : decode cL_law 1306 = .ok (.iload_n 3, 1) := dcL_law_117.1
theorem dL_law_1307 : decode cL_law 1307 = .ok (.iconst 1, 1) := dcL_law_117.2.1
theorem dL_law_1308 : decode cL_law 1308 = .ok (.iadd, 1) := dcL_law_117.2.2.1
theorem dL_law_1309 : decode cL_law 1309 = .ok (.iaload, 1) := dcL_law_117.2.2.2.1
theorem dL_law_1310 : decode cL_law 1310 = .ok (.aload_n 0, 1) := dcL_law_117.2.2.2.2.1
theorem dL_law_1311 : decode cL_law 1311 = .ok (.iload_n 3, 1) := dcL_law_117.2.2.2.2.2.1
theorem dL_law_1312 : decode cL_law 1312 = .ok (.iconst 2, 1) := dcL_law_117.2.2.2.2.2.2.1
theorem dL_law_1313 : decode cL_law 1313 = .ok (.iadd, 1) := dcL_law_117.2.2.2.2.2.2.2
theorem dcL_law_118 : (decode cL_law 1314 = .ok (.iaload, 1)) ∧ (decode cL_law 1315 = .ok (.aload_n 0, 1)) ∧ (decode cL_law 1316 = .ok (.iload_n 3, 1)) ∧ (decode cL_law 1317 = .ok (.iconst 3, 1)) ∧ (decode cL_law 1318 = .ok (.iadd, 1)) ∧ (decode cL_law 1319 = .ok (.iaload, 1)) ∧ (decode cL_law 1320 = .ok (.aload_n 0, 1)) ∧ (decode cL_law 1321 = .ok (.iload_n 3, 1)) := by decide +kernel
theorem dL_law_1314 : decode cL_law 1314 = .ok (.iaload, 1) := dcL_law_118.1
theorem dL_law_1315 : decode cL_law 1315 = .ok (.aload_n 0, 1) := dcL_law_118.2.1
theorem dL_law_1316 : decode cL_law 1316 = .ok (.iload_n 3, 1) := dcL_law_118.2.2.1
theorem dL_law_1317 : decode cL_law 1317 = .ok (.iconst 3, 1) := dcL_law_118.2.2.2.1
theorem dL_law_1318 : decode cL_law 1318 = .ok (.iadd, 1) := dcL_law_118.2.2.2.2.1
theorem dL_law_1319 : decode cL_law 1319 = .ok (.iaload, 1) := dcL_law_118.2.2.2.2.2.1
theorem dL_law_1320 : decode cL_law 1320 = .ok (.aload_n 0, 1) := dcL_law_118.2.2.2.2.2.2.1
theorem dL_law_1321 : decode cL_law 1321 = .ok (.iload_n 3, 1) := dcL_law_118.2.2.2.2.2.2.2
theorem dcL_law_119 : (decode cL_law 1322 = .ok (.iconst 4, 1)) ∧ (decode cL_law 1323 = .ok (.iadd, 1)) ∧ (decode cL_law 1324 = .ok (.iaload, 1)) ∧ (decode cL_law 1325 = .ok (.aload_n 0, 1)) ∧ (decode cL_law 1326 = .ok (.iload_n 3, 1)) ∧ (decode cL_law 1327 = .ok (.iconst 5, 1)) ∧ (decode cL_law 1328 = .ok (.iadd, 1)) ∧ (decode cL_law 1329 = .ok (.iaload, 1)) := by decide +kernel
theorem dL_law_1322 : decode cL_law 1322 = .ok (.iconst 4, 1) := dcL_law_119.1
theorem dL_law_1323 : decode cL_law 1323 = .ok (.iadd, 1) := dcL_law_119.2.1
theorem dL_law_1324 : decode cL_law 1324 = .ok (.iaload, 1) := dcL_law_119.2.2.1
theorem dL_law_1325 : decode cL_law 1325 = .ok (.aload_n 0, 1) := dcL_law_119.2.2.2.1
theorem dL_law_1326 : decode cL_law 1326 = .ok (.iload_n 3, 1) := dcL_law_119.2.2.2.2.1
theorem dL_law_1327 : decode cL_law 1327 = .ok (.iconst 5, 1) := dcL_law_119.2.2.2.2.2.1
theorem dL_law_1328 : decode cL_law 1328 = .ok (.iadd, 1) := dcL_law_119.2.2.2.2.2.2.1
theorem dL_law_1329 : decode cL_law 1329 = .ok (.iaload, 1) := dcL_law_119.2.2.2.2.2.2.2
theorem dcL_law_120 : (decode cL_law 1330 = .ok (.invokevirtual 151, 3)) ∧ (decode cL_law 1333 = .ok (.aload_n 2, 1)) ∧ (decode cL_law 1334 = .ok (.aload_n 0, 1)) ∧ (decode cL_law 1335 = .ok (.iload_n 3, 1)) ∧ (decode cL_law 1336 = .ok (.iconst 1, 1)) ∧ (decode cL_law 1337 = .ok (.iadd, 1)) ∧ (decode cL_law 1338 = .ok (.iaload, 1)) ∧ (decode cL_law 1339 = .ok (.aload_n 0, 1)) := by decide +kernel
theorem dL_law_1330 : decode cL_law 1330 = .ok (.invokevirtual 151, 3) := dcL_law_120.1
theorem dL_law_1333 : decode cL_law 1333 = .ok (.aload_n 2, 1) := dcL_law_120.2.1
theorem dL_law_1334 : decode cL_law 1334 = .ok (.aload_n 0, 1) := dcL_law_120.2.2.1
theorem dL_law_1335 : decode cL_law 1335 = .ok (.iload_n 3, 1) := dcL_law_120.2.2.2.1
theorem dL_law_1336 : decode cL_law 1336 = .ok (.iconst 1, 1) := dcL_law_120.2.2.2.2.1
theorem dL_law_1337 : decode cL_law 1337 = .ok (.iadd, 1) := dcL_law_120.2.2.2.2.2.1
theorem dL_law_1338 : decode cL_law 1338 = .ok (.iaload, 1) := dcL_law_120.2.2.2.2.2.2.1
theorem dL_law_1339 : decode cL_law 1339 = .ok (.aload_n 0, 1) := dcL_law_120.2.2.2.2.2.2.2
theorem dcL_law_121 : (decode cL_law 1340 = .ok (.iload_n 3, 1)) ∧ (decode cL_law 1341 = .ok (.iconst 2, 1)) ∧ (decode cL_law 1342 = .ok (.iadd, 1)) ∧ (decode cL_law 1343 = .ok (.iaload, 1)) ∧ (decode cL_law 1344 = .ok (.aload_n 0, 1)) ∧ (decode cL_law 1345 = .ok (.iload_n 3, 1)) ∧ (decode cL_law 1346 = .ok (.iconst 3, 1)) ∧ (decode cL_law 1347 = .ok (.iadd, 1)) := by decide +kernel
theorem dL_law_1340 : decode cL_law 1340 = .ok (.iload_n 3, 1) := dcL_law_121.1
theorem dL_law_1341 : decode cL_law 1341 = .ok (.iconst 2, 1) := dcL_law_121.2.1
theorem dL_law_1342 : decode cL_law 1342 = .ok (.iadd, 1) := dcL_law_121.2.2.1
theorem dL_law_1343 : decode cL_law 1343 = .ok (.iaload, 1) := dcL_law_121.2.2.2.1
theorem dL_law_1344 : decode cL_law 1344 = .ok (.aload_n 0, 1) := dcL_law_121.2.2.2.2.1
theorem dL_law_1345 : decode cL_law 1345 = .ok (.iload_n 3, 1) := dcL_law_121.2.2.2.2.2.1
theorem dL_law_1346 : decode cL_law 1346 = .ok (.iconst 3, 1) := dcL_law_121.2.2.2.2.2.2.1
theorem dL_law_1347 : decode cL_law 1347 = .ok (.iadd, 1) := dcL_law_121.2.2.2.2.2.2.2
theorem dcL_law_122 : (decode cL_law 1348 = .ok (.iaload, 1)) ∧ (decode cL_law 1349 = .ok (.aload_n 0, 1)) ∧ (decode cL_law 1350 = .ok (.iload_n 3, 1)) ∧ (decode cL_law 1351 = .ok (.iconst 4, 1)) ∧ (decode cL_law 1352 = .ok (.iadd, 1)) ∧ (decode cL_law 1353 = .ok (.iaload, 1)) ∧ (decode cL_law 1354 = .ok (.aload_n 0, 1)) ∧ (decode cL_law 1355 = .ok (.iload_n 3, 1)) := by decide +kernel
theorem dL_law_1348 : decode cL_law 1348 = .ok (.iaload, 1) := dcL_law_122.1
theorem dL_law_1349 : decode cL_law 1349 = .ok (.aload_n 0, 1) := dcL_law_122.2.1
theorem dL_law_1350 : decode cL_law 1350 = .ok (.iload_n 3, 1) := dcL_law_122.2.2.1
theorem dL_law_1351 : decode cL_law 1351 = .ok (.iconst 4, 1) := dcL_law_122.2.2.2.1
theorem dL_law_1352 : decode cL_law 1352 = .ok (.iadd, 1) := dcL_law_122.2.2.2.2.1
theorem dL_law_1353 : decode cL_law 1353 = .ok (.iaload, 1) := dcL_law_122.2.2.2.2.2.1
theorem dL_law_1354 : decode cL_law 1354 = .ok (.aload_n 0, 1) := dcL_law_122.2.2.2.2.2.2.1
theorem dL_law_1355 : decode cL_law 1355 = .ok (.iload_n 3, 1) := dcL_law_122.2.2.2.2.2.2.2
theorem dcL_law_123 : (decode cL_law 1356 = .ok (.iconst 5, 1)) ∧ (decode cL_law 1357 = .ok (.iadd, 1)) ∧ (decode cL_law 1358 = .ok (.iaload, 1)) ∧ (decode cL_law 1359 = .ok (.invokevirtual 155, 3)) ∧ (decode cL_law 1362 = .ok (.if_icmp .eq 91, 3)) ∧ (decode cL_law 1365 = .ok (.iconst 0, 1)) ∧ (decode cL_law 1366 = .ok (.ireturn, 1)) ∧ (decode cL_law 1367 = .ok (.aload_n 1, 1)) := by decide +kernel
theorem dL_law_1356 : decode cL_law 1356 = .ok (.iconst 5, 1) := dcL_law_123.1
theorem dL_law_1357 : decode cL_law 1357 = .ok (.iadd, 1) := dcL_law_123.2.1
theorem dL_law_1358 : decode cL_law 1358 = .ok (.iaload, 1) := dcL_law_123.2.2.1
theorem dL_law_1359 : decode cL_law 1359 = .ok (.invokevirtual 155, 3) := dcL_law_123.2.2.2.1
theorem dL_law_1362 : decode cL_law 1362 = .ok (.if_icmp .eq 91, 3) := dcL_law_123.2.2.2.2.1
theorem dL_law_1365 : decode cL_law 1365 = .ok (.iconst 0, 1) := dcL_law_123.2.2.2.2.2.1
theorem dL_law_1366 : decode cL_law 1366 = .ok (.ireturn, 1) := dcL_law_123.2.2.2.2.2.2.1
theorem dL_law_1367 : decode cL_law 1367 = .ok (.aload_n 1, 1) := dcL_law_123.2.2.2.2.2.2.2
theorem dcL_law_124 : (decode cL_law 1368 = .ok (.aload_n 0, 1)) ∧ (decode cL_law 1369 = .ok (.iload_n 3, 1)) ∧ (decode cL_law 1370 = .ok (.iconst 1, 1)) ∧ (decode cL_law 1371 = .ok (.iadd, 1)) ∧ (decode cL_law 1372 = .ok (.iaload, 1)) ∧ (decode cL_law 1373 = .ok (.aload_n 0, 1)) ∧ (decode cL_law 1374 = .ok (.iload_n 3, 1)) ∧ (decode cL_law 1375 = .ok (.iconst 2, 1)) := by decide +kernel
theorem dL_law_1368 : decode cL_law 1368 = .ok (.aload_n 0, 1) := dcL_law_124.1
theorem dL_law_1369 : decode cL_law 1369 = .ok (.iload_n 3, 1) := dcL_law_124.2.1
theorem dL_law_1370 : decode cL_law 1370 = .ok (.iconst 1, 1) := dcL_law_124.2.2.1
theorem dL_law_1371 : decode cL_law 1371 = .ok (.iadd, 1) := dcL_law_124.2.2.2.1
theorem dL_law_1372 : decode cL_law 1372 = .ok (.iaload, 1) := dcL_law_124.2.2.2.2.1
theorem dL_law_1373 : decode cL_law 1373 = .ok (.aload_n 0, 1) := dcL_law_124.2.2.2.2.2.1
theorem dL_law_1374 : decode cL_law 1374 = .ok (.iload_n 3, 1) := dcL_law_124.2.2.2.2.2.2.1
theorem dL_law_1375 : decode cL_law 1375 = .ok (.iconst 2, 1) := dcL_law_124.2.2.2.2.2.2.2
theorem dcL_law_125 : (decode cL_law 1376 = .ok (.iadd, 1)) ∧ (decode cL_law 1377 = .ok (.iaload, 1)) ∧ (decode cL_law 1378 = .ok (.aload_n 0, 1)) ∧ (decode cL_law 1379 = .ok (.iload_n 3, 1)) ∧ (decode cL_law 1380 = .ok (.iconst 3, 1)) ∧ (decode cL_law 1381 = .ok (.iadd, 1)) ∧ (decode cL_law 1382 = .ok (.iaload, 1)) ∧ (decode cL_law 1383 = .ok (.aload_n 0, 1)) := by decide +kernel
theorem dL_law_1376 : decode cL_law 1376 = .ok (.iadd, 1) := dcL_law_125.1
theorem dL_law_1377 : decode cL_law 1377 = .ok (.iaload, 1) := dcL_law_125.2.1
theorem dL_law_1378 : decode cL_law 1378 = .ok (.aload_n 0, 1) := dcL_law_125.2.2.1
theorem dL_law_1379 : decode cL_law 1379 = .ok (.iload_n 3, 1) := dcL_law_125.2.2.2.1
theorem dL_law_1380 : decode cL_law 1380 = .ok (.iconst 3, 1) := dcL_law_125.2.2.2.2.1
theorem dL_law_1381 : decode cL_law 1381 = .ok (.iadd, 1) := dcL_law_125.2.2.2.2.2.1
theorem dL_law_1382 : decode cL_law 1382 = .ok (.iaload, 1) := dcL_law_125.2.2.2.2.2.2.1
theorem dL_law_1383 : decode cL_law 1383 = .ok (.aload_n 0, 1) := dcL_law_125.2.2.2.2.2.2.2
theorem dcL_law_126 : (decode cL_law 1384 = .ok (.iload_n 3, 1)) ∧ (decode cL_law 1385 = .ok (.iconst 4, 1)) ∧ (decode cL_law 1386 = .ok (.iadd, 1)) ∧ (decode cL_law 1387 = .ok (.iaload, 1)) ∧ (decode cL_law 1388 = .ok (.invokevirtual 156, 3)) ∧ (decode cL_law 1391 = .ok (.aload_n 2, 1)) ∧ (decode cL_law 1392 = .ok (.aload_n 0, 1)) ∧ (decode cL_law 1393 = .ok (.iload_n 3, 1)) := by decide +kernel
theorem dL_law_1384 : decode cL_law 1384 = .ok (.iload_n 3, 1) := dcL_law_126.1
theorem dL_law_1385 : decode cL_law 1385 = .ok (.iconst 4, 1) := dcL_law_126.2.1
theorem dL_law_1386 : decode cL_law 1386 = .ok (.iadd, 1) := dcL_law_126.2.2.1
theorem dL_law_1387 : decode cL_law 1387 = .ok (.iaload, 1) := dcL_law_126.2.2.2.1
theorem dL_law_1388 : decode cL_law 1388 = .ok (.invokevirtual 156, 3) := dcL_law_126.2.2.2.2.1
theorem dL_law_1391 : decode cL_law 1391 = .ok (.aload_n 2, 1) := dcL_law_126.2.2.2.2.2.1
theorem dL_law_1392 : decode cL_law 1392 = .ok (.aload_n 0, 1) := dcL_law_126.2.2.2.2.2.2.1
theorem dL_law_1393 : decode cL_law 1393 = .ok (.iload_n 3, 1) := dcL_law_126.2.2.2.2.2.2.2
theorem dcL_law_127 : (decode cL_law 1394 = .ok (.iconst 1, 1)) ∧ (decode cL_law 1395 = .ok (.iadd, 1)) ∧ (decode cL_law 1396 = .ok (.iaload, 1)) ∧ (decode cL_law 1397 = .ok (.aload_n 0, 1)) ∧ (decode cL_law 1398 = .ok (.iload_n 3, 1)) ∧ (decode cL_law 1399 = .ok (.iconst 2, 1)) ∧ (decode cL_law 1400 = .ok (.iadd, 1)) ∧ (decode cL_law 1401 = .ok (.iaload, 1)) := by decide +kernel
theorem dL_law_1394 : decode cL_law 1394 = .ok (.iconst 1, 1) := dcL_law_127.1
theorem dL_law_1395 : decode cL_law 1395 = .ok (.iadd, 1) := dcL_law_127.2.1
theorem dL_law_1396 : decode cL_law 1396 = .ok (.iaload, 1) := dcL_law_127.2.2.1
theorem dL_law_1397 : decode cL_law 1397 = .ok (.aload_n 0, 1) := dcL_law_127.2.2.2.1
theorem dL_law_1398 : decode cL_law 1398 = .ok (.iload_n 3, 1) := dcL_law_127.2.2.2.2.1
theorem dL_law_1399 : decode cL_law 1399 = .ok (.iconst 2, 1) := dcL_law_127.2.2.2.2.2.1
theorem dL_law_1400 : decode cL_law 1400 = .ok (.iadd, 1) := dcL_law_127.2.2.2.2.2.2.1
theorem dL_law_1401 : decode cL_law 1401 = .ok (.iaload, 1) := dcL_law_127.2.2.2.2.2.2.2
theorem dcL_law_128 : (decode cL_law 1402 = .ok (.aload_n 0, 1)) ∧ (decode cL_law 1403 = .ok (.iload_n 3, 1)) ∧ (decode cL_law 1404 = .ok (.iconst 3, 1)) ∧ (decode cL_law 1405 = .ok (.iadd, 1)) ∧ (decode cL_law 1406 = .ok (.iaload, 1)) ∧ (decode cL_law 1407 = .ok (.aload_n 0, 1)) ∧ (decode cL_law 1408 = .ok (.iload_n 3, 1)) ∧ (decode cL_law 1409 = .ok (.iconst 4, 1)) := by decide +kernel
theorem dL_law_1402 : decode cL_law 1402 = .ok (.aload_n 0, 1) := dcL_law_128.1
theorem dL_law_1403 : decode cL_law 1403 = .ok (.iload_n 3, 1) := dcL_law_128.2.1
theorem dL_law_1404 : decode cL_law 1404 = .ok (.iconst 3, 1) := dcL_law_128.2.2.1
theorem dL_law_1405 : decode cL_law 1405 = .ok (.iadd, 1) := dcL_law_128.2.2.2.1
theorem dL_law_1406 : decode cL_law 1406 = .ok (.iaload, 1) := dcL_law_128.2.2.2.2.1
theorem dL_law_1407 : decode cL_law 1407 = .ok (.aload_n 0, 1) := dcL_law_128.2.2.2.2.2.1
theorem dL_law_1408 : decode cL_law 1408 = .ok (.iload_n 3, 1) := dcL_law_128.2.2.2.2.2.2.1
theorem dL_law_1409 : decode cL_law 1409 = .ok (.iconst 4, 1) := dcL_law_128.2.2.2.2.2.2.2
theorem dcL_law_129 : (decode cL_law 1410 = .ok (.iadd, 1)) ∧ (decode cL_law 1411 = .ok (.iaload, 1)) ∧ (decode cL_law 1412 = .ok (.invokevirtual 160, 3)) ∧ (decode cL_law 1415 = .ok (.if_icmp .eq 38, 3)) ∧ (decode cL_law 1418 = .ok (.iconst 0, 1)) ∧ (decode cL_law 1419 = .ok (.ireturn, 1)) ∧ (decode cL_law 1420 = .ok (.aload_n 1, 1)) ∧ (decode cL_law 1421 = .ok (.aload_n 0, 1)) := by decide +kernel
theorem dL_law_1410 : decode cL_law 1410 = .ok (.iadd, 1) := dcL_law_129.1
theorem dL_law_1411 : decode cL_law 1411 = .ok (.iaload, 1) := dcL_law_129.2.1
theorem dL_law_1412 : decode cL_law 1412 = .ok (.invokevirtual 160, 3) := dcL_law_129.2.2.1
theorem dL_law_1415 : decode cL_law 1415 = .ok (.if_icmp .eq 38, 3) := dcL_law_129.2.2.2.1
theorem dL_law_1418 : decode cL_law 1418 = .ok (.iconst 0, 1) := dcL_law_129.2.2.2.2.1
theorem dL_law_1419 : decode cL_law 1419 = .ok (.ireturn, 1) := dcL_law_129.2.2.2.2.2.1
theorem dL_law_1420 : decode cL_law 1420 = .ok (.aload_n 1, 1) := dcL_law_129.2.2.2.2.2.2.1
theorem dL_law_1421 : decode cL_law 1421 = .ok (.aload_n 0, 1) := dcL_law_129.2.2.2.2.2.2.2
theorem dcL_law_130 : (decode cL_law 1422 = .ok (.iload_n 3, 1)) ∧ (decode cL_law 1423 = .ok (.iconst 1, 1)) ∧ (decode cL_law 1424 = .ok (.iadd, 1)) ∧ (decode cL_law 1425 = .ok (.iaload, 1)) ∧ (decode cL_law 1426 = .ok (.aload_n 0, 1)) ∧ (decode cL_law 1427 = .ok (.iload_n 3, 1)) ∧ (decode cL_law 1428 = .ok (.iconst 2, 1)) ∧ (decode cL_law 1429 = .ok (.iadd, 1)) := by decide +kernel
theorem dL_law_1422 : decode cL_law 1422 = .ok (.iload_n 3, 1) := dcL_law_130.1
theorem dL_law_1423 : decode cL_law 1423 = .ok (.iconst 1, 1) := dcL_law_130.2.1
theorem dL_law_1424 : decode cL_law 1424 = .ok (.iadd, 1) := dcL_law_130.2.2.1
theorem dL_law_1425 : decode cL_law 1425 = .ok (.iaload, 1) := dcL_law_130.2.2.2.1
theorem dL_law_1426 : decode cL_law 1426 = .ok (.aload_n 0, 1) := dcL_law_130.2.2.2.2.1
theorem dL_law_1427 : decode cL_law 1427 = .ok (.iload_n 3, 1) := dcL_law_130.2.2.2.2.2.1
theorem dL_law_1428 : decode cL_law 1428 = .ok (.iconst 2, 1) := dcL_law_130.2.2.2.2.2.2.1
theorem dL_law_1429 : decode cL_law 1429 = .ok (.iadd, 1) := dcL_law_130.2.2.2.2.2.2.2
theorem dcL_law_131 : (decode cL_law 1430 = .ok (.iaload, 1)) ∧ (decode cL_law 1431 = .ok (.invokevirtual 161, 3)) ∧ (decode cL_law 1434 = .ok (.aload_n 2, 1)) ∧ (decode cL_law 1435 = .ok (.aload_n 0, 1)) ∧ (decode cL_law 1436 = .ok (.iload_n 3, 1)) ∧ (decode cL_law 1437 = .ok (.iconst 1, 1)) ∧ (decode cL_law 1438 = .ok (.iadd, 1)) ∧ (decode cL_law 1439 = .ok (.iaload, 1)) := by decide +kernel
theorem dL_law_1430 : decode cL_law 1430 = .ok (.iaload, 1) := dcL_law_131.1
theorem dL_law_1431 : decode cL_law 1431 = .ok (.invokevirtual 161, 3) := dcL_law_131.2.1
theorem dL_law_1434 : decode cL_law 1434 = .ok (.aload_n 2, 1) := dcL_law_131.2.2.1
theorem dL_law_1435 : decode cL_law 1435 = .ok (.aload_n 0, 1) := dcL_law_131.2.2.2.1
theorem dL_law_1436 : decode cL_law 1436 = .ok (.iload_n 3, 1) := dcL_law_131.2.2.2.2.1
theorem dL_law_1437 : decode cL_law 1437 = .ok (.iconst 1, 1) := dcL_law_131.2.2.2.2.2.1
theorem dL_law_1438 : decode cL_law 1438 = .ok (.iadd, 1) := dcL_law_131.2.2.2.2.2.2.1
theorem dL_law_1439 : decode cL_law 1439 = .ok (.iaload, 1) := dcL_law_131.2.2.2.2.2.2.2
theorem dcL_law_132 : (decode cL_law 1440 = .ok (.aload_n 0, 1)) ∧ (decode cL_law 1441 = .ok (.iload_n 3, 1)) ∧ (decode cL_law 1442 = .ok (.iconst 2, 1)) ∧ (decode cL_law 1443 = .ok (.iadd, 1)) ∧ (decode cL_law 1444 = .ok (.iaload, 1)) ∧ (decode cL_law 1445 = .ok (.invokevirtual 164, 3)) ∧ (decode cL_law 1448 = .ok (.if_icmp .eq 5, 3)) ∧ (decode cL_law 1451 = .ok (.iconst 0, 1)) := by decide +kernel
theorem dL_law_1440 : decode cL_law 1440 = .ok (.aload_n 0, 1) := dcL_law_132.1
theorem dL_law_1441 : decode cL_law 1441 = .ok (.iload_n 3, 1) := dcL_law_132.2.1
theorem dL_law_1442 : decode cL_law 1442 = .ok (.iconst 2, 1) := dcL_law_132.2.2.1
theorem dL_law_1443 : decode cL_law 1443 = .ok (.iadd, 1) := dcL_law_132.2.2.2.1
theorem dL_law_1444 : decode cL_law 1444 = .ok (.iaload, 1) := dcL_law_132.2.2.2.2.1
theorem dL_law_1445 : decode cL_law 1445 = .ok (.invokevirtual 164, 3) := dcL_law_132.2.2.2.2.2.1
theorem dL_law_1448 : decode cL_law 1448 = .ok (.if_icmp .eq 5, 3) := dcL_law_132.2.2.2.2.2.2.1
theorem dL_law_1451 : decode cL_law 1451 = .ok (.iconst 0, 1) := dcL_law_132.2.2.2.2.2.2.2
theorem dcL_law_133 : (decode cL_law 1452 = .ok (.ireturn, 1)) ∧ (decode cL_law 1453 = .ok (.iinc 3 7, 3)) ∧ (decode cL_law 1456 = .ok (.goto (-1438), 3)) ∧ (decode cL_law 1459 = .ok (.iconst 1, 1)) ∧ (decode cL_law 1460 = .ok (.ireturn, 1)) := by decide +kernel
theorem dL_law_1452 : decode cL_law 1452 = .ok (.ireturn, 1) := dcL_law_133.1
theorem dL_law_1453 : decode cL_law 1453 = .ok (.iinc 3 7, 3) := dcL_law_133.2.1
theorem dL_law_1456 : decode cL_law 1456 = .ok (.goto (-1438), 3) := dcL_law_133.2.2.1
theorem dL_law_1459 : decode cL_law 1459 = .ok (.iconst 1, 1) := dcL_law_133.2.2.2.1
theorem dL_law_1460 : decode cL_law 1460 = .ok (.ireturn, 1) := dcL_law_133.2.2.2.2
