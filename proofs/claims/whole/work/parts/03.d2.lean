theorem dX11_joins_47 : decode cX11_joins 47 = .ok (.ireturn, 1) := dcX11_joins_3.2.2.1
theorem dX11_joins_48 : decode cX11_joins 48 = .ok (.aload_n 0, 1) := dcX11_joins_3.2.2.2.1
theorem dX11_joins_49 : decode cX11_joins 49 = .ok (.getfield 37, 3) := dcX11_joins_3.2.2.2.2.1
theorem dX11_joins_52 : decode cX11_joins 52 = .ok (.iload_n 3, 1) := dcX11_joins_3.2.2.2.2.2.1
theorem dX11_joins_53 : decode cX11_joins 53 = .ok (.aaload, 1) := dcX11_joins_3.2.2.2.2.2.2.1
theorem dX11_joins_54 : decode cX11_joins 54 = .ok (.aload_n 0, 1) := dcX11_joins_3.2.2.2.2.2.2.2
theorem dcX11_joins_4 : (decode cX11_joins 55 = .ok (.getfield 55, 3)) ∧ (decode cX11_joins 58 = .ok (.aload_n 0, 1)) ∧ (decode cX11_joins 59 = .ok (.getfield 93, 3)) ∧ (decode cX11_joins 62 = .ok (.aaload, 1)) ∧ (decode cX11_joins 63 = .ok (.aload_n 0, 1)) ∧ (decode cX11_joins 64 = .ok (.getfield 84, 3)) ∧ (decode cX11_joins 67 = .ok (.invokevirtual 160, 3)) ∧ (decode cX11_joins 70 = .ok (.istore 5, 2)) := by decide +kernel
theorem dX11_joins_55 : decode cX11_joins 55 = .ok (.getfield 55, 3) := dcX11_joins_4.1
theorem dX11_joins_58 : decode cX11_joins 58 = .ok (.aload_n 0, 1) := dcX11_joins_4.2.1
theorem dX11_joins_59 : decode cX11_joins 59 = .ok (.getfield 93, 3) := dcX11_joins_4.2.2.1
theorem dX11_joins_62 : decode cX11_joins 62 = .ok (.aaload, 1) := dcX11_joins_4.2.2.2.1
theorem dX11_joins_63 : decode cX11_joins 63 = .ok (.aload_n 0, 1) := dcX11_joins_4.2.2.2.2.1
theorem dX11_joins_64 : decode cX11_joins 64 = .ok (.getfield 84, 3) := dcX11_joins_4.2.2.2.2.2.1
theorem dX11_joins_67 : decode cX11_joins 67 = .ok (.invokevirtual 160, 3) := dcX11_joins_4.2.2.2.2.2.2.1
theorem dX11_joins_70 : decode cX11_joins 70 = .ok (.istore 5, 2) := dcX11_joins_4.2.2.2.2.2.2.2
theorem dcX11_joins_5 : (decode cX11_joins 72 = .ok (.aload_n 0, 1)) ∧ (decode cX11_joins 73 = .ok (.getfield 37, 3)) ∧ (decode cX11_joins 76 = .ok (.iload 4, 2)) ∧ (decode cX11_joins 78 = .ok (.aaload, 1)) ∧ (decode cX11_joins 79 = .ok (.aload_n 0, 1)) ∧ (decode cX11_joins 80 = .ok (.getfield 55, 3)) ∧ (decode cX11_joins 83 = .ok (.aload_n 0, 1)) ∧ (decode cX11_joins 84 = .ok (.getfield 93, 3)) := by decide +kernel
theorem dX11_joins_72 : decode cX11_joins 72 = .ok (.aload_n 0, 1) := dcX11_joins_5.1
theorem dX11_joins_73 : decode cX11_joins 73 = .ok (.getfield 37, 3) := dcX11_joins_5.2.1
theorem dX11_joins_76 : decode cX11_joins 76 = .ok (.iload 4, 2) := dcX11_joins_5.2.2.1
theorem dX11_joins_78 : decode cX11_joins 78 = .ok (.aaload, 1) := dcX11_joins_5.2.2.2.1
theorem dX11_joins_79 : decode cX11_joins 79 = .ok (.aload_n 0, 1) := dcX11_joins_5.2.2.2.2.1
theorem dX11_joins_80 : decode cX11_joins 80 = .ok (.getfield 55, 3) := dcX11_joins_5.2.2.2.2.2.1
theorem dX11_joins_83 : decode cX11_joins 83 = .ok (.aload_n 0, 1) := dcX11_joins_5.2.2.2.2.2.2.1
theorem dX11_joins_84 : decode cX11_joins 84 = .ok (.getfield 93, 3) := dcX11_joins_5.2.2.2.2.2.2.2
theorem dcX11_joins_6 : (decode cX11_joins 87 = .ok (.aaload, 1)) ∧ (decode cX11_joins 88 = .ok (.aload_n 0, 1)) ∧ (decode cX11_joins 89 = .ok (.getfield 84, 3)) ∧ (decode cX11_joins 92 = .ok (.invokevirtual 160, 3)) ∧ (decode cX11_joins 95 = .ok (.istore 6, 2)) ∧ (decode cX11_joins 97 = .ok (.iconst 0, 1)) ∧ (decode cX11_joins 98 = .ok (.istore 7, 2)) ∧ (decode cX11_joins 100 = .ok (.iconst (-1), 1)) := by decide +kernel
theorem dX11_joins_87 : decode cX11_joins 87 = .ok (.aaload, 1) := dcX11_joins_6.1
theorem dX11_joins_88 : decode cX11_joins 88 = .ok (.aload_n 0, 1) := dcX11_joins_6.2.1
theorem dX11_joins_89 : decode cX11_joins 89 = .ok (.getfield 84, 3) := dcX11_joins_6.2.2.1
theorem dX11_joins_92 : decode cX11_joins 92 = .ok (.invokevirtual 160, 3) := dcX11_joins_6.2.2.2.1
theorem dX11_joins_95 : decode cX11_joins 95 = .ok (.istore 6, 2) := dcX11_joins_6.2.2.2.2.1
theorem dX11_joins_97 : decode cX11_joins 97 = .ok (.iconst 0, 1) := dcX11_joins_6.2.2.2.2.2.1
theorem dX11_joins_98 : decode cX11_joins 98 = .ok (.istore 7, 2) := dcX11_joins_6.2.2.2.2.2.2.1
theorem dX11_joins_100 : decode cX11_joins 100 = .ok (.iconst (-1), 1) := dcX11_joins_6.2.2.2.2.2.2.2
theorem dcX11_joins_7 : (decode cX11_joins 101 = .ok (.istore 8, 2)) ∧ (decode cX11_joins 103 = .ok (.bipush (-3), 2)) ∧ (decode cX11_joins 105 = .ok (.istore 9, 2)) ∧ (decode cX11_joins 107 = .ok (.iload 9, 2)) ∧ (decode cX11_joins 109 = .ok (.iconst 3, 1)) ∧ (decode cX11_joins 110 = .ok (.if_icmp .gt 80, 3)) ∧ (decode cX11_joins 113 = .ok (.bipush (-3), 2)) ∧ (decode cX11_joins 115 = .ok (.istore 10, 2)) := by decide +kernel
theorem dX11_joins_101 : decode cX11_joins 101 = .ok (.istore 8, 2) := dcX11_joins_7.1
theorem dX11_joins_103 : decode cX11_joins 103 = .ok (.bipush (-3), 2) := dcX11_joins_7.2.1
theorem dX11_joins_105 : decode cX11_joins 105 = .ok (.istore 9, 2) := dcX11_joins_7.2.2.1
theorem dX11_joins_107 : decode cX11_joins 107 = .ok (.iload 9, 2) := dcX11_joins_7.2.2.2.1
theorem dX11_joins_109 : decode cX11_joins 109 = .ok (.iconst 3, 1) := dcX11_joins_7.2.2.2.2.1
theorem dX11_joins_110 : decode cX11_joins 110 = .ok (.if_icmp .gt 80, 3) := dcX11_joins_7.2.2.2.2.2.1
theorem dX11_joins_113 : decode cX11_joins 113 = .ok (.bipush (-3), 2) := dcX11_joins_7.2.2.2.2.2.2.1
theorem dX11_joins_115 : decode cX11_joins 115 = .ok (.istore 10, 2) := dcX11_joins_7.2.2.2.2.2.2.2
theorem dcX11_joins_8 : (decode cX11_joins 117 = .ok (.iload 10, 2)) ∧ (decode cX11_joins 119 = .ok (.iconst 3, 1)) ∧ (decode cX11_joins 120 = .ok (.if_icmp .gt 64, 3)) ∧ (decode cX11_joins 123 = .ok (.aload_n 0, 1)) ∧ (decode cX11_joins 124 = .ok (.getfield 37, 3)) ∧ (decode cX11_joins 127 = .ok (.iload_n 3, 1)) ∧ (decode cX11_joins 128 = .ok (.aaload, 1)) ∧ (decode cX11_joins 129 = .ok (.iload 5, 2)) := by decide +kernel
theorem dX11_joins_117 : decode cX11_joins 117 = .ok (.iload 10, 2) := dcX11_joins_8.1
theorem dX11_joins_119 : decode cX11_joins 119 = .ok (.iconst 3, 1) := dcX11_joins_8.2.1
theorem dX11_joins_120 : decode cX11_joins 120 = .ok (.if_icmp .gt 64, 3) := dcX11_joins_8.2.2.1
theorem dX11_joins_123 : decode cX11_joins 123 = .ok (.aload_n 0, 1) := dcX11_joins_8.2.2.2.1
theorem dX11_joins_124 : decode cX11_joins 124 = .ok (.getfield 37, 3) := dcX11_joins_8.2.2.2.2.1
theorem dX11_joins_127 : decode cX11_joins 127 = .ok (.iload_n 3, 1) := dcX11_joins_8.2.2.2.2.2.1
theorem dX11_joins_128 : decode cX11_joins 128 = .ok (.aaload, 1) := dcX11_joins_8.2.2.2.2.2.2.1
theorem dX11_joins_129 : decode cX11_joins 129 = .ok (.iload 5, 2) := dcX11_joins_8.2.2.2.2.2.2.2
theorem dcX11_joins_9 : (decode cX11_joins 131 = .ok (.aload_n 0, 1)) ∧ (decode cX11_joins 132 = .ok (.getfield 37, 3)) ∧ (decode cX11_joins 135 = .ok (.iload 4, 2)) ∧ (decode cX11_joins 137 = .ok (.aaload, 1)) ∧ (decode cX11_joins 138 = .ok (.iload 6, 2)) ∧ (decode cX11_joins 140 = .ok (.iload 9, 2)) ∧ (decode cX11_joins 142 = .ok (.iload 10, 2)) ∧ (decode cX11_joins 144 = .ok (.invokestatic 207, 3)) := by decide +kernel
theorem dX11_joins_131 : decode cX11_joins 131 = .ok (.aload_n 0, 1) := dcX11_joins_9.1
theorem dX11_joins_132 : decode cX11_joins 132 = .ok (.getfield 37, 3) := dcX11_joins_9.2.1
theorem dX11_joins_135 : decode cX11_joins 135 = .ok (.iload 4, 2) := dcX11_joins_9.2.2.1
theorem dX11_joins_137 : decode cX11_joins 137 = .ok (.aaload, 1) := dcX11_joins_9.2.2.2.1
theorem dX11_joins_138 : decode cX11_joins 138 = .ok (.iload 6, 2) := dcX11_joins_9.2.2.2.2.1
theorem dX11_joins_140 : decode cX11_joins 140 = .ok (.iload 9, 2) := dcX11_joins_9.2.2.2.2.2.1
theorem dX11_joins_142 : decode cX11_joins 142 = .ok (.iload 10, 2) := dcX11_joins_9.2.2.2.2.2.2.1
theorem dX11_joins_144 : decode cX11_joins 144 = .ok (.invokestatic 207, 3) := dcX11_joins_9.2.2.2.2.2.2.2
theorem dcX11_joins_10 : (decode cX11_joins 147 = .ok (.ifCond .ne 31, 3)) ∧ (decode cX11_joins 150 = .ok (.iinc 7 1, 3)) ∧ (decode cX11_joins 153 = .ok (.iload 8, 2)) ∧ (decode cX11_joins 155 = .ok (.iconst (-1), 1)) ∧ (decode cX11_joins 156 = .ok (.if_icmp .ne 18, 3)) ∧ (decode cX11_joins 159 = .ok (.bipush 10, 2)) ∧ (decode cX11_joins 161 = .ok (.iload 9, 2)) ∧ (decode cX11_joins 163 = .ok (.iconst 3, 1)) := by decide +kernel
theorem dX11_joins_147 : decode cX11_joins 147 = .ok (.ifCond .ne 31, 3) := dcX11_joins_10.1
theorem dX11_joins_150 : decode cX11_joins 150 = .ok (.iinc 7 1, 3) := dcX11_joins_10.2.1
theorem dX11_joins_153 : decode cX11_joins 153 = .ok (.iload 8, 2) := dcX11_joins_10.2.2.1
theorem dX11_joins_155 : decode cX11_joins 155 = .ok (.iconst (-1), 1) := dcX11_joins_10.2.2.2.1
theorem dX11_joins_156 : decode cX11_joins 156 = .ok (.if_icmp .ne 18, 3) := dcX11_joins_10.2.2.2.2.1
theorem dX11_joins_159 : decode cX11_joins 159 = .ok (.bipush 10, 2) := dcX11_joins_10.2.2.2.2.2.1
theorem dX11_joins_161 : decode cX11_joins 161 = .ok (.iload 9, 2) := dcX11_joins_10.2.2.2.2.2.2.1
theorem dX11_joins_163 : decode cX11_joins 163 = .ok (.iconst 3, 1) := dcX11_joins_10.2.2.2.2.2.2.2
theorem dcX11_joins_11 : (decode cX11_joins 164 = .ok (.iadd, 1)) ∧ (decode cX11_joins 165 = .ok (.imul, 1)) ∧ (decode cX11_joins 166 = .ok (.iload 10, 2)) ∧ (decode cX11_joins 168 = .ok (.iadd, 1)) ∧ (decode cX11_joins 169 = .ok (.iconst 3, 1)) ∧ (decode cX11_joins 170 = .ok (.iadd, 1)) ∧ (decode cX11_joins 171 = .ok (.goto 5, 3)) ∧ (decode cX11_joins 174 = .ok (.iload 8, 2)) := by decide +kernel
theorem dX11_joins_164 : decode cX11_joins 164 = .ok (.iadd, 1) := dcX11_joins_11.1
theorem dX11_joins_165 : decode cX11_joins 165 = .ok (.imul, 1) := dcX11_joins_11.2.1
theorem dX11_joins_166 : decode cX11_joins 166 = .ok (.iload 10, 2) := dcX11_joins_11.2.2.1
theorem dX11_joins_168 : decode cX11_joins 168 = .ok (.iadd, 1) := dcX11_joins_11.2.2.2.1
theorem dX11_joins_169 : decode cX11_joins 169 = .ok (.iconst 3, 1) := dcX11_joins_11.2.2.2.2.1
theorem dX11_joins_170 : decode cX11_joins 170 = .ok (.iadd, 1) := dcX11_joins_11.2.2.2.2.2.1
theorem dX11_joins_171 : decode cX11_joins 171 = .ok (.goto 5, 3) := dcX11_joins_11.2.2.2.2.2.2.1
theorem dX11_joins_174 : decode cX11_joins 174 = .ok (.iload 8, 2) := dcX11_joins_11.2.2.2.2.2.2.2
theorem dcX11_joins_12 : (decode cX11_joins 176 = .ok (.istore 8, 2)) ∧ (decode cX11_joins 178 = .ok (.iinc 10 1, 3)) ∧ (decode cX11_joins 181 = .ok (.goto (-64), 3)) ∧ (decode cX11_joins 184 = .ok (.iinc 9 1, 3)) ∧ (decode cX11_joins 187 = .ok (.goto (-80), 3)) ∧ (decode cX11_joins 190 = .ok (.iload_n 2, 1)) ∧ (decode cX11_joins 191 = .ok (.ifCond .ne 8, 3)) ∧ (decode cX11_joins 194 = .ok (.iload 7, 2)) := by decide +kernel
theorem dX11_joins_176 : decode cX11_joins 176 = .ok (.istore 8, 2) := dcX11_joins_12.1
theorem dX11_joins_178 : decode cX11_joins 178 = .ok (.iinc 10 1, 3) := dcX11_joins_12.2.1
theorem dX11_joins_181 : decode cX11_joins 181 = .ok (.goto (-64), 3) := dcX11_joins_12.2.2.1
theorem dX11_joins_184 : decode cX11_joins 184 = .ok (.iinc 9 1, 3) := dcX11_joins_12.2.2.2.1
theorem dX11_joins_187 : decode cX11_joins 187 = .ok (.goto (-80), 3) := dcX11_joins_12.2.2.2.2.1
theorem dX11_joins_190 : decode cX11_joins 190 = .ok (.iload_n 2, 1) := dcX11_joins_12.2.2.2.2.2.1
theorem dX11_joins_191 : decode cX11_joins 191 = .ok (.ifCond .ne 8, 3) := dcX11_joins_12.2.2.2.2.2.2.1
theorem dX11_joins_194 : decode cX11_joins 194 = .ok (.iload 7, 2) := dcX11_joins_12.2.2.2.2.2.2.2
theorem dcX11_joins_13 : (decode cX11_joins 196 = .ok (.goto 5, 3)) ∧ (decode cX11_joins 199 = .ok (.iload 8, 2)) ∧ (decode cX11_joins 201 = .ok (.ireturn, 1)) := by decide +kernel
theorem dX11_joins_196 : decode cX11_joins 196 = .ok (.goto 5, 3) := dcX11_joins_13.1
theorem dX11_joins_199 : decode cX11_joins 199 = .ok (.iload 8, 2) := dcX11_joins_13.2.1
theorem dX11_joins_201 : decode cX11_joins 201 = .ok (.ireturn, 1) := dcX11_joins_13.2.2
theorem dcX11_judge_0 : (decode cX11_judge 0 = .ok (.aload_n 0, 1)) ∧ (decode cX11_judge 1 = .ok (.iload_n 1, 1)) ∧ (decode cX11_judge 2 = .ok (.iload_n 2, 1)) ∧ (decode cX11_judge 3 = .ok (.invokevirtual 211, 3)) ∧ (decode cX11_judge 6 = .ok (.istore_n 3, 1)) ∧ (decode cX11_judge 7 = .ok (.iload_n 3, 1)) ∧ (decode cX11_judge 8 = .ok (.ifCond .eq 5, 3)) ∧ (decode cX11_judge 11 = .ok (.iload_n 3, 1)) := by decide +kernel
theorem dX11_judge_0 : decode cX11_judge 0 = .ok (.aload_n 0, 1) := dcX11_judge_0.1
theorem dX11_judge_1 : decode cX11_judge 1 = .ok (.iload_n 1, 1) := dcX11_judge_0.2.1
theorem dX11_judge_2 : decode cX11_judge 2 = .ok (.iload_n 2, 1) := dcX11_judge_0.2.2.1
theorem dX11_judge_3 : decode cX11_judge 3 = .ok (.invokevirtual 211, 3) := dcX11_judge_0.2.2.2.1
theorem dX11_judge_6 : decode cX11_judge 6 = .ok (.istore_n 3, 1) := dcX11_judge_0.2.2.2.2.1
theorem dX11_judge_7 : decode cX11_judge 7 = .ok (.iload_n 3, 1) := dcX11_judge_0.2.2.2.2.2.1
theorem dX11_judge_8 : decode cX11_judge 8 = .ok (.ifCond .eq 5, 3) := dcX11_judge_0.2.2.2.2.2.2.1
theorem dX11_judge_11 : decode cX11_judge 11 = .ok (.iload_n 3, 1) := dcX11_judge_0.2.2.2.2.2.2.2
theorem dcX11_judge_1 : (decode cX11_judge 12 = .ok (.ireturn, 1)) ∧ (decode cX11_judge 13 = .ok (.aload_n 0, 1)) ∧ (decode cX11_judge 14 = .ok (.aload_n 0, 1)) ∧ (decode cX11_judge 15 = .ok (.getfield 69, 3)) ∧ (decode cX11_judge 18 = .ok (.iload_n 1, 1)) ∧ (decode cX11_judge 19 = .ok (.aaload, 1)) ∧ (decode cX11_judge 20 = .ok (.aload_n 0, 1)) ∧ (decode cX11_judge 21 = .ok (.iload_n 2, 1)) := by decide +kernel
theorem dX11_judge_12 : decode cX11_judge 12 = .ok (.ireturn, 1) := dcX11_judge_1.1
theorem dX11_judge_13 : decode cX11_judge 13 = .ok (.aload_n 0, 1) := dcX11_judge_1.2.1
theorem dX11_judge_14 : decode cX11_judge 14 = .ok (.aload_n 0, 1) := dcX11_judge_1.2.2.1
theorem dX11_judge_15 : decode cX11_judge 15 = .ok (.getfield 69, 3) := dcX11_judge_1.2.2.2.1
theorem dX11_judge_18 : decode cX11_judge 18 = .ok (.iload_n 1, 1) := dcX11_judge_1.2.2.2.2.1
theorem dX11_judge_19 : decode cX11_judge 19 = .ok (.aaload, 1) := dcX11_judge_1.2.2.2.2.2.1
theorem dX11_judge_20 : decode cX11_judge 20 = .ok (.aload_n 0, 1) := dcX11_judge_1.2.2.2.2.2.2.1
theorem dX11_judge_21 : decode cX11_judge 21 = .ok (.iload_n 2, 1) := dcX11_judge_1.2.2.2.2.2.2.2
theorem dcX11_judge_2 : (decode cX11_judge 22 = .ok (.invokevirtual 184, 3)) ∧ (decode cX11_judge 25 = .ok (.aload_n 0, 1)) ∧ (decode cX11_judge 26 = .ok (.getfield 55, 3)) ∧ (decode cX11_judge 29 = .ok (.aload_n 0, 1)) ∧ (decode cX11_judge 30 = .ok (.getfield 93, 3)) ∧ (decode cX11_judge 33 = .ok (.aaload, 1)) ∧ (decode cX11_judge 34 = .ok (.invokevirtual 214, 3)) ∧ (decode cX11_judge 37 = .ok (.ireturn, 1)) := by decide +kernel
theorem dX11_judge_22 : decode cX11_judge 22 = .ok (.invokevirtual 184, 3) := dcX11_judge_2.1
theorem dX11_judge_25 : decode cX11_judge 25 = .ok (.aload_n 0, 1) := dcX11_judge_2.2.1
theorem dX11_judge_26 : decode cX11_judge 26 = .ok (.getfield 55, 3) := dcX11_judge_2.2.2.1
theorem dX11_judge_29 : decode cX11_judge 29 = .ok (.aload_n 0, 1) := dcX11_judge_2.2.2.2.1
theorem dX11_judge_30 : decode cX11_judge 30 = .ok (.getfield 93, 3) := dcX11_judge_2.2.2.2.2.1
theorem dX11_judge_33 : decode cX11_judge 33 = .ok (.aaload, 1) := dcX11_judge_2.2.2.2.2.2.1
theorem dX11_judge_34 : decode cX11_judge 34 = .ok (.invokevirtual 214, 3) := dcX11_judge_2.2.2.2.2.2.2.1
theorem dX11_judge_37 : decode cX11_judge 37 = .ok (.ireturn, 1) := dcX11_judge_2.2.2.2.2.2.2.2
theorem dcX11_kinds_0 : (decode cX11_kinds 0 = .ok (.aload_n 0, 1)) ∧ (decode cX11_kinds 1 = .ok (.iload_n 1, 1)) ∧ (decode cX11_kinds 2 = .ok (.iload_n 2, 1)) ∧ (decode cX11_kinds 3 = .ok (.invokevirtual 211, 3)) ∧ (decode cX11_kinds 6 = .ok (.istore 4, 2)) ∧ (decode cX11_kinds 8 = .ok (.iload 4, 2)) ∧ (decode cX11_kinds 10 = .ok (.ifCond .eq 6, 3)) ∧ (decode cX11_kinds 13 = .ok (.iload 4, 2)) := by decide +kernel
theorem dX11_kinds_0 : decode cX11_kinds 0 = .ok (.aload_n 0, 1) := dcX11_kinds_0.1
theorem dX11_kinds_1 : decode cX11_kinds 1 = .ok (.iload_n 1, 1) := dcX11_kinds_0.2.1
theorem dX11_kinds_2 : decode cX11_kinds 2 = .ok (.iload_n 2, 1) := dcX11_kinds_0.2.2.1
theorem dX11_kinds_3 : decode cX11_kinds 3 = .ok (.invokevirtual 211, 3) := dcX11_kinds_0.2.2.2.1
theorem dX11_kinds_6 : decode cX11_kinds 6 = .ok (.istore 4, 2) := dcX11_kinds_0.2.2.2.2.1
theorem dX11_kinds_8 : decode cX11_kinds 8 = .ok (.iload 4, 2) := dcX11_kinds_0.2.2.2.2.2.1
theorem dX11_kinds_10 : decode cX11_kinds 10 = .ok (.ifCond .eq 6, 3) := dcX11_kinds_0.2.2.2.2.2.2.1
theorem dX11_kinds_13 : decode cX11_kinds 13 = .ok (.iload 4, 2) := dcX11_kinds_0.2.2.2.2.2.2.2
theorem dcX11_kinds_1 : (decode cX11_kinds 15 = .ok (.ireturn, 1)) ∧ (decode cX11_kinds 16 = .ok (.iload_n 3, 1)) ∧ (decode cX11_kinds 17 = .ok (.iconst 1, 1)) ∧ (decode cX11_kinds 18 = .ok (.invokestatic 107, 3)) ∧ (decode cX11_kinds 21 = .ok (.ifCond .ne 6, 3)) ∧ (decode cX11_kinds 24 = .ok (.bipush (-7), 2)) ∧ (decode cX11_kinds 26 = .ok (.ireturn, 1)) ∧ (decode cX11_kinds 27 = .ok (.iconst 0, 1)) := by decide +kernel
theorem dX11_kinds_15 : decode cX11_kinds 15 = .ok (.ireturn, 1) := dcX11_kinds_1.1
theorem dX11_kinds_16 : decode cX11_kinds 16 = .ok (.iload_n 3, 1) := dcX11_kinds_1.2.1
theorem dX11_kinds_17 : decode cX11_kinds 17 = .ok (.iconst 1, 1) := dcX11_kinds_1.2.2.1
theorem dX11_kinds_18 : decode cX11_kinds 18 = .ok (.invokestatic 107, 3) := dcX11_kinds_1.2.2.2.1
theorem dX11_kinds_21 : decode cX11_kinds 21 = .ok (.ifCond .ne 6, 3) := dcX11_kinds_1.2.2.2.2.1
theorem dX11_kinds_24 : decode cX11_kinds 24 = .ok (.bipush (-7), 2) := dcX11_kinds_1.2.2.2.2.2.1
theorem dX11_kinds_26 : decode cX11_kinds 26 = .ok (.ireturn, 1) := dcX11_kinds_1.2.2.2.2.2.2.1
theorem dX11_kinds_27 : decode cX11_kinds 27 = .ok (.iconst 0, 1) := dcX11_kinds_1.2.2.2.2.2.2.2
theorem dcX11_kinds_2 : (decode cX11_kinds 28 = .ok (.istore 5, 2)) ∧ (decode cX11_kinds 30 = .ok (.iload_n 3, 1)) ∧ (decode cX11_kinds 31 = .ok (.ifCond .ne 8, 3)) ∧ (decode cX11_kinds 34 = .ok (.bipush 6, 2)) ∧ (decode cX11_kinds 36 = .ok (.goto 5, 3)) ∧ (decode cX11_kinds 39 = .ok (.bipush 10, 2)) ∧ (decode cX11_kinds 41 = .ok (.istore 6, 2)) ∧ (decode cX11_kinds 43 = .ok (.iconst 0, 1)) := by decide +kernel
theorem dX11_kinds_28 : decode cX11_kinds 28 = .ok (.istore 5, 2) := dcX11_kinds_2.1
theorem dX11_kinds_30 : decode cX11_kinds 30 = .ok (.iload_n 3, 1) := dcX11_kinds_2.2.1
theorem dX11_kinds_31 : decode cX11_kinds 31 = .ok (.ifCond .ne 8, 3) := dcX11_kinds_2.2.2.1
theorem dX11_kinds_34 : decode cX11_kinds 34 = .ok (.bipush 6, 2) := dcX11_kinds_2.2.2.2.1
theorem dX11_kinds_36 : decode cX11_kinds 36 = .ok (.goto 5, 3) := dcX11_kinds_2.2.2.2.2.1
theorem dX11_kinds_39 : decode cX11_kinds 39 = .ok (.bipush 10, 2) := dcX11_kinds_2.2.2.2.2.2.1
theorem dX11_kinds_41 : decode cX11_kinds 41 = .ok (.istore 6, 2) := dcX11_kinds_2.2.2.2.2.2.2.1
theorem dX11_kinds_43 : decode cX11_kinds 43 = .ok (.iconst 0, 1) := dcX11_kinds_2.2.2.2.2.2.2.2
theorem dcX11_kinds_3 : (decode cX11_kinds 44 = .ok (.istore 7, 2)) ∧ (decode cX11_kinds 46 = .ok (.iload 7, 2)) ∧ (decode cX11_kinds 48 = .ok (.iload 6, 2)) ∧ (decode cX11_kinds 50 = .ok (.if_icmp .ge 76, 3)) ∧ (decode cX11_kinds 53 = .ok (.aload_n 0, 1)) ∧ (decode cX11_kinds 54 = .ok (.iload_n 2, 1)) ∧ (decode cX11_kinds 55 = .ok (.invokevirtual 184, 3)) ∧ (decode cX11_kinds 58 = .ok (.astore 8, 2)) := by decide +kernel
theorem dX11_kinds_44 : decode cX11_kinds 44 = .ok (.istore 7, 2) := dcX11_kinds_3.1
theorem dX11_kinds_46 : decode cX11_kinds 46 = .ok (.iload 7, 2) := dcX11_kinds_3.2.1
theorem dX11_kinds_48 : decode cX11_kinds 48 = .ok (.iload 6, 2) := dcX11_kinds_3.2.2.1
theorem dX11_kinds_50 : decode cX11_kinds 50 = .ok (.if_icmp .ge 76, 3) := dcX11_kinds_3.2.2.2.1
theorem dX11_kinds_53 : decode cX11_kinds 53 = .ok (.aload_n 0, 1) := dcX11_kinds_3.2.2.2.2.1
theorem dX11_kinds_54 : decode cX11_kinds 54 = .ok (.iload_n 2, 1) := dcX11_kinds_3.2.2.2.2.2.1
theorem dX11_kinds_55 : decode cX11_kinds 55 = .ok (.invokevirtual 184, 3) := dcX11_kinds_3.2.2.2.2.2.2.1
theorem dX11_kinds_58 : decode cX11_kinds 58 = .ok (.astore 8, 2) := dcX11_kinds_3.2.2.2.2.2.2.2
theorem dcX11_kinds_4 : (decode cX11_kinds 60 = .ok (.iload_n 3, 1)) ∧ (decode cX11_kinds 61 = .ok (.ifCond .ne 18, 3)) ∧ (decode cX11_kinds 64 = .ok (.aload 8, 2)) ∧ (decode cX11_kinds 66 = .ok (.aload_n 0, 1)) ∧ (decode cX11_kinds 67 = .ok (.getfield 29, 3)) ∧ (decode cX11_kinds 70 = .ok (.iload 7, 2)) ∧ (decode cX11_kinds 72 = .ok (.aaload, 1)) ∧ (decode cX11_kinds 73 = .ok (.putfield 137, 3)) := by decide +kernel
theorem dX11_kinds_60 : decode cX11_kinds 60 = .ok (.iload_n 3, 1) := dcX11_kinds_4.1
theorem dX11_kinds_61 : decode cX11_kinds 61 = .ok (.ifCond .ne 18, 3) := dcX11_kinds_4.2.1
theorem dX11_kinds_64 : decode cX11_kinds 64 = .ok (.aload 8, 2) := dcX11_kinds_4.2.2.1
theorem dX11_kinds_66 : decode cX11_kinds 66 = .ok (.aload_n 0, 1) := dcX11_kinds_4.2.2.2.1
theorem dX11_kinds_67 : decode cX11_kinds 67 = .ok (.getfield 29, 3) := dcX11_kinds_4.2.2.2.2.1
theorem dX11_kinds_70 : decode cX11_kinds 70 = .ok (.iload 7, 2) := dcX11_kinds_4.2.2.2.2.2.1
theorem dX11_kinds_72 : decode cX11_kinds 72 = .ok (.aaload, 1) := dcX11_kinds_4.2.2.2.2.2.2.1
theorem dX11_kinds_73 : decode cX11_kinds 73 = .ok (.putfield 137, 3) := dcX11_kinds_4.2.2.2.2.2.2.2
theorem dcX11_kinds_5 : (decode cX11_kinds 76 = .ok (.goto 10, 3)) ∧ (decode cX11_kinds 79 = .ok (.aload 8, 2)) ∧ (decode cX11_kinds 81 = .ok (.iload 7, 2)) ∧ (decode cX11_kinds 83 = .ok (.putfield 141, 3)) ∧ (decode cX11_kinds 86 = .ok (.aload_n 0, 1)) ∧ (decode cX11_kinds 87 = .ok (.aload_n 0, 1)) ∧ (decode cX11_kinds 88 = .ok (.getfield 69, 3)) ∧ (decode cX11_kinds 91 = .ok (.iload_n 1, 1)) := by decide +kernel
theorem dX11_kinds_76 : decode cX11_kinds 76 = .ok (.goto 10, 3) := dcX11_kinds_5.1
theorem dX11_kinds_79 : decode cX11_kinds 79 = .ok (.aload 8, 2) := dcX11_kinds_5.2.1
theorem dX11_kinds_81 : decode cX11_kinds 81 = .ok (.iload 7, 2) := dcX11_kinds_5.2.2.1
theorem dX11_kinds_83 : decode cX11_kinds 83 = .ok (.putfield 141, 3) := dcX11_kinds_5.2.2.2.1
theorem dX11_kinds_86 : decode cX11_kinds 86 = .ok (.aload_n 0, 1) := dcX11_kinds_5.2.2.2.2.1
theorem dX11_kinds_87 : decode cX11_kinds 87 = .ok (.aload_n 0, 1) := dcX11_kinds_5.2.2.2.2.2.1
theorem dX11_kinds_88 : decode cX11_kinds 88 = .ok (.getfield 69, 3) := dcX11_kinds_5.2.2.2.2.2.2.1
theorem dX11_kinds_91 : decode cX11_kinds 91 = .ok (.iload_n 1, 1) := dcX11_kinds_5.2.2.2.2.2.2.2
theorem dcX11_kinds_6 : (decode cX11_kinds 92 = .ok (.aaload, 1)) ∧ (decode cX11_kinds 93 = .ok (.aload 8, 2)) ∧ (decode cX11_kinds 95 = .ok (.aload_n 0, 1)) ∧ (decode cX11_kinds 96 = .ok (.getfield 55, 3)) ∧ (decode cX11_kinds 99 = .ok (.aload_n 0, 1)) ∧ (decode cX11_kinds 100 = .ok (.getfield 93, 3)) ∧ (decode cX11_kinds 103 = .ok (.aaload, 1)) ∧ (decode cX11_kinds 104 = .ok (.invokevirtual 214, 3)) := by decide +kernel
theorem dX11_kinds_92 : decode cX11_kinds 92 = .ok (.aaload, 1) := dcX11_kinds_6.1
theorem dX11_kinds_93 : decode cX11_kinds 93 = .ok (.aload 8, 2) := dcX11_kinds_6.2.1
theorem dX11_kinds_95 : decode cX11_kinds 95 = .ok (.aload_n 0, 1) := dcX11_kinds_6.2.2.1
theorem dX11_kinds_96 : decode cX11_kinds 96 = .ok (.getfield 55, 3) := dcX11_kinds_6.2.2.2.1
theorem dX11_kinds_99 : decode cX11_kinds 99 = .ok (.aload_n 0, 1) := dcX11_kinds_6.2.2.2.2.1
theorem dX11_kinds_100 : decode cX11_kinds 100 = .ok (.getfield 93, 3) := dcX11_kinds_6.2.2.2.2.2.1
theorem dX11_kinds_103 : decode cX11_kinds 103 = .ok (.aaload, 1) := dcX11_kinds_6.2.2.2.2.2.2.1
theorem dX11_kinds_104 : decode cX11_kinds 104 = .ok (.invokevirtual 214, 3) := dcX11_kinds_6.2.2.2.2.2.2.2
theorem dcX11_kinds_7 : (decode cX11_kinds 107 = .ok (.iconst (-1), 1)) ∧ (decode cX11_kinds 108 = .ok (.if_icmp .ne 12, 3)) ∧ (decode cX11_kinds 111 = .ok (.iload 5, 2)) ∧ (decode cX11_kinds 113 = .ok (.iconst 1, 1)) ∧ (decode cX11_kinds 114 = .ok (.iload 7, 2)) ∧ (decode cX11_kinds 116 = .ok (.ishl, 1)) ∧ (decode cX11_kinds 117 = .ok (.ior, 1)) ∧ (decode cX11_kinds 118 = .ok (.istore 5, 2)) := by decide +kernel
theorem dX11_kinds_107 : decode cX11_kinds 107 = .ok (.iconst (-1), 1) := dcX11_kinds_7.1
theorem dX11_kinds_108 : decode cX11_kinds 108 = .ok (.if_icmp .ne 12, 3) := dcX11_kinds_7.2.1
theorem dX11_kinds_111 : decode cX11_kinds 111 = .ok (.iload 5, 2) := dcX11_kinds_7.2.2.1
theorem dX11_kinds_113 : decode cX11_kinds 113 = .ok (.iconst 1, 1) := dcX11_kinds_7.2.2.2.1
theorem dX11_kinds_114 : decode cX11_kinds 114 = .ok (.iload 7, 2) := dcX11_kinds_7.2.2.2.2.1
theorem dX11_kinds_116 : decode cX11_kinds 116 = .ok (.ishl, 1) := dcX11_kinds_7.2.2.2.2.2.1
theorem dX11_kinds_117 : decode cX11_kinds 117 = .ok (.ior, 1) := dcX11_kinds_7.2.2.2.2.2.2.1
theorem dX11_kinds_118 : decode cX11_kinds 118 = .ok (.istore 5, 2) := dcX11_kinds_7.2.2.2.2.2.2.2
theorem dcX11_kinds_8 : (decode cX11_kinds 120 = .ok (.iinc 7 1, 3)) ∧ (decode cX11_kinds 123 = .ok (.goto (-77), 3)) ∧ (decode cX11_kinds 126 = .ok (.iload 5, 2)) ∧ (decode cX11_kinds 128 = .ok (.ireturn, 1)) := by decide +kernel
theorem dX11_kinds_120 : decode cX11_kinds 120 = .ok (.iinc 7 1, 3) := dcX11_kinds_8.1
theorem dX11_kinds_123 : decode cX11_kinds 123 = .ok (.goto (-77), 3) := dcX11_kinds_8.2.1
theorem dX11_kinds_126 : decode cX11_kinds 126 = .ok (.iload 5, 2) := dcX11_kinds_8.2.2.1
theorem dX11_kinds_128 : decode cX11_kinds 128 = .ok (.ireturn, 1) := dcX11_kinds_8.2.2.2
theorem dcX11_dims_0 : (decode cX11_dims 0 = .ok (.aload_n 0, 1)) ∧ (decode cX11_dims 1 = .ok (.iload_n 1, 1)) ∧ (decode cX11_dims 2 = .ok (.iload_n 2, 1)) ∧ (decode cX11_dims 3 = .ok (.invokevirtual 211, 3)) ∧ (decode cX11_dims 6 = .ok (.istore 4, 2)) ∧ (decode cX11_dims 8 = .ok (.iload 4, 2)) ∧ (decode cX11_dims 10 = .ok (.ifCond .eq 6, 3)) ∧ (decode cX11_dims 13 = .ok (.iload 4, 2)) := by decide +kernel
theorem dX11_dims_0 : decode cX11_dims 0 = .ok (.aload_n 0, 1) := dcX11_dims_0.1
theorem dX11_dims_1 : decode cX11_dims 1 = .ok (.iload_n 1, 1) := dcX11_dims_0.2.1
theorem dX11_dims_2 : decode cX11_dims 2 = .ok (.iload_n 2, 1) := dcX11_dims_0.2.2.1
theorem dX11_dims_3 : decode cX11_dims 3 = .ok (.invokevirtual 211, 3) := dcX11_dims_0.2.2.2.1
theorem dX11_dims_6 : decode cX11_dims 6 = .ok (.istore 4, 2) := dcX11_dims_0.2.2.2.2.1
theorem dX11_dims_8 : decode cX11_dims 8 = .ok (.iload 4, 2) := dcX11_dims_0.2.2.2.2.2.1
theorem dX11_dims_10 : decode cX11_dims 10 = .ok (.ifCond .eq 6, 3) := dcX11_dims_0.2.2.2.2.2.2.1
theorem dX11_dims_13 : decode cX11_dims 13 = .ok (.iload 4, 2) := dcX11_dims_0.2.2.2.2.2.2.2
theorem dcX11_dims_1 : (decode cX11_dims 15 = .ok (.ireturn, 1)) ∧ (decode cX11_dims 16 = .ok (.iload_n 3, 1)) ∧ (decode cX11_dims 17 = .ok (.ifCond .lt 24, 3)) ∧ (decode cX11_dims 20 = .ok (.iload_n 3, 1)) ∧ (decode cX11_dims 21 = .ok (.bipush 10, 2)) ∧ (decode cX11_dims 23 = .ok (.idiv, 1)) ∧ (decode cX11_dims 24 = .ok (.invokestatic 129, 3)) ∧ (decode cX11_dims 27 = .ok (.ifCond .eq 14, 3)) := by decide +kernel
theorem dX11_dims_15 : decode cX11_dims 15 = .ok (.ireturn, 1) := dcX11_dims_1.1
theorem dX11_dims_16 : decode cX11_dims 16 = .ok (.iload_n 3, 1) := dcX11_dims_1.2.1
theorem dX11_dims_17 : decode cX11_dims 17 = .ok (.ifCond .lt 24, 3) := dcX11_dims_1.2.2.1
theorem dX11_dims_20 : decode cX11_dims 20 = .ok (.iload_n 3, 1) := dcX11_dims_1.2.2.2.1
theorem dX11_dims_21 : decode cX11_dims 21 = .ok (.bipush 10, 2) := dcX11_dims_1.2.2.2.2.1
theorem dX11_dims_23 : decode cX11_dims 23 = .ok (.idiv, 1) := dcX11_dims_1.2.2.2.2.2.1
theorem dX11_dims_24 : decode cX11_dims 24 = .ok (.invokestatic 129, 3) := dcX11_dims_1.2.2.2.2.2.2.1
theorem dX11_dims_27 : decode cX11_dims 27 = .ok (.ifCond .eq 14, 3) := dcX11_dims_1.2.2.2.2.2.2.2
theorem dcX11_dims_2 : (decode cX11_dims 30 = .ok (.iload_n 3, 1)) ∧ (decode cX11_dims 31 = .ok (.bipush 10, 2)) ∧ (decode cX11_dims 33 = .ok (.irem, 1)) ∧ (decode cX11_dims 34 = .ok (.iconst 1, 1)) ∧ (decode cX11_dims 35 = .ok (.invokestatic 107, 3)) ∧ (decode cX11_dims 38 = .ok (.ifCond .ne 6, 3)) ∧ (decode cX11_dims 41 = .ok (.bipush (-7), 2)) ∧ (decode cX11_dims 43 = .ok (.ireturn, 1)) := by decide +kernel
theorem dX11_dims_30 : decode cX11_dims 30 = .ok (.iload_n 3, 1) := dcX11_dims_2.1
theorem dX11_dims_31 : decode cX11_dims 31 = .ok (.bipush 10, 2) := dcX11_dims_2.2.1
theorem dX11_dims_33 : decode cX11_dims 33 = .ok (.irem, 1) := dcX11_dims_2.2.2.1
theorem dX11_dims_34 : decode cX11_dims 34 = .ok (.iconst 1, 1) := dcX11_dims_2.2.2.2.1
theorem dX11_dims_35 : decode cX11_dims 35 = .ok (.invokestatic 107, 3) := dcX11_dims_2.2.2.2.2.1
theorem dX11_dims_38 : decode cX11_dims 38 = .ok (.ifCond .ne 6, 3) := dcX11_dims_2.2.2.2.2.2.1
theorem dX11_dims_41 : decode cX11_dims 41 = .ok (.bipush (-7), 2) := dcX11_dims_2.2.2.2.2.2.2.1
theorem dX11_dims_43 : decode cX11_dims 43 = .ok (.ireturn, 1) := dcX11_dims_2.2.2.2.2.2.2.2
theorem dcX11_dims_3 : (decode cX11_dims 44 = .ok (.iload_n 3, 1)) ∧ (decode cX11_dims 45 = .ok (.bipush 10, 2)) ∧ (decode cX11_dims 47 = .ok (.idiv, 1)) ∧ (decode cX11_dims 48 = .ok (.istore 5, 2)) ∧ (decode cX11_dims 50 = .ok (.iconst 0, 1)) ∧ (decode cX11_dims 51 = .ok (.istore 6, 2)) ∧ (decode cX11_dims 53 = .ok (.iconst (-1), 1)) ∧ (decode cX11_dims 54 = .ok (.istore 7, 2)) := by decide +kernel
theorem dX11_dims_44 : decode cX11_dims 44 = .ok (.iload_n 3, 1) := dcX11_dims_3.1
theorem dX11_dims_45 : decode cX11_dims 45 = .ok (.bipush 10, 2) := dcX11_dims_3.2.1
theorem dX11_dims_47 : decode cX11_dims 47 = .ok (.idiv, 1) := dcX11_dims_3.2.2.1
theorem dX11_dims_48 : decode cX11_dims 48 = .ok (.istore 5, 2) := dcX11_dims_3.2.2.2.1
theorem dX11_dims_50 : decode cX11_dims 50 = .ok (.iconst 0, 1) := dcX11_dims_3.2.2.2.2.1
theorem dX11_dims_51 : decode cX11_dims 51 = .ok (.istore 6, 2) := dcX11_dims_3.2.2.2.2.2.1
theorem dX11_dims_53 : decode cX11_dims 53 = .ok (.iconst (-1), 1) := dcX11_dims_3.2.2.2.2.2.2.1
theorem dX11_dims_54 : decode cX11_dims 54 = .ok (.istore 7, 2) := dcX11_dims_3.2.2.2.2.2.2.2
theorem dcX11_dims_4 : (decode cX11_dims 56 = .ok (.aload_n 0, 1)) ∧ (decode cX11_dims 57 = .ok (.aload_n 0, 1)) ∧ (decode cX11_dims 58 = .ok (.getfield 69, 3)) ∧ (decode cX11_dims 61 = .ok (.iload_n 1, 1)) ∧ (decode cX11_dims 62 = .ok (.aaload, 1)) ∧ (decode cX11_dims 63 = .ok (.iload_n 2, 1)) ∧ (decode cX11_dims 64 = .ok (.iload 5, 2)) ∧ (decode cX11_dims 66 = .ok (.invokevirtual 218, 3)) := by decide +kernel
theorem dX11_dims_56 : decode cX11_dims 56 = .ok (.aload_n 0, 1) := dcX11_dims_4.1
theorem dX11_dims_57 : decode cX11_dims 57 = .ok (.aload_n 0, 1) := dcX11_dims_4.2.1
theorem dX11_dims_58 : decode cX11_dims 58 = .ok (.getfield 69, 3) := dcX11_dims_4.2.2.1
theorem dX11_dims_61 : decode cX11_dims 61 = .ok (.iload_n 1, 1) := dcX11_dims_4.2.2.2.1
theorem dX11_dims_62 : decode cX11_dims 62 = .ok (.aaload, 1) := dcX11_dims_4.2.2.2.2.1
theorem dX11_dims_63 : decode cX11_dims 63 = .ok (.iload_n 2, 1) := dcX11_dims_4.2.2.2.2.2.1
theorem dX11_dims_64 : decode cX11_dims 64 = .ok (.iload 5, 2) := dcX11_dims_4.2.2.2.2.2.2.1
theorem dX11_dims_66 : decode cX11_dims 66 = .ok (.invokevirtual 218, 3) := dcX11_dims_4.2.2.2.2.2.2.2
theorem dcX11_dims_5 : (decode cX11_dims 69 = .ok (.ifCond .eq 71, 3)) ∧ (decode cX11_dims 72 = .ok (.aload_n 0, 1)) ∧ (decode cX11_dims 73 = .ok (.iload_n 2, 1)) ∧ (decode cX11_dims 74 = .ok (.invokevirtual 184, 3)) ∧ (decode cX11_dims 77 = .ok (.astore 8, 2)) ∧ (decode cX11_dims 79 = .ok (.iconst 0, 1)) ∧ (decode cX11_dims 80 = .ok (.istore 9, 2)) ∧ (decode cX11_dims 82 = .ok (.iload 9, 2)) := by decide +kernel
theorem dX11_dims_69 : decode cX11_dims 69 = .ok (.ifCond .eq 71, 3) := dcX11_dims_5.1
theorem dX11_dims_72 : decode cX11_dims 72 = .ok (.aload_n 0, 1) := dcX11_dims_5.2.1
theorem dX11_dims_73 : decode cX11_dims 73 = .ok (.iload_n 2, 1) := dcX11_dims_5.2.2.1
theorem dX11_dims_74 : decode cX11_dims 74 = .ok (.invokevirtual 184, 3) := dcX11_dims_5.2.2.2.1
theorem dX11_dims_77 : decode cX11_dims 77 = .ok (.astore 8, 2) := dcX11_dims_5.2.2.2.2.1
theorem dX11_dims_79 : decode cX11_dims 79 = .ok (.iconst 0, 1) := dcX11_dims_5.2.2.2.2.2.1
theorem dX11_dims_80 : decode cX11_dims 80 = .ok (.istore 9, 2) := dcX11_dims_5.2.2.2.2.2.2.1
theorem dX11_dims_82 : decode cX11_dims 82 = .ok (.iload 9, 2) := dcX11_dims_5.2.2.2.2.2.2.2
theorem dcX11_dims_6 : (decode cX11_dims 84 = .ok (.bipush 99, 2)) ∧ (decode cX11_dims 86 = .ok (.if_icmp .gt 54, 3)) ∧ (decode cX11_dims 89 = .ok (.aload 8, 2)) ∧ (decode cX11_dims 91 = .ok (.getfield 150, 3)) ∧ (decode cX11_dims 94 = .ok (.iload 5, 2)) ∧ (decode cX11_dims 96 = .ok (.iload 9, 2)) ∧ (decode cX11_dims 98 = .ok (.iastore, 1)) ∧ (decode cX11_dims 99 = .ok (.aload_n 0, 1)) := by decide +kernel
theorem dX11_dims_84 : decode cX11_dims 84 = .ok (.bipush 99, 2) := dcX11_dims_6.1
theorem dX11_dims_86 : decode cX11_dims 86 = .ok (.if_icmp .gt 54, 3) := dcX11_dims_6.2.1
theorem dX11_dims_89 : decode cX11_dims 89 = .ok (.aload 8, 2) := dcX11_dims_6.2.2.1
theorem dX11_dims_91 : decode cX11_dims 91 = .ok (.getfield 150, 3) := dcX11_dims_6.2.2.2.1
theorem dX11_dims_94 : decode cX11_dims 94 = .ok (.iload 5, 2) := dcX11_dims_6.2.2.2.2.1
theorem dX11_dims_96 : decode cX11_dims 96 = .ok (.iload 9, 2) := dcX11_dims_6.2.2.2.2.2.1
theorem dX11_dims_98 : decode cX11_dims 98 = .ok (.iastore, 1) := dcX11_dims_6.2.2.2.2.2.2.1
theorem dX11_dims_99 : decode cX11_dims 99 = .ok (.aload_n 0, 1) := dcX11_dims_6.2.2.2.2.2.2.2
theorem dcX11_dims_7 : (decode cX11_dims 100 = .ok (.aload_n 0, 1)) ∧ (decode cX11_dims 101 = .ok (.getfield 69, 3)) ∧ (decode cX11_dims 104 = .ok (.iload_n 1, 1)) ∧ (decode cX11_dims 105 = .ok (.aaload, 1)) ∧ (decode cX11_dims 106 = .ok (.aload 8, 2)) ∧ (decode cX11_dims 108 = .ok (.iload 5, 2)) ∧ (decode cX11_dims 110 = .ok (.invokevirtual 222, 3)) ∧ (decode cX11_dims 113 = .ok (.ifCond .eq 21, 3)) := by decide +kernel
theorem dX11_dims_100 : decode cX11_dims 100 = .ok (.aload_n 0, 1) := dcX11_dims_7.1
theorem dX11_dims_101 : decode cX11_dims 101 = .ok (.getfield 69, 3) := dcX11_dims_7.2.1
theorem dX11_dims_104 : decode cX11_dims 104 = .ok (.iload_n 1, 1) := dcX11_dims_7.2.2.1
theorem dX11_dims_105 : decode cX11_dims 105 = .ok (.aaload, 1) := dcX11_dims_7.2.2.2.1
theorem dX11_dims_106 : decode cX11_dims 106 = .ok (.aload 8, 2) := dcX11_dims_7.2.2.2.2.1
theorem dX11_dims_108 : decode cX11_dims 108 = .ok (.iload 5, 2) := dcX11_dims_7.2.2.2.2.2.1
theorem dX11_dims_110 : decode cX11_dims 110 = .ok (.invokevirtual 222, 3) := dcX11_dims_7.2.2.2.2.2.2.1
theorem dX11_dims_113 : decode cX11_dims 113 = .ok (.ifCond .eq 21, 3) := dcX11_dims_7.2.2.2.2.2.2.2
theorem dcX11_dims_8 : (decode cX11_dims 116 = .ok (.iinc 6 1, 3)) ∧ (decode cX11_dims 119 = .ok (.iload 7, 2)) ∧ (decode cX11_dims 121 = .ok (.iconst (-1), 1)) ∧ (decode cX11_dims 122 = .ok (.if_icmp .ne 8, 3)) ∧ (decode cX11_dims 125 = .ok (.iload 9, 2)) ∧ (decode cX11_dims 127 = .ok (.goto 5, 3)) ∧ (decode cX11_dims 130 = .ok (.iload 7, 2)) ∧ (decode cX11_dims 132 = .ok (.istore 7, 2)) := by decide +kernel
theorem dX11_dims_116 : decode cX11_dims 116 = .ok (.iinc 6 1, 3) := dcX11_dims_8.1
theorem dX11_dims_119 : decode cX11_dims 119 = .ok (.iload 7, 2) := dcX11_dims_8.2.1
theorem dX11_dims_121 : decode cX11_dims 121 = .ok (.iconst (-1), 1) := dcX11_dims_8.2.2.1
theorem dX11_dims_122 : decode cX11_dims 122 = .ok (.if_icmp .ne 8, 3) := dcX11_dims_8.2.2.2.1
theorem dX11_dims_125 : decode cX11_dims 125 = .ok (.iload 9, 2) := dcX11_dims_8.2.2.2.2.1
theorem dX11_dims_127 : decode cX11_dims 127 = .ok (.goto 5, 3) := dcX11_dims_8.2.2.2.2.2.1
theorem dX11_dims_130 : decode cX11_dims 130 = .ok (.iload 7, 2) := dcX11_dims_8.2.2.2.2.2.2.1
theorem dX11_dims_132 : decode cX11_dims 132 = .ok (.istore 7, 2) := dcX11_dims_8.2.2.2.2.2.2.2
theorem dcX11_dims_9 : (decode cX11_dims 134 = .ok (.iinc 9 1, 3)) ∧ (decode cX11_dims 137 = .ok (.goto (-55), 3)) ∧ (decode cX11_dims 140 = .ok (.iload_n 3, 1)) ∧ (decode cX11_dims 141 = .ok (.bipush 10, 2)) ∧ (decode cX11_dims 143 = .ok (.irem, 1)) ∧ (decode cX11_dims 144 = .ok (.ifCond .ne 8, 3)) ∧ (decode cX11_dims 147 = .ok (.iload 6, 2)) ∧ (decode cX11_dims 149 = .ok (.goto 5, 3)) := by decide +kernel
theorem dX11_dims_134 : decode cX11_dims 134 = .ok (.iinc 9 1, 3) := dcX11_dims_9.1
theorem dX11_dims_137 : decode cX11_dims 137 = .ok (.goto (-55), 3) := dcX11_dims_9.2.1
theorem dX11_dims_140 : decode cX11_dims 140 = .ok (.iload_n 3, 1) := dcX11_dims_9.2.2.1
theorem dX11_dims_141 : decode cX11_dims 141 = .ok (.bipush 10, 2) := dcX11_dims_9.2.2.2.1
theorem dX11_dims_143 : decode cX11_dims 143 = .ok (.irem, 1) := dcX11_dims_9.2.2.2.2.1
theorem dX11_dims_144 : decode cX11_dims 144 = .ok (.ifCond .ne 8, 3) := dcX11_dims_9.2.2.2.2.2.1
theorem dX11_dims_147 : decode cX11_dims 147 = .ok (.iload 6, 2) := dcX11_dims_9.2.2.2.2.2.2.1
theorem dX11_dims_149 : decode cX11_dims 149 = .ok (.goto 5, 3) := dcX11_dims_9.2.2.2.2.2.2.2
theorem dcX11_dims_10 : (decode cX11_dims 152 = .ok (.iload 7, 2)) ∧ (decode cX11_dims 154 = .ok (.ireturn, 1)) := by decide +kernel
theorem dX11_dims_152 : decode cX11_dims 152 = .ok (.iload 7, 2) := dcX11_dims_10.1
theorem dX11_dims_154 : decode cX11_dims 154 = .ok (.ireturn, 1) := dcX11_dims_10.2
theorem dcX11_laws_0 : (decode cX11_laws 0 = .ok (.aload_n 0, 1)) ∧ (decode cX11_laws 1 = .ok (.iload_n 1, 1)) ∧ (decode cX11_laws 2 = .ok (.iload_n 2, 1)) ∧ (decode cX11_laws 3 = .ok (.invokevirtual 211, 3)) ∧ (decode cX11_laws 6 = .ok (.istore_n 3, 1)) ∧ (decode cX11_laws 7 = .ok (.iload_n 3, 1)) ∧ (decode cX11_laws 8 = .ok (.ifCond .eq 5, 3)) ∧ (decode cX11_laws 11 = .ok (.iload_n 3, 1)) := by decide +kernel
theorem dX11_laws_0 : decode cX11_laws 0 = .ok (.aload_n 0, 1) := dcX11_laws_0.1
theorem dX11_laws_1 : decode cX11_laws 1 = .ok (.iload_n 1, 1) := dcX11_laws_0.2.1
theorem dX11_laws_2 : decode cX11_laws 2 = .ok (.iload_n 2, 1) := dcX11_laws_0.2.2.1
theorem dX11_laws_3 : decode cX11_laws 3 = .ok (.invokevirtual 211, 3) := dcX11_laws_0.2.2.2.1
theorem dX11_laws_6 : decode cX11_laws 6 = .ok (.istore_n 3, 1) := dcX11_laws_0.2.2.2.2.1
theorem dX11_laws_7 : decode cX11_laws 7 = .ok (.iload_n 3, 1) := dcX11_laws_0.2.2.2.2.2.1
theorem dX11_laws_8 : decode cX11_laws 8 = .ok (.ifCond .eq 5, 3) := dcX11_laws_0.2.2.2.2.2.2.1
theorem dX11_laws_11 : decode cX11_laws 11 = .ok (.iload_n 3, 1) := dcX11_laws_0.2.2.2.2.2.2.2
theorem dcX11_laws_1 : (decode cX11_laws 12 = .ok (.ireturn, 1)) ∧ (decode cX11_laws 13 = .ok (.iconst 0, 1)) ∧ (decode cX11_laws 14 = .ok (.istore 4, 2)) ∧ (decode cX11_laws 16 = .ok (.iconst 0, 1)) ∧ (decode cX11_laws 17 = .ok (.istore 5, 2)) ∧ (decode cX11_laws 19 = .ok (.iload 5, 2)) ∧ (decode cX11_laws 21 = .ok (.aload_n 0, 1)) ∧ (decode cX11_laws 22 = .ok (.getfield 90, 3)) := by decide +kernel
theorem dX11_laws_12 : decode cX11_laws 12 = .ok (.ireturn, 1) := dcX11_laws_1.1
theorem dX11_laws_13 : decode cX11_laws 13 = .ok (.iconst 0, 1) := dcX11_laws_1.2.1
theorem dX11_laws_14 : decode cX11_laws 14 = .ok (.istore 4, 2) := dcX11_laws_1.2.2.1
theorem dX11_laws_16 : decode cX11_laws 16 = .ok (.iconst 0, 1) := dcX11_laws_1.2.2.2.1
theorem dX11_laws_17 : decode cX11_laws 17 = .ok (.istore 5, 2) := dcX11_laws_1.2.2.2.2.1
theorem dX11_laws_19 : decode cX11_laws 19 = .ok (.iload 5, 2) := dcX11_laws_1.2.2.2.2.2.1
theorem dX11_laws_21 : decode cX11_laws 21 = .ok (.aload_n 0, 1) := dcX11_laws_1.2.2.2.2.2.2.1
theorem dX11_laws_22 : decode cX11_laws 22 = .ok (.getfield 90, 3) := dcX11_laws_1.2.2.2.2.2.2.2
theorem dcX11_laws_2 : (decode cX11_laws 25 = .ok (.if_icmp .ge 44, 3)) ∧ (decode cX11_laws 28 = .ok (.aload_n 0, 1)) ∧ (decode cX11_laws 29 = .ok (.aload_n 0, 1)) ∧ (decode cX11_laws 30 = .ok (.getfield 69, 3)) ∧ (decode cX11_laws 33 = .ok (.iload_n 1, 1)) ∧ (decode cX11_laws 34 = .ok (.aaload, 1)) ∧ (decode cX11_laws 35 = .ok (.aload_n 0, 1)) ∧ (decode cX11_laws 36 = .ok (.iload_n 2, 1)) := by decide +kernel
theorem dX11_laws_25 : decode cX11_laws 25 = .ok (.if_icmp .ge 44, 3) := dcX11_laws_2.1
theorem dX11_laws_28 : decode cX11_laws 28 = .ok (.aload_n 0, 1) := dcX11_laws_2.2.1
theorem dX11_laws_29 : decode cX11_laws 29 = .ok (.aload_n 0, 1) := dcX11_laws_2.2.2.1
theorem dX11_laws_30 : decode cX11_laws 30 = .ok (.getfield 69, 3) := dcX11_laws_2.2.2.2.1
theorem dX11_laws_33 : decode cX11_laws 33 = .ok (.iload_n 1, 1) := dcX11_laws_2.2.2.2.2.1
theorem dX11_laws_34 : decode cX11_laws 34 = .ok (.aaload, 1) := dcX11_laws_2.2.2.2.2.2.1
theorem dX11_laws_35 : decode cX11_laws 35 = .ok (.aload_n 0, 1) := dcX11_laws_2.2.2.2.2.2.2.1
theorem dX11_laws_36 : decode cX11_laws 36 = .ok (.iload_n 2, 1) := dcX11_laws_2.2.2.2.2.2.2.2
theorem dcX11_laws_3 : (decode cX11_laws 37 = .ok (.invokevirtual 184, 3)) ∧ (decode cX11_laws 40 = .ok (.aload_n 0, 1)) ∧ (decode cX11_laws 41 = .ok (.getfield 55, 3)) ∧ (decode cX11_laws 44 = .ok (.iload 5, 2)) ∧ (decode cX11_laws 46 = .ok (.aaload, 1)) ∧ (decode cX11_laws 47 = .ok (.invokevirtual 214, 3)) ∧ (decode cX11_laws 50 = .ok (.iconst (-1), 1)) ∧ (decode cX11_laws 51 = .ok (.if_icmp .ne 12, 3)) := by decide +kernel
theorem dX11_laws_37 : decode cX11_laws 37 = .ok (.invokevirtual 184, 3) := dcX11_laws_3.1
theorem dX11_laws_40 : decode cX11_laws 40 = .ok (.aload_n 0, 1) := dcX11_laws_3.2.1
theorem dX11_laws_41 : decode cX11_laws 41 = .ok (.getfield 55, 3) := dcX11_laws_3.2.2.1
theorem dX11_laws_44 : decode cX11_laws 44 = .ok (.iload 5, 2) := dcX11_laws_3.2.2.2.1
theorem dX11_laws_46 : decode cX11_laws 46 = .ok (.aaload, 1) := dcX11_laws_3.2.2.2.2.1
theorem dX11_laws_47 : decode cX11_laws 47 = .ok (.invokevirtual 214, 3) := dcX11_laws_3.2.2.2.2.2.1
theorem dX11_laws_50 : decode cX11_laws 50 = .ok (.iconst (-1), 1) := dcX11_laws_3.2.2.2.2.2.2.1
theorem dX11_laws_51 : decode cX11_laws 51 = .ok (.if_icmp .ne 12, 3) := dcX11_laws_3.2.2.2.2.2.2.2
theorem dcX11_laws_4 : (decode cX11_laws 54 = .ok (.iload 4, 2)) ∧ (decode cX11_laws 56 = .ok (.iconst 1, 1)) ∧ (decode cX11_laws 57 = .ok (.iload 5, 2)) ∧ (decode cX11_laws 59 = .ok (.ishl, 1)) ∧ (decode cX11_laws 60 = .ok (.ior, 1)) ∧ (decode cX11_laws 61 = .ok (.istore 4, 2)) ∧ (decode cX11_laws 63 = .ok (.iinc 5 1, 3)) ∧ (decode cX11_laws 66 = .ok (.goto (-47), 3)) := by decide +kernel
theorem dX11_laws_54 : decode cX11_laws 54 = .ok (.iload 4, 2) := dcX11_laws_4.1
theorem dX11_laws_56 : decode cX11_laws 56 = .ok (.iconst 1, 1) := dcX11_laws_4.2.1
theorem dX11_laws_57 : decode cX11_laws 57 = .ok (.iload 5, 2) := dcX11_laws_4.2.2.1
theorem dX11_laws_59 : decode cX11_laws 59 = .ok (.ishl, 1) := dcX11_laws_4.2.2.2.1
theorem dX11_laws_60 : decode cX11_laws 60 = .ok (.ior, 1) := dcX11_laws_4.2.2.2.2.1
theorem dX11_laws_61 : decode cX11_laws 61 = .ok (.istore 4, 2) := dcX11_laws_4.2.2.2.2.2.1
theorem dX11_laws_63 : decode cX11_laws 63 = .ok (.iinc 5 1, 3) := dcX11_laws_4.2.2.2.2.2.2.1
theorem dX11_laws_66 : decode cX11_laws 66 = .ok (.goto (-47), 3) := dcX11_laws_4.2.2.2.2.2.2.2
theorem dcX11_laws_5 : (decode cX11_laws 69 = .ok (.iload 4, 2)) ∧ (decode cX11_laws 71 = .ok (.ireturn, 1)) := by decide +kernel
theorem dX11_laws_69 : decode cX11_laws 69 = .ok (.iload 4, 2) := dcX11_laws_5.1
theorem dX11_laws_71 : decode cX11_laws 71 = .ok (.ireturn, 1) := dcX11_laws_5.2
theorem dcX11_guess_0 : (decode cX11_guess 0 = .ok (.aload_n 0, 1)) ∧ (decode cX11_guess 1 = .ok (.iload_n 1, 1)) ∧ (decode cX11_guess 2 = .ok (.iload_n 2, 1)) ∧ (decode cX11_guess 3 = .ok (.invokevirtual 211, 3)) ∧ (decode cX11_guess 6 = .ok (.istore 4, 2)) ∧ (decode cX11_guess 8 = .ok (.iload 4, 2)) ∧ (decode cX11_guess 10 = .ok (.ifCond .eq 6, 3)) ∧ (decode cX11_guess 13 = .ok (.iload 4, 2)) := by decide +kernel
theorem dX11_guess_0 : decode cX11_guess 0 = .ok (.aload_n 0, 1) := dcX11_guess_0.1
theorem dX11_guess_1 : decode cX11_guess 1 = .ok (.iload_n 1, 1) := dcX11_guess_0.2.1
theorem dX11_guess_2 : decode cX11_guess 2 = .ok (.iload_n 2, 1) := dcX11_guess_0.2.2.1
theorem dX11_guess_3 : decode cX11_guess 3 = .ok (.invokevirtual 211, 3) := dcX11_guess_0.2.2.2.1
theorem dX11_guess_6 : decode cX11_guess 6 = .ok (.istore 4, 2) := dcX11_guess_0.2.2.2.2.1
theorem dX11_guess_8 : decode cX11_guess 8 = .ok (.iload 4, 2) := dcX11_guess_0.2.2.2.2.2.1
theorem dX11_guess_10 : decode cX11_guess 10 = .ok (.ifCond .eq 6, 3) := dcX11_guess_0.2.2.2.2.2.2.1
theorem dX11_guess_13 : decode cX11_guess 13 = .ok (.iload 4, 2) := dcX11_guess_0.2.2.2.2.2.2.2
theorem dcX11_guess_1 : (decode cX11_guess 15 = .ok (.ireturn, 1)) ∧ (decode cX11_guess 16 = .ok (.iload_n 3, 1)) ∧ (decode cX11_guess 17 = .ok (.iconst 1, 1)) ∧ (decode cX11_guess 18 = .ok (.invokestatic 107, 3)) ∧ (decode cX11_guess 21 = .ok (.ifCond .ne 6, 3)) ∧ (decode cX11_guess 24 = .ok (.bipush (-7), 2)) ∧ (decode cX11_guess 26 = .ok (.ireturn, 1)) ∧ (decode cX11_guess 27 = .ok (.iload_n 3, 1)) := by decide +kernel
theorem dX11_guess_15 : decode cX11_guess 15 = .ok (.ireturn, 1) := dcX11_guess_1.1
theorem dX11_guess_16 : decode cX11_guess 16 = .ok (.iload_n 3, 1) := dcX11_guess_1.2.1
theorem dX11_guess_17 : decode cX11_guess 17 = .ok (.iconst 1, 1) := dcX11_guess_1.2.2.1
theorem dX11_guess_18 : decode cX11_guess 18 = .ok (.invokestatic 107, 3) := dcX11_guess_1.2.2.2.1
theorem dX11_guess_21 : decode cX11_guess 21 = .ok (.ifCond .ne 6, 3) := dcX11_guess_1.2.2.2.2.1
theorem dX11_guess_24 : decode cX11_guess 24 = .ok (.bipush (-7), 2) := dcX11_guess_1.2.2.2.2.2.1
theorem dX11_guess_26 : decode cX11_guess 26 = .ok (.ireturn, 1) := dcX11_guess_1.2.2.2.2.2.2.1
theorem dX11_guess_27 : decode cX11_guess 27 = .ok (.iload_n 3, 1) := dcX11_guess_1.2.2.2.2.2.2.2
theorem dcX11_guess_2 : (decode cX11_guess 28 = .ok (.ifCond .ne 16, 3)) ∧ (decode cX11_guess 31 = .ok (.aload_n 0, 1)) ∧ (decode cX11_guess 32 = .ok (.getfield 69, 3)) ∧ (decode cX11_guess 35 = .ok (.iload_n 1, 1)) ∧ (decode cX11_guess 36 = .ok (.aaload, 1)) ∧ (decode cX11_guess 37 = .ok (.invokevirtual 226, 3)) ∧ (decode cX11_guess 40 = .ok (.ldc 136, 2)) ∧ (decode cX11_guess 42 = .ok (.iand, 1)) := by decide +kernel
theorem dX11_guess_28 : decode cX11_guess 28 = .ok (.ifCond .ne 16, 3) := dcX11_guess_2.1
theorem dX11_guess_31 : decode cX11_guess 31 = .ok (.aload_n 0, 1) := dcX11_guess_2.2.1
theorem dX11_guess_32 : decode cX11_guess 32 = .ok (.getfield 69, 3) := dcX11_guess_2.2.2.1
theorem dX11_guess_35 : decode cX11_guess 35 = .ok (.iload_n 1, 1) := dcX11_guess_2.2.2.2.1
theorem dX11_guess_36 : decode cX11_guess 36 = .ok (.aaload, 1) := dcX11_guess_2.2.2.2.2.1
theorem dX11_guess_37 : decode cX11_guess 37 = .ok (.invokevirtual 226, 3) := dcX11_guess_2.2.2.2.2.2.1
theorem dX11_guess_40 : decode cX11_guess 40 = .ok (.ldc 136, 2) := dcX11_guess_2.2.2.2.2.2.2.1
theorem dX11_guess_42 : decode cX11_guess 42 = .ok (.iand, 1) := dcX11_guess_2.2.2.2.2.2.2.2
theorem dcX11_guess_3 : (decode cX11_guess 43 = .ok (.ireturn, 1)) ∧ (decode cX11_guess 44 = .ok (.iconst 0, 1)) ∧ (decode cX11_guess 45 = .ok (.istore 5, 2)) ∧ (decode cX11_guess 47 = .ok (.aload_n 0, 1)) ∧ (decode cX11_guess 48 = .ok (.iload_n 2, 1)) ∧ (decode cX11_guess 49 = .ok (.invokevirtual 184, 3)) ∧ (decode cX11_guess 52 = .ok (.astore 6, 2)) ∧ (decode cX11_guess 54 = .ok (.iconst 0, 1)) := by decide +kernel
theorem dX11_guess_43 : decode cX11_guess 43 = .ok (.ireturn, 1) := dcX11_guess_3.1
theorem dX11_guess_44 : decode cX11_guess 44 = .ok (.iconst 0, 1) := dcX11_guess_3.2.1
theorem dX11_guess_45 : decode cX11_guess 45 = .ok (.istore 5, 2) := dcX11_guess_3.2.2.1
theorem dX11_guess_47 : decode cX11_guess 47 = .ok (.aload_n 0, 1) := dcX11_guess_3.2.2.2.1
theorem dX11_guess_48 : decode cX11_guess 48 = .ok (.iload_n 2, 1) := dcX11_guess_3.2.2.2.2.1
theorem dX11_guess_49 : decode cX11_guess 49 = .ok (.invokevirtual 184, 3) := dcX11_guess_3.2.2.2.2.2.1
theorem dX11_guess_52 : decode cX11_guess 52 = .ok (.astore 6, 2) := dcX11_guess_3.2.2.2.2.2.2.1
theorem dX11_guess_54 : decode cX11_guess 54 = .ok (.iconst 0, 1) := dcX11_guess_3.2.2.2.2.2.2.2
theorem dcX11_guess_4 : (decode cX11_guess 55 = .ok (.istore 7, 2)) ∧ (decode cX11_guess 57 = .ok (.iload 7, 2)) ∧ (decode cX11_guess 59 = .ok (.aload_n 0, 1)) ∧ (decode cX11_guess 60 = .ok (.getfield 69, 3)) ∧ (decode cX11_guess 63 = .ok (.iload_n 1, 1)) ∧ (decode cX11_guess 64 = .ok (.aaload, 1)) ∧ (decode cX11_guess 65 = .ok (.getfield 229, 3)) ∧ (decode cX11_guess 68 = .ok (.if_icmp .ge 56, 3)) := by decide +kernel
theorem dX11_guess_55 : decode cX11_guess 55 = .ok (.istore 7, 2) := dcX11_guess_4.1
theorem dX11_guess_57 : decode cX11_guess 57 = .ok (.iload 7, 2) := dcX11_guess_4.2.1
theorem dX11_guess_59 : decode cX11_guess 59 = .ok (.aload_n 0, 1) := dcX11_guess_4.2.2.1
theorem dX11_guess_60 : decode cX11_guess 60 = .ok (.getfield 69, 3) := dcX11_guess_4.2.2.2.1
theorem dX11_guess_63 : decode cX11_guess 63 = .ok (.iload_n 1, 1) := dcX11_guess_4.2.2.2.2.1
theorem dX11_guess_64 : decode cX11_guess 64 = .ok (.aaload, 1) := dcX11_guess_4.2.2.2.2.2.1
theorem dX11_guess_65 : decode cX11_guess 65 = .ok (.getfield 229, 3) := dcX11_guess_4.2.2.2.2.2.2.1
theorem dX11_guess_68 : decode cX11_guess 68 = .ok (.if_icmp .ge 56, 3) := dcX11_guess_4.2.2.2.2.2.2.2
theorem dcX11_guess_5 : (decode cX11_guess 71 = .ok (.iload 5, 2)) ∧ (decode cX11_guess 73 = .ok (.aload 6, 2)) ∧ (decode cX11_guess 75 = .ok (.aload_n 0, 1)) ∧ (decode cX11_guess 76 = .ok (.getfield 55, 3)) ∧ (decode cX11_guess 79 = .ok (.aload_n 0, 1)) ∧ (decode cX11_guess 80 = .ok (.getfield 93, 3)) ∧ (decode cX11_guess 83 = .ok (.aaload, 1)) ∧ (decode cX11_guess 84 = .ok (.aload_n 0, 1)) := by decide +kernel
theorem dX11_guess_71 : decode cX11_guess 71 = .ok (.iload 5, 2) := dcX11_guess_5.1
theorem dX11_guess_73 : decode cX11_guess 73 = .ok (.aload 6, 2) := dcX11_guess_5.2.1
theorem dX11_guess_75 : decode cX11_guess 75 = .ok (.aload_n 0, 1) := dcX11_guess_5.2.2.1
theorem dX11_guess_76 : decode cX11_guess 76 = .ok (.getfield 55, 3) := dcX11_guess_5.2.2.2.1
theorem dX11_guess_79 : decode cX11_guess 79 = .ok (.aload_n 0, 1) := dcX11_guess_5.2.2.2.2.1
theorem dX11_guess_80 : decode cX11_guess 80 = .ok (.getfield 93, 3) := dcX11_guess_5.2.2.2.2.2.1
theorem dX11_guess_83 : decode cX11_guess 83 = .ok (.aaload, 1) := dcX11_guess_5.2.2.2.2.2.2.1
theorem dX11_guess_84 : decode cX11_guess 84 = .ok (.aload_n 0, 1) := dcX11_guess_5.2.2.2.2.2.2.2
theorem dcX11_guess_6 : (decode cX11_guess 85 = .ok (.getfield 84, 3)) ∧ (decode cX11_guess 88 = .ok (.iload 7, 2)) ∧ (decode cX11_guess 90 = .ok (.iadd, 1)) ∧ (decode cX11_guess 91 = .ok (.invokevirtual 160, 3)) ∧ (decode cX11_guess 94 = .ok (.ior, 1)) ∧ (decode cX11_guess 95 = .ok (.istore 5, 2)) ∧ (decode cX11_guess 97 = .ok (.aload 6, 2)) ∧ (decode cX11_guess 99 = .ok (.aload_n 0, 1)) := by decide +kernel
theorem dX11_guess_85 : decode cX11_guess 85 = .ok (.getfield 84, 3) := dcX11_guess_6.1
theorem dX11_guess_88 : decode cX11_guess 88 = .ok (.iload 7, 2) := dcX11_guess_6.2.1
theorem dX11_guess_90 : decode cX11_guess 90 = .ok (.iadd, 1) := dcX11_guess_6.2.2.1
theorem dX11_guess_91 : decode cX11_guess 91 = .ok (.invokevirtual 160, 3) := dcX11_guess_6.2.2.2.1
theorem dX11_guess_94 : decode cX11_guess 94 = .ok (.ior, 1) := dcX11_guess_6.2.2.2.2.1
theorem dX11_guess_95 : decode cX11_guess 95 = .ok (.istore 5, 2) := dcX11_guess_6.2.2.2.2.2.1
theorem dX11_guess_97 : decode cX11_guess 97 = .ok (.aload 6, 2) := dcX11_guess_6.2.2.2.2.2.2.1
theorem dX11_guess_99 : decode cX11_guess 99 = .ok (.aload_n 0, 1) := dcX11_guess_6.2.2.2.2.2.2.2
theorem dcX11_guess_7 : (decode cX11_guess 100 = .ok (.getfield 55, 3)) ∧ (decode cX11_guess 103 = .ok (.aload_n 0, 1)) ∧ (decode cX11_guess 104 = .ok (.getfield 93, 3)) ∧ (decode cX11_guess 107 = .ok (.aaload, 1)) ∧ (decode cX11_guess 108 = .ok (.aload_n 0, 1)) ∧ (decode cX11_guess 109 = .ok (.getfield 84, 3)) ∧ (decode cX11_guess 112 = .ok (.iload 7, 2)) ∧ (decode cX11_guess 114 = .ok (.iadd, 1)) := by decide +kernel
theorem dX11_guess_100 : decode cX11_guess 100 = .ok (.getfield 55, 3) := dcX11_guess_7.1
theorem dX11_guess_103 : decode cX11_guess 103 = .ok (.aload_n 0, 1) := dcX11_guess_7.2.1
theorem dX11_guess_104 : decode cX11_guess 104 = .ok (.getfield 93, 3) := dcX11_guess_7.2.2.1
theorem dX11_guess_107 : decode cX11_guess 107 = .ok (.aaload, 1) := dcX11_guess_7.2.2.2.1
theorem dX11_guess_108 : decode cX11_guess 108 = .ok (.aload_n 0, 1) := dcX11_guess_7.2.2.2.2.1
theorem dX11_guess_109 : decode cX11_guess 109 = .ok (.getfield 84, 3) := dcX11_guess_7.2.2.2.2.2.1
theorem dX11_guess_112 : decode cX11_guess 112 = .ok (.iload 7, 2) := dcX11_guess_7.2.2.2.2.2.2.1
theorem dX11_guess_114 : decode cX11_guess 114 = .ok (.iadd, 1) := dcX11_guess_7.2.2.2.2.2.2.2
theorem dcX11_guess_8 : (decode cX11_guess 115 = .ok (.invokevirtual 177, 3)) ∧ (decode cX11_guess 118 = .ok (.iinc 7 1, 3)) ∧ (decode cX11_guess 121 = .ok (.goto (-64), 3)) ∧ (decode cX11_guess 124 = .ok (.ldc 136, 2)) ∧ (decode cX11_guess 126 = .ok (.iload 5, 2)) ∧ (decode cX11_guess 128 = .ok (.iconst (-1), 1)) ∧ (decode cX11_guess 129 = .ok (.ixor, 1)) ∧ (decode cX11_guess 130 = .ok (.iand, 1)) := by decide +kernel
theorem dX11_guess_115 : decode cX11_guess 115 = .ok (.invokevirtual 177, 3) := dcX11_guess_8.1
theorem dX11_guess_118 : decode cX11_guess 118 = .ok (.iinc 7 1, 3) := dcX11_guess_8.2.1
theorem dX11_guess_121 : decode cX11_guess 121 = .ok (.goto (-64), 3) := dcX11_guess_8.2.2.1
theorem dX11_guess_124 : decode cX11_guess 124 = .ok (.ldc 136, 2) := dcX11_guess_8.2.2.2.1
theorem dX11_guess_126 : decode cX11_guess 126 = .ok (.iload 5, 2) := dcX11_guess_8.2.2.2.2.1
theorem dX11_guess_128 : decode cX11_guess 128 = .ok (.iconst (-1), 1) := dcX11_guess_8.2.2.2.2.2.1
theorem dX11_guess_129 : decode cX11_guess 129 = .ok (.ixor, 1) := dcX11_guess_8.2.2.2.2.2.2.1
theorem dX11_guess_130 : decode cX11_guess 130 = .ok (.iand, 1) := dcX11_guess_8.2.2.2.2.2.2.2
theorem dX11_guess_131 : decode cX11_guess 131 = .ok (.ireturn, 1) := by decide +kernel
theorem dcX11_film_0 : (decode cX11_film 0 = .ok (.iload_n 1, 1)) ∧ (decode cX11_film 1 = .ok (.invokestatic 230, 3)) ∧ (decode cX11_film 4 = .ok (.ifCond .ne 6, 3)) ∧ (decode cX11_film 7 = .ok (.bipush (-2), 2)) ∧ (decode cX11_film 9 = .ok (.ireturn, 1)) ∧ (decode cX11_film 10 = .ok (.aload_n 0, 1)) ∧ (decode cX11_film 11 = .ok (.iload_n 2, 1)) ∧ (decode cX11_film 12 = .ok (.invokevirtual 125, 3)) := by decide +kernel
theorem dX11_film_0 : decode cX11_film 0 = .ok (.iload_n 1, 1) := dcX11_film_0.1
theorem dX11_film_1 : decode cX11_film 1 = .ok (.invokestatic 230, 3) := dcX11_film_0.2.1
theorem dX11_film_4 : decode cX11_film 4 = .ok (.ifCond .ne 6, 3) := dcX11_film_0.2.2.1
theorem dX11_film_7 : decode cX11_film 7 = .ok (.bipush (-2), 2) := dcX11_film_0.2.2.2.1
theorem dX11_film_9 : decode cX11_film 9 = .ok (.ireturn, 1) := dcX11_film_0.2.2.2.2.1
theorem dX11_film_10 : decode cX11_film 10 = .ok (.aload_n 0, 1) := dcX11_film_0.2.2.2.2.2.1
theorem dX11_film_11 : decode cX11_film 11 = .ok (.iload_n 2, 1) := dcX11_film_0.2.2.2.2.2.2.1
theorem dX11_film_12 : decode cX11_film 12 = .ok (.invokevirtual 125, 3) := dcX11_film_0.2.2.2.2.2.2.2
theorem dcX11_film_1 : (decode cX11_film 15 = .ok (.ifCond .ne 6, 3)) ∧ (decode cX11_film 18 = .ok (.bipush (-5), 2)) ∧ (decode cX11_film 20 = .ok (.ireturn, 1)) ∧ (decode cX11_film 21 = .ok (.iload_n 3, 1)) ∧ (decode cX11_film 22 = .ok (.bipush 20, 2)) ∧ (decode cX11_film 24 = .ok (.invokestatic 107, 3)) ∧ (decode cX11_film 27 = .ok (.ifCond .ne 6, 3)) ∧ (decode cX11_film 30 = .ok (.bipush (-7), 2)) := by decide +kernel
theorem dX11_film_15 : decode cX11_film 15 = .ok (.ifCond .ne 6, 3) := dcX11_film_1.1
theorem dX11_film_18 : decode cX11_film 18 = .ok (.bipush (-5), 2) := dcX11_film_1.2.1
theorem dX11_film_20 : decode cX11_film 20 = .ok (.ireturn, 1) := dcX11_film_1.2.2.1
theorem dX11_film_21 : decode cX11_film 21 = .ok (.iload_n 3, 1) := dcX11_film_1.2.2.2.1
theorem dX11_film_22 : decode cX11_film 22 = .ok (.bipush 20, 2) := dcX11_film_1.2.2.2.2.1
theorem dX11_film_24 : decode cX11_film 24 = .ok (.invokestatic 107, 3) := dcX11_film_1.2.2.2.2.2.1
theorem dX11_film_27 : decode cX11_film 27 = .ok (.ifCond .ne 6, 3) := dcX11_film_1.2.2.2.2.2.2.1
theorem dX11_film_30 : decode cX11_film 30 = .ok (.bipush (-7), 2) := dcX11_film_1.2.2.2.2.2.2.2
theorem dcX11_film_2 : (decode cX11_film 32 = .ok (.ireturn, 1)) ∧ (decode cX11_film 33 = .ok (.aload_n 0, 1)) ∧ (decode cX11_film 34 = .ok (.iload_n 2, 1)) ∧ (decode cX11_film 35 = .ok (.invokevirtual 184, 3)) ∧ (decode cX11_film 38 = .ok (.astore 4, 2)) ∧ (decode cX11_film 40 = .ok (.aload_n 0, 1)) ∧ (decode cX11_film 41 = .ok (.getfield 69, 3)) ∧ (decode cX11_film 44 = .ok (.iload_n 1, 1)) := by decide +kernel
theorem dX11_film_32 : decode cX11_film 32 = .ok (.ireturn, 1) := dcX11_film_2.1
theorem dX11_film_33 : decode cX11_film 33 = .ok (.aload_n 0, 1) := dcX11_film_2.2.1
theorem dX11_film_34 : decode cX11_film 34 = .ok (.iload_n 2, 1) := dcX11_film_2.2.2.1
theorem dX11_film_35 : decode cX11_film 35 = .ok (.invokevirtual 184, 3) := dcX11_film_2.2.2.2.1
theorem dX11_film_38 : decode cX11_film 38 = .ok (.astore 4, 2) := dcX11_film_2.2.2.2.2.1
theorem dX11_film_40 : decode cX11_film 40 = .ok (.aload_n 0, 1) := dcX11_film_2.2.2.2.2.2.1
theorem dX11_film_41 : decode cX11_film 41 = .ok (.getfield 69, 3) := dcX11_film_2.2.2.2.2.2.2.1
theorem dX11_film_44 : decode cX11_film 44 = .ok (.iload_n 1, 1) := dcX11_film_2.2.2.2.2.2.2.2
theorem dcX11_film_3 : (decode cX11_film 45 = .ok (.aaload, 1)) ∧ (decode cX11_film 46 = .ok (.iconst 2, 1)) ∧ (decode cX11_film 47 = .ok (.iload_n 3, 1)) ∧ (decode cX11_film 48 = .ok (.invokevirtual 233, 3)) ∧ (decode cX11_film 51 = .ok (.iconst 0, 1)) ∧ (decode cX11_film 52 = .ok (.istore 5, 2)) ∧ (decode cX11_film 54 = .ok (.iload 5, 2)) ∧ (decode cX11_film 56 = .ok (.iload_n 3, 1)) := by decide +kernel
theorem dX11_film_45 : decode cX11_film 45 = .ok (.aaload, 1) := dcX11_film_3.1
theorem dX11_film_46 : decode cX11_film 46 = .ok (.iconst 2, 1) := dcX11_film_3.2.1
theorem dX11_film_47 : decode cX11_film 47 = .ok (.iload_n 3, 1) := dcX11_film_3.2.2.1
theorem dX11_film_48 : decode cX11_film 48 = .ok (.invokevirtual 233, 3) := dcX11_film_3.2.2.2.1
theorem dX11_film_51 : decode cX11_film 51 = .ok (.iconst 0, 1) := dcX11_film_3.2.2.2.2.1
theorem dX11_film_52 : decode cX11_film 52 = .ok (.istore 5, 2) := dcX11_film_3.2.2.2.2.2.1
theorem dX11_film_54 : decode cX11_film 54 = .ok (.iload 5, 2) := dcX11_film_3.2.2.2.2.2.2.1
theorem dX11_film_56 : decode cX11_film 56 = .ok (.iload_n 3, 1) := dcX11_film_3.2.2.2.2.2.2.2
theorem dcX11_film_4 : (decode cX11_film 57 = .ok (.if_icmp .ge 62, 3)) ∧ (decode cX11_film 60 = .ok (.aload_n 0, 1)) ∧ (decode cX11_film 61 = .ok (.getfield 69, 3)) ∧ (decode cX11_film 64 = .ok (.iload_n 1, 1)) ∧ (decode cX11_film 65 = .ok (.aaload, 1)) ∧ (decode cX11_film 66 = .ok (.iload 5, 2)) ∧ (decode cX11_film 68 = .ok (.aload 4, 2)) ∧ (decode cX11_film 70 = .ok (.aload_n 0, 1)) := by decide +kernel
theorem dX11_film_57 : decode cX11_film 57 = .ok (.if_icmp .ge 62, 3) := dcX11_film_4.1
theorem dX11_film_60 : decode cX11_film 60 = .ok (.aload_n 0, 1) := dcX11_film_4.2.1
theorem dX11_film_61 : decode cX11_film 61 = .ok (.getfield 69, 3) := dcX11_film_4.2.2.1
theorem dX11_film_64 : decode cX11_film 64 = .ok (.iload_n 1, 1) := dcX11_film_4.2.2.2.1
theorem dX11_film_65 : decode cX11_film 65 = .ok (.aaload, 1) := dcX11_film_4.2.2.2.2.1
theorem dX11_film_66 : decode cX11_film 66 = .ok (.iload 5, 2) := dcX11_film_4.2.2.2.2.2.1
theorem dX11_film_68 : decode cX11_film 68 = .ok (.aload 4, 2) := dcX11_film_4.2.2.2.2.2.2.1
theorem dX11_film_70 : decode cX11_film 70 = .ok (.aload_n 0, 1) := dcX11_film_4.2.2.2.2.2.2.2
theorem dcX11_film_5 : (decode cX11_film 71 = .ok (.getfield 55, 3)) ∧ (decode cX11_film 74 = .ok (.aload_n 0, 1)) ∧ (decode cX11_film 75 = .ok (.getfield 93, 3)) ∧ (decode cX11_film 78 = .ok (.aaload, 1)) ∧ (decode cX11_film 79 = .ok (.aload_n 0, 1)) ∧ (decode cX11_film 80 = .ok (.getfield 84, 3)) ∧ (decode cX11_film 83 = .ok (.iload 5, 2)) ∧ (decode cX11_film 85 = .ok (.iadd, 1)) := by decide +kernel
theorem dX11_film_71 : decode cX11_film 71 = .ok (.getfield 55, 3) := dcX11_film_5.1
theorem dX11_film_74 : decode cX11_film 74 = .ok (.aload_n 0, 1) := dcX11_film_5.2.1
theorem dX11_film_75 : decode cX11_film 75 = .ok (.getfield 93, 3) := dcX11_film_5.2.2.1
theorem dX11_film_78 : decode cX11_film 78 = .ok (.aaload, 1) := dcX11_film_5.2.2.2.1
theorem dX11_film_79 : decode cX11_film 79 = .ok (.aload_n 0, 1) := dcX11_film_5.2.2.2.2.1
theorem dX11_film_80 : decode cX11_film 80 = .ok (.getfield 84, 3) := dcX11_film_5.2.2.2.2.2.1
theorem dX11_film_83 : decode cX11_film 83 = .ok (.iload 5, 2) := dcX11_film_5.2.2.2.2.2.2.1
theorem dX11_film_85 : decode cX11_film 85 = .ok (.iadd, 1) := dcX11_film_5.2.2.2.2.2.2.2
theorem dcX11_film_6 : (decode cX11_film 86 = .ok (.invokevirtual 164, 3)) ∧ (decode cX11_film 89 = .ok (.invokevirtual 237, 3)) ∧ (decode cX11_film 92 = .ok (.aload 4, 2)) ∧ (decode cX11_film 94 = .ok (.aload_n 0, 1)) ∧ (decode cX11_film 95 = .ok (.getfield 55, 3)) ∧ (decode cX11_film 98 = .ok (.aload_n 0, 1)) ∧ (decode cX11_film 99 = .ok (.getfield 93, 3)) ∧ (decode cX11_film 102 = .ok (.aaload, 1)) := by decide +kernel
theorem dX11_film_86 : decode cX11_film 86 = .ok (.invokevirtual 164, 3) := dcX11_film_6.1
theorem dX11_film_89 : decode cX11_film 89 = .ok (.invokevirtual 237, 3) := dcX11_film_6.2.1
theorem dX11_film_92 : decode cX11_film 92 = .ok (.aload 4, 2) := dcX11_film_6.2.2.1
theorem dX11_film_94 : decode cX11_film 94 = .ok (.aload_n 0, 1) := dcX11_film_6.2.2.2.1
theorem dX11_film_95 : decode cX11_film 95 = .ok (.getfield 55, 3) := dcX11_film_6.2.2.2.2.1
theorem dX11_film_98 : decode cX11_film 98 = .ok (.aload_n 0, 1) := dcX11_film_6.2.2.2.2.2.1
theorem dX11_film_99 : decode cX11_film 99 = .ok (.getfield 93, 3) := dcX11_film_6.2.2.2.2.2.2.1
theorem dX11_film_102 : decode cX11_film 102 = .ok (.aaload, 1) := dcX11_film_6.2.2.2.2.2.2.2
theorem dcX11_film_7 : (decode cX11_film 103 = .ok (.aload_n 0, 1)) ∧ (decode cX11_film 104 = .ok (.getfield 84, 3)) ∧ (decode cX11_film 107 = .ok (.iload 5, 2)) ∧ (decode cX11_film 109 = .ok (.iadd, 1)) ∧ (decode cX11_film 110 = .ok (.invokevirtual 177, 3)) ∧ (decode cX11_film 113 = .ok (.iinc 5 1, 3)) ∧ (decode cX11_film 116 = .ok (.goto (-62), 3)) ∧ (decode cX11_film 119 = .ok (.iload_n 3, 1)) := by decide +kernel
theorem dX11_film_103 : decode cX11_film 103 = .ok (.aload_n 0, 1) := dcX11_film_7.1
theorem dX11_film_104 : decode cX11_film 104 = .ok (.getfield 84, 3) := dcX11_film_7.2.1
theorem dX11_film_107 : decode cX11_film 107 = .ok (.iload 5, 2) := dcX11_film_7.2.2.1
theorem dX11_film_109 : decode cX11_film 109 = .ok (.iadd, 1) := dcX11_film_7.2.2.2.1
theorem dX11_film_110 : decode cX11_film 110 = .ok (.invokevirtual 177, 3) := dcX11_film_7.2.2.2.2.1
theorem dX11_film_113 : decode cX11_film 113 = .ok (.iinc 5 1, 3) := dcX11_film_7.2.2.2.2.2.1
theorem dX11_film_116 : decode cX11_film 116 = .ok (.goto (-62), 3) := dcX11_film_7.2.2.2.2.2.2.1
theorem dX11_film_119 : decode cX11_film 119 = .ok (.iload_n 3, 1) := dcX11_film_7.2.2.2.2.2.2.2
theorem dX11_film_120 : decode cX11_film 120 = .ok (.ireturn, 1) := by decide +kernel
theorem dcX11_drawn_0 : (decode cX11_drawn 0 = .ok (.iload_n 1, 1)) ∧ (decode cX11_drawn 1 = .ok (.ldc 240, 2)) ∧ (decode cX11_drawn 3 = .ok (.invokestatic 107, 3)) ∧ (decode cX11_drawn 6 = .ok (.ifCond .eq 12, 3)) ∧ (decode cX11_drawn 9 = .ok (.iload_n 2, 1)) ∧ (decode cX11_drawn 10 = .ok (.bipush 99, 2)) ∧ (decode cX11_drawn 12 = .ok (.invokestatic 107, 3)) ∧ (decode cX11_drawn 15 = .ok (.ifCond .ne 6, 3)) := by decide +kernel
theorem dX11_drawn_0 : decode cX11_drawn 0 = .ok (.iload_n 1, 1) := dcX11_drawn_0.1
theorem dX11_drawn_1 : decode cX11_drawn 1 = .ok (.ldc 240, 2) := dcX11_drawn_0.2.1
theorem dX11_drawn_3 : decode cX11_drawn 3 = .ok (.invokestatic 107, 3) := dcX11_drawn_0.2.2.1
theorem dX11_drawn_6 : decode cX11_drawn 6 = .ok (.ifCond .eq 12, 3) := dcX11_drawn_0.2.2.2.1
theorem dX11_drawn_9 : decode cX11_drawn 9 = .ok (.iload_n 2, 1) := dcX11_drawn_0.2.2.2.2.1
theorem dX11_drawn_10 : decode cX11_drawn 10 = .ok (.bipush 99, 2) := dcX11_drawn_0.2.2.2.2.2.1
theorem dX11_drawn_12 : decode cX11_drawn 12 = .ok (.invokestatic 107, 3) := dcX11_drawn_0.2.2.2.2.2.2.1
theorem dX11_drawn_15 : decode cX11_drawn 15 = .ok (.ifCond .ne 6, 3) := dcX11_drawn_0.2.2.2.2.2.2.2
theorem dcX11_drawn_1 : (decode cX11_drawn 18 = .ok (.bipush (-2), 2)) ∧ (decode cX11_drawn 20 = .ok (.ireturn, 1)) ∧ (decode cX11_drawn 21 = .ok (.aload_n 0, 1)) ∧ (decode cX11_drawn 22 = .ok (.iload_n 1, 1)) ∧ (decode cX11_drawn 23 = .ok (.iload_n 2, 1)) ∧ (decode cX11_drawn 24 = .ok (.invokevirtual 241, 3)) ∧ (decode cX11_drawn 27 = .ok (.ireturn, 1)) := by decide +kernel
theorem dX11_drawn_18 : decode cX11_drawn 18 = .ok (.bipush (-2), 2) := dcX11_drawn_1.1
theorem dX11_drawn_20 : decode cX11_drawn 20 = .ok (.ireturn, 1) := dcX11_drawn_1.2.1
theorem dX11_drawn_21 : decode cX11_drawn 21 = .ok (.aload_n 0, 1) := dcX11_drawn_1.2.2.1
theorem dX11_drawn_22 : decode cX11_drawn 22 = .ok (.iload_n 1, 1) := dcX11_drawn_1.2.2.2.1
theorem dX11_drawn_23 : decode cX11_drawn 23 = .ok (.iload_n 2, 1) := dcX11_drawn_1.2.2.2.2.1
theorem dX11_drawn_24 : decode cX11_drawn 24 = .ok (.invokevirtual 241, 3) := dcX11_drawn_1.2.2.2.2.2.1
theorem dX11_drawn_27 : decode cX11_drawn 27 = .ok (.ireturn, 1) := dcX11_drawn_1.2.2.2.2.2.2
theorem dcX11_odds_0 : (decode cX11_odds 0 = .ok (.iload_n 1, 1)) ∧ (decode cX11_odds 1 = .ok (.ldc 240, 2)) ∧ (decode cX11_odds 3 = .ok (.invokestatic 107, 3)) ∧ (decode cX11_odds 6 = .ok (.ifCond .eq 27, 3)) ∧ (decode cX11_odds 9 = .ok (.iload_n 2, 1)) ∧ (decode cX11_odds 10 = .ok (.iconst 1, 1)) ∧ (decode cX11_odds 11 = .ok (.if_icmp .lt 22, 3)) ∧ (decode cX11_odds 14 = .ok (.iload_n 2, 1)) := by decide +kernel
theorem dX11_odds_0 : decode cX11_odds 0 = .ok (.iload_n 1, 1) := dcX11_odds_0.1
theorem dX11_odds_1 : decode cX11_odds 1 = .ok (.ldc 240, 2) := dcX11_odds_0.2.1
theorem dX11_odds_3 : decode cX11_odds 3 = .ok (.invokestatic 107, 3) := dcX11_odds_0.2.2.1
theorem dX11_odds_6 : decode cX11_odds 6 = .ok (.ifCond .eq 27, 3) := dcX11_odds_0.2.2.2.1
theorem dX11_odds_9 : decode cX11_odds 9 = .ok (.iload_n 2, 1) := dcX11_odds_0.2.2.2.2.1
theorem dX11_odds_10 : decode cX11_odds 10 = .ok (.iconst 1, 1) := dcX11_odds_0.2.2.2.2.2.1
theorem dX11_odds_11 : decode cX11_odds 11 = .ok (.if_icmp .lt 22, 3) := dcX11_odds_0.2.2.2.2.2.2.1
theorem dX11_odds_14 : decode cX11_odds 14 = .ok (.iload_n 2, 1) := dcX11_odds_0.2.2.2.2.2.2.2
theorem dcX11_odds_1 : (decode cX11_odds 15 = .ok (.bipush 40, 2)) ∧ (decode cX11_odds 17 = .ok (.if_icmp .gt 16, 3)) ∧ (decode cX11_odds 20 = .ok (.iload_n 3, 1)) ∧ (decode cX11_odds 21 = .ok (.bipush 99, 2)) ∧ (decode cX11_odds 23 = .ok (.invokestatic 107, 3)) ∧ (decode cX11_odds 26 = .ok (.ifCond .eq 7, 3)) ∧ (decode cX11_odds 29 = .ok (.iconst 1, 1)) ∧ (decode cX11_odds 30 = .ok (.goto 4, 3)) := by decide +kernel
theorem dX11_odds_15 : decode cX11_odds 15 = .ok (.bipush 40, 2) := dcX11_odds_1.1
theorem dX11_odds_17 : decode cX11_odds 17 = .ok (.if_icmp .gt 16, 3) := dcX11_odds_1.2.1
theorem dX11_odds_20 : decode cX11_odds 20 = .ok (.iload_n 3, 1) := dcX11_odds_1.2.2.1
theorem dX11_odds_21 : decode cX11_odds 21 = .ok (.bipush 99, 2) := dcX11_odds_1.2.2.2.1
theorem dX11_odds_23 : decode cX11_odds 23 = .ok (.invokestatic 107, 3) := dcX11_odds_1.2.2.2.2.1
theorem dX11_odds_26 : decode cX11_odds 26 = .ok (.ifCond .eq 7, 3) := dcX11_odds_1.2.2.2.2.2.1
theorem dX11_odds_29 : decode cX11_odds 29 = .ok (.iconst 1, 1) := dcX11_odds_1.2.2.2.2.2.2.1
theorem dX11_odds_30 : decode cX11_odds 30 = .ok (.goto 4, 3) := dcX11_odds_1.2.2.2.2.2.2.2
theorem dcX11_odds_2 : (decode cX11_odds 33 = .ok (.iconst 0, 1)) ∧ (decode cX11_odds 34 = .ok (.istore 6, 2)) ∧ (decode cX11_odds 36 = .ok (.iload 6, 2)) ∧ (decode cX11_odds 38 = .ok (.ifCond .eq 22, 3)) ∧ (decode cX11_odds 41 = .ok (.iload 4, 2)) ∧ (decode cX11_odds 43 = .ok (.bipush 96, 2)) ∧ (decode cX11_odds 45 = .ok (.invokestatic 107, 3)) ∧ (decode cX11_odds 48 = .ok (.ifCond .eq 12, 3)) := by decide +kernel
theorem dX11_odds_33 : decode cX11_odds 33 = .ok (.iconst 0, 1) := dcX11_odds_2.1
theorem dX11_odds_34 : decode cX11_odds 34 = .ok (.istore 6, 2) := dcX11_odds_2.2.1
theorem dX11_odds_36 : decode cX11_odds 36 = .ok (.iload 6, 2) := dcX11_odds_2.2.2.1
theorem dX11_odds_38 : decode cX11_odds 38 = .ok (.ifCond .eq 22, 3) := dcX11_odds_2.2.2.2.1
theorem dX11_odds_41 : decode cX11_odds 41 = .ok (.iload 4, 2) := dcX11_odds_2.2.2.2.2.1
theorem dX11_odds_43 : decode cX11_odds 43 = .ok (.bipush 96, 2) := dcX11_odds_2.2.2.2.2.2.1
theorem dX11_odds_45 : decode cX11_odds 45 = .ok (.invokestatic 107, 3) := dcX11_odds_2.2.2.2.2.2.2.1
theorem dX11_odds_48 : decode cX11_odds 48 = .ok (.ifCond .eq 12, 3) := dcX11_odds_2.2.2.2.2.2.2.2
theorem dcX11_odds_3 : (decode cX11_odds 51 = .ok (.iload 5, 2)) ∧ (decode cX11_odds 53 = .ok (.iconst 1, 1)) ∧ (decode cX11_odds 54 = .ok (.invokestatic 107, 3)) ∧ (decode cX11_odds 57 = .ok (.ifCond .ne 7, 3)) ∧ (decode cX11_odds 60 = .ok (.ldc2_w 244, 3)) ∧ (decode cX11_odds 63 = .ok (.lreturn, 1)) ∧ (decode cX11_odds 64 = .ok (.iconst 0, 1)) ∧ (decode cX11_odds 65 = .ok (.istore 7, 2)) := by decide +kernel
theorem dX11_odds_51 : decode cX11_odds 51 = .ok (.iload 5, 2) := dcX11_odds_3.1
theorem dX11_odds_53 : decode cX11_odds 53 = .ok (.iconst 1, 1) := dcX11_odds_3.2.1
theorem dX11_odds_54 : decode cX11_odds 54 = .ok (.invokestatic 107, 3) := dcX11_odds_3.2.2.1
theorem dX11_odds_57 : decode cX11_odds 57 = .ok (.ifCond .ne 7, 3) := dcX11_odds_3.2.2.2.1
theorem dX11_odds_60 : decode cX11_odds 60 = .ok (.ldc2_w 244, 3) := dcX11_odds_3.2.2.2.2.1
theorem dX11_odds_63 : decode cX11_odds 63 = .ok (.lreturn, 1) := dcX11_odds_3.2.2.2.2.2.1
theorem dX11_odds_64 : decode cX11_odds 64 = .ok (.iconst 0, 1) := dcX11_odds_3.2.2.2.2.2.2.1
theorem dX11_odds_65 : decode cX11_odds 65 = .ok (.istore 7, 2) := dcX11_odds_3.2.2.2.2.2.2.2
theorem dcX11_odds_4 : (decode cX11_odds 67 = .ok (.iconst 0, 1)) ∧ (decode cX11_odds 68 = .ok (.istore 8, 2)) ∧ (decode cX11_odds 70 = .ok (.iload 8, 2)) ∧ (decode cX11_odds 72 = .ok (.iload_n 2, 1)) ∧ (decode cX11_odds 73 = .ok (.if_icmp .ge 26, 3)) ∧ (decode cX11_odds 76 = .ok (.aload_n 0, 1)) ∧ (decode cX11_odds 77 = .ok (.iload_n 1, 1)) ∧ (decode cX11_odds 78 = .ok (.iload 8, 2)) := by decide +kernel
theorem dX11_odds_67 : decode cX11_odds 67 = .ok (.iconst 0, 1) := dcX11_odds_4.1
theorem dX11_odds_68 : decode cX11_odds 68 = .ok (.istore 8, 2) := dcX11_odds_4.2.1
theorem dX11_odds_70 : decode cX11_odds 70 = .ok (.iload 8, 2) := dcX11_odds_4.2.2.1
theorem dX11_odds_72 : decode cX11_odds 72 = .ok (.iload_n 2, 1) := dcX11_odds_4.2.2.2.1
theorem dX11_odds_73 : decode cX11_odds 73 = .ok (.if_icmp .ge 26, 3) := dcX11_odds_4.2.2.2.2.1
theorem dX11_odds_76 : decode cX11_odds 76 = .ok (.aload_n 0, 1) := dcX11_odds_4.2.2.2.2.2.1
theorem dX11_odds_77 : decode cX11_odds 77 = .ok (.iload_n 1, 1) := dcX11_odds_4.2.2.2.2.2.2.1
theorem dX11_odds_78 : decode cX11_odds 78 = .ok (.iload 8, 2) := dcX11_odds_4.2.2.2.2.2.2.2
theorem dcX11_odds_5 : (decode cX11_odds 80 = .ok (.iadd, 1)) ∧ (decode cX11_odds 81 = .ok (.iload_n 3, 1)) ∧ (decode cX11_odds 82 = .ok (.invokevirtual 241, 3)) ∧ (decode cX11_odds 85 = .ok (.iload 4, 2)) ∧ (decode cX11_odds 87 = .ok (.if_icmp .lt 6, 3)) ∧ (decode cX11_odds 90 = .ok (.iinc 7 1, 3)) ∧ (decode cX11_odds 93 = .ok (.iinc 8 1, 3)) ∧ (decode cX11_odds 96 = .ok (.goto (-26), 3)) := by decide +kernel
theorem dX11_odds_80 : decode cX11_odds 80 = .ok (.iadd, 1) := dcX11_odds_5.1
theorem dX11_odds_81 : decode cX11_odds 81 = .ok (.iload_n 3, 1) := dcX11_odds_5.2.1
theorem dX11_odds_82 : decode cX11_odds 82 = .ok (.invokevirtual 241, 3) := dcX11_odds_5.2.2.1
theorem dX11_odds_85 : decode cX11_odds 85 = .ok (.iload 4, 2) := dcX11_odds_5.2.2.2.1
theorem dX11_odds_87 : decode cX11_odds 87 = .ok (.if_icmp .lt 6, 3) := dcX11_odds_5.2.2.2.2.1
theorem dX11_odds_90 : decode cX11_odds 90 = .ok (.iinc 7 1, 3) := dcX11_odds_5.2.2.2.2.2.1
theorem dX11_odds_93 : decode cX11_odds 93 = .ok (.iinc 8 1, 3) := dcX11_odds_5.2.2.2.2.2.2.1
theorem dX11_odds_96 : decode cX11_odds 96 = .ok (.goto (-26), 3) := dcX11_odds_5.2.2.2.2.2.2.2
theorem dcX11_odds_6 : (decode cX11_odds 99 = .ok (.iload 5, 2)) ∧ (decode cX11_odds 101 = .ok (.ifCond .ne 8, 3)) ∧ (decode cX11_odds 104 = .ok (.iload 7, 2)) ∧ (decode cX11_odds 106 = .ok (.goto 4, 3)) ∧ (decode cX11_odds 109 = .ok (.iload_n 2, 1)) ∧ (decode cX11_odds 110 = .ok (.istore 8, 2)) ∧ (decode cX11_odds 112 = .ok (.iload_n 2, 1)) ∧ (decode cX11_odds 113 = .ok (.istore 9, 2)) := by decide +kernel
theorem dX11_odds_99 : decode cX11_odds 99 = .ok (.iload 5, 2) := dcX11_odds_6.1
theorem dX11_odds_101 : decode cX11_odds 101 = .ok (.ifCond .ne 8, 3) := dcX11_odds_6.2.1
theorem dX11_odds_104 : decode cX11_odds 104 = .ok (.iload 7, 2) := dcX11_odds_6.2.2.1
theorem dX11_odds_106 : decode cX11_odds 106 = .ok (.goto 4, 3) := dcX11_odds_6.2.2.2.1
theorem dX11_odds_109 : decode cX11_odds 109 = .ok (.iload_n 2, 1) := dcX11_odds_6.2.2.2.2.1
theorem dX11_odds_110 : decode cX11_odds 110 = .ok (.istore 8, 2) := dcX11_odds_6.2.2.2.2.2.1
theorem dX11_odds_112 : decode cX11_odds 112 = .ok (.iload_n 2, 1) := dcX11_odds_6.2.2.2.2.2.2.1
theorem dX11_odds_113 : decode cX11_odds 113 = .ok (.istore 9, 2) := dcX11_odds_6.2.2.2.2.2.2.2
theorem dcX11_odds_7 : (decode cX11_odds 115 = .ok (.iload 9, 2)) ∧ (decode cX11_odds 117 = .ok (.iconst 1, 1)) ∧ (decode cX11_odds 118 = .ok (.if_icmp .le 31, 3)) ∧ (decode cX11_odds 121 = .ok (.iload 7, 2)) ∧ (decode cX11_odds 123 = .ok (.iload 9, 2)) ∧ (decode cX11_odds 125 = .ok (.irem, 1)) ∧ (decode cX11_odds 126 = .ok (.ifCond .ne 17, 3)) ∧ (decode cX11_odds 129 = .ok (.iload_n 2, 1)) := by decide +kernel
theorem dX11_odds_115 : decode cX11_odds 115 = .ok (.iload 9, 2) := dcX11_odds_7.1
theorem dX11_odds_117 : decode cX11_odds 117 = .ok (.iconst 1, 1) := dcX11_odds_7.2.1
theorem dX11_odds_118 : decode cX11_odds 118 = .ok (.if_icmp .le 31, 3) := dcX11_odds_7.2.2.1
theorem dX11_odds_121 : decode cX11_odds 121 = .ok (.iload 7, 2) := dcX11_odds_7.2.2.2.1
theorem dX11_odds_123 : decode cX11_odds 123 = .ok (.iload 9, 2) := dcX11_odds_7.2.2.2.2.1
theorem dX11_odds_125 : decode cX11_odds 125 = .ok (.irem, 1) := dcX11_odds_7.2.2.2.2.2.1
theorem dX11_odds_126 : decode cX11_odds 126 = .ok (.ifCond .ne 17, 3) := dcX11_odds_7.2.2.2.2.2.2.1
theorem dX11_odds_129 : decode cX11_odds 129 = .ok (.iload_n 2, 1) := dcX11_odds_7.2.2.2.2.2.2.2
theorem dcX11_odds_8 : (decode cX11_odds 130 = .ok (.iload 9, 2)) ∧ (decode cX11_odds 132 = .ok (.irem, 1)) ∧ (decode cX11_odds 133 = .ok (.ifCond .ne 10, 3)) ∧ (decode cX11_odds 136 = .ok (.iload 8, 2)) ∧ (decode cX11_odds 138 = .ok (.iload 9, 2)) ∧ (decode cX11_odds 140 = .ok (.idiv, 1)) ∧ (decode cX11_odds 141 = .ok (.i2l, 1)) ∧ (decode cX11_odds 142 = .ok (.lreturn, 1)) := by decide +kernel
theorem dX11_odds_130 : decode cX11_odds 130 = .ok (.iload 9, 2) := dcX11_odds_8.1
theorem dX11_odds_132 : decode cX11_odds 132 = .ok (.irem, 1) := dcX11_odds_8.2.1
theorem dX11_odds_133 : decode cX11_odds 133 = .ok (.ifCond .ne 10, 3) := dcX11_odds_8.2.2.1
theorem dX11_odds_136 : decode cX11_odds 136 = .ok (.iload 8, 2) := dcX11_odds_8.2.2.2.1
theorem dX11_odds_138 : decode cX11_odds 138 = .ok (.iload 9, 2) := dcX11_odds_8.2.2.2.2.1
theorem dX11_odds_140 : decode cX11_odds 140 = .ok (.idiv, 1) := dcX11_odds_8.2.2.2.2.2.1
theorem dX11_odds_141 : decode cX11_odds 141 = .ok (.i2l, 1) := dcX11_odds_8.2.2.2.2.2.2.1
theorem dX11_odds_142 : decode cX11_odds 142 = .ok (.lreturn, 1) := dcX11_odds_8.2.2.2.2.2.2.2
theorem dcX11_odds_9 : (decode cX11_odds 143 = .ok (.iinc 9 (-1), 3)) ∧ (decode cX11_odds 146 = .ok (.goto (-31), 3)) ∧ (decode cX11_odds 149 = .ok (.iload 8, 2)) ∧ (decode cX11_odds 151 = .ok (.i2l, 1)) ∧ (decode cX11_odds 152 = .ok (.lreturn, 1)) := by decide +kernel
theorem dX11_odds_143 : decode cX11_odds 143 = .ok (.iinc 9 (-1), 3) := dcX11_odds_9.1
theorem dX11_odds_146 : decode cX11_odds 146 = .ok (.goto (-31), 3) := dcX11_odds_9.2.1
theorem dX11_odds_149 : decode cX11_odds 149 = .ok (.iload 8, 2) := dcX11_odds_9.2.2.1
theorem dX11_odds_151 : decode cX11_odds 151 = .ok (.i2l, 1) := dcX11_odds_9.2.2.2.1
theorem dX11_odds_152 : decode cX11_odds 152 = .ok (.lreturn, 1) := dcX11_odds_9.2.2.2.2
theorem dcX11_image_0 : (decode cX11_image 0 = .ok (.iconst 0, 1)) ∧ (decode cX11_image 1 = .ok (.istore_n 1, 1)) ∧ (decode cX11_image 2 = .ok (.iload_n 1, 1)) ∧ (decode cX11_image 3 = .ok (.aload_n 0, 1)) ∧ (decode cX11_image 4 = .ok (.getfield 80, 3)) ∧ (decode cX11_image 7 = .ok (.if_icmp .ge 27, 3)) ∧ (decode cX11_image 10 = .ok (.aload_n 0, 1)) ∧ (decode cX11_image 11 = .ok (.getfield 49, 3)) := by decide +kernel
theorem dX11_image_0 : decode cX11_image 0 = .ok (.iconst 0, 1) := dcX11_image_0.1
theorem dX11_image_1 : decode cX11_image 1 = .ok (.istore_n 1, 1) := dcX11_image_0.2.1
theorem dX11_image_2 : decode cX11_image 2 = .ok (.iload_n 1, 1) := dcX11_image_0.2.2.1
theorem dX11_image_3 : decode cX11_image 3 = .ok (.aload_n 0, 1) := dcX11_image_0.2.2.2.1
theorem dX11_image_4 : decode cX11_image 4 = .ok (.getfield 80, 3) := dcX11_image_0.2.2.2.2.1
theorem dX11_image_7 : decode cX11_image 7 = .ok (.if_icmp .ge 27, 3) := dcX11_image_0.2.2.2.2.2.1
theorem dX11_image_10 : decode cX11_image 10 = .ok (.aload_n 0, 1) := dcX11_image_0.2.2.2.2.2.2.1
theorem dX11_image_11 : decode cX11_image 11 = .ok (.getfield 49, 3) := dcX11_image_0.2.2.2.2.2.2.2
theorem dcX11_image_1 : (decode cX11_image 14 = .ok (.getfield 246, 3)) ∧ (decode cX11_image 17 = .ok (.iload_n 1, 1)) ∧ (decode cX11_image 18 = .ok (.aaload, 1)) ∧ (decode cX11_image 19 = .ok (.aload_n 0, 1)) ∧ (decode cX11_image 20 = .ok (.getfield 37, 3)) ∧ (decode cX11_image 23 = .ok (.iload_n 1, 1)) ∧ (decode cX11_image 24 = .ok (.aaload, 1)) ∧ (decode cX11_image 25 = .ok (.invokevirtual 247, 3)) := by decide +kernel
theorem dX11_image_14 : decode cX11_image 14 = .ok (.getfield 246, 3) := dcX11_image_1.1
theorem dX11_image_17 : decode cX11_image 17 = .ok (.iload_n 1, 1) := dcX11_image_1.2.1
theorem dX11_image_18 : decode cX11_image 18 = .ok (.aaload, 1) := dcX11_image_1.2.2.1
theorem dX11_image_19 : decode cX11_image 19 = .ok (.aload_n 0, 1) := dcX11_image_1.2.2.2.1
theorem dX11_image_20 : decode cX11_image 20 = .ok (.getfield 37, 3) := dcX11_image_1.2.2.2.2.1
theorem dX11_image_23 : decode cX11_image 23 = .ok (.iload_n 1, 1) := dcX11_image_1.2.2.2.2.2.1
theorem dX11_image_24 : decode cX11_image 24 = .ok (.aaload, 1) := dcX11_image_1.2.2.2.2.2.2.1
theorem dX11_image_25 : decode cX11_image 25 = .ok (.invokevirtual 247, 3) := dcX11_image_1.2.2.2.2.2.2.2
theorem dcX11_image_2 : (decode cX11_image 28 = .ok (.iinc 1 1, 3)) ∧ (decode cX11_image 31 = .ok (.goto (-29), 3)) ∧ (decode cX11_image 34 = .ok (.aload_n 0, 1)) ∧ (decode cX11_image 35 = .ok (.getfield 49, 3)) ∧ (decode cX11_image 38 = .ok (.aload_n 0, 1)) ∧ (decode cX11_image 39 = .ok (.getfield 80, 3)) ∧ (decode cX11_image 42 = .ok (.putfield 251, 3)) ∧ (decode cX11_image 45 = .ok (.aload_n 0, 1)) := by decide +kernel
theorem dX11_image_28 : decode cX11_image 28 = .ok (.iinc 1 1, 3) := dcX11_image_2.1
theorem dX11_image_31 : decode cX11_image 31 = .ok (.goto (-29), 3) := dcX11_image_2.2.1
theorem dX11_image_34 : decode cX11_image 34 = .ok (.aload_n 0, 1) := dcX11_image_2.2.2.1
theorem dX11_image_35 : decode cX11_image 35 = .ok (.getfield 49, 3) := dcX11_image_2.2.2.2.1
theorem dX11_image_38 : decode cX11_image 38 = .ok (.aload_n 0, 1) := dcX11_image_2.2.2.2.2.1
theorem dX11_image_39 : decode cX11_image 39 = .ok (.getfield 80, 3) := dcX11_image_2.2.2.2.2.2.1
theorem dX11_image_42 : decode cX11_image 42 = .ok (.putfield 251, 3) := dcX11_image_2.2.2.2.2.2.2.1
theorem dX11_image_45 : decode cX11_image 45 = .ok (.aload_n 0, 1) := dcX11_image_2.2.2.2.2.2.2.2
theorem dcX11_image_3 : (decode cX11_image 46 = .ok (.getfield 49, 3)) ∧ (decode cX11_image 49 = .ok (.aload_n 0, 1)) ∧ (decode cX11_image 50 = .ok (.getfield 84, 3)) ∧ (decode cX11_image 53 = .ok (.putfield 252, 3)) ∧ (decode cX11_image 56 = .ok (.aload_n 0, 1)) ∧ (decode cX11_image 57 = .ok (.getfield 49, 3)) ∧ (decode cX11_image 60 = .ok (.aload_n 0, 1)) ∧ (decode cX11_image 61 = .ok (.getfield 87, 3)) := by decide +kernel
theorem dX11_image_46 : decode cX11_image 46 = .ok (.getfield 49, 3) := dcX11_image_3.1
theorem dX11_image_49 : decode cX11_image 49 = .ok (.aload_n 0, 1) := dcX11_image_3.2.1
theorem dX11_image_50 : decode cX11_image 50 = .ok (.getfield 84, 3) := dcX11_image_3.2.2.1
theorem dX11_image_53 : decode cX11_image 53 = .ok (.putfield 252, 3) := dcX11_image_3.2.2.2.1
theorem dX11_image_56 : decode cX11_image 56 = .ok (.aload_n 0, 1) := dcX11_image_3.2.2.2.2.1
theorem dX11_image_57 : decode cX11_image 57 = .ok (.getfield 49, 3) := dcX11_image_3.2.2.2.2.2.1
theorem dX11_image_60 : decode cX11_image 60 = .ok (.aload_n 0, 1) := dcX11_image_3.2.2.2.2.2.2.1
theorem dX11_image_61 : decode cX11_image 61 = .ok (.getfield 87, 3) := dcX11_image_3.2.2.2.2.2.2.2
theorem dcX11_image_4 : (decode cX11_image 64 = .ok (.putfield 253, 3)) ∧ (decode cX11_image 67 = .ok (.aload_n 0, 1)) ∧ (decode cX11_image 68 = .ok (.getfield 49, 3)) ∧ (decode cX11_image 71 = .ok (.aload_n 0, 1)) ∧ (decode cX11_image 72 = .ok (.getfield 93, 3)) ∧ (decode cX11_image 75 = .ok (.putfield 254, 3)) ∧ (decode cX11_image 78 = .ok (.aload_n 0, 1)) ∧ (decode cX11_image 79 = .ok (.getfield 80, 3)) := by decide +kernel
theorem dX11_image_64 : decode cX11_image 64 = .ok (.putfield 253, 3) := dcX11_image_4.1
theorem dX11_image_67 : decode cX11_image 67 = .ok (.aload_n 0, 1) := dcX11_image_4.2.1
theorem dX11_image_68 : decode cX11_image 68 = .ok (.getfield 49, 3) := dcX11_image_4.2.2.1
theorem dX11_image_71 : decode cX11_image 71 = .ok (.aload_n 0, 1) := dcX11_image_4.2.2.2.1
theorem dX11_image_72 : decode cX11_image 72 = .ok (.getfield 93, 3) := dcX11_image_4.2.2.2.2.1
theorem dX11_image_75 : decode cX11_image 75 = .ok (.putfield 254, 3) := dcX11_image_4.2.2.2.2.2.1
theorem dX11_image_78 : decode cX11_image 78 = .ok (.aload_n 0, 1) := dcX11_image_4.2.2.2.2.2.2.1
theorem dX11_image_79 : decode cX11_image 79 = .ok (.getfield 80, 3) := dcX11_image_4.2.2.2.2.2.2.2
theorem dX11_image_82 : decode cX11_image 82 = .ok (.ireturn, 1) := by decide +kernel
theorem dcX11_back_0 : (decode cX11_back 0 = .ok (.aload_n 0, 1)) ∧ (decode cX11_back 1 = .ok (.getfield 49, 3)) ∧ (decode cX11_back 4 = .ok (.getfield 251, 3)) ∧ (decode cX11_back 7 = .ok (.iconst (-1), 1)) ∧ (decode cX11_back 8 = .ok (.if_icmp .ne 6, 3)) ∧ (decode cX11_back 11 = .ok (.bipush (-3), 2)) ∧ (decode cX11_back 13 = .ok (.ireturn, 1)) ∧ (decode cX11_back 14 = .ok (.iconst 0, 1)) := by decide +kernel
theorem dX11_back_0 : decode cX11_back 0 = .ok (.aload_n 0, 1) := dcX11_back_0.1
theorem dX11_back_1 : decode cX11_back 1 = .ok (.getfield 49, 3) := dcX11_back_0.2.1
theorem dX11_back_4 : decode cX11_back 4 = .ok (.getfield 251, 3) := dcX11_back_0.2.2.1
theorem dX11_back_7 : decode cX11_back 7 = .ok (.iconst (-1), 1) := dcX11_back_0.2.2.2.1
theorem dX11_back_8 : decode cX11_back 8 = .ok (.if_icmp .ne 6, 3) := dcX11_back_0.2.2.2.2.1
theorem dX11_back_11 : decode cX11_back 11 = .ok (.bipush (-3), 2) := dcX11_back_0.2.2.2.2.2.1
theorem dX11_back_13 : decode cX11_back 13 = .ok (.ireturn, 1) := dcX11_back_0.2.2.2.2.2.2.1
theorem dX11_back_14 : decode cX11_back 14 = .ok (.iconst 0, 1) := dcX11_back_0.2.2.2.2.2.2.2
theorem dcX11_back_1 : (decode cX11_back 15 = .ok (.istore_n 1, 1)) ∧ (decode cX11_back 16 = .ok (.iload_n 1, 1)) ∧ (decode cX11_back 17 = .ok (.aload_n 0, 1)) ∧ (decode cX11_back 18 = .ok (.getfield 49, 3)) ∧ (decode cX11_back 21 = .ok (.getfield 251, 3)) ∧ (decode cX11_back 24 = .ok (.if_icmp .ge 27, 3)) ∧ (decode cX11_back 27 = .ok (.aload_n 0, 1)) ∧ (decode cX11_back 28 = .ok (.getfield 37, 3)) := by decide +kernel
theorem dX11_back_15 : decode cX11_back 15 = .ok (.istore_n 1, 1) := dcX11_back_1.1
theorem dX11_back_16 : decode cX11_back 16 = .ok (.iload_n 1, 1) := dcX11_back_1.2.1
theorem dX11_back_17 : decode cX11_back 17 = .ok (.aload_n 0, 1) := dcX11_back_1.2.2.1
theorem dX11_back_18 : decode cX11_back 18 = .ok (.getfield 49, 3) := dcX11_back_1.2.2.2.1
theorem dX11_back_21 : decode cX11_back 21 = .ok (.getfield 251, 3) := dcX11_back_1.2.2.2.2.1
theorem dX11_back_24 : decode cX11_back 24 = .ok (.if_icmp .ge 27, 3) := dcX11_back_1.2.2.2.2.2.1
theorem dX11_back_27 : decode cX11_back 27 = .ok (.aload_n 0, 1) := dcX11_back_1.2.2.2.2.2.2.1
theorem dX11_back_28 : decode cX11_back 28 = .ok (.getfield 37, 3) := dcX11_back_1.2.2.2.2.2.2.2
theorem dcX11_back_2 : (decode cX11_back 31 = .ok (.iload_n 1, 1)) ∧ (decode cX11_back 32 = .ok (.aaload, 1)) ∧ (decode cX11_back 33 = .ok (.aload_n 0, 1)) ∧ (decode cX11_back 34 = .ok (.getfield 49, 3)) ∧ (decode cX11_back 37 = .ok (.getfield 246, 3)) ∧ (decode cX11_back 40 = .ok (.iload_n 1, 1)) ∧ (decode cX11_back 41 = .ok (.aaload, 1)) ∧ (decode cX11_back 42 = .ok (.invokevirtual 247, 3)) := by decide +kernel
theorem dX11_back_31 : decode cX11_back 31 = .ok (.iload_n 1, 1) := dcX11_back_2.1
theorem dX11_back_32 : decode cX11_back 32 = .ok (.aaload, 1) := dcX11_back_2.2.1
theorem dX11_back_33 : decode cX11_back 33 = .ok (.aload_n 0, 1) := dcX11_back_2.2.2.1
theorem dX11_back_34 : decode cX11_back 34 = .ok (.getfield 49, 3) := dcX11_back_2.2.2.2.1
theorem dX11_back_37 : decode cX11_back 37 = .ok (.getfield 246, 3) := dcX11_back_2.2.2.2.2.1
theorem dX11_back_40 : decode cX11_back 40 = .ok (.iload_n 1, 1) := dcX11_back_2.2.2.2.2.2.1
theorem dX11_back_41 : decode cX11_back 41 = .ok (.aaload, 1) := dcX11_back_2.2.2.2.2.2.2.1
theorem dX11_back_42 : decode cX11_back 42 = .ok (.invokevirtual 247, 3) := dcX11_back_2.2.2.2.2.2.2.2
theorem dcX11_back_3 : (decode cX11_back 45 = .ok (.iinc 1 1, 3)) ∧ (decode cX11_back 48 = .ok (.goto (-32), 3)) ∧ (decode cX11_back 51 = .ok (.aload_n 0, 1)) ∧ (decode cX11_back 52 = .ok (.aload_n 0, 1)) ∧ (decode cX11_back 53 = .ok (.getfield 49, 3)) ∧ (decode cX11_back 56 = .ok (.getfield 251, 3)) ∧ (decode cX11_back 59 = .ok (.putfield 80, 3)) ∧ (decode cX11_back 62 = .ok (.aload_n 0, 1)) := by decide +kernel
theorem dX11_back_45 : decode cX11_back 45 = .ok (.iinc 1 1, 3) := dcX11_back_3.1
theorem dX11_back_48 : decode cX11_back 48 = .ok (.goto (-32), 3) := dcX11_back_3.2.1
theorem dX11_back_51 : decode cX11_back 51 = .ok (.aload_n 0, 1) := dcX11_back_3.2.2.1
theorem dX11_back_52 : decode cX11_back 52 = .ok (.aload_n 0, 1) := dcX11_back_3.2.2.2.1
theorem dX11_back_53 : decode cX11_back 53 = .ok (.getfield 49, 3) := dcX11_back_3.2.2.2.2.1
theorem dX11_back_56 : decode cX11_back 56 = .ok (.getfield 251, 3) := dcX11_back_3.2.2.2.2.2.1
theorem dX11_back_59 : decode cX11_back 59 = .ok (.putfield 80, 3) := dcX11_back_3.2.2.2.2.2.2.1
theorem dX11_back_62 : decode cX11_back 62 = .ok (.aload_n 0, 1) := dcX11_back_3.2.2.2.2.2.2.2
theorem dcX11_back_4 : (decode cX11_back 63 = .ok (.aload_n 0, 1)) ∧ (decode cX11_back 64 = .ok (.getfield 49, 3)) ∧ (decode cX11_back 67 = .ok (.getfield 252, 3)) ∧ (decode cX11_back 70 = .ok (.putfield 84, 3)) ∧ (decode cX11_back 73 = .ok (.aload_n 0, 1)) ∧ (decode cX11_back 74 = .ok (.aload_n 0, 1)) ∧ (decode cX11_back 75 = .ok (.getfield 49, 3)) ∧ (decode cX11_back 78 = .ok (.getfield 253, 3)) := by decide +kernel
theorem dX11_back_63 : decode cX11_back 63 = .ok (.aload_n 0, 1) := dcX11_back_4.1
theorem dX11_back_64 : decode cX11_back 64 = .ok (.getfield 49, 3) := dcX11_back_4.2.1
theorem dX11_back_67 : decode cX11_back 67 = .ok (.getfield 252, 3) := dcX11_back_4.2.2.1
theorem dX11_back_70 : decode cX11_back 70 = .ok (.putfield 84, 3) := dcX11_back_4.2.2.2.1
theorem dX11_back_73 : decode cX11_back 73 = .ok (.aload_n 0, 1) := dcX11_back_4.2.2.2.2.1
theorem dX11_back_74 : decode cX11_back 74 = .ok (.aload_n 0, 1) := dcX11_back_4.2.2.2.2.2.1
theorem dX11_back_75 : decode cX11_back 75 = .ok (.getfield 49, 3) := dcX11_back_4.2.2.2.2.2.2.1
theorem dX11_back_78 : decode cX11_back 78 = .ok (.getfield 253, 3) := dcX11_back_4.2.2.2.2.2.2.2
theorem dcX11_back_5 : (decode cX11_back 81 = .ok (.putfield 87, 3)) ∧ (decode cX11_back 84 = .ok (.aload_n 0, 1)) ∧ (decode cX11_back 85 = .ok (.aload_n 0, 1)) ∧ (decode cX11_back 86 = .ok (.getfield 49, 3)) ∧ (decode cX11_back 89 = .ok (.getfield 254, 3)) ∧ (decode cX11_back 92 = .ok (.putfield 93, 3)) ∧ (decode cX11_back 95 = .ok (.aload_n 0, 1)) ∧ (decode cX11_back 96 = .ok (.getfield 80, 3)) := by decide +kernel
theorem dX11_back_81 : decode cX11_back 81 = .ok (.putfield 87, 3) := dcX11_back_5.1
theorem dX11_back_84 : decode cX11_back 84 = .ok (.aload_n 0, 1) := dcX11_back_5.2.1
theorem dX11_back_85 : decode cX11_back 85 = .ok (.aload_n 0, 1) := dcX11_back_5.2.2.1
theorem dX11_back_86 : decode cX11_back 86 = .ok (.getfield 49, 3) := dcX11_back_5.2.2.2.1
theorem dX11_back_89 : decode cX11_back 89 = .ok (.getfield 254, 3) := dcX11_back_5.2.2.2.2.1
theorem dX11_back_92 : decode cX11_back 92 = .ok (.putfield 93, 3) := dcX11_back_5.2.2.2.2.2.1
theorem dX11_back_95 : decode cX11_back 95 = .ok (.aload_n 0, 1) := dcX11_back_5.2.2.2.2.2.2.1
theorem dX11_back_96 : decode cX11_back 96 = .ok (.getfield 80, 3) := dcX11_back_5.2.2.2.2.2.2.2
theorem dX11_back_99 : decode cX11_back 99 = .ok (.ireturn, 1) := by decide +kernel
theorem dcX11_sheet_0 : (decode cX11_sheet 0 = .ok (.iload_n 2, 1)) ∧ (decode cX11_sheet 1 = .ok (.iconst (-1), 1)) ∧ (decode cX11_sheet 2 = .ok (.if_icmp .ne 7, 3)) ∧ (decode cX11_sheet 5 = .ok (.iconst 1, 1)) ∧ (decode cX11_sheet 6 = .ok (.goto 4, 3)) ∧ (decode cX11_sheet 9 = .ok (.iconst 0, 1)) ∧ (decode cX11_sheet 10 = .ok (.istore 4, 2)) ∧ (decode cX11_sheet 12 = .ok (.iload_n 1, 1)) := by decide +kernel
theorem dX11_sheet_0 : decode cX11_sheet 0 = .ok (.iload_n 2, 1) := dcX11_sheet_0.1
theorem dX11_sheet_1 : decode cX11_sheet 1 = .ok (.iconst (-1), 1) := dcX11_sheet_0.2.1
theorem dX11_sheet_2 : decode cX11_sheet 2 = .ok (.if_icmp .ne 7, 3) := dcX11_sheet_0.2.2.1
theorem dX11_sheet_5 : decode cX11_sheet 5 = .ok (.iconst 1, 1) := dcX11_sheet_0.2.2.2.1
theorem dX11_sheet_6 : decode cX11_sheet 6 = .ok (.goto 4, 3) := dcX11_sheet_0.2.2.2.2.1
theorem dX11_sheet_9 : decode cX11_sheet 9 = .ok (.iconst 0, 1) := dcX11_sheet_0.2.2.2.2.2.1
theorem dX11_sheet_10 : decode cX11_sheet 10 = .ok (.istore 4, 2) := dcX11_sheet_0.2.2.2.2.2.2.1
theorem dX11_sheet_12 : decode cX11_sheet 12 = .ok (.iload_n 1, 1) := dcX11_sheet_0.2.2.2.2.2.2.2
theorem dcX11_sheet_1 : (decode cX11_sheet 13 = .ok (.invokestatic 230, 3)) ∧ (decode cX11_sheet 16 = .ok (.ifCond .eq 22, 3)) ∧ (decode cX11_sheet 19 = .ok (.iload 4, 2)) ∧ (decode cX11_sheet 21 = .ok (.ifCond .ne 20, 3)) ∧ (decode cX11_sheet 24 = .ok (.iload_n 2, 1)) ∧ (decode cX11_sheet 25 = .ok (.iconst 2, 1)) ∧ (decode cX11_sheet 26 = .ok (.invokestatic 107, 3)) ∧ (decode cX11_sheet 29 = .ok (.ifCond .eq 9, 3)) := by decide +kernel
theorem dX11_sheet_13 : decode cX11_sheet 13 = .ok (.invokestatic 230, 3) := dcX11_sheet_1.1
theorem dX11_sheet_16 : decode cX11_sheet 16 = .ok (.ifCond .eq 22, 3) := dcX11_sheet_1.2.1
theorem dX11_sheet_19 : decode cX11_sheet 19 = .ok (.iload 4, 2) := dcX11_sheet_1.2.2.1
theorem dX11_sheet_21 : decode cX11_sheet 21 = .ok (.ifCond .ne 20, 3) := dcX11_sheet_1.2.2.2.1
theorem dX11_sheet_24 : decode cX11_sheet 24 = .ok (.iload_n 2, 1) := dcX11_sheet_1.2.2.2.2.1
theorem dX11_sheet_25 : decode cX11_sheet 25 = .ok (.iconst 2, 1) := dcX11_sheet_1.2.2.2.2.2.1
theorem dX11_sheet_26 : decode cX11_sheet 26 = .ok (.invokestatic 107, 3) := dcX11_sheet_1.2.2.2.2.2.2.1
theorem dX11_sheet_29 : decode cX11_sheet 29 = .ok (.ifCond .eq 9, 3) := dcX11_sheet_1.2.2.2.2.2.2.2
theorem dcX11_sheet_2 : (decode cX11_sheet 32 = .ok (.iload_n 3, 1)) ∧ (decode cX11_sheet 33 = .ok (.bipush 40, 2)) ∧ (decode cX11_sheet 35 = .ok (.if_icmp .le 6, 3)) ∧ (decode cX11_sheet 38 = .ok (.bipush (-2), 2)) ∧ (decode cX11_sheet 40 = .ok (.ireturn, 1)) ∧ (decode cX11_sheet 41 = .ok (.iload 4, 2)) ∧ (decode cX11_sheet 43 = .ok (.ifCond .ne 10, 3)) ∧ (decode cX11_sheet 46 = .ok (.iload_n 3, 1)) := by decide +kernel
theorem dX11_sheet_32 : decode cX11_sheet 32 = .ok (.iload_n 3, 1) := dcX11_sheet_2.1
theorem dX11_sheet_33 : decode cX11_sheet 33 = .ok (.bipush 40, 2) := dcX11_sheet_2.2.1
theorem dX11_sheet_35 : decode cX11_sheet 35 = .ok (.if_icmp .le 6, 3) := dcX11_sheet_2.2.2.1
theorem dX11_sheet_38 : decode cX11_sheet 38 = .ok (.bipush (-2), 2) := dcX11_sheet_2.2.2.2.1
theorem dX11_sheet_40 : decode cX11_sheet 40 = .ok (.ireturn, 1) := dcX11_sheet_2.2.2.2.2.1
theorem dX11_sheet_41 : decode cX11_sheet 41 = .ok (.iload 4, 2) := dcX11_sheet_2.2.2.2.2.2.1
theorem dX11_sheet_43 : decode cX11_sheet 43 = .ok (.ifCond .ne 10, 3) := dcX11_sheet_2.2.2.2.2.2.2.1
theorem dX11_sheet_46 : decode cX11_sheet 46 = .ok (.iload_n 3, 1) := dcX11_sheet_2.2.2.2.2.2.2.2
theorem dcX11_sheet_3 : (decode cX11_sheet 47 = .ok (.ifCond .ge 6, 3)) ∧ (decode cX11_sheet 50 = .ok (.bipush (-14), 2)) ∧ (decode cX11_sheet 52 = .ok (.ireturn, 1)) ∧ (decode cX11_sheet 53 = .ok (.aload_n 0, 1)) ∧ (decode cX11_sheet 54 = .ok (.getfield 69, 3)) ∧ (decode cX11_sheet 57 = .ok (.iload_n 1, 1)) ∧ (decode cX11_sheet 58 = .ok (.aaload, 1)) ∧ (decode cX11_sheet 59 = .ok (.iload_n 2, 1)) := by decide +kernel
theorem dX11_sheet_47 : decode cX11_sheet 47 = .ok (.ifCond .ge 6, 3) := dcX11_sheet_3.1
theorem dX11_sheet_50 : decode cX11_sheet 50 = .ok (.bipush (-14), 2) := dcX11_sheet_3.2.1
theorem dX11_sheet_52 : decode cX11_sheet 52 = .ok (.ireturn, 1) := dcX11_sheet_3.2.2.1
theorem dX11_sheet_53 : decode cX11_sheet 53 = .ok (.aload_n 0, 1) := dcX11_sheet_3.2.2.2.1
theorem dX11_sheet_54 : decode cX11_sheet 54 = .ok (.getfield 69, 3) := dcX11_sheet_3.2.2.2.2.1
theorem dX11_sheet_57 : decode cX11_sheet 57 = .ok (.iload_n 1, 1) := dcX11_sheet_3.2.2.2.2.2.1
theorem dX11_sheet_58 : decode cX11_sheet 58 = .ok (.aaload, 1) := dcX11_sheet_3.2.2.2.2.2.2.1
theorem dX11_sheet_59 : decode cX11_sheet 59 = .ok (.iload_n 2, 1) := dcX11_sheet_3.2.2.2.2.2.2.2
theorem dcX11_sheet_4 : (decode cX11_sheet 60 = .ok (.iload 4, 2)) ∧ (decode cX11_sheet 62 = .ok (.ifCond .eq 7, 3)) ∧ (decode cX11_sheet 65 = .ok (.iconst 0, 1)) ∧ (decode cX11_sheet 66 = .ok (.goto 4, 3)) ∧ (decode cX11_sheet 69 = .ok (.iload_n 3, 1)) ∧ (decode cX11_sheet 70 = .ok (.invokevirtual 233, 3)) ∧ (decode cX11_sheet 73 = .ok (.iconst 1, 1)) ∧ (decode cX11_sheet 74 = .ok (.ireturn, 1)) := by decide +kernel
theorem dX11_sheet_60 : decode cX11_sheet 60 = .ok (.iload 4, 2) := dcX11_sheet_4.1
theorem dX11_sheet_62 : decode cX11_sheet 62 = .ok (.ifCond .eq 7, 3) := dcX11_sheet_4.2.1
theorem dX11_sheet_65 : decode cX11_sheet 65 = .ok (.iconst 0, 1) := dcX11_sheet_4.2.2.1
theorem dX11_sheet_66 : decode cX11_sheet 66 = .ok (.goto 4, 3) := dcX11_sheet_4.2.2.2.1
theorem dX11_sheet_69 : decode cX11_sheet 69 = .ok (.iload_n 3, 1) := dcX11_sheet_4.2.2.2.2.1
theorem dX11_sheet_70 : decode cX11_sheet 70 = .ok (.invokevirtual 233, 3) := dcX11_sheet_4.2.2.2.2.2.1
theorem dX11_sheet_73 : decode cX11_sheet 73 = .ok (.iconst 1, 1) := dcX11_sheet_4.2.2.2.2.2.2.1
theorem dX11_sheet_74 : decode cX11_sheet 74 = .ok (.ireturn, 1) := dcX11_sheet_4.2.2.2.2.2.2.2
theorem dcX11_cell_0 : (decode cX11_cell 0 = .ok (.iload_n 1, 1)) ∧ (decode cX11_cell 1 = .ok (.invokestatic 230, 3)) ∧ (decode cX11_cell 4 = .ok (.ifCond .ne 6, 3)) ∧ (decode cX11_cell 7 = .ok (.bipush (-2), 2)) ∧ (decode cX11_cell 9 = .ok (.ireturn, 1)) ∧ (decode cX11_cell 10 = .ok (.aload_n 0, 1)) ∧ (decode cX11_cell 11 = .ok (.getfield 69, 3)) ∧ (decode cX11_cell 14 = .ok (.iload_n 1, 1)) := by decide +kernel
theorem dX11_cell_0 : decode cX11_cell 0 = .ok (.iload_n 1, 1) := dcX11_cell_0.1
theorem dX11_cell_1 : decode cX11_cell 1 = .ok (.invokestatic 230, 3) := dcX11_cell_0.2.1
theorem dX11_cell_4 : decode cX11_cell 4 = .ok (.ifCond .ne 6, 3) := dcX11_cell_0.2.2.1
theorem dX11_cell_7 : decode cX11_cell 7 = .ok (.bipush (-2), 2) := dcX11_cell_0.2.2.2.1
theorem dX11_cell_9 : decode cX11_cell 9 = .ok (.ireturn, 1) := dcX11_cell_0.2.2.2.2.1
theorem dX11_cell_10 : decode cX11_cell 10 = .ok (.aload_n 0, 1) := dcX11_cell_0.2.2.2.2.2.1
theorem dX11_cell_11 : decode cX11_cell 11 = .ok (.getfield 69, 3) := dcX11_cell_0.2.2.2.2.2.2.1
theorem dX11_cell_14 : decode cX11_cell 14 = .ok (.iload_n 1, 1) := dcX11_cell_0.2.2.2.2.2.2.2
theorem dcX11_cell_1 : (decode cX11_cell 15 = .ok (.aaload, 1)) ∧ (decode cX11_cell 16 = .ok (.getfield 255, 3)) ∧ (decode cX11_cell 19 = .ok (.iconst (-1), 1)) ∧ (decode cX11_cell 20 = .ok (.if_icmp .ne 6, 3)) ∧ (decode cX11_cell 23 = .ok (.bipush (-11), 2)) ∧ (decode cX11_cell 25 = .ok (.ireturn, 1)) ∧ (decode cX11_cell 26 = .ok (.iload_n 2, 1)) ∧ (decode cX11_cell 27 = .ok (.aload_n 0, 1)) := by decide +kernel
theorem dX11_cell_15 : decode cX11_cell 15 = .ok (.aaload, 1) := dcX11_cell_1.1
theorem dX11_cell_16 : decode cX11_cell 16 = .ok (.getfield 255, 3) := dcX11_cell_1.2.1
theorem dX11_cell_19 : decode cX11_cell 19 = .ok (.iconst (-1), 1) := dcX11_cell_1.2.2.1
theorem dX11_cell_20 : decode cX11_cell 20 = .ok (.if_icmp .ne 6, 3) := dcX11_cell_1.2.2.2.1
theorem dX11_cell_23 : decode cX11_cell 23 = .ok (.bipush (-11), 2) := dcX11_cell_1.2.2.2.2.1
theorem dX11_cell_25 : decode cX11_cell 25 = .ok (.ireturn, 1) := dcX11_cell_1.2.2.2.2.2.1
theorem dX11_cell_26 : decode cX11_cell 26 = .ok (.iload_n 2, 1) := dcX11_cell_1.2.2.2.2.2.2.1
theorem dX11_cell_27 : decode cX11_cell 27 = .ok (.aload_n 0, 1) := dcX11_cell_1.2.2.2.2.2.2.2
theorem dcX11_cell_2 : (decode cX11_cell 28 = .ok (.getfield 69, 3)) ∧ (decode cX11_cell 31 = .ok (.iload_n 1, 1)) ∧ (decode cX11_cell 32 = .ok (.aaload, 1)) ∧ (decode cX11_cell 33 = .ok (.getfield 229, 3)) ∧ (decode cX11_cell 36 = .ok (.iconst 1, 1)) ∧ (decode cX11_cell 37 = .ok (.isub, 1)) ∧ (decode cX11_cell 38 = .ok (.invokestatic 107, 3)) ∧ (decode cX11_cell 41 = .ok (.ifCond .ne 6, 3)) := by decide +kernel
theorem dX11_cell_28 : decode cX11_cell 28 = .ok (.getfield 69, 3) := dcX11_cell_2.1
theorem dX11_cell_31 : decode cX11_cell 31 = .ok (.iload_n 1, 1) := dcX11_cell_2.2.1
theorem dX11_cell_32 : decode cX11_cell 32 = .ok (.aaload, 1) := dcX11_cell_2.2.2.1
theorem dX11_cell_33 : decode cX11_cell 33 = .ok (.getfield 229, 3) := dcX11_cell_2.2.2.2.1
theorem dX11_cell_36 : decode cX11_cell 36 = .ok (.iconst 1, 1) := dcX11_cell_2.2.2.2.2.1
theorem dX11_cell_37 : decode cX11_cell 37 = .ok (.isub, 1) := dcX11_cell_2.2.2.2.2.2.1
theorem dX11_cell_38 : decode cX11_cell 38 = .ok (.invokestatic 107, 3) := dcX11_cell_2.2.2.2.2.2.2.1
theorem dX11_cell_41 : decode cX11_cell 41 = .ok (.ifCond .ne 6, 3) := dcX11_cell_2.2.2.2.2.2.2.2
theorem dcX11_cell_3 : (decode cX11_cell 44 = .ok (.bipush (-12), 2)) ∧ (decode cX11_cell 46 = .ok (.ireturn, 1)) ∧ (decode cX11_cell 47 = .ok (.aload_n 0, 1)) ∧ (decode cX11_cell 48 = .ok (.getfield 69, 3)) ∧ (decode cX11_cell 51 = .ok (.iload_n 1, 1)) ∧ (decode cX11_cell 52 = .ok (.aaload, 1)) ∧ (decode cX11_cell 53 = .ok (.iload_n 2, 1)) ∧ (decode cX11_cell 54 = .ok (.iload_n 3, 1)) := by decide +kernel
theorem dX11_cell_44 : decode cX11_cell 44 = .ok (.bipush (-12), 2) := dcX11_cell_3.1
theorem dX11_cell_46 : decode cX11_cell 46 = .ok (.ireturn, 1) := dcX11_cell_3.2.1
theorem dX11_cell_47 : decode cX11_cell 47 = .ok (.aload_n 0, 1) := dcX11_cell_3.2.2.1
theorem dX11_cell_48 : decode cX11_cell 48 = .ok (.getfield 69, 3) := dcX11_cell_3.2.2.2.1
theorem dX11_cell_51 : decode cX11_cell 51 = .ok (.iload_n 1, 1) := dcX11_cell_3.2.2.2.2.1
theorem dX11_cell_52 : decode cX11_cell 52 = .ok (.aaload, 1) := dcX11_cell_3.2.2.2.2.2.1
theorem dX11_cell_53 : decode cX11_cell 53 = .ok (.iload_n 2, 1) := dcX11_cell_3.2.2.2.2.2.2.1
theorem dX11_cell_54 : decode cX11_cell 54 = .ok (.iload_n 3, 1) := dcX11_cell_3.2.2.2.2.2.2.2
theorem dcX11_cell_4 : (decode cX11_cell 55 = .ok (.invokevirtual 237, 3)) ∧ (decode cX11_cell 58 = .ok (.iconst 1, 1)) ∧ (decode cX11_cell 59 = .ok (.ireturn, 1)) := by decide +kernel
theorem dX11_cell_55 : decode cX11_cell 55 = .ok (.invokevirtual 237, 3) := dcX11_cell_4.1
theorem dX11_cell_58 : decode cX11_cell 58 = .ok (.iconst 1, 1) := dcX11_cell_4.2.1
theorem dX11_cell_59 : decode cX11_cell 59 = .ok (.ireturn, 1) := dcX11_cell_4.2.2
theorem dcX11_copy_0 : (decode cX11_copy 0 = .ok (.iload_n 1, 1)) ∧ (decode cX11_copy 1 = .ok (.invokestatic 230, 3)) ∧ (decode cX11_copy 4 = .ok (.ifCond .eq 10, 3)) ∧ (decode cX11_copy 7 = .ok (.iload_n 3, 1)) ∧ (decode cX11_copy 8 = .ok (.invokestatic 230, 3)) ∧ (decode cX11_copy 11 = .ok (.ifCond .ne 6, 3)) ∧ (decode cX11_copy 14 = .ok (.bipush (-2), 2)) ∧ (decode cX11_copy 16 = .ok (.ireturn, 1)) := by decide +kernel
theorem dX11_copy_0 : decode cX11_copy 0 = .ok (.iload_n 1, 1) := dcX11_copy_0.1
theorem dX11_copy_1 : decode cX11_copy 1 = .ok (.invokestatic 230, 3) := dcX11_copy_0.2.1
theorem dX11_copy_4 : decode cX11_copy 4 = .ok (.ifCond .eq 10, 3) := dcX11_copy_0.2.2.1
theorem dX11_copy_7 : decode cX11_copy 7 = .ok (.iload_n 3, 1) := dcX11_copy_0.2.2.2.1
theorem dX11_copy_8 : decode cX11_copy 8 = .ok (.invokestatic 230, 3) := dcX11_copy_0.2.2.2.2.1
theorem dX11_copy_11 : decode cX11_copy 11 = .ok (.ifCond .ne 6, 3) := dcX11_copy_0.2.2.2.2.2.1
theorem dX11_copy_14 : decode cX11_copy 14 = .ok (.bipush (-2), 2) := dcX11_copy_0.2.2.2.2.2.2.1
theorem dX11_copy_16 : decode cX11_copy 16 = .ok (.ireturn, 1) := dcX11_copy_0.2.2.2.2.2.2.2
theorem dcX11_copy_1 : (decode cX11_copy 17 = .ok (.aload_n 0, 1)) ∧ (decode cX11_copy 18 = .ok (.getfield 69, 3)) ∧ (decode cX11_copy 21 = .ok (.iload_n 1, 1)) ∧ (decode cX11_copy 22 = .ok (.aaload, 1)) ∧ (decode cX11_copy 23 = .ok (.astore 6, 2)) ∧ (decode cX11_copy 25 = .ok (.aload_n 0, 1)) ∧ (decode cX11_copy 26 = .ok (.getfield 69, 3)) ∧ (decode cX11_copy 29 = .ok (.iload_n 3, 1)) := by decide +kernel
theorem dX11_copy_17 : decode cX11_copy 17 = .ok (.aload_n 0, 1) := dcX11_copy_1.1
theorem dX11_copy_18 : decode cX11_copy 18 = .ok (.getfield 69, 3) := dcX11_copy_1.2.1
theorem dX11_copy_21 : decode cX11_copy 21 = .ok (.iload_n 1, 1) := dcX11_copy_1.2.2.1
theorem dX11_copy_22 : decode cX11_copy 22 = .ok (.aaload, 1) := dcX11_copy_1.2.2.2.1
theorem dX11_copy_23 : decode cX11_copy 23 = .ok (.astore 6, 2) := dcX11_copy_1.2.2.2.2.1
theorem dX11_copy_25 : decode cX11_copy 25 = .ok (.aload_n 0, 1) := dcX11_copy_1.2.2.2.2.2.1
theorem dX11_copy_26 : decode cX11_copy 26 = .ok (.getfield 69, 3) := dcX11_copy_1.2.2.2.2.2.2.1
theorem dX11_copy_29 : decode cX11_copy 29 = .ok (.iload_n 3, 1) := dcX11_copy_1.2.2.2.2.2.2.2
theorem dcX11_copy_2 : (decode cX11_copy 30 = .ok (.aaload, 1)) ∧ (decode cX11_copy 31 = .ok (.astore 7, 2)) ∧ (decode cX11_copy 33 = .ok (.aload 6, 2)) ∧ (decode cX11_copy 35 = .ok (.getfield 255, 3)) ∧ (decode cX11_copy 38 = .ok (.iconst (-1), 1)) ∧ (decode cX11_copy 39 = .ok (.if_icmp .eq 12, 3)) ∧ (decode cX11_copy 42 = .ok (.aload 7, 2)) ∧ (decode cX11_copy 44 = .ok (.getfield 255, 3)) := by decide +kernel
theorem dX11_copy_30 : decode cX11_copy 30 = .ok (.aaload, 1) := dcX11_copy_2.1
theorem dX11_copy_31 : decode cX11_copy 31 = .ok (.astore 7, 2) := dcX11_copy_2.2.1
theorem dX11_copy_33 : decode cX11_copy 33 = .ok (.aload 6, 2) := dcX11_copy_2.2.2.1
theorem dX11_copy_35 : decode cX11_copy 35 = .ok (.getfield 255, 3) := dcX11_copy_2.2.2.2.1
theorem dX11_copy_38 : decode cX11_copy 38 = .ok (.iconst (-1), 1) := dcX11_copy_2.2.2.2.2.1
theorem dX11_copy_39 : decode cX11_copy 39 = .ok (.if_icmp .eq 12, 3) := dcX11_copy_2.2.2.2.2.2.1
theorem dX11_copy_42 : decode cX11_copy 42 = .ok (.aload 7, 2) := dcX11_copy_2.2.2.2.2.2.2.1
theorem dX11_copy_44 : decode cX11_copy 44 = .ok (.getfield 255, 3) := dcX11_copy_2.2.2.2.2.2.2.2
theorem dcX11_copy_3 : (decode cX11_copy 47 = .ok (.iconst (-1), 1)) ∧ (decode cX11_copy 48 = .ok (.if_icmp .ne 6, 3)) ∧ (decode cX11_copy 51 = .ok (.bipush (-11), 2)) ∧ (decode cX11_copy 53 = .ok (.ireturn, 1)) ∧ (decode cX11_copy 54 = .ok (.aload 6, 2)) ∧ (decode cX11_copy 56 = .ok (.getfield 255, 3)) ∧ (decode cX11_copy 59 = .ok (.aload 7, 2)) ∧ (decode cX11_copy 61 = .ok (.getfield 255, 3)) := by decide +kernel
theorem dX11_copy_47 : decode cX11_copy 47 = .ok (.iconst (-1), 1) := dcX11_copy_3.1
theorem dX11_copy_48 : decode cX11_copy 48 = .ok (.if_icmp .ne 6, 3) := dcX11_copy_3.2.1
theorem dX11_copy_51 : decode cX11_copy 51 = .ok (.bipush (-11), 2) := dcX11_copy_3.2.2.1
theorem dX11_copy_53 : decode cX11_copy 53 = .ok (.ireturn, 1) := dcX11_copy_3.2.2.2.1
theorem dX11_copy_54 : decode cX11_copy 54 = .ok (.aload 6, 2) := dcX11_copy_3.2.2.2.2.1
theorem dX11_copy_56 : decode cX11_copy 56 = .ok (.getfield 255, 3) := dcX11_copy_3.2.2.2.2.2.1
theorem dX11_copy_59 : decode cX11_copy 59 = .ok (.aload 7, 2) := dcX11_copy_3.2.2.2.2.2.2.1
theorem dX11_copy_61 : decode cX11_copy 61 = .ok (.getfield 255, 3) := dcX11_copy_3.2.2.2.2.2.2.2
theorem dcX11_copy_4 : (decode cX11_copy 64 = .ok (.if_icmp .eq 6, 3)) ∧ (decode cX11_copy 67 = .ok (.bipush (-13), 2)) ∧ (decode cX11_copy 69 = .ok (.ireturn, 1)) ∧ (decode cX11_copy 70 = .ok (.aload 6, 2)) ∧ (decode cX11_copy 72 = .ok (.iload_n 2, 1)) ∧ (decode cX11_copy 73 = .ok (.iload 5, 2)) ∧ (decode cX11_copy 75 = .ok (.invokevirtual 258, 3)) ∧ (decode cX11_copy 78 = .ok (.ifCond .eq 15, 3)) := by decide +kernel
theorem dX11_copy_64 : decode cX11_copy 64 = .ok (.if_icmp .eq 6, 3) := dcX11_copy_4.1
theorem dX11_copy_67 : decode cX11_copy 67 = .ok (.bipush (-13), 2) := dcX11_copy_4.2.1
theorem dX11_copy_69 : decode cX11_copy 69 = .ok (.ireturn, 1) := dcX11_copy_4.2.2.1
theorem dX11_copy_70 : decode cX11_copy 70 = .ok (.aload 6, 2) := dcX11_copy_4.2.2.2.1
theorem dX11_copy_72 : decode cX11_copy 72 = .ok (.iload_n 2, 1) := dcX11_copy_4.2.2.2.2.1
theorem dX11_copy_73 : decode cX11_copy 73 = .ok (.iload 5, 2) := dcX11_copy_4.2.2.2.2.2.1
theorem dX11_copy_75 : decode cX11_copy 75 = .ok (.invokevirtual 258, 3) := dcX11_copy_4.2.2.2.2.2.2.1
theorem dX11_copy_78 : decode cX11_copy 78 = .ok (.ifCond .eq 15, 3) := dcX11_copy_4.2.2.2.2.2.2.2
theorem dcX11_copy_5 : (decode cX11_copy 81 = .ok (.aload 7, 2)) ∧ (decode cX11_copy 83 = .ok (.iload 4, 2)) ∧ (decode cX11_copy 85 = .ok (.iload 5, 2)) ∧ (decode cX11_copy 87 = .ok (.invokevirtual 258, 3)) ∧ (decode cX11_copy 90 = .ok (.ifCond .ne 6, 3)) ∧ (decode cX11_copy 93 = .ok (.bipush (-12), 2)) ∧ (decode cX11_copy 95 = .ok (.ireturn, 1)) ∧ (decode cX11_copy 96 = .ok (.aload 6, 2)) := by decide +kernel
theorem dX11_copy_81 : decode cX11_copy 81 = .ok (.aload 7, 2) := dcX11_copy_5.1
theorem dX11_copy_83 : decode cX11_copy 83 = .ok (.iload 4, 2) := dcX11_copy_5.2.1
theorem dX11_copy_85 : decode cX11_copy 85 = .ok (.iload 5, 2) := dcX11_copy_5.2.2.1
theorem dX11_copy_87 : decode cX11_copy 87 = .ok (.invokevirtual 258, 3) := dcX11_copy_5.2.2.2.1
theorem dX11_copy_90 : decode cX11_copy 90 = .ok (.ifCond .ne 6, 3) := dcX11_copy_5.2.2.2.2.1
theorem dX11_copy_93 : decode cX11_copy 93 = .ok (.bipush (-12), 2) := dcX11_copy_5.2.2.2.2.2.1
theorem dX11_copy_95 : decode cX11_copy 95 = .ok (.ireturn, 1) := dcX11_copy_5.2.2.2.2.2.2.1
theorem dX11_copy_96 : decode cX11_copy 96 = .ok (.aload 6, 2) := dcX11_copy_5.2.2.2.2.2.2.2
theorem dcX11_copy_6 : (decode cX11_copy 98 = .ok (.getfield 261, 3)) ∧ (decode cX11_copy 101 = .ok (.iload_n 2, 1)) ∧ (decode cX11_copy 102 = .ok (.aload 7, 2)) ∧ (decode cX11_copy 104 = .ok (.getfield 261, 3)) ∧ (decode cX11_copy 107 = .ok (.iload 4, 2)) ∧ (decode cX11_copy 109 = .ok (.iload 5, 2)) ∧ (decode cX11_copy 111 = .ok (.invokestatic 264, 3)) ∧ (decode cX11_copy 114 = .ok (.iload 5, 2)) := by decide +kernel
theorem dX11_copy_98 : decode cX11_copy 98 = .ok (.getfield 261, 3) := dcX11_copy_6.1
theorem dX11_copy_101 : decode cX11_copy 101 = .ok (.iload_n 2, 1) := dcX11_copy_6.2.1
theorem dX11_copy_102 : decode cX11_copy 102 = .ok (.aload 7, 2) := dcX11_copy_6.2.2.1
theorem dX11_copy_104 : decode cX11_copy 104 = .ok (.getfield 261, 3) := dcX11_copy_6.2.2.2.1
theorem dX11_copy_107 : decode cX11_copy 107 = .ok (.iload 4, 2) := dcX11_copy_6.2.2.2.2.1
theorem dX11_copy_109 : decode cX11_copy 109 = .ok (.iload 5, 2) := dcX11_copy_6.2.2.2.2.2.1
theorem dX11_copy_111 : decode cX11_copy 111 = .ok (.invokestatic 264, 3) := dcX11_copy_6.2.2.2.2.2.2.1
theorem dX11_copy_114 : decode cX11_copy 114 = .ok (.iload 5, 2) := dcX11_copy_6.2.2.2.2.2.2.2
theorem dX11_copy_116 : decode cX11_copy 116 = .ok (.ireturn, 1) := by decide +kernel
theorem dcX11_sleepersBy_0 : (decode cX11_sleepersBy 0 = .ok (.iload_n 1, 1)) ∧ (decode cX11_sleepersBy 1 = .ok (.invokestatic 230, 3)) ∧ (decode cX11_sleepersBy 4 = .ok (.ifCond .eq 21, 3)) ∧ (decode cX11_sleepersBy 7 = .ok (.iload_n 2, 1)) ∧ (decode cX11_sleepersBy 8 = .ok (.iconst 2, 1)) ∧ (decode cX11_sleepersBy 9 = .ok (.invokestatic 107, 3)) ∧ (decode cX11_sleepersBy 12 = .ok (.ifCond .eq 13, 3)) ∧ (decode cX11_sleepersBy 15 = .ok (.iload 4, 2)) := by decide +kernel
theorem dX11_sleepersBy_0 : decode cX11_sleepersBy 0 = .ok (.iload_n 1, 1) := dcX11_sleepersBy_0.1
theorem dX11_sleepersBy_1 : decode cX11_sleepersBy 1 = .ok (.invokestatic 230, 3) := dcX11_sleepersBy_0.2.1
theorem dX11_sleepersBy_4 : decode cX11_sleepersBy 4 = .ok (.ifCond .eq 21, 3) := dcX11_sleepersBy_0.2.2.1
theorem dX11_sleepersBy_7 : decode cX11_sleepersBy 7 = .ok (.iload_n 2, 1) := dcX11_sleepersBy_0.2.2.2.1
theorem dX11_sleepersBy_8 : decode cX11_sleepersBy 8 = .ok (.iconst 2, 1) := dcX11_sleepersBy_0.2.2.2.2.1
theorem dX11_sleepersBy_9 : decode cX11_sleepersBy 9 = .ok (.invokestatic 107, 3) := dcX11_sleepersBy_0.2.2.2.2.2.1
theorem dX11_sleepersBy_12 : decode cX11_sleepersBy 12 = .ok (.ifCond .eq 13, 3) := dcX11_sleepersBy_0.2.2.2.2.2.2.1
theorem dX11_sleepersBy_15 : decode cX11_sleepersBy 15 = .ok (.iload 4, 2) := dcX11_sleepersBy_0.2.2.2.2.2.2.2
theorem dcX11_sleepersBy_1 : (decode cX11_sleepersBy 17 = .ok (.bipush 6, 2)) ∧ (decode cX11_sleepersBy 19 = .ok (.invokestatic 107, 3)) ∧ (decode cX11_sleepersBy 22 = .ok (.ifCond .ne 6, 3)) ∧ (decode cX11_sleepersBy 25 = .ok (.bipush (-2), 2)) ∧ (decode cX11_sleepersBy 27 = .ok (.ireturn, 1)) ∧ (decode cX11_sleepersBy 28 = .ok (.aload_n 0, 1)) ∧ (decode cX11_sleepersBy 29 = .ok (.getfield 69, 3)) ∧ (decode cX11_sleepersBy 32 = .ok (.iload_n 1, 1)) := by decide +kernel
theorem dX11_sleepersBy_17 : decode cX11_sleepersBy 17 = .ok (.bipush 6, 2) := dcX11_sleepersBy_1.1
theorem dX11_sleepersBy_19 : decode cX11_sleepersBy 19 = .ok (.invokestatic 107, 3) := dcX11_sleepersBy_1.2.1
theorem dX11_sleepersBy_22 : decode cX11_sleepersBy 22 = .ok (.ifCond .ne 6, 3) := dcX11_sleepersBy_1.2.2.1
theorem dX11_sleepersBy_25 : decode cX11_sleepersBy 25 = .ok (.bipush (-2), 2) := dcX11_sleepersBy_1.2.2.2.1
theorem dX11_sleepersBy_27 : decode cX11_sleepersBy 27 = .ok (.ireturn, 1) := dcX11_sleepersBy_1.2.2.2.2.1
theorem dX11_sleepersBy_28 : decode cX11_sleepersBy 28 = .ok (.aload_n 0, 1) := dcX11_sleepersBy_1.2.2.2.2.2.1
theorem dX11_sleepersBy_29 : decode cX11_sleepersBy 29 = .ok (.getfield 69, 3) := dcX11_sleepersBy_1.2.2.2.2.2.2.1
theorem dX11_sleepersBy_32 : decode cX11_sleepersBy 32 = .ok (.iload_n 1, 1) := dcX11_sleepersBy_1.2.2.2.2.2.2.2
theorem dcX11_sleepersBy_2 : (decode cX11_sleepersBy 33 = .ok (.aaload, 1)) ∧ (decode cX11_sleepersBy 34 = .ok (.astore 5, 2)) ∧ (decode cX11_sleepersBy 36 = .ok (.aload 5, 2)) ∧ (decode cX11_sleepersBy 38 = .ok (.getfield 255, 3)) ∧ (decode cX11_sleepersBy 41 = .ok (.iconst (-1), 1)) ∧ (decode cX11_sleepersBy 42 = .ok (.if_icmp .ne 6, 3)) ∧ (decode cX11_sleepersBy 45 = .ok (.bipush (-11), 2)) ∧ (decode cX11_sleepersBy 47 = .ok (.ireturn, 1)) := by decide +kernel
theorem dX11_sleepersBy_33 : decode cX11_sleepersBy 33 = .ok (.aaload, 1) := dcX11_sleepersBy_2.1
theorem dX11_sleepersBy_34 : decode cX11_sleepersBy 34 = .ok (.astore 5, 2) := dcX11_sleepersBy_2.2.1
theorem dX11_sleepersBy_36 : decode cX11_sleepersBy 36 = .ok (.aload 5, 2) := dcX11_sleepersBy_2.2.2.1
theorem dX11_sleepersBy_38 : decode cX11_sleepersBy 38 = .ok (.getfield 255, 3) := dcX11_sleepersBy_2.2.2.2.1
theorem dX11_sleepersBy_41 : decode cX11_sleepersBy 41 = .ok (.iconst (-1), 1) := dcX11_sleepersBy_2.2.2.2.2.1
theorem dX11_sleepersBy_42 : decode cX11_sleepersBy 42 = .ok (.if_icmp .ne 6, 3) := dcX11_sleepersBy_2.2.2.2.2.2.1
theorem dX11_sleepersBy_45 : decode cX11_sleepersBy 45 = .ok (.bipush (-11), 2) := dcX11_sleepersBy_2.2.2.2.2.2.2.1
theorem dX11_sleepersBy_47 : decode cX11_sleepersBy 47 = .ok (.ireturn, 1) := dcX11_sleepersBy_2.2.2.2.2.2.2.2
theorem dcX11_sleepersBy_3 : (decode cX11_sleepersBy 48 = .ok (.aload 5, 2)) ∧ (decode cX11_sleepersBy 50 = .ok (.getfield 255, 3)) ∧ (decode cX11_sleepersBy 53 = .ok (.iload_n 2, 1)) ∧ (decode cX11_sleepersBy 54 = .ok (.if_icmp .eq 6, 3)) ∧ (decode cX11_sleepersBy 57 = .ok (.bipush (-13), 2)) ∧ (decode cX11_sleepersBy 59 = .ok (.ireturn, 1)) ∧ (decode cX11_sleepersBy 60 = .ok (.iconst 0, 1)) ∧ (decode cX11_sleepersBy 61 = .ok (.istore 6, 2)) := by decide +kernel
theorem dX11_sleepersBy_48 : decode cX11_sleepersBy 48 = .ok (.aload 5, 2) := dcX11_sleepersBy_3.1
theorem dX11_sleepersBy_50 : decode cX11_sleepersBy 50 = .ok (.getfield 255, 3) := dcX11_sleepersBy_3.2.1
theorem dX11_sleepersBy_53 : decode cX11_sleepersBy 53 = .ok (.iload_n 2, 1) := dcX11_sleepersBy_3.2.2.1
theorem dX11_sleepersBy_54 : decode cX11_sleepersBy 54 = .ok (.if_icmp .eq 6, 3) := dcX11_sleepersBy_3.2.2.2.1
theorem dX11_sleepersBy_57 : decode cX11_sleepersBy 57 = .ok (.bipush (-13), 2) := dcX11_sleepersBy_3.2.2.2.2.1
theorem dX11_sleepersBy_59 : decode cX11_sleepersBy 59 = .ok (.ireturn, 1) := dcX11_sleepersBy_3.2.2.2.2.2.1
theorem dX11_sleepersBy_60 : decode cX11_sleepersBy 60 = .ok (.iconst 0, 1) := dcX11_sleepersBy_3.2.2.2.2.2.2.1
theorem dX11_sleepersBy_61 : decode cX11_sleepersBy 61 = .ok (.istore 6, 2) := dcX11_sleepersBy_3.2.2.2.2.2.2.2
theorem dcX11_sleepersBy_4 : (decode cX11_sleepersBy 63 = .ok (.iconst 0, 1)) ∧ (decode cX11_sleepersBy 64 = .ok (.istore 7, 2)) ∧ (decode cX11_sleepersBy 66 = .ok (.iload 7, 2)) ∧ (decode cX11_sleepersBy 68 = .ok (.iload 4, 2)) ∧ (decode cX11_sleepersBy 70 = .ok (.if_icmp .ge 69, 3)) ∧ (decode cX11_sleepersBy 73 = .ok (.iload_n 3, 1)) ∧ (decode cX11_sleepersBy 74 = .ok (.iconst 3, 1)) ∧ (decode cX11_sleepersBy 75 = .ok (.iload 7, 2)) := by decide +kernel
theorem dX11_sleepersBy_63 : decode cX11_sleepersBy 63 = .ok (.iconst 0, 1) := dcX11_sleepersBy_4.1
theorem dX11_sleepersBy_64 : decode cX11_sleepersBy 64 = .ok (.istore 7, 2) := dcX11_sleepersBy_4.2.1
theorem dX11_sleepersBy_66 : decode cX11_sleepersBy 66 = .ok (.iload 7, 2) := dcX11_sleepersBy_4.2.2.1
theorem dX11_sleepersBy_68 : decode cX11_sleepersBy 68 = .ok (.iload 4, 2) := dcX11_sleepersBy_4.2.2.2.1
theorem dX11_sleepersBy_70 : decode cX11_sleepersBy 70 = .ok (.if_icmp .ge 69, 3) := dcX11_sleepersBy_4.2.2.2.2.1
theorem dX11_sleepersBy_73 : decode cX11_sleepersBy 73 = .ok (.iload_n 3, 1) := dcX11_sleepersBy_4.2.2.2.2.2.1
theorem dX11_sleepersBy_74 : decode cX11_sleepersBy 74 = .ok (.iconst 3, 1) := dcX11_sleepersBy_4.2.2.2.2.2.2.1
theorem dX11_sleepersBy_75 : decode cX11_sleepersBy 75 = .ok (.iload 7, 2) := dcX11_sleepersBy_4.2.2.2.2.2.2.2
theorem dcX11_sleepersBy_5 : (decode cX11_sleepersBy 77 = .ok (.imul, 1)) ∧ (decode cX11_sleepersBy 78 = .ok (.iadd, 1)) ∧ (decode cX11_sleepersBy 79 = .ok (.istore 8, 2)) ∧ (decode cX11_sleepersBy 81 = .ok (.aload 5, 2)) ∧ (decode cX11_sleepersBy 83 = .ok (.iload 8, 2)) ∧ (decode cX11_sleepersBy 85 = .ok (.iconst 3, 1)) ∧ (decode cX11_sleepersBy 86 = .ok (.invokevirtual 258, 3)) ∧ (decode cX11_sleepersBy 89 = .ok (.ifCond .ne 6, 3)) := by decide +kernel
theorem dX11_sleepersBy_77 : decode cX11_sleepersBy 77 = .ok (.imul, 1) := dcX11_sleepersBy_5.1
theorem dX11_sleepersBy_78 : decode cX11_sleepersBy 78 = .ok (.iadd, 1) := dcX11_sleepersBy_5.2.1
theorem dX11_sleepersBy_79 : decode cX11_sleepersBy 79 = .ok (.istore 8, 2) := dcX11_sleepersBy_5.2.2.1
theorem dX11_sleepersBy_81 : decode cX11_sleepersBy 81 = .ok (.aload 5, 2) := dcX11_sleepersBy_5.2.2.2.1
theorem dX11_sleepersBy_83 : decode cX11_sleepersBy 83 = .ok (.iload 8, 2) := dcX11_sleepersBy_5.2.2.2.2.1
theorem dX11_sleepersBy_85 : decode cX11_sleepersBy 85 = .ok (.iconst 3, 1) := dcX11_sleepersBy_5.2.2.2.2.2.1
theorem dX11_sleepersBy_86 : decode cX11_sleepersBy 86 = .ok (.invokevirtual 258, 3) := dcX11_sleepersBy_5.2.2.2.2.2.2.1
theorem dX11_sleepersBy_89 : decode cX11_sleepersBy 89 = .ok (.ifCond .ne 6, 3) := dcX11_sleepersBy_5.2.2.2.2.2.2.2
theorem dcX11_sleepersBy_6 : (decode cX11_sleepersBy 92 = .ok (.bipush (-12), 2)) ∧ (decode cX11_sleepersBy 94 = .ok (.ireturn, 1)) ∧ (decode cX11_sleepersBy 95 = .ok (.aload_n 0, 1)) ∧ (decode cX11_sleepersBy 96 = .ok (.aload 5, 2)) ∧ (decode cX11_sleepersBy 98 = .ok (.getfield 261, 3)) ∧ (decode cX11_sleepersBy 101 = .ok (.iload 8, 2)) ∧ (decode cX11_sleepersBy 103 = .ok (.iaload, 1)) ∧ (decode cX11_sleepersBy 104 = .ok (.aload 5, 2)) := by decide +kernel
theorem dX11_sleepersBy_92 : decode cX11_sleepersBy 92 = .ok (.bipush (-12), 2) := dcX11_sleepersBy_6.1
theorem dX11_sleepersBy_94 : decode cX11_sleepersBy 94 = .ok (.ireturn, 1) := dcX11_sleepersBy_6.2.1
theorem dX11_sleepersBy_95 : decode cX11_sleepersBy 95 = .ok (.aload_n 0, 1) := dcX11_sleepersBy_6.2.2.1
theorem dX11_sleepersBy_96 : decode cX11_sleepersBy 96 = .ok (.aload 5, 2) := dcX11_sleepersBy_6.2.2.2.1
theorem dX11_sleepersBy_98 : decode cX11_sleepersBy 98 = .ok (.getfield 261, 3) := dcX11_sleepersBy_6.2.2.2.2.1
theorem dX11_sleepersBy_101 : decode cX11_sleepersBy 101 = .ok (.iload 8, 2) := dcX11_sleepersBy_6.2.2.2.2.2.1
theorem dX11_sleepersBy_103 : decode cX11_sleepersBy 103 = .ok (.iaload, 1) := dcX11_sleepersBy_6.2.2.2.2.2.2.1
theorem dX11_sleepersBy_104 : decode cX11_sleepersBy 104 = .ok (.aload 5, 2) := dcX11_sleepersBy_6.2.2.2.2.2.2.2
theorem dcX11_sleepersBy_7 : (decode cX11_sleepersBy 106 = .ok (.getfield 261, 3)) ∧ (decode cX11_sleepersBy 109 = .ok (.iload 8, 2)) ∧ (decode cX11_sleepersBy 111 = .ok (.iconst 1, 1)) ∧ (decode cX11_sleepersBy 112 = .ok (.iadd, 1)) ∧ (decode cX11_sleepersBy 113 = .ok (.iaload, 1)) ∧ (decode cX11_sleepersBy 114 = .ok (.aload 5, 2)) ∧ (decode cX11_sleepersBy 116 = .ok (.getfield 261, 3)) ∧ (decode cX11_sleepersBy 119 = .ok (.iload 8, 2)) := by decide +kernel
theorem dX11_sleepersBy_106 : decode cX11_sleepersBy 106 = .ok (.getfield 261, 3) := dcX11_sleepersBy_7.1
theorem dX11_sleepersBy_109 : decode cX11_sleepersBy 109 = .ok (.iload 8, 2) := dcX11_sleepersBy_7.2.1
theorem dX11_sleepersBy_111 : decode cX11_sleepersBy 111 = .ok (.iconst 1, 1) := dcX11_sleepersBy_7.2.2.1
theorem dX11_sleepersBy_112 : decode cX11_sleepersBy 112 = .ok (.iadd, 1) := dcX11_sleepersBy_7.2.2.2.1
theorem dX11_sleepersBy_113 : decode cX11_sleepersBy 113 = .ok (.iaload, 1) := dcX11_sleepersBy_7.2.2.2.2.1
theorem dX11_sleepersBy_114 : decode cX11_sleepersBy 114 = .ok (.aload 5, 2) := dcX11_sleepersBy_7.2.2.2.2.2.1
theorem dX11_sleepersBy_116 : decode cX11_sleepersBy 116 = .ok (.getfield 261, 3) := dcX11_sleepersBy_7.2.2.2.2.2.2.1
theorem dX11_sleepersBy_119 : decode cX11_sleepersBy 119 = .ok (.iload 8, 2) := dcX11_sleepersBy_7.2.2.2.2.2.2.2
theorem dcX11_sleepersBy_8 : (decode cX11_sleepersBy 121 = .ok (.iconst 2, 1)) ∧ (decode cX11_sleepersBy 122 = .ok (.iadd, 1)) ∧ (decode cX11_sleepersBy 123 = .ok (.iaload, 1)) ∧ (decode cX11_sleepersBy 124 = .ok (.invokevirtual 270, 3)) ∧ (decode cX11_sleepersBy 127 = .ok (.ifCond .lt 6, 3)) ∧ (decode cX11_sleepersBy 130 = .ok (.iinc 6 1, 3)) ∧ (decode cX11_sleepersBy 133 = .ok (.iinc 7 1, 3)) ∧ (decode cX11_sleepersBy 136 = .ok (.goto (-70), 3)) := by decide +kernel
theorem dX11_sleepersBy_121 : decode cX11_sleepersBy 121 = .ok (.iconst 2, 1) := dcX11_sleepersBy_8.1
theorem dX11_sleepersBy_122 : decode cX11_sleepersBy 122 = .ok (.iadd, 1) := dcX11_sleepersBy_8.2.1
theorem dX11_sleepersBy_123 : decode cX11_sleepersBy 123 = .ok (.iaload, 1) := dcX11_sleepersBy_8.2.2.1
theorem dX11_sleepersBy_124 : decode cX11_sleepersBy 124 = .ok (.invokevirtual 270, 3) := dcX11_sleepersBy_8.2.2.2.1
theorem dX11_sleepersBy_127 : decode cX11_sleepersBy 127 = .ok (.ifCond .lt 6, 3) := dcX11_sleepersBy_8.2.2.2.2.1
theorem dX11_sleepersBy_130 : decode cX11_sleepersBy 130 = .ok (.iinc 6 1, 3) := dcX11_sleepersBy_8.2.2.2.2.2.1
theorem dX11_sleepersBy_133 : decode cX11_sleepersBy 133 = .ok (.iinc 7 1, 3) := dcX11_sleepersBy_8.2.2.2.2.2.2.1
theorem dX11_sleepersBy_136 : decode cX11_sleepersBy 136 = .ok (.goto (-70), 3) := dcX11_sleepersBy_8.2.2.2.2.2.2.2
theorem dcX11_sleepersBy_9 : (decode cX11_sleepersBy 139 = .ok (.iload 6, 2)) ∧ (decode cX11_sleepersBy 141 = .ok (.ireturn, 1)) := by decide +kernel
theorem dX11_sleepersBy_139 : decode cX11_sleepersBy 139 = .ok (.iload 6, 2) := dcX11_sleepersBy_9.1
theorem dX11_sleepersBy_141 : decode cX11_sleepersBy 141 = .ok (.ireturn, 1) := dcX11_sleepersBy_9.2
theorem dcX11_taken_0 : (decode cX11_taken 0 = .ok (.iload_n 2, 1)) ∧ (decode cX11_taken 1 = .ok (.bipush 6, 2)) ∧ (decode cX11_taken 3 = .ok (.invokestatic 107, 3)) ∧ (decode cX11_taken 6 = .ok (.ifCond .ne 6, 3)) ∧ (decode cX11_taken 9 = .ok (.bipush (-2), 2)) ∧ (decode cX11_taken 11 = .ok (.ireturn, 1)) ∧ (decode cX11_taken 12 = .ok (.iload_n 1, 1)) ∧ (decode cX11_taken 13 = .ok (.bipush 11, 2)) := by decide +kernel
theorem dX11_taken_0 : decode cX11_taken 0 = .ok (.iload_n 2, 1) := dcX11_taken_0.1
theorem dX11_taken_1 : decode cX11_taken 1 = .ok (.bipush 6, 2) := dcX11_taken_0.2.1
theorem dX11_taken_3 : decode cX11_taken 3 = .ok (.invokestatic 107, 3) := dcX11_taken_0.2.2.1
theorem dX11_taken_6 : decode cX11_taken 6 = .ok (.ifCond .ne 6, 3) := dcX11_taken_0.2.2.2.1
theorem dX11_taken_9 : decode cX11_taken 9 = .ok (.bipush (-2), 2) := dcX11_taken_0.2.2.2.2.1
theorem dX11_taken_11 : decode cX11_taken 11 = .ok (.ireturn, 1) := dcX11_taken_0.2.2.2.2.2.1
theorem dX11_taken_12 : decode cX11_taken 12 = .ok (.iload_n 1, 1) := dcX11_taken_0.2.2.2.2.2.2.1
theorem dX11_taken_13 : decode cX11_taken 13 = .ok (.bipush 11, 2) := dcX11_taken_0.2.2.2.2.2.2.2
theorem dcX11_taken_1 : (decode cX11_taken 15 = .ok (.invokestatic 107, 3)) ∧ (decode cX11_taken 18 = .ok (.ifCond .ne 6, 3)) ∧ (decode cX11_taken 21 = .ok (.bipush (-12), 2)) ∧ (decode cX11_taken 23 = .ok (.ireturn, 1)) ∧ (decode cX11_taken 24 = .ok (.aload_n 0, 1)) ∧ (decode cX11_taken 25 = .ok (.iload_n 1, 1)) ∧ (decode cX11_taken 26 = .ok (.bipush 6, 2)) ∧ (decode cX11_taken 28 = .ok (.irem, 1)) := by decide +kernel
theorem dX11_taken_15 : decode cX11_taken 15 = .ok (.invokestatic 107, 3) := dcX11_taken_1.1
theorem dX11_taken_18 : decode cX11_taken 18 = .ok (.ifCond .ne 6, 3) := dcX11_taken_1.2.1
theorem dX11_taken_21 : decode cX11_taken 21 = .ok (.bipush (-12), 2) := dcX11_taken_1.2.2.1
theorem dX11_taken_23 : decode cX11_taken 23 = .ok (.ireturn, 1) := dcX11_taken_1.2.2.2.1
theorem dX11_taken_24 : decode cX11_taken 24 = .ok (.aload_n 0, 1) := dcX11_taken_1.2.2.2.2.1
theorem dX11_taken_25 : decode cX11_taken 25 = .ok (.iload_n 1, 1) := dcX11_taken_1.2.2.2.2.2.1
theorem dX11_taken_26 : decode cX11_taken 26 = .ok (.bipush 6, 2) := dcX11_taken_1.2.2.2.2.2.2.1
theorem dX11_taken_28 : decode cX11_taken 28 = .ok (.irem, 1) := dcX11_taken_1.2.2.2.2.2.2.2
theorem dcX11_taken_2 : (decode cX11_taken 29 = .ok (.invokevirtual 125, 3)) ∧ (decode cX11_taken 32 = .ok (.ifCond .ne 6, 3)) ∧ (decode cX11_taken 35 = .ok (.bipush (-11), 2)) ∧ (decode cX11_taken 37 = .ok (.ireturn, 1)) ∧ (decode cX11_taken 38 = .ok (.iload_n 1, 1)) ∧ (decode cX11_taken 39 = .ok (.bipush 6, 2)) ∧ (decode cX11_taken 41 = .ok (.if_icmp .lt 27, 3)) ∧ (decode cX11_taken 44 = .ok (.iload_n 2, 1)) := by decide +kernel
theorem dX11_taken_29 : decode cX11_taken 29 = .ok (.invokevirtual 125, 3) := dcX11_taken_2.1
theorem dX11_taken_32 : decode cX11_taken 32 = .ok (.ifCond .ne 6, 3) := dcX11_taken_2.2.1
theorem dX11_taken_35 : decode cX11_taken 35 = .ok (.bipush (-11), 2) := dcX11_taken_2.2.2.1
theorem dX11_taken_37 : decode cX11_taken 37 = .ok (.ireturn, 1) := dcX11_taken_2.2.2.2.1
theorem dX11_taken_38 : decode cX11_taken 38 = .ok (.iload_n 1, 1) := dcX11_taken_2.2.2.2.2.1
theorem dX11_taken_39 : decode cX11_taken 39 = .ok (.bipush 6, 2) := dcX11_taken_2.2.2.2.2.2.1
theorem dX11_taken_41 : decode cX11_taken 41 = .ok (.if_icmp .lt 27, 3) := dcX11_taken_2.2.2.2.2.2.2.1
theorem dX11_taken_44 : decode cX11_taken 44 = .ok (.iload_n 2, 1) := dcX11_taken_2.2.2.2.2.2.2.2
theorem dcX11_taken_3 : (decode cX11_taken 45 = .ok (.bipush 6, 2)) ∧ (decode cX11_taken 47 = .ok (.if_icmp .ne 18, 3)) ∧ (decode cX11_taken 50 = .ok (.aload_n 0, 1)) ∧ (decode cX11_taken 51 = .ok (.getfield 37, 3)) ∧ (decode cX11_taken 54 = .ok (.iload_n 1, 1)) ∧ (decode cX11_taken 55 = .ok (.bipush 6, 2)) ∧ (decode cX11_taken 57 = .ok (.isub, 1)) ∧ (decode cX11_taken 58 = .ok (.aaload, 1)) := by decide +kernel
theorem dX11_taken_45 : decode cX11_taken 45 = .ok (.bipush 6, 2) := dcX11_taken_3.1
theorem dX11_taken_47 : decode cX11_taken 47 = .ok (.if_icmp .ne 18, 3) := dcX11_taken_3.2.1
theorem dX11_taken_50 : decode cX11_taken 50 = .ok (.aload_n 0, 1) := dcX11_taken_3.2.2.1
theorem dX11_taken_51 : decode cX11_taken 51 = .ok (.getfield 37, 3) := dcX11_taken_3.2.2.2.1
theorem dX11_taken_54 : decode cX11_taken 54 = .ok (.iload_n 1, 1) := dcX11_taken_3.2.2.2.2.1
theorem dX11_taken_55 : decode cX11_taken 55 = .ok (.bipush 6, 2) := dcX11_taken_3.2.2.2.2.2.1
theorem dX11_taken_57 : decode cX11_taken 57 = .ok (.isub, 1) := dcX11_taken_3.2.2.2.2.2.2.1
theorem dX11_taken_58 : decode cX11_taken 58 = .ok (.aaload, 1) := dcX11_taken_3.2.2.2.2.2.2.2
theorem dcX11_taken_4 : (decode cX11_taken 59 = .ok (.getfield 144, 3)) ∧ (decode cX11_taken 62 = .ok (.goto 5, 3)) ∧ (decode cX11_taken 65 = .ok (.bipush (-13), 2)) ∧ (decode cX11_taken 67 = .ok (.ireturn, 1)) ∧ (decode cX11_taken 68 = .ok (.aload_n 0, 1)) ∧ (decode cX11_taken 69 = .ok (.getfield 37, 3)) ∧ (decode cX11_taken 72 = .ok (.iload_n 1, 1)) ∧ (decode cX11_taken 73 = .ok (.aaload, 1)) := by decide +kernel
theorem dX11_taken_59 : decode cX11_taken 59 = .ok (.getfield 144, 3) := dcX11_taken_4.1
theorem dX11_taken_62 : decode cX11_taken 62 = .ok (.goto 5, 3) := dcX11_taken_4.2.1
theorem dX11_taken_65 : decode cX11_taken 65 = .ok (.bipush (-13), 2) := dcX11_taken_4.2.2.1
theorem dX11_taken_67 : decode cX11_taken 67 = .ok (.ireturn, 1) := dcX11_taken_4.2.2.2.1
theorem dX11_taken_68 : decode cX11_taken 68 = .ok (.aload_n 0, 1) := dcX11_taken_4.2.2.2.2.1
theorem dX11_taken_69 : decode cX11_taken 69 = .ok (.getfield 37, 3) := dcX11_taken_4.2.2.2.2.2.1
theorem dX11_taken_72 : decode cX11_taken 72 = .ok (.iload_n 1, 1) := dcX11_taken_4.2.2.2.2.2.2.1
theorem dX11_taken_73 : decode cX11_taken 73 = .ok (.aaload, 1) := dcX11_taken_4.2.2.2.2.2.2.2
theorem dcX11_taken_5 : (decode cX11_taken 74 = .ok (.getfield 137, 3)) ∧ (decode cX11_taken 77 = .ok (.iload_n 2, 1)) ∧ (decode cX11_taken 78 = .ok (.invokestatic 274, 3)) ∧ (decode cX11_taken 81 = .ok (.ifCond .eq 7, 3)) ∧ (decode cX11_taken 84 = .ok (.iload_n 1, 1)) ∧ (decode cX11_taken 85 = .ok (.goto 5, 3)) ∧ (decode cX11_taken 88 = .ok (.bipush (-13), 2)) ∧ (decode cX11_taken 90 = .ok (.ireturn, 1)) := by decide +kernel
theorem dX11_taken_74 : decode cX11_taken 74 = .ok (.getfield 137, 3) := dcX11_taken_5.1
theorem dX11_taken_77 : decode cX11_taken 77 = .ok (.iload_n 2, 1) := dcX11_taken_5.2.1
theorem dX11_taken_78 : decode cX11_taken 78 = .ok (.invokestatic 274, 3) := dcX11_taken_5.2.2.1
theorem dX11_taken_81 : decode cX11_taken 81 = .ok (.ifCond .eq 7, 3) := dcX11_taken_5.2.2.2.1
theorem dX11_taken_84 : decode cX11_taken 84 = .ok (.iload_n 1, 1) := dcX11_taken_5.2.2.2.2.1
theorem dX11_taken_85 : decode cX11_taken 85 = .ok (.goto 5, 3) := dcX11_taken_5.2.2.2.2.2.1
theorem dX11_taken_88 : decode cX11_taken 88 = .ok (.bipush (-13), 2) := dcX11_taken_5.2.2.2.2.2.2.1
theorem dX11_taken_90 : decode cX11_taken 90 = .ok (.ireturn, 1) := dcX11_taken_5.2.2.2.2.2.2.2
theorem dcX11_within_0 : (decode cX11_within 0 = .ok (.iload_n 0, 1)) ∧ (decode cX11_within 1 = .ok (.ifCond .lt 12, 3)) ∧ (decode cX11_within 4 = .ok (.iload_n 0, 1)) ∧ (decode cX11_within 5 = .ok (.iload_n 1, 1)) ∧ (decode cX11_within 6 = .ok (.if_icmp .gt 7, 3)) ∧ (decode cX11_within 9 = .ok (.iconst 1, 1)) ∧ (decode cX11_within 10 = .ok (.goto 4, 3)) ∧ (decode cX11_within 13 = .ok (.iconst 0, 1)) := by decide +kernel
theorem dX11_within_0 : decode cX11_within 0 = .ok (.iload_n 0, 1) := dcX11_within_0.1
theorem dX11_within_1 : decode cX11_within 1 = .ok (.ifCond .lt 12, 3) := dcX11_within_0.2.1
theorem dX11_within_4 : decode cX11_within 4 = .ok (.iload_n 0, 1) := dcX11_within_0.2.2.1
theorem dX11_within_5 : decode cX11_within 5 = .ok (.iload_n 1, 1) := dcX11_within_0.2.2.2.1
theorem dX11_within_6 : decode cX11_within 6 = .ok (.if_icmp .gt 7, 3) := dcX11_within_0.2.2.2.2.1
theorem dX11_within_9 : decode cX11_within 9 = .ok (.iconst 1, 1) := dcX11_within_0.2.2.2.2.2.1
theorem dX11_within_10 : decode cX11_within 10 = .ok (.goto 4, 3) := dcX11_within_0.2.2.2.2.2.2.1
theorem dX11_within_13 : decode cX11_within 13 = .ok (.iconst 0, 1) := dcX11_within_0.2.2.2.2.2.2.2
theorem dX11_within_14 : decode cX11_within 14 = .ok (.ireturn, 1) := by decide +kernel
theorem dcX11_has_0 : (decode cX11_has 0 = .ok (.iload_n 0, 1)) ∧ (decode cX11_has 1 = .ok (.iload_n 1, 1)) ∧ (decode cX11_has 2 = .ok (.ishr, 1)) ∧ (decode cX11_has 3 = .ok (.iconst 1, 1)) ∧ (decode cX11_has 4 = .ok (.iand, 1)) ∧ (decode cX11_has 5 = .ok (.iconst 1, 1)) ∧ (decode cX11_has 6 = .ok (.if_icmp .ne 7, 3)) ∧ (decode cX11_has 9 = .ok (.iconst 1, 1)) := by decide +kernel
theorem dX11_has_0 : decode cX11_has 0 = .ok (.iload_n 0, 1) := dcX11_has_0.1
theorem dX11_has_1 : decode cX11_has 1 = .ok (.iload_n 1, 1) := dcX11_has_0.2.1
theorem dX11_has_2 : decode cX11_has 2 = .ok (.ishr, 1) := dcX11_has_0.2.2.1
theorem dX11_has_3 : decode cX11_has 3 = .ok (.iconst 1, 1) := dcX11_has_0.2.2.2.1
theorem dX11_has_4 : decode cX11_has 4 = .ok (.iand, 1) := dcX11_has_0.2.2.2.2.1
theorem dX11_has_5 : decode cX11_has 5 = .ok (.iconst 1, 1) := dcX11_has_0.2.2.2.2.2.1
theorem dX11_has_6 : decode cX11_has 6 = .ok (.if_icmp .ne 7, 3) := dcX11_has_0.2.2.2.2.2.2.1
theorem dX11_has_9 : decode cX11_has 9 = .ok (.iconst 1, 1) := dcX11_has_0.2.2.2.2.2.2.2
theorem dcX11_has_1 : (decode cX11_has 10 = .ok (.goto 4, 3)) ∧ (decode cX11_has 13 = .ok (.iconst 0, 1)) ∧ (decode cX11_has 14 = .ok (.ireturn, 1)) := by decide +kernel
theorem dX11_has_10 : decode cX11_has 10 = .ok (.goto 4, 3) := dcX11_has_1.1
theorem dX11_has_13 : decode cX11_has 13 = .ok (.iconst 0, 1) := dcX11_has_1.2.1
theorem dX11_has_14 : decode cX11_has 14 = .ok (.ireturn, 1) := dcX11_has_1.2.2
theorem dcX11_isCell_0 : (decode cX11_isCell 0 = .ok (.iload_n 0, 1)) ∧ (decode cX11_isCell 1 = .ok (.bipush 15, 2)) ∧ (decode cX11_isCell 3 = .ok (.invokestatic 107, 3)) ∧ (decode cX11_isCell 6 = .ok (.ireturn, 1)) := by decide +kernel
theorem dX11_isCell_0 : decode cX11_isCell 0 = .ok (.iload_n 0, 1) := dcX11_isCell_0.1
theorem dX11_isCell_1 : decode cX11_isCell 1 = .ok (.bipush 15, 2) := dcX11_isCell_0.2.1
theorem dX11_isCell_3 : decode cX11_isCell 3 = .ok (.invokestatic 107, 3) := dcX11_isCell_0.2.2.1
theorem dX11_isCell_6 : decode cX11_isCell 6 = .ok (.ireturn, 1) := dcX11_isCell_0.2.2.2
theorem dcX11_isSheet_0 : (decode cX11_isSheet 0 = .ok (.iload_n 0, 1)) ∧ (decode cX11_isSheet 1 = .ok (.iconst 3, 1)) ∧ (decode cX11_isSheet 2 = .ok (.invokestatic 107, 3)) ∧ (decode cX11_isSheet 5 = .ok (.ireturn, 1)) := by decide +kernel
theorem dX11_isSheet_0 : decode cX11_isSheet 0 = .ok (.iload_n 0, 1) := dcX11_isSheet_0.1
theorem dX11_isSheet_1 : decode cX11_isSheet 1 = .ok (.iconst 3, 1) := dcX11_isSheet_0.2.1
theorem dX11_isSheet_2 : decode cX11_isSheet 2 = .ok (.invokestatic 107, 3) := dcX11_isSheet_0.2.2.1
theorem dX11_isSheet_5 : decode cX11_isSheet 5 = .ok (.ireturn, 1) := dcX11_isSheet_0.2.2.2
theorem dcX11_isSleeper_0 : (decode cX11_isSleeper 0 = .ok (.iload_n 1, 1)) ∧ (decode cX11_isSleeper 1 = .ok (.aload_n 0, 1)) ∧ (decode cX11_isSleeper 2 = .ok (.getfield 80, 3)) ∧ (decode cX11_isSleeper 5 = .ok (.iconst 1, 1)) ∧ (decode cX11_isSleeper 6 = .ok (.isub, 1)) ∧ (decode cX11_isSleeper 7 = .ok (.invokestatic 107, 3)) ∧ (decode cX11_isSleeper 10 = .ok (.ireturn, 1)) := by decide +kernel
theorem dX11_isSleeper_0 : decode cX11_isSleeper 0 = .ok (.iload_n 1, 1) := dcX11_isSleeper_0.1
theorem dX11_isSleeper_1 : decode cX11_isSleeper 1 = .ok (.aload_n 0, 1) := dcX11_isSleeper_0.2.1
theorem dX11_isSleeper_2 : decode cX11_isSleeper 2 = .ok (.getfield 80, 3) := dcX11_isSleeper_0.2.2.1
theorem dX11_isSleeper_5 : decode cX11_isSleeper 5 = .ok (.iconst 1, 1) := dcX11_isSleeper_0.2.2.2.1
theorem dX11_isSleeper_6 : decode cX11_isSleeper 6 = .ok (.isub, 1) := dcX11_isSleeper_0.2.2.2.2.1
theorem dX11_isSleeper_7 : decode cX11_isSleeper 7 = .ok (.invokestatic 107, 3) := dcX11_isSleeper_0.2.2.2.2.2.1
theorem dX11_isSleeper_10 : decode cX11_isSleeper 10 = .ok (.ireturn, 1) := dcX11_isSleeper_0.2.2.2.2.2.2
theorem dcX11_isOfKind_0 : (decode cX11_isOfKind 0 = .ok (.iload_n 1, 1)) ∧ (decode cX11_isOfKind 1 = .ok (.tableswitch 66 0 5 #[39, 41, 46, 51, 56, 61], 39)) ∧ (decode cX11_isOfKind 40 = .ok (.iconst 1, 1)) ∧ (decode cX11_isOfKind 41 = .ok (.ireturn, 1)) ∧ (decode cX11_isOfKind 42 = .ok (.aload_n 0, 1)) ∧ (decode cX11_isOfKind 43 = .ok (.instanceof 14, 3)) ∧ (decode cX11_isOfKind 46 = .ok (.ireturn, 1)) ∧ (decode cX11_isOfKind 47 = .ok (.aload_n 0, 1)) := by decide +kernel
theorem dX11_isOfKind_0 : decode cX11_isOfKind 0 = .ok (.iload_n 1, 1) := dcX11_isOfKind_0.1
theorem dX11_isOfKind_1 : decode cX11_isOfKind 1 = .ok (.tableswitch 66 0 5 #[39, 41, 46, 51, 56, 61], 39) := dcX11_isOfKind_0.2.1
theorem dX11_isOfKind_40 : decode cX11_isOfKind 40 = .ok (.iconst 1, 1) := dcX11_isOfKind_0.2.2.1
theorem dX11_isOfKind_41 : decode cX11_isOfKind 41 = .ok (.ireturn, 1) := dcX11_isOfKind_0.2.2.2.1
theorem dX11_isOfKind_42 : decode cX11_isOfKind 42 = .ok (.aload_n 0, 1) := dcX11_isOfKind_0.2.2.2.2.1
theorem dX11_isOfKind_43 : decode cX11_isOfKind 43 = .ok (.instanceof 14, 3) := dcX11_isOfKind_0.2.2.2.2.2.1
theorem dX11_isOfKind_46 : decode cX11_isOfKind 46 = .ok (.ireturn, 1) := dcX11_isOfKind_0.2.2.2.2.2.2.1
theorem dX11_isOfKind_47 : decode cX11_isOfKind 47 = .ok (.aload_n 0, 1) := dcX11_isOfKind_0.2.2.2.2.2.2.2
theorem dcX11_isOfKind_1 : (decode cX11_isOfKind 48 = .ok (.instanceof 17, 3)) ∧ (decode cX11_isOfKind 51 = .ok (.ireturn, 1)) ∧ (decode cX11_isOfKind 52 = .ok (.aload_n 0, 1)) ∧ (decode cX11_isOfKind 53 = .ok (.instanceof 20, 3)) ∧ (decode cX11_isOfKind 56 = .ok (.ireturn, 1)) ∧ (decode cX11_isOfKind 57 = .ok (.aload_n 0, 1)) ∧ (decode cX11_isOfKind 58 = .ok (.instanceof 23, 3)) ∧ (decode cX11_isOfKind 61 = .ok (.ireturn, 1)) := by decide +kernel
theorem dX11_isOfKind_48 : decode cX11_isOfKind 48 = .ok (.instanceof 17, 3) := dcX11_isOfKind_1.1
theorem dX11_isOfKind_51 : decode cX11_isOfKind 51 = .ok (.ireturn, 1) := dcX11_isOfKind_1.2.1
theorem dX11_isOfKind_52 : decode cX11_isOfKind 52 = .ok (.aload_n 0, 1) := dcX11_isOfKind_1.2.2.1
theorem dX11_isOfKind_53 : decode cX11_isOfKind 53 = .ok (.instanceof 20, 3) := dcX11_isOfKind_1.2.2.2.1
theorem dX11_isOfKind_56 : decode cX11_isOfKind 56 = .ok (.ireturn, 1) := dcX11_isOfKind_1.2.2.2.2.1
theorem dX11_isOfKind_57 : decode cX11_isOfKind 57 = .ok (.aload_n 0, 1) := dcX11_isOfKind_1.2.2.2.2.2.1
theorem dX11_isOfKind_58 : decode cX11_isOfKind 58 = .ok (.instanceof 23, 3) := dcX11_isOfKind_1.2.2.2.2.2.2.1
theorem dX11_isOfKind_61 : decode cX11_isOfKind 61 = .ok (.ireturn, 1) := dcX11_isOfKind_1.2.2.2.2.2.2.2
theorem dcX11_isOfKind_2 : (decode cX11_isOfKind 62 = .ok (.aload_n 0, 1)) ∧ (decode cX11_isOfKind 63 = .ok (.instanceof 26, 3)) ∧ (decode cX11_isOfKind 66 = .ok (.ireturn, 1)) ∧ (decode cX11_isOfKind 67 = .ok (.iconst 0, 1)) ∧ (decode cX11_isOfKind 68 = .ok (.ireturn, 1)) := by decide +kernel
theorem dX11_isOfKind_62 : decode cX11_isOfKind 62 = .ok (.aload_n 0, 1) := dcX11_isOfKind_2.1
theorem dX11_isOfKind_63 : decode cX11_isOfKind 63 = .ok (.instanceof 26, 3) := dcX11_isOfKind_2.2.1
theorem dX11_isOfKind_66 : decode cX11_isOfKind 66 = .ok (.ireturn, 1) := dcX11_isOfKind_2.2.2.1
theorem dX11_isOfKind_67 : decode cX11_isOfKind 67 = .ok (.iconst 0, 1) := dcX11_isOfKind_2.2.2.2.1
theorem dX11_isOfKind_68 : decode cX11_isOfKind 68 = .ok (.ireturn, 1) := dcX11_isOfKind_2.2.2.2.2
theorem dcX11_inThought_0 : (decode cX11_inThought 0 = .ok (.aload_n 0, 1)) ∧ (decode cX11_inThought 1 = .ok (.getfield 41, 3)) ∧ (decode cX11_inThought 4 = .ok (.iload_n 1, 1)) ∧ (decode cX11_inThought 5 = .ok (.aaload, 1)) ∧ (decode cX11_inThought 6 = .ok (.aload_n 0, 1)) ∧ (decode cX11_inThought 7 = .ok (.getfield 37, 3)) ∧ (decode cX11_inThought 10 = .ok (.iload_n 1, 1)) ∧ (decode cX11_inThought 11 = .ok (.aaload, 1)) := by decide +kernel
theorem dX11_inThought_0 : decode cX11_inThought 0 = .ok (.aload_n 0, 1) := dcX11_inThought_0.1
theorem dX11_inThought_1 : decode cX11_inThought 1 = .ok (.getfield 41, 3) := dcX11_inThought_0.2.1
theorem dX11_inThought_4 : decode cX11_inThought 4 = .ok (.iload_n 1, 1) := dcX11_inThought_0.2.2.1
theorem dX11_inThought_5 : decode cX11_inThought 5 = .ok (.aaload, 1) := dcX11_inThought_0.2.2.2.1
theorem dX11_inThought_6 : decode cX11_inThought 6 = .ok (.aload_n 0, 1) := dcX11_inThought_0.2.2.2.2.1
theorem dX11_inThought_7 : decode cX11_inThought 7 = .ok (.getfield 37, 3) := dcX11_inThought_0.2.2.2.2.2.1
theorem dX11_inThought_10 : decode cX11_inThought 10 = .ok (.iload_n 1, 1) := dcX11_inThought_0.2.2.2.2.2.2.1
theorem dX11_inThought_11 : decode cX11_inThought 11 = .ok (.aaload, 1) := dcX11_inThought_0.2.2.2.2.2.2.2
theorem dcX11_inThought_1 : (decode cX11_inThought 12 = .ok (.invokevirtual 247, 3)) ∧ (decode cX11_inThought 15 = .ok (.aload_n 0, 1)) ∧ (decode cX11_inThought 16 = .ok (.getfield 41, 3)) ∧ (decode cX11_inThought 19 = .ok (.iload_n 1, 1)) ∧ (decode cX11_inThought 20 = .ok (.aaload, 1)) ∧ (decode cX11_inThought 21 = .ok (.areturn, 1)) := by decide +kernel
theorem dX11_inThought_12 : decode cX11_inThought 12 = .ok (.invokevirtual 247, 3) := dcX11_inThought_1.1
theorem dX11_inThought_15 : decode cX11_inThought 15 = .ok (.aload_n 0, 1) := dcX11_inThought_1.2.1
theorem dX11_inThought_16 : decode cX11_inThought 16 = .ok (.getfield 41, 3) := dcX11_inThought_1.2.2.1
theorem dX11_inThought_19 : decode cX11_inThought 19 = .ok (.iload_n 1, 1) := dcX11_inThought_1.2.2.2.1
theorem dX11_inThought_20 : decode cX11_inThought 20 = .ok (.aaload, 1) := dcX11_inThought_1.2.2.2.2.1
theorem dX11_inThought_21 : decode cX11_inThought 21 = .ok (.areturn, 1) := dcX11_inThought_1.2.2.2.2.2
theorem dcX11_worthCleaning_0 : (decode cX11_worthCleaning 0 = .ok (.aload_n 0, 1)) ∧ (decode cX11_worthCleaning 1 = .ok (.getfield 37, 3)) ∧ (decode cX11_worthCleaning 4 = .ok (.iload_n 1, 1)) ∧ (decode cX11_worthCleaning 5 = .ok (.aaload, 1)) ∧ (decode cX11_worthCleaning 6 = .ok (.getfield 144, 3)) ∧ (decode cX11_worthCleaning 9 = .ok (.aload_n 0, 1)) ∧ (decode cX11_worthCleaning 10 = .ok (.getfield 37, 3)) ∧ (decode cX11_worthCleaning 13 = .ok (.iload_n 1, 1)) := by decide +kernel
theorem dX11_worthCleaning_0 : decode cX11_worthCleaning 0 = .ok (.aload_n 0, 1) := dcX11_worthCleaning_0.1
theorem dX11_worthCleaning_1 : decode cX11_worthCleaning 1 = .ok (.getfield 37, 3) := dcX11_worthCleaning_0.2.1
theorem dX11_worthCleaning_4 : decode cX11_worthCleaning 4 = .ok (.iload_n 1, 1) := dcX11_worthCleaning_0.2.2.1
theorem dX11_worthCleaning_5 : decode cX11_worthCleaning 5 = .ok (.aaload, 1) := dcX11_worthCleaning_0.2.2.2.1
theorem dX11_worthCleaning_6 : decode cX11_worthCleaning 6 = .ok (.getfield 144, 3) := dcX11_worthCleaning_0.2.2.2.2.1
theorem dX11_worthCleaning_9 : decode cX11_worthCleaning 9 = .ok (.aload_n 0, 1) := dcX11_worthCleaning_0.2.2.2.2.2.1
theorem dX11_worthCleaning_10 : decode cX11_worthCleaning 10 = .ok (.getfield 37, 3) := dcX11_worthCleaning_0.2.2.2.2.2.2.1
theorem dX11_worthCleaning_13 : decode cX11_worthCleaning 13 = .ok (.iload_n 1, 1) := dcX11_worthCleaning_0.2.2.2.2.2.2.2
theorem dcX11_worthCleaning_1 : (decode cX11_worthCleaning 14 = .ok (.aaload, 1)) ∧ (decode cX11_worthCleaning 15 = .ok (.aload_n 0, 1)) ∧ (decode cX11_worthCleaning 16 = .ok (.getfield 55, 3)) ∧ (decode cX11_worthCleaning 19 = .ok (.aload_n 0, 1)) ∧ (decode cX11_worthCleaning 20 = .ok (.getfield 93, 3)) ∧ (decode cX11_worthCleaning 23 = .ok (.aaload, 1)) ∧ (decode cX11_worthCleaning 24 = .ok (.aload_n 0, 1)) ∧ (decode cX11_worthCleaning 25 = .ok (.getfield 84, 3)) := by decide +kernel
theorem dX11_worthCleaning_14 : decode cX11_worthCleaning 14 = .ok (.aaload, 1) := dcX11_worthCleaning_1.1
theorem dX11_worthCleaning_15 : decode cX11_worthCleaning 15 = .ok (.aload_n 0, 1) := dcX11_worthCleaning_1.2.1
theorem dX11_worthCleaning_16 : decode cX11_worthCleaning 16 = .ok (.getfield 55, 3) := dcX11_worthCleaning_1.2.2.1
theorem dX11_worthCleaning_19 : decode cX11_worthCleaning 19 = .ok (.aload_n 0, 1) := dcX11_worthCleaning_1.2.2.2.1
theorem dX11_worthCleaning_20 : decode cX11_worthCleaning 20 = .ok (.getfield 93, 3) := dcX11_worthCleaning_1.2.2.2.2.1
theorem dX11_worthCleaning_23 : decode cX11_worthCleaning 23 = .ok (.aaload, 1) := dcX11_worthCleaning_1.2.2.2.2.2.1
theorem dX11_worthCleaning_24 : decode cX11_worthCleaning 24 = .ok (.aload_n 0, 1) := dcX11_worthCleaning_1.2.2.2.2.2.2.1
theorem dX11_worthCleaning_25 : decode cX11_worthCleaning 25 = .ok (.getfield 84, 3) := dcX11_worthCleaning_1.2.2.2.2.2.2.2
theorem dcX11_worthCleaning_2 : (decode cX11_worthCleaning 28 = .ok (.invokevirtual 164, 3)) ∧ (decode cX11_worthCleaning 31 = .ok (.iconst (-1), 1)) ∧ (decode cX11_worthCleaning 32 = .ok (.ixor, 1)) ∧ (decode cX11_worthCleaning 33 = .ok (.iand, 1)) ∧ (decode cX11_worthCleaning 34 = .ok (.istore_n 2, 1)) ∧ (decode cX11_worthCleaning 35 = .ok (.iconst 0, 1)) ∧ (decode cX11_worthCleaning 36 = .ok (.istore_n 3, 1)) ∧ (decode cX11_worthCleaning 37 = .ok (.iload_n 3, 1)) := by decide +kernel
theorem dX11_worthCleaning_28 : decode cX11_worthCleaning 28 = .ok (.invokevirtual 164, 3) := dcX11_worthCleaning_2.1
theorem dX11_worthCleaning_31 : decode cX11_worthCleaning 31 = .ok (.iconst (-1), 1) := dcX11_worthCleaning_2.2.1
theorem dX11_worthCleaning_32 : decode cX11_worthCleaning 32 = .ok (.ixor, 1) := dcX11_worthCleaning_2.2.2.1
theorem dX11_worthCleaning_33 : decode cX11_worthCleaning 33 = .ok (.iand, 1) := dcX11_worthCleaning_2.2.2.2.1
theorem dX11_worthCleaning_34 : decode cX11_worthCleaning 34 = .ok (.istore_n 2, 1) := dcX11_worthCleaning_2.2.2.2.2.1
theorem dX11_worthCleaning_35 : decode cX11_worthCleaning 35 = .ok (.iconst 0, 1) := dcX11_worthCleaning_2.2.2.2.2.2.1
theorem dX11_worthCleaning_36 : decode cX11_worthCleaning 36 = .ok (.istore_n 3, 1) := dcX11_worthCleaning_2.2.2.2.2.2.2.1
theorem dX11_worthCleaning_37 : decode cX11_worthCleaning 37 = .ok (.iload_n 3, 1) := dcX11_worthCleaning_2.2.2.2.2.2.2.2
theorem dcX11_worthCleaning_3 : (decode cX11_worthCleaning 38 = .ok (.bipush 16, 2)) ∧ (decode cX11_worthCleaning 40 = .ok (.if_icmp .ge 38, 3)) ∧ (decode cX11_worthCleaning 43 = .ok (.aload_n 0, 1)) ∧ (decode cX11_worthCleaning 44 = .ok (.getfield 73, 3)) ∧ (decode cX11_worthCleaning 47 = .ok (.iload_n 3, 1)) ∧ (decode cX11_worthCleaning 48 = .ok (.aload_n 0, 1)) ∧ (decode cX11_worthCleaning 49 = .ok (.getfield 37, 3)) ∧ (decode cX11_worthCleaning 52 = .ok (.iload_n 1, 1)) := by decide +kernel
theorem dX11_worthCleaning_38 : decode cX11_worthCleaning 38 = .ok (.bipush 16, 2) := dcX11_worthCleaning_3.1
theorem dX11_worthCleaning_40 : decode cX11_worthCleaning 40 = .ok (.if_icmp .ge 38, 3) := dcX11_worthCleaning_3.2.1
theorem dX11_worthCleaning_43 : decode cX11_worthCleaning 43 = .ok (.aload_n 0, 1) := dcX11_worthCleaning_3.2.2.1
theorem dX11_worthCleaning_44 : decode cX11_worthCleaning 44 = .ok (.getfield 73, 3) := dcX11_worthCleaning_3.2.2.2.1
theorem dX11_worthCleaning_47 : decode cX11_worthCleaning 47 = .ok (.iload_n 3, 1) := dcX11_worthCleaning_3.2.2.2.2.1
theorem dX11_worthCleaning_48 : decode cX11_worthCleaning 48 = .ok (.aload_n 0, 1) := dcX11_worthCleaning_3.2.2.2.2.2.1
theorem dX11_worthCleaning_49 : decode cX11_worthCleaning 49 = .ok (.getfield 37, 3) := dcX11_worthCleaning_3.2.2.2.2.2.2.1
theorem dX11_worthCleaning_52 : decode cX11_worthCleaning 52 = .ok (.iload_n 1, 1) := dcX11_worthCleaning_3.2.2.2.2.2.2.2
theorem dcX11_worthCleaning_4 : (decode cX11_worthCleaning 53 = .ok (.aaload, 1)) ∧ (decode cX11_worthCleaning 54 = .ok (.aload_n 0, 1)) ∧ (decode cX11_worthCleaning 55 = .ok (.getfield 55, 3)) ∧ (decode cX11_worthCleaning 58 = .ok (.aload_n 0, 1)) ∧ (decode cX11_worthCleaning 59 = .ok (.getfield 93, 3)) ∧ (decode cX11_worthCleaning 62 = .ok (.aaload, 1)) ∧ (decode cX11_worthCleaning 63 = .ok (.iload_n 3, 1)) ∧ (decode cX11_worthCleaning 64 = .ok (.aload_n 0, 1)) := by decide +kernel
theorem dX11_worthCleaning_53 : decode cX11_worthCleaning 53 = .ok (.aaload, 1) := dcX11_worthCleaning_4.1
theorem dX11_worthCleaning_54 : decode cX11_worthCleaning 54 = .ok (.aload_n 0, 1) := dcX11_worthCleaning_4.2.1
theorem dX11_worthCleaning_55 : decode cX11_worthCleaning 55 = .ok (.getfield 55, 3) := dcX11_worthCleaning_4.2.2.1
theorem dX11_worthCleaning_58 : decode cX11_worthCleaning 58 = .ok (.aload_n 0, 1) := dcX11_worthCleaning_4.2.2.2.1
theorem dX11_worthCleaning_59 : decode cX11_worthCleaning 59 = .ok (.getfield 93, 3) := dcX11_worthCleaning_4.2.2.2.2.1
theorem dX11_worthCleaning_62 : decode cX11_worthCleaning 62 = .ok (.aaload, 1) := dcX11_worthCleaning_4.2.2.2.2.2.1
theorem dX11_worthCleaning_63 : decode cX11_worthCleaning 63 = .ok (.iload_n 3, 1) := dcX11_worthCleaning_4.2.2.2.2.2.2.1
theorem dX11_worthCleaning_64 : decode cX11_worthCleaning 64 = .ok (.aload_n 0, 1) := dcX11_worthCleaning_4.2.2.2.2.2.2.2
theorem dcX11_worthCleaning_5 : (decode cX11_worthCleaning 65 = .ok (.getfield 84, 3)) ∧ (decode cX11_worthCleaning 68 = .ok (.invokevirtual 181, 3)) ∧ (decode cX11_worthCleaning 71 = .ok (.iastore, 1)) ∧ (decode cX11_worthCleaning 72 = .ok (.iinc 3 1, 3)) ∧ (decode cX11_worthCleaning 75 = .ok (.goto (-38), 3)) ∧ (decode cX11_worthCleaning 78 = .ok (.iconst 0, 1)) ∧ (decode cX11_worthCleaning 79 = .ok (.istore_n 3, 1)) ∧ (decode cX11_worthCleaning 80 = .ok (.iconst 0, 1)) := by decide +kernel
theorem dX11_worthCleaning_65 : decode cX11_worthCleaning 65 = .ok (.getfield 84, 3) := dcX11_worthCleaning_5.1
theorem dX11_worthCleaning_68 : decode cX11_worthCleaning 68 = .ok (.invokevirtual 181, 3) := dcX11_worthCleaning_5.2.1
theorem dX11_worthCleaning_71 : decode cX11_worthCleaning 71 = .ok (.iastore, 1) := dcX11_worthCleaning_5.2.2.1
theorem dX11_worthCleaning_72 : decode cX11_worthCleaning 72 = .ok (.iinc 3 1, 3) := dcX11_worthCleaning_5.2.2.2.1
theorem dX11_worthCleaning_75 : decode cX11_worthCleaning 75 = .ok (.goto (-38), 3) := dcX11_worthCleaning_5.2.2.2.2.1
theorem dX11_worthCleaning_78 : decode cX11_worthCleaning 78 = .ok (.iconst 0, 1) := dcX11_worthCleaning_5.2.2.2.2.2.1
theorem dX11_worthCleaning_79 : decode cX11_worthCleaning 79 = .ok (.istore_n 3, 1) := dcX11_worthCleaning_5.2.2.2.2.2.2.1
theorem dX11_worthCleaning_80 : decode cX11_worthCleaning 80 = .ok (.iconst 0, 1) := dcX11_worthCleaning_5.2.2.2.2.2.2.2
theorem dcX11_worthCleaning_6 : (decode cX11_worthCleaning 81 = .ok (.istore 4, 2)) ∧ (decode cX11_worthCleaning 83 = .ok (.iconst 0, 1)) ∧ (decode cX11_worthCleaning 84 = .ok (.istore 5, 2)) ∧ (decode cX11_worthCleaning 86 = .ok (.iload 5, 2)) ∧ (decode cX11_worthCleaning 88 = .ok (.bipush 16, 2)) ∧ (decode cX11_worthCleaning 90 = .ok (.if_icmp .ge 67, 3)) ∧ (decode cX11_worthCleaning 93 = .ok (.iload_n 2, 1)) ∧ (decode cX11_worthCleaning 94 = .ok (.ifCond .eq 63, 3)) := by decide +kernel
theorem dX11_worthCleaning_81 : decode cX11_worthCleaning 81 = .ok (.istore 4, 2) := dcX11_worthCleaning_6.1
theorem dX11_worthCleaning_83 : decode cX11_worthCleaning 83 = .ok (.iconst 0, 1) := dcX11_worthCleaning_6.2.1
theorem dX11_worthCleaning_84 : decode cX11_worthCleaning 84 = .ok (.istore 5, 2) := dcX11_worthCleaning_6.2.2.1
theorem dX11_worthCleaning_86 : decode cX11_worthCleaning 86 = .ok (.iload 5, 2) := dcX11_worthCleaning_6.2.2.2.1
theorem dX11_worthCleaning_88 : decode cX11_worthCleaning 88 = .ok (.bipush 16, 2) := dcX11_worthCleaning_6.2.2.2.2.1
theorem dX11_worthCleaning_90 : decode cX11_worthCleaning 90 = .ok (.if_icmp .ge 67, 3) := dcX11_worthCleaning_6.2.2.2.2.2.1
theorem dX11_worthCleaning_93 : decode cX11_worthCleaning 93 = .ok (.iload_n 2, 1) := dcX11_worthCleaning_6.2.2.2.2.2.2.1
theorem dX11_worthCleaning_94 : decode cX11_worthCleaning 94 = .ok (.ifCond .eq 63, 3) := dcX11_worthCleaning_6.2.2.2.2.2.2.2
theorem dcX11_worthCleaning_7 : (decode cX11_worthCleaning 97 = .ok (.aload_n 0, 1)) ∧ (decode cX11_worthCleaning 98 = .ok (.iload_n 2, 1)) ∧ (decode cX11_worthCleaning 99 = .ok (.invokevirtual 278, 3)) ∧ (decode cX11_worthCleaning 102 = .ok (.istore 6, 2)) ∧ (decode cX11_worthCleaning 104 = .ok (.iload 4, 2)) ∧ (decode cX11_worthCleaning 106 = .ok (.aload_n 0, 1)) ∧ (decode cX11_worthCleaning 107 = .ok (.getfield 73, 3)) ∧ (decode cX11_worthCleaning 110 = .ok (.iload 6, 2)) := by decide +kernel
theorem dX11_worthCleaning_97 : decode cX11_worthCleaning 97 = .ok (.aload_n 0, 1) := dcX11_worthCleaning_7.1
theorem dX11_worthCleaning_98 : decode cX11_worthCleaning 98 = .ok (.iload_n 2, 1) := dcX11_worthCleaning_7.2.1
theorem dX11_worthCleaning_99 : decode cX11_worthCleaning 99 = .ok (.invokevirtual 278, 3) := dcX11_worthCleaning_7.2.2.1
theorem dX11_worthCleaning_102 : decode cX11_worthCleaning 102 = .ok (.istore 6, 2) := dcX11_worthCleaning_7.2.2.2.1
theorem dX11_worthCleaning_104 : decode cX11_worthCleaning 104 = .ok (.iload 4, 2) := dcX11_worthCleaning_7.2.2.2.2.1
theorem dX11_worthCleaning_106 : decode cX11_worthCleaning 106 = .ok (.aload_n 0, 1) := dcX11_worthCleaning_7.2.2.2.2.2.1
theorem dX11_worthCleaning_107 : decode cX11_worthCleaning 107 = .ok (.getfield 73, 3) := dcX11_worthCleaning_7.2.2.2.2.2.2.1
theorem dX11_worthCleaning_110 : decode cX11_worthCleaning 110 = .ok (.iload 6, 2) := dcX11_worthCleaning_7.2.2.2.2.2.2.2
theorem dcX11_worthCleaning_8 : (decode cX11_worthCleaning 112 = .ok (.iaload, 1)) ∧ (decode cX11_worthCleaning 113 = .ok (.iadd, 1)) ∧ (decode cX11_worthCleaning 114 = .ok (.aload_n 0, 1)) ∧ (decode cX11_worthCleaning 115 = .ok (.getfield 87, 3)) ∧ (decode cX11_worthCleaning 118 = .ok (.if_icmp .le 5, 3)) ∧ (decode cX11_worthCleaning 121 = .ok (.iload_n 3, 1)) ∧ (decode cX11_worthCleaning 122 = .ok (.ireturn, 1)) ∧ (decode cX11_worthCleaning 123 = .ok (.iload 4, 2)) := by decide +kernel
theorem dX11_worthCleaning_112 : decode cX11_worthCleaning 112 = .ok (.iaload, 1) := dcX11_worthCleaning_8.1
theorem dX11_worthCleaning_113 : decode cX11_worthCleaning 113 = .ok (.iadd, 1) := dcX11_worthCleaning_8.2.1
theorem dX11_worthCleaning_114 : decode cX11_worthCleaning 114 = .ok (.aload_n 0, 1) := dcX11_worthCleaning_8.2.2.1
theorem dX11_worthCleaning_115 : decode cX11_worthCleaning 115 = .ok (.getfield 87, 3) := dcX11_worthCleaning_8.2.2.2.1
theorem dX11_worthCleaning_118 : decode cX11_worthCleaning 118 = .ok (.if_icmp .le 5, 3) := dcX11_worthCleaning_8.2.2.2.2.1
theorem dX11_worthCleaning_121 : decode cX11_worthCleaning 121 = .ok (.iload_n 3, 1) := dcX11_worthCleaning_8.2.2.2.2.2.1
theorem dX11_worthCleaning_122 : decode cX11_worthCleaning 122 = .ok (.ireturn, 1) := dcX11_worthCleaning_8.2.2.2.2.2.2.1
theorem dX11_worthCleaning_123 : decode cX11_worthCleaning 123 = .ok (.iload 4, 2) := dcX11_worthCleaning_8.2.2.2.2.2.2.2
theorem dcX11_worthCleaning_9 : (decode cX11_worthCleaning 125 = .ok (.aload_n 0, 1)) ∧ (decode cX11_worthCleaning 126 = .ok (.getfield 73, 3)) ∧ (decode cX11_worthCleaning 129 = .ok (.iload 6, 2)) ∧ (decode cX11_worthCleaning 131 = .ok (.iaload, 1)) ∧ (decode cX11_worthCleaning 132 = .ok (.iadd, 1)) ∧ (decode cX11_worthCleaning 133 = .ok (.istore 4, 2)) ∧ (decode cX11_worthCleaning 135 = .ok (.iload_n 3, 1)) ∧ (decode cX11_worthCleaning 136 = .ok (.iconst 1, 1)) := by decide +kernel
theorem dX11_worthCleaning_125 : decode cX11_worthCleaning 125 = .ok (.aload_n 0, 1) := dcX11_worthCleaning_9.1
theorem dX11_worthCleaning_126 : decode cX11_worthCleaning 126 = .ok (.getfield 73, 3) := dcX11_worthCleaning_9.2.1
theorem dX11_worthCleaning_129 : decode cX11_worthCleaning 129 = .ok (.iload 6, 2) := dcX11_worthCleaning_9.2.2.1
theorem dX11_worthCleaning_131 : decode cX11_worthCleaning 131 = .ok (.iaload, 1) := dcX11_worthCleaning_9.2.2.2.1
theorem dX11_worthCleaning_132 : decode cX11_worthCleaning 132 = .ok (.iadd, 1) := dcX11_worthCleaning_9.2.2.2.2.1
theorem dX11_worthCleaning_133 : decode cX11_worthCleaning 133 = .ok (.istore 4, 2) := dcX11_worthCleaning_9.2.2.2.2.2.1
theorem dX11_worthCleaning_135 : decode cX11_worthCleaning 135 = .ok (.iload_n 3, 1) := dcX11_worthCleaning_9.2.2.2.2.2.2.1
theorem dX11_worthCleaning_136 : decode cX11_worthCleaning 136 = .ok (.iconst 1, 1) := dcX11_worthCleaning_9.2.2.2.2.2.2.2
theorem dcX11_worthCleaning_10 : (decode cX11_worthCleaning 137 = .ok (.iload 6, 2)) ∧ (decode cX11_worthCleaning 139 = .ok (.ishl, 1)) ∧ (decode cX11_worthCleaning 140 = .ok (.ior, 1)) ∧ (decode cX11_worthCleaning 141 = .ok (.istore_n 3, 1)) ∧ (decode cX11_worthCleaning 142 = .ok (.iload_n 2, 1)) ∧ (decode cX11_worthCleaning 143 = .ok (.iconst 1, 1)) ∧ (decode cX11_worthCleaning 144 = .ok (.iload 6, 2)) ∧ (decode cX11_worthCleaning 146 = .ok (.ishl, 1)) := by decide +kernel
theorem dX11_worthCleaning_137 : decode cX11_worthCleaning 137 = .ok (.iload 6, 2) := dcX11_worthCleaning_10.1
theorem dX11_worthCleaning_139 : decode cX11_worthCleaning 139 = .ok (.ishl, 1) := dcX11_worthCleaning_10.2.1
theorem dX11_worthCleaning_140 : decode cX11_worthCleaning 140 = .ok (.ior, 1) := dcX11_worthCleaning_10.2.2.1
theorem dX11_worthCleaning_141 : decode cX11_worthCleaning 141 = .ok (.istore_n 3, 1) := dcX11_worthCleaning_10.2.2.2.1
theorem dX11_worthCleaning_142 : decode cX11_worthCleaning 142 = .ok (.iload_n 2, 1) := dcX11_worthCleaning_10.2.2.2.2.1
theorem dX11_worthCleaning_143 : decode cX11_worthCleaning 143 = .ok (.iconst 1, 1) := dcX11_worthCleaning_10.2.2.2.2.2.1
theorem dX11_worthCleaning_144 : decode cX11_worthCleaning 144 = .ok (.iload 6, 2) := dcX11_worthCleaning_10.2.2.2.2.2.2.1
theorem dX11_worthCleaning_146 : decode cX11_worthCleaning 146 = .ok (.ishl, 1) := dcX11_worthCleaning_10.2.2.2.2.2.2.2
theorem dcX11_worthCleaning_11 : (decode cX11_worthCleaning 147 = .ok (.iconst (-1), 1)) ∧ (decode cX11_worthCleaning 148 = .ok (.ixor, 1)) ∧ (decode cX11_worthCleaning 149 = .ok (.iand, 1)) ∧ (decode cX11_worthCleaning 150 = .ok (.istore_n 2, 1)) ∧ (decode cX11_worthCleaning 151 = .ok (.iinc 5 1, 3)) ∧ (decode cX11_worthCleaning 154 = .ok (.goto (-68), 3)) ∧ (decode cX11_worthCleaning 157 = .ok (.iload_n 3, 1)) ∧ (decode cX11_worthCleaning 158 = .ok (.ireturn, 1)) := by decide +kernel
theorem dX11_worthCleaning_147 : decode cX11_worthCleaning 147 = .ok (.iconst (-1), 1) := dcX11_worthCleaning_11.1
theorem dX11_worthCleaning_148 : decode cX11_worthCleaning 148 = .ok (.ixor, 1) := dcX11_worthCleaning_11.2.1
theorem dX11_worthCleaning_149 : decode cX11_worthCleaning 149 = .ok (.iand, 1) := dcX11_worthCleaning_11.2.2.1
theorem dX11_worthCleaning_150 : decode cX11_worthCleaning 150 = .ok (.istore_n 2, 1) := dcX11_worthCleaning_11.2.2.2.1
theorem dX11_worthCleaning_151 : decode cX11_worthCleaning 151 = .ok (.iinc 5 1, 3) := dcX11_worthCleaning_11.2.2.2.2.1
theorem dX11_worthCleaning_154 : decode cX11_worthCleaning 154 = .ok (.goto (-68), 3) := dcX11_worthCleaning_11.2.2.2.2.2.1
theorem dX11_worthCleaning_157 : decode cX11_worthCleaning 157 = .ok (.iload_n 3, 1) := dcX11_worthCleaning_11.2.2.2.2.2.2.1
theorem dX11_worthCleaning_158 : decode cX11_worthCleaning 158 = .ok (.ireturn, 1) := dcX11_worthCleaning_11.2.2.2.2.2.2.2
theorem dcX11_cheapest_0 : (decode cX11_cheapest 0 = .ok (.iconst 0, 1)) ∧ (decode cX11_cheapest 1 = .ok (.istore_n 2, 1)) ∧ (decode cX11_cheapest 2 = .ok (.ldc 197, 2)) ∧ (decode cX11_cheapest 4 = .ok (.istore_n 3, 1)) ∧ (decode cX11_cheapest 5 = .ok (.iconst 0, 1)) ∧ (decode cX11_cheapest 6 = .ok (.istore 4, 2)) ∧ (decode cX11_cheapest 8 = .ok (.iload 4, 2)) ∧ (decode cX11_cheapest 10 = .ok (.bipush 16, 2)) := by decide +kernel
theorem dX11_cheapest_0 : decode cX11_cheapest 0 = .ok (.iconst 0, 1) := dcX11_cheapest_0.1
theorem dX11_cheapest_1 : decode cX11_cheapest 1 = .ok (.istore_n 2, 1) := dcX11_cheapest_0.2.1
theorem dX11_cheapest_2 : decode cX11_cheapest 2 = .ok (.ldc 197, 2) := dcX11_cheapest_0.2.2.1
theorem dX11_cheapest_4 : decode cX11_cheapest 4 = .ok (.istore_n 3, 1) := dcX11_cheapest_0.2.2.2.1
theorem dX11_cheapest_5 : decode cX11_cheapest 5 = .ok (.iconst 0, 1) := dcX11_cheapest_0.2.2.2.2.1
theorem dX11_cheapest_6 : decode cX11_cheapest 6 = .ok (.istore 4, 2) := dcX11_cheapest_0.2.2.2.2.2.1
theorem dX11_cheapest_8 : decode cX11_cheapest 8 = .ok (.iload 4, 2) := dcX11_cheapest_0.2.2.2.2.2.2.1
theorem dX11_cheapest_10 : decode cX11_cheapest 10 = .ok (.bipush 16, 2) := dcX11_cheapest_0.2.2.2.2.2.2.2
theorem dcX11_cheapest_1 : (decode cX11_cheapest 12 = .ok (.if_icmp .ge 40, 3)) ∧ (decode cX11_cheapest 15 = .ok (.iload_n 1, 1)) ∧ (decode cX11_cheapest 16 = .ok (.iload 4, 2)) ∧ (decode cX11_cheapest 18 = .ok (.invokestatic 281, 3)) ∧ (decode cX11_cheapest 21 = .ok (.ifCond .eq 25, 3)) ∧ (decode cX11_cheapest 24 = .ok (.aload_n 0, 1)) ∧ (decode cX11_cheapest 25 = .ok (.getfield 73, 3)) ∧ (decode cX11_cheapest 28 = .ok (.iload 4, 2)) := by decide +kernel
theorem dX11_cheapest_12 : decode cX11_cheapest 12 = .ok (.if_icmp .ge 40, 3) := dcX11_cheapest_1.1
theorem dX11_cheapest_15 : decode cX11_cheapest 15 = .ok (.iload_n 1, 1) := dcX11_cheapest_1.2.1
theorem dX11_cheapest_16 : decode cX11_cheapest 16 = .ok (.iload 4, 2) := dcX11_cheapest_1.2.2.1
theorem dX11_cheapest_18 : decode cX11_cheapest 18 = .ok (.invokestatic 281, 3) := dcX11_cheapest_1.2.2.2.1
theorem dX11_cheapest_21 : decode cX11_cheapest 21 = .ok (.ifCond .eq 25, 3) := dcX11_cheapest_1.2.2.2.2.1
theorem dX11_cheapest_24 : decode cX11_cheapest 24 = .ok (.aload_n 0, 1) := dcX11_cheapest_1.2.2.2.2.2.1
theorem dX11_cheapest_25 : decode cX11_cheapest 25 = .ok (.getfield 73, 3) := dcX11_cheapest_1.2.2.2.2.2.2.1
theorem dX11_cheapest_28 : decode cX11_cheapest 28 = .ok (.iload 4, 2) := dcX11_cheapest_1.2.2.2.2.2.2.2
theorem dcX11_cheapest_2 : (decode cX11_cheapest 30 = .ok (.iaload, 1)) ∧ (decode cX11_cheapest 31 = .ok (.iload_n 3, 1)) ∧ (decode cX11_cheapest 32 = .ok (.if_icmp .ge 14, 3)) ∧ (decode cX11_cheapest 35 = .ok (.iload 4, 2)) ∧ (decode cX11_cheapest 37 = .ok (.istore_n 2, 1)) ∧ (decode cX11_cheapest 38 = .ok (.aload_n 0, 1)) ∧ (decode cX11_cheapest 39 = .ok (.getfield 73, 3)) ∧ (decode cX11_cheapest 42 = .ok (.iload 4, 2)) := by decide +kernel
theorem dX11_cheapest_30 : decode cX11_cheapest 30 = .ok (.iaload, 1) := dcX11_cheapest_2.1
theorem dX11_cheapest_31 : decode cX11_cheapest 31 = .ok (.iload_n 3, 1) := dcX11_cheapest_2.2.1
theorem dX11_cheapest_32 : decode cX11_cheapest 32 = .ok (.if_icmp .ge 14, 3) := dcX11_cheapest_2.2.2.1
theorem dX11_cheapest_35 : decode cX11_cheapest 35 = .ok (.iload 4, 2) := dcX11_cheapest_2.2.2.2.1
theorem dX11_cheapest_37 : decode cX11_cheapest 37 = .ok (.istore_n 2, 1) := dcX11_cheapest_2.2.2.2.2.1
theorem dX11_cheapest_38 : decode cX11_cheapest 38 = .ok (.aload_n 0, 1) := dcX11_cheapest_2.2.2.2.2.2.1
theorem dX11_cheapest_39 : decode cX11_cheapest 39 = .ok (.getfield 73, 3) := dcX11_cheapest_2.2.2.2.2.2.2.1
theorem dX11_cheapest_42 : decode cX11_cheapest 42 = .ok (.iload 4, 2) := dcX11_cheapest_2.2.2.2.2.2.2.2
theorem dcX11_cheapest_3 : (decode cX11_cheapest 44 = .ok (.iaload, 1)) ∧ (decode cX11_cheapest 45 = .ok (.istore_n 3, 1)) ∧ (decode cX11_cheapest 46 = .ok (.iinc 4 1, 3)) ∧ (decode cX11_cheapest 49 = .ok (.goto (-41), 3)) ∧ (decode cX11_cheapest 52 = .ok (.iload_n 2, 1)) ∧ (decode cX11_cheapest 53 = .ok (.ireturn, 1)) := by decide +kernel
theorem dX11_cheapest_44 : decode cX11_cheapest 44 = .ok (.iaload, 1) := dcX11_cheapest_3.1
theorem dX11_cheapest_45 : decode cX11_cheapest 45 = .ok (.istore_n 3, 1) := dcX11_cheapest_3.2.1
theorem dX11_cheapest_46 : decode cX11_cheapest 46 = .ok (.iinc 4 1, 3) := dcX11_cheapest_3.2.2.1
theorem dX11_cheapest_49 : decode cX11_cheapest 49 = .ok (.goto (-41), 3) := dcX11_cheapest_3.2.2.2.1
theorem dX11_cheapest_52 : decode cX11_cheapest 52 = .ok (.iload_n 2, 1) := dcX11_cheapest_3.2.2.2.2.1
theorem dX11_cheapest_53 : decode cX11_cheapest 53 = .ok (.ireturn, 1) := dcX11_cheapest_3.2.2.2.2.2
theorem dcX11_leastBeside_0 : (decode cX11_leastBeside 0 = .ok (.ldc 197, 2)) ∧ (decode cX11_leastBeside 2 = .ok (.istore_n 2, 1)) ∧ (decode cX11_leastBeside 3 = .ok (.iload_n 1, 1)) ∧ (decode cX11_leastBeside 4 = .ok (.iconst 4, 1)) ∧ (decode cX11_leastBeside 5 = .ok (.irem, 1)) ∧ (decode cX11_leastBeside 6 = .ok (.ifCond .le 16, 3)) ∧ (decode cX11_leastBeside 9 = .ok (.iload_n 2, 1)) ∧ (decode cX11_leastBeside 10 = .ok (.aload_n 0, 1)) := by decide +kernel
theorem dX11_leastBeside_0 : decode cX11_leastBeside 0 = .ok (.ldc 197, 2) := dcX11_leastBeside_0.1
theorem dX11_leastBeside_2 : decode cX11_leastBeside 2 = .ok (.istore_n 2, 1) := dcX11_leastBeside_0.2.1
theorem dX11_leastBeside_3 : decode cX11_leastBeside 3 = .ok (.iload_n 1, 1) := dcX11_leastBeside_0.2.2.1
theorem dX11_leastBeside_4 : decode cX11_leastBeside 4 = .ok (.iconst 4, 1) := dcX11_leastBeside_0.2.2.2.1
theorem dX11_leastBeside_5 : decode cX11_leastBeside 5 = .ok (.irem, 1) := dcX11_leastBeside_0.2.2.2.2.1
theorem dX11_leastBeside_6 : decode cX11_leastBeside 6 = .ok (.ifCond .le 16, 3) := dcX11_leastBeside_0.2.2.2.2.2.1
theorem dX11_leastBeside_9 : decode cX11_leastBeside 9 = .ok (.iload_n 2, 1) := dcX11_leastBeside_0.2.2.2.2.2.2.1
theorem dX11_leastBeside_10 : decode cX11_leastBeside 10 = .ok (.aload_n 0, 1) := dcX11_leastBeside_0.2.2.2.2.2.2.2
theorem dcX11_leastBeside_1 : (decode cX11_leastBeside 11 = .ok (.getfield 77, 3)) ∧ (decode cX11_leastBeside 14 = .ok (.iload_n 1, 1)) ∧ (decode cX11_leastBeside 15 = .ok (.iconst 1, 1)) ∧ (decode cX11_leastBeside 16 = .ok (.isub, 1)) ∧ (decode cX11_leastBeside 17 = .ok (.iaload, 1)) ∧ (decode cX11_leastBeside 18 = .ok (.invokestatic 201, 3)) ∧ (decode cX11_leastBeside 21 = .ok (.istore_n 2, 1)) ∧ (decode cX11_leastBeside 22 = .ok (.iload_n 1, 1)) := by decide +kernel
theorem dX11_leastBeside_11 : decode cX11_leastBeside 11 = .ok (.getfield 77, 3) := dcX11_leastBeside_1.1
theorem dX11_leastBeside_14 : decode cX11_leastBeside 14 = .ok (.iload_n 1, 1) := dcX11_leastBeside_1.2.1
theorem dX11_leastBeside_15 : decode cX11_leastBeside 15 = .ok (.iconst 1, 1) := dcX11_leastBeside_1.2.2.1
theorem dX11_leastBeside_16 : decode cX11_leastBeside 16 = .ok (.isub, 1) := dcX11_leastBeside_1.2.2.2.1
theorem dX11_leastBeside_17 : decode cX11_leastBeside 17 = .ok (.iaload, 1) := dcX11_leastBeside_1.2.2.2.2.1
theorem dX11_leastBeside_18 : decode cX11_leastBeside 18 = .ok (.invokestatic 201, 3) := dcX11_leastBeside_1.2.2.2.2.2.1
theorem dX11_leastBeside_21 : decode cX11_leastBeside 21 = .ok (.istore_n 2, 1) := dcX11_leastBeside_1.2.2.2.2.2.2.1
theorem dX11_leastBeside_22 : decode cX11_leastBeside 22 = .ok (.iload_n 1, 1) := dcX11_leastBeside_1.2.2.2.2.2.2.2
theorem dcX11_leastBeside_2 : (decode cX11_leastBeside 23 = .ok (.iconst 4, 1)) ∧ (decode cX11_leastBeside 24 = .ok (.irem, 1)) ∧ (decode cX11_leastBeside 25 = .ok (.iconst 3, 1)) ∧ (decode cX11_leastBeside 26 = .ok (.if_icmp .ge 16, 3)) ∧ (decode cX11_leastBeside 29 = .ok (.iload_n 2, 1)) ∧ (decode cX11_leastBeside 30 = .ok (.aload_n 0, 1)) ∧ (decode cX11_leastBeside 31 = .ok (.getfield 77, 3)) ∧ (decode cX11_leastBeside 34 = .ok (.iload_n 1, 1)) := by decide +kernel
theorem dX11_leastBeside_23 : decode cX11_leastBeside 23 = .ok (.iconst 4, 1) := dcX11_leastBeside_2.1
theorem dX11_leastBeside_24 : decode cX11_leastBeside 24 = .ok (.irem, 1) := dcX11_leastBeside_2.2.1
theorem dX11_leastBeside_25 : decode cX11_leastBeside 25 = .ok (.iconst 3, 1) := dcX11_leastBeside_2.2.2.1
theorem dX11_leastBeside_26 : decode cX11_leastBeside 26 = .ok (.if_icmp .ge 16, 3) := dcX11_leastBeside_2.2.2.2.1
theorem dX11_leastBeside_29 : decode cX11_leastBeside 29 = .ok (.iload_n 2, 1) := dcX11_leastBeside_2.2.2.2.2.1
theorem dX11_leastBeside_30 : decode cX11_leastBeside 30 = .ok (.aload_n 0, 1) := dcX11_leastBeside_2.2.2.2.2.2.1
theorem dX11_leastBeside_31 : decode cX11_leastBeside 31 = .ok (.getfield 77, 3) := dcX11_leastBeside_2.2.2.2.2.2.2.1
theorem dX11_leastBeside_34 : decode cX11_leastBeside 34 = .ok (.iload_n 1, 1) := dcX11_leastBeside_2.2.2.2.2.2.2.2
theorem dcX11_leastBeside_3 : (decode cX11_leastBeside 35 = .ok (.iconst 1, 1)) ∧ (decode cX11_leastBeside 36 = .ok (.iadd, 1)) ∧ (decode cX11_leastBeside 37 = .ok (.iaload, 1)) ∧ (decode cX11_leastBeside 38 = .ok (.invokestatic 201, 3)) ∧ (decode cX11_leastBeside 41 = .ok (.istore_n 2, 1)) ∧ (decode cX11_leastBeside 42 = .ok (.iload_n 1, 1)) ∧ (decode cX11_leastBeside 43 = .ok (.iconst 4, 1)) ∧ (decode cX11_leastBeside 44 = .ok (.idiv, 1)) := by decide +kernel
theorem dX11_leastBeside_35 : decode cX11_leastBeside 35 = .ok (.iconst 1, 1) := dcX11_leastBeside_3.1
theorem dX11_leastBeside_36 : decode cX11_leastBeside 36 = .ok (.iadd, 1) := dcX11_leastBeside_3.2.1
theorem dX11_leastBeside_37 : decode cX11_leastBeside 37 = .ok (.iaload, 1) := dcX11_leastBeside_3.2.2.1
theorem dX11_leastBeside_38 : decode cX11_leastBeside 38 = .ok (.invokestatic 201, 3) := dcX11_leastBeside_3.2.2.2.1
theorem dX11_leastBeside_41 : decode cX11_leastBeside 41 = .ok (.istore_n 2, 1) := dcX11_leastBeside_3.2.2.2.2.1
theorem dX11_leastBeside_42 : decode cX11_leastBeside 42 = .ok (.iload_n 1, 1) := dcX11_leastBeside_3.2.2.2.2.2.1
theorem dX11_leastBeside_43 : decode cX11_leastBeside 43 = .ok (.iconst 4, 1) := dcX11_leastBeside_3.2.2.2.2.2.2.1
theorem dX11_leastBeside_44 : decode cX11_leastBeside 44 = .ok (.idiv, 1) := dcX11_leastBeside_3.2.2.2.2.2.2.2
theorem dcX11_leastBeside_4 : (decode cX11_leastBeside 45 = .ok (.ifCond .le 16, 3)) ∧ (decode cX11_leastBeside 48 = .ok (.iload_n 2, 1)) ∧ (decode cX11_leastBeside 49 = .ok (.aload_n 0, 1)) ∧ (decode cX11_leastBeside 50 = .ok (.getfield 77, 3)) ∧ (decode cX11_leastBeside 53 = .ok (.iload_n 1, 1)) ∧ (decode cX11_leastBeside 54 = .ok (.iconst 4, 1)) ∧ (decode cX11_leastBeside 55 = .ok (.isub, 1)) ∧ (decode cX11_leastBeside 56 = .ok (.iaload, 1)) := by decide +kernel
theorem dX11_leastBeside_45 : decode cX11_leastBeside 45 = .ok (.ifCond .le 16, 3) := dcX11_leastBeside_4.1
theorem dX11_leastBeside_48 : decode cX11_leastBeside 48 = .ok (.iload_n 2, 1) := dcX11_leastBeside_4.2.1
theorem dX11_leastBeside_49 : decode cX11_leastBeside 49 = .ok (.aload_n 0, 1) := dcX11_leastBeside_4.2.2.1
theorem dX11_leastBeside_50 : decode cX11_leastBeside 50 = .ok (.getfield 77, 3) := dcX11_leastBeside_4.2.2.2.1
theorem dX11_leastBeside_53 : decode cX11_leastBeside 53 = .ok (.iload_n 1, 1) := dcX11_leastBeside_4.2.2.2.2.1
theorem dX11_leastBeside_54 : decode cX11_leastBeside 54 = .ok (.iconst 4, 1) := dcX11_leastBeside_4.2.2.2.2.2.1
theorem dX11_leastBeside_55 : decode cX11_leastBeside 55 = .ok (.isub, 1) := dcX11_leastBeside_4.2.2.2.2.2.2.1
theorem dX11_leastBeside_56 : decode cX11_leastBeside 56 = .ok (.iaload, 1) := dcX11_leastBeside_4.2.2.2.2.2.2.2
theorem dcX11_leastBeside_5 : (decode cX11_leastBeside 57 = .ok (.invokestatic 201, 3)) ∧ (decode cX11_leastBeside 60 = .ok (.istore_n 2, 1)) ∧ (decode cX11_leastBeside 61 = .ok (.iload_n 1, 1)) ∧ (decode cX11_leastBeside 62 = .ok (.iconst 4, 1)) ∧ (decode cX11_leastBeside 63 = .ok (.idiv, 1)) ∧ (decode cX11_leastBeside 64 = .ok (.iconst 3, 1)) ∧ (decode cX11_leastBeside 65 = .ok (.if_icmp .ge 16, 3)) ∧ (decode cX11_leastBeside 68 = .ok (.iload_n 2, 1)) := by decide +kernel
theorem dX11_leastBeside_57 : decode cX11_leastBeside 57 = .ok (.invokestatic 201, 3) := dcX11_leastBeside_5.1
theorem dX11_leastBeside_60 : decode cX11_leastBeside 60 = .ok (.istore_n 2, 1) := dcX11_leastBeside_5.2.1
theorem dX11_leastBeside_61 : decode cX11_leastBeside 61 = .ok (.iload_n 1, 1) := dcX11_leastBeside_5.2.2.1
theorem dX11_leastBeside_62 : decode cX11_leastBeside 62 = .ok (.iconst 4, 1) := dcX11_leastBeside_5.2.2.2.1
theorem dX11_leastBeside_63 : decode cX11_leastBeside 63 = .ok (.idiv, 1) := dcX11_leastBeside_5.2.2.2.2.1
theorem dX11_leastBeside_64 : decode cX11_leastBeside 64 = .ok (.iconst 3, 1) := dcX11_leastBeside_5.2.2.2.2.2.1
theorem dX11_leastBeside_65 : decode cX11_leastBeside 65 = .ok (.if_icmp .ge 16, 3) := dcX11_leastBeside_5.2.2.2.2.2.2.1
theorem dX11_leastBeside_68 : decode cX11_leastBeside 68 = .ok (.iload_n 2, 1) := dcX11_leastBeside_5.2.2.2.2.2.2.2
theorem dcX11_leastBeside_6 : (decode cX11_leastBeside 69 = .ok (.aload_n 0, 1)) ∧ (decode cX11_leastBeside 70 = .ok (.getfield 77, 3)) ∧ (decode cX11_leastBeside 73 = .ok (.iload_n 1, 1)) ∧ (decode cX11_leastBeside 74 = .ok (.iconst 4, 1)) ∧ (decode cX11_leastBeside 75 = .ok (.iadd, 1)) ∧ (decode cX11_leastBeside 76 = .ok (.iaload, 1)) ∧ (decode cX11_leastBeside 77 = .ok (.invokestatic 201, 3)) ∧ (decode cX11_leastBeside 80 = .ok (.istore_n 2, 1)) := by decide +kernel
theorem dX11_leastBeside_69 : decode cX11_leastBeside 69 = .ok (.aload_n 0, 1) := dcX11_leastBeside_6.1
theorem dX11_leastBeside_70 : decode cX11_leastBeside 70 = .ok (.getfield 77, 3) := dcX11_leastBeside_6.2.1
theorem dX11_leastBeside_73 : decode cX11_leastBeside 73 = .ok (.iload_n 1, 1) := dcX11_leastBeside_6.2.2.1
theorem dX11_leastBeside_74 : decode cX11_leastBeside 74 = .ok (.iconst 4, 1) := dcX11_leastBeside_6.2.2.2.1
theorem dX11_leastBeside_75 : decode cX11_leastBeside 75 = .ok (.iadd, 1) := dcX11_leastBeside_6.2.2.2.2.1
theorem dX11_leastBeside_76 : decode cX11_leastBeside 76 = .ok (.iaload, 1) := dcX11_leastBeside_6.2.2.2.2.2.1
theorem dX11_leastBeside_77 : decode cX11_leastBeside 77 = .ok (.invokestatic 201, 3) := dcX11_leastBeside_6.2.2.2.2.2.2.1
theorem dX11_leastBeside_80 : decode cX11_leastBeside 80 = .ok (.istore_n 2, 1) := dcX11_leastBeside_6.2.2.2.2.2.2.2
theorem dcX11_leastBeside_7 : (decode cX11_leastBeside 81 = .ok (.iload_n 2, 1)) ∧ (decode cX11_leastBeside 82 = .ok (.ireturn, 1)) := by decide +kernel
theorem dX11_leastBeside_81 : decode cX11_leastBeside 81 = .ok (.iload_n 2, 1) := dcX11_leastBeside_7.1
theorem dX11_leastBeside_82 : decode cX11_leastBeside 82 = .ok (.ireturn, 1) := dcX11_leastBeside_7.2
theorem dcX11_isOftenEnough_0 : (decode cX11_isOftenEnough 0 = .ok (.aload_n 0, 1)) ∧ (decode cX11_isOftenEnough 1 = .ok (.iload_n 1, 1)) ∧ (decode cX11_isOftenEnough 2 = .ok (.invokevirtual 184, 3)) ∧ (decode cX11_isOftenEnough 5 = .ok (.astore_n 3, 1)) ∧ (decode cX11_isOftenEnough 6 = .ok (.iload_n 2, 1)) ∧ (decode cX11_isOftenEnough 7 = .ok (.istore 4, 2)) ∧ (decode cX11_isOftenEnough 9 = .ok (.iconst 0, 1)) ∧ (decode cX11_isOftenEnough 10 = .ok (.istore 5, 2)) := by decide +kernel
theorem dX11_isOftenEnough_0 : decode cX11_isOftenEnough 0 = .ok (.aload_n 0, 1) := dcX11_isOftenEnough_0.1
theorem dX11_isOftenEnough_1 : decode cX11_isOftenEnough 1 = .ok (.iload_n 1, 1) := dcX11_isOftenEnough_0.2.1
theorem dX11_isOftenEnough_2 : decode cX11_isOftenEnough 2 = .ok (.invokevirtual 184, 3) := dcX11_isOftenEnough_0.2.2.1
theorem dX11_isOftenEnough_5 : decode cX11_isOftenEnough 5 = .ok (.astore_n 3, 1) := dcX11_isOftenEnough_0.2.2.2.1
theorem dX11_isOftenEnough_6 : decode cX11_isOftenEnough 6 = .ok (.iload_n 2, 1) := dcX11_isOftenEnough_0.2.2.2.2.1
theorem dX11_isOftenEnough_7 : decode cX11_isOftenEnough 7 = .ok (.istore 4, 2) := dcX11_isOftenEnough_0.2.2.2.2.2.1
theorem dX11_isOftenEnough_9 : decode cX11_isOftenEnough 9 = .ok (.iconst 0, 1) := dcX11_isOftenEnough_0.2.2.2.2.2.2.1
theorem dX11_isOftenEnough_10 : decode cX11_isOftenEnough 10 = .ok (.istore 5, 2) := dcX11_isOftenEnough_0.2.2.2.2.2.2.2
theorem dcX11_isOftenEnough_1 : (decode cX11_isOftenEnough 12 = .ok (.iload 5, 2)) ∧ (decode cX11_isOftenEnough 14 = .ok (.bipush 20, 2)) ∧ (decode cX11_isOftenEnough 16 = .ok (.if_icmp .ge 77, 3)) ∧ (decode cX11_isOftenEnough 19 = .ok (.iload 4, 2)) ∧ (decode cX11_isOftenEnough 21 = .ok (.iload_n 2, 1)) ∧ (decode cX11_isOftenEnough 22 = .ok (.if_icmp .ne 11, 3)) ∧ (decode cX11_isOftenEnough 25 = .ok (.aload_n 3, 1)) ∧ (decode cX11_isOftenEnough 26 = .ok (.iconst 0, 1)) := by decide +kernel
theorem dX11_isOftenEnough_12 : decode cX11_isOftenEnough 12 = .ok (.iload 5, 2) := dcX11_isOftenEnough_1.1
theorem dX11_isOftenEnough_14 : decode cX11_isOftenEnough 14 = .ok (.bipush 20, 2) := dcX11_isOftenEnough_1.2.1
theorem dX11_isOftenEnough_16 : decode cX11_isOftenEnough 16 = .ok (.if_icmp .ge 77, 3) := dcX11_isOftenEnough_1.2.2.1
theorem dX11_isOftenEnough_19 : decode cX11_isOftenEnough 19 = .ok (.iload 4, 2) := dcX11_isOftenEnough_1.2.2.2.1
theorem dX11_isOftenEnough_21 : decode cX11_isOftenEnough 21 = .ok (.iload_n 2, 1) := dcX11_isOftenEnough_1.2.2.2.2.1
theorem dX11_isOftenEnough_22 : decode cX11_isOftenEnough 22 = .ok (.if_icmp .ne 11, 3) := dcX11_isOftenEnough_1.2.2.2.2.2.1
theorem dX11_isOftenEnough_25 : decode cX11_isOftenEnough 25 = .ok (.aload_n 3, 1) := dcX11_isOftenEnough_1.2.2.2.2.2.2.1
theorem dX11_isOftenEnough_26 : decode cX11_isOftenEnough 26 = .ok (.iconst 0, 1) := dcX11_isOftenEnough_1.2.2.2.2.2.2.2
theorem dcX11_isOftenEnough_2 : (decode cX11_isOftenEnough 27 = .ok (.invokevirtual 147, 3)) ∧ (decode cX11_isOftenEnough 30 = .ok (.iconst 0, 1)) ∧ (decode cX11_isOftenEnough 31 = .ok (.istore 4, 2)) ∧ (decode cX11_isOftenEnough 33 = .ok (.aload_n 3, 1)) ∧ (decode cX11_isOftenEnough 34 = .ok (.aload_n 0, 1)) ∧ (decode cX11_isOftenEnough 35 = .ok (.getfield 55, 3)) ∧ (decode cX11_isOftenEnough 38 = .ok (.aload_n 0, 1)) ∧ (decode cX11_isOftenEnough 39 = .ok (.getfield 93, 3)) := by decide +kernel
theorem dX11_isOftenEnough_27 : decode cX11_isOftenEnough 27 = .ok (.invokevirtual 147, 3) := dcX11_isOftenEnough_2.1
theorem dX11_isOftenEnough_30 : decode cX11_isOftenEnough 30 = .ok (.iconst 0, 1) := dcX11_isOftenEnough_2.2.1
theorem dX11_isOftenEnough_31 : decode cX11_isOftenEnough 31 = .ok (.istore 4, 2) := dcX11_isOftenEnough_2.2.2.1
theorem dX11_isOftenEnough_33 : decode cX11_isOftenEnough 33 = .ok (.aload_n 3, 1) := dcX11_isOftenEnough_2.2.2.2.1
theorem dX11_isOftenEnough_34 : decode cX11_isOftenEnough 34 = .ok (.aload_n 0, 1) := dcX11_isOftenEnough_2.2.2.2.2.1
theorem dX11_isOftenEnough_35 : decode cX11_isOftenEnough 35 = .ok (.getfield 55, 3) := dcX11_isOftenEnough_2.2.2.2.2.2.1
theorem dX11_isOftenEnough_38 : decode cX11_isOftenEnough 38 = .ok (.aload_n 0, 1) := dcX11_isOftenEnough_2.2.2.2.2.2.2.1
theorem dX11_isOftenEnough_39 : decode cX11_isOftenEnough 39 = .ok (.getfield 93, 3) := dcX11_isOftenEnough_2.2.2.2.2.2.2.2
theorem dcX11_isOftenEnough_3 : (decode cX11_isOftenEnough 42 = .ok (.aaload, 1)) ∧ (decode cX11_isOftenEnough 43 = .ok (.aload_n 0, 1)) ∧ (decode cX11_isOftenEnough 44 = .ok (.getfield 84, 3)) ∧ (decode cX11_isOftenEnough 47 = .ok (.iload 5, 2)) ∧ (decode cX11_isOftenEnough 49 = .ok (.iadd, 1)) ∧ (decode cX11_isOftenEnough 50 = .ok (.invokevirtual 177, 3)) ∧ (decode cX11_isOftenEnough 53 = .ok (.iinc 4 1, 3)) ∧ (decode cX11_isOftenEnough 56 = .ok (.aload_n 3, 1)) := by decide +kernel
theorem dX11_isOftenEnough_42 : decode cX11_isOftenEnough 42 = .ok (.aaload, 1) := dcX11_isOftenEnough_3.1
theorem dX11_isOftenEnough_43 : decode cX11_isOftenEnough 43 = .ok (.aload_n 0, 1) := dcX11_isOftenEnough_3.2.1
theorem dX11_isOftenEnough_44 : decode cX11_isOftenEnough 44 = .ok (.getfield 84, 3) := dcX11_isOftenEnough_3.2.2.1
theorem dX11_isOftenEnough_47 : decode cX11_isOftenEnough 47 = .ok (.iload 5, 2) := dcX11_isOftenEnough_3.2.2.2.1
theorem dX11_isOftenEnough_49 : decode cX11_isOftenEnough 49 = .ok (.iadd, 1) := dcX11_isOftenEnough_3.2.2.2.2.1
theorem dX11_isOftenEnough_50 : decode cX11_isOftenEnough 50 = .ok (.invokevirtual 177, 3) := dcX11_isOftenEnough_3.2.2.2.2.2.1
theorem dX11_isOftenEnough_53 : decode cX11_isOftenEnough 53 = .ok (.iinc 4 1, 3) := dcX11_isOftenEnough_3.2.2.2.2.2.2.1
theorem dX11_isOftenEnough_56 : decode cX11_isOftenEnough 56 = .ok (.aload_n 3, 1) := dcX11_isOftenEnough_3.2.2.2.2.2.2.2
theorem dcX11_isOftenEnough_4 : (decode cX11_isOftenEnough 57 = .ok (.aload_n 0, 1)) ∧ (decode cX11_isOftenEnough 58 = .ok (.getfield 55, 3)) ∧ (decode cX11_isOftenEnough 61 = .ok (.aload_n 0, 1)) ∧ (decode cX11_isOftenEnough 62 = .ok (.getfield 93, 3)) ∧ (decode cX11_isOftenEnough 65 = .ok (.aaload, 1)) ∧ (decode cX11_isOftenEnough 66 = .ok (.aload_n 0, 1)) ∧ (decode cX11_isOftenEnough 67 = .ok (.getfield 84, 3)) ∧ (decode cX11_isOftenEnough 70 = .ok (.iload 5, 2)) := by decide +kernel
theorem dX11_isOftenEnough_57 : decode cX11_isOftenEnough 57 = .ok (.aload_n 0, 1) := dcX11_isOftenEnough_4.1
theorem dX11_isOftenEnough_58 : decode cX11_isOftenEnough 58 = .ok (.getfield 55, 3) := dcX11_isOftenEnough_4.2.1
theorem dX11_isOftenEnough_61 : decode cX11_isOftenEnough 61 = .ok (.aload_n 0, 1) := dcX11_isOftenEnough_4.2.2.1
theorem dX11_isOftenEnough_62 : decode cX11_isOftenEnough 62 = .ok (.getfield 93, 3) := dcX11_isOftenEnough_4.2.2.2.1
theorem dX11_isOftenEnough_65 : decode cX11_isOftenEnough 65 = .ok (.aaload, 1) := dcX11_isOftenEnough_4.2.2.2.2.1
theorem dX11_isOftenEnough_66 : decode cX11_isOftenEnough 66 = .ok (.aload_n 0, 1) := dcX11_isOftenEnough_4.2.2.2.2.2.1
theorem dX11_isOftenEnough_67 : decode cX11_isOftenEnough 67 = .ok (.getfield 84, 3) := dcX11_isOftenEnough_4.2.2.2.2.2.2.1
theorem dX11_isOftenEnough_70 : decode cX11_isOftenEnough 70 = .ok (.iload 5, 2) := dcX11_isOftenEnough_4.2.2.2.2.2.2.2
theorem dcX11_isOftenEnough_5 : (decode cX11_isOftenEnough 72 = .ok (.iadd, 1)) ∧ (decode cX11_isOftenEnough 73 = .ok (.iconst 1, 1)) ∧ (decode cX11_isOftenEnough 74 = .ok (.iadd, 1)) ∧ (decode cX11_isOftenEnough 75 = .ok (.invokevirtual 164, 3)) ∧ (decode cX11_isOftenEnough 78 = .ok (.aload_n 3, 1)) ∧ (decode cX11_isOftenEnough 79 = .ok (.getfield 144, 3)) ∧ (decode cX11_isOftenEnough 82 = .ok (.if_icmp .eq 5, 3)) ∧ (decode cX11_isOftenEnough 85 = .ok (.iconst 0, 1)) := by decide +kernel
theorem dX11_isOftenEnough_72 : decode cX11_isOftenEnough 72 = .ok (.iadd, 1) := dcX11_isOftenEnough_5.1
theorem dX11_isOftenEnough_73 : decode cX11_isOftenEnough 73 = .ok (.iconst 1, 1) := dcX11_isOftenEnough_5.2.1
theorem dX11_isOftenEnough_74 : decode cX11_isOftenEnough 74 = .ok (.iadd, 1) := dcX11_isOftenEnough_5.2.2.1
theorem dX11_isOftenEnough_75 : decode cX11_isOftenEnough 75 = .ok (.invokevirtual 164, 3) := dcX11_isOftenEnough_5.2.2.2.1
theorem dX11_isOftenEnough_78 : decode cX11_isOftenEnough 78 = .ok (.aload_n 3, 1) := dcX11_isOftenEnough_5.2.2.2.2.1
theorem dX11_isOftenEnough_79 : decode cX11_isOftenEnough 79 = .ok (.getfield 144, 3) := dcX11_isOftenEnough_5.2.2.2.2.2.1
theorem dX11_isOftenEnough_82 : decode cX11_isOftenEnough 82 = .ok (.if_icmp .eq 5, 3) := dcX11_isOftenEnough_5.2.2.2.2.2.2.1
theorem dX11_isOftenEnough_85 : decode cX11_isOftenEnough 85 = .ok (.iconst 0, 1) := dcX11_isOftenEnough_5.2.2.2.2.2.2.2
theorem dcX11_isOftenEnough_6 : (decode cX11_isOftenEnough 86 = .ok (.ireturn, 1)) ∧ (decode cX11_isOftenEnough 87 = .ok (.iinc 5 1, 3)) ∧ (decode cX11_isOftenEnough 90 = .ok (.goto (-78), 3)) ∧ (decode cX11_isOftenEnough 93 = .ok (.iconst 1, 1)) ∧ (decode cX11_isOftenEnough 94 = .ok (.ireturn, 1)) := by decide +kernel
theorem dX11_isOftenEnough_86 : decode cX11_isOftenEnough 86 = .ok (.ireturn, 1) := dcX11_isOftenEnough_6.1
theorem dX11_isOftenEnough_87 : decode cX11_isOftenEnough 87 = .ok (.iinc 5 1, 3) := dcX11_isOftenEnough_6.2.1
theorem dX11_isOftenEnough_90 : decode cX11_isOftenEnough 90 = .ok (.goto (-78), 3) := dcX11_isOftenEnough_6.2.2.1
theorem dX11_isOftenEnough_93 : decode cX11_isOftenEnough 93 = .ok (.iconst 1, 1) := dcX11_isOftenEnough_6.2.2.2.1
theorem dX11_isOftenEnough_94 : decode cX11_isOftenEnough 94 = .ok (.ireturn, 1) := dcX11_isOftenEnough_6.2.2.2.2
theorem dcX11_isTorn_0 : (decode cX11_isTorn 0 = .ok (.iconst 0, 1)) ∧ (decode cX11_isTorn 1 = .ok (.istore 6, 2)) ∧ (decode cX11_isTorn 3 = .ok (.iload 6, 2)) ∧ (decode cX11_isTorn 5 = .ok (.bipush 16, 2)) ∧ (decode cX11_isTorn 7 = .ok (.if_icmp .ge 107, 3)) ∧ (decode cX11_isTorn 10 = .ok (.iload 6, 2)) ∧ (decode cX11_isTorn 12 = .ok (.iconst 4, 1)) ∧ (decode cX11_isTorn 13 = .ok (.irem, 1)) := by decide +kernel
theorem dX11_isTorn_0 : decode cX11_isTorn 0 = .ok (.iconst 0, 1) := dcX11_isTorn_0.1
theorem dX11_isTorn_1 : decode cX11_isTorn 1 = .ok (.istore 6, 2) := dcX11_isTorn_0.2.1
theorem dX11_isTorn_3 : decode cX11_isTorn 3 = .ok (.iload 6, 2) := dcX11_isTorn_0.2.2.1
theorem dX11_isTorn_5 : decode cX11_isTorn 5 = .ok (.bipush 16, 2) := dcX11_isTorn_0.2.2.2.1
theorem dX11_isTorn_7 : decode cX11_isTorn 7 = .ok (.if_icmp .ge 107, 3) := dcX11_isTorn_0.2.2.2.2.1
theorem dX11_isTorn_10 : decode cX11_isTorn 10 = .ok (.iload 6, 2) := dcX11_isTorn_0.2.2.2.2.2.1
theorem dX11_isTorn_12 : decode cX11_isTorn 12 = .ok (.iconst 4, 1) := dcX11_isTorn_0.2.2.2.2.2.2.1
theorem dX11_isTorn_13 : decode cX11_isTorn 13 = .ok (.irem, 1) := dcX11_isTorn_0.2.2.2.2.2.2.2
theorem dcX11_isTorn_1 : (decode cX11_isTorn 14 = .ok (.iload 4, 2)) ∧ (decode cX11_isTorn 16 = .ok (.iadd, 1)) ∧ (decode cX11_isTorn 17 = .ok (.istore 7, 2)) ∧ (decode cX11_isTorn 19 = .ok (.iload 6, 2)) ∧ (decode cX11_isTorn 21 = .ok (.iconst 4, 1)) ∧ (decode cX11_isTorn 22 = .ok (.idiv, 1)) ∧ (decode cX11_isTorn 23 = .ok (.iload 5, 2)) ∧ (decode cX11_isTorn 25 = .ok (.iadd, 1)) := by decide +kernel
theorem dX11_isTorn_14 : decode cX11_isTorn 14 = .ok (.iload 4, 2) := dcX11_isTorn_1.1
theorem dX11_isTorn_16 : decode cX11_isTorn 16 = .ok (.iadd, 1) := dcX11_isTorn_1.2.1
theorem dX11_isTorn_17 : decode cX11_isTorn 17 = .ok (.istore 7, 2) := dcX11_isTorn_1.2.2.1
theorem dX11_isTorn_19 : decode cX11_isTorn 19 = .ok (.iload 6, 2) := dcX11_isTorn_1.2.2.2.1
theorem dX11_isTorn_21 : decode cX11_isTorn 21 = .ok (.iconst 4, 1) := dcX11_isTorn_1.2.2.2.2.1
theorem dX11_isTorn_22 : decode cX11_isTorn 22 = .ok (.idiv, 1) := dcX11_isTorn_1.2.2.2.2.2.1
theorem dX11_isTorn_23 : decode cX11_isTorn 23 = .ok (.iload 5, 2) := dcX11_isTorn_1.2.2.2.2.2.2.1
theorem dX11_isTorn_25 : decode cX11_isTorn 25 = .ok (.iadd, 1) := dcX11_isTorn_1.2.2.2.2.2.2.2
theorem dcX11_isTorn_2 : (decode cX11_isTorn 26 = .ok (.istore 8, 2)) ∧ (decode cX11_isTorn 28 = .ok (.iconst 4, 1)) ∧ (decode cX11_isTorn 29 = .ok (.iload 8, 2)) ∧ (decode cX11_isTorn 31 = .ok (.imul, 1)) ∧ (decode cX11_isTorn 32 = .ok (.iload 7, 2)) ∧ (decode cX11_isTorn 34 = .ok (.iadd, 1)) ∧ (decode cX11_isTorn 35 = .ok (.istore 9, 2)) ∧ (decode cX11_isTorn 37 = .ok (.iload 7, 2)) := by decide +kernel
theorem dX11_isTorn_26 : decode cX11_isTorn 26 = .ok (.istore 8, 2) := dcX11_isTorn_2.1
theorem dX11_isTorn_28 : decode cX11_isTorn 28 = .ok (.iconst 4, 1) := dcX11_isTorn_2.2.1
theorem dX11_isTorn_29 : decode cX11_isTorn 29 = .ok (.iload 8, 2) := dcX11_isTorn_2.2.2.1
theorem dX11_isTorn_31 : decode cX11_isTorn 31 = .ok (.imul, 1) := dcX11_isTorn_2.2.2.2.1
theorem dX11_isTorn_32 : decode cX11_isTorn 32 = .ok (.iload 7, 2) := dcX11_isTorn_2.2.2.2.2.1
theorem dX11_isTorn_34 : decode cX11_isTorn 34 = .ok (.iadd, 1) := dcX11_isTorn_2.2.2.2.2.2.1
theorem dX11_isTorn_35 : decode cX11_isTorn 35 = .ok (.istore 9, 2) := dcX11_isTorn_2.2.2.2.2.2.2.1
theorem dX11_isTorn_37 : decode cX11_isTorn 37 = .ok (.iload 7, 2) := dcX11_isTorn_2.2.2.2.2.2.2.2
theorem dcX11_isTorn_3 : (decode cX11_isTorn 39 = .ok (.iconst 3, 1)) ∧ (decode cX11_isTorn 40 = .ok (.invokestatic 107, 3)) ∧ (decode cX11_isTorn 43 = .ok (.ifCond .eq 16, 3)) ∧ (decode cX11_isTorn 46 = .ok (.iload 8, 2)) ∧ (decode cX11_isTorn 48 = .ok (.iconst 3, 1)) ∧ (decode cX11_isTorn 49 = .ok (.invokestatic 107, 3)) ∧ (decode cX11_isTorn 52 = .ok (.ifCond .eq 7, 3)) ∧ (decode cX11_isTorn 55 = .ok (.iconst 1, 1)) := by decide +kernel
theorem dX11_isTorn_39 : decode cX11_isTorn 39 = .ok (.iconst 3, 1) := dcX11_isTorn_3.1
theorem dX11_isTorn_40 : decode cX11_isTorn 40 = .ok (.invokestatic 107, 3) := dcX11_isTorn_3.2.1
theorem dX11_isTorn_43 : decode cX11_isTorn 43 = .ok (.ifCond .eq 16, 3) := dcX11_isTorn_3.2.2.1
theorem dX11_isTorn_46 : decode cX11_isTorn 46 = .ok (.iload 8, 2) := dcX11_isTorn_3.2.2.2.1
theorem dX11_isTorn_48 : decode cX11_isTorn 48 = .ok (.iconst 3, 1) := dcX11_isTorn_3.2.2.2.2.1
theorem dX11_isTorn_49 : decode cX11_isTorn 49 = .ok (.invokestatic 107, 3) := dcX11_isTorn_3.2.2.2.2.2.1
theorem dX11_isTorn_52 : decode cX11_isTorn 52 = .ok (.ifCond .eq 7, 3) := dcX11_isTorn_3.2.2.2.2.2.2.1
theorem dX11_isTorn_55 : decode cX11_isTorn 55 = .ok (.iconst 1, 1) := dcX11_isTorn_3.2.2.2.2.2.2.2
theorem dcX11_isTorn_4 : (decode cX11_isTorn 56 = .ok (.goto 4, 3)) ∧ (decode cX11_isTorn 59 = .ok (.iconst 0, 1)) ∧ (decode cX11_isTorn 60 = .ok (.istore 10, 2)) ∧ (decode cX11_isTorn 62 = .ok (.iload 10, 2)) ∧ (decode cX11_isTorn 64 = .ok (.ifCond .eq 44, 3)) ∧ (decode cX11_isTorn 67 = .ok (.iload_n 3, 1)) ∧ (decode cX11_isTorn 68 = .ok (.iload 6, 2)) ∧ (decode cX11_isTorn 70 = .ok (.invokestatic 281, 3)) := by decide +kernel
theorem dX11_isTorn_56 : decode cX11_isTorn 56 = .ok (.goto 4, 3) := dcX11_isTorn_4.1
theorem dX11_isTorn_59 : decode cX11_isTorn 59 = .ok (.iconst 0, 1) := dcX11_isTorn_4.2.1
theorem dX11_isTorn_60 : decode cX11_isTorn 60 = .ok (.istore 10, 2) := dcX11_isTorn_4.2.2.1
theorem dX11_isTorn_62 : decode cX11_isTorn 62 = .ok (.iload 10, 2) := dcX11_isTorn_4.2.2.2.1
theorem dX11_isTorn_64 : decode cX11_isTorn 64 = .ok (.ifCond .eq 44, 3) := dcX11_isTorn_4.2.2.2.2.1
theorem dX11_isTorn_67 : decode cX11_isTorn 67 = .ok (.iload_n 3, 1) := dcX11_isTorn_4.2.2.2.2.2.1
theorem dX11_isTorn_68 : decode cX11_isTorn 68 = .ok (.iload 6, 2) := dcX11_isTorn_4.2.2.2.2.2.2.1
theorem dX11_isTorn_70 : decode cX11_isTorn 70 = .ok (.invokestatic 281, 3) := dcX11_isTorn_4.2.2.2.2.2.2.2
theorem dcX11_isTorn_5 : (decode cX11_isTorn 73 = .ok (.ifCond .eq 35, 3)) ∧ (decode cX11_isTorn 76 = .ok (.iload_n 1, 1)) ∧ (decode cX11_isTorn 77 = .ok (.iload 9, 2)) ∧ (decode cX11_isTorn 79 = .ok (.invokestatic 281, 3)) ∧ (decode cX11_isTorn 82 = .ok (.ifCond .eq 26, 3)) ∧ (decode cX11_isTorn 85 = .ok (.aload_n 2, 1)) ∧ (decode cX11_isTorn 86 = .ok (.getfield 144, 3)) ∧ (decode cX11_isTorn 89 = .ok (.iload 6, 2)) := by decide +kernel
theorem dX11_isTorn_73 : decode cX11_isTorn 73 = .ok (.ifCond .eq 35, 3) := dcX11_isTorn_5.1
theorem dX11_isTorn_76 : decode cX11_isTorn 76 = .ok (.iload_n 1, 1) := dcX11_isTorn_5.2.1
theorem dX11_isTorn_77 : decode cX11_isTorn 77 = .ok (.iload 9, 2) := dcX11_isTorn_5.2.2.1
theorem dX11_isTorn_79 : decode cX11_isTorn 79 = .ok (.invokestatic 281, 3) := dcX11_isTorn_5.2.2.2.1
theorem dX11_isTorn_82 : decode cX11_isTorn 82 = .ok (.ifCond .eq 26, 3) := dcX11_isTorn_5.2.2.2.2.1
theorem dX11_isTorn_85 : decode cX11_isTorn 85 = .ok (.aload_n 2, 1) := dcX11_isTorn_5.2.2.2.2.2.1
theorem dX11_isTorn_86 : decode cX11_isTorn 86 = .ok (.getfield 144, 3) := dcX11_isTorn_5.2.2.2.2.2.2.1
theorem dX11_isTorn_89 : decode cX11_isTorn 89 = .ok (.iload 6, 2) := dcX11_isTorn_5.2.2.2.2.2.2.2
theorem dcX11_isTorn_6 : (decode cX11_isTorn 91 = .ok (.invokestatic 281, 3)) ∧ (decode cX11_isTorn 94 = .ok (.aload_n 0, 1)) ∧ (decode cX11_isTorn 95 = .ok (.getfield 144, 3)) ∧ (decode cX11_isTorn 98 = .ok (.iload 9, 2)) ∧ (decode cX11_isTorn 100 = .ok (.invokestatic 281, 3)) ∧ (decode cX11_isTorn 103 = .ok (.if_icmp .eq 5, 3)) ∧ (decode cX11_isTorn 106 = .ok (.iconst 1, 1)) ∧ (decode cX11_isTorn 107 = .ok (.ireturn, 1)) := by decide +kernel
theorem dX11_isTorn_91 : decode cX11_isTorn 91 = .ok (.invokestatic 281, 3) := dcX11_isTorn_6.1
theorem dX11_isTorn_94 : decode cX11_isTorn 94 = .ok (.aload_n 0, 1) := dcX11_isTorn_6.2.1
theorem dX11_isTorn_95 : decode cX11_isTorn 95 = .ok (.getfield 144, 3) := dcX11_isTorn_6.2.2.1
theorem dX11_isTorn_98 : decode cX11_isTorn 98 = .ok (.iload 9, 2) := dcX11_isTorn_6.2.2.2.1
theorem dX11_isTorn_100 : decode cX11_isTorn 100 = .ok (.invokestatic 281, 3) := dcX11_isTorn_6.2.2.2.2.1
theorem dX11_isTorn_103 : decode cX11_isTorn 103 = .ok (.if_icmp .eq 5, 3) := dcX11_isTorn_6.2.2.2.2.2.1
theorem dX11_isTorn_106 : decode cX11_isTorn 106 = .ok (.iconst 1, 1) := dcX11_isTorn_6.2.2.2.2.2.2.1
theorem dX11_isTorn_107 : decode cX11_isTorn 107 = .ok (.ireturn, 1) := dcX11_isTorn_6.2.2.2.2.2.2.2
theorem dcX11_isTorn_7 : (decode cX11_isTorn 108 = .ok (.iinc 6 1, 3)) ∧ (decode cX11_isTorn 111 = .ok (.goto (-108), 3)) ∧ (decode cX11_isTorn 114 = .ok (.iconst 0, 1)) ∧ (decode cX11_isTorn 115 = .ok (.ireturn, 1)) := by decide +kernel
theorem dX11_isTorn_108 : decode cX11_isTorn 108 = .ok (.iinc 6 1, 3) := dcX11_isTorn_7.1
theorem dX11_isTorn_111 : decode cX11_isTorn 111 = .ok (.goto (-108), 3) := dcX11_isTorn_7.2.1
theorem dX11_isTorn_114 : decode cX11_isTorn 114 = .ok (.iconst 0, 1) := dcX11_isTorn_7.2.2.1
theorem dX11_isTorn_115 : decode cX11_isTorn 115 = .ok (.ireturn, 1) := dcX11_isTorn_7.2.2.2
theorem dcX11_refusalOf_0 : (decode cX11_refusalOf 0 = .ok (.iload_n 1, 1)) ∧ (decode cX11_refusalOf 1 = .ok (.invokestatic 230, 3)) ∧ (decode cX11_refusalOf 4 = .ok (.ifCond .ne 6, 3)) ∧ (decode cX11_refusalOf 7 = .ok (.bipush (-2), 2)) ∧ (decode cX11_refusalOf 9 = .ok (.ireturn, 1)) ∧ (decode cX11_refusalOf 10 = .ok (.aload_n 0, 1)) ∧ (decode cX11_refusalOf 11 = .ok (.getfield 69, 3)) ∧ (decode cX11_refusalOf 14 = .ok (.iload_n 1, 1)) := by decide +kernel
theorem dX11_refusalOf_0 : decode cX11_refusalOf 0 = .ok (.iload_n 1, 1) := dcX11_refusalOf_0.1
theorem dX11_refusalOf_1 : decode cX11_refusalOf 1 = .ok (.invokestatic 230, 3) := dcX11_refusalOf_0.2.1
theorem dX11_refusalOf_4 : decode cX11_refusalOf 4 = .ok (.ifCond .ne 6, 3) := dcX11_refusalOf_0.2.2.1
theorem dX11_refusalOf_7 : decode cX11_refusalOf 7 = .ok (.bipush (-2), 2) := dcX11_refusalOf_0.2.2.2.1
theorem dX11_refusalOf_9 : decode cX11_refusalOf 9 = .ok (.ireturn, 1) := dcX11_refusalOf_0.2.2.2.2.1
theorem dX11_refusalOf_10 : decode cX11_refusalOf 10 = .ok (.aload_n 0, 1) := dcX11_refusalOf_0.2.2.2.2.2.1
theorem dX11_refusalOf_11 : decode cX11_refusalOf 11 = .ok (.getfield 69, 3) := dcX11_refusalOf_0.2.2.2.2.2.2.1
theorem dX11_refusalOf_14 : decode cX11_refusalOf 14 = .ok (.iload_n 1, 1) := dcX11_refusalOf_0.2.2.2.2.2.2.2
theorem dcX11_refusalOf_1 : (decode cX11_refusalOf 15 = .ok (.aaload, 1)) ∧ (decode cX11_refusalOf 16 = .ok (.getfield 255, 3)) ∧ (decode cX11_refusalOf 19 = .ok (.iconst (-1), 1)) ∧ (decode cX11_refusalOf 20 = .ok (.if_icmp .ne 6, 3)) ∧ (decode cX11_refusalOf 23 = .ok (.bipush (-11), 2)) ∧ (decode cX11_refusalOf 25 = .ok (.ireturn, 1)) ∧ (decode cX11_refusalOf 26 = .ok (.aload_n 0, 1)) ∧ (decode cX11_refusalOf 27 = .ok (.getfield 69, 3)) := by decide +kernel
theorem dX11_refusalOf_15 : decode cX11_refusalOf 15 = .ok (.aaload, 1) := dcX11_refusalOf_1.1
theorem dX11_refusalOf_16 : decode cX11_refusalOf 16 = .ok (.getfield 255, 3) := dcX11_refusalOf_1.2.1
theorem dX11_refusalOf_19 : decode cX11_refusalOf 19 = .ok (.iconst (-1), 1) := dcX11_refusalOf_1.2.2.1
theorem dX11_refusalOf_20 : decode cX11_refusalOf 20 = .ok (.if_icmp .ne 6, 3) := dcX11_refusalOf_1.2.2.2.1
theorem dX11_refusalOf_23 : decode cX11_refusalOf 23 = .ok (.bipush (-11), 2) := dcX11_refusalOf_1.2.2.2.2.1
theorem dX11_refusalOf_25 : decode cX11_refusalOf 25 = .ok (.ireturn, 1) := dcX11_refusalOf_1.2.2.2.2.2.1
theorem dX11_refusalOf_26 : decode cX11_refusalOf 26 = .ok (.aload_n 0, 1) := dcX11_refusalOf_1.2.2.2.2.2.2.1
theorem dX11_refusalOf_27 : decode cX11_refusalOf 27 = .ok (.getfield 69, 3) := dcX11_refusalOf_1.2.2.2.2.2.2.2
theorem dcX11_refusalOf_2 : (decode cX11_refusalOf 30 = .ok (.iload_n 1, 1)) ∧ (decode cX11_refusalOf 31 = .ok (.aaload, 1)) ∧ (decode cX11_refusalOf 32 = .ok (.getfield 229, 3)) ∧ (decode cX11_refusalOf 35 = .ok (.bipush 20, 2)) ∧ (decode cX11_refusalOf 37 = .ok (.if_icmp .le 6, 3)) ∧ (decode cX11_refusalOf 40 = .ok (.bipush (-2), 2)) ∧ (decode cX11_refusalOf 42 = .ok (.ireturn, 1)) ∧ (decode cX11_refusalOf 43 = .ok (.aload_n 0, 1)) := by decide +kernel
theorem dX11_refusalOf_30 : decode cX11_refusalOf 30 = .ok (.iload_n 1, 1) := dcX11_refusalOf_2.1
theorem dX11_refusalOf_31 : decode cX11_refusalOf 31 = .ok (.aaload, 1) := dcX11_refusalOf_2.2.1
theorem dX11_refusalOf_32 : decode cX11_refusalOf 32 = .ok (.getfield 229, 3) := dcX11_refusalOf_2.2.2.1
theorem dX11_refusalOf_35 : decode cX11_refusalOf 35 = .ok (.bipush 20, 2) := dcX11_refusalOf_2.2.2.2.1
theorem dX11_refusalOf_37 : decode cX11_refusalOf 37 = .ok (.if_icmp .le 6, 3) := dcX11_refusalOf_2.2.2.2.2.1
theorem dX11_refusalOf_40 : decode cX11_refusalOf 40 = .ok (.bipush (-2), 2) := dcX11_refusalOf_2.2.2.2.2.2.1
theorem dX11_refusalOf_42 : decode cX11_refusalOf 42 = .ok (.ireturn, 1) := dcX11_refusalOf_2.2.2.2.2.2.2.1
theorem dX11_refusalOf_43 : decode cX11_refusalOf 43 = .ok (.aload_n 0, 1) := dcX11_refusalOf_2.2.2.2.2.2.2.2
theorem dcX11_refusalOf_3 : (decode cX11_refusalOf 44 = .ok (.iload_n 2, 1)) ∧ (decode cX11_refusalOf 45 = .ok (.invokevirtual 125, 3)) ∧ (decode cX11_refusalOf 48 = .ok (.ifCond .eq 7, 3)) ∧ (decode cX11_refusalOf 51 = .ok (.iconst 0, 1)) ∧ (decode cX11_refusalOf 52 = .ok (.goto 5, 3)) ∧ (decode cX11_refusalOf 55 = .ok (.bipush (-5), 2)) ∧ (decode cX11_refusalOf 57 = .ok (.ireturn, 1)) := by decide +kernel
theorem dX11_refusalOf_44 : decode cX11_refusalOf 44 = .ok (.iload_n 2, 1) := dcX11_refusalOf_3.1
theorem dX11_refusalOf_45 : decode cX11_refusalOf 45 = .ok (.invokevirtual 125, 3) := dcX11_refusalOf_3.2.1
theorem dX11_refusalOf_48 : decode cX11_refusalOf 48 = .ok (.ifCond .eq 7, 3) := dcX11_refusalOf_3.2.2.1
theorem dX11_refusalOf_51 : decode cX11_refusalOf 51 = .ok (.iconst 0, 1) := dcX11_refusalOf_3.2.2.2.1
theorem dX11_refusalOf_52 : decode cX11_refusalOf 52 = .ok (.goto 5, 3) := dcX11_refusalOf_3.2.2.2.2.1
theorem dX11_refusalOf_55 : decode cX11_refusalOf 55 = .ok (.bipush (-5), 2) := dcX11_refusalOf_3.2.2.2.2.2.1
theorem dX11_refusalOf_57 : decode cX11_refusalOf 57 = .ok (.ireturn, 1) := dcX11_refusalOf_3.2.2.2.2.2.2
theorem dcX11_firstOtherwise_0 : (decode cX11_firstOtherwise 0 = .ok (.iconst 0, 1)) ∧ (decode cX11_firstOtherwise 1 = .ok (.istore 4, 2)) ∧ (decode cX11_firstOtherwise 3 = .ok (.iload 4, 2)) ∧ (decode cX11_firstOtherwise 5 = .ok (.aload_n 1, 1)) ∧ (decode cX11_firstOtherwise 6 = .ok (.getfield 229, 3)) ∧ (decode cX11_firstOtherwise 9 = .ok (.if_icmp .ge 46, 3)) ∧ (decode cX11_firstOtherwise 12 = .ok (.aload_n 2, 1)) ∧ (decode cX11_firstOtherwise 13 = .ok (.aload_n 3, 1)) := by decide +kernel
theorem dX11_firstOtherwise_0 : decode cX11_firstOtherwise 0 = .ok (.iconst 0, 1) := dcX11_firstOtherwise_0.1
theorem dX11_firstOtherwise_1 : decode cX11_firstOtherwise 1 = .ok (.istore 4, 2) := dcX11_firstOtherwise_0.2.1
theorem dX11_firstOtherwise_3 : decode cX11_firstOtherwise 3 = .ok (.iload 4, 2) := dcX11_firstOtherwise_0.2.2.1
theorem dX11_firstOtherwise_5 : decode cX11_firstOtherwise 5 = .ok (.aload_n 1, 1) := dcX11_firstOtherwise_0.2.2.2.1
theorem dX11_firstOtherwise_6 : decode cX11_firstOtherwise 6 = .ok (.getfield 229, 3) := dcX11_firstOtherwise_0.2.2.2.2.1
theorem dX11_firstOtherwise_9 : decode cX11_firstOtherwise 9 = .ok (.if_icmp .ge 46, 3) := dcX11_firstOtherwise_0.2.2.2.2.2.1
theorem dX11_firstOtherwise_12 : decode cX11_firstOtherwise 12 = .ok (.aload_n 2, 1) := dcX11_firstOtherwise_0.2.2.2.2.2.2.1
theorem dX11_firstOtherwise_13 : decode cX11_firstOtherwise 13 = .ok (.aload_n 3, 1) := dcX11_firstOtherwise_0.2.2.2.2.2.2.2
theorem dcX11_firstOtherwise_1 : (decode cX11_firstOtherwise 14 = .ok (.aload_n 0, 1)) ∧ (decode cX11_firstOtherwise 15 = .ok (.getfield 84, 3)) ∧ (decode cX11_firstOtherwise 18 = .ok (.iload 4, 2)) ∧ (decode cX11_firstOtherwise 20 = .ok (.iadd, 1)) ∧ (decode cX11_firstOtherwise 21 = .ok (.invokevirtual 164, 3)) ∧ (decode cX11_firstOtherwise 24 = .ok (.aload_n 1, 1)) ∧ (decode cX11_firstOtherwise 25 = .ok (.getfield 261, 3)) ∧ (decode cX11_firstOtherwise 28 = .ok (.iload 4, 2)) := by decide +kernel
theorem dX11_firstOtherwise_14 : decode cX11_firstOtherwise 14 = .ok (.aload_n 0, 1) := dcX11_firstOtherwise_1.1
theorem dX11_firstOtherwise_15 : decode cX11_firstOtherwise 15 = .ok (.getfield 84, 3) := dcX11_firstOtherwise_1.2.1
theorem dX11_firstOtherwise_18 : decode cX11_firstOtherwise 18 = .ok (.iload 4, 2) := dcX11_firstOtherwise_1.2.2.1
theorem dX11_firstOtherwise_20 : decode cX11_firstOtherwise 20 = .ok (.iadd, 1) := dcX11_firstOtherwise_1.2.2.2.1
theorem dX11_firstOtherwise_21 : decode cX11_firstOtherwise 21 = .ok (.invokevirtual 164, 3) := dcX11_firstOtherwise_1.2.2.2.2.1
theorem dX11_firstOtherwise_24 : decode cX11_firstOtherwise 24 = .ok (.aload_n 1, 1) := dcX11_firstOtherwise_1.2.2.2.2.2.1
theorem dX11_firstOtherwise_25 : decode cX11_firstOtherwise 25 = .ok (.getfield 261, 3) := dcX11_firstOtherwise_1.2.2.2.2.2.2.1
theorem dX11_firstOtherwise_28 : decode cX11_firstOtherwise 28 = .ok (.iload 4, 2) := dcX11_firstOtherwise_1.2.2.2.2.2.2.2
theorem dcX11_firstOtherwise_2 : (decode cX11_firstOtherwise 30 = .ok (.iaload, 1)) ∧ (decode cX11_firstOtherwise 31 = .ok (.if_icmp .eq 6, 3)) ∧ (decode cX11_firstOtherwise 34 = .ok (.iload 4, 2)) ∧ (decode cX11_firstOtherwise 36 = .ok (.ireturn, 1)) ∧ (decode cX11_firstOtherwise 37 = .ok (.aload_n 2, 1)) ∧ (decode cX11_firstOtherwise 38 = .ok (.aload_n 3, 1)) ∧ (decode cX11_firstOtherwise 39 = .ok (.aload_n 0, 1)) ∧ (decode cX11_firstOtherwise 40 = .ok (.getfield 84, 3)) := by decide +kernel
theorem dX11_firstOtherwise_30 : decode cX11_firstOtherwise 30 = .ok (.iaload, 1) := dcX11_firstOtherwise_2.1
theorem dX11_firstOtherwise_31 : decode cX11_firstOtherwise 31 = .ok (.if_icmp .eq 6, 3) := dcX11_firstOtherwise_2.2.1
theorem dX11_firstOtherwise_34 : decode cX11_firstOtherwise 34 = .ok (.iload 4, 2) := dcX11_firstOtherwise_2.2.2.1
theorem dX11_firstOtherwise_36 : decode cX11_firstOtherwise 36 = .ok (.ireturn, 1) := dcX11_firstOtherwise_2.2.2.2.1
theorem dX11_firstOtherwise_37 : decode cX11_firstOtherwise 37 = .ok (.aload_n 2, 1) := dcX11_firstOtherwise_2.2.2.2.2.1
theorem dX11_firstOtherwise_38 : decode cX11_firstOtherwise 38 = .ok (.aload_n 3, 1) := dcX11_firstOtherwise_2.2.2.2.2.2.1
theorem dX11_firstOtherwise_39 : decode cX11_firstOtherwise 39 = .ok (.aload_n 0, 1) := dcX11_firstOtherwise_2.2.2.2.2.2.2.1
theorem dX11_firstOtherwise_40 : decode cX11_firstOtherwise 40 = .ok (.getfield 84, 3) := dcX11_firstOtherwise_2.2.2.2.2.2.2.2
theorem dcX11_firstOtherwise_3 : (decode cX11_firstOtherwise 43 = .ok (.iload 4, 2)) ∧ (decode cX11_firstOtherwise 45 = .ok (.iadd, 1)) ∧ (decode cX11_firstOtherwise 46 = .ok (.invokevirtual 177, 3)) ∧ (decode cX11_firstOtherwise 49 = .ok (.iinc 4 1, 3)) ∧ (decode cX11_firstOtherwise 52 = .ok (.goto (-49), 3)) ∧ (decode cX11_firstOtherwise 55 = .ok (.iconst (-1), 1)) ∧ (decode cX11_firstOtherwise 56 = .ok (.ireturn, 1)) := by decide +kernel
theorem dX11_firstOtherwise_43 : decode cX11_firstOtherwise 43 = .ok (.iload 4, 2) := dcX11_firstOtherwise_3.1
theorem dX11_firstOtherwise_45 : decode cX11_firstOtherwise 45 = .ok (.iadd, 1) := dcX11_firstOtherwise_3.2.1
theorem dX11_firstOtherwise_46 : decode cX11_firstOtherwise 46 = .ok (.invokevirtual 177, 3) := dcX11_firstOtherwise_3.2.2.1
theorem dX11_firstOtherwise_49 : decode cX11_firstOtherwise 49 = .ok (.iinc 4 1, 3) := dcX11_firstOtherwise_3.2.2.2.1
theorem dX11_firstOtherwise_52 : decode cX11_firstOtherwise 52 = .ok (.goto (-49), 3) := dcX11_firstOtherwise_3.2.2.2.2.1
theorem dX11_firstOtherwise_55 : decode cX11_firstOtherwise 55 = .ok (.iconst (-1), 1) := dcX11_firstOtherwise_3.2.2.2.2.2.1
theorem dX11_firstOtherwise_56 : decode cX11_firstOtherwise 56 = .ok (.ireturn, 1) := dcX11_firstOtherwise_3.2.2.2.2.2.2
theorem dcX11_isRightElsewhere_0 : (decode cX11_isRightElsewhere 0 = .ok (.aload_n 1, 1)) ∧ (decode cX11_isRightElsewhere 1 = .ok (.invokevirtual 226, 3)) ∧ (decode cX11_isRightElsewhere 4 = .ok (.ldc_w 284, 3)) ∧ (decode cX11_isRightElsewhere 7 = .ok (.iand, 1)) ∧ (decode cX11_isRightElsewhere 8 = .ok (.ifCond .eq 5, 3)) ∧ (decode cX11_isRightElsewhere 11 = .ok (.iconst 0, 1)) ∧ (decode cX11_isRightElsewhere 12 = .ok (.ireturn, 1)) ∧ (decode cX11_isRightElsewhere 13 = .ok (.aload_n 0, 1)) := by decide +kernel
theorem dX11_isRightElsewhere_0 : decode cX11_isRightElsewhere 0 = .ok (.aload_n 1, 1) := dcX11_isRightElsewhere_0.1
theorem dX11_isRightElsewhere_1 : decode cX11_isRightElsewhere 1 = .ok (.invokevirtual 226, 3) := dcX11_isRightElsewhere_0.2.1
theorem dX11_isRightElsewhere_4 : decode cX11_isRightElsewhere 4 = .ok (.ldc_w 284, 3) := dcX11_isRightElsewhere_0.2.2.1
theorem dX11_isRightElsewhere_7 : decode cX11_isRightElsewhere 7 = .ok (.iand, 1) := dcX11_isRightElsewhere_0.2.2.2.1
theorem dX11_isRightElsewhere_8 : decode cX11_isRightElsewhere 8 = .ok (.ifCond .eq 5, 3) := dcX11_isRightElsewhere_0.2.2.2.2.1
theorem dX11_isRightElsewhere_11 : decode cX11_isRightElsewhere 11 = .ok (.iconst 0, 1) := dcX11_isRightElsewhere_0.2.2.2.2.2.1
theorem dX11_isRightElsewhere_12 : decode cX11_isRightElsewhere 12 = .ok (.ireturn, 1) := dcX11_isRightElsewhere_0.2.2.2.2.2.2.1
theorem dX11_isRightElsewhere_13 : decode cX11_isRightElsewhere 13 = .ok (.aload_n 0, 1) := dcX11_isRightElsewhere_0.2.2.2.2.2.2.2
theorem dcX11_isRightElsewhere_1 : (decode cX11_isRightElsewhere 14 = .ok (.iload_n 2, 1)) ∧ (decode cX11_isRightElsewhere 15 = .ok (.invokevirtual 184, 3)) ∧ (decode cX11_isRightElsewhere 18 = .ok (.astore 4, 2)) ∧ (decode cX11_isRightElsewhere 20 = .ok (.iconst 0, 1)) ∧ (decode cX11_isRightElsewhere 21 = .ok (.istore 5, 2)) ∧ (decode cX11_isRightElsewhere 23 = .ok (.iload 5, 2)) ∧ (decode cX11_isRightElsewhere 25 = .ok (.bipush 16, 2)) ∧ (decode cX11_isRightElsewhere 27 = .ok (.if_icmp .ge 29, 3)) := by decide +kernel
theorem dX11_isRightElsewhere_14 : decode cX11_isRightElsewhere 14 = .ok (.iload_n 2, 1) := dcX11_isRightElsewhere_1.1
theorem dX11_isRightElsewhere_15 : decode cX11_isRightElsewhere 15 = .ok (.invokevirtual 184, 3) := dcX11_isRightElsewhere_1.2.1
theorem dX11_isRightElsewhere_18 : decode cX11_isRightElsewhere 18 = .ok (.astore 4, 2) := dcX11_isRightElsewhere_1.2.2.1
theorem dX11_isRightElsewhere_20 : decode cX11_isRightElsewhere 20 = .ok (.iconst 0, 1) := dcX11_isRightElsewhere_1.2.2.2.1
theorem dX11_isRightElsewhere_21 : decode cX11_isRightElsewhere 21 = .ok (.istore 5, 2) := dcX11_isRightElsewhere_1.2.2.2.2.1
theorem dX11_isRightElsewhere_23 : decode cX11_isRightElsewhere 23 = .ok (.iload 5, 2) := dcX11_isRightElsewhere_1.2.2.2.2.2.1
theorem dX11_isRightElsewhere_25 : decode cX11_isRightElsewhere 25 = .ok (.bipush 16, 2) := dcX11_isRightElsewhere_1.2.2.2.2.2.2.1
theorem dX11_isRightElsewhere_27 : decode cX11_isRightElsewhere 27 = .ok (.if_icmp .ge 29, 3) := dcX11_isRightElsewhere_1.2.2.2.2.2.2.2
theorem dcX11_isRightElsewhere_2 : (decode cX11_isRightElsewhere 30 = .ok (.iload 5, 2)) ∧ (decode cX11_isRightElsewhere 32 = .ok (.iload_n 3, 1)) ∧ (decode cX11_isRightElsewhere 33 = .ok (.if_icmp .eq 17, 3)) ∧ (decode cX11_isRightElsewhere 36 = .ok (.aload_n 0, 1)) ∧ (decode cX11_isRightElsewhere 37 = .ok (.aload_n 1, 1)) ∧ (decode cX11_isRightElsewhere 38 = .ok (.aload 4, 2)) ∧ (decode cX11_isRightElsewhere 40 = .ok (.iload 5, 2)) ∧ (decode cX11_isRightElsewhere 42 = .ok (.invokevirtual 222, 3)) := by decide +kernel
theorem dX11_isRightElsewhere_30 : decode cX11_isRightElsewhere 30 = .ok (.iload 5, 2) := dcX11_isRightElsewhere_2.1
theorem dX11_isRightElsewhere_32 : decode cX11_isRightElsewhere 32 = .ok (.iload_n 3, 1) := dcX11_isRightElsewhere_2.2.1
theorem dX11_isRightElsewhere_33 : decode cX11_isRightElsewhere 33 = .ok (.if_icmp .eq 17, 3) := dcX11_isRightElsewhere_2.2.2.1
theorem dX11_isRightElsewhere_36 : decode cX11_isRightElsewhere 36 = .ok (.aload_n 0, 1) := dcX11_isRightElsewhere_2.2.2.2.1
theorem dX11_isRightElsewhere_37 : decode cX11_isRightElsewhere 37 = .ok (.aload_n 1, 1) := dcX11_isRightElsewhere_2.2.2.2.2.1
theorem dX11_isRightElsewhere_38 : decode cX11_isRightElsewhere 38 = .ok (.aload 4, 2) := dcX11_isRightElsewhere_2.2.2.2.2.2.1
theorem dX11_isRightElsewhere_40 : decode cX11_isRightElsewhere 40 = .ok (.iload 5, 2) := dcX11_isRightElsewhere_2.2.2.2.2.2.2.1
theorem dX11_isRightElsewhere_42 : decode cX11_isRightElsewhere 42 = .ok (.invokevirtual 222, 3) := dcX11_isRightElsewhere_2.2.2.2.2.2.2.2
theorem dcX11_isRightElsewhere_3 : (decode cX11_isRightElsewhere 45 = .ok (.ifCond .ne 5, 3)) ∧ (decode cX11_isRightElsewhere 48 = .ok (.iconst 0, 1)) ∧ (decode cX11_isRightElsewhere 49 = .ok (.ireturn, 1)) ∧ (decode cX11_isRightElsewhere 50 = .ok (.iinc 5 1, 3)) ∧ (decode cX11_isRightElsewhere 53 = .ok (.goto (-30), 3)) ∧ (decode cX11_isRightElsewhere 56 = .ok (.iconst 1, 1)) ∧ (decode cX11_isRightElsewhere 57 = .ok (.ireturn, 1)) := by decide +kernel
theorem dX11_isRightElsewhere_45 : decode cX11_isRightElsewhere 45 = .ok (.ifCond .ne 5, 3) := dcX11_isRightElsewhere_3.1
theorem dX11_isRightElsewhere_48 : decode cX11_isRightElsewhere 48 = .ok (.iconst 0, 1) := dcX11_isRightElsewhere_3.2.1
theorem dX11_isRightElsewhere_49 : decode cX11_isRightElsewhere 49 = .ok (.ireturn, 1) := dcX11_isRightElsewhere_3.2.2.1
theorem dX11_isRightElsewhere_50 : decode cX11_isRightElsewhere 50 = .ok (.iinc 5 1, 3) := dcX11_isRightElsewhere_3.2.2.2.1
theorem dX11_isRightElsewhere_53 : decode cX11_isRightElsewhere 53 = .ok (.goto (-30), 3) := dcX11_isRightElsewhere_3.2.2.2.2.1
theorem dX11_isRightElsewhere_56 : decode cX11_isRightElsewhere 56 = .ok (.iconst 1, 1) := dcX11_isRightElsewhere_3.2.2.2.2.2.1
theorem dX11_isRightElsewhere_57 : decode cX11_isRightElsewhere 57 = .ok (.ireturn, 1) := dcX11_isRightElsewhere_3.2.2.2.2.2.2
theorem dcX11_isRightAt_0 : (decode cX11_isRightAt 0 = .ok (.iconst 0, 1)) ∧ (decode cX11_isRightAt 1 = .ok (.istore 4, 2)) ∧ (decode cX11_isRightAt 3 = .ok (.iload 4, 2)) ∧ (decode cX11_isRightAt 5 = .ok (.aload_n 1, 1)) ∧ (decode cX11_isRightAt 6 = .ok (.getfield 229, 3)) ∧ (decode cX11_isRightAt 9 = .ok (.if_icmp .ge 90, 3)) ∧ (decode cX11_isRightAt 12 = .ok (.aload_n 2, 1)) ∧ (decode cX11_isRightAt 13 = .ok (.getfield 144, 3)) := by decide +kernel
theorem dX11_isRightAt_0 : decode cX11_isRightAt 0 = .ok (.iconst 0, 1) := dcX11_isRightAt_0.1
theorem dX11_isRightAt_1 : decode cX11_isRightAt 1 = .ok (.istore 4, 2) := dcX11_isRightAt_0.2.1
theorem dX11_isRightAt_3 : decode cX11_isRightAt 3 = .ok (.iload 4, 2) := dcX11_isRightAt_0.2.2.1
theorem dX11_isRightAt_5 : decode cX11_isRightAt 5 = .ok (.aload_n 1, 1) := dcX11_isRightAt_0.2.2.2.1
theorem dX11_isRightAt_6 : decode cX11_isRightAt 6 = .ok (.getfield 229, 3) := dcX11_isRightAt_0.2.2.2.2.1
theorem dX11_isRightAt_9 : decode cX11_isRightAt 9 = .ok (.if_icmp .ge 90, 3) := dcX11_isRightAt_0.2.2.2.2.2.1
theorem dX11_isRightAt_12 : decode cX11_isRightAt 12 = .ok (.aload_n 2, 1) := dcX11_isRightAt_0.2.2.2.2.2.2.1
theorem dX11_isRightAt_13 : decode cX11_isRightAt 13 = .ok (.getfield 144, 3) := dcX11_isRightAt_0.2.2.2.2.2.2.2
theorem dcX11_isRightAt_1 : (decode cX11_isRightAt 16 = .ok (.iload_n 3, 1)) ∧ (decode cX11_isRightAt 17 = .ok (.invokestatic 281, 3)) ∧ (decode cX11_isRightAt 20 = .ok (.ifCond .eq 31, 3)) ∧ (decode cX11_isRightAt 23 = .ok (.aload_n 2, 1)) ∧ (decode cX11_isRightAt 24 = .ok (.aload_n 0, 1)) ∧ (decode cX11_isRightAt 25 = .ok (.getfield 55, 3)) ∧ (decode cX11_isRightAt 28 = .ok (.aload_n 0, 1)) ∧ (decode cX11_isRightAt 29 = .ok (.getfield 93, 3)) := by decide +kernel
theorem dX11_isRightAt_16 : decode cX11_isRightAt 16 = .ok (.iload_n 3, 1) := dcX11_isRightAt_1.1
theorem dX11_isRightAt_17 : decode cX11_isRightAt 17 = .ok (.invokestatic 281, 3) := dcX11_isRightAt_1.2.1
theorem dX11_isRightAt_20 : decode cX11_isRightAt 20 = .ok (.ifCond .eq 31, 3) := dcX11_isRightAt_1.2.2.1
theorem dX11_isRightAt_23 : decode cX11_isRightAt 23 = .ok (.aload_n 2, 1) := dcX11_isRightAt_1.2.2.2.1
theorem dX11_isRightAt_24 : decode cX11_isRightAt 24 = .ok (.aload_n 0, 1) := dcX11_isRightAt_1.2.2.2.2.1
theorem dX11_isRightAt_25 : decode cX11_isRightAt 25 = .ok (.getfield 55, 3) := dcX11_isRightAt_1.2.2.2.2.2.1
theorem dX11_isRightAt_28 : decode cX11_isRightAt 28 = .ok (.aload_n 0, 1) := dcX11_isRightAt_1.2.2.2.2.2.2.1
theorem dX11_isRightAt_29 : decode cX11_isRightAt 29 = .ok (.getfield 93, 3) := dcX11_isRightAt_1.2.2.2.2.2.2.2
theorem dcX11_isRightAt_2 : (decode cX11_isRightAt 32 = .ok (.aaload, 1)) ∧ (decode cX11_isRightAt 33 = .ok (.iload_n 3, 1)) ∧ (decode cX11_isRightAt 34 = .ok (.aload_n 0, 1)) ∧ (decode cX11_isRightAt 35 = .ok (.getfield 84, 3)) ∧ (decode cX11_isRightAt 38 = .ok (.iload 4, 2)) ∧ (decode cX11_isRightAt 40 = .ok (.iadd, 1)) ∧ (decode cX11_isRightAt 41 = .ok (.invokevirtual 285, 3)) ∧ (decode cX11_isRightAt 44 = .ok (.ifCond .eq 7, 3)) := by decide +kernel
theorem dX11_isRightAt_32 : decode cX11_isRightAt 32 = .ok (.aaload, 1) := dcX11_isRightAt_2.1
theorem dX11_isRightAt_33 : decode cX11_isRightAt 33 = .ok (.iload_n 3, 1) := dcX11_isRightAt_2.2.1
theorem dX11_isRightAt_34 : decode cX11_isRightAt 34 = .ok (.aload_n 0, 1) := dcX11_isRightAt_2.2.2.1
theorem dX11_isRightAt_35 : decode cX11_isRightAt 35 = .ok (.getfield 84, 3) := dcX11_isRightAt_2.2.2.2.1
theorem dX11_isRightAt_38 : decode cX11_isRightAt 38 = .ok (.iload 4, 2) := dcX11_isRightAt_2.2.2.2.2.1
theorem dX11_isRightAt_40 : decode cX11_isRightAt 40 = .ok (.iadd, 1) := dcX11_isRightAt_2.2.2.2.2.2.1
theorem dX11_isRightAt_41 : decode cX11_isRightAt 41 = .ok (.invokevirtual 285, 3) := dcX11_isRightAt_2.2.2.2.2.2.2.1
theorem dX11_isRightAt_44 : decode cX11_isRightAt 44 = .ok (.ifCond .eq 7, 3) := dcX11_isRightAt_2.2.2.2.2.2.2.2
theorem dcX11_isRightAt_3 : (decode cX11_isRightAt 47 = .ok (.iconst 1, 1)) ∧ (decode cX11_isRightAt 48 = .ok (.goto 4, 3)) ∧ (decode cX11_isRightAt 51 = .ok (.iconst 0, 1)) ∧ (decode cX11_isRightAt 52 = .ok (.istore 5, 2)) ∧ (decode cX11_isRightAt 54 = .ok (.iload 5, 2)) ∧ (decode cX11_isRightAt 56 = .ok (.aload_n 1, 1)) ∧ (decode cX11_isRightAt 57 = .ok (.getfield 261, 3)) ∧ (decode cX11_isRightAt 60 = .ok (.iload 4, 2)) := by decide +kernel
theorem dX11_isRightAt_47 : decode cX11_isRightAt 47 = .ok (.iconst 1, 1) := dcX11_isRightAt_3.1
theorem dX11_isRightAt_48 : decode cX11_isRightAt 48 = .ok (.goto 4, 3) := dcX11_isRightAt_3.2.1
theorem dX11_isRightAt_51 : decode cX11_isRightAt 51 = .ok (.iconst 0, 1) := dcX11_isRightAt_3.2.2.1
theorem dX11_isRightAt_52 : decode cX11_isRightAt 52 = .ok (.istore 5, 2) := dcX11_isRightAt_3.2.2.2.1
theorem dX11_isRightAt_54 : decode cX11_isRightAt 54 = .ok (.iload 5, 2) := dcX11_isRightAt_3.2.2.2.2.1
theorem dX11_isRightAt_56 : decode cX11_isRightAt 56 = .ok (.aload_n 1, 1) := dcX11_isRightAt_3.2.2.2.2.2.1
theorem dX11_isRightAt_57 : decode cX11_isRightAt 57 = .ok (.getfield 261, 3) := dcX11_isRightAt_3.2.2.2.2.2.2.1
theorem dX11_isRightAt_60 : decode cX11_isRightAt 60 = .ok (.iload 4, 2) := dcX11_isRightAt_3.2.2.2.2.2.2.2
theorem dcX11_isRightAt_4 : (decode cX11_isRightAt 62 = .ok (.iaload, 1)) ∧ (decode cX11_isRightAt 63 = .ok (.iload_n 3, 1)) ∧ (decode cX11_isRightAt 64 = .ok (.invokestatic 281, 3)) ∧ (decode cX11_isRightAt 67 = .ok (.if_icmp .eq 5, 3)) ∧ (decode cX11_isRightAt 70 = .ok (.iconst 0, 1)) ∧ (decode cX11_isRightAt 71 = .ok (.ireturn, 1)) ∧ (decode cX11_isRightAt 72 = .ok (.aload_n 2, 1)) ∧ (decode cX11_isRightAt 73 = .ok (.aload_n 0, 1)) := by decide +kernel
theorem dX11_isRightAt_62 : decode cX11_isRightAt 62 = .ok (.iaload, 1) := dcX11_isRightAt_4.1
theorem dX11_isRightAt_63 : decode cX11_isRightAt 63 = .ok (.iload_n 3, 1) := dcX11_isRightAt_4.2.1
theorem dX11_isRightAt_64 : decode cX11_isRightAt 64 = .ok (.invokestatic 281, 3) := dcX11_isRightAt_4.2.2.1
theorem dX11_isRightAt_67 : decode cX11_isRightAt 67 = .ok (.if_icmp .eq 5, 3) := dcX11_isRightAt_4.2.2.2.1
theorem dX11_isRightAt_70 : decode cX11_isRightAt 70 = .ok (.iconst 0, 1) := dcX11_isRightAt_4.2.2.2.2.1
theorem dX11_isRightAt_71 : decode cX11_isRightAt 71 = .ok (.ireturn, 1) := dcX11_isRightAt_4.2.2.2.2.2.1
theorem dX11_isRightAt_72 : decode cX11_isRightAt 72 = .ok (.aload_n 2, 1) := dcX11_isRightAt_4.2.2.2.2.2.2.1
theorem dX11_isRightAt_73 : decode cX11_isRightAt 73 = .ok (.aload_n 0, 1) := dcX11_isRightAt_4.2.2.2.2.2.2.2
theorem dcX11_isRightAt_5 : (decode cX11_isRightAt 74 = .ok (.getfield 55, 3)) ∧ (decode cX11_isRightAt 77 = .ok (.aload_n 0, 1)) ∧ (decode cX11_isRightAt 78 = .ok (.getfield 93, 3)) ∧ (decode cX11_isRightAt 81 = .ok (.aaload, 1)) ∧ (decode cX11_isRightAt 82 = .ok (.iload_n 3, 1)) ∧ (decode cX11_isRightAt 83 = .ok (.aload_n 0, 1)) ∧ (decode cX11_isRightAt 84 = .ok (.getfield 84, 3)) ∧ (decode cX11_isRightAt 87 = .ok (.iload 4, 2)) := by decide +kernel
theorem dX11_isRightAt_74 : decode cX11_isRightAt 74 = .ok (.getfield 55, 3) := dcX11_isRightAt_5.1
theorem dX11_isRightAt_77 : decode cX11_isRightAt 77 = .ok (.aload_n 0, 1) := dcX11_isRightAt_5.2.1
theorem dX11_isRightAt_78 : decode cX11_isRightAt 78 = .ok (.getfield 93, 3) := dcX11_isRightAt_5.2.2.1
theorem dX11_isRightAt_81 : decode cX11_isRightAt 81 = .ok (.aaload, 1) := dcX11_isRightAt_5.2.2.2.1
theorem dX11_isRightAt_82 : decode cX11_isRightAt 82 = .ok (.iload_n 3, 1) := dcX11_isRightAt_5.2.2.2.2.1
theorem dX11_isRightAt_83 : decode cX11_isRightAt 83 = .ok (.aload_n 0, 1) := dcX11_isRightAt_5.2.2.2.2.2.1
theorem dX11_isRightAt_84 : decode cX11_isRightAt 84 = .ok (.getfield 84, 3) := dcX11_isRightAt_5.2.2.2.2.2.2.1
theorem dX11_isRightAt_87 : decode cX11_isRightAt 87 = .ok (.iload 4, 2) := dcX11_isRightAt_5.2.2.2.2.2.2.2
theorem dcX11_isRightAt_6 : (decode cX11_isRightAt 89 = .ok (.iadd, 1)) ∧ (decode cX11_isRightAt 90 = .ok (.invokevirtual 289, 3)) ∧ (decode cX11_isRightAt 93 = .ok (.iinc 4 1, 3)) ∧ (decode cX11_isRightAt 96 = .ok (.goto (-93), 3)) ∧ (decode cX11_isRightAt 99 = .ok (.iconst 1, 1)) ∧ (decode cX11_isRightAt 100 = .ok (.ireturn, 1)) := by decide +kernel
theorem dX11_isRightAt_89 : decode cX11_isRightAt 89 = .ok (.iadd, 1) := dcX11_isRightAt_6.1
theorem dX11_isRightAt_90 : decode cX11_isRightAt 90 = .ok (.invokevirtual 289, 3) := dcX11_isRightAt_6.2.1
theorem dX11_isRightAt_93 : decode cX11_isRightAt 93 = .ok (.iinc 4 1, 3) := dcX11_isRightAt_6.2.2.1
theorem dX11_isRightAt_96 : decode cX11_isRightAt 96 = .ok (.goto (-93), 3) := dcX11_isRightAt_6.2.2.2.1
theorem dX11_isRightAt_99 : decode cX11_isRightAt 99 = .ok (.iconst 1, 1) := dcX11_isRightAt_6.2.2.2.2.1
theorem dX11_isRightAt_100 : decode cX11_isRightAt 100 = .ok (.ireturn, 1) := dcX11_isRightAt_6.2.2.2.2.2
theorem dcX11_seenBehindFlies_0 : (decode cX11_seenBehindFlies 0 = .ok (.aload_n 0, 1)) ∧ (decode cX11_seenBehindFlies 1 = .ok (.getfield 80, 3)) ∧ (decode cX11_seenBehindFlies 4 = .ok (.ifCond .ne 5, 3)) ∧ (decode cX11_seenBehindFlies 7 = .ok (.iconst 0, 1)) ∧ (decode cX11_seenBehindFlies 8 = .ok (.ireturn, 1)) ∧ (decode cX11_seenBehindFlies 9 = .ok (.iconst 0, 1)) ∧ (decode cX11_seenBehindFlies 10 = .ok (.istore_n 3, 1)) ∧ (decode cX11_seenBehindFlies 11 = .ok (.iload_n 3, 1)) := by decide +kernel
theorem dX11_seenBehindFlies_0 : decode cX11_seenBehindFlies 0 = .ok (.aload_n 0, 1) := dcX11_seenBehindFlies_0.1
theorem dX11_seenBehindFlies_1 : decode cX11_seenBehindFlies 1 = .ok (.getfield 80, 3) := dcX11_seenBehindFlies_0.2.1
theorem dX11_seenBehindFlies_4 : decode cX11_seenBehindFlies 4 = .ok (.ifCond .ne 5, 3) := dcX11_seenBehindFlies_0.2.2.1
theorem dX11_seenBehindFlies_7 : decode cX11_seenBehindFlies 7 = .ok (.iconst 0, 1) := dcX11_seenBehindFlies_0.2.2.2.1
theorem dX11_seenBehindFlies_8 : decode cX11_seenBehindFlies 8 = .ok (.ireturn, 1) := dcX11_seenBehindFlies_0.2.2.2.2.1
theorem dX11_seenBehindFlies_9 : decode cX11_seenBehindFlies 9 = .ok (.iconst 0, 1) := dcX11_seenBehindFlies_0.2.2.2.2.2.1
theorem dX11_seenBehindFlies_10 : decode cX11_seenBehindFlies 10 = .ok (.istore_n 3, 1) := dcX11_seenBehindFlies_0.2.2.2.2.2.2.1
theorem dX11_seenBehindFlies_11 : decode cX11_seenBehindFlies 11 = .ok (.iload_n 3, 1) := dcX11_seenBehindFlies_0.2.2.2.2.2.2.2
theorem dcX11_seenBehindFlies_1 : (decode cX11_seenBehindFlies 12 = .ok (.aload_n 0, 1)) ∧ (decode cX11_seenBehindFlies 13 = .ok (.getfield 80, 3)) ∧ (decode cX11_seenBehindFlies 16 = .ok (.if_icmp .ge 24, 3)) ∧ (decode cX11_seenBehindFlies 19 = .ok (.aload_n 0, 1)) ∧ (decode cX11_seenBehindFlies 20 = .ok (.getfield 41, 3)) ∧ (decode cX11_seenBehindFlies 23 = .ok (.iload_n 3, 1)) ∧ (decode cX11_seenBehindFlies 24 = .ok (.aaload, 1)) ∧ (decode cX11_seenBehindFlies 25 = .ok (.aload_n 0, 1)) := by decide +kernel
theorem dX11_seenBehindFlies_12 : decode cX11_seenBehindFlies 12 = .ok (.aload_n 0, 1) := dcX11_seenBehindFlies_1.1
theorem dX11_seenBehindFlies_13 : decode cX11_seenBehindFlies 13 = .ok (.getfield 80, 3) := dcX11_seenBehindFlies_1.2.1
theorem dX11_seenBehindFlies_16 : decode cX11_seenBehindFlies 16 = .ok (.if_icmp .ge 24, 3) := dcX11_seenBehindFlies_1.2.2.1
theorem dX11_seenBehindFlies_19 : decode cX11_seenBehindFlies 19 = .ok (.aload_n 0, 1) := dcX11_seenBehindFlies_1.2.2.2.1
theorem dX11_seenBehindFlies_20 : decode cX11_seenBehindFlies 20 = .ok (.getfield 41, 3) := dcX11_seenBehindFlies_1.2.2.2.2.1
theorem dX11_seenBehindFlies_23 : decode cX11_seenBehindFlies 23 = .ok (.iload_n 3, 1) := dcX11_seenBehindFlies_1.2.2.2.2.2.1
theorem dX11_seenBehindFlies_24 : decode cX11_seenBehindFlies 24 = .ok (.aaload, 1) := dcX11_seenBehindFlies_1.2.2.2.2.2.2.1
theorem dX11_seenBehindFlies_25 : decode cX11_seenBehindFlies 25 = .ok (.aload_n 0, 1) := dcX11_seenBehindFlies_1.2.2.2.2.2.2.2
theorem dcX11_seenBehindFlies_2 : (decode cX11_seenBehindFlies 26 = .ok (.getfield 37, 3)) ∧ (decode cX11_seenBehindFlies 29 = .ok (.iload_n 3, 1)) ∧ (decode cX11_seenBehindFlies 30 = .ok (.aaload, 1)) ∧ (decode cX11_seenBehindFlies 31 = .ok (.invokevirtual 247, 3)) ∧ (decode cX11_seenBehindFlies 34 = .ok (.iinc 3 1, 3)) ∧ (decode cX11_seenBehindFlies 37 = .ok (.goto (-26), 3)) ∧ (decode cX11_seenBehindFlies 40 = .ok (.iload_n 1, 1)) ∧ (decode cX11_seenBehindFlies 41 = .ok (.i2l, 1)) := by decide +kernel
theorem dX11_seenBehindFlies_26 : decode cX11_seenBehindFlies 26 = .ok (.getfield 37, 3) := dcX11_seenBehindFlies_2.1
theorem dX11_seenBehindFlies_29 : decode cX11_seenBehindFlies 29 = .ok (.iload_n 3, 1) := dcX11_seenBehindFlies_2.2.1
theorem dX11_seenBehindFlies_30 : decode cX11_seenBehindFlies 30 = .ok (.aaload, 1) := dcX11_seenBehindFlies_2.2.2.1
theorem dX11_seenBehindFlies_31 : decode cX11_seenBehindFlies 31 = .ok (.invokevirtual 247, 3) := dcX11_seenBehindFlies_2.2.2.2.1
theorem dX11_seenBehindFlies_34 : decode cX11_seenBehindFlies 34 = .ok (.iinc 3 1, 3) := dcX11_seenBehindFlies_2.2.2.2.2.1
theorem dX11_seenBehindFlies_37 : decode cX11_seenBehindFlies 37 = .ok (.goto (-26), 3) := dcX11_seenBehindFlies_2.2.2.2.2.2.1
theorem dX11_seenBehindFlies_40 : decode cX11_seenBehindFlies 40 = .ok (.iload_n 1, 1) := dcX11_seenBehindFlies_2.2.2.2.2.2.2.1
theorem dX11_seenBehindFlies_41 : decode cX11_seenBehindFlies 41 = .ok (.i2l, 1) := dcX11_seenBehindFlies_2.2.2.2.2.2.2.2
theorem dcX11_seenBehindFlies_3 : (decode cX11_seenBehindFlies 42 = .ok (.lconst 1, 1)) ∧ (decode cX11_seenBehindFlies 43 = .ok (.ladd, 1)) ∧ (decode cX11_seenBehindFlies 44 = .ok (.lstore_n 3, 1)) ∧ (decode cX11_seenBehindFlies 45 = .ok (.iconst 0, 1)) ∧ (decode cX11_seenBehindFlies 46 = .ok (.istore 5, 2)) ∧ (decode cX11_seenBehindFlies 48 = .ok (.iload 5, 2)) ∧ (decode cX11_seenBehindFlies 50 = .ok (.iload_n 2, 1)) ∧ (decode cX11_seenBehindFlies 51 = .ok (.if_icmp .ge 52, 3)) := by decide +kernel
theorem dX11_seenBehindFlies_42 : decode cX11_seenBehindFlies 42 = .ok (.lconst 1, 1) := dcX11_seenBehindFlies_3.1
theorem dX11_seenBehindFlies_43 : decode cX11_seenBehindFlies 43 = .ok (.ladd, 1) := dcX11_seenBehindFlies_3.2.1
theorem dX11_seenBehindFlies_44 : decode cX11_seenBehindFlies 44 = .ok (.lstore_n 3, 1) := dcX11_seenBehindFlies_3.2.2.1
theorem dX11_seenBehindFlies_45 : decode cX11_seenBehindFlies 45 = .ok (.iconst 0, 1) := dcX11_seenBehindFlies_3.2.2.2.1
theorem dX11_seenBehindFlies_46 : decode cX11_seenBehindFlies 46 = .ok (.istore 5, 2) := dcX11_seenBehindFlies_3.2.2.2.2.1
theorem dX11_seenBehindFlies_48 : decode cX11_seenBehindFlies 48 = .ok (.iload 5, 2) := dcX11_seenBehindFlies_3.2.2.2.2.2.1
theorem dX11_seenBehindFlies_50 : decode cX11_seenBehindFlies 50 = .ok (.iload_n 2, 1) := dcX11_seenBehindFlies_3.2.2.2.2.2.2.1
theorem dX11_seenBehindFlies_51 : decode cX11_seenBehindFlies 51 = .ok (.if_icmp .ge 52, 3) := dcX11_seenBehindFlies_3.2.2.2.2.2.2.2
theorem dcX11_seenBehindFlies_4 : (decode cX11_seenBehindFlies 54 = .ok (.lload_n 3, 1)) ∧ (decode cX11_seenBehindFlies 55 = .ok (.ldc2_w 293, 3)) ∧ (decode cX11_seenBehindFlies 58 = .ok (.lmul, 1)) ∧ (decode cX11_seenBehindFlies 59 = .ok (.ldc2_w 295, 3)) ∧ (decode cX11_seenBehindFlies 62 = .ok (.lrem, 1)) ∧ (decode cX11_seenBehindFlies 63 = .ok (.lstore_n 3, 1)) ∧ (decode cX11_seenBehindFlies 64 = .ok (.lload_n 3, 1)) ∧ (decode cX11_seenBehindFlies 65 = .ok (.bipush 16, 2)) := by decide +kernel
theorem dX11_seenBehindFlies_54 : decode cX11_seenBehindFlies 54 = .ok (.lload_n 3, 1) := dcX11_seenBehindFlies_4.1
theorem dX11_seenBehindFlies_55 : decode cX11_seenBehindFlies 55 = .ok (.ldc2_w 293, 3) := dcX11_seenBehindFlies_4.2.1
theorem dX11_seenBehindFlies_58 : decode cX11_seenBehindFlies 58 = .ok (.lmul, 1) := dcX11_seenBehindFlies_4.2.2.1
theorem dX11_seenBehindFlies_59 : decode cX11_seenBehindFlies 59 = .ok (.ldc2_w 295, 3) := dcX11_seenBehindFlies_4.2.2.2.1
theorem dX11_seenBehindFlies_62 : decode cX11_seenBehindFlies 62 = .ok (.lrem, 1) := dcX11_seenBehindFlies_4.2.2.2.2.1
theorem dX11_seenBehindFlies_63 : decode cX11_seenBehindFlies 63 = .ok (.lstore_n 3, 1) := dcX11_seenBehindFlies_4.2.2.2.2.2.1
theorem dX11_seenBehindFlies_64 : decode cX11_seenBehindFlies 64 = .ok (.lload_n 3, 1) := dcX11_seenBehindFlies_4.2.2.2.2.2.2.1
theorem dX11_seenBehindFlies_65 : decode cX11_seenBehindFlies 65 = .ok (.bipush 16, 2) := dcX11_seenBehindFlies_4.2.2.2.2.2.2.2
theorem dcX11_seenBehindFlies_5 : (decode cX11_seenBehindFlies 67 = .ok (.aload_n 0, 1)) ∧ (decode cX11_seenBehindFlies 68 = .ok (.getfield 80, 3)) ∧ (decode cX11_seenBehindFlies 71 = .ok (.imul, 1)) ∧ (decode cX11_seenBehindFlies 72 = .ok (.i2l, 1)) ∧ (decode cX11_seenBehindFlies 73 = .ok (.lrem, 1)) ∧ (decode cX11_seenBehindFlies 74 = .ok (.l2i, 1)) ∧ (decode cX11_seenBehindFlies 75 = .ok (.istore 6, 2)) ∧ (decode cX11_seenBehindFlies 77 = .ok (.aload_n 0, 1)) := by decide +kernel
theorem dX11_seenBehindFlies_67 : decode cX11_seenBehindFlies 67 = .ok (.aload_n 0, 1) := dcX11_seenBehindFlies_5.1
theorem dX11_seenBehindFlies_68 : decode cX11_seenBehindFlies 68 = .ok (.getfield 80, 3) := dcX11_seenBehindFlies_5.2.1
theorem dX11_seenBehindFlies_71 : decode cX11_seenBehindFlies 71 = .ok (.imul, 1) := dcX11_seenBehindFlies_5.2.2.1
theorem dX11_seenBehindFlies_72 : decode cX11_seenBehindFlies 72 = .ok (.i2l, 1) := dcX11_seenBehindFlies_5.2.2.2.1
theorem dX11_seenBehindFlies_73 : decode cX11_seenBehindFlies 73 = .ok (.lrem, 1) := dcX11_seenBehindFlies_5.2.2.2.2.1
theorem dX11_seenBehindFlies_74 : decode cX11_seenBehindFlies 74 = .ok (.l2i, 1) := dcX11_seenBehindFlies_5.2.2.2.2.2.1
theorem dX11_seenBehindFlies_75 : decode cX11_seenBehindFlies 75 = .ok (.istore 6, 2) := dcX11_seenBehindFlies_5.2.2.2.2.2.2.1
theorem dX11_seenBehindFlies_77 : decode cX11_seenBehindFlies 77 = .ok (.aload_n 0, 1) := dcX11_seenBehindFlies_5.2.2.2.2.2.2.2
theorem dcX11_seenBehindFlies_6 : (decode cX11_seenBehindFlies 78 = .ok (.getfield 41, 3)) ∧ (decode cX11_seenBehindFlies 81 = .ok (.iload 6, 2)) ∧ (decode cX11_seenBehindFlies 83 = .ok (.bipush 16, 2)) ∧ (decode cX11_seenBehindFlies 85 = .ok (.idiv, 1)) ∧ (decode cX11_seenBehindFlies 86 = .ok (.aaload, 1)) ∧ (decode cX11_seenBehindFlies 87 = .ok (.iload 6, 2)) ∧ (decode cX11_seenBehindFlies 89 = .ok (.bipush 16, 2)) ∧ (decode cX11_seenBehindFlies 91 = .ok (.irem, 1)) := by decide +kernel
theorem dX11_seenBehindFlies_78 : decode cX11_seenBehindFlies 78 = .ok (.getfield 41, 3) := dcX11_seenBehindFlies_6.1
theorem dX11_seenBehindFlies_81 : decode cX11_seenBehindFlies 81 = .ok (.iload 6, 2) := dcX11_seenBehindFlies_6.2.1
theorem dX11_seenBehindFlies_83 : decode cX11_seenBehindFlies 83 = .ok (.bipush 16, 2) := dcX11_seenBehindFlies_6.2.2.1
theorem dX11_seenBehindFlies_85 : decode cX11_seenBehindFlies 85 = .ok (.idiv, 1) := dcX11_seenBehindFlies_6.2.2.2.1
theorem dX11_seenBehindFlies_86 : decode cX11_seenBehindFlies 86 = .ok (.aaload, 1) := dcX11_seenBehindFlies_6.2.2.2.2.1
theorem dX11_seenBehindFlies_87 : decode cX11_seenBehindFlies 87 = .ok (.iload 6, 2) := dcX11_seenBehindFlies_6.2.2.2.2.2.1
theorem dX11_seenBehindFlies_89 : decode cX11_seenBehindFlies 89 = .ok (.bipush 16, 2) := dcX11_seenBehindFlies_6.2.2.2.2.2.2.1
theorem dX11_seenBehindFlies_91 : decode cX11_seenBehindFlies 91 = .ok (.irem, 1) := dcX11_seenBehindFlies_6.2.2.2.2.2.2.2
theorem dcX11_seenBehindFlies_7 : (decode cX11_seenBehindFlies 92 = .ok (.bipush 20, 2)) ∧ (decode cX11_seenBehindFlies 94 = .ok (.invokevirtual 297, 3)) ∧ (decode cX11_seenBehindFlies 97 = .ok (.iinc 5 1, 3)) ∧ (decode cX11_seenBehindFlies 100 = .ok (.goto (-52), 3)) ∧ (decode cX11_seenBehindFlies 103 = .ok (.iconst 0, 1)) ∧ (decode cX11_seenBehindFlies 104 = .ok (.istore 5, 2)) ∧ (decode cX11_seenBehindFlies 106 = .ok (.iconst 0, 1)) ∧ (decode cX11_seenBehindFlies 107 = .ok (.istore 6, 2)) := by decide +kernel
theorem dX11_seenBehindFlies_92 : decode cX11_seenBehindFlies 92 = .ok (.bipush 20, 2) := dcX11_seenBehindFlies_7.1
theorem dX11_seenBehindFlies_94 : decode cX11_seenBehindFlies 94 = .ok (.invokevirtual 297, 3) := dcX11_seenBehindFlies_7.2.1
theorem dX11_seenBehindFlies_97 : decode cX11_seenBehindFlies 97 = .ok (.iinc 5 1, 3) := dcX11_seenBehindFlies_7.2.2.1
theorem dX11_seenBehindFlies_100 : decode cX11_seenBehindFlies 100 = .ok (.goto (-52), 3) := dcX11_seenBehindFlies_7.2.2.2.1
theorem dX11_seenBehindFlies_103 : decode cX11_seenBehindFlies 103 = .ok (.iconst 0, 1) := dcX11_seenBehindFlies_7.2.2.2.2.1
theorem dX11_seenBehindFlies_104 : decode cX11_seenBehindFlies 104 = .ok (.istore 5, 2) := dcX11_seenBehindFlies_7.2.2.2.2.2.1
theorem dX11_seenBehindFlies_106 : decode cX11_seenBehindFlies 106 = .ok (.iconst 0, 1) := dcX11_seenBehindFlies_7.2.2.2.2.2.2.1
theorem dX11_seenBehindFlies_107 : decode cX11_seenBehindFlies 107 = .ok (.istore 6, 2) := dcX11_seenBehindFlies_7.2.2.2.2.2.2.2
theorem dcX11_seenBehindFlies_8 : (decode cX11_seenBehindFlies 109 = .ok (.iload 6, 2)) ∧ (decode cX11_seenBehindFlies 111 = .ok (.aload_n 0, 1)) ∧ (decode cX11_seenBehindFlies 112 = .ok (.getfield 80, 3)) ∧ (decode cX11_seenBehindFlies 115 = .ok (.if_icmp .ge 40, 3)) ∧ (decode cX11_seenBehindFlies 118 = .ok (.iload 5, 2)) ∧ (decode cX11_seenBehindFlies 120 = .ok (.aload_n 0, 1)) ∧ (decode cX11_seenBehindFlies 121 = .ok (.getfield 41, 3)) ∧ (decode cX11_seenBehindFlies 124 = .ok (.iload 6, 2)) := by decide +kernel
theorem dX11_seenBehindFlies_109 : decode cX11_seenBehindFlies 109 = .ok (.iload 6, 2) := dcX11_seenBehindFlies_8.1
theorem dX11_seenBehindFlies_111 : decode cX11_seenBehindFlies 111 = .ok (.aload_n 0, 1) := dcX11_seenBehindFlies_8.2.1
theorem dX11_seenBehindFlies_112 : decode cX11_seenBehindFlies 112 = .ok (.getfield 80, 3) := dcX11_seenBehindFlies_8.2.2.1
theorem dX11_seenBehindFlies_115 : decode cX11_seenBehindFlies 115 = .ok (.if_icmp .ge 40, 3) := dcX11_seenBehindFlies_8.2.2.2.1
theorem dX11_seenBehindFlies_118 : decode cX11_seenBehindFlies 118 = .ok (.iload 5, 2) := dcX11_seenBehindFlies_8.2.2.2.2.1
theorem dX11_seenBehindFlies_120 : decode cX11_seenBehindFlies 120 = .ok (.aload_n 0, 1) := dcX11_seenBehindFlies_8.2.2.2.2.2.1
theorem dX11_seenBehindFlies_121 : decode cX11_seenBehindFlies 121 = .ok (.getfield 41, 3) := dcX11_seenBehindFlies_8.2.2.2.2.2.2.1
theorem dX11_seenBehindFlies_124 : decode cX11_seenBehindFlies 124 = .ok (.iload 6, 2) := dcX11_seenBehindFlies_8.2.2.2.2.2.2.2
theorem dcX11_seenBehindFlies_9 : (decode cX11_seenBehindFlies 126 = .ok (.aaload, 1)) ∧ (decode cX11_seenBehindFlies 127 = .ok (.aload_n 0, 1)) ∧ (decode cX11_seenBehindFlies 128 = .ok (.getfield 55, 3)) ∧ (decode cX11_seenBehindFlies 131 = .ok (.aload_n 0, 1)) ∧ (decode cX11_seenBehindFlies 132 = .ok (.getfield 93, 3)) ∧ (decode cX11_seenBehindFlies 135 = .ok (.aaload, 1)) ∧ (decode cX11_seenBehindFlies 136 = .ok (.aload_n 0, 1)) ∧ (decode cX11_seenBehindFlies 137 = .ok (.getfield 84, 3)) := by decide +kernel
theorem dX11_seenBehindFlies_126 : decode cX11_seenBehindFlies 126 = .ok (.aaload, 1) := dcX11_seenBehindFlies_9.1
theorem dX11_seenBehindFlies_127 : decode cX11_seenBehindFlies 127 = .ok (.aload_n 0, 1) := dcX11_seenBehindFlies_9.2.1
theorem dX11_seenBehindFlies_128 : decode cX11_seenBehindFlies 128 = .ok (.getfield 55, 3) := dcX11_seenBehindFlies_9.2.2.1
theorem dX11_seenBehindFlies_131 : decode cX11_seenBehindFlies 131 = .ok (.aload_n 0, 1) := dcX11_seenBehindFlies_9.2.2.2.1
theorem dX11_seenBehindFlies_132 : decode cX11_seenBehindFlies 132 = .ok (.getfield 93, 3) := dcX11_seenBehindFlies_9.2.2.2.2.1
theorem dX11_seenBehindFlies_135 : decode cX11_seenBehindFlies 135 = .ok (.aaload, 1) := dcX11_seenBehindFlies_9.2.2.2.2.2.1
theorem dX11_seenBehindFlies_136 : decode cX11_seenBehindFlies 136 = .ok (.aload_n 0, 1) := dcX11_seenBehindFlies_9.2.2.2.2.2.2.1
theorem dX11_seenBehindFlies_137 : decode cX11_seenBehindFlies 137 = .ok (.getfield 84, 3) := dcX11_seenBehindFlies_9.2.2.2.2.2.2.2
theorem dcX11_seenBehindFlies_10 : (decode cX11_seenBehindFlies 140 = .ok (.invokevirtual 164, 3)) ∧ (decode cX11_seenBehindFlies 143 = .ok (.invokestatic 167, 3)) ∧ (decode cX11_seenBehindFlies 146 = .ok (.iadd, 1)) ∧ (decode cX11_seenBehindFlies 147 = .ok (.istore 5, 2)) ∧ (decode cX11_seenBehindFlies 149 = .ok (.iinc 6 1, 3)) ∧ (decode cX11_seenBehindFlies 152 = .ok (.goto (-43), 3)) ∧ (decode cX11_seenBehindFlies 155 = .ok (.iload 5, 2)) ∧ (decode cX11_seenBehindFlies 157 = .ok (.ireturn, 1)) := by decide +kernel
theorem dX11_seenBehindFlies_140 : decode cX11_seenBehindFlies 140 = .ok (.invokevirtual 164, 3) := dcX11_seenBehindFlies_10.1
theorem dX11_seenBehindFlies_143 : decode cX11_seenBehindFlies 143 = .ok (.invokestatic 167, 3) := dcX11_seenBehindFlies_10.2.1
theorem dX11_seenBehindFlies_146 : decode cX11_seenBehindFlies 146 = .ok (.iadd, 1) := dcX11_seenBehindFlies_10.2.2.1
theorem dX11_seenBehindFlies_147 : decode cX11_seenBehindFlies 147 = .ok (.istore 5, 2) := dcX11_seenBehindFlies_10.2.2.2.1
theorem dX11_seenBehindFlies_149 : decode cX11_seenBehindFlies 149 = .ok (.iinc 6 1, 3) := dcX11_seenBehindFlies_10.2.2.2.2.1
theorem dX11_seenBehindFlies_152 : decode cX11_seenBehindFlies 152 = .ok (.goto (-43), 3) := dcX11_seenBehindFlies_10.2.2.2.2.2.1
theorem dX11_seenBehindFlies_155 : decode cX11_seenBehindFlies 155 = .ok (.iload 5, 2) := dcX11_seenBehindFlies_10.2.2.2.2.2.2.1
theorem dX11_seenBehindFlies_157 : decode cX11_seenBehindFlies 157 = .ok (.ireturn, 1) := dcX11_seenBehindFlies_10.2.2.2.2.2.2.2
theorem dcX12_init_0 : (decode cX12_init 0 = .ok (.aload_n 0, 1)) ∧ (decode cX12_init 1 = .ok (.invokespecial 1, 3)) ∧ (decode cX12_init 4 = .ok (.aload_n 0, 1)) ∧ (decode cX12_init 5 = .ok (.bipush 6, 2)) ∧ (decode cX12_init 7 = .ok (.newarray .int, 2)) ∧ (decode cX12_init 9 = .ok (.putfield 7, 3)) ∧ (decode cX12_init 12 = .ok (.aload_n 0, 1)) ∧ (decode cX12_init 13 = .ok (.bipush 6, 2)) := by decide +kernel
theorem dX12_init_0 : decode cX12_init 0 = .ok (.aload_n 0, 1) := dcX12_init_0.1
theorem dX12_init_1 : decode cX12_init 1 = .ok (.invokespecial 1, 3) := dcX12_init_0.2.1
theorem dX12_init_4 : decode cX12_init 4 = .ok (.aload_n 0, 1) := dcX12_init_0.2.2.1
theorem dX12_init_5 : decode cX12_init 5 = .ok (.bipush 6, 2) := dcX12_init_0.2.2.2.1
theorem dX12_init_7 : decode cX12_init 7 = .ok (.newarray .int, 2) := dcX12_init_0.2.2.2.2.1
theorem dX12_init_9 : decode cX12_init 9 = .ok (.putfield 7, 3) := dcX12_init_0.2.2.2.2.2.1
theorem dX12_init_12 : decode cX12_init 12 = .ok (.aload_n 0, 1) := dcX12_init_0.2.2.2.2.2.2.1
theorem dX12_init_13 : decode cX12_init 13 = .ok (.bipush 6, 2) := dcX12_init_0.2.2.2.2.2.2.2
theorem dcX12_init_1 : (decode cX12_init 15 = .ok (.newarray .int, 2)) ∧ (decode cX12_init 17 = .ok (.putfield 13, 3)) ∧ (decode cX12_init 20 = .ok (.aload_n 0, 1)) ∧ (decode cX12_init 21 = .ok (.bipush 96, 2)) ∧ (decode cX12_init 23 = .ok (.newarray .int, 2)) ∧ (decode cX12_init 25 = .ok (.putfield 16, 3)) ∧ (decode cX12_init 28 = .ok (.aload_n 0, 1)) ∧ (decode cX12_init 29 = .ok (.bipush 6, 2)) := by decide +kernel
theorem dX12_init_15 : decode cX12_init 15 = .ok (.newarray .int, 2) := dcX12_init_1.1
theorem dX12_init_17 : decode cX12_init 17 = .ok (.putfield 13, 3) := dcX12_init_1.2.1
theorem dX12_init_20 : decode cX12_init 20 = .ok (.aload_n 0, 1) := dcX12_init_1.2.2.1
theorem dX12_init_21 : decode cX12_init 21 = .ok (.bipush 96, 2) := dcX12_init_1.2.2.2.1
theorem dX12_init_23 : decode cX12_init 23 = .ok (.newarray .int, 2) := dcX12_init_1.2.2.2.2.1
theorem dX12_init_25 : decode cX12_init 25 = .ok (.putfield 16, 3) := dcX12_init_1.2.2.2.2.2.1
theorem dX12_init_28 : decode cX12_init 28 = .ok (.aload_n 0, 1) := dcX12_init_1.2.2.2.2.2.2.1
theorem dX12_init_29 : decode cX12_init 29 = .ok (.bipush 6, 2) := dcX12_init_1.2.2.2.2.2.2.2
theorem dcX12_init_2 : (decode cX12_init 31 = .ok (.newarray .int, 2)) ∧ (decode cX12_init 33 = .ok (.putfield 19, 3)) ∧ (decode cX12_init 36 = .ok (.aload_n 0, 1)) ∧ (decode cX12_init 37 = .ok (.bipush 60, 2)) ∧ (decode cX12_init 39 = .ok (.putfield 22, 3)) ∧ (decode cX12_init 42 = .ok (.aload_n 0, 1)) ∧ (decode cX12_init 43 = .ok (.sipush 160, 3)) ∧ (decode cX12_init 46 = .ok (.newarray .int, 2)) := by decide +kernel
theorem dX12_init_31 : decode cX12_init 31 = .ok (.newarray .int, 2) := dcX12_init_2.1
theorem dX12_init_33 : decode cX12_init 33 = .ok (.putfield 19, 3) := dcX12_init_2.2.1
theorem dX12_init_36 : decode cX12_init 36 = .ok (.aload_n 0, 1) := dcX12_init_2.2.2.1
theorem dX12_init_37 : decode cX12_init 37 = .ok (.bipush 60, 2) := dcX12_init_2.2.2.2.1
theorem dX12_init_39 : decode cX12_init 39 = .ok (.putfield 22, 3) := dcX12_init_2.2.2.2.2.1
theorem dX12_init_42 : decode cX12_init 42 = .ok (.aload_n 0, 1) := dcX12_init_2.2.2.2.2.2.1
theorem dX12_init_43 : decode cX12_init 43 = .ok (.sipush 160, 3) := dcX12_init_2.2.2.2.2.2.2.1
theorem dX12_init_46 : decode cX12_init 46 = .ok (.newarray .int, 2) := dcX12_init_2.2.2.2.2.2.2.2
theorem dcX12_init_3 : (decode cX12_init 48 = .ok (.putfield 26, 3)) ∧ (decode cX12_init 51 = .ok (.aload_n 0, 1)) ∧ (decode cX12_init 52 = .ok (.sipush 1200, 3)) ∧ (decode cX12_init 55 = .ok (.newarray .int, 2)) ∧ (decode cX12_init 57 = .ok (.putfield 29, 3)) ∧ (decode cX12_init 60 = .ok (.aload_n 0, 1)) ∧ (decode cX12_init 61 = .ok (.bipush 24, 2)) ∧ (decode cX12_init 63 = .ok (.newarray .int, 2)) := by decide +kernel
theorem dX12_init_48 : decode cX12_init 48 = .ok (.putfield 26, 3) := dcX12_init_3.1
theorem dX12_init_51 : decode cX12_init 51 = .ok (.aload_n 0, 1) := dcX12_init_3.2.1
theorem dX12_init_52 : decode cX12_init 52 = .ok (.sipush 1200, 3) := dcX12_init_3.2.2.1
theorem dX12_init_55 : decode cX12_init 55 = .ok (.newarray .int, 2) := dcX12_init_3.2.2.2.1
theorem dX12_init_57 : decode cX12_init 57 = .ok (.putfield 29, 3) := dcX12_init_3.2.2.2.2.1
theorem dX12_init_60 : decode cX12_init 60 = .ok (.aload_n 0, 1) := dcX12_init_3.2.2.2.2.2.1
theorem dX12_init_61 : decode cX12_init 61 = .ok (.bipush 24, 2) := dcX12_init_3.2.2.2.2.2.2.1
theorem dX12_init_63 : decode cX12_init 63 = .ok (.newarray .int, 2) := dcX12_init_3.2.2.2.2.2.2.2
theorem dcX12_init_4 : (decode cX12_init 65 = .ok (.putfield 32, 3)) ∧ (decode cX12_init 68 = .ok (.aload_n 0, 1)) ∧ (decode cX12_init 69 = .ok (.bipush 96, 2)) ∧ (decode cX12_init 71 = .ok (.newarray .int, 2)) ∧ (decode cX12_init 73 = .ok (.putfield 35, 3)) ∧ (decode cX12_init 76 = .ok (.aload_n 0, 1)) ∧ (decode cX12_init 77 = .ok (.bipush 6, 2)) ∧ (decode cX12_init 79 = .ok (.newarray .int, 2)) := by decide +kernel
theorem dX12_init_65 : decode cX12_init 65 = .ok (.putfield 32, 3) := dcX12_init_4.1
theorem dX12_init_68 : decode cX12_init 68 = .ok (.aload_n 0, 1) := dcX12_init_4.2.1
theorem dX12_init_69 : decode cX12_init 69 = .ok (.bipush 96, 2) := dcX12_init_4.2.2.1
theorem dX12_init_71 : decode cX12_init 71 = .ok (.newarray .int, 2) := dcX12_init_4.2.2.2.1
theorem dX12_init_73 : decode cX12_init 73 = .ok (.putfield 35, 3) := dcX12_init_4.2.2.2.2.1
theorem dX12_init_76 : decode cX12_init 76 = .ok (.aload_n 0, 1) := dcX12_init_4.2.2.2.2.2.1
theorem dX12_init_77 : decode cX12_init 77 = .ok (.bipush 6, 2) := dcX12_init_4.2.2.2.2.2.2.1
theorem dX12_init_79 : decode cX12_init 79 = .ok (.newarray .int, 2) := dcX12_init_4.2.2.2.2.2.2.2
theorem dcX12_init_5 : (decode cX12_init 81 = .ok (.putfield 38, 3)) ∧ (decode cX12_init 84 = .ok (.aload_n 0, 1)) ∧ (decode cX12_init 85 = .ok (.iconst 4, 1)) ∧ (decode cX12_init 86 = .ok (.newarray .int, 2)) ∧ (decode cX12_init 88 = .ok (.putfield 41, 3)) ∧ (decode cX12_init 91 = .ok (.aload_n 0, 1)) ∧ (decode cX12_init 92 = .ok (.iconst 4, 1)) ∧ (decode cX12_init 93 = .ok (.newarray .int, 2)) := by decide +kernel
theorem dX12_init_81 : decode cX12_init 81 = .ok (.putfield 38, 3) := dcX12_init_5.1
theorem dX12_init_84 : decode cX12_init 84 = .ok (.aload_n 0, 1) := dcX12_init_5.2.1
theorem dX12_init_85 : decode cX12_init 85 = .ok (.iconst 4, 1) := dcX12_init_5.2.2.1
theorem dX12_init_86 : decode cX12_init 86 = .ok (.newarray .int, 2) := dcX12_init_5.2.2.2.1
theorem dX12_init_88 : decode cX12_init 88 = .ok (.putfield 41, 3) := dcX12_init_5.2.2.2.2.1
theorem dX12_init_91 : decode cX12_init 91 = .ok (.aload_n 0, 1) := dcX12_init_5.2.2.2.2.2.1
theorem dX12_init_92 : decode cX12_init 92 = .ok (.iconst 4, 1) := dcX12_init_5.2.2.2.2.2.2.1
theorem dX12_init_93 : decode cX12_init 93 = .ok (.newarray .int, 2) := dcX12_init_5.2.2.2.2.2.2.2
theorem dcX12_init_6 : (decode cX12_init 95 = .ok (.dup, 1)) ∧ (decode cX12_init 96 = .ok (.iconst 0, 1)) ∧ (decode cX12_init 97 = .ok (.iconst (-1), 1)) ∧ (decode cX12_init 98 = .ok (.iastore, 1)) ∧ (decode cX12_init 99 = .ok (.dup, 1)) ∧ (decode cX12_init 100 = .ok (.iconst 1, 1)) ∧ (decode cX12_init 101 = .ok (.iconst (-1), 1)) ∧ (decode cX12_init 102 = .ok (.iastore, 1)) := by decide +kernel
theorem dX12_init_95 : decode cX12_init 95 = .ok (.dup, 1) := dcX12_init_6.1
theorem dX12_init_96 : decode cX12_init 96 = .ok (.iconst 0, 1) := dcX12_init_6.2.1
theorem dX12_init_97 : decode cX12_init 97 = .ok (.iconst (-1), 1) := dcX12_init_6.2.2.1
theorem dX12_init_98 : decode cX12_init 98 = .ok (.iastore, 1) := dcX12_init_6.2.2.2.1
theorem dX12_init_99 : decode cX12_init 99 = .ok (.dup, 1) := dcX12_init_6.2.2.2.2.1
theorem dX12_init_100 : decode cX12_init 100 = .ok (.iconst 1, 1) := dcX12_init_6.2.2.2.2.2.1
theorem dX12_init_101 : decode cX12_init 101 = .ok (.iconst (-1), 1) := dcX12_init_6.2.2.2.2.2.2.1
theorem dX12_init_102 : decode cX12_init 102 = .ok (.iastore, 1) := dcX12_init_6.2.2.2.2.2.2.2
theorem dcX12_init_7 : (decode cX12_init 103 = .ok (.dup, 1)) ∧ (decode cX12_init 104 = .ok (.iconst 2, 1)) ∧ (decode cX12_init 105 = .ok (.iconst (-1), 1)) ∧ (decode cX12_init 106 = .ok (.iastore, 1)) ∧ (decode cX12_init 107 = .ok (.dup, 1)) ∧ (decode cX12_init 108 = .ok (.iconst 3, 1)) ∧ (decode cX12_init 109 = .ok (.iconst (-1), 1)) ∧ (decode cX12_init 110 = .ok (.iastore, 1)) := by decide +kernel
theorem dX12_init_103 : decode cX12_init 103 = .ok (.dup, 1) := dcX12_init_7.1
theorem dX12_init_104 : decode cX12_init 104 = .ok (.iconst 2, 1) := dcX12_init_7.2.1
theorem dX12_init_105 : decode cX12_init 105 = .ok (.iconst (-1), 1) := dcX12_init_7.2.2.1
theorem dX12_init_106 : decode cX12_init 106 = .ok (.iastore, 1) := dcX12_init_7.2.2.2.1
theorem dX12_init_107 : decode cX12_init 107 = .ok (.dup, 1) := dcX12_init_7.2.2.2.2.1
theorem dX12_init_108 : decode cX12_init 108 = .ok (.iconst 3, 1) := dcX12_init_7.2.2.2.2.2.1
theorem dX12_init_109 : decode cX12_init 109 = .ok (.iconst (-1), 1) := dcX12_init_7.2.2.2.2.2.2.1
theorem dX12_init_110 : decode cX12_init 110 = .ok (.iastore, 1) := dcX12_init_7.2.2.2.2.2.2.2
theorem dcX12_init_8 : (decode cX12_init 111 = .ok (.putfield 44, 3)) ∧ (decode cX12_init 114 = .ok (.aload_n 0, 1)) ∧ (decode cX12_init 115 = .ok (.iconst 4, 1)) ∧ (decode cX12_init 116 = .ok (.newarray .int, 2)) ∧ (decode cX12_init 118 = .ok (.putfield 47, 3)) ∧ (decode cX12_init 121 = .ok (.aload_n 0, 1)) ∧ (decode cX12_init 122 = .ok (.sipush 160, 3)) ∧ (decode cX12_init 125 = .ok (.newarray .int, 2)) := by decide +kernel
theorem dX12_init_111 : decode cX12_init 111 = .ok (.putfield 44, 3) := dcX12_init_8.1
theorem dX12_init_114 : decode cX12_init 114 = .ok (.aload_n 0, 1) := dcX12_init_8.2.1
theorem dX12_init_115 : decode cX12_init 115 = .ok (.iconst 4, 1) := dcX12_init_8.2.2.1
theorem dX12_init_116 : decode cX12_init 116 = .ok (.newarray .int, 2) := dcX12_init_8.2.2.2.1
theorem dX12_init_118 : decode cX12_init 118 = .ok (.putfield 47, 3) := dcX12_init_8.2.2.2.2.1
theorem dX12_init_121 : decode cX12_init 121 = .ok (.aload_n 0, 1) := dcX12_init_8.2.2.2.2.2.1
theorem dX12_init_122 : decode cX12_init 122 = .ok (.sipush 160, 3) := dcX12_init_8.2.2.2.2.2.2.1
theorem dX12_init_125 : decode cX12_init 125 = .ok (.newarray .int, 2) := dcX12_init_8.2.2.2.2.2.2.2
theorem dcX12_init_9 : (decode cX12_init 127 = .ok (.putfield 50, 3)) ∧ (decode cX12_init 130 = .ok (.aload_n 0, 1)) ∧ (decode cX12_init 131 = .ok (.bipush 33, 2)) ∧ (decode cX12_init 133 = .ok (.newarray .int, 2)) ∧ (decode cX12_init 135 = .ok (.dup, 1)) ∧ (decode cX12_init 136 = .ok (.iconst 0, 1)) ∧ (decode cX12_init 137 = .ok (.bipush 100, 2)) ∧ (decode cX12_init 139 = .ok (.iastore, 1)) := by decide +kernel
theorem dX12_init_127 : decode cX12_init 127 = .ok (.putfield 50, 3) := dcX12_init_9.1
theorem dX12_init_130 : decode cX12_init 130 = .ok (.aload_n 0, 1) := dcX12_init_9.2.1
theorem dX12_init_131 : decode cX12_init 131 = .ok (.bipush 33, 2) := dcX12_init_9.2.2.1
theorem dX12_init_133 : decode cX12_init 133 = .ok (.newarray .int, 2) := dcX12_init_9.2.2.2.1
theorem dX12_init_135 : decode cX12_init 135 = .ok (.dup, 1) := dcX12_init_9.2.2.2.2.1
theorem dX12_init_136 : decode cX12_init 136 = .ok (.iconst 0, 1) := dcX12_init_9.2.2.2.2.2.1
theorem dX12_init_137 : decode cX12_init 137 = .ok (.bipush 100, 2) := dcX12_init_9.2.2.2.2.2.2.1
theorem dX12_init_139 : decode cX12_init 139 = .ok (.iastore, 1) := dcX12_init_9.2.2.2.2.2.2.2
theorem dcX12_init_10 : (decode cX12_init 140 = .ok (.dup, 1)) ∧ (decode cX12_init 141 = .ok (.iconst 1, 1)) ∧ (decode cX12_init 142 = .ok (.bipush 117, 2)) ∧ (decode cX12_init 144 = .ok (.iastore, 1)) ∧ (decode cX12_init 145 = .ok (.dup, 1)) ∧ (decode cX12_init 146 = .ok (.iconst 2, 1)) ∧ (decode cX12_init 147 = .ok (.bipush 108, 2)) ∧ (decode cX12_init 149 = .ok (.iastore, 1)) := by decide +kernel
theorem dX12_init_140 : decode cX12_init 140 = .ok (.dup, 1) := dcX12_init_10.1
theorem dX12_init_141 : decode cX12_init 141 = .ok (.iconst 1, 1) := dcX12_init_10.2.1
theorem dX12_init_142 : decode cX12_init 142 = .ok (.bipush 117, 2) := dcX12_init_10.2.2.1
theorem dX12_init_144 : decode cX12_init 144 = .ok (.iastore, 1) := dcX12_init_10.2.2.2.1
theorem dX12_init_145 : decode cX12_init 145 = .ok (.dup, 1) := dcX12_init_10.2.2.2.2.1
theorem dX12_init_146 : decode cX12_init 146 = .ok (.iconst 2, 1) := dcX12_init_10.2.2.2.2.2.1
theorem dX12_init_147 : decode cX12_init 147 = .ok (.bipush 108, 2) := dcX12_init_10.2.2.2.2.2.2.1
theorem dX12_init_149 : decode cX12_init 149 = .ok (.iastore, 1) := dcX12_init_10.2.2.2.2.2.2.2
theorem dcX12_init_11 : (decode cX12_init 150 = .ok (.dup, 1)) ∧ (decode cX12_init 151 = .ok (.iconst 3, 1)) ∧ (decode cX12_init 152 = .ok (.bipush 108, 2)) ∧ (decode cX12_init 154 = .ok (.iastore, 1)) ∧ (decode cX12_init 155 = .ok (.dup, 1)) ∧ (decode cX12_init 156 = .ok (.iconst 4, 1)) ∧ (decode cX12_init 157 = .ok (.bipush 115, 2)) ∧ (decode cX12_init 159 = .ok (.iastore, 1)) := by decide +kernel
theorem dX12_init_150 : decode cX12_init 150 = .ok (.dup, 1) := dcX12_init_11.1
theorem dX12_init_151 : decode cX12_init 151 = .ok (.iconst 3, 1) := dcX12_init_11.2.1
theorem dX12_init_152 : decode cX12_init 152 = .ok (.bipush 108, 2) := dcX12_init_11.2.2.1
theorem dX12_init_154 : decode cX12_init 154 = .ok (.iastore, 1) := dcX12_init_11.2.2.2.1
theorem dX12_init_155 : decode cX12_init 155 = .ok (.dup, 1) := dcX12_init_11.2.2.2.2.1
theorem dX12_init_156 : decode cX12_init 156 = .ok (.iconst 4, 1) := dcX12_init_11.2.2.2.2.2.1
theorem dX12_init_157 : decode cX12_init 157 = .ok (.bipush 115, 2) := dcX12_init_11.2.2.2.2.2.2.1
theorem dX12_init_159 : decode cX12_init 159 = .ok (.iastore, 1) := dcX12_init_11.2.2.2.2.2.2.2
theorem dcX12_init_12 : (decode cX12_init 160 = .ok (.dup, 1)) ∧ (decode cX12_init 161 = .ok (.iconst 5, 1)) ∧ (decode cX12_init 162 = .ok (.bipush 32, 2)) ∧ (decode cX12_init 164 = .ok (.iastore, 1)) ∧ (decode cX12_init 165 = .ok (.dup, 1)) ∧ (decode cX12_init 166 = .ok (.bipush 6, 2)) ∧ (decode cX12_init 168 = .ok (.bipush 51, 2)) ∧ (decode cX12_init 170 = .ok (.iastore, 1)) := by decide +kernel
theorem dX12_init_160 : decode cX12_init 160 = .ok (.dup, 1) := dcX12_init_12.1
theorem dX12_init_161 : decode cX12_init 161 = .ok (.iconst 5, 1) := dcX12_init_12.2.1
theorem dX12_init_162 : decode cX12_init 162 = .ok (.bipush 32, 2) := dcX12_init_12.2.2.1
theorem dX12_init_164 : decode cX12_init 164 = .ok (.iastore, 1) := dcX12_init_12.2.2.2.1
theorem dX12_init_165 : decode cX12_init 165 = .ok (.dup, 1) := dcX12_init_12.2.2.2.2.1
theorem dX12_init_166 : decode cX12_init 166 = .ok (.bipush 6, 2) := dcX12_init_12.2.2.2.2.2.1
theorem dX12_init_168 : decode cX12_init 168 = .ok (.bipush 51, 2) := dcX12_init_12.2.2.2.2.2.2.1
theorem dX12_init_170 : decode cX12_init 170 = .ok (.iastore, 1) := dcX12_init_12.2.2.2.2.2.2.2
theorem dcX12_init_13 : (decode cX12_init 171 = .ok (.dup, 1)) ∧ (decode cX12_init 172 = .ok (.bipush 7, 2)) ∧ (decode cX12_init 174 = .ok (.bipush 32, 2)) ∧ (decode cX12_init 176 = .ok (.iastore, 1)) ∧ (decode cX12_init 177 = .ok (.dup, 1)) ∧ (decode cX12_init 178 = .ok (.bipush 8, 2)) ∧ (decode cX12_init 180 = .ok (.bipush 59, 2)) ∧ (decode cX12_init 182 = .ok (.iastore, 1)) := by decide +kernel
theorem dX12_init_171 : decode cX12_init 171 = .ok (.dup, 1) := dcX12_init_13.1
theorem dX12_init_172 : decode cX12_init 172 = .ok (.bipush 7, 2) := dcX12_init_13.2.1
theorem dX12_init_174 : decode cX12_init 174 = .ok (.bipush 32, 2) := dcX12_init_13.2.2.1
theorem dX12_init_176 : decode cX12_init 176 = .ok (.iastore, 1) := dcX12_init_13.2.2.2.1
theorem dX12_init_177 : decode cX12_init 177 = .ok (.dup, 1) := dcX12_init_13.2.2.2.2.1
theorem dX12_init_178 : decode cX12_init 178 = .ok (.bipush 8, 2) := dcX12_init_13.2.2.2.2.2.1
theorem dX12_init_180 : decode cX12_init 180 = .ok (.bipush 59, 2) := dcX12_init_13.2.2.2.2.2.2.1
theorem dX12_init_182 : decode cX12_init 182 = .ok (.iastore, 1) := dcX12_init_13.2.2.2.2.2.2.2
theorem dcX12_init_14 : (decode cX12_init 183 = .ok (.dup, 1)) ∧ (decode cX12_init 184 = .ok (.bipush 9, 2)) ∧ (decode cX12_init 186 = .ok (.bipush 32, 2)) ∧ (decode cX12_init 188 = .ok (.iastore, 1)) ∧ (decode cX12_init 189 = .ok (.dup, 1)) ∧ (decode cX12_init 190 = .ok (.bipush 10, 2)) ∧ (decode cX12_init 192 = .ok (.bipush 108, 2)) ∧ (decode cX12_init 194 = .ok (.iastore, 1)) := by decide +kernel
theorem dX12_init_183 : decode cX12_init 183 = .ok (.dup, 1) := dcX12_init_14.1
theorem dX12_init_184 : decode cX12_init 184 = .ok (.bipush 9, 2) := dcX12_init_14.2.1
theorem dX12_init_186 : decode cX12_init 186 = .ok (.bipush 32, 2) := dcX12_init_14.2.2.1
theorem dX12_init_188 : decode cX12_init 188 = .ok (.iastore, 1) := dcX12_init_14.2.2.2.1
theorem dX12_init_189 : decode cX12_init 189 = .ok (.dup, 1) := dcX12_init_14.2.2.2.2.1
theorem dX12_init_190 : decode cX12_init 190 = .ok (.bipush 10, 2) := dcX12_init_14.2.2.2.2.2.1
theorem dX12_init_192 : decode cX12_init 192 = .ok (.bipush 108, 2) := dcX12_init_14.2.2.2.2.2.2.1
theorem dX12_init_194 : decode cX12_init 194 = .ok (.iastore, 1) := dcX12_init_14.2.2.2.2.2.2.2
theorem dcX12_init_15 : (decode cX12_init 195 = .ok (.dup, 1)) ∧ (decode cX12_init 196 = .ok (.bipush 11, 2)) ∧ (decode cX12_init 198 = .ok (.bipush 105, 2)) ∧ (decode cX12_init 200 = .ok (.iastore, 1)) ∧ (decode cX12_init 201 = .ok (.dup, 1)) ∧ (decode cX12_init 202 = .ok (.bipush 12, 2)) ∧ (decode cX12_init 204 = .ok (.bipush 109, 2)) ∧ (decode cX12_init 206 = .ok (.iastore, 1)) := by decide +kernel
theorem dX12_init_195 : decode cX12_init 195 = .ok (.dup, 1) := dcX12_init_15.1
theorem dX12_init_196 : decode cX12_init 196 = .ok (.bipush 11, 2) := dcX12_init_15.2.1
theorem dX12_init_198 : decode cX12_init 198 = .ok (.bipush 105, 2) := dcX12_init_15.2.2.1
theorem dX12_init_200 : decode cX12_init 200 = .ok (.iastore, 1) := dcX12_init_15.2.2.2.1
theorem dX12_init_201 : decode cX12_init 201 = .ok (.dup, 1) := dcX12_init_15.2.2.2.2.1
theorem dX12_init_202 : decode cX12_init 202 = .ok (.bipush 12, 2) := dcX12_init_15.2.2.2.2.2.1
theorem dX12_init_204 : decode cX12_init 204 = .ok (.bipush 109, 2) := dcX12_init_15.2.2.2.2.2.2.1
theorem dX12_init_206 : decode cX12_init 206 = .ok (.iastore, 1) := dcX12_init_15.2.2.2.2.2.2.2
theorem dcX12_init_16 : (decode cX12_init 207 = .ok (.dup, 1)) ∧ (decode cX12_init 208 = .ok (.bipush 13, 2)) ∧ (decode cX12_init 210 = .ok (.bipush 105, 2)) ∧ (decode cX12_init 212 = .ok (.iastore, 1)) ∧ (decode cX12_init 213 = .ok (.dup, 1)) ∧ (decode cX12_init 214 = .ok (.bipush 14, 2)) ∧ (decode cX12_init 216 = .ok (.bipush 116, 2)) ∧ (decode cX12_init 218 = .ok (.iastore, 1)) := by decide +kernel
theorem dX12_init_207 : decode cX12_init 207 = .ok (.dup, 1) := dcX12_init_16.1
theorem dX12_init_208 : decode cX12_init 208 = .ok (.bipush 13, 2) := dcX12_init_16.2.1
theorem dX12_init_210 : decode cX12_init 210 = .ok (.bipush 105, 2) := dcX12_init_16.2.2.1
theorem dX12_init_212 : decode cX12_init 212 = .ok (.iastore, 1) := dcX12_init_16.2.2.2.1
theorem dX12_init_213 : decode cX12_init 213 = .ok (.dup, 1) := dcX12_init_16.2.2.2.2.1
theorem dX12_init_214 : decode cX12_init 214 = .ok (.bipush 14, 2) := dcX12_init_16.2.2.2.2.2.1
theorem dX12_init_216 : decode cX12_init 216 = .ok (.bipush 116, 2) := dcX12_init_16.2.2.2.2.2.2.1
theorem dX12_init_218 : decode cX12_init 218 = .ok (.iastore, 1) := dcX12_init_16.2.2.2.2.2.2.2
theorem dcX12_init_17 : (decode cX12_init 219 = .ok (.dup, 1)) ∧ (decode cX12_init 220 = .ok (.bipush 15, 2)) ∧ (decode cX12_init 222 = .ok (.bipush 32, 2)) ∧ (decode cX12_init 224 = .ok (.iastore, 1)) ∧ (decode cX12_init 225 = .ok (.dup, 1)) ∧ (decode cX12_init 226 = .ok (.bipush 16, 2)) ∧ (decode cX12_init 228 = .ok (.bipush 49, 2)) ∧ (decode cX12_init 230 = .ok (.iastore, 1)) := by decide +kernel
theorem dX12_init_219 : decode cX12_init 219 = .ok (.dup, 1) := dcX12_init_17.1
theorem dX12_init_220 : decode cX12_init 220 = .ok (.bipush 15, 2) := dcX12_init_17.2.1
theorem dX12_init_222 : decode cX12_init 222 = .ok (.bipush 32, 2) := dcX12_init_17.2.2.1
theorem dX12_init_224 : decode cX12_init 224 = .ok (.iastore, 1) := dcX12_init_17.2.2.2.1
theorem dX12_init_225 : decode cX12_init 225 = .ok (.dup, 1) := dcX12_init_17.2.2.2.2.1
theorem dX12_init_226 : decode cX12_init 226 = .ok (.bipush 16, 2) := dcX12_init_17.2.2.2.2.2.1
theorem dX12_init_228 : decode cX12_init 228 = .ok (.bipush 49, 2) := dcX12_init_17.2.2.2.2.2.2.1
theorem dX12_init_230 : decode cX12_init 230 = .ok (.iastore, 1) := dcX12_init_17.2.2.2.2.2.2.2
theorem dcX12_init_18 : (decode cX12_init 231 = .ok (.dup, 1)) ∧ (decode cX12_init 232 = .ok (.bipush 17, 2)) ∧ (decode cX12_init 234 = .ok (.bipush 48, 2)) ∧ (decode cX12_init 236 = .ok (.iastore, 1)) ∧ (decode cX12_init 237 = .ok (.dup, 1)) ∧ (decode cX12_init 238 = .ok (.bipush 18, 2)) ∧ (decode cX12_init 240 = .ok (.bipush 32, 2)) ∧ (decode cX12_init 242 = .ok (.iastore, 1)) := by decide +kernel
theorem dX12_init_231 : decode cX12_init 231 = .ok (.dup, 1) := dcX12_init_18.1
theorem dX12_init_232 : decode cX12_init 232 = .ok (.bipush 17, 2) := dcX12_init_18.2.1
theorem dX12_init_234 : decode cX12_init 234 = .ok (.bipush 48, 2) := dcX12_init_18.2.2.1
theorem dX12_init_236 : decode cX12_init 236 = .ok (.iastore, 1) := dcX12_init_18.2.2.2.1
theorem dX12_init_237 : decode cX12_init 237 = .ok (.dup, 1) := dcX12_init_18.2.2.2.2.1
theorem dX12_init_238 : decode cX12_init 238 = .ok (.bipush 18, 2) := dcX12_init_18.2.2.2.2.2.1
theorem dX12_init_240 : decode cX12_init 240 = .ok (.bipush 32, 2) := dcX12_init_18.2.2.2.2.2.2.1
theorem dX12_init_242 : decode cX12_init 242 = .ok (.iastore, 1) := dcX12_init_18.2.2.2.2.2.2.2
theorem dcX12_init_19 : (decode cX12_init 243 = .ok (.dup, 1)) ∧ (decode cX12_init 244 = .ok (.bipush 19, 2)) ∧ (decode cX12_init 246 = .ok (.bipush 59, 2)) ∧ (decode cX12_init 248 = .ok (.iastore, 1)) ∧ (decode cX12_init 249 = .ok (.dup, 1)) ∧ (decode cX12_init 250 = .ok (.bipush 20, 2)) ∧ (decode cX12_init 252 = .ok (.bipush 32, 2)) ∧ (decode cX12_init 254 = .ok (.iastore, 1)) := by decide +kernel
theorem dX12_init_243 : decode cX12_init 243 = .ok (.dup, 1) := dcX12_init_19.1
theorem dX12_init_244 : decode cX12_init 244 = .ok (.bipush 19, 2) := dcX12_init_19.2.1
theorem dX12_init_246 : decode cX12_init 246 = .ok (.bipush 59, 2) := dcX12_init_19.2.2.1
theorem dX12_init_248 : decode cX12_init 248 = .ok (.iastore, 1) := dcX12_init_19.2.2.2.1
theorem dX12_init_249 : decode cX12_init 249 = .ok (.dup, 1) := dcX12_init_19.2.2.2.2.1
theorem dX12_init_250 : decode cX12_init 250 = .ok (.bipush 20, 2) := dcX12_init_19.2.2.2.2.2.1
theorem dX12_init_252 : decode cX12_init 252 = .ok (.bipush 32, 2) := dcX12_init_19.2.2.2.2.2.2.1
theorem dX12_init_254 : decode cX12_init 254 = .ok (.iastore, 1) := dcX12_init_19.2.2.2.2.2.2.2
theorem dcX12_init_20 : (decode cX12_init 255 = .ok (.dup, 1)) ∧ (decode cX12_init 256 = .ok (.bipush 21, 2)) ∧ (decode cX12_init 258 = .ok (.bipush 99, 2)) ∧ (decode cX12_init 260 = .ok (.iastore, 1)) ∧ (decode cX12_init 261 = .ok (.dup, 1)) ∧ (decode cX12_init 262 = .ok (.bipush 22, 2)) ∧ (decode cX12_init 264 = .ok (.bipush 111, 2)) ∧ (decode cX12_init 266 = .ok (.iastore, 1)) := by decide +kernel
theorem dX12_init_255 : decode cX12_init 255 = .ok (.dup, 1) := dcX12_init_20.1
theorem dX12_init_256 : decode cX12_init 256 = .ok (.bipush 21, 2) := dcX12_init_20.2.1
theorem dX12_init_258 : decode cX12_init 258 = .ok (.bipush 99, 2) := dcX12_init_20.2.2.1
theorem dX12_init_260 : decode cX12_init 260 = .ok (.iastore, 1) := dcX12_init_20.2.2.2.1
theorem dX12_init_261 : decode cX12_init 261 = .ok (.dup, 1) := dcX12_init_20.2.2.2.2.1
theorem dX12_init_262 : decode cX12_init 262 = .ok (.bipush 22, 2) := dcX12_init_20.2.2.2.2.2.1
theorem dX12_init_264 : decode cX12_init 264 = .ok (.bipush 111, 2) := dcX12_init_20.2.2.2.2.2.2.1
theorem dX12_init_266 : decode cX12_init 266 = .ok (.iastore, 1) := dcX12_init_20.2.2.2.2.2.2.2
theorem dcX12_init_21 : (decode cX12_init 267 = .ok (.dup, 1)) ∧ (decode cX12_init 268 = .ok (.bipush 23, 2)) ∧ (decode cX12_init 270 = .ok (.bipush 115, 2)) ∧ (decode cX12_init 272 = .ok (.iastore, 1)) ∧ (decode cX12_init 273 = .ok (.dup, 1)) ∧ (decode cX12_init 274 = .ok (.bipush 24, 2)) ∧ (decode cX12_init 276 = .ok (.bipush 116, 2)) ∧ (decode cX12_init 278 = .ok (.iastore, 1)) := by decide +kernel
theorem dX12_init_267 : decode cX12_init 267 = .ok (.dup, 1) := dcX12_init_21.1
theorem dX12_init_268 : decode cX12_init 268 = .ok (.bipush 23, 2) := dcX12_init_21.2.1
theorem dX12_init_270 : decode cX12_init 270 = .ok (.bipush 115, 2) := dcX12_init_21.2.2.1
theorem dX12_init_272 : decode cX12_init 272 = .ok (.iastore, 1) := dcX12_init_21.2.2.2.1
theorem dX12_init_273 : decode cX12_init 273 = .ok (.dup, 1) := dcX12_init_21.2.2.2.2.1
theorem dX12_init_274 : decode cX12_init 274 = .ok (.bipush 24, 2) := dcX12_init_21.2.2.2.2.2.1
theorem dX12_init_276 : decode cX12_init 276 = .ok (.bipush 116, 2) := dcX12_init_21.2.2.2.2.2.2.1
theorem dX12_init_278 : decode cX12_init 278 = .ok (.iastore, 1) := dcX12_init_21.2.2.2.2.2.2.2
theorem dcX12_init_22 : (decode cX12_init 279 = .ok (.dup, 1)) ∧ (decode cX12_init 280 = .ok (.bipush 25, 2)) ∧ (decode cX12_init 282 = .ok (.bipush 115, 2)) ∧ (decode cX12_init 284 = .ok (.iastore, 1)) ∧ (decode cX12_init 285 = .ok (.dup, 1)) ∧ (decode cX12_init 286 = .ok (.bipush 26, 2)) ∧ (decode cX12_init 288 = .ok (.bipush 32, 2)) ∧ (decode cX12_init 290 = .ok (.iastore, 1)) := by decide +kernel
theorem dX12_init_279 : decode cX12_init 279 = .ok (.dup, 1) := dcX12_init_22.1
theorem dX12_init_280 : decode cX12_init 280 = .ok (.bipush 25, 2) := dcX12_init_22.2.1
theorem dX12_init_282 : decode cX12_init 282 = .ok (.bipush 115, 2) := dcX12_init_22.2.2.1
theorem dX12_init_284 : decode cX12_init 284 = .ok (.iastore, 1) := dcX12_init_22.2.2.2.1
theorem dX12_init_285 : decode cX12_init 285 = .ok (.dup, 1) := dcX12_init_22.2.2.2.2.1
theorem dX12_init_286 : decode cX12_init 286 = .ok (.bipush 26, 2) := dcX12_init_22.2.2.2.2.2.1
theorem dX12_init_288 : decode cX12_init 288 = .ok (.bipush 32, 2) := dcX12_init_22.2.2.2.2.2.2.1
theorem dX12_init_290 : decode cX12_init 290 = .ok (.iastore, 1) := dcX12_init_22.2.2.2.2.2.2.2
theorem dcX12_init_23 : (decode cX12_init 291 = .ok (.dup, 1)) ∧ (decode cX12_init 292 = .ok (.bipush 27, 2)) ∧ (decode cX12_init 294 = .ok (.bipush 100, 2)) ∧ (decode cX12_init 296 = .ok (.iastore, 1)) ∧ (decode cX12_init 297 = .ok (.dup, 1)) ∧ (decode cX12_init 298 = .ok (.bipush 28, 2)) ∧ (decode cX12_init 300 = .ok (.bipush 117, 2)) ∧ (decode cX12_init 302 = .ok (.iastore, 1)) := by decide +kernel
theorem dX12_init_291 : decode cX12_init 291 = .ok (.dup, 1) := dcX12_init_23.1
theorem dX12_init_292 : decode cX12_init 292 = .ok (.bipush 27, 2) := dcX12_init_23.2.1
theorem dX12_init_294 : decode cX12_init 294 = .ok (.bipush 100, 2) := dcX12_init_23.2.2.1
theorem dX12_init_296 : decode cX12_init 296 = .ok (.iastore, 1) := dcX12_init_23.2.2.2.1
theorem dX12_init_297 : decode cX12_init 297 = .ok (.dup, 1) := dcX12_init_23.2.2.2.2.1
theorem dX12_init_298 : decode cX12_init 298 = .ok (.bipush 28, 2) := dcX12_init_23.2.2.2.2.2.1
theorem dX12_init_300 : decode cX12_init 300 = .ok (.bipush 117, 2) := dcX12_init_23.2.2.2.2.2.2.1
theorem dX12_init_302 : decode cX12_init 302 = .ok (.iastore, 1) := dcX12_init_23.2.2.2.2.2.2.2
theorem dcX12_init_24 : (decode cX12_init 303 = .ok (.dup, 1)) ∧ (decode cX12_init 304 = .ok (.bipush 29, 2)) ∧ (decode cX12_init 306 = .ok (.bipush 108, 2)) ∧ (decode cX12_init 308 = .ok (.iastore, 1)) ∧ (decode cX12_init 309 = .ok (.dup, 1)) ∧ (decode cX12_init 310 = .ok (.bipush 30, 2)) ∧ (decode cX12_init 312 = .ok (.bipush 108, 2)) ∧ (decode cX12_init 314 = .ok (.iastore, 1)) := by decide +kernel
theorem dX12_init_303 : decode cX12_init 303 = .ok (.dup, 1) := dcX12_init_24.1
theorem dX12_init_304 : decode cX12_init 304 = .ok (.bipush 29, 2) := dcX12_init_24.2.1
theorem dX12_init_306 : decode cX12_init 306 = .ok (.bipush 108, 2) := dcX12_init_24.2.2.1
theorem dX12_init_308 : decode cX12_init 308 = .ok (.iastore, 1) := dcX12_init_24.2.2.2.1
theorem dX12_init_309 : decode cX12_init 309 = .ok (.dup, 1) := dcX12_init_24.2.2.2.2.1
theorem dX12_init_310 : decode cX12_init 310 = .ok (.bipush 30, 2) := dcX12_init_24.2.2.2.2.2.1
theorem dX12_init_312 : decode cX12_init 312 = .ok (.bipush 108, 2) := dcX12_init_24.2.2.2.2.2.2.1
theorem dX12_init_314 : decode cX12_init 314 = .ok (.iastore, 1) := dcX12_init_24.2.2.2.2.2.2.2
theorem dcX12_init_25 : (decode cX12_init 315 = .ok (.dup, 1)) ∧ (decode cX12_init 316 = .ok (.bipush 31, 2)) ∧ (decode cX12_init 318 = .ok (.bipush 32, 2)) ∧ (decode cX12_init 320 = .ok (.iastore, 1)) ∧ (decode cX12_init 321 = .ok (.dup, 1)) ∧ (decode cX12_init 322 = .ok (.bipush 32, 2)) ∧ (decode cX12_init 324 = .ok (.bipush 59, 2)) ∧ (decode cX12_init 326 = .ok (.iastore, 1)) := by decide +kernel
theorem dX12_init_315 : decode cX12_init 315 = .ok (.dup, 1) := dcX12_init_25.1
theorem dX12_init_316 : decode cX12_init 316 = .ok (.bipush 31, 2) := dcX12_init_25.2.1
theorem dX12_init_318 : decode cX12_init 318 = .ok (.bipush 32, 2) := dcX12_init_25.2.2.1
theorem dX12_init_320 : decode cX12_init 320 = .ok (.iastore, 1) := dcX12_init_25.2.2.2.1
theorem dX12_init_321 : decode cX12_init 321 = .ok (.dup, 1) := dcX12_init_25.2.2.2.2.1
theorem dX12_init_322 : decode cX12_init 322 = .ok (.bipush 32, 2) := dcX12_init_25.2.2.2.2.2.1
theorem dX12_init_324 : decode cX12_init 324 = .ok (.bipush 59, 2) := dcX12_init_25.2.2.2.2.2.2.1
theorem dX12_init_326 : decode cX12_init 326 = .ok (.iastore, 1) := dcX12_init_25.2.2.2.2.2.2.2
theorem dcX12_init_26 : (decode cX12_init 327 = .ok (.putfield 53, 3)) ∧ (decode cX12_init 330 = .ok (.aload_n 0, 1)) ∧ (decode cX12_init 331 = .ok (.bipush 96, 2)) ∧ (decode cX12_init 333 = .ok (.newarray .int, 2)) ∧ (decode cX12_init 335 = .ok (.dup, 1)) ∧ (decode cX12_init 336 = .ok (.iconst 0, 1)) ∧ (decode cX12_init 337 = .ok (.bipush 100, 2)) ∧ (decode cX12_init 339 = .ok (.iastore, 1)) := by decide +kernel
theorem dX12_init_327 : decode cX12_init 327 = .ok (.putfield 53, 3) := dcX12_init_26.1
theorem dX12_init_330 : decode cX12_init 330 = .ok (.aload_n 0, 1) := dcX12_init_26.2.1
theorem dX12_init_331 : decode cX12_init 331 = .ok (.bipush 96, 2) := dcX12_init_26.2.2.1
theorem dX12_init_333 : decode cX12_init 333 = .ok (.newarray .int, 2) := dcX12_init_26.2.2.2.1
theorem dX12_init_335 : decode cX12_init 335 = .ok (.dup, 1) := dcX12_init_26.2.2.2.2.1
theorem dX12_init_336 : decode cX12_init 336 = .ok (.iconst 0, 1) := dcX12_init_26.2.2.2.2.2.1
theorem dX12_init_337 : decode cX12_init 337 = .ok (.bipush 100, 2) := dcX12_init_26.2.2.2.2.2.2.1
theorem dX12_init_339 : decode cX12_init 339 = .ok (.iastore, 1) := dcX12_init_26.2.2.2.2.2.2.2
theorem dcX12_init_27 : (decode cX12_init 340 = .ok (.dup, 1)) ∧ (decode cX12_init 341 = .ok (.iconst 1, 1)) ∧ (decode cX12_init 342 = .ok (.bipush 117, 2)) ∧ (decode cX12_init 344 = .ok (.iastore, 1)) ∧ (decode cX12_init 345 = .ok (.dup, 1)) ∧ (decode cX12_init 346 = .ok (.iconst 2, 1)) ∧ (decode cX12_init 347 = .ok (.bipush 108, 2)) ∧ (decode cX12_init 349 = .ok (.iastore, 1)) := by decide +kernel
theorem dX12_init_340 : decode cX12_init 340 = .ok (.dup, 1) := dcX12_init_27.1
theorem dX12_init_341 : decode cX12_init 341 = .ok (.iconst 1, 1) := dcX12_init_27.2.1
theorem dX12_init_342 : decode cX12_init 342 = .ok (.bipush 117, 2) := dcX12_init_27.2.2.1
theorem dX12_init_344 : decode cX12_init 344 = .ok (.iastore, 1) := dcX12_init_27.2.2.2.1
theorem dX12_init_345 : decode cX12_init 345 = .ok (.dup, 1) := dcX12_init_27.2.2.2.2.1
theorem dX12_init_346 : decode cX12_init 346 = .ok (.iconst 2, 1) := dcX12_init_27.2.2.2.2.2.1
theorem dX12_init_347 : decode cX12_init 347 = .ok (.bipush 108, 2) := dcX12_init_27.2.2.2.2.2.2.1
theorem dX12_init_349 : decode cX12_init 349 = .ok (.iastore, 1) := dcX12_init_27.2.2.2.2.2.2.2
theorem dcX12_init_28 : (decode cX12_init 350 = .ok (.dup, 1)) ∧ (decode cX12_init 351 = .ok (.iconst 3, 1)) ∧ (decode cX12_init 352 = .ok (.bipush 108, 2)) ∧ (decode cX12_init 354 = .ok (.iastore, 1)) ∧ (decode cX12_init 355 = .ok (.dup, 1)) ∧ (decode cX12_init 356 = .ok (.iconst 4, 1)) ∧ (decode cX12_init 357 = .ok (.bipush 115, 2)) ∧ (decode cX12_init 359 = .ok (.iastore, 1)) := by decide +kernel
theorem dX12_init_350 : decode cX12_init 350 = .ok (.dup, 1) := dcX12_init_28.1
theorem dX12_init_351 : decode cX12_init 351 = .ok (.iconst 3, 1) := dcX12_init_28.2.1
theorem dX12_init_352 : decode cX12_init 352 = .ok (.bipush 108, 2) := dcX12_init_28.2.2.1
theorem dX12_init_354 : decode cX12_init 354 = .ok (.iastore, 1) := dcX12_init_28.2.2.2.1
theorem dX12_init_355 : decode cX12_init 355 = .ok (.dup, 1) := dcX12_init_28.2.2.2.2.1
theorem dX12_init_356 : decode cX12_init 356 = .ok (.iconst 4, 1) := dcX12_init_28.2.2.2.2.2.1
theorem dX12_init_357 : decode cX12_init 357 = .ok (.bipush 115, 2) := dcX12_init_28.2.2.2.2.2.2.1
theorem dX12_init_359 : decode cX12_init 359 = .ok (.iastore, 1) := dcX12_init_28.2.2.2.2.2.2.2
theorem dcX12_init_29 : (decode cX12_init 360 = .ok (.dup, 1)) ∧ (decode cX12_init 361 = .ok (.iconst 5, 1)) ∧ (decode cX12_init 362 = .ok (.bipush 32, 2)) ∧ (decode cX12_init 364 = .ok (.iastore, 1)) ∧ (decode cX12_init 365 = .ok (.dup, 1)) ∧ (decode cX12_init 366 = .ok (.bipush 6, 2)) ∧ (decode cX12_init 368 = .ok (.bipush 32, 2)) ∧ (decode cX12_init 370 = .ok (.iastore, 1)) := by decide +kernel
theorem dX12_init_360 : decode cX12_init 360 = .ok (.dup, 1) := dcX12_init_29.1
theorem dX12_init_361 : decode cX12_init 361 = .ok (.iconst 5, 1) := dcX12_init_29.2.1
theorem dX12_init_362 : decode cX12_init 362 = .ok (.bipush 32, 2) := dcX12_init_29.2.2.1
theorem dX12_init_364 : decode cX12_init 364 = .ok (.iastore, 1) := dcX12_init_29.2.2.2.1
theorem dX12_init_365 : decode cX12_init 365 = .ok (.dup, 1) := dcX12_init_29.2.2.2.2.1
theorem dX12_init_366 : decode cX12_init 366 = .ok (.bipush 6, 2) := dcX12_init_29.2.2.2.2.2.1
theorem dX12_init_368 : decode cX12_init 368 = .ok (.bipush 32, 2) := dcX12_init_29.2.2.2.2.2.2.1
theorem dX12_init_370 : decode cX12_init 370 = .ok (.iastore, 1) := dcX12_init_29.2.2.2.2.2.2.2
theorem dcX12_init_30 : (decode cX12_init 371 = .ok (.dup, 1)) ∧ (decode cX12_init 372 = .ok (.bipush 7, 2)) ∧ (decode cX12_init 374 = .ok (.bipush 32, 2)) ∧ (decode cX12_init 376 = .ok (.iastore, 1)) ∧ (decode cX12_init 377 = .ok (.dup, 1)) ∧ (decode cX12_init 378 = .ok (.bipush 8, 2)) ∧ (decode cX12_init 380 = .ok (.bipush 108, 2)) ∧ (decode cX12_init 382 = .ok (.iastore, 1)) := by decide +kernel
theorem dX12_init_371 : decode cX12_init 371 = .ok (.dup, 1) := dcX12_init_30.1
theorem dX12_init_372 : decode cX12_init 372 = .ok (.bipush 7, 2) := dcX12_init_30.2.1
theorem dX12_init_374 : decode cX12_init 374 = .ok (.bipush 32, 2) := dcX12_init_30.2.2.1
theorem dX12_init_376 : decode cX12_init 376 = .ok (.iastore, 1) := dcX12_init_30.2.2.2.1
theorem dX12_init_377 : decode cX12_init 377 = .ok (.dup, 1) := dcX12_init_30.2.2.2.2.1
theorem dX12_init_378 : decode cX12_init 378 = .ok (.bipush 8, 2) := dcX12_init_30.2.2.2.2.2.1
theorem dX12_init_380 : decode cX12_init 380 = .ok (.bipush 108, 2) := dcX12_init_30.2.2.2.2.2.2.1
theorem dX12_init_382 : decode cX12_init 382 = .ok (.iastore, 1) := dcX12_init_30.2.2.2.2.2.2.2
theorem dcX12_init_31 : (decode cX12_init 383 = .ok (.dup, 1)) ∧ (decode cX12_init 384 = .ok (.bipush 9, 2)) ∧ (decode cX12_init 386 = .ok (.bipush 105, 2)) ∧ (decode cX12_init 388 = .ok (.iastore, 1)) ∧ (decode cX12_init 389 = .ok (.dup, 1)) ∧ (decode cX12_init 390 = .ok (.bipush 10, 2)) ∧ (decode cX12_init 392 = .ok (.bipush 109, 2)) ∧ (decode cX12_init 394 = .ok (.iastore, 1)) := by decide +kernel
theorem dX12_init_383 : decode cX12_init 383 = .ok (.dup, 1) := dcX12_init_31.1
theorem dX12_init_384 : decode cX12_init 384 = .ok (.bipush 9, 2) := dcX12_init_31.2.1
theorem dX12_init_386 : decode cX12_init 386 = .ok (.bipush 105, 2) := dcX12_init_31.2.2.1
theorem dX12_init_388 : decode cX12_init 388 = .ok (.iastore, 1) := dcX12_init_31.2.2.2.1
theorem dX12_init_389 : decode cX12_init 389 = .ok (.dup, 1) := dcX12_init_31.2.2.2.2.1
theorem dX12_init_390 : decode cX12_init 390 = .ok (.bipush 10, 2) := dcX12_init_31.2.2.2.2.2.1
theorem dX12_init_392 : decode cX12_init 392 = .ok (.bipush 109, 2) := dcX12_init_31.2.2.2.2.2.2.1
theorem dX12_init_394 : decode cX12_init 394 = .ok (.iastore, 1) := dcX12_init_31.2.2.2.2.2.2.2
theorem dcX12_init_32 : (decode cX12_init 395 = .ok (.dup, 1)) ∧ (decode cX12_init 396 = .ok (.bipush 11, 2)) ∧ (decode cX12_init 398 = .ok (.bipush 105, 2)) ∧ (decode cX12_init 400 = .ok (.iastore, 1)) ∧ (decode cX12_init 401 = .ok (.dup, 1)) ∧ (decode cX12_init 402 = .ok (.bipush 12, 2)) ∧ (decode cX12_init 404 = .ok (.bipush 116, 2)) ∧ (decode cX12_init 406 = .ok (.iastore, 1)) := by decide +kernel
theorem dX12_init_395 : decode cX12_init 395 = .ok (.dup, 1) := dcX12_init_32.1
theorem dX12_init_396 : decode cX12_init 396 = .ok (.bipush 11, 2) := dcX12_init_32.2.1
theorem dX12_init_398 : decode cX12_init 398 = .ok (.bipush 105, 2) := dcX12_init_32.2.2.1
theorem dX12_init_400 : decode cX12_init 400 = .ok (.iastore, 1) := dcX12_init_32.2.2.2.1
theorem dX12_init_401 : decode cX12_init 401 = .ok (.dup, 1) := dcX12_init_32.2.2.2.2.1
theorem dX12_init_402 : decode cX12_init 402 = .ok (.bipush 12, 2) := dcX12_init_32.2.2.2.2.2.1
theorem dX12_init_404 : decode cX12_init 404 = .ok (.bipush 116, 2) := dcX12_init_32.2.2.2.2.2.2.1
theorem dX12_init_406 : decode cX12_init 406 = .ok (.iastore, 1) := dcX12_init_32.2.2.2.2.2.2.2
theorem dcX12_init_33 : (decode cX12_init 407 = .ok (.dup, 1)) ∧ (decode cX12_init 408 = .ok (.bipush 13, 2)) ∧ (decode cX12_init 410 = .ok (.bipush 32, 2)) ∧ (decode cX12_init 412 = .ok (.iastore, 1)) ∧ (decode cX12_init 413 = .ok (.dup, 1)) ∧ (decode cX12_init 414 = .ok (.bipush 14, 2)) ∧ (decode cX12_init 416 = .ok (.bipush 32, 2)) ∧ (decode cX12_init 418 = .ok (.iastore, 1)) := by decide +kernel
theorem dX12_init_407 : decode cX12_init 407 = .ok (.dup, 1) := dcX12_init_33.1
theorem dX12_init_408 : decode cX12_init 408 = .ok (.bipush 13, 2) := dcX12_init_33.2.1
theorem dX12_init_410 : decode cX12_init 410 = .ok (.bipush 32, 2) := dcX12_init_33.2.2.1
theorem dX12_init_412 : decode cX12_init 412 = .ok (.iastore, 1) := dcX12_init_33.2.2.2.1
theorem dX12_init_413 : decode cX12_init 413 = .ok (.dup, 1) := dcX12_init_33.2.2.2.2.1
theorem dX12_init_414 : decode cX12_init 414 = .ok (.bipush 14, 2) := dcX12_init_33.2.2.2.2.2.1
theorem dX12_init_416 : decode cX12_init 416 = .ok (.bipush 32, 2) := dcX12_init_33.2.2.2.2.2.2.1
theorem dX12_init_418 : decode cX12_init 418 = .ok (.iastore, 1) := dcX12_init_33.2.2.2.2.2.2.2
theorem dcX12_init_34 : (decode cX12_init 419 = .ok (.dup, 1)) ∧ (decode cX12_init 420 = .ok (.bipush 15, 2)) ∧ (decode cX12_init 422 = .ok (.bipush 32, 2)) ∧ (decode cX12_init 424 = .ok (.iastore, 1)) ∧ (decode cX12_init 425 = .ok (.dup, 1)) ∧ (decode cX12_init 426 = .ok (.bipush 16, 2)) ∧ (decode cX12_init 428 = .ok (.bipush 99, 2)) ∧ (decode cX12_init 430 = .ok (.iastore, 1)) := by decide +kernel
theorem dX12_init_419 : decode cX12_init 419 = .ok (.dup, 1) := dcX12_init_34.1
theorem dX12_init_420 : decode cX12_init 420 = .ok (.bipush 15, 2) := dcX12_init_34.2.1
theorem dX12_init_422 : decode cX12_init 422 = .ok (.bipush 32, 2) := dcX12_init_34.2.2.1
theorem dX12_init_424 : decode cX12_init 424 = .ok (.iastore, 1) := dcX12_init_34.2.2.2.1
theorem dX12_init_425 : decode cX12_init 425 = .ok (.dup, 1) := dcX12_init_34.2.2.2.2.1
theorem dX12_init_426 : decode cX12_init 426 = .ok (.bipush 16, 2) := dcX12_init_34.2.2.2.2.2.1
theorem dX12_init_428 : decode cX12_init 428 = .ok (.bipush 99, 2) := dcX12_init_34.2.2.2.2.2.2.1
theorem dX12_init_430 : decode cX12_init 430 = .ok (.iastore, 1) := dcX12_init_34.2.2.2.2.2.2.2
theorem dcX12_init_35 : (decode cX12_init 431 = .ok (.dup, 1)) ∧ (decode cX12_init 432 = .ok (.bipush 17, 2)) ∧ (decode cX12_init 434 = .ok (.bipush 111, 2)) ∧ (decode cX12_init 436 = .ok (.iastore, 1)) ∧ (decode cX12_init 437 = .ok (.dup, 1)) ∧ (decode cX12_init 438 = .ok (.bipush 18, 2)) ∧ (decode cX12_init 440 = .ok (.bipush 115, 2)) ∧ (decode cX12_init 442 = .ok (.iastore, 1)) := by decide +kernel
theorem dX12_init_431 : decode cX12_init 431 = .ok (.dup, 1) := dcX12_init_35.1
theorem dX12_init_432 : decode cX12_init 432 = .ok (.bipush 17, 2) := dcX12_init_35.2.1
theorem dX12_init_434 : decode cX12_init 434 = .ok (.bipush 111, 2) := dcX12_init_35.2.2.1
theorem dX12_init_436 : decode cX12_init 436 = .ok (.iastore, 1) := dcX12_init_35.2.2.2.1
theorem dX12_init_437 : decode cX12_init 437 = .ok (.dup, 1) := dcX12_init_35.2.2.2.2.1
theorem dX12_init_438 : decode cX12_init 438 = .ok (.bipush 18, 2) := dcX12_init_35.2.2.2.2.2.1
theorem dX12_init_440 : decode cX12_init 440 = .ok (.bipush 115, 2) := dcX12_init_35.2.2.2.2.2.2.1
theorem dX12_init_442 : decode cX12_init 442 = .ok (.iastore, 1) := dcX12_init_35.2.2.2.2.2.2.2
theorem dcX12_init_36 : (decode cX12_init 443 = .ok (.dup, 1)) ∧ (decode cX12_init 444 = .ok (.bipush 19, 2)) ∧ (decode cX12_init 446 = .ok (.bipush 116, 2)) ∧ (decode cX12_init 448 = .ok (.iastore, 1)) ∧ (decode cX12_init 449 = .ok (.dup, 1)) ∧ (decode cX12_init 450 = .ok (.bipush 20, 2)) ∧ (decode cX12_init 452 = .ok (.bipush 115, 2)) ∧ (decode cX12_init 454 = .ok (.iastore, 1)) := by decide +kernel
theorem dX12_init_443 : decode cX12_init 443 = .ok (.dup, 1) := dcX12_init_36.1
theorem dX12_init_444 : decode cX12_init 444 = .ok (.bipush 19, 2) := dcX12_init_36.2.1
theorem dX12_init_446 : decode cX12_init 446 = .ok (.bipush 116, 2) := dcX12_init_36.2.2.1
theorem dX12_init_448 : decode cX12_init 448 = .ok (.iastore, 1) := dcX12_init_36.2.2.2.1
theorem dX12_init_449 : decode cX12_init 449 = .ok (.dup, 1) := dcX12_init_36.2.2.2.2.1
theorem dX12_init_450 : decode cX12_init 450 = .ok (.bipush 20, 2) := dcX12_init_36.2.2.2.2.2.1
theorem dX12_init_452 : decode cX12_init 452 = .ok (.bipush 115, 2) := dcX12_init_36.2.2.2.2.2.2.1
theorem dX12_init_454 : decode cX12_init 454 = .ok (.iastore, 1) := dcX12_init_36.2.2.2.2.2.2.2
theorem dcX12_init_37 : (decode cX12_init 455 = .ok (.dup, 1)) ∧ (decode cX12_init 456 = .ok (.bipush 21, 2)) ∧ (decode cX12_init 458 = .ok (.bipush 32, 2)) ∧ (decode cX12_init 460 = .ok (.iastore, 1)) ∧ (decode cX12_init 461 = .ok (.dup, 1)) ∧ (decode cX12_init 462 = .ok (.bipush 22, 2)) ∧ (decode cX12_init 464 = .ok (.bipush 32, 2)) ∧ (decode cX12_init 466 = .ok (.iastore, 1)) := by decide +kernel
theorem dX12_init_455 : decode cX12_init 455 = .ok (.dup, 1) := dcX12_init_37.1
theorem dX12_init_456 : decode cX12_init 456 = .ok (.bipush 21, 2) := dcX12_init_37.2.1
theorem dX12_init_458 : decode cX12_init 458 = .ok (.bipush 32, 2) := dcX12_init_37.2.2.1
theorem dX12_init_460 : decode cX12_init 460 = .ok (.iastore, 1) := dcX12_init_37.2.2.2.1
theorem dX12_init_461 : decode cX12_init 461 = .ok (.dup, 1) := dcX12_init_37.2.2.2.2.1
theorem dX12_init_462 : decode cX12_init 462 = .ok (.bipush 22, 2) := dcX12_init_37.2.2.2.2.2.1
theorem dX12_init_464 : decode cX12_init 464 = .ok (.bipush 32, 2) := dcX12_init_37.2.2.2.2.2.2.1
theorem dX12_init_466 : decode cX12_init 466 = .ok (.iastore, 1) := dcX12_init_37.2.2.2.2.2.2.2
theorem dcX12_init_38 : (decode cX12_init 467 = .ok (.dup, 1)) ∧ (decode cX12_init 468 = .ok (.bipush 23, 2)) ∧ (decode cX12_init 470 = .ok (.bipush 32, 2)) ∧ (decode cX12_init 472 = .ok (.iastore, 1)) ∧ (decode cX12_init 473 = .ok (.dup, 1)) ∧ (decode cX12_init 474 = .ok (.bipush 24, 2)) ∧ (decode cX12_init 476 = .ok (.bipush 99, 2)) ∧ (decode cX12_init 478 = .ok (.iastore, 1)) := by decide +kernel
theorem dX12_init_467 : decode cX12_init 467 = .ok (.dup, 1) := dcX12_init_38.1
theorem dX12_init_468 : decode cX12_init 468 = .ok (.bipush 23, 2) := dcX12_init_38.2.1
theorem dX12_init_470 : decode cX12_init 470 = .ok (.bipush 32, 2) := dcX12_init_38.2.2.1
theorem dX12_init_472 : decode cX12_init 472 = .ok (.iastore, 1) := dcX12_init_38.2.2.2.1
theorem dX12_init_473 : decode cX12_init 473 = .ok (.dup, 1) := dcX12_init_38.2.2.2.2.1
theorem dX12_init_474 : decode cX12_init 474 = .ok (.bipush 24, 2) := dcX12_init_38.2.2.2.2.2.1
theorem dX12_init_476 : decode cX12_init 476 = .ok (.bipush 99, 2) := dcX12_init_38.2.2.2.2.2.2.1
theorem dX12_init_478 : decode cX12_init 478 = .ok (.iastore, 1) := dcX12_init_38.2.2.2.2.2.2.2
theorem dcX12_init_39 : (decode cX12_init 479 = .ok (.dup, 1)) ∧ (decode cX12_init 480 = .ok (.bipush 25, 2)) ∧ (decode cX12_init 482 = .ok (.bipush 111, 2)) ∧ (decode cX12_init 484 = .ok (.iastore, 1)) ∧ (decode cX12_init 485 = .ok (.dup, 1)) ∧ (decode cX12_init 486 = .ok (.bipush 26, 2)) ∧ (decode cX12_init 488 = .ok (.bipush 108, 2)) ∧ (decode cX12_init 490 = .ok (.iastore, 1)) := by decide +kernel
theorem dX12_init_479 : decode cX12_init 479 = .ok (.dup, 1) := dcX12_init_39.1
theorem dX12_init_480 : decode cX12_init 480 = .ok (.bipush 25, 2) := dcX12_init_39.2.1
theorem dX12_init_482 : decode cX12_init 482 = .ok (.bipush 111, 2) := dcX12_init_39.2.2.1
theorem dX12_init_484 : decode cX12_init 484 = .ok (.iastore, 1) := dcX12_init_39.2.2.2.1
theorem dX12_init_485 : decode cX12_init 485 = .ok (.dup, 1) := dcX12_init_39.2.2.2.2.1
theorem dX12_init_486 : decode cX12_init 486 = .ok (.bipush 26, 2) := dcX12_init_39.2.2.2.2.2.1
theorem dX12_init_488 : decode cX12_init 488 = .ok (.bipush 108, 2) := dcX12_init_39.2.2.2.2.2.2.1
theorem dX12_init_490 : decode cX12_init 490 = .ok (.iastore, 1) := dcX12_init_39.2.2.2.2.2.2.2
theorem dcX12_init_40 : (decode cX12_init 491 = .ok (.dup, 1)) ∧ (decode cX12_init 492 = .ok (.bipush 27, 2)) ∧ (decode cX12_init 494 = .ok (.bipush 117, 2)) ∧ (decode cX12_init 496 = .ok (.iastore, 1)) ∧ (decode cX12_init 497 = .ok (.dup, 1)) ∧ (decode cX12_init 498 = .ok (.bipush 28, 2)) ∧ (decode cX12_init 500 = .ok (.bipush 109, 2)) ∧ (decode cX12_init 502 = .ok (.iastore, 1)) := by decide +kernel
theorem dX12_init_491 : decode cX12_init 491 = .ok (.dup, 1) := dcX12_init_40.1
theorem dX12_init_492 : decode cX12_init 492 = .ok (.bipush 27, 2) := dcX12_init_40.2.1
theorem dX12_init_494 : decode cX12_init 494 = .ok (.bipush 117, 2) := dcX12_init_40.2.2.1
theorem dX12_init_496 : decode cX12_init 496 = .ok (.iastore, 1) := dcX12_init_40.2.2.2.1
theorem dX12_init_497 : decode cX12_init 497 = .ok (.dup, 1) := dcX12_init_40.2.2.2.2.1
theorem dX12_init_498 : decode cX12_init 498 = .ok (.bipush 28, 2) := dcX12_init_40.2.2.2.2.2.1
theorem dX12_init_500 : decode cX12_init 500 = .ok (.bipush 109, 2) := dcX12_init_40.2.2.2.2.2.2.1
theorem dX12_init_502 : decode cX12_init 502 = .ok (.iastore, 1) := dcX12_init_40.2.2.2.2.2.2.2
theorem dcX12_init_41 : (decode cX12_init 503 = .ok (.dup, 1)) ∧ (decode cX12_init 504 = .ok (.bipush 29, 2)) ∧ (decode cX12_init 506 = .ok (.bipush 110, 2)) ∧ (decode cX12_init 508 = .ok (.iastore, 1)) ∧ (decode cX12_init 509 = .ok (.dup, 1)) ∧ (decode cX12_init 510 = .ok (.bipush 30, 2)) ∧ (decode cX12_init 512 = .ok (.bipush 32, 2)) ∧ (decode cX12_init 514 = .ok (.iastore, 1)) := by decide +kernel
theorem dX12_init_503 : decode cX12_init 503 = .ok (.dup, 1) := dcX12_init_41.1
theorem dX12_init_504 : decode cX12_init 504 = .ok (.bipush 29, 2) := dcX12_init_41.2.1
theorem dX12_init_506 : decode cX12_init 506 = .ok (.bipush 110, 2) := dcX12_init_41.2.2.1
theorem dX12_init_508 : decode cX12_init 508 = .ok (.iastore, 1) := dcX12_init_41.2.2.2.1
theorem dX12_init_509 : decode cX12_init 509 = .ok (.dup, 1) := dcX12_init_41.2.2.2.2.1
theorem dX12_init_510 : decode cX12_init 510 = .ok (.bipush 30, 2) := dcX12_init_41.2.2.2.2.2.1
theorem dX12_init_512 : decode cX12_init 512 = .ok (.bipush 32, 2) := dcX12_init_41.2.2.2.2.2.2.1
theorem dX12_init_514 : decode cX12_init 514 = .ok (.iastore, 1) := dcX12_init_41.2.2.2.2.2.2.2
theorem dcX12_init_42 : (decode cX12_init 515 = .ok (.dup, 1)) ∧ (decode cX12_init 516 = .ok (.bipush 31, 2)) ∧ (decode cX12_init 518 = .ok (.bipush 32, 2)) ∧ (decode cX12_init 520 = .ok (.iastore, 1)) ∧ (decode cX12_init 521 = .ok (.dup, 1)) ∧ (decode cX12_init 522 = .ok (.bipush 32, 2)) ∧ (decode cX12_init 524 = .ok (.bipush 114, 2)) ∧ (decode cX12_init 526 = .ok (.iastore, 1)) := by decide +kernel
theorem dX12_init_515 : decode cX12_init 515 = .ok (.dup, 1) := dcX12_init_42.1
theorem dX12_init_516 : decode cX12_init 516 = .ok (.bipush 31, 2) := dcX12_init_42.2.1
theorem dX12_init_518 : decode cX12_init 518 = .ok (.bipush 32, 2) := dcX12_init_42.2.2.1
theorem dX12_init_520 : decode cX12_init 520 = .ok (.iastore, 1) := dcX12_init_42.2.2.2.1
theorem dX12_init_521 : decode cX12_init 521 = .ok (.dup, 1) := dcX12_init_42.2.2.2.2.1
theorem dX12_init_522 : decode cX12_init 522 = .ok (.bipush 32, 2) := dcX12_init_42.2.2.2.2.2.1
theorem dX12_init_524 : decode cX12_init 524 = .ok (.bipush 114, 2) := dcX12_init_42.2.2.2.2.2.2.1
theorem dX12_init_526 : decode cX12_init 526 = .ok (.iastore, 1) := dcX12_init_42.2.2.2.2.2.2.2
theorem dcX12_init_43 : (decode cX12_init 527 = .ok (.dup, 1)) ∧ (decode cX12_init 528 = .ok (.bipush 33, 2)) ∧ (decode cX12_init 530 = .ok (.bipush 111, 2)) ∧ (decode cX12_init 532 = .ok (.iastore, 1)) ∧ (decode cX12_init 533 = .ok (.dup, 1)) ∧ (decode cX12_init 534 = .ok (.bipush 34, 2)) ∧ (decode cX12_init 536 = .ok (.bipush 119, 2)) ∧ (decode cX12_init 538 = .ok (.iastore, 1)) := by decide +kernel
theorem dX12_init_527 : decode cX12_init 527 = .ok (.dup, 1) := dcX12_init_43.1
theorem dX12_init_528 : decode cX12_init 528 = .ok (.bipush 33, 2) := dcX12_init_43.2.1
theorem dX12_init_530 : decode cX12_init 530 = .ok (.bipush 111, 2) := dcX12_init_43.2.2.1
theorem dX12_init_532 : decode cX12_init 532 = .ok (.iastore, 1) := dcX12_init_43.2.2.2.1
theorem dX12_init_533 : decode cX12_init 533 = .ok (.dup, 1) := dcX12_init_43.2.2.2.2.1
theorem dX12_init_534 : decode cX12_init 534 = .ok (.bipush 34, 2) := dcX12_init_43.2.2.2.2.2.1
theorem dX12_init_536 : decode cX12_init 536 = .ok (.bipush 119, 2) := dcX12_init_43.2.2.2.2.2.2.1
theorem dX12_init_538 : decode cX12_init 538 = .ok (.iastore, 1) := dcX12_init_43.2.2.2.2.2.2.2
theorem dcX12_init_44 : (decode cX12_init 539 = .ok (.dup, 1)) ∧ (decode cX12_init 540 = .ok (.bipush 35, 2)) ∧ (decode cX12_init 542 = .ok (.bipush 32, 2)) ∧ (decode cX12_init 544 = .ok (.iastore, 1)) ∧ (decode cX12_init 545 = .ok (.dup, 1)) ∧ (decode cX12_init 546 = .ok (.bipush 36, 2)) ∧ (decode cX12_init 548 = .ok (.bipush 32, 2)) ∧ (decode cX12_init 550 = .ok (.iastore, 1)) := by decide +kernel
theorem dX12_init_539 : decode cX12_init 539 = .ok (.dup, 1) := dcX12_init_44.1
theorem dX12_init_540 : decode cX12_init 540 = .ok (.bipush 35, 2) := dcX12_init_44.2.1
theorem dX12_init_542 : decode cX12_init 542 = .ok (.bipush 32, 2) := dcX12_init_44.2.2.1
theorem dX12_init_544 : decode cX12_init 544 = .ok (.iastore, 1) := dcX12_init_44.2.2.2.1
theorem dX12_init_545 : decode cX12_init 545 = .ok (.dup, 1) := dcX12_init_44.2.2.2.2.1
theorem dX12_init_546 : decode cX12_init 546 = .ok (.bipush 36, 2) := dcX12_init_44.2.2.2.2.2.1
theorem dX12_init_548 : decode cX12_init 548 = .ok (.bipush 32, 2) := dcX12_init_44.2.2.2.2.2.2.1
theorem dX12_init_550 : decode cX12_init 550 = .ok (.iastore, 1) := dcX12_init_44.2.2.2.2.2.2.2
theorem dcX12_init_45 : (decode cX12_init 551 = .ok (.dup, 1)) ∧ (decode cX12_init 552 = .ok (.bipush 37, 2)) ∧ (decode cX12_init 554 = .ok (.bipush 32, 2)) ∧ (decode cX12_init 556 = .ok (.iastore, 1)) ∧ (decode cX12_init 557 = .ok (.dup, 1)) ∧ (decode cX12_init 558 = .ok (.bipush 38, 2)) ∧ (decode cX12_init 560 = .ok (.bipush 32, 2)) ∧ (decode cX12_init 562 = .ok (.iastore, 1)) := by decide +kernel
theorem dX12_init_551 : decode cX12_init 551 = .ok (.dup, 1) := dcX12_init_45.1
theorem dX12_init_552 : decode cX12_init 552 = .ok (.bipush 37, 2) := dcX12_init_45.2.1
theorem dX12_init_554 : decode cX12_init 554 = .ok (.bipush 32, 2) := dcX12_init_45.2.2.1
theorem dX12_init_556 : decode cX12_init 556 = .ok (.iastore, 1) := dcX12_init_45.2.2.2.1
theorem dX12_init_557 : decode cX12_init 557 = .ok (.dup, 1) := dcX12_init_45.2.2.2.2.1
theorem dX12_init_558 : decode cX12_init 558 = .ok (.bipush 38, 2) := dcX12_init_45.2.2.2.2.2.1
theorem dX12_init_560 : decode cX12_init 560 = .ok (.bipush 32, 2) := dcX12_init_45.2.2.2.2.2.2.1
theorem dX12_init_562 : decode cX12_init 562 = .ok (.iastore, 1) := dcX12_init_45.2.2.2.2.2.2.2
theorem dcX12_init_46 : (decode cX12_init 563 = .ok (.dup, 1)) ∧ (decode cX12_init 564 = .ok (.bipush 39, 2)) ∧ (decode cX12_init 566 = .ok (.bipush 32, 2)) ∧ (decode cX12_init 568 = .ok (.iastore, 1)) ∧ (decode cX12_init 569 = .ok (.dup, 1)) ∧ (decode cX12_init 570 = .ok (.bipush 40, 2)) ∧ (decode cX12_init 572 = .ok (.bipush 100, 2)) ∧ (decode cX12_init 574 = .ok (.iastore, 1)) := by decide +kernel
theorem dX12_init_563 : decode cX12_init 563 = .ok (.dup, 1) := dcX12_init_46.1
theorem dX12_init_564 : decode cX12_init 564 = .ok (.bipush 39, 2) := dcX12_init_46.2.1
theorem dX12_init_566 : decode cX12_init 566 = .ok (.bipush 32, 2) := dcX12_init_46.2.2.1
theorem dX12_init_568 : decode cX12_init 568 = .ok (.iastore, 1) := dcX12_init_46.2.2.2.1
theorem dX12_init_569 : decode cX12_init 569 = .ok (.dup, 1) := dcX12_init_46.2.2.2.2.1
theorem dX12_init_570 : decode cX12_init 570 = .ok (.bipush 40, 2) := dcX12_init_46.2.2.2.2.2.1
theorem dX12_init_572 : decode cX12_init 572 = .ok (.bipush 100, 2) := dcX12_init_46.2.2.2.2.2.2.1
theorem dX12_init_574 : decode cX12_init 574 = .ok (.iastore, 1) := dcX12_init_46.2.2.2.2.2.2.2
theorem dcX12_init_47 : (decode cX12_init 575 = .ok (.dup, 1)) ∧ (decode cX12_init 576 = .ok (.bipush 41, 2)) ∧ (decode cX12_init 578 = .ok (.bipush 117, 2)) ∧ (decode cX12_init 580 = .ok (.iastore, 1)) ∧ (decode cX12_init 581 = .ok (.dup, 1)) ∧ (decode cX12_init 582 = .ok (.bipush 42, 2)) ∧ (decode cX12_init 584 = .ok (.bipush 108, 2)) ∧ (decode cX12_init 586 = .ok (.iastore, 1)) := by decide +kernel
theorem dX12_init_575 : decode cX12_init 575 = .ok (.dup, 1) := dcX12_init_47.1
theorem dX12_init_576 : decode cX12_init 576 = .ok (.bipush 41, 2) := dcX12_init_47.2.1
theorem dX12_init_578 : decode cX12_init 578 = .ok (.bipush 117, 2) := dcX12_init_47.2.2.1
theorem dX12_init_580 : decode cX12_init 580 = .ok (.iastore, 1) := dcX12_init_47.2.2.2.1
theorem dX12_init_581 : decode cX12_init 581 = .ok (.dup, 1) := dcX12_init_47.2.2.2.2.1
theorem dX12_init_582 : decode cX12_init 582 = .ok (.bipush 42, 2) := dcX12_init_47.2.2.2.2.2.1
theorem dX12_init_584 : decode cX12_init 584 = .ok (.bipush 108, 2) := dcX12_init_47.2.2.2.2.2.2.1
theorem dX12_init_586 : decode cX12_init 586 = .ok (.iastore, 1) := dcX12_init_47.2.2.2.2.2.2.2
theorem dcX12_init_48 : (decode cX12_init 587 = .ok (.dup, 1)) ∧ (decode cX12_init 588 = .ok (.bipush 43, 2)) ∧ (decode cX12_init 590 = .ok (.bipush 108, 2)) ∧ (decode cX12_init 592 = .ok (.iastore, 1)) ∧ (decode cX12_init 593 = .ok (.dup, 1)) ∧ (decode cX12_init 594 = .ok (.bipush 44, 2)) ∧ (decode cX12_init 596 = .ok (.bipush 32, 2)) ∧ (decode cX12_init 598 = .ok (.iastore, 1)) := by decide +kernel
theorem dX12_init_587 : decode cX12_init 587 = .ok (.dup, 1) := dcX12_init_48.1
theorem dX12_init_588 : decode cX12_init 588 = .ok (.bipush 43, 2) := dcX12_init_48.2.1
theorem dX12_init_590 : decode cX12_init 590 = .ok (.bipush 108, 2) := dcX12_init_48.2.2.1
theorem dX12_init_592 : decode cX12_init 592 = .ok (.iastore, 1) := dcX12_init_48.2.2.2.1
theorem dX12_init_593 : decode cX12_init 593 = .ok (.dup, 1) := dcX12_init_48.2.2.2.2.1
theorem dX12_init_594 : decode cX12_init 594 = .ok (.bipush 44, 2) := dcX12_init_48.2.2.2.2.2.1
theorem dX12_init_596 : decode cX12_init 596 = .ok (.bipush 32, 2) := dcX12_init_48.2.2.2.2.2.2.1
theorem dX12_init_598 : decode cX12_init 598 = .ok (.iastore, 1) := dcX12_init_48.2.2.2.2.2.2.2
theorem dcX12_init_49 : (decode cX12_init 599 = .ok (.dup, 1)) ∧ (decode cX12_init 600 = .ok (.bipush 45, 2)) ∧ (decode cX12_init 602 = .ok (.bipush 32, 2)) ∧ (decode cX12_init 604 = .ok (.iastore, 1)) ∧ (decode cX12_init 605 = .ok (.dup, 1)) ∧ (decode cX12_init 606 = .ok (.bipush 46, 2)) ∧ (decode cX12_init 608 = .ok (.bipush 32, 2)) ∧ (decode cX12_init 610 = .ok (.iastore, 1)) := by decide +kernel
theorem dX12_init_599 : decode cX12_init 599 = .ok (.dup, 1) := dcX12_init_49.1
theorem dX12_init_600 : decode cX12_init 600 = .ok (.bipush 45, 2) := dcX12_init_49.2.1
theorem dX12_init_602 : decode cX12_init 602 = .ok (.bipush 32, 2) := dcX12_init_49.2.2.1
theorem dX12_init_604 : decode cX12_init 604 = .ok (.iastore, 1) := dcX12_init_49.2.2.2.1
theorem dX12_init_605 : decode cX12_init 605 = .ok (.dup, 1) := dcX12_init_49.2.2.2.2.1
theorem dX12_init_606 : decode cX12_init 606 = .ok (.bipush 46, 2) := dcX12_init_49.2.2.2.2.2.1
theorem dX12_init_608 : decode cX12_init 608 = .ok (.bipush 32, 2) := dcX12_init_49.2.2.2.2.2.2.1
theorem dX12_init_610 : decode cX12_init 610 = .ok (.iastore, 1) := dcX12_init_49.2.2.2.2.2.2.2
theorem dcX12_init_50 : (decode cX12_init 611 = .ok (.dup, 1)) ∧ (decode cX12_init 612 = .ok (.bipush 47, 2)) ∧ (decode cX12_init 614 = .ok (.bipush 32, 2)) ∧ (decode cX12_init 616 = .ok (.iastore, 1)) ∧ (decode cX12_init 617 = .ok (.dup, 1)) ∧ (decode cX12_init 618 = .ok (.bipush 48, 2)) ∧ (decode cX12_init 620 = .ok (.bipush 110, 2)) ∧ (decode cX12_init 622 = .ok (.iastore, 1)) := by decide +kernel
theorem dX12_init_611 : decode cX12_init 611 = .ok (.dup, 1) := dcX12_init_50.1
theorem dX12_init_612 : decode cX12_init 612 = .ok (.bipush 47, 2) := dcX12_init_50.2.1
theorem dX12_init_614 : decode cX12_init 614 = .ok (.bipush 32, 2) := dcX12_init_50.2.2.1
theorem dX12_init_616 : decode cX12_init 616 = .ok (.iastore, 1) := dcX12_init_50.2.2.2.1
theorem dX12_init_617 : decode cX12_init 617 = .ok (.dup, 1) := dcX12_init_50.2.2.2.2.1
theorem dX12_init_618 : decode cX12_init 618 = .ok (.bipush 48, 2) := dcX12_init_50.2.2.2.2.2.1
theorem dX12_init_620 : decode cX12_init 620 = .ok (.bipush 110, 2) := dcX12_init_50.2.2.2.2.2.2.1
theorem dX12_init_622 : decode cX12_init 622 = .ok (.iastore, 1) := dcX12_init_50.2.2.2.2.2.2.2
theorem dcX12_init_51 : (decode cX12_init 623 = .ok (.dup, 1)) ∧ (decode cX12_init 624 = .ok (.bipush 49, 2)) ∧ (decode cX12_init 626 = .ok (.bipush 105, 2)) ∧ (decode cX12_init 628 = .ok (.iastore, 1)) ∧ (decode cX12_init 629 = .ok (.dup, 1)) ∧ (decode cX12_init 630 = .ok (.bipush 50, 2)) ∧ (decode cX12_init 632 = .ok (.bipush 103, 2)) ∧ (decode cX12_init 634 = .ok (.iastore, 1)) := by decide +kernel
theorem dX12_init_623 : decode cX12_init 623 = .ok (.dup, 1) := dcX12_init_51.1
theorem dX12_init_624 : decode cX12_init 624 = .ok (.bipush 49, 2) := dcX12_init_51.2.1
theorem dX12_init_626 : decode cX12_init 626 = .ok (.bipush 105, 2) := dcX12_init_51.2.2.1
theorem dX12_init_628 : decode cX12_init 628 = .ok (.iastore, 1) := dcX12_init_51.2.2.2.1
theorem dX12_init_629 : decode cX12_init 629 = .ok (.dup, 1) := dcX12_init_51.2.2.2.2.1
theorem dX12_init_630 : decode cX12_init 630 = .ok (.bipush 50, 2) := dcX12_init_51.2.2.2.2.2.1
theorem dX12_init_632 : decode cX12_init 632 = .ok (.bipush 103, 2) := dcX12_init_51.2.2.2.2.2.2.1
theorem dX12_init_634 : decode cX12_init 634 = .ok (.iastore, 1) := dcX12_init_51.2.2.2.2.2.2.2
theorem dcX12_init_52 : (decode cX12_init 635 = .ok (.dup, 1)) ∧ (decode cX12_init 636 = .ok (.bipush 51, 2)) ∧ (decode cX12_init 638 = .ok (.bipush 104, 2)) ∧ (decode cX12_init 640 = .ok (.iastore, 1)) ∧ (decode cX12_init 641 = .ok (.dup, 1)) ∧ (decode cX12_init 642 = .ok (.bipush 52, 2)) ∧ (decode cX12_init 644 = .ok (.bipush 116, 2)) ∧ (decode cX12_init 646 = .ok (.iastore, 1)) := by decide +kernel
theorem dX12_init_635 : decode cX12_init 635 = .ok (.dup, 1) := dcX12_init_52.1
theorem dX12_init_636 : decode cX12_init 636 = .ok (.bipush 51, 2) := dcX12_init_52.2.1
theorem dX12_init_638 : decode cX12_init 638 = .ok (.bipush 104, 2) := dcX12_init_52.2.2.1
theorem dX12_init_640 : decode cX12_init 640 = .ok (.iastore, 1) := dcX12_init_52.2.2.2.1
theorem dX12_init_641 : decode cX12_init 641 = .ok (.dup, 1) := dcX12_init_52.2.2.2.2.1
theorem dX12_init_642 : decode cX12_init 642 = .ok (.bipush 52, 2) := dcX12_init_52.2.2.2.2.2.1
theorem dX12_init_644 : decode cX12_init 644 = .ok (.bipush 116, 2) := dcX12_init_52.2.2.2.2.2.2.1
theorem dX12_init_646 : decode cX12_init 646 = .ok (.iastore, 1) := dcX12_init_52.2.2.2.2.2.2.2
theorem dcX12_init_53 : (decode cX12_init 647 = .ok (.dup, 1)) ∧ (decode cX12_init 648 = .ok (.bipush 53, 2)) ∧ (decode cX12_init 650 = .ok (.bipush 32, 2)) ∧ (decode cX12_init 652 = .ok (.iastore, 1)) ∧ (decode cX12_init 653 = .ok (.dup, 1)) ∧ (decode cX12_init 654 = .ok (.bipush 54, 2)) ∧ (decode cX12_init 656 = .ok (.bipush 32, 2)) ∧ (decode cX12_init 658 = .ok (.iastore, 1)) := by decide +kernel
theorem dX12_init_647 : decode cX12_init 647 = .ok (.dup, 1) := dcX12_init_53.1
theorem dX12_init_648 : decode cX12_init 648 = .ok (.bipush 53, 2) := dcX12_init_53.2.1
theorem dX12_init_650 : decode cX12_init 650 = .ok (.bipush 32, 2) := dcX12_init_53.2.2.1
theorem dX12_init_652 : decode cX12_init 652 = .ok (.iastore, 1) := dcX12_init_53.2.2.2.1
theorem dX12_init_653 : decode cX12_init 653 = .ok (.dup, 1) := dcX12_init_53.2.2.2.2.1
theorem dX12_init_654 : decode cX12_init 654 = .ok (.bipush 54, 2) := dcX12_init_53.2.2.2.2.2.1
theorem dX12_init_656 : decode cX12_init 656 = .ok (.bipush 32, 2) := dcX12_init_53.2.2.2.2.2.2.1
theorem dX12_init_658 : decode cX12_init 658 = .ok (.iastore, 1) := dcX12_init_53.2.2.2.2.2.2.2
theorem dcX12_init_54 : (decode cX12_init 659 = .ok (.dup, 1)) ∧ (decode cX12_init 660 = .ok (.bipush 55, 2)) ∧ (decode cX12_init 662 = .ok (.bipush 32, 2)) ∧ (decode cX12_init 664 = .ok (.iastore, 1)) ∧ (decode cX12_init 665 = .ok (.dup, 1)) ∧ (decode cX12_init 666 = .ok (.bipush 56, 2)) ∧ (decode cX12_init 668 = .ok (.bipush 109, 2)) ∧ (decode cX12_init 670 = .ok (.iastore, 1)) := by decide +kernel
theorem dX12_init_659 : decode cX12_init 659 = .ok (.dup, 1) := dcX12_init_54.1
theorem dX12_init_660 : decode cX12_init 660 = .ok (.bipush 55, 2) := dcX12_init_54.2.1
theorem dX12_init_662 : decode cX12_init 662 = .ok (.bipush 32, 2) := dcX12_init_54.2.2.1
theorem dX12_init_664 : decode cX12_init 664 = .ok (.iastore, 1) := dcX12_init_54.2.2.2.1
theorem dX12_init_665 : decode cX12_init 665 = .ok (.dup, 1) := dcX12_init_54.2.2.2.2.1
theorem dX12_init_666 : decode cX12_init 666 = .ok (.bipush 56, 2) := dcX12_init_54.2.2.2.2.2.1
theorem dX12_init_668 : decode cX12_init 668 = .ok (.bipush 109, 2) := dcX12_init_54.2.2.2.2.2.2.1
theorem dX12_init_670 : decode cX12_init 670 = .ok (.iastore, 1) := dcX12_init_54.2.2.2.2.2.2.2
theorem dcX12_init_55 : (decode cX12_init 671 = .ok (.dup, 1)) ∧ (decode cX12_init 672 = .ok (.bipush 57, 2)) ∧ (decode cX12_init 674 = .ok (.bipush 111, 2)) ∧ (decode cX12_init 676 = .ok (.iastore, 1)) ∧ (decode cX12_init 677 = .ok (.dup, 1)) ∧ (decode cX12_init 678 = .ok (.bipush 58, 2)) ∧ (decode cX12_init 680 = .ok (.bipush 114, 2)) ∧ (decode cX12_init 682 = .ok (.iastore, 1)) := by decide +kernel
theorem dX12_init_671 : decode cX12_init 671 = .ok (.dup, 1) := dcX12_init_55.1
theorem dX12_init_672 : decode cX12_init 672 = .ok (.bipush 57, 2) := dcX12_init_55.2.1
theorem dX12_init_674 : decode cX12_init 674 = .ok (.bipush 111, 2) := dcX12_init_55.2.2.1
theorem dX12_init_676 : decode cX12_init 676 = .ok (.iastore, 1) := dcX12_init_55.2.2.2.1
theorem dX12_init_677 : decode cX12_init 677 = .ok (.dup, 1) := dcX12_init_55.2.2.2.2.1
theorem dX12_init_678 : decode cX12_init 678 = .ok (.bipush 58, 2) := dcX12_init_55.2.2.2.2.2.1
theorem dX12_init_680 : decode cX12_init 680 = .ok (.bipush 114, 2) := dcX12_init_55.2.2.2.2.2.2.1
theorem dX12_init_682 : decode cX12_init 682 = .ok (.iastore, 1) := dcX12_init_55.2.2.2.2.2.2.2
theorem dcX12_init_56 : (decode cX12_init 683 = .ok (.dup, 1)) ∧ (decode cX12_init 684 = .ok (.bipush 59, 2)) ∧ (decode cX12_init 686 = .ok (.bipush 101, 2)) ∧ (decode cX12_init 688 = .ok (.iastore, 1)) ∧ (decode cX12_init 689 = .ok (.dup, 1)) ∧ (decode cX12_init 690 = .ok (.bipush 60, 2)) ∧ (decode cX12_init 692 = .ok (.bipush 32, 2)) ∧ (decode cX12_init 694 = .ok (.iastore, 1)) := by decide +kernel
theorem dX12_init_683 : decode cX12_init 683 = .ok (.dup, 1) := dcX12_init_56.1
theorem dX12_init_684 : decode cX12_init 684 = .ok (.bipush 59, 2) := dcX12_init_56.2.1
theorem dX12_init_686 : decode cX12_init 686 = .ok (.bipush 101, 2) := dcX12_init_56.2.2.1
theorem dX12_init_688 : decode cX12_init 688 = .ok (.iastore, 1) := dcX12_init_56.2.2.2.1
theorem dX12_init_689 : decode cX12_init 689 = .ok (.dup, 1) := dcX12_init_56.2.2.2.2.1
theorem dX12_init_690 : decode cX12_init 690 = .ok (.bipush 60, 2) := dcX12_init_56.2.2.2.2.2.1
theorem dX12_init_692 : decode cX12_init 692 = .ok (.bipush 32, 2) := dcX12_init_56.2.2.2.2.2.2.1
theorem dX12_init_694 : decode cX12_init 694 = .ok (.iastore, 1) := dcX12_init_56.2.2.2.2.2.2.2
theorem dcX12_init_57 : (decode cX12_init 695 = .ok (.dup, 1)) ∧ (decode cX12_init 696 = .ok (.bipush 61, 2)) ∧ (decode cX12_init 698 = .ok (.bipush 32, 2)) ∧ (decode cX12_init 700 = .ok (.iastore, 1)) ∧ (decode cX12_init 701 = .ok (.dup, 1)) ∧ (decode cX12_init 702 = .ok (.bipush 62, 2)) ∧ (decode cX12_init 704 = .ok (.bipush 32, 2)) ∧ (decode cX12_init 706 = .ok (.iastore, 1)) := by decide +kernel
theorem dX12_init_695 : decode cX12_init 695 = .ok (.dup, 1) := dcX12_init_57.1
theorem dX12_init_696 : decode cX12_init 696 = .ok (.bipush 61, 2) := dcX12_init_57.2.1
theorem dX12_init_698 : decode cX12_init 698 = .ok (.bipush 32, 2) := dcX12_init_57.2.2.1
theorem dX12_init_700 : decode cX12_init 700 = .ok (.iastore, 1) := dcX12_init_57.2.2.2.1
theorem dX12_init_701 : decode cX12_init 701 = .ok (.dup, 1) := dcX12_init_57.2.2.2.2.1
theorem dX12_init_702 : decode cX12_init 702 = .ok (.bipush 62, 2) := dcX12_init_57.2.2.2.2.2.1
theorem dX12_init_704 : decode cX12_init 704 = .ok (.bipush 32, 2) := dcX12_init_57.2.2.2.2.2.2.1
theorem dX12_init_706 : decode cX12_init 706 = .ok (.iastore, 1) := dcX12_init_57.2.2.2.2.2.2.2
theorem dcX12_init_58 : (decode cX12_init 707 = .ok (.dup, 1)) ∧ (decode cX12_init 708 = .ok (.bipush 63, 2)) ∧ (decode cX12_init 710 = .ok (.bipush 32, 2)) ∧ (decode cX12_init 712 = .ok (.iastore, 1)) ∧ (decode cX12_init 713 = .ok (.dup, 1)) ∧ (decode cX12_init 714 = .ok (.bipush 64, 2)) ∧ (decode cX12_init 716 = .ok (.bipush 98, 2)) ∧ (decode cX12_init 718 = .ok (.iastore, 1)) := by decide +kernel
theorem dX12_init_707 : decode cX12_init 707 = .ok (.dup, 1) := dcX12_init_58.1
theorem dX12_init_708 : decode cX12_init 708 = .ok (.bipush 63, 2) := dcX12_init_58.2.1
theorem dX12_init_710 : decode cX12_init 710 = .ok (.bipush 32, 2) := dcX12_init_58.2.2.1
theorem dX12_init_712 : decode cX12_init 712 = .ok (.iastore, 1) := dcX12_init_58.2.2.2.1
theorem dX12_init_713 : decode cX12_init 713 = .ok (.dup, 1) := dcX12_init_58.2.2.2.2.1
theorem dX12_init_714 : decode cX12_init 714 = .ok (.bipush 64, 2) := dcX12_init_58.2.2.2.2.2.1
theorem dX12_init_716 : decode cX12_init 716 = .ok (.bipush 98, 2) := dcX12_init_58.2.2.2.2.2.2.1
theorem dX12_init_718 : decode cX12_init 718 = .ok (.iastore, 1) := dcX12_init_58.2.2.2.2.2.2.2
theorem dcX12_init_59 : (decode cX12_init 719 = .ok (.dup, 1)) ∧ (decode cX12_init 720 = .ok (.bipush 65, 2)) ∧ (decode cX12_init 722 = .ok (.bipush 101, 2)) ∧ (decode cX12_init 724 = .ok (.iastore, 1)) ∧ (decode cX12_init 725 = .ok (.dup, 1)) ∧ (decode cX12_init 726 = .ok (.bipush 66, 2)) ∧ (decode cX12_init 728 = .ok (.bipush 104, 2)) ∧ (decode cX12_init 730 = .ok (.iastore, 1)) := by decide +kernel
theorem dX12_init_719 : decode cX12_init 719 = .ok (.dup, 1) := dcX12_init_59.1
theorem dX12_init_720 : decode cX12_init 720 = .ok (.bipush 65, 2) := dcX12_init_59.2.1
theorem dX12_init_722 : decode cX12_init 722 = .ok (.bipush 101, 2) := dcX12_init_59.2.2.1
theorem dX12_init_724 : decode cX12_init 724 = .ok (.iastore, 1) := dcX12_init_59.2.2.2.1
theorem dX12_init_725 : decode cX12_init 725 = .ok (.dup, 1) := dcX12_init_59.2.2.2.2.1
theorem dX12_init_726 : decode cX12_init 726 = .ok (.bipush 66, 2) := dcX12_init_59.2.2.2.2.2.1
theorem dX12_init_728 : decode cX12_init 728 = .ok (.bipush 104, 2) := dcX12_init_59.2.2.2.2.2.2.1
theorem dX12_init_730 : decode cX12_init 730 = .ok (.iastore, 1) := dcX12_init_59.2.2.2.2.2.2.2
theorem dcX12_init_60 : (decode cX12_init 731 = .ok (.dup, 1)) ∧ (decode cX12_init 732 = .ok (.bipush 67, 2)) ∧ (decode cX12_init 734 = .ok (.bipush 105, 2)) ∧ (decode cX12_init 736 = .ok (.iastore, 1)) ∧ (decode cX12_init 737 = .ok (.dup, 1)) ∧ (decode cX12_init 738 = .ok (.bipush 68, 2)) ∧ (decode cX12_init 740 = .ok (.bipush 110, 2)) ∧ (decode cX12_init 742 = .ok (.iastore, 1)) := by decide +kernel
theorem dX12_init_731 : decode cX12_init 731 = .ok (.dup, 1) := dcX12_init_60.1
theorem dX12_init_732 : decode cX12_init 732 = .ok (.bipush 67, 2) := dcX12_init_60.2.1
theorem dX12_init_734 : decode cX12_init 734 = .ok (.bipush 105, 2) := dcX12_init_60.2.2.1
theorem dX12_init_736 : decode cX12_init 736 = .ok (.iastore, 1) := dcX12_init_60.2.2.2.1
theorem dX12_init_737 : decode cX12_init 737 = .ok (.dup, 1) := dcX12_init_60.2.2.2.2.1
theorem dX12_init_738 : decode cX12_init 738 = .ok (.bipush 68, 2) := dcX12_init_60.2.2.2.2.2.1
theorem dX12_init_740 : decode cX12_init 740 = .ok (.bipush 110, 2) := dcX12_init_60.2.2.2.2.2.2.1
theorem dX12_init_742 : decode cX12_init 742 = .ok (.iastore, 1) := dcX12_init_60.2.2.2.2.2.2.2
theorem dcX12_init_61 : (decode cX12_init 743 = .ok (.dup, 1)) ∧ (decode cX12_init 744 = .ok (.bipush 69, 2)) ∧ (decode cX12_init 746 = .ok (.bipush 100, 2)) ∧ (decode cX12_init 748 = .ok (.iastore, 1)) ∧ (decode cX12_init 749 = .ok (.dup, 1)) ∧ (decode cX12_init 750 = .ok (.bipush 70, 2)) ∧ (decode cX12_init 752 = .ok (.bipush 32, 2)) ∧ (decode cX12_init 754 = .ok (.iastore, 1)) := by decide +kernel
theorem dX12_init_743 : decode cX12_init 743 = .ok (.dup, 1) := dcX12_init_61.1
theorem dX12_init_744 : decode cX12_init 744 = .ok (.bipush 69, 2) := dcX12_init_61.2.1
theorem dX12_init_746 : decode cX12_init 746 = .ok (.bipush 100, 2) := dcX12_init_61.2.2.1
theorem dX12_init_748 : decode cX12_init 748 = .ok (.iastore, 1) := dcX12_init_61.2.2.2.1
theorem dX12_init_749 : decode cX12_init 749 = .ok (.dup, 1) := dcX12_init_61.2.2.2.2.1
theorem dX12_init_750 : decode cX12_init 750 = .ok (.bipush 70, 2) := dcX12_init_61.2.2.2.2.2.1
theorem dX12_init_752 : decode cX12_init 752 = .ok (.bipush 32, 2) := dcX12_init_61.2.2.2.2.2.2.1
theorem dX12_init_754 : decode cX12_init 754 = .ok (.iastore, 1) := dcX12_init_61.2.2.2.2.2.2.2
theorem dcX12_init_62 : (decode cX12_init 755 = .ok (.dup, 1)) ∧ (decode cX12_init 756 = .ok (.bipush 71, 2)) ∧ (decode cX12_init 758 = .ok (.bipush 32, 2)) ∧ (decode cX12_init 760 = .ok (.iastore, 1)) ∧ (decode cX12_init 761 = .ok (.dup, 1)) ∧ (decode cX12_init 762 = .ok (.bipush 72, 2)) ∧ (decode cX12_init 764 = .ok (.bipush 111, 2)) ∧ (decode cX12_init 766 = .ok (.iastore, 1)) := by decide +kernel
theorem dX12_init_755 : decode cX12_init 755 = .ok (.dup, 1) := dcX12_init_62.1
theorem dX12_init_756 : decode cX12_init 756 = .ok (.bipush 71, 2) := dcX12_init_62.2.1
theorem dX12_init_758 : decode cX12_init 758 = .ok (.bipush 32, 2) := dcX12_init_62.2.2.1
theorem dX12_init_760 : decode cX12_init 760 = .ok (.iastore, 1) := dcX12_init_62.2.2.2.1
theorem dX12_init_761 : decode cX12_init 761 = .ok (.dup, 1) := dcX12_init_62.2.2.2.2.1
theorem dX12_init_762 : decode cX12_init 762 = .ok (.bipush 72, 2) := dcX12_init_62.2.2.2.2.2.1
theorem dX12_init_764 : decode cX12_init 764 = .ok (.bipush 111, 2) := dcX12_init_62.2.2.2.2.2.2.1
theorem dX12_init_766 : decode cX12_init 766 = .ok (.iastore, 1) := dcX12_init_62.2.2.2.2.2.2.2
theorem dcX12_init_63 : (decode cX12_init 767 = .ok (.dup, 1)) ∧ (decode cX12_init 768 = .ok (.bipush 73, 2)) ∧ (decode cX12_init 770 = .ok (.bipush 114, 2)) ∧ (decode cX12_init 772 = .ok (.iastore, 1)) ∧ (decode cX12_init 773 = .ok (.dup, 1)) ∧ (decode cX12_init 774 = .ok (.bipush 74, 2)) ∧ (decode cX12_init 776 = .ok (.bipush 32, 2)) ∧ (decode cX12_init 778 = .ok (.iastore, 1)) := by decide +kernel
theorem dX12_init_767 : decode cX12_init 767 = .ok (.dup, 1) := dcX12_init_63.1
theorem dX12_init_768 : decode cX12_init 768 = .ok (.bipush 73, 2) := dcX12_init_63.2.1
theorem dX12_init_770 : decode cX12_init 770 = .ok (.bipush 114, 2) := dcX12_init_63.2.2.1
theorem dX12_init_772 : decode cX12_init 772 = .ok (.iastore, 1) := dcX12_init_63.2.2.2.1
theorem dX12_init_773 : decode cX12_init 773 = .ok (.dup, 1) := dcX12_init_63.2.2.2.2.1
theorem dX12_init_774 : decode cX12_init 774 = .ok (.bipush 74, 2) := dcX12_init_63.2.2.2.2.2.1
theorem dX12_init_776 : decode cX12_init 776 = .ok (.bipush 32, 2) := dcX12_init_63.2.2.2.2.2.2.1
theorem dX12_init_778 : decode cX12_init 778 = .ok (.iastore, 1) := dcX12_init_63.2.2.2.2.2.2.2
theorem dcX12_init_64 : (decode cX12_init 779 = .ok (.dup, 1)) ∧ (decode cX12_init 780 = .ok (.bipush 75, 2)) ∧ (decode cX12_init 782 = .ok (.bipush 32, 2)) ∧ (decode cX12_init 784 = .ok (.iastore, 1)) ∧ (decode cX12_init 785 = .ok (.dup, 1)) ∧ (decode cX12_init 786 = .ok (.bipush 76, 2)) ∧ (decode cX12_init 788 = .ok (.bipush 32, 2)) ∧ (decode cX12_init 790 = .ok (.iastore, 1)) := by decide +kernel
theorem dX12_init_779 : decode cX12_init 779 = .ok (.dup, 1) := dcX12_init_64.1
theorem dX12_init_780 : decode cX12_init 780 = .ok (.bipush 75, 2) := dcX12_init_64.2.1
theorem dX12_init_782 : decode cX12_init 782 = .ok (.bipush 32, 2) := dcX12_init_64.2.2.1
theorem dX12_init_784 : decode cX12_init 784 = .ok (.iastore, 1) := dcX12_init_64.2.2.2.1
theorem dX12_init_785 : decode cX12_init 785 = .ok (.dup, 1) := dcX12_init_64.2.2.2.2.1
theorem dX12_init_786 : decode cX12_init 786 = .ok (.bipush 76, 2) := dcX12_init_64.2.2.2.2.2.1
theorem dX12_init_788 : decode cX12_init 788 = .ok (.bipush 32, 2) := dcX12_init_64.2.2.2.2.2.2.1
theorem dX12_init_790 : decode cX12_init 790 = .ok (.iastore, 1) := dcX12_init_64.2.2.2.2.2.2.2
theorem dcX12_init_65 : (decode cX12_init 791 = .ok (.dup, 1)) ∧ (decode cX12_init 792 = .ok (.bipush 77, 2)) ∧ (decode cX12_init 794 = .ok (.bipush 32, 2)) ∧ (decode cX12_init 796 = .ok (.iastore, 1)) ∧ (decode cX12_init 797 = .ok (.dup, 1)) ∧ (decode cX12_init 798 = .ok (.bipush 78, 2)) ∧ (decode cX12_init 800 = .ok (.bipush 32, 2)) ∧ (decode cX12_init 802 = .ok (.iastore, 1)) := by decide +kernel
theorem dX12_init_791 : decode cX12_init 791 = .ok (.dup, 1) := dcX12_init_65.1
theorem dX12_init_792 : decode cX12_init 792 = .ok (.bipush 77, 2) := dcX12_init_65.2.1
theorem dX12_init_794 : decode cX12_init 794 = .ok (.bipush 32, 2) := dcX12_init_65.2.2.1
theorem dX12_init_796 : decode cX12_init 796 = .ok (.iastore, 1) := dcX12_init_65.2.2.2.1
theorem dX12_init_797 : decode cX12_init 797 = .ok (.dup, 1) := dcX12_init_65.2.2.2.2.1
theorem dX12_init_798 : decode cX12_init 798 = .ok (.bipush 78, 2) := dcX12_init_65.2.2.2.2.2.1
theorem dX12_init_800 : decode cX12_init 800 = .ok (.bipush 32, 2) := dcX12_init_65.2.2.2.2.2.2.1
theorem dX12_init_802 : decode cX12_init 802 = .ok (.iastore, 1) := dcX12_init_65.2.2.2.2.2.2.2
theorem dcX12_init_66 : (decode cX12_init 803 = .ok (.dup, 1)) ∧ (decode cX12_init 804 = .ok (.bipush 79, 2)) ∧ (decode cX12_init 806 = .ok (.bipush 32, 2)) ∧ (decode cX12_init 808 = .ok (.iastore, 1)) ∧ (decode cX12_init 809 = .ok (.dup, 1)) ∧ (decode cX12_init 810 = .ok (.bipush 80, 2)) ∧ (decode cX12_init 812 = .ok (.bipush 97, 2)) ∧ (decode cX12_init 814 = .ok (.iastore, 1)) := by decide +kernel
theorem dX12_init_803 : decode cX12_init 803 = .ok (.dup, 1) := dcX12_init_66.1
theorem dX12_init_804 : decode cX12_init 804 = .ok (.bipush 79, 2) := dcX12_init_66.2.1
theorem dX12_init_806 : decode cX12_init 806 = .ok (.bipush 32, 2) := dcX12_init_66.2.2.1
theorem dX12_init_808 : decode cX12_init 808 = .ok (.iastore, 1) := dcX12_init_66.2.2.2.1
theorem dX12_init_809 : decode cX12_init 809 = .ok (.dup, 1) := dcX12_init_66.2.2.2.2.1
theorem dX12_init_810 : decode cX12_init 810 = .ok (.bipush 80, 2) := dcX12_init_66.2.2.2.2.2.1
theorem dX12_init_812 : decode cX12_init 812 = .ok (.bipush 97, 2) := dcX12_init_66.2.2.2.2.2.2.1
theorem dX12_init_814 : decode cX12_init 814 = .ok (.iastore, 1) := dcX12_init_66.2.2.2.2.2.2.2
theorem dcX12_init_67 : (decode cX12_init 815 = .ok (.dup, 1)) ∧ (decode cX12_init 816 = .ok (.bipush 81, 2)) ∧ (decode cX12_init 818 = .ok (.bipush 110, 2)) ∧ (decode cX12_init 820 = .ok (.iastore, 1)) ∧ (decode cX12_init 821 = .ok (.dup, 1)) ∧ (decode cX12_init 822 = .ok (.bipush 82, 2)) ∧ (decode cX12_init 824 = .ok (.bipush 100, 2)) ∧ (decode cX12_init 826 = .ok (.iastore, 1)) := by decide +kernel
theorem dX12_init_815 : decode cX12_init 815 = .ok (.dup, 1) := dcX12_init_67.1
theorem dX12_init_816 : decode cX12_init 816 = .ok (.bipush 81, 2) := dcX12_init_67.2.1
theorem dX12_init_818 : decode cX12_init 818 = .ok (.bipush 110, 2) := dcX12_init_67.2.2.1
theorem dX12_init_820 : decode cX12_init 820 = .ok (.iastore, 1) := dcX12_init_67.2.2.2.1
theorem dX12_init_821 : decode cX12_init 821 = .ok (.dup, 1) := dcX12_init_67.2.2.2.2.1
theorem dX12_init_822 : decode cX12_init 822 = .ok (.bipush 82, 2) := dcX12_init_67.2.2.2.2.2.1
theorem dX12_init_824 : decode cX12_init 824 = .ok (.bipush 100, 2) := dcX12_init_67.2.2.2.2.2.2.1
theorem dX12_init_826 : decode cX12_init 826 = .ok (.iastore, 1) := dcX12_init_67.2.2.2.2.2.2.2
theorem dcX12_init_68 : (decode cX12_init 827 = .ok (.dup, 1)) ∧ (decode cX12_init 828 = .ok (.bipush 83, 2)) ∧ (decode cX12_init 830 = .ok (.bipush 32, 2)) ∧ (decode cX12_init 832 = .ok (.iastore, 1)) ∧ (decode cX12_init 833 = .ok (.dup, 1)) ∧ (decode cX12_init 834 = .ok (.bipush 84, 2)) ∧ (decode cX12_init 836 = .ok (.bipush 32, 2)) ∧ (decode cX12_init 838 = .ok (.iastore, 1)) := by decide +kernel
theorem dX12_init_827 : decode cX12_init 827 = .ok (.dup, 1) := dcX12_init_68.1
theorem dX12_init_828 : decode cX12_init 828 = .ok (.bipush 83, 2) := dcX12_init_68.2.1
theorem dX12_init_830 : decode cX12_init 830 = .ok (.bipush 32, 2) := dcX12_init_68.2.2.1
theorem dX12_init_832 : decode cX12_init 832 = .ok (.iastore, 1) := dcX12_init_68.2.2.2.1
theorem dX12_init_833 : decode cX12_init 833 = .ok (.dup, 1) := dcX12_init_68.2.2.2.2.1
theorem dX12_init_834 : decode cX12_init 834 = .ok (.bipush 84, 2) := dcX12_init_68.2.2.2.2.2.1
theorem dX12_init_836 : decode cX12_init 836 = .ok (.bipush 32, 2) := dcX12_init_68.2.2.2.2.2.2.1
theorem dX12_init_838 : decode cX12_init 838 = .ok (.iastore, 1) := dcX12_init_68.2.2.2.2.2.2.2
theorem dcX12_init_69 : (decode cX12_init 839 = .ok (.dup, 1)) ∧ (decode cX12_init 840 = .ok (.bipush 85, 2)) ∧ (decode cX12_init 842 = .ok (.bipush 32, 2)) ∧ (decode cX12_init 844 = .ok (.iastore, 1)) ∧ (decode cX12_init 845 = .ok (.dup, 1)) ∧ (decode cX12_init 846 = .ok (.bipush 86, 2)) ∧ (decode cX12_init 848 = .ok (.bipush 32, 2)) ∧ (decode cX12_init 850 = .ok (.iastore, 1)) := by decide +kernel
theorem dX12_init_839 : decode cX12_init 839 = .ok (.dup, 1) := dcX12_init_69.1
theorem dX12_init_840 : decode cX12_init 840 = .ok (.bipush 85, 2) := dcX12_init_69.2.1
theorem dX12_init_842 : decode cX12_init 842 = .ok (.bipush 32, 2) := dcX12_init_69.2.2.1
theorem dX12_init_844 : decode cX12_init 844 = .ok (.iastore, 1) := dcX12_init_69.2.2.2.1
theorem dX12_init_845 : decode cX12_init 845 = .ok (.dup, 1) := dcX12_init_69.2.2.2.2.1
theorem dX12_init_846 : decode cX12_init 846 = .ok (.bipush 86, 2) := dcX12_init_69.2.2.2.2.2.1
theorem dX12_init_848 : decode cX12_init 848 = .ok (.bipush 32, 2) := dcX12_init_69.2.2.2.2.2.2.1
theorem dX12_init_850 : decode cX12_init 850 = .ok (.iastore, 1) := dcX12_init_69.2.2.2.2.2.2.2
theorem dcX12_init_70 : (decode cX12_init 851 = .ok (.dup, 1)) ∧ (decode cX12_init 852 = .ok (.bipush 87, 2)) ∧ (decode cX12_init 854 = .ok (.bipush 32, 2)) ∧ (decode cX12_init 856 = .ok (.iastore, 1)) ∧ (decode cX12_init 857 = .ok (.dup, 1)) ∧ (decode cX12_init 858 = .ok (.bipush 88, 2)) ∧ (decode cX12_init 860 = .ok (.bipush 110, 2)) ∧ (decode cX12_init 862 = .ok (.iastore, 1)) := by decide +kernel
theorem dX12_init_851 : decode cX12_init 851 = .ok (.dup, 1) := dcX12_init_70.1
theorem dX12_init_852 : decode cX12_init 852 = .ok (.bipush 87, 2) := dcX12_init_70.2.1
theorem dX12_init_854 : decode cX12_init 854 = .ok (.bipush 32, 2) := dcX12_init_70.2.2.1
theorem dX12_init_856 : decode cX12_init 856 = .ok (.iastore, 1) := dcX12_init_70.2.2.2.1
theorem dX12_init_857 : decode cX12_init 857 = .ok (.dup, 1) := dcX12_init_70.2.2.2.2.1
theorem dX12_init_858 : decode cX12_init 858 = .ok (.bipush 88, 2) := dcX12_init_70.2.2.2.2.2.1
theorem dX12_init_860 : decode cX12_init 860 = .ok (.bipush 110, 2) := dcX12_init_70.2.2.2.2.2.2.1
theorem dX12_init_862 : decode cX12_init 862 = .ok (.iastore, 1) := dcX12_init_70.2.2.2.2.2.2.2
theorem dcX12_init_71 : (decode cX12_init 863 = .ok (.dup, 1)) ∧ (decode cX12_init 864 = .ok (.bipush 89, 2)) ∧ (decode cX12_init 866 = .ok (.bipush 111, 2)) ∧ (decode cX12_init 868 = .ok (.iastore, 1)) ∧ (decode cX12_init 869 = .ok (.dup, 1)) ∧ (decode cX12_init 870 = .ok (.bipush 90, 2)) ∧ (decode cX12_init 872 = .ok (.bipush 116, 2)) ∧ (decode cX12_init 874 = .ok (.iastore, 1)) := by decide +kernel
theorem dX12_init_863 : decode cX12_init 863 = .ok (.dup, 1) := dcX12_init_71.1
theorem dX12_init_864 : decode cX12_init 864 = .ok (.bipush 89, 2) := dcX12_init_71.2.1
theorem dX12_init_866 : decode cX12_init 866 = .ok (.bipush 111, 2) := dcX12_init_71.2.2.1
theorem dX12_init_868 : decode cX12_init 868 = .ok (.iastore, 1) := dcX12_init_71.2.2.2.1
theorem dX12_init_869 : decode cX12_init 869 = .ok (.dup, 1) := dcX12_init_71.2.2.2.2.1
theorem dX12_init_870 : decode cX12_init 870 = .ok (.bipush 90, 2) := dcX12_init_71.2.2.2.2.2.1
theorem dX12_init_872 : decode cX12_init 872 = .ok (.bipush 116, 2) := dcX12_init_71.2.2.2.2.2.2.1
theorem dX12_init_874 : decode cX12_init 874 = .ok (.iastore, 1) := dcX12_init_71.2.2.2.2.2.2.2
theorem dcX12_init_72 : (decode cX12_init 875 = .ok (.dup, 1)) ∧ (decode cX12_init 876 = .ok (.bipush 91, 2)) ∧ (decode cX12_init 878 = .ok (.bipush 32, 2)) ∧ (decode cX12_init 880 = .ok (.iastore, 1)) ∧ (decode cX12_init 881 = .ok (.dup, 1)) ∧ (decode cX12_init 882 = .ok (.bipush 92, 2)) ∧ (decode cX12_init 884 = .ok (.bipush 32, 2)) ∧ (decode cX12_init 886 = .ok (.iastore, 1)) := by decide +kernel
theorem dX12_init_875 : decode cX12_init 875 = .ok (.dup, 1) := dcX12_init_72.1
theorem dX12_init_876 : decode cX12_init 876 = .ok (.bipush 91, 2) := dcX12_init_72.2.1
theorem dX12_init_878 : decode cX12_init 878 = .ok (.bipush 32, 2) := dcX12_init_72.2.2.1
theorem dX12_init_880 : decode cX12_init 880 = .ok (.iastore, 1) := dcX12_init_72.2.2.2.1
theorem dX12_init_881 : decode cX12_init 881 = .ok (.dup, 1) := dcX12_init_72.2.2.2.2.1
theorem dX12_init_882 : decode cX12_init 882 = .ok (.bipush 92, 2) := dcX12_init_72.2.2.2.2.2.1
theorem dX12_init_884 : decode cX12_init 884 = .ok (.bipush 32, 2) := dcX12_init_72.2.2.2.2.2.2.1
theorem dX12_init_886 : decode cX12_init 886 = .ok (.iastore, 1) := dcX12_init_72.2.2.2.2.2.2.2
theorem dcX12_init_73 : (decode cX12_init 887 = .ok (.dup, 1)) ∧ (decode cX12_init 888 = .ok (.bipush 93, 2)) ∧ (decode cX12_init 890 = .ok (.bipush 32, 2)) ∧ (decode cX12_init 892 = .ok (.iastore, 1)) ∧ (decode cX12_init 893 = .ok (.dup, 1)) ∧ (decode cX12_init 894 = .ok (.bipush 94, 2)) ∧ (decode cX12_init 896 = .ok (.bipush 32, 2)) ∧ (decode cX12_init 898 = .ok (.iastore, 1)) := by decide +kernel
theorem dX12_init_887 : decode cX12_init 887 = .ok (.dup, 1) := dcX12_init_73.1
theorem dX12_init_888 : decode cX12_init 888 = .ok (.bipush 93, 2) := dcX12_init_73.2.1
theorem dX12_init_890 : decode cX12_init 890 = .ok (.bipush 32, 2) := dcX12_init_73.2.2.1
theorem dX12_init_892 : decode cX12_init 892 = .ok (.iastore, 1) := dcX12_init_73.2.2.2.1
theorem dX12_init_893 : decode cX12_init 893 = .ok (.dup, 1) := dcX12_init_73.2.2.2.2.1
theorem dX12_init_894 : decode cX12_init 894 = .ok (.bipush 94, 2) := dcX12_init_73.2.2.2.2.2.1
theorem dX12_init_896 : decode cX12_init 896 = .ok (.bipush 32, 2) := dcX12_init_73.2.2.2.2.2.2.1
theorem dX12_init_898 : decode cX12_init 898 = .ok (.iastore, 1) := dcX12_init_73.2.2.2.2.2.2.2
theorem dcX12_init_74 : (decode cX12_init 899 = .ok (.dup, 1)) ∧ (decode cX12_init 900 = .ok (.bipush 95, 2)) ∧ (decode cX12_init 902 = .ok (.bipush 32, 2)) ∧ (decode cX12_init 904 = .ok (.iastore, 1)) ∧ (decode cX12_init 905 = .ok (.putfield 56, 3)) ∧ (decode cX12_init 908 = .ok (.aload_n 0, 1)) ∧ (decode cX12_init 909 = .ok (.sipush 200, 3)) ∧ (decode cX12_init 912 = .ok (.newarray .int, 2)) := by decide +kernel
theorem dX12_init_899 : decode cX12_init 899 = .ok (.dup, 1) := dcX12_init_74.1
theorem dX12_init_900 : decode cX12_init 900 = .ok (.bipush 95, 2) := dcX12_init_74.2.1
theorem dX12_init_902 : decode cX12_init 902 = .ok (.bipush 32, 2) := dcX12_init_74.2.2.1
theorem dX12_init_904 : decode cX12_init 904 = .ok (.iastore, 1) := dcX12_init_74.2.2.2.1
theorem dX12_init_905 : decode cX12_init 905 = .ok (.putfield 56, 3) := dcX12_init_74.2.2.2.2.1
theorem dX12_init_908 : decode cX12_init 908 = .ok (.aload_n 0, 1) := dcX12_init_74.2.2.2.2.2.1
theorem dX12_init_909 : decode cX12_init 909 = .ok (.sipush 200, 3) := dcX12_init_74.2.2.2.2.2.2.1
theorem dX12_init_912 : decode cX12_init 912 = .ok (.newarray .int, 2) := dcX12_init_74.2.2.2.2.2.2.2
theorem dcX12_init_75 : (decode cX12_init 914 = .ok (.putfield 59, 3)) ∧ (decode cX12_init 917 = .ok (.aload_n 0, 1)) ∧ (decode cX12_init 918 = .ok (.sipush 200, 3)) ∧ (decode cX12_init 921 = .ok (.newarray .int, 2)) ∧ (decode cX12_init 923 = .ok (.putfield 62, 3)) ∧ (decode cX12_init 926 = .ok (.aload_n 0, 1)) ∧ (decode cX12_init 927 = .ok (.bipush 6, 2)) ∧ (decode cX12_init 929 = .ok (.newarray .int, 2)) := by decide +kernel
theorem dX12_init_914 : decode cX12_init 914 = .ok (.putfield 59, 3) := dcX12_init_75.1
theorem dX12_init_917 : decode cX12_init 917 = .ok (.aload_n 0, 1) := dcX12_init_75.2.1
theorem dX12_init_918 : decode cX12_init 918 = .ok (.sipush 200, 3) := dcX12_init_75.2.2.1
theorem dX12_init_921 : decode cX12_init 921 = .ok (.newarray .int, 2) := dcX12_init_75.2.2.2.1
theorem dX12_init_923 : decode cX12_init 923 = .ok (.putfield 62, 3) := dcX12_init_75.2.2.2.2.1
theorem dX12_init_926 : decode cX12_init 926 = .ok (.aload_n 0, 1) := dcX12_init_75.2.2.2.2.2.1
theorem dX12_init_927 : decode cX12_init 927 = .ok (.bipush 6, 2) := dcX12_init_75.2.2.2.2.2.2.1
theorem dX12_init_929 : decode cX12_init 929 = .ok (.newarray .int, 2) := dcX12_init_75.2.2.2.2.2.2.2
theorem dcX12_init_76 : (decode cX12_init 931 = .ok (.putfield 65, 3)) ∧ (decode cX12_init 934 = .ok (.aload_n 0, 1)) ∧ (decode cX12_init 935 = .ok (.bipush 16, 2)) ∧ (decode cX12_init 937 = .ok (.newarray .int, 2)) ∧ (decode cX12_init 939 = .ok (.putfield 68, 3)) ∧ (decode cX12_init 942 = .ok (.aload_n 0, 1)) ∧ (decode cX12_init 943 = .ok (.bipush 16, 2)) ∧ (decode cX12_init 945 = .ok (.newarray .int, 2)) := by decide +kernel
theorem dX12_init_931 : decode cX12_init 931 = .ok (.putfield 65, 3) := dcX12_init_76.1
theorem dX12_init_934 : decode cX12_init 934 = .ok (.aload_n 0, 1) := dcX12_init_76.2.1
theorem dX12_init_935 : decode cX12_init 935 = .ok (.bipush 16, 2) := dcX12_init_76.2.2.1
theorem dX12_init_937 : decode cX12_init 937 = .ok (.newarray .int, 2) := dcX12_init_76.2.2.2.1
theorem dX12_init_939 : decode cX12_init 939 = .ok (.putfield 68, 3) := dcX12_init_76.2.2.2.2.1
theorem dX12_init_942 : decode cX12_init 942 = .ok (.aload_n 0, 1) := dcX12_init_76.2.2.2.2.2.1
theorem dX12_init_943 : decode cX12_init 943 = .ok (.bipush 16, 2) := dcX12_init_76.2.2.2.2.2.2.1
theorem dX12_init_945 : decode cX12_init 945 = .ok (.newarray .int, 2) := dcX12_init_76.2.2.2.2.2.2.2
theorem dcX12_init_77 : (decode cX12_init 947 = .ok (.putfield 71, 3)) ∧ (decode cX12_init 950 = .ok (.aload_n 0, 1)) ∧ (decode cX12_init 951 = .ok (.bipush 16, 2)) ∧ (decode cX12_init 953 = .ok (.newarray .int, 2)) ∧ (decode cX12_init 955 = .ok (.putfield 74, 3)) ∧ (decode cX12_init 958 = .ok (.aload_n 0, 1)) ∧ (decode cX12_init 959 = .ok (.bipush 20, 2)) ∧ (decode cX12_init 961 = .ok (.newarray .int, 2)) := by decide +kernel
theorem dX12_init_947 : decode cX12_init 947 = .ok (.putfield 71, 3) := dcX12_init_77.1
theorem dX12_init_950 : decode cX12_init 950 = .ok (.aload_n 0, 1) := dcX12_init_77.2.1
theorem dX12_init_951 : decode cX12_init 951 = .ok (.bipush 16, 2) := dcX12_init_77.2.2.1
theorem dX12_init_953 : decode cX12_init 953 = .ok (.newarray .int, 2) := dcX12_init_77.2.2.2.1
theorem dX12_init_955 : decode cX12_init 955 = .ok (.putfield 74, 3) := dcX12_init_77.2.2.2.2.1
theorem dX12_init_958 : decode cX12_init 958 = .ok (.aload_n 0, 1) := dcX12_init_77.2.2.2.2.2.1
theorem dX12_init_959 : decode cX12_init 959 = .ok (.bipush 20, 2) := dcX12_init_77.2.2.2.2.2.2.1
theorem dX12_init_961 : decode cX12_init 961 = .ok (.newarray .int, 2) := dcX12_init_77.2.2.2.2.2.2.2
theorem dcX12_init_78 : (decode cX12_init 963 = .ok (.putfield 77, 3)) ∧ (decode cX12_init 966 = .ok (.aload_n 0, 1)) ∧ (decode cX12_init 967 = .ok (.bipush 96, 2)) ∧ (decode cX12_init 969 = .ok (.newarray .int, 2)) ∧ (decode cX12_init 971 = .ok (.putfield 80, 3)) ∧ (decode cX12_init 974 = .ok (.iconst 0, 1)) ∧ (decode cX12_init 975 = .ok (.istore_n 1, 1)) ∧ (decode cX12_init 976 = .ok (.iload_n 1, 1)) := by decide +kernel
theorem dX12_init_963 : decode cX12_init 963 = .ok (.putfield 77, 3) := dcX12_init_78.1
theorem dX12_init_966 : decode cX12_init 966 = .ok (.aload_n 0, 1) := dcX12_init_78.2.1
theorem dX12_init_967 : decode cX12_init 967 = .ok (.bipush 96, 2) := dcX12_init_78.2.2.1
theorem dX12_init_969 : decode cX12_init 969 = .ok (.newarray .int, 2) := dcX12_init_78.2.2.2.1
theorem dX12_init_971 : decode cX12_init 971 = .ok (.putfield 80, 3) := dcX12_init_78.2.2.2.2.1
theorem dX12_init_974 : decode cX12_init 974 = .ok (.iconst 0, 1) := dcX12_init_78.2.2.2.2.2.1
theorem dX12_init_975 : decode cX12_init 975 = .ok (.istore_n 1, 1) := dcX12_init_78.2.2.2.2.2.2.1
theorem dX12_init_976 : decode cX12_init 976 = .ok (.iload_n 1, 1) := dcX12_init_78.2.2.2.2.2.2.2
theorem dcX12_init_79 : (decode cX12_init 977 = .ok (.bipush 33, 2)) ∧ (decode cX12_init 979 = .ok (.if_icmp .ge 21, 3)) ∧ (decode cX12_init 982 = .ok (.aload_n 0, 1)) ∧ (decode cX12_init 983 = .ok (.getfield 26, 3)) ∧ (decode cX12_init 986 = .ok (.iload_n 1, 1)) ∧ (decode cX12_init 987 = .ok (.aload_n 0, 1)) ∧ (decode cX12_init 988 = .ok (.getfield 53, 3)) ∧ (decode cX12_init 991 = .ok (.iload_n 1, 1)) := by decide +kernel
theorem dX12_init_977 : decode cX12_init 977 = .ok (.bipush 33, 2) := dcX12_init_79.1
theorem dX12_init_979 : decode cX12_init 979 = .ok (.if_icmp .ge 21, 3) := dcX12_init_79.2.1
theorem dX12_init_982 : decode cX12_init 982 = .ok (.aload_n 0, 1) := dcX12_init_79.2.2.1
theorem dX12_init_983 : decode cX12_init 983 = .ok (.getfield 26, 3) := dcX12_init_79.2.2.2.1
theorem dX12_init_986 : decode cX12_init 986 = .ok (.iload_n 1, 1) := dcX12_init_79.2.2.2.2.1
theorem dX12_init_987 : decode cX12_init 987 = .ok (.aload_n 0, 1) := dcX12_init_79.2.2.2.2.2.1
theorem dX12_init_988 : decode cX12_init 988 = .ok (.getfield 53, 3) := dcX12_init_79.2.2.2.2.2.2.1
theorem dX12_init_991 : decode cX12_init 991 = .ok (.iload_n 1, 1) := dcX12_init_79.2.2.2.2.2.2.2
theorem dcX12_init_80 : (decode cX12_init 992 = .ok (.iaload, 1)) ∧ (decode cX12_init 993 = .ok (.iastore, 1)) ∧ (decode cX12_init 994 = .ok (.iinc 1 1, 3)) ∧ (decode cX12_init 997 = .ok (.goto (-21), 3)) ∧ (decode cX12_init 1000 = .ok (.aload_n 0, 1)) ∧ (decode cX12_init 1001 = .ok (.bipush 33, 2)) ∧ (decode cX12_init 1003 = .ok (.putfield 83, 3)) ∧ (decode cX12_init 1006 = .ok (.aload_n 0, 1)) := by decide +kernel
theorem dX12_init_992 : decode cX12_init 992 = .ok (.iaload, 1) := dcX12_init_80.1
theorem dX12_init_993 : decode cX12_init 993 = .ok (.iastore, 1) := dcX12_init_80.2.1
theorem dX12_init_994 : decode cX12_init 994 = .ok (.iinc 1 1, 3) := dcX12_init_80.2.2.1
theorem dX12_init_997 : decode cX12_init 997 = .ok (.goto (-21), 3) := dcX12_init_80.2.2.2.1
theorem dX12_init_1000 : decode cX12_init 1000 = .ok (.aload_n 0, 1) := dcX12_init_80.2.2.2.2.1
theorem dX12_init_1001 : decode cX12_init 1001 = .ok (.bipush 33, 2) := dcX12_init_80.2.2.2.2.2.1
theorem dX12_init_1003 : decode cX12_init 1003 = .ok (.putfield 83, 3) := dcX12_init_80.2.2.2.2.2.2.1
theorem dX12_init_1006 : decode cX12_init 1006 = .ok (.aload_n 0, 1) := dcX12_init_80.2.2.2.2.2.2.2
theorem dcX12_init_81 : (decode cX12_init 1007 = .ok (.invokevirtual 86, 3)) ∧ (decode cX12_init 1010 = .ok (.pop, 1)) ∧ (decode cX12_init 1011 = .ok (.return_, 1)) := by decide +kernel
theorem dX12_init_1007 : decode cX12_init 1007 = .ok (.invokevirtual 86, 3) := dcX12_init_81.1
theorem dX12_init_1010 : decode cX12_init 1010 = .ok (.pop, 1) := dcX12_init_81.2.1
theorem dX12_init_1011 : decode cX12_init 1011 = .ok (.return_, 1) := dcX12_init_81.2.2
theorem dcX12_in_0 : (decode cX12_in 0 = .ok (.iload_n 0, 1)) ∧ (decode cX12_in 1 = .ok (.iload_n 1, 1)) ∧ (decode cX12_in 2 = .ok (.if_icmp .lt 12, 3)) ∧ (decode cX12_in 5 = .ok (.iload_n 0, 1)) ∧ (decode cX12_in 6 = .ok (.iload_n 2, 1)) ∧ (decode cX12_in 7 = .ok (.if_icmp .gt 7, 3)) ∧ (decode cX12_in 10 = .ok (.iconst 1, 1)) ∧ (decode cX12_in 11 = .ok (.goto 4, 3)) := by decide +kernel
theorem dX12_in_0 : decode cX12_in 0 = .ok (.iload_n 0, 1) := dcX12_in_0.1
theorem dX12_in_1 : decode cX12_in 1 = .ok (.iload_n 1, 1) := dcX12_in_0.2.1
theorem dX12_in_2 : decode cX12_in 2 = .ok (.if_icmp .lt 12, 3) := dcX12_in_0.2.2.1
theorem dX12_in_5 : decode cX12_in 5 = .ok (.iload_n 0, 1) := dcX12_in_0.2.2.2.1
theorem dX12_in_6 : decode cX12_in 6 = .ok (.iload_n 2, 1) := dcX12_in_0.2.2.2.2.1
theorem dX12_in_7 : decode cX12_in 7 = .ok (.if_icmp .gt 7, 3) := dcX12_in_0.2.2.2.2.2.1
theorem dX12_in_10 : decode cX12_in 10 = .ok (.iconst 1, 1) := dcX12_in_0.2.2.2.2.2.2.1
theorem dX12_in_11 : decode cX12_in 11 = .ok (.goto 4, 3) := dcX12_in_0.2.2.2.2.2.2.2
theorem dcX12_in_1 : (decode cX12_in 14 = .ok (.iconst 0, 1)) ∧ (decode cX12_in 15 = .ok (.ireturn, 1)) := by decide +kernel
theorem dX12_in_14 : decode cX12_in 14 = .ok (.iconst 0, 1) := dcX12_in_1.1
theorem dX12_in_15 : decode cX12_in 15 = .ok (.ireturn, 1) := dcX12_in_1.2
theorem dcX12_within_0 : (decode cX12_within 0 = .ok (.iload_n 0, 1)) ∧ (decode cX12_within 1 = .ok (.iload_n 1, 1)) ∧ (decode cX12_within 2 = .ok (.if_icmp .ge 7, 3)) ∧ (decode cX12_within 5 = .ok (.iload_n 1, 1)) ∧ (decode cX12_within 6 = .ok (.goto 13, 3)) ∧ (decode cX12_within 9 = .ok (.iload_n 0, 1)) ∧ (decode cX12_within 10 = .ok (.iload_n 2, 1)) ∧ (decode cX12_within 11 = .ok (.if_icmp .le 7, 3)) := by decide +kernel
theorem dX12_within_0 : decode cX12_within 0 = .ok (.iload_n 0, 1) := dcX12_within_0.1
theorem dX12_within_1 : decode cX12_within 1 = .ok (.iload_n 1, 1) := dcX12_within_0.2.1
theorem dX12_within_2 : decode cX12_within 2 = .ok (.if_icmp .ge 7, 3) := dcX12_within_0.2.2.1
theorem dX12_within_5 : decode cX12_within 5 = .ok (.iload_n 1, 1) := dcX12_within_0.2.2.2.1
theorem dX12_within_6 : decode cX12_within 6 = .ok (.goto 13, 3) := dcX12_within_0.2.2.2.2.1
theorem dX12_within_9 : decode cX12_within 9 = .ok (.iload_n 0, 1) := dcX12_within_0.2.2.2.2.2.1
theorem dX12_within_10 : decode cX12_within 10 = .ok (.iload_n 2, 1) := dcX12_within_0.2.2.2.2.2.2.1
theorem dX12_within_11 : decode cX12_within 11 = .ok (.if_icmp .le 7, 3) := dcX12_within_0.2.2.2.2.2.2.2
theorem dcX12_within_1 : (decode cX12_within 14 = .ok (.iload_n 2, 1)) ∧ (decode cX12_within 15 = .ok (.goto 4, 3)) ∧ (decode cX12_within 18 = .ok (.iload_n 0, 1)) ∧ (decode cX12_within 19 = .ok (.ireturn, 1)) := by decide +kernel
theorem dX12_within_14 : decode cX12_within 14 = .ok (.iload_n 2, 1) := dcX12_within_1.1
theorem dX12_within_15 : decode cX12_within 15 = .ok (.goto 4, 3) := dcX12_within_1.2.1
theorem dX12_within_18 : decode cX12_within 18 = .ok (.iload_n 0, 1) := dcX12_within_1.2.2.1
theorem dX12_within_19 : decode cX12_within 19 = .ok (.ireturn, 1) := dcX12_within_1.2.2.2
theorem dcX12_isSleeper_0 : (decode cX12_isSleeper 0 = .ok (.iload_n 1, 1)) ∧ (decode cX12_isSleeper 1 = .ok (.iconst 0, 1)) ∧ (decode cX12_isSleeper 2 = .ok (.aload_n 0, 1)) ∧ (decode cX12_isSleeper 3 = .ok (.getfield 90, 3)) ∧ (decode cX12_isSleeper 6 = .ok (.iconst 1, 1)) ∧ (decode cX12_isSleeper 7 = .ok (.isub, 1)) ∧ (decode cX12_isSleeper 8 = .ok (.invokestatic 93, 3)) ∧ (decode cX12_isSleeper 11 = .ok (.ireturn, 1)) := by decide +kernel
theorem dX12_isSleeper_0 : decode cX12_isSleeper 0 = .ok (.iload_n 1, 1) := dcX12_isSleeper_0.1
theorem dX12_isSleeper_1 : decode cX12_isSleeper 1 = .ok (.iconst 0, 1) := dcX12_isSleeper_0.2.1
theorem dX12_isSleeper_2 : decode cX12_isSleeper 2 = .ok (.aload_n 0, 1) := dcX12_isSleeper_0.2.2.1
theorem dX12_isSleeper_3 : decode cX12_isSleeper 3 = .ok (.getfield 90, 3) := dcX12_isSleeper_0.2.2.2.1
theorem dX12_isSleeper_6 : decode cX12_isSleeper 6 = .ok (.iconst 1, 1) := dcX12_isSleeper_0.2.2.2.2.1
theorem dX12_isSleeper_7 : decode cX12_isSleeper 7 = .ok (.isub, 1) := dcX12_isSleeper_0.2.2.2.2.2.1
theorem dX12_isSleeper_8 : decode cX12_isSleeper 8 = .ok (.invokestatic 93, 3) := dcX12_isSleeper_0.2.2.2.2.2.2.1
theorem dX12_isSleeper_11 : decode cX12_isSleeper 11 = .ok (.ireturn, 1) := dcX12_isSleeper_0.2.2.2.2.2.2.2
theorem dcX12_isCell_0 : (decode cX12_isCell 0 = .ok (.iload_n 0, 1)) ∧ (decode cX12_isCell 1 = .ok (.iconst 0, 1)) ∧ (decode cX12_isCell 2 = .ok (.bipush 15, 2)) ∧ (decode cX12_isCell 4 = .ok (.invokestatic 93, 3)) ∧ (decode cX12_isCell 7 = .ok (.ireturn, 1)) := by decide +kernel
theorem dX12_isCell_0 : decode cX12_isCell 0 = .ok (.iload_n 0, 1) := dcX12_isCell_0.1
theorem dX12_isCell_1 : decode cX12_isCell 1 = .ok (.iconst 0, 1) := dcX12_isCell_0.2.1
theorem dX12_isCell_2 : decode cX12_isCell 2 = .ok (.bipush 15, 2) := dcX12_isCell_0.2.2.1
theorem dX12_isCell_4 : decode cX12_isCell 4 = .ok (.invokestatic 93, 3) := dcX12_isCell_0.2.2.2.1
theorem dX12_isCell_7 : decode cX12_isCell 7 = .ok (.ireturn, 1) := dcX12_isCell_0.2.2.2.2
theorem dcX12_isCorner_0 : (decode cX12_isCorner 0 = .ok (.iload_n 0, 1)) ∧ (decode cX12_isCorner 1 = .ok (.ifCond .eq 20, 3)) ∧ (decode cX12_isCorner 4 = .ok (.iload_n 0, 1)) ∧ (decode cX12_isCorner 5 = .ok (.iconst 3, 1)) ∧ (decode cX12_isCorner 6 = .ok (.if_icmp .eq 15, 3)) ∧ (decode cX12_isCorner 9 = .ok (.iload_n 0, 1)) ∧ (decode cX12_isCorner 10 = .ok (.bipush 12, 2)) ∧ (decode cX12_isCorner 12 = .ok (.if_icmp .eq 9, 3)) := by decide +kernel
theorem dX12_isCorner_0 : decode cX12_isCorner 0 = .ok (.iload_n 0, 1) := dcX12_isCorner_0.1
theorem dX12_isCorner_1 : decode cX12_isCorner 1 = .ok (.ifCond .eq 20, 3) := dcX12_isCorner_0.2.1
theorem dX12_isCorner_4 : decode cX12_isCorner 4 = .ok (.iload_n 0, 1) := dcX12_isCorner_0.2.2.1
theorem dX12_isCorner_5 : decode cX12_isCorner 5 = .ok (.iconst 3, 1) := dcX12_isCorner_0.2.2.2.1
theorem dX12_isCorner_6 : decode cX12_isCorner 6 = .ok (.if_icmp .eq 15, 3) := dcX12_isCorner_0.2.2.2.2.1
theorem dX12_isCorner_9 : decode cX12_isCorner 9 = .ok (.iload_n 0, 1) := dcX12_isCorner_0.2.2.2.2.2.1
theorem dX12_isCorner_10 : decode cX12_isCorner 10 = .ok (.bipush 12, 2) := dcX12_isCorner_0.2.2.2.2.2.2.1
theorem dX12_isCorner_12 : decode cX12_isCorner 12 = .ok (.if_icmp .eq 9, 3) := dcX12_isCorner_0.2.2.2.2.2.2.2
theorem dcX12_isCorner_1 : (decode cX12_isCorner 15 = .ok (.iload_n 0, 1)) ∧ (decode cX12_isCorner 16 = .ok (.bipush 15, 2)) ∧ (decode cX12_isCorner 18 = .ok (.if_icmp .ne 7, 3)) ∧ (decode cX12_isCorner 21 = .ok (.iconst 1, 1)) ∧ (decode cX12_isCorner 22 = .ok (.goto 4, 3)) ∧ (decode cX12_isCorner 25 = .ok (.iconst 0, 1)) ∧ (decode cX12_isCorner 26 = .ok (.ireturn, 1)) := by decide +kernel
theorem dX12_isCorner_15 : decode cX12_isCorner 15 = .ok (.iload_n 0, 1) := dcX12_isCorner_1.1
theorem dX12_isCorner_16 : decode cX12_isCorner 16 = .ok (.bipush 15, 2) := dcX12_isCorner_1.2.1
theorem dX12_isCorner_18 : decode cX12_isCorner 18 = .ok (.if_icmp .ne 7, 3) := dcX12_isCorner_1.2.2.1
theorem dX12_isCorner_21 : decode cX12_isCorner 21 = .ok (.iconst 1, 1) := dcX12_isCorner_1.2.2.2.1
theorem dX12_isCorner_22 : decode cX12_isCorner 22 = .ok (.goto 4, 3) := dcX12_isCorner_1.2.2.2.2.1
theorem dX12_isCorner_25 : decode cX12_isCorner 25 = .ok (.iconst 0, 1) := dcX12_isCorner_1.2.2.2.2.2.1
theorem dX12_isCorner_26 : decode cX12_isCorner 26 = .ok (.ireturn, 1) := dcX12_isCorner_1.2.2.2.2.2.2
theorem dcX12_isMiddle_0 : (decode cX12_isMiddle 0 = .ok (.iload_n 0, 1)) ∧ (decode cX12_isMiddle 1 = .ok (.iconst 5, 1)) ∧ (decode cX12_isMiddle 2 = .ok (.if_icmp .eq 21, 3)) ∧ (decode cX12_isMiddle 5 = .ok (.iload_n 0, 1)) ∧ (decode cX12_isMiddle 6 = .ok (.bipush 6, 2)) ∧ (decode cX12_isMiddle 8 = .ok (.if_icmp .eq 15, 3)) ∧ (decode cX12_isMiddle 11 = .ok (.iload_n 0, 1)) ∧ (decode cX12_isMiddle 12 = .ok (.bipush 9, 2)) := by decide +kernel
theorem dX12_isMiddle_0 : decode cX12_isMiddle 0 = .ok (.iload_n 0, 1) := dcX12_isMiddle_0.1
theorem dX12_isMiddle_1 : decode cX12_isMiddle 1 = .ok (.iconst 5, 1) := dcX12_isMiddle_0.2.1
theorem dX12_isMiddle_2 : decode cX12_isMiddle 2 = .ok (.if_icmp .eq 21, 3) := dcX12_isMiddle_0.2.2.1
theorem dX12_isMiddle_5 : decode cX12_isMiddle 5 = .ok (.iload_n 0, 1) := dcX12_isMiddle_0.2.2.2.1
theorem dX12_isMiddle_6 : decode cX12_isMiddle 6 = .ok (.bipush 6, 2) := dcX12_isMiddle_0.2.2.2.2.1
theorem dX12_isMiddle_8 : decode cX12_isMiddle 8 = .ok (.if_icmp .eq 15, 3) := dcX12_isMiddle_0.2.2.2.2.2.1
theorem dX12_isMiddle_11 : decode cX12_isMiddle 11 = .ok (.iload_n 0, 1) := dcX12_isMiddle_0.2.2.2.2.2.2.1
theorem dX12_isMiddle_12 : decode cX12_isMiddle 12 = .ok (.bipush 9, 2) := dcX12_isMiddle_0.2.2.2.2.2.2.2
theorem dcX12_isMiddle_1 : (decode cX12_isMiddle 14 = .ok (.if_icmp .eq 9, 3)) ∧ (decode cX12_isMiddle 17 = .ok (.iload_n 0, 1)) ∧ (decode cX12_isMiddle 18 = .ok (.bipush 10, 2)) ∧ (decode cX12_isMiddle 20 = .ok (.if_icmp .ne 7, 3)) ∧ (decode cX12_isMiddle 23 = .ok (.iconst 1, 1)) ∧ (decode cX12_isMiddle 24 = .ok (.goto 4, 3)) ∧ (decode cX12_isMiddle 27 = .ok (.iconst 0, 1)) ∧ (decode cX12_isMiddle 28 = .ok (.ireturn, 1)) := by decide +kernel
theorem dX12_isMiddle_14 : decode cX12_isMiddle 14 = .ok (.if_icmp .eq 9, 3) := dcX12_isMiddle_1.1
theorem dX12_isMiddle_17 : decode cX12_isMiddle 17 = .ok (.iload_n 0, 1) := dcX12_isMiddle_1.2.1
theorem dX12_isMiddle_18 : decode cX12_isMiddle 18 = .ok (.bipush 10, 2) := dcX12_isMiddle_1.2.2.1
theorem dX12_isMiddle_20 : decode cX12_isMiddle 20 = .ok (.if_icmp .ne 7, 3) := dcX12_isMiddle_1.2.2.2.1
theorem dX12_isMiddle_23 : decode cX12_isMiddle 23 = .ok (.iconst 1, 1) := dcX12_isMiddle_1.2.2.2.2.1
theorem dX12_isMiddle_24 : decode cX12_isMiddle 24 = .ok (.goto 4, 3) := dcX12_isMiddle_1.2.2.2.2.2.1
theorem dX12_isMiddle_27 : decode cX12_isMiddle 27 = .ok (.iconst 0, 1) := dcX12_isMiddle_1.2.2.2.2.2.2.1
theorem dX12_isMiddle_28 : decode cX12_isMiddle 28 = .ok (.ireturn, 1) := dcX12_isMiddle_1.2.2.2.2.2.2.2
theorem dcX12_ones_0 : (decode cX12_ones 0 = .ok (.iconst 0, 1)) ∧ (decode cX12_ones 1 = .ok (.istore_n 1, 1)) ∧ (decode cX12_ones 2 = .ok (.iconst 0, 1)) ∧ (decode cX12_ones 3 = .ok (.istore_n 2, 1)) ∧ (decode cX12_ones 4 = .ok (.iload_n 2, 1)) ∧ (decode cX12_ones 5 = .ok (.bipush 16, 2)) ∧ (decode cX12_ones 7 = .ok (.if_icmp .ge 17, 3)) ∧ (decode cX12_ones 10 = .ok (.iload_n 1, 1)) := by decide +kernel
theorem dX12_ones_0 : decode cX12_ones 0 = .ok (.iconst 0, 1) := dcX12_ones_0.1
theorem dX12_ones_1 : decode cX12_ones 1 = .ok (.istore_n 1, 1) := dcX12_ones_0.2.1
theorem dX12_ones_2 : decode cX12_ones 2 = .ok (.iconst 0, 1) := dcX12_ones_0.2.2.1
theorem dX12_ones_3 : decode cX12_ones 3 = .ok (.istore_n 2, 1) := dcX12_ones_0.2.2.2.1
theorem dX12_ones_4 : decode cX12_ones 4 = .ok (.iload_n 2, 1) := dcX12_ones_0.2.2.2.2.1
theorem dX12_ones_5 : decode cX12_ones 5 = .ok (.bipush 16, 2) := dcX12_ones_0.2.2.2.2.2.1
theorem dX12_ones_7 : decode cX12_ones 7 = .ok (.if_icmp .ge 17, 3) := dcX12_ones_0.2.2.2.2.2.2.1
theorem dX12_ones_10 : decode cX12_ones 10 = .ok (.iload_n 1, 1) := dcX12_ones_0.2.2.2.2.2.2.2
theorem dcX12_ones_1 : (decode cX12_ones 11 = .ok (.iload_n 0, 1)) ∧ (decode cX12_ones 12 = .ok (.iload_n 2, 1)) ∧ (decode cX12_ones 13 = .ok (.ishr, 1)) ∧ (decode cX12_ones 14 = .ok (.iconst 1, 1)) ∧ (decode cX12_ones 15 = .ok (.iand, 1)) ∧ (decode cX12_ones 16 = .ok (.iadd, 1)) ∧ (decode cX12_ones 17 = .ok (.istore_n 1, 1)) ∧ (decode cX12_ones 18 = .ok (.iinc 2 1, 3)) := by decide +kernel
theorem dX12_ones_11 : decode cX12_ones 11 = .ok (.iload_n 0, 1) := dcX12_ones_1.1
theorem dX12_ones_12 : decode cX12_ones 12 = .ok (.iload_n 2, 1) := dcX12_ones_1.2.1
theorem dX12_ones_13 : decode cX12_ones 13 = .ok (.ishr, 1) := dcX12_ones_1.2.2.1
theorem dX12_ones_14 : decode cX12_ones 14 = .ok (.iconst 1, 1) := dcX12_ones_1.2.2.2.1
theorem dX12_ones_15 : decode cX12_ones 15 = .ok (.iand, 1) := dcX12_ones_1.2.2.2.2.1
theorem dX12_ones_16 : decode cX12_ones 16 = .ok (.iadd, 1) := dcX12_ones_1.2.2.2.2.2.1
theorem dX12_ones_17 : decode cX12_ones 17 = .ok (.istore_n 1, 1) := dcX12_ones_1.2.2.2.2.2.2.1
theorem dX12_ones_18 : decode cX12_ones 18 = .ok (.iinc 2 1, 3) := dcX12_ones_1.2.2.2.2.2.2.2
theorem dcX12_ones_2 : (decode cX12_ones 21 = .ok (.goto (-17), 3)) ∧ (decode cX12_ones 24 = .ok (.iload_n 1, 1)) ∧ (decode cX12_ones 25 = .ok (.ireturn, 1)) := by decide +kernel
theorem dX12_ones_21 : decode cX12_ones 21 = .ok (.goto (-17), 3) := dcX12_ones_2.1
theorem dX12_ones_24 : decode cX12_ones 24 = .ok (.iload_n 1, 1) := dcX12_ones_2.2.1
theorem dX12_ones_25 : decode cX12_ones 25 = .ok (.ireturn, 1) := dcX12_ones_2.2.2
theorem dcX12_count_0 : (decode cX12_count 0 = .ok (.iload_n 1, 1)) ∧ (decode cX12_count 1 = .ok (.tableswitch 69 0 5 #[39, 44, 49, 54, 59, 64], 39)) ∧ (decode cX12_count 40 = .ok (.aload_n 0, 1)) ∧ (decode cX12_count 41 = .ok (.getfield 90, 3)) ∧ (decode cX12_count 44 = .ok (.ireturn, 1)) ∧ (decode cX12_count 45 = .ok (.aload_n 0, 1)) ∧ (decode cX12_count 46 = .ok (.getfield 97, 3)) ∧ (decode cX12_count 49 = .ok (.ireturn, 1)) := by decide +kernel
theorem dX12_count_0 : decode cX12_count 0 = .ok (.iload_n 1, 1) := dcX12_count_0.1
theorem dX12_count_1 : decode cX12_count 1 = .ok (.tableswitch 69 0 5 #[39, 44, 49, 54, 59, 64], 39) := dcX12_count_0.2.1
theorem dX12_count_40 : decode cX12_count 40 = .ok (.aload_n 0, 1) := dcX12_count_0.2.2.1
theorem dX12_count_41 : decode cX12_count 41 = .ok (.getfield 90, 3) := dcX12_count_0.2.2.2.1
theorem dX12_count_44 : decode cX12_count 44 = .ok (.ireturn, 1) := dcX12_count_0.2.2.2.2.1
theorem dX12_count_45 : decode cX12_count 45 = .ok (.aload_n 0, 1) := dcX12_count_0.2.2.2.2.2.1
theorem dX12_count_46 : decode cX12_count 46 = .ok (.getfield 97, 3) := dcX12_count_0.2.2.2.2.2.2.1
theorem dX12_count_49 : decode cX12_count 49 = .ok (.ireturn, 1) := dcX12_count_0.2.2.2.2.2.2.2
theorem dcX12_count_1 : (decode cX12_count 50 = .ok (.aload_n 0, 1)) ∧ (decode cX12_count 51 = .ok (.getfield 22, 3)) ∧ (decode cX12_count 54 = .ok (.ireturn, 1)) ∧ (decode cX12_count 55 = .ok (.aload_n 0, 1)) ∧ (decode cX12_count 56 = .ok (.getfield 100, 3)) ∧ (decode cX12_count 59 = .ok (.ireturn, 1)) ∧ (decode cX12_count 60 = .ok (.aload_n 0, 1)) ∧ (decode cX12_count 61 = .ok (.getfield 103, 3)) := by decide +kernel
theorem dX12_count_50 : decode cX12_count 50 = .ok (.aload_n 0, 1) := dcX12_count_1.1
theorem dX12_count_51 : decode cX12_count 51 = .ok (.getfield 22, 3) := dcX12_count_1.2.1
theorem dX12_count_54 : decode cX12_count 54 = .ok (.ireturn, 1) := dcX12_count_1.2.2.1
theorem dX12_count_55 : decode cX12_count 55 = .ok (.aload_n 0, 1) := dcX12_count_1.2.2.2.1
theorem dX12_count_56 : decode cX12_count 56 = .ok (.getfield 100, 3) := dcX12_count_1.2.2.2.2.1
theorem dX12_count_59 : decode cX12_count 59 = .ok (.ireturn, 1) := dcX12_count_1.2.2.2.2.2.1
theorem dX12_count_60 : decode cX12_count 60 = .ok (.aload_n 0, 1) := dcX12_count_1.2.2.2.2.2.2.1
theorem dX12_count_61 : decode cX12_count 61 = .ok (.getfield 103, 3) := dcX12_count_1.2.2.2.2.2.2.2
theorem dcX12_count_2 : (decode cX12_count 64 = .ok (.ireturn, 1)) ∧ (decode cX12_count 65 = .ok (.aload_n 0, 1)) ∧ (decode cX12_count 66 = .ok (.getfield 83, 3)) ∧ (decode cX12_count 69 = .ok (.ireturn, 1)) ∧ (decode cX12_count 70 = .ok (.bipush (-2), 2)) ∧ (decode cX12_count 72 = .ok (.ireturn, 1)) := by decide +kernel
theorem dX12_count_64 : decode cX12_count 64 = .ok (.ireturn, 1) := dcX12_count_2.1
theorem dX12_count_65 : decode cX12_count 65 = .ok (.aload_n 0, 1) := dcX12_count_2.2.1
theorem dX12_count_66 : decode cX12_count 66 = .ok (.getfield 83, 3) := dcX12_count_2.2.2.1
theorem dX12_count_69 : decode cX12_count 69 = .ok (.ireturn, 1) := dcX12_count_2.2.2.2.1
theorem dX12_count_70 : decode cX12_count 70 = .ok (.bipush (-2), 2) := dcX12_count_2.2.2.2.2.1
theorem dX12_count_72 : decode cX12_count 72 = .ok (.ireturn, 1) := dcX12_count_2.2.2.2.2.2
theorem dcX12_hours_0 : (decode cX12_hours 0 = .ok (.iload_n 1, 1)) ∧ (decode cX12_hours 1 = .ok (.iconst 0, 1)) ∧ (decode cX12_hours 2 = .ok (.sipush 999, 3)) ∧ (decode cX12_hours 5 = .ok (.invokestatic 93, 3)) ∧ (decode cX12_hours 8 = .ok (.ifCond .ne 6, 3)) ∧ (decode cX12_hours 11 = .ok (.bipush (-2), 2)) ∧ (decode cX12_hours 13 = .ok (.ireturn, 1)) ∧ (decode cX12_hours 14 = .ok (.aload_n 0, 1)) := by decide +kernel
theorem dX12_hours_0 : decode cX12_hours 0 = .ok (.iload_n 1, 1) := dcX12_hours_0.1
theorem dX12_hours_1 : decode cX12_hours 1 = .ok (.iconst 0, 1) := dcX12_hours_0.2.1
theorem dX12_hours_2 : decode cX12_hours 2 = .ok (.sipush 999, 3) := dcX12_hours_0.2.2.1
theorem dX12_hours_5 : decode cX12_hours 5 = .ok (.invokestatic 93, 3) := dcX12_hours_0.2.2.2.1
theorem dX12_hours_8 : decode cX12_hours 8 = .ok (.ifCond .ne 6, 3) := dcX12_hours_0.2.2.2.2.1
theorem dX12_hours_11 : decode cX12_hours 11 = .ok (.bipush (-2), 2) := dcX12_hours_0.2.2.2.2.2.1
theorem dX12_hours_13 : decode cX12_hours 13 = .ok (.ireturn, 1) := dcX12_hours_0.2.2.2.2.2.2.1
theorem dX12_hours_14 : decode cX12_hours 14 = .ok (.aload_n 0, 1) := dcX12_hours_0.2.2.2.2.2.2.2
theorem dcX12_hours_1 : (decode cX12_hours 15 = .ok (.getfield 22, 3)) ∧ (decode cX12_hours 18 = .ok (.istore_n 2, 1)) ∧ (decode cX12_hours 19 = .ok (.aload_n 0, 1)) ∧ (decode cX12_hours 20 = .ok (.iload_n 1, 1)) ∧ (decode cX12_hours 21 = .ok (.putfield 22, 3)) ∧ (decode cX12_hours 24 = .ok (.iload_n 2, 1)) ∧ (decode cX12_hours 25 = .ok (.ireturn, 1)) := by decide +kernel
theorem dX12_hours_15 : decode cX12_hours 15 = .ok (.getfield 22, 3) := dcX12_hours_1.1
theorem dX12_hours_18 : decode cX12_hours 18 = .ok (.istore_n 2, 1) := dcX12_hours_1.2.1
theorem dX12_hours_19 : decode cX12_hours 19 = .ok (.aload_n 0, 1) := dcX12_hours_1.2.2.1
theorem dX12_hours_20 : decode cX12_hours 20 = .ok (.iload_n 1, 1) := dcX12_hours_1.2.2.2.1
theorem dX12_hours_21 : decode cX12_hours 21 = .ok (.putfield 22, 3) := dcX12_hours_1.2.2.2.2.1
theorem dX12_hours_24 : decode cX12_hours 24 = .ok (.iload_n 2, 1) := dcX12_hours_1.2.2.2.2.2.1
theorem dX12_hours_25 : decode cX12_hours 25 = .ok (.ireturn, 1) := dcX12_hours_1.2.2.2.2.2.2
theorem dcX12_isByte_0 : (decode cX12_isByte 0 = .ok (.iload_n 0, 1)) ∧ (decode cX12_isByte 1 = .ok (.iconst 0, 1)) ∧ (decode cX12_isByte 2 = .ok (.sipush 255, 3)) ∧ (decode cX12_isByte 5 = .ok (.invokestatic 93, 3)) ∧ (decode cX12_isByte 8 = .ok (.ireturn, 1)) := by decide +kernel
theorem dX12_isByte_0 : decode cX12_isByte 0 = .ok (.iload_n 0, 1) := dcX12_isByte_0.1
theorem dX12_isByte_1 : decode cX12_isByte 1 = .ok (.iconst 0, 1) := dcX12_isByte_0.2.1
theorem dX12_isByte_2 : decode cX12_isByte 2 = .ok (.sipush 255, 3) := dcX12_isByte_0.2.2.1
theorem dX12_isByte_5 : decode cX12_isByte 5 = .ok (.invokestatic 93, 3) := dcX12_isByte_0.2.2.2.1
theorem dX12_isByte_8 : decode cX12_isByte 8 = .ok (.ireturn, 1) := dcX12_isByte_0.2.2.2.2
theorem dcX12_feed_0 : (decode cX12_feed 0 = .ok (.iload_n 1, 1)) ∧ (decode cX12_feed 1 = .ok (.iconst 1, 1)) ∧ (decode cX12_feed 2 = .ok (.iconst 5, 1)) ∧ (decode cX12_feed 3 = .ok (.invokestatic 93, 3)) ∧ (decode cX12_feed 6 = .ok (.ifCond .eq 41, 3)) ∧ (decode cX12_feed 9 = .ok (.iload_n 2, 1)) ∧ (decode cX12_feed 10 = .ok (.invokestatic 106, 3)) ∧ (decode cX12_feed 13 = .ok (.ifCond .eq 34, 3)) := by decide +kernel
theorem dX12_feed_0 : decode cX12_feed 0 = .ok (.iload_n 1, 1) := dcX12_feed_0.1
theorem dX12_feed_1 : decode cX12_feed 1 = .ok (.iconst 1, 1) := dcX12_feed_0.2.1
theorem dX12_feed_2 : decode cX12_feed 2 = .ok (.iconst 5, 1) := dcX12_feed_0.2.2.1
theorem dX12_feed_3 : decode cX12_feed 3 = .ok (.invokestatic 93, 3) := dcX12_feed_0.2.2.2.1
theorem dX12_feed_6 : decode cX12_feed 6 = .ok (.ifCond .eq 41, 3) := dcX12_feed_0.2.2.2.2.1
theorem dX12_feed_9 : decode cX12_feed 9 = .ok (.iload_n 2, 1) := dcX12_feed_0.2.2.2.2.2.1
theorem dX12_feed_10 : decode cX12_feed 10 = .ok (.invokestatic 106, 3) := dcX12_feed_0.2.2.2.2.2.2.1
theorem dX12_feed_13 : decode cX12_feed 13 = .ok (.ifCond .eq 34, 3) := dcX12_feed_0.2.2.2.2.2.2.2
theorem dcX12_feed_1 : (decode cX12_feed 16 = .ok (.iload_n 3, 1)) ∧ (decode cX12_feed 17 = .ok (.invokestatic 106, 3)) ∧ (decode cX12_feed 20 = .ok (.ifCond .eq 27, 3)) ∧ (decode cX12_feed 23 = .ok (.iload 4, 2)) ∧ (decode cX12_feed 25 = .ok (.invokestatic 106, 3)) ∧ (decode cX12_feed 28 = .ok (.ifCond .eq 19, 3)) ∧ (decode cX12_feed 31 = .ok (.iload 5, 2)) ∧ (decode cX12_feed 33 = .ok (.invokestatic 106, 3)) := by decide +kernel
theorem dX12_feed_16 : decode cX12_feed 16 = .ok (.iload_n 3, 1) := dcX12_feed_1.1
theorem dX12_feed_17 : decode cX12_feed 17 = .ok (.invokestatic 106, 3) := dcX12_feed_1.2.1
theorem dX12_feed_20 : decode cX12_feed 20 = .ok (.ifCond .eq 27, 3) := dcX12_feed_1.2.2.1
theorem dX12_feed_23 : decode cX12_feed 23 = .ok (.iload 4, 2) := dcX12_feed_1.2.2.2.1
theorem dX12_feed_25 : decode cX12_feed 25 = .ok (.invokestatic 106, 3) := dcX12_feed_1.2.2.2.2.1
theorem dX12_feed_28 : decode cX12_feed 28 = .ok (.ifCond .eq 19, 3) := dcX12_feed_1.2.2.2.2.2.1
theorem dX12_feed_31 : decode cX12_feed 31 = .ok (.iload 5, 2) := dcX12_feed_1.2.2.2.2.2.2.1
theorem dX12_feed_33 : decode cX12_feed 33 = .ok (.invokestatic 106, 3) := dcX12_feed_1.2.2.2.2.2.2.2
theorem dcX12_feed_2 : (decode cX12_feed 36 = .ok (.ifCond .eq 11, 3)) ∧ (decode cX12_feed 39 = .ok (.iload 6, 2)) ∧ (decode cX12_feed 41 = .ok (.invokestatic 106, 3)) ∧ (decode cX12_feed 44 = .ok (.ifCond .ne 6, 3)) ∧ (decode cX12_feed 47 = .ok (.bipush (-2), 2)) ∧ (decode cX12_feed 49 = .ok (.ireturn, 1)) ∧ (decode cX12_feed 50 = .ok (.aload_n 0, 1)) ∧ (decode cX12_feed 51 = .ok (.getfield 83, 3)) := by decide +kernel
theorem dX12_feed_36 : decode cX12_feed 36 = .ok (.ifCond .eq 11, 3) := dcX12_feed_2.1
theorem dX12_feed_39 : decode cX12_feed 39 = .ok (.iload 6, 2) := dcX12_feed_2.2.1
theorem dX12_feed_41 : decode cX12_feed 41 = .ok (.invokestatic 106, 3) := dcX12_feed_2.2.2.1
theorem dX12_feed_44 : decode cX12_feed 44 = .ok (.ifCond .ne 6, 3) := dcX12_feed_2.2.2.2.1
theorem dX12_feed_47 : decode cX12_feed 47 = .ok (.bipush (-2), 2) := dcX12_feed_2.2.2.2.2.1
theorem dX12_feed_49 : decode cX12_feed 49 = .ok (.ireturn, 1) := dcX12_feed_2.2.2.2.2.2.1
theorem dX12_feed_50 : decode cX12_feed 50 = .ok (.aload_n 0, 1) := dcX12_feed_2.2.2.2.2.2.2.1
theorem dX12_feed_51 : decode cX12_feed 51 = .ok (.getfield 83, 3) := dcX12_feed_2.2.2.2.2.2.2.2
theorem dcX12_feed_3 : (decode cX12_feed 54 = .ok (.iload_n 1, 1)) ∧ (decode cX12_feed 55 = .ok (.iadd, 1)) ∧ (decode cX12_feed 56 = .ok (.sipush 160, 3)) ∧ (decode cX12_feed 59 = .ok (.if_icmp .le 6, 3)) ∧ (decode cX12_feed 62 = .ok (.bipush (-4), 2)) ∧ (decode cX12_feed 64 = .ok (.ireturn, 1)) ∧ (decode cX12_feed 65 = .ok (.iconst 0, 1)) ∧ (decode cX12_feed 66 = .ok (.istore 7, 2)) := by decide +kernel
theorem dX12_feed_54 : decode cX12_feed 54 = .ok (.iload_n 1, 1) := dcX12_feed_3.1
theorem dX12_feed_55 : decode cX12_feed 55 = .ok (.iadd, 1) := dcX12_feed_3.2.1
theorem dX12_feed_56 : decode cX12_feed 56 = .ok (.sipush 160, 3) := dcX12_feed_3.2.2.1
theorem dX12_feed_59 : decode cX12_feed 59 = .ok (.if_icmp .le 6, 3) := dcX12_feed_3.2.2.2.1
theorem dX12_feed_62 : decode cX12_feed 62 = .ok (.bipush (-4), 2) := dcX12_feed_3.2.2.2.2.1
theorem dX12_feed_64 : decode cX12_feed 64 = .ok (.ireturn, 1) := dcX12_feed_3.2.2.2.2.2.1
theorem dX12_feed_65 : decode cX12_feed 65 = .ok (.iconst 0, 1) := dcX12_feed_3.2.2.2.2.2.2.1
theorem dX12_feed_66 : decode cX12_feed 66 = .ok (.istore 7, 2) := dcX12_feed_3.2.2.2.2.2.2.2
theorem dcX12_feed_4 : (decode cX12_feed 68 = .ok (.iload 7, 2)) ∧ (decode cX12_feed 70 = .ok (.iload_n 1, 1)) ∧ (decode cX12_feed 71 = .ok (.if_icmp .ge 71, 3)) ∧ (decode cX12_feed 74 = .ok (.aload_n 0, 1)) ∧ (decode cX12_feed 75 = .ok (.getfield 26, 3)) ∧ (decode cX12_feed 78 = .ok (.aload_n 0, 1)) ∧ (decode cX12_feed 79 = .ok (.getfield 83, 3)) ∧ (decode cX12_feed 82 = .ok (.iload 7, 2)) := by decide +kernel
theorem dX12_feed_68 : decode cX12_feed 68 = .ok (.iload 7, 2) := dcX12_feed_4.1
theorem dX12_feed_70 : decode cX12_feed 70 = .ok (.iload_n 1, 1) := dcX12_feed_4.2.1
theorem dX12_feed_71 : decode cX12_feed 71 = .ok (.if_icmp .ge 71, 3) := dcX12_feed_4.2.2.1
theorem dX12_feed_74 : decode cX12_feed 74 = .ok (.aload_n 0, 1) := dcX12_feed_4.2.2.2.1
theorem dX12_feed_75 : decode cX12_feed 75 = .ok (.getfield 26, 3) := dcX12_feed_4.2.2.2.2.1
theorem dX12_feed_78 : decode cX12_feed 78 = .ok (.aload_n 0, 1) := dcX12_feed_4.2.2.2.2.2.1
theorem dX12_feed_79 : decode cX12_feed 79 = .ok (.getfield 83, 3) := dcX12_feed_4.2.2.2.2.2.2.1
theorem dX12_feed_82 : decode cX12_feed 82 = .ok (.iload 7, 2) := dcX12_feed_4.2.2.2.2.2.2.2
theorem dcX12_feed_5 : (decode cX12_feed 84 = .ok (.ifCond .ne 7, 3)) ∧ (decode cX12_feed 87 = .ok (.iload_n 2, 1)) ∧ (decode cX12_feed 88 = .ok (.goto 37, 3)) ∧ (decode cX12_feed 91 = .ok (.iload 7, 2)) ∧ (decode cX12_feed 93 = .ok (.iconst 1, 1)) ∧ (decode cX12_feed 94 = .ok (.if_icmp .ne 7, 3)) ∧ (decode cX12_feed 97 = .ok (.iload_n 3, 1)) ∧ (decode cX12_feed 98 = .ok (.goto 27, 3)) := by decide +kernel
theorem dX12_feed_84 : decode cX12_feed 84 = .ok (.ifCond .ne 7, 3) := dcX12_feed_5.1
theorem dX12_feed_87 : decode cX12_feed 87 = .ok (.iload_n 2, 1) := dcX12_feed_5.2.1
theorem dX12_feed_88 : decode cX12_feed 88 = .ok (.goto 37, 3) := dcX12_feed_5.2.2.1
theorem dX12_feed_91 : decode cX12_feed 91 = .ok (.iload 7, 2) := dcX12_feed_5.2.2.2.1
theorem dX12_feed_93 : decode cX12_feed 93 = .ok (.iconst 1, 1) := dcX12_feed_5.2.2.2.2.1
theorem dX12_feed_94 : decode cX12_feed 94 = .ok (.if_icmp .ne 7, 3) := dcX12_feed_5.2.2.2.2.2.1
theorem dX12_feed_97 : decode cX12_feed 97 = .ok (.iload_n 3, 1) := dcX12_feed_5.2.2.2.2.2.2.1
theorem dX12_feed_98 : decode cX12_feed 98 = .ok (.goto 27, 3) := dcX12_feed_5.2.2.2.2.2.2.2
theorem dcX12_feed_6 : (decode cX12_feed 101 = .ok (.iload 7, 2)) ∧ (decode cX12_feed 103 = .ok (.iconst 2, 1)) ∧ (decode cX12_feed 104 = .ok (.if_icmp .ne 8, 3)) ∧ (decode cX12_feed 107 = .ok (.iload 4, 2)) ∧ (decode cX12_feed 109 = .ok (.goto 16, 3)) ∧ (decode cX12_feed 112 = .ok (.iload 7, 2)) ∧ (decode cX12_feed 114 = .ok (.iconst 3, 1)) ∧ (decode cX12_feed 115 = .ok (.if_icmp .ne 8, 3)) := by decide +kernel
theorem dX12_feed_101 : decode cX12_feed 101 = .ok (.iload 7, 2) := dcX12_feed_6.1
theorem dX12_feed_103 : decode cX12_feed 103 = .ok (.iconst 2, 1) := dcX12_feed_6.2.1
theorem dX12_feed_104 : decode cX12_feed 104 = .ok (.if_icmp .ne 8, 3) := dcX12_feed_6.2.2.1
theorem dX12_feed_107 : decode cX12_feed 107 = .ok (.iload 4, 2) := dcX12_feed_6.2.2.2.1
theorem dX12_feed_109 : decode cX12_feed 109 = .ok (.goto 16, 3) := dcX12_feed_6.2.2.2.2.1
theorem dX12_feed_112 : decode cX12_feed 112 = .ok (.iload 7, 2) := dcX12_feed_6.2.2.2.2.2.1
theorem dX12_feed_114 : decode cX12_feed 114 = .ok (.iconst 3, 1) := dcX12_feed_6.2.2.2.2.2.2.1
theorem dX12_feed_115 : decode cX12_feed 115 = .ok (.if_icmp .ne 8, 3) := dcX12_feed_6.2.2.2.2.2.2.2
theorem dcX12_feed_7 : (decode cX12_feed 118 = .ok (.iload 5, 2)) ∧ (decode cX12_feed 120 = .ok (.goto 5, 3)) ∧ (decode cX12_feed 123 = .ok (.iload 6, 2)) ∧ (decode cX12_feed 125 = .ok (.iastore, 1)) ∧ (decode cX12_feed 126 = .ok (.aload_n 0, 1)) ∧ (decode cX12_feed 127 = .ok (.dup, 1)) ∧ (decode cX12_feed 128 = .ok (.getfield 83, 3)) ∧ (decode cX12_feed 131 = .ok (.iconst 1, 1)) := by decide +kernel
theorem dX12_feed_118 : decode cX12_feed 118 = .ok (.iload 5, 2) := dcX12_feed_7.1
theorem dX12_feed_120 : decode cX12_feed 120 = .ok (.goto 5, 3) := dcX12_feed_7.2.1
theorem dX12_feed_123 : decode cX12_feed 123 = .ok (.iload 6, 2) := dcX12_feed_7.2.2.1
theorem dX12_feed_125 : decode cX12_feed 125 = .ok (.iastore, 1) := dcX12_feed_7.2.2.2.1
theorem dX12_feed_126 : decode cX12_feed 126 = .ok (.aload_n 0, 1) := dcX12_feed_7.2.2.2.2.1
theorem dX12_feed_127 : decode cX12_feed 127 = .ok (.dup, 1) := dcX12_feed_7.2.2.2.2.2.1
theorem dX12_feed_128 : decode cX12_feed 128 = .ok (.getfield 83, 3) := dcX12_feed_7.2.2.2.2.2.2.1
theorem dX12_feed_131 : decode cX12_feed 131 = .ok (.iconst 1, 1) := dcX12_feed_7.2.2.2.2.2.2.2
theorem dcX12_feed_8 : (decode cX12_feed 132 = .ok (.iadd, 1)) ∧ (decode cX12_feed 133 = .ok (.putfield 83, 3)) ∧ (decode cX12_feed 136 = .ok (.iinc 7 1, 3)) ∧ (decode cX12_feed 139 = .ok (.goto (-71), 3)) ∧ (decode cX12_feed 142 = .ok (.aload_n 0, 1)) ∧ (decode cX12_feed 143 = .ok (.getfield 83, 3)) ∧ (decode cX12_feed 146 = .ok (.ireturn, 1)) := by decide +kernel
theorem dX12_feed_132 : decode cX12_feed 132 = .ok (.iadd, 1) := dcX12_feed_8.1
theorem dX12_feed_133 : decode cX12_feed 133 = .ok (.putfield 83, 3) := dcX12_feed_8.2.1
theorem dX12_feed_136 : decode cX12_feed 136 = .ok (.iinc 7 1, 3) := dcX12_feed_8.2.2.1
theorem dX12_feed_139 : decode cX12_feed 139 = .ok (.goto (-71), 3) := dcX12_feed_8.2.2.2.1
theorem dX12_feed_142 : decode cX12_feed 142 = .ok (.aload_n 0, 1) := dcX12_feed_8.2.2.2.2.1
theorem dX12_feed_143 : decode cX12_feed 143 = .ok (.getfield 83, 3) := dcX12_feed_8.2.2.2.2.2.1
theorem dX12_feed_146 : decode cX12_feed 146 = .ok (.ireturn, 1) := dcX12_feed_8.2.2.2.2.2.2
theorem dcX12_wordFrom_0 : (decode cX12_wordFrom 0 = .ok (.iconst 0, 1)) ∧ (decode cX12_wordFrom 1 = .ok (.istore_n 3, 1)) ∧ (decode cX12_wordFrom 2 = .ok (.iload_n 3, 1)) ∧ (decode cX12_wordFrom 3 = .ok (.bipush 12, 2)) ∧ (decode cX12_wordFrom 5 = .ok (.if_icmp .ge 96, 3)) ∧ (decode cX12_wordFrom 8 = .ok (.iload_n 2, 1)) ∧ (decode cX12_wordFrom 9 = .ok (.iload_n 1, 1)) ∧ (decode cX12_wordFrom 10 = .ok (.isub, 1)) := by decide +kernel
theorem dX12_wordFrom_0 : decode cX12_wordFrom 0 = .ok (.iconst 0, 1) := dcX12_wordFrom_0.1
theorem dX12_wordFrom_1 : decode cX12_wordFrom 1 = .ok (.istore_n 3, 1) := dcX12_wordFrom_0.2.1
theorem dX12_wordFrom_2 : decode cX12_wordFrom 2 = .ok (.iload_n 3, 1) := dcX12_wordFrom_0.2.2.1
theorem dX12_wordFrom_3 : decode cX12_wordFrom 3 = .ok (.bipush 12, 2) := dcX12_wordFrom_0.2.2.2.1
theorem dX12_wordFrom_5 : decode cX12_wordFrom 5 = .ok (.if_icmp .ge 96, 3) := dcX12_wordFrom_0.2.2.2.2.1
theorem dX12_wordFrom_8 : decode cX12_wordFrom 8 = .ok (.iload_n 2, 1) := dcX12_wordFrom_0.2.2.2.2.2.1
theorem dX12_wordFrom_9 : decode cX12_wordFrom 9 = .ok (.iload_n 1, 1) := dcX12_wordFrom_0.2.2.2.2.2.2.1
theorem dX12_wordFrom_10 : decode cX12_wordFrom 10 = .ok (.isub, 1) := dcX12_wordFrom_0.2.2.2.2.2.2.2
theorem dcX12_wordFrom_1 : (decode cX12_wordFrom 11 = .ok (.bipush 8, 2)) ∧ (decode cX12_wordFrom 13 = .ok (.if_icmp .gt 7, 3)) ∧ (decode cX12_wordFrom 16 = .ok (.iconst 1, 1)) ∧ (decode cX12_wordFrom 17 = .ok (.goto 4, 3)) ∧ (decode cX12_wordFrom 20 = .ok (.iconst 0, 1)) ∧ (decode cX12_wordFrom 21 = .ok (.istore 4, 2)) ∧ (decode cX12_wordFrom 23 = .ok (.iconst 0, 1)) ∧ (decode cX12_wordFrom 24 = .ok (.istore 5, 2)) := by decide +kernel
theorem dX12_wordFrom_11 : decode cX12_wordFrom 11 = .ok (.bipush 8, 2) := dcX12_wordFrom_1.1
theorem dX12_wordFrom_13 : decode cX12_wordFrom 13 = .ok (.if_icmp .gt 7, 3) := dcX12_wordFrom_1.2.1
theorem dX12_wordFrom_16 : decode cX12_wordFrom 16 = .ok (.iconst 1, 1) := dcX12_wordFrom_1.2.2.1
theorem dX12_wordFrom_17 : decode cX12_wordFrom 17 = .ok (.goto 4, 3) := dcX12_wordFrom_1.2.2.2.1
theorem dX12_wordFrom_20 : decode cX12_wordFrom 20 = .ok (.iconst 0, 1) := dcX12_wordFrom_1.2.2.2.2.1
theorem dX12_wordFrom_21 : decode cX12_wordFrom 21 = .ok (.istore 4, 2) := dcX12_wordFrom_1.2.2.2.2.2.1
theorem dX12_wordFrom_23 : decode cX12_wordFrom 23 = .ok (.iconst 0, 1) := dcX12_wordFrom_1.2.2.2.2.2.2.1
theorem dX12_wordFrom_24 : decode cX12_wordFrom 24 = .ok (.istore 5, 2) := dcX12_wordFrom_1.2.2.2.2.2.2.2
theorem dcX12_wordFrom_2 : (decode cX12_wordFrom 26 = .ok (.iload 5, 2)) ∧ (decode cX12_wordFrom 28 = .ok (.bipush 8, 2)) ∧ (decode cX12_wordFrom 30 = .ok (.if_icmp .ge 58, 3)) ∧ (decode cX12_wordFrom 33 = .ok (.iload 4, 2)) ∧ (decode cX12_wordFrom 35 = .ok (.ifCond .eq 53, 3)) ∧ (decode cX12_wordFrom 38 = .ok (.aload_n 0, 1)) ∧ (decode cX12_wordFrom 39 = .ok (.getfield 56, 3)) ∧ (decode cX12_wordFrom 42 = .ok (.bipush 8, 2)) := by decide +kernel
theorem dX12_wordFrom_26 : decode cX12_wordFrom 26 = .ok (.iload 5, 2) := dcX12_wordFrom_2.1
theorem dX12_wordFrom_28 : decode cX12_wordFrom 28 = .ok (.bipush 8, 2) := dcX12_wordFrom_2.2.1
theorem dX12_wordFrom_30 : decode cX12_wordFrom 30 = .ok (.if_icmp .ge 58, 3) := dcX12_wordFrom_2.2.2.1
theorem dX12_wordFrom_33 : decode cX12_wordFrom 33 = .ok (.iload 4, 2) := dcX12_wordFrom_2.2.2.2.1
theorem dX12_wordFrom_35 : decode cX12_wordFrom 35 = .ok (.ifCond .eq 53, 3) := dcX12_wordFrom_2.2.2.2.2.1
theorem dX12_wordFrom_38 : decode cX12_wordFrom 38 = .ok (.aload_n 0, 1) := dcX12_wordFrom_2.2.2.2.2.2.1
theorem dX12_wordFrom_39 : decode cX12_wordFrom 39 = .ok (.getfield 56, 3) := dcX12_wordFrom_2.2.2.2.2.2.2.1
theorem dX12_wordFrom_42 : decode cX12_wordFrom 42 = .ok (.bipush 8, 2) := dcX12_wordFrom_2.2.2.2.2.2.2.2
theorem dcX12_wordFrom_3 : (decode cX12_wordFrom 44 = .ok (.iload_n 3, 1)) ∧ (decode cX12_wordFrom 45 = .ok (.imul, 1)) ∧ (decode cX12_wordFrom 46 = .ok (.iload 5, 2)) ∧ (decode cX12_wordFrom 48 = .ok (.iadd, 1)) ∧ (decode cX12_wordFrom 49 = .ok (.iaload, 1)) ∧ (decode cX12_wordFrom 50 = .ok (.iload_n 1, 1)) ∧ (decode cX12_wordFrom 51 = .ok (.iload 5, 2)) ∧ (decode cX12_wordFrom 53 = .ok (.iadd, 1)) := by decide +kernel
theorem dX12_wordFrom_44 : decode cX12_wordFrom 44 = .ok (.iload_n 3, 1) := dcX12_wordFrom_3.1
theorem dX12_wordFrom_45 : decode cX12_wordFrom 45 = .ok (.imul, 1) := dcX12_wordFrom_3.2.1
theorem dX12_wordFrom_46 : decode cX12_wordFrom 46 = .ok (.iload 5, 2) := dcX12_wordFrom_3.2.2.1
theorem dX12_wordFrom_48 : decode cX12_wordFrom 48 = .ok (.iadd, 1) := dcX12_wordFrom_3.2.2.2.1
theorem dX12_wordFrom_49 : decode cX12_wordFrom 49 = .ok (.iaload, 1) := dcX12_wordFrom_3.2.2.2.2.1
theorem dX12_wordFrom_50 : decode cX12_wordFrom 50 = .ok (.iload_n 1, 1) := dcX12_wordFrom_3.2.2.2.2.2.1
theorem dX12_wordFrom_51 : decode cX12_wordFrom 51 = .ok (.iload 5, 2) := dcX12_wordFrom_3.2.2.2.2.2.2.1
theorem dX12_wordFrom_53 : decode cX12_wordFrom 53 = .ok (.iadd, 1) := dcX12_wordFrom_3.2.2.2.2.2.2.2
theorem dcX12_wordFrom_4 : (decode cX12_wordFrom 54 = .ok (.iload_n 2, 1)) ∧ (decode cX12_wordFrom 55 = .ok (.if_icmp .ge 15, 3)) ∧ (decode cX12_wordFrom 58 = .ok (.aload_n 0, 1)) ∧ (decode cX12_wordFrom 59 = .ok (.getfield 26, 3)) ∧ (decode cX12_wordFrom 62 = .ok (.iload_n 1, 1)) ∧ (decode cX12_wordFrom 63 = .ok (.iload 5, 2)) ∧ (decode cX12_wordFrom 65 = .ok (.iadd, 1)) ∧ (decode cX12_wordFrom 66 = .ok (.iaload, 1)) := by decide +kernel
theorem dX12_wordFrom_54 : decode cX12_wordFrom 54 = .ok (.iload_n 2, 1) := dcX12_wordFrom_4.1
theorem dX12_wordFrom_55 : decode cX12_wordFrom 55 = .ok (.if_icmp .ge 15, 3) := dcX12_wordFrom_4.2.1
theorem dX12_wordFrom_58 : decode cX12_wordFrom 58 = .ok (.aload_n 0, 1) := dcX12_wordFrom_4.2.2.1
theorem dX12_wordFrom_59 : decode cX12_wordFrom 59 = .ok (.getfield 26, 3) := dcX12_wordFrom_4.2.2.2.1
theorem dX12_wordFrom_62 : decode cX12_wordFrom 62 = .ok (.iload_n 1, 1) := dcX12_wordFrom_4.2.2.2.2.1
theorem dX12_wordFrom_63 : decode cX12_wordFrom 63 = .ok (.iload 5, 2) := dcX12_wordFrom_4.2.2.2.2.2.1
theorem dX12_wordFrom_65 : decode cX12_wordFrom 65 = .ok (.iadd, 1) := dcX12_wordFrom_4.2.2.2.2.2.2.1
theorem dX12_wordFrom_66 : decode cX12_wordFrom 66 = .ok (.iaload, 1) := dcX12_wordFrom_4.2.2.2.2.2.2.2
theorem dcX12_wordFrom_5 : (decode cX12_wordFrom 67 = .ok (.goto 5, 3)) ∧ (decode cX12_wordFrom 70 = .ok (.bipush 32, 2)) ∧ (decode cX12_wordFrom 72 = .ok (.if_icmp .ne 7, 3)) ∧ (decode cX12_wordFrom 75 = .ok (.iconst 1, 1)) ∧ (decode cX12_wordFrom 76 = .ok (.goto 4, 3)) ∧ (decode cX12_wordFrom 79 = .ok (.iconst 0, 1)) ∧ (decode cX12_wordFrom 80 = .ok (.istore 4, 2)) ∧ (decode cX12_wordFrom 82 = .ok (.iinc 5 1, 3)) := by decide +kernel
theorem dX12_wordFrom_67 : decode cX12_wordFrom 67 = .ok (.goto 5, 3) := dcX12_wordFrom_5.1
theorem dX12_wordFrom_70 : decode cX12_wordFrom 70 = .ok (.bipush 32, 2) := dcX12_wordFrom_5.2.1
theorem dX12_wordFrom_72 : decode cX12_wordFrom 72 = .ok (.if_icmp .ne 7, 3) := dcX12_wordFrom_5.2.2.1
theorem dX12_wordFrom_75 : decode cX12_wordFrom 75 = .ok (.iconst 1, 1) := dcX12_wordFrom_5.2.2.2.1
theorem dX12_wordFrom_76 : decode cX12_wordFrom 76 = .ok (.goto 4, 3) := dcX12_wordFrom_5.2.2.2.2.1
theorem dX12_wordFrom_79 : decode cX12_wordFrom 79 = .ok (.iconst 0, 1) := dcX12_wordFrom_5.2.2.2.2.2.1
theorem dX12_wordFrom_80 : decode cX12_wordFrom 80 = .ok (.istore 4, 2) := dcX12_wordFrom_5.2.2.2.2.2.2.1
theorem dX12_wordFrom_82 : decode cX12_wordFrom 82 = .ok (.iinc 5 1, 3) := dcX12_wordFrom_5.2.2.2.2.2.2.2
theorem dcX12_wordFrom_6 : (decode cX12_wordFrom 85 = .ok (.goto (-59), 3)) ∧ (decode cX12_wordFrom 88 = .ok (.iload 4, 2)) ∧ (decode cX12_wordFrom 90 = .ok (.ifCond .eq 5, 3)) ∧ (decode cX12_wordFrom 93 = .ok (.iload_n 3, 1)) ∧ (decode cX12_wordFrom 94 = .ok (.ireturn, 1)) ∧ (decode cX12_wordFrom 95 = .ok (.iinc 3 1, 3)) ∧ (decode cX12_wordFrom 98 = .ok (.goto (-96), 3)) ∧ (decode cX12_wordFrom 101 = .ok (.bipush 12, 2)) := by decide +kernel
theorem dX12_wordFrom_85 : decode cX12_wordFrom 85 = .ok (.goto (-59), 3) := dcX12_wordFrom_6.1
theorem dX12_wordFrom_88 : decode cX12_wordFrom 88 = .ok (.iload 4, 2) := dcX12_wordFrom_6.2.1
theorem dX12_wordFrom_90 : decode cX12_wordFrom 90 = .ok (.ifCond .eq 5, 3) := dcX12_wordFrom_6.2.2.1
theorem dX12_wordFrom_93 : decode cX12_wordFrom 93 = .ok (.iload_n 3, 1) := dcX12_wordFrom_6.2.2.2.1
theorem dX12_wordFrom_94 : decode cX12_wordFrom 94 = .ok (.ireturn, 1) := dcX12_wordFrom_6.2.2.2.2.1
theorem dX12_wordFrom_95 : decode cX12_wordFrom 95 = .ok (.iinc 3 1, 3) := dcX12_wordFrom_6.2.2.2.2.2.1
theorem dX12_wordFrom_98 : decode cX12_wordFrom 98 = .ok (.goto (-96), 3) := dcX12_wordFrom_6.2.2.2.2.2.2.1
theorem dX12_wordFrom_101 : decode cX12_wordFrom 101 = .ok (.bipush 12, 2) := dcX12_wordFrom_6.2.2.2.2.2.2.2
theorem dX12_wordFrom_103 : decode cX12_wordFrom 103 = .ok (.ireturn, 1) := by decide +kernel
theorem dcX12_next_0 : (decode cX12_next 0 = .ok (.aload_n 0, 1)) ∧ (decode cX12_next 1 = .ok (.getfield 110, 3)) ∧ (decode cX12_next 4 = .ok (.aload_n 0, 1)) ∧ (decode cX12_next 5 = .ok (.getfield 83, 3)) ∧ (decode cX12_next 8 = .ok (.if_icmp .ge 44, 3)) ∧ (decode cX12_next 11 = .ok (.aload_n 0, 1)) ∧ (decode cX12_next 12 = .ok (.getfield 26, 3)) ∧ (decode cX12_next 15 = .ok (.aload_n 0, 1)) := by decide +kernel
theorem dX12_next_0 : decode cX12_next 0 = .ok (.aload_n 0, 1) := dcX12_next_0.1
theorem dX12_next_1 : decode cX12_next 1 = .ok (.getfield 110, 3) := dcX12_next_0.2.1
theorem dX12_next_4 : decode cX12_next 4 = .ok (.aload_n 0, 1) := dcX12_next_0.2.2.1
theorem dX12_next_5 : decode cX12_next 5 = .ok (.getfield 83, 3) := dcX12_next_0.2.2.2.1
theorem dX12_next_8 : decode cX12_next 8 = .ok (.if_icmp .ge 44, 3) := dcX12_next_0.2.2.2.2.1
theorem dX12_next_11 : decode cX12_next 11 = .ok (.aload_n 0, 1) := dcX12_next_0.2.2.2.2.2.1
theorem dX12_next_12 : decode cX12_next 12 = .ok (.getfield 26, 3) := dcX12_next_0.2.2.2.2.2.2.1
theorem dX12_next_15 : decode cX12_next 15 = .ok (.aload_n 0, 1) := dcX12_next_0.2.2.2.2.2.2.2
theorem dcX12_next_1 : (decode cX12_next 16 = .ok (.getfield 110, 3)) ∧ (decode cX12_next 19 = .ok (.iaload, 1)) ∧ (decode cX12_next 20 = .ok (.bipush 32, 2)) ∧ (decode cX12_next 22 = .ok (.if_icmp .eq 17, 3)) ∧ (decode cX12_next 25 = .ok (.aload_n 0, 1)) ∧ (decode cX12_next 26 = .ok (.getfield 26, 3)) ∧ (decode cX12_next 29 = .ok (.aload_n 0, 1)) ∧ (decode cX12_next 30 = .ok (.getfield 110, 3)) := by decide +kernel
theorem dX12_next_16 : decode cX12_next 16 = .ok (.getfield 110, 3) := dcX12_next_1.1
theorem dX12_next_19 : decode cX12_next 19 = .ok (.iaload, 1) := dcX12_next_1.2.1
theorem dX12_next_20 : decode cX12_next 20 = .ok (.bipush 32, 2) := dcX12_next_1.2.2.1
theorem dX12_next_22 : decode cX12_next 22 = .ok (.if_icmp .eq 17, 3) := dcX12_next_1.2.2.2.1
theorem dX12_next_25 : decode cX12_next 25 = .ok (.aload_n 0, 1) := dcX12_next_1.2.2.2.2.1
theorem dX12_next_26 : decode cX12_next 26 = .ok (.getfield 26, 3) := dcX12_next_1.2.2.2.2.2.1
theorem dX12_next_29 : decode cX12_next 29 = .ok (.aload_n 0, 1) := dcX12_next_1.2.2.2.2.2.2.1
theorem dX12_next_30 : decode cX12_next 30 = .ok (.getfield 110, 3) := dcX12_next_1.2.2.2.2.2.2.2
theorem dcX12_next_2 : (decode cX12_next 33 = .ok (.iaload, 1)) ∧ (decode cX12_next 34 = .ok (.bipush 10, 2)) ∧ (decode cX12_next 36 = .ok (.if_icmp .ne 16, 3)) ∧ (decode cX12_next 39 = .ok (.aload_n 0, 1)) ∧ (decode cX12_next 40 = .ok (.dup, 1)) ∧ (decode cX12_next 41 = .ok (.getfield 110, 3)) ∧ (decode cX12_next 44 = .ok (.iconst 1, 1)) ∧ (decode cX12_next 45 = .ok (.iadd, 1)) := by decide +kernel
theorem dX12_next_33 : decode cX12_next 33 = .ok (.iaload, 1) := dcX12_next_2.1
theorem dX12_next_34 : decode cX12_next 34 = .ok (.bipush 10, 2) := dcX12_next_2.2.1
theorem dX12_next_36 : decode cX12_next 36 = .ok (.if_icmp .ne 16, 3) := dcX12_next_2.2.2.1
theorem dX12_next_39 : decode cX12_next 39 = .ok (.aload_n 0, 1) := dcX12_next_2.2.2.2.1
theorem dX12_next_40 : decode cX12_next 40 = .ok (.dup, 1) := dcX12_next_2.2.2.2.2.1
theorem dX12_next_41 : decode cX12_next 41 = .ok (.getfield 110, 3) := dcX12_next_2.2.2.2.2.2.1
theorem dX12_next_44 : decode cX12_next 44 = .ok (.iconst 1, 1) := dcX12_next_2.2.2.2.2.2.2.1
theorem dX12_next_45 : decode cX12_next 45 = .ok (.iadd, 1) := dcX12_next_2.2.2.2.2.2.2.2
theorem dcX12_next_3 : (decode cX12_next 46 = .ok (.putfield 110, 3)) ∧ (decode cX12_next 49 = .ok (.goto (-49), 3)) ∧ (decode cX12_next 52 = .ok (.aload_n 0, 1)) ∧ (decode cX12_next 53 = .ok (.aload_n 0, 1)) ∧ (decode cX12_next 54 = .ok (.getfield 110, 3)) ∧ (decode cX12_next 57 = .ok (.putfield 113, 3)) ∧ (decode cX12_next 60 = .ok (.aload_n 0, 1)) ∧ (decode cX12_next 61 = .ok (.iconst 0, 1)) := by decide +kernel
theorem dX12_next_46 : decode cX12_next 46 = .ok (.putfield 110, 3) := dcX12_next_3.1
theorem dX12_next_49 : decode cX12_next 49 = .ok (.goto (-49), 3) := dcX12_next_3.2.1
theorem dX12_next_52 : decode cX12_next 52 = .ok (.aload_n 0, 1) := dcX12_next_3.2.2.1
theorem dX12_next_53 : decode cX12_next 53 = .ok (.aload_n 0, 1) := dcX12_next_3.2.2.2.1
theorem dX12_next_54 : decode cX12_next 54 = .ok (.getfield 110, 3) := dcX12_next_3.2.2.2.2.1
theorem dX12_next_57 : decode cX12_next 57 = .ok (.putfield 113, 3) := dcX12_next_3.2.2.2.2.2.1
theorem dX12_next_60 : decode cX12_next 60 = .ok (.aload_n 0, 1) := dcX12_next_3.2.2.2.2.2.2.1
theorem dX12_next_61 : decode cX12_next 61 = .ok (.iconst 0, 1) := dcX12_next_3.2.2.2.2.2.2.2
theorem dcX12_next_4 : (decode cX12_next 62 = .ok (.putfield 116, 3)) ∧ (decode cX12_next 65 = .ok (.aload_n 0, 1)) ∧ (decode cX12_next 66 = .ok (.iconst 0, 1)) ∧ (decode cX12_next 67 = .ok (.putfield 119, 3)) ∧ (decode cX12_next 70 = .ok (.aload_n 0, 1)) ∧ (decode cX12_next 71 = .ok (.getfield 110, 3)) ∧ (decode cX12_next 74 = .ok (.aload_n 0, 1)) ∧ (decode cX12_next 75 = .ok (.getfield 83, 3)) := by decide +kernel
theorem dX12_next_62 : decode cX12_next 62 = .ok (.putfield 116, 3) := dcX12_next_4.1
theorem dX12_next_65 : decode cX12_next 65 = .ok (.aload_n 0, 1) := dcX12_next_4.2.1
theorem dX12_next_66 : decode cX12_next 66 = .ok (.iconst 0, 1) := dcX12_next_4.2.2.1
theorem dX12_next_67 : decode cX12_next 67 = .ok (.putfield 119, 3) := dcX12_next_4.2.2.2.1
theorem dX12_next_70 : decode cX12_next 70 = .ok (.aload_n 0, 1) := dcX12_next_4.2.2.2.2.1
theorem dX12_next_71 : decode cX12_next 71 = .ok (.getfield 110, 3) := dcX12_next_4.2.2.2.2.2.1
theorem dX12_next_74 : decode cX12_next 74 = .ok (.aload_n 0, 1) := dcX12_next_4.2.2.2.2.2.2.1
theorem dX12_next_75 : decode cX12_next 75 = .ok (.getfield 83, 3) := dcX12_next_4.2.2.2.2.2.2.2
theorem dcX12_next_5 : (decode cX12_next 78 = .ok (.if_icmp .ne 4, 3)) ∧ (decode cX12_next 81 = .ok (.return_, 1)) ∧ (decode cX12_next 82 = .ok (.aload_n 0, 1)) ∧ (decode cX12_next 83 = .ok (.getfield 26, 3)) ∧ (decode cX12_next 86 = .ok (.aload_n 0, 1)) ∧ (decode cX12_next 87 = .ok (.getfield 110, 3)) ∧ (decode cX12_next 90 = .ok (.iaload, 1)) ∧ (decode cX12_next 91 = .ok (.istore_n 1, 1)) := by decide +kernel
theorem dX12_next_78 : decode cX12_next 78 = .ok (.if_icmp .ne 4, 3) := dcX12_next_5.1
theorem dX12_next_81 : decode cX12_next 81 = .ok (.return_, 1) := dcX12_next_5.2.1
theorem dX12_next_82 : decode cX12_next 82 = .ok (.aload_n 0, 1) := dcX12_next_5.2.2.1
theorem dX12_next_83 : decode cX12_next 83 = .ok (.getfield 26, 3) := dcX12_next_5.2.2.2.1
theorem dX12_next_86 : decode cX12_next 86 = .ok (.aload_n 0, 1) := dcX12_next_5.2.2.2.2.1
theorem dX12_next_87 : decode cX12_next 87 = .ok (.getfield 110, 3) := dcX12_next_5.2.2.2.2.2.1
theorem dX12_next_90 : decode cX12_next 90 = .ok (.iaload, 1) := dcX12_next_5.2.2.2.2.2.2.1
theorem dX12_next_91 : decode cX12_next 91 = .ok (.istore_n 1, 1) := dcX12_next_5.2.2.2.2.2.2.2
theorem dcX12_next_6 : (decode cX12_next 92 = .ok (.iload_n 1, 1)) ∧ (decode cX12_next 93 = .ok (.bipush 97, 2)) ∧ (decode cX12_next 95 = .ok (.bipush 122, 2)) ∧ (decode cX12_next 97 = .ok (.invokestatic 93, 3)) ∧ (decode cX12_next 100 = .ok (.ifCond .eq 117, 3)) ∧ (decode cX12_next 103 = .ok (.aload_n 0, 1)) ∧ (decode cX12_next 104 = .ok (.getfield 110, 3)) ∧ (decode cX12_next 107 = .ok (.aload_n 0, 1)) := by decide +kernel
theorem dX12_next_92 : decode cX12_next 92 = .ok (.iload_n 1, 1) := dcX12_next_6.1
theorem dX12_next_93 : decode cX12_next 93 = .ok (.bipush 97, 2) := dcX12_next_6.2.1
theorem dX12_next_95 : decode cX12_next 95 = .ok (.bipush 122, 2) := dcX12_next_6.2.2.1
theorem dX12_next_97 : decode cX12_next 97 = .ok (.invokestatic 93, 3) := dcX12_next_6.2.2.2.1
theorem dX12_next_100 : decode cX12_next 100 = .ok (.ifCond .eq 117, 3) := dcX12_next_6.2.2.2.2.1
theorem dX12_next_103 : decode cX12_next 103 = .ok (.aload_n 0, 1) := dcX12_next_6.2.2.2.2.2.1
theorem dX12_next_104 : decode cX12_next 104 = .ok (.getfield 110, 3) := dcX12_next_6.2.2.2.2.2.2.1
theorem dX12_next_107 : decode cX12_next 107 = .ok (.aload_n 0, 1) := dcX12_next_6.2.2.2.2.2.2.2
theorem dcX12_next_7 : (decode cX12_next 108 = .ok (.getfield 83, 3)) ∧ (decode cX12_next 111 = .ok (.if_icmp .ge 35, 3)) ∧ (decode cX12_next 114 = .ok (.aload_n 0, 1)) ∧ (decode cX12_next 115 = .ok (.getfield 26, 3)) ∧ (decode cX12_next 118 = .ok (.aload_n 0, 1)) ∧ (decode cX12_next 119 = .ok (.getfield 110, 3)) ∧ (decode cX12_next 122 = .ok (.iaload, 1)) ∧ (decode cX12_next 123 = .ok (.bipush 97, 2)) := by decide +kernel
theorem dX12_next_108 : decode cX12_next 108 = .ok (.getfield 83, 3) := dcX12_next_7.1
theorem dX12_next_111 : decode cX12_next 111 = .ok (.if_icmp .ge 35, 3) := dcX12_next_7.2.1
theorem dX12_next_114 : decode cX12_next 114 = .ok (.aload_n 0, 1) := dcX12_next_7.2.2.1
theorem dX12_next_115 : decode cX12_next 115 = .ok (.getfield 26, 3) := dcX12_next_7.2.2.2.1
theorem dX12_next_118 : decode cX12_next 118 = .ok (.aload_n 0, 1) := dcX12_next_7.2.2.2.2.1
theorem dX12_next_119 : decode cX12_next 119 = .ok (.getfield 110, 3) := dcX12_next_7.2.2.2.2.2.1
theorem dX12_next_122 : decode cX12_next 122 = .ok (.iaload, 1) := dcX12_next_7.2.2.2.2.2.2.1
theorem dX12_next_123 : decode cX12_next 123 = .ok (.bipush 97, 2) := dcX12_next_7.2.2.2.2.2.2.2
theorem dcX12_next_8 : (decode cX12_next 125 = .ok (.bipush 122, 2)) ∧ (decode cX12_next 127 = .ok (.invokestatic 93, 3)) ∧ (decode cX12_next 130 = .ok (.ifCond .eq 16, 3)) ∧ (decode cX12_next 133 = .ok (.aload_n 0, 1)) ∧ (decode cX12_next 134 = .ok (.dup, 1)) ∧ (decode cX12_next 135 = .ok (.getfield 110, 3)) ∧ (decode cX12_next 138 = .ok (.iconst 1, 1)) ∧ (decode cX12_next 139 = .ok (.iadd, 1)) := by decide +kernel
theorem dX12_next_125 : decode cX12_next 125 = .ok (.bipush 122, 2) := dcX12_next_8.1
theorem dX12_next_127 : decode cX12_next 127 = .ok (.invokestatic 93, 3) := dcX12_next_8.2.1
theorem dX12_next_130 : decode cX12_next 130 = .ok (.ifCond .eq 16, 3) := dcX12_next_8.2.2.1
theorem dX12_next_133 : decode cX12_next 133 = .ok (.aload_n 0, 1) := dcX12_next_8.2.2.2.1
theorem dX12_next_134 : decode cX12_next 134 = .ok (.dup, 1) := dcX12_next_8.2.2.2.2.1
theorem dX12_next_135 : decode cX12_next 135 = .ok (.getfield 110, 3) := dcX12_next_8.2.2.2.2.2.1
theorem dX12_next_138 : decode cX12_next 138 = .ok (.iconst 1, 1) := dcX12_next_8.2.2.2.2.2.2.1
theorem dX12_next_139 : decode cX12_next 139 = .ok (.iadd, 1) := dcX12_next_8.2.2.2.2.2.2.2
theorem dcX12_next_9 : (decode cX12_next 140 = .ok (.putfield 110, 3)) ∧ (decode cX12_next 143 = .ok (.goto (-40), 3)) ∧ (decode cX12_next 146 = .ok (.aload_n 0, 1)) ∧ (decode cX12_next 147 = .ok (.aload_n 0, 1)) ∧ (decode cX12_next 148 = .ok (.getfield 113, 3)) ∧ (decode cX12_next 151 = .ok (.aload_n 0, 1)) ∧ (decode cX12_next 152 = .ok (.getfield 110, 3)) ∧ (decode cX12_next 155 = .ok (.invokevirtual 122, 3)) := by decide +kernel
theorem dX12_next_140 : decode cX12_next 140 = .ok (.putfield 110, 3) := dcX12_next_9.1
theorem dX12_next_143 : decode cX12_next 143 = .ok (.goto (-40), 3) := dcX12_next_9.2.1
