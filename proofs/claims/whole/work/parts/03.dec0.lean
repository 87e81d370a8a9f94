theorem dX0_init_0 : decode cX0_init 0 = .ok (.aload_n 0, 1) := by decide +kernel
theorem dX0_init_1 : decode cX0_init 1 = .ok (.invokespecial 3, 3) := by decide +kernel
theorem dX0_init_4 : decode cX0_init 4 = .ok (.aload_n 0, 1) := by decide +kernel
theorem dX0_init_5 : decode cX0_init 5 = .ok (.new 9, 3) := by decide +kernel
theorem dX0_init_8 : decode cX0_init 8 = .ok (.dup, 1) := by decide +kernel
theorem dX0_init_9 : decode cX0_init 9 = .ok (.bipush 40, 2) := by decide +kernel
theorem dX0_init_11 : decode cX0_init 11 = .ok (.iconst 3, 1) := by decide +kernel
theorem dX0_init_12 : decode cX0_init 12 = .ok (.invokespecial 11, 3) := by decide +kernel
theorem dX0_init_15 : decode cX0_init 15 = .ok (.putfield 14, 3) := by decide +kernel
theorem dX0_init_18 : decode cX0_init 18 = .ok (.aload_n 0, 1) := by decide +kernel
theorem dX0_init_19 : decode cX0_init 19 = .ok (.iconst 0, 1) := by decide +kernel
theorem dX0_init_20 : decode cX0_init 20 = .ok (.putfield 20, 3) := by decide +kernel
theorem dX0_init_23 : decode cX0_init 23 = .ok (.return_, 1) := by decide +kernel
theorem dX0_readLines_0 : decode cX0_readLines 0 = .ok (.aload_n 0, 1) := by decide +kernel
theorem dX0_readLines_1 : decode cX0_readLines 1 = .ok (.getfield 14, 3) := by decide +kernel
theorem dX0_readLines_4 : decode cX0_readLines 4 = .ok (.invokevirtual 24, 3) := by decide +kernel
theorem dX0_readLines_7 : decode cX0_readLines 7 = .ok (.aload_n 1, 1) := by decide +kernel
theorem dX0_readLines_8 : decode cX0_readLines 8 = .ok (.sipush 400, 3) := by decide +kernel
theorem dX0_readLines_11 : decode cX0_readLines 11 = .ok (.invokevirtual 27, 3) := by decide +kernel
theorem dX0_readLines_14 : decode cX0_readLines 14 = .ok (.iconst 0, 1) := by decide +kernel
theorem dX0_readLines_15 : decode cX0_readLines 15 = .ok (.istore_n 2, 1) := by decide +kernel
theorem dX0_readLines_16 : decode cX0_readLines 16 = .ok (.iload_n 2, 1) := by decide +kernel
theorem dX0_readLines_17 : decode cX0_readLines 17 = .ok (.sipush 400, 3) := by decide +kernel
theorem dX0_readLines_20 : decode cX0_readLines 20 = .ok (.if_icmp .ge 34, 3) := by decide +kernel
theorem dX0_readLines_23 : decode cX0_readLines 23 = .ok (.aload_n 1, 1) := by decide +kernel
theorem dX0_readLines_24 : decode cX0_readLines 24 = .ok (.getfield 33, 3) := by decide +kernel
theorem dX0_readLines_27 : decode cX0_readLines 27 = .ok (.ifCond .eq 27, 3) := by decide +kernel
theorem dX0_readLines_30 : decode cX0_readLines 30 = .ok (.aload_n 0, 1) := by decide +kernel
theorem dX0_readLines_31 : decode cX0_readLines 31 = .ok (.aload_n 1, 1) := by decide +kernel
theorem dX0_readLines_32 : decode cX0_readLines 32 = .ok (.invokevirtual 36, 3) := by decide +kernel
theorem dX0_readLines_35 : decode cX0_readLines 35 = .ok (.ifCond .eq 12, 3) := by decide +kernel
theorem dX0_readLines_38 : decode cX0_readLines 38 = .ok (.aload_n 1, 1) := by decide +kernel
theorem dX0_readLines_39 : decode cX0_readLines 39 = .ok (.bipush 59, 2) := by decide +kernel
theorem dX0_readLines_41 : decode cX0_readLines 41 = .ok (.invokevirtual 40, 3) := by decide +kernel
theorem dX0_readLines_44 : decode cX0_readLines 44 = .ok (.ifCond .ne 4, 3) := by decide +kernel
theorem dX0_readLines_47 : decode cX0_readLines 47 = .ok (.return_, 1) := by decide +kernel
theorem dX0_readLines_48 : decode cX0_readLines 48 = .ok (.iinc 2 1, 3) := by decide +kernel
theorem dX0_readLines_51 : decode cX0_readLines 51 = .ok (.goto (-35), 3) := by decide +kernel
theorem dX0_readLines_54 : decode cX0_readLines 54 = .ok (.return_, 1) := by decide +kernel
theorem dX0_readLine_0 : decode cX0_readLine 0 = .ok (.aload_n 1, 1) := by decide +kernel
theorem dX0_readLine_1 : decode cX0_readLine 1 = .ok (.invokevirtual 44, 3) := by decide +kernel
theorem dX0_readLine_4 : decode cX0_readLine 4 = .ok (.istore_n 2, 1) := by decide +kernel
theorem dX0_readLine_5 : decode cX0_readLine 5 = .ok (.iload_n 2, 1) := by decide +kernel
theorem dX0_readLine_6 : decode cX0_readLine 6 = .ok (.bipush 17, 2) := by decide +kernel
theorem dX0_readLine_8 : decode cX0_readLine 8 = .ok (.if_icmp .lt 9, 3) := by decide +kernel
theorem dX0_readLine_11 : decode cX0_readLine 11 = .ok (.iload_n 2, 1) := by decide +kernel
theorem dX0_readLine_12 : decode cX0_readLine 12 = .ok (.bipush 24, 2) := by decide +kernel
theorem dX0_readLine_14 : decode cX0_readLine 14 = .ok (.if_icmp .le 9, 3) := by decide +kernel
theorem dX0_readLine_17 : decode cX0_readLine 17 = .ok (.aload_n 1, 1) := by decide +kernel
theorem dX0_readLine_18 : decode cX0_readLine 18 = .ok (.iconst 1, 1) := by decide +kernel
theorem dX0_readLine_19 : decode cX0_readLine 19 = .ok (.invokevirtual 48, 3) := by decide +kernel
theorem dX0_readLine_22 : decode cX0_readLine 22 = .ok (.ireturn, 1) := by decide +kernel
theorem dX0_readLine_23 : decode cX0_readLine 23 = .ok (.aload_n 0, 1) := by decide +kernel
theorem dX0_readLine_24 : decode cX0_readLine 24 = .ok (.getfield 14, 3) := by decide +kernel
theorem dX0_readLine_27 : decode cX0_readLine 27 = .ok (.invokevirtual 52, 3) := by decide +kernel
theorem dX0_readLine_30 : decode cX0_readLine 30 = .ok (.ifCond .eq 9, 3) := by decide +kernel
theorem dX0_readLine_33 : decode cX0_readLine 33 = .ok (.aload_n 1, 1) := by decide +kernel
theorem dX0_readLine_34 : decode cX0_readLine 34 = .ok (.iconst 4, 1) := by decide +kernel
theorem dX0_readLine_35 : decode cX0_readLine 35 = .ok (.invokevirtual 48, 3) := by decide +kernel
theorem dX0_readLine_38 : decode cX0_readLine 38 = .ok (.ireturn, 1) := by decide +kernel
theorem dX0_readLine_39 : decode cX0_readLine 39 = .ok (.aload_n 0, 1) := by decide +kernel
theorem dX0_readLine_40 : decode cX0_readLine 40 = .ok (.getfield 14, 3) := by decide +kernel
theorem dX0_readLine_43 : decode cX0_readLine 43 = .ok (.lconst 0, 1) := by decide +kernel
theorem dX0_readLine_44 : decode cX0_readLine 44 = .ok (.invokevirtual 56, 3) := by decide +kernel
theorem dX0_readLine_47 : decode cX0_readLine 47 = .ok (.istore_n 3, 1) := by decide +kernel
theorem dX0_readLine_48 : decode cX0_readLine 48 = .ok (.aload_n 0, 1) := by decide +kernel
theorem dX0_readLine_49 : decode cX0_readLine 49 = .ok (.getfield 14, 3) := by decide +kernel
theorem dX0_readLine_52 : decode cX0_readLine 52 = .ok (.iload_n 3, 1) := by decide +kernel
theorem dX0_readLine_53 : decode cX0_readLine 53 = .ok (.iconst 0, 1) := by decide +kernel
theorem dX0_readLine_54 : decode cX0_readLine 54 = .ok (.iload_n 2, 1) := by decide +kernel
theorem dX0_readLine_55 : decode cX0_readLine 55 = .ok (.invokevirtual 60, 3) := by decide +kernel
theorem dX0_readLine_58 : decode cX0_readLine 58 = .ok (.aload_n 1, 1) := by decide +kernel
theorem dX0_readLine_59 : decode cX0_readLine 59 = .ok (.invokevirtual 64, 3) := by decide +kernel
theorem dX0_readLine_62 : decode cX0_readLine 62 = .ok (.iload_n 2, 1) := by decide +kernel
theorem dX0_readLine_63 : decode cX0_readLine 63 = .ok (.tableswitch 117 17 21 #[33, 64, 95, 106, 106], 33) := by decide +kernel
theorem dX0_readLine_96 : decode cX0_readLine 96 = .ok (.aload_n 0, 1) := by decide +kernel
theorem dX0_readLine_97 : decode cX0_readLine 97 = .ok (.aload_n 1, 1) := by decide +kernel
theorem dX0_readLine_98 : decode cX0_readLine 98 = .ok (.iconst 1, 1) := by decide +kernel
theorem dX0_readLine_99 : decode cX0_readLine 99 = .ok (.iconst 0, 1) := by decide +kernel
theorem dX0_readLine_100 : decode cX0_readLine 100 = .ok (.bipush 7, 2) := by decide +kernel
theorem dX0_readLine_102 : decode cX0_readLine 102 = .ok (.invokevirtual 69, 3) := by decide +kernel
theorem dX0_readLine_105 : decode cX0_readLine 105 = .ok (.ifCond .eq 20, 3) := by decide +kernel
theorem dX0_readLine_108 : decode cX0_readLine 108 = .ok (.aload_n 0, 1) := by decide +kernel
theorem dX0_readLine_109 : decode cX0_readLine 109 = .ok (.aload_n 1, 1) := by decide +kernel
theorem dX0_readLine_110 : decode cX0_readLine 110 = .ok (.iconst 2, 1) := by decide +kernel
theorem dX0_readLine_111 : decode cX0_readLine 111 = .ok (.iconst 0, 1) := by decide +kernel
theorem dX0_readLine_112 : decode cX0_readLine 112 = .ok (.sipush 999, 3) := by decide +kernel
theorem dX0_readLine_115 : decode cX0_readLine 115 = .ok (.invokevirtual 69, 3) := by decide +kernel
theorem dX0_readLine_118 : decode cX0_readLine 118 = .ok (.ifCond .eq 7, 3) := by decide +kernel
theorem dX0_readLine_121 : decode cX0_readLine 121 = .ok (.iconst 1, 1) := by decide +kernel
theorem dX0_readLine_122 : decode cX0_readLine 122 = .ok (.goto 4, 3) := by decide +kernel
theorem dX0_readLine_125 : decode cX0_readLine 125 = .ok (.iconst 0, 1) := by decide +kernel
theorem dX0_readLine_126 : decode cX0_readLine 126 = .ok (.ireturn, 1) := by decide +kernel
theorem dX0_readLine_127 : decode cX0_readLine 127 = .ok (.aload_n 0, 1) := by decide +kernel
theorem dX0_readLine_128 : decode cX0_readLine 128 = .ok (.aload_n 1, 1) := by decide +kernel
theorem dX0_readLine_129 : decode cX0_readLine 129 = .ok (.iconst 1, 1) := by decide +kernel
theorem dX0_readLine_130 : decode cX0_readLine 130 = .ok (.iconst 0, 1) := by decide +kernel
theorem dX0_readLine_131 : decode cX0_readLine 131 = .ok (.bipush 63, 2) := by decide +kernel
theorem dX0_readLine_133 : decode cX0_readLine 133 = .ok (.invokevirtual 69, 3) := by decide +kernel
theorem dX0_readLine_136 : decode cX0_readLine 136 = .ok (.ifCond .eq 20, 3) := by decide +kernel
theorem dX0_readLine_139 : decode cX0_readLine 139 = .ok (.aload_n 0, 1) := by decide +kernel
theorem dX0_readLine_140 : decode cX0_readLine 140 = .ok (.aload_n 1, 1) := by decide +kernel
theorem dX0_readLine_141 : decode cX0_readLine 141 = .ok (.iconst 2, 1) := by decide +kernel
theorem dX0_readLine_142 : decode cX0_readLine 142 = .ok (.iconst 0, 1) := by decide +kernel
theorem dX0_readLine_143 : decode cX0_readLine 143 = .ok (.sipush 999, 3) := by decide +kernel
theorem dX0_readLine_146 : decode cX0_readLine 146 = .ok (.invokevirtual 69, 3) := by decide +kernel
theorem dX0_readLine_149 : decode cX0_readLine 149 = .ok (.ifCond .eq 7, 3) := by decide +kernel
theorem dX0_readLine_152 : decode cX0_readLine 152 = .ok (.iconst 1, 1) := by decide +kernel
theorem dX0_readLine_153 : decode cX0_readLine 153 = .ok (.goto 4, 3) := by decide +kernel
theorem dX0_readLine_156 : decode cX0_readLine 156 = .ok (.iconst 0, 1) := by decide +kernel
theorem dX0_readLine_157 : decode cX0_readLine 157 = .ok (.ireturn, 1) := by decide +kernel
theorem dX0_readLine_158 : decode cX0_readLine 158 = .ok (.aload_n 0, 1) := by decide +kernel
theorem dX0_readLine_159 : decode cX0_readLine 159 = .ok (.aload_n 1, 1) := by decide +kernel
theorem dX0_readLine_160 : decode cX0_readLine 160 = .ok (.iconst 1, 1) := by decide +kernel
theorem dX0_readLine_161 : decode cX0_readLine 161 = .ok (.iconst 0, 1) := by decide +kernel
theorem dX0_readLine_162 : decode cX0_readLine 162 = .ok (.sipush 999, 3) := by decide +kernel
theorem dX0_readLine_165 : decode cX0_readLine 165 = .ok (.invokevirtual 69, 3) := by decide +kernel
theorem dX0_readLine_168 : decode cX0_readLine 168 = .ok (.ireturn, 1) := by decide +kernel
theorem dX0_readLine_169 : decode cX0_readLine 169 = .ok (.aload_n 0, 1) := by decide +kernel
theorem dX0_readLine_170 : decode cX0_readLine 170 = .ok (.aload_n 1, 1) := by decide +kernel
theorem dX0_readLine_171 : decode cX0_readLine 171 = .ok (.iconst 1, 1) := by decide +kernel
theorem dX0_readLine_172 : decode cX0_readLine 172 = .ok (.iconst 1, 1) := by decide +kernel
theorem dX0_readLine_173 : decode cX0_readLine 173 = .ok (.sipush 250, 3) := by decide +kernel
theorem dX0_readLine_176 : decode cX0_readLine 176 = .ok (.invokevirtual 69, 3) := by decide +kernel
theorem dX0_readLine_179 : decode cX0_readLine 179 = .ok (.ireturn, 1) := by decide +kernel
theorem dX0_readLine_180 : decode cX0_readLine 180 = .ok (.iconst 1, 1) := by decide +kernel
theorem dX0_readLine_181 : decode cX0_readLine 181 = .ok (.ireturn, 1) := by decide +kernel
theorem dX0_readNumber_0 : decode cX0_readNumber 0 = .ok (.aload_n 1, 1) := by decide +kernel
theorem dX0_readNumber_1 : decode cX0_readNumber 1 = .ok (.iload_n 3, 1) := by decide +kernel
theorem dX0_readNumber_2 : decode cX0_readNumber 2 = .ok (.iload 4, 2) := by decide +kernel
theorem dX0_readNumber_4 : decode cX0_readNumber 4 = .ok (.invokevirtual 73, 3) := by decide +kernel
theorem dX0_readNumber_7 : decode cX0_readNumber 7 = .ok (.ifCond .ne 5, 3) := by decide +kernel
theorem dX0_readNumber_10 : decode cX0_readNumber 10 = .ok (.iconst 0, 1) := by decide +kernel
theorem dX0_readNumber_11 : decode cX0_readNumber 11 = .ok (.ireturn, 1) := by decide +kernel
theorem dX0_readNumber_12 : decode cX0_readNumber 12 = .ok (.aload_n 0, 1) := by decide +kernel
theorem dX0_readNumber_13 : decode cX0_readNumber 13 = .ok (.getfield 14, 3) := by decide +kernel
theorem dX0_readNumber_16 : decode cX0_readNumber 16 = .ok (.aload_n 0, 1) := by decide +kernel
theorem dX0_readNumber_17 : decode cX0_readNumber 17 = .ok (.getfield 14, 3) := by decide +kernel
theorem dX0_readNumber_20 : decode cX0_readNumber 20 = .ok (.getfield 77, 3) := by decide +kernel
theorem dX0_readNumber_23 : decode cX0_readNumber 23 = .ok (.iconst 1, 1) := by decide +kernel
theorem dX0_readNumber_24 : decode cX0_readNumber 24 = .ok (.isub, 1) := by decide +kernel
theorem dX0_readNumber_25 : decode cX0_readNumber 25 = .ok (.iload_n 2, 1) := by decide +kernel
theorem dX0_readNumber_26 : decode cX0_readNumber 26 = .ok (.aload_n 1, 1) := by decide +kernel
theorem dX0_readNumber_27 : decode cX0_readNumber 27 = .ok (.getfield 80, 3) := by decide +kernel
theorem dX0_readNumber_30 : decode cX0_readNumber 30 = .ok (.invokevirtual 60, 3) := by decide +kernel
theorem dX0_readNumber_33 : decode cX0_readNumber 33 = .ok (.aload_n 1, 1) := by decide +kernel
theorem dX0_readNumber_34 : decode cX0_readNumber 34 = .ok (.invokevirtual 64, 3) := by decide +kernel
theorem dX0_readNumber_37 : decode cX0_readNumber 37 = .ok (.iconst 1, 1) := by decide +kernel
theorem dX0_readNumber_38 : decode cX0_readNumber 38 = .ok (.ireturn, 1) := by decide +kernel
theorem dX0_judge_0 : decode cX0_judge 0 = .ok (.aload_n 0, 1) := by decide +kernel
theorem dX0_judge_1 : decode cX0_judge 1 = .ok (.iconst 0, 1) := by decide +kernel
theorem dX0_judge_2 : decode cX0_judge 2 = .ok (.putfield 20, 3) := by decide +kernel
theorem dX0_judge_5 : decode cX0_judge 5 = .ok (.iconst 0, 1) := by decide +kernel
theorem dX0_judge_6 : decode cX0_judge 6 = .ok (.istore_n 3, 1) := by decide +kernel
theorem dX0_judge_7 : decode cX0_judge 7 = .ok (.iload_n 3, 1) := by decide +kernel
theorem dX0_judge_8 : decode cX0_judge 8 = .ok (.aload_n 0, 1) := by decide +kernel
theorem dX0_judge_9 : decode cX0_judge 9 = .ok (.getfield 14, 3) := by decide +kernel
theorem dX0_judge_12 : decode cX0_judge 12 = .ok (.getfield 77, 3) := by decide +kernel
theorem dX0_judge_15 : decode cX0_judge 15 = .ok (.if_icmp .ge 36, 3) := by decide +kernel
theorem dX0_judge_18 : decode cX0_judge 18 = .ok (.aload_n 0, 1) := by decide +kernel
theorem dX0_judge_19 : decode cX0_judge 19 = .ok (.aload_n 1, 1) := by decide +kernel
theorem dX0_judge_20 : decode cX0_judge 20 = .ok (.aload_n 2, 1) := by decide +kernel
theorem dX0_judge_21 : decode cX0_judge 21 = .ok (.iload_n 3, 1) := by decide +kernel
theorem dX0_judge_22 : decode cX0_judge 22 = .ok (.invokevirtual 83, 3) := by decide +kernel
theorem dX0_judge_25 : decode cX0_judge 25 = .ok (.istore 4, 2) := by decide +kernel
theorem dX0_judge_27 : decode cX0_judge 27 = .ok (.iload 4, 2) := by decide +kernel
theorem dX0_judge_29 : decode cX0_judge 29 = .ok (.ifCond .eq 6, 3) := by decide +kernel
theorem dX0_judge_32 : decode cX0_judge 32 = .ok (.iload 4, 2) := by decide +kernel
theorem dX0_judge_34 : decode cX0_judge 34 = .ok (.ireturn, 1) := by decide +kernel
theorem dX0_judge_35 : decode cX0_judge 35 = .ok (.aload_n 0, 1) := by decide +kernel
theorem dX0_judge_36 : decode cX0_judge 36 = .ok (.dup, 1) := by decide +kernel
theorem dX0_judge_37 : decode cX0_judge 37 = .ok (.getfield 20, 3) := by decide +kernel
theorem dX0_judge_40 : decode cX0_judge 40 = .ok (.iconst 1, 1) := by decide +kernel
theorem dX0_judge_41 : decode cX0_judge 41 = .ok (.iadd, 1) := by decide +kernel
theorem dX0_judge_42 : decode cX0_judge 42 = .ok (.putfield 20, 3) := by decide +kernel
theorem dX0_judge_45 : decode cX0_judge 45 = .ok (.iinc 3 1, 3) := by decide +kernel
theorem dX0_judge_48 : decode cX0_judge 48 = .ok (.goto (-41), 3) := by decide +kernel
theorem dX0_judge_51 : decode cX0_judge 51 = .ok (.iconst 0, 1) := by decide +kernel
theorem dX0_judge_52 : decode cX0_judge 52 = .ok (.ireturn, 1) := by decide +kernel
theorem dX0_judgeLine_0 : decode cX0_judgeLine 0 = .ok (.aload_n 0, 1) := by decide +kernel
theorem dX0_judgeLine_1 : decode cX0_judgeLine 1 = .ok (.getfield 14, 3) := by decide +kernel
theorem dX0_judgeLine_4 : decode cX0_judgeLine 4 = .ok (.iload_n 3, 1) := by decide +kernel
theorem dX0_judgeLine_5 : decode cX0_judgeLine 5 = .ok (.iconst 0, 1) := by decide +kernel
theorem dX0_judgeLine_6 : decode cX0_judgeLine 6 = .ok (.invokevirtual 87, 3) := by decide +kernel
theorem dX0_judgeLine_9 : decode cX0_judgeLine 9 = .ok (.istore 4, 2) := by decide +kernel
theorem dX0_judgeLine_11 : decode cX0_judgeLine 11 = .ok (.aload_n 0, 1) := by decide +kernel
theorem dX0_judgeLine_12 : decode cX0_judgeLine 12 = .ok (.getfield 14, 3) := by decide +kernel
theorem dX0_judgeLine_15 : decode cX0_judgeLine 15 = .ok (.iload_n 3, 1) := by decide +kernel
theorem dX0_judgeLine_16 : decode cX0_judgeLine 16 = .ok (.iconst 1, 1) := by decide +kernel
theorem dX0_judgeLine_17 : decode cX0_judgeLine 17 = .ok (.invokevirtual 87, 3) := by decide +kernel
theorem dX0_judgeLine_20 : decode cX0_judgeLine 20 = .ok (.istore 5, 2) := by decide +kernel
theorem dX0_judgeLine_22 : decode cX0_judgeLine 22 = .ok (.iload 4, 2) := by decide +kernel
theorem dX0_judgeLine_24 : decode cX0_judgeLine 24 = .ok (.bipush 19, 2) := by decide +kernel
theorem dX0_judgeLine_26 : decode cX0_judgeLine 26 = .ok (.if_icmp .ne 15, 3) := by decide +kernel
theorem dX0_judgeLine_29 : decode cX0_judgeLine 29 = .ok (.aload_n 1, 1) := by decide +kernel
theorem dX0_judgeLine_30 : decode cX0_judgeLine 30 = .ok (.iload 5, 2) := by decide +kernel
theorem dX0_judgeLine_32 : decode cX0_judgeLine 32 = .ok (.invokevirtual 91, 3) := by decide +kernel
theorem dX0_judgeLine_35 : decode cX0_judgeLine 35 = .ok (.ifCond .ne 6, 3) := by decide +kernel
theorem dX0_judgeLine_38 : decode cX0_judgeLine 38 = .ok (.bipush 29, 2) := by decide +kernel
theorem dX0_judgeLine_40 : decode cX0_judgeLine 40 = .ok (.ireturn, 1) := by decide +kernel
theorem dX0_judgeLine_41 : decode cX0_judgeLine 41 = .ok (.aload_n 2, 1) := by decide +kernel
theorem dX0_judgeLine_42 : decode cX0_judgeLine 42 = .ok (.aload_n 1, 1) := by decide +kernel
theorem dX0_judgeLine_43 : decode cX0_judgeLine 43 = .ok (.iload 4, 2) := by decide +kernel
theorem dX0_judgeLine_45 : decode cX0_judgeLine 45 = .ok (.iload 5, 2) := by decide +kernel
theorem dX0_judgeLine_47 : decode cX0_judgeLine 47 = .ok (.aload_n 0, 1) := by decide +kernel
theorem dX0_judgeLine_48 : decode cX0_judgeLine 48 = .ok (.getfield 14, 3) := by decide +kernel
theorem dX0_judgeLine_51 : decode cX0_judgeLine 51 = .ok (.iload_n 3, 1) := by decide +kernel
theorem dX0_judgeLine_52 : decode cX0_judgeLine 52 = .ok (.iconst 2, 1) := by decide +kernel
theorem dX0_judgeLine_53 : decode cX0_judgeLine 53 = .ok (.invokevirtual 87, 3) := by decide +kernel
theorem dX0_judgeLine_56 : decode cX0_judgeLine 56 = .ok (.invokevirtual 96, 3) := by decide +kernel
theorem dX0_judgeLine_59 : decode cX0_judgeLine 59 = .ok (.istore 6, 2) := by decide +kernel
theorem dX0_judgeLine_61 : decode cX0_judgeLine 61 = .ok (.iload 6, 2) := by decide +kernel
theorem dX0_judgeLine_63 : decode cX0_judgeLine 63 = .ok (.ifCond .ne 7, 3) := by decide +kernel
theorem dX0_judgeLine_66 : decode cX0_judgeLine 66 = .ok (.iconst 0, 1) := by decide +kernel
theorem dX0_judgeLine_67 : decode cX0_judgeLine 67 = .ok (.goto 14, 3) := by decide +kernel
theorem dX0_judgeLine_70 : decode cX0_judgeLine 70 = .ok (.bipush 10, 2) := by decide +kernel
theorem dX0_judgeLine_72 : decode cX0_judgeLine 72 = .ok (.iload 4, 2) := by decide +kernel
theorem dX0_judgeLine_74 : decode cX0_judgeLine 74 = .ok (.bipush 17, 2) := by decide +kernel
theorem dX0_judgeLine_76 : decode cX0_judgeLine 76 = .ok (.isub, 1) := by decide +kernel
theorem dX0_judgeLine_77 : decode cX0_judgeLine 77 = .ok (.imul, 1) := by decide +kernel
theorem dX0_judgeLine_78 : decode cX0_judgeLine 78 = .ok (.iload 6, 2) := by decide +kernel
theorem dX0_judgeLine_80 : decode cX0_judgeLine 80 = .ok (.iadd, 1) := by decide +kernel
theorem dX0_judgeLine_81 : decode cX0_judgeLine 81 = .ok (.ireturn, 1) := by decide +kernel
theorem dX1_init_0 : decode cX1_init 0 = .ok (.aload_n 0, 1) := by decide +kernel
theorem dX1_init_1 : decode cX1_init 1 = .ok (.invokespecial 3, 3) := by decide +kernel
theorem dX1_init_4 : decode cX1_init 4 = .ok (.aload_n 0, 1) := by decide +kernel
theorem dX1_init_5 : decode cX1_init 5 = .ok (.iconst 0, 1) := by decide +kernel
theorem dX1_init_6 : decode cX1_init 6 = .ok (.putfield 9, 3) := by decide +kernel
theorem dX1_init_9 : decode cX1_init 9 = .ok (.return_, 1) := by decide +kernel
theorem dX1_doDeeds_0 : decode cX1_doDeeds 0 = .ok (.aload_n 0, 1) := by decide +kernel
theorem dX1_doDeeds_1 : decode cX1_doDeeds 1 = .ok (.iload 4, 2) := by decide +kernel
theorem dX1_doDeeds_3 : decode cX1_doDeeds 3 = .ok (.putfield 9, 3) := by decide +kernel
theorem dX1_doDeeds_6 : decode cX1_doDeeds 6 = .ok (.iconst 0, 1) := by decide +kernel
theorem dX1_doDeeds_7 : decode cX1_doDeeds 7 = .ok (.istore 5, 2) := by decide +kernel
theorem dX1_doDeeds_9 : decode cX1_doDeeds 9 = .ok (.iconst 0, 1) := by decide +kernel
theorem dX1_doDeeds_10 : decode cX1_doDeeds 10 = .ok (.istore 6, 2) := by decide +kernel
theorem dX1_doDeeds_12 : decode cX1_doDeeds 12 = .ok (.iload 6, 2) := by decide +kernel
theorem dX1_doDeeds_14 : decode cX1_doDeeds 14 = .ok (.iload_n 3, 1) := by decide +kernel
theorem dX1_doDeeds_15 : decode cX1_doDeeds 15 = .ok (.if_icmp .ge 21, 3) := by decide +kernel
theorem dX1_doDeeds_18 : decode cX1_doDeeds 18 = .ok (.aload_n 0, 1) := by decide +kernel
theorem dX1_doDeeds_19 : decode cX1_doDeeds 19 = .ok (.aload_n 1, 1) := by decide +kernel
theorem dX1_doDeeds_20 : decode cX1_doDeeds 20 = .ok (.aload_n 2, 1) := by decide +kernel
theorem dX1_doDeeds_21 : decode cX1_doDeeds 21 = .ok (.invokevirtual 15, 3) := by decide +kernel
theorem dX1_doDeeds_24 : decode cX1_doDeeds 24 = .ok (.ifCond .ne 6, 3) := by decide +kernel
theorem dX1_doDeeds_27 : decode cX1_doDeeds 27 = .ok (.iinc 5 1, 3) := by decide +kernel
theorem dX1_doDeeds_30 : decode cX1_doDeeds 30 = .ok (.iinc 6 1, 3) := by decide +kernel
theorem dX1_doDeeds_33 : decode cX1_doDeeds 33 = .ok (.goto (-21), 3) := by decide +kernel
theorem dX1_doDeeds_36 : decode cX1_doDeeds 36 = .ok (.iload 5, 2) := by decide +kernel
theorem dX1_doDeeds_38 : decode cX1_doDeeds 38 = .ok (.ireturn, 1) := by decide +kernel
theorem dX1_draw_0 : decode cX1_draw 0 = .ok (.aload_n 0, 1) := by decide +kernel
theorem dX1_draw_1 : decode cX1_draw 1 = .ok (.aload_n 0, 1) := by decide +kernel
theorem dX1_draw_2 : decode cX1_draw 2 = .ok (.getfield 9, 3) := by decide +kernel
theorem dX1_draw_5 : decode cX1_draw 5 = .ok (.ldc 19, 2) := by decide +kernel
theorem dX1_draw_7 : decode cX1_draw 7 = .ok (.imul, 1) := by decide +kernel
theorem dX1_draw_8 : decode cX1_draw 8 = .ok (.sipush 12345, 3) := by decide +kernel
theorem dX1_draw_11 : decode cX1_draw 11 = .ok (.iadd, 1) := by decide +kernel
theorem dX1_draw_12 : decode cX1_draw 12 = .ok (.putfield 9, 3) := by decide +kernel
theorem dX1_draw_15 : decode cX1_draw 15 = .ok (.iload_n 1, 1) := by decide +kernel
theorem dX1_draw_16 : decode cX1_draw 16 = .ok (.ifCond .le 15, 3) := by decide +kernel
theorem dX1_draw_19 : decode cX1_draw 19 = .ok (.aload_n 0, 1) := by decide +kernel
theorem dX1_draw_20 : decode cX1_draw 20 = .ok (.getfield 9, 3) := by decide +kernel
theorem dX1_draw_23 : decode cX1_draw 23 = .ok (.bipush 8, 2) := by decide +kernel
theorem dX1_draw_25 : decode cX1_draw 25 = .ok (.iushr, 1) := by decide +kernel
theorem dX1_draw_26 : decode cX1_draw 26 = .ok (.iload_n 1, 1) := by decide +kernel
theorem dX1_draw_27 : decode cX1_draw 27 = .ok (.irem, 1) := by decide +kernel
theorem dX1_draw_28 : decode cX1_draw 28 = .ok (.goto 4, 3) := by decide +kernel
theorem dX1_draw_31 : decode cX1_draw 31 = .ok (.iconst 0, 1) := by decide +kernel
theorem dX1_draw_32 : decode cX1_draw 32 = .ok (.ireturn, 1) := by decide +kernel
theorem dX1_doDeed_0 : decode cX1_doDeed 0 = .ok (.iconst 0, 1) := by decide +kernel
theorem dX1_doDeed_1 : decode cX1_doDeed 1 = .ok (.istore 4, 2) := by decide +kernel
theorem dX1_doDeed_3 : decode cX1_doDeed 3 = .ok (.iconst 0, 1) := by decide +kernel
theorem dX1_doDeed_4 : decode cX1_doDeed 4 = .ok (.istore 5, 2) := by decide +kernel
theorem dX1_doDeed_6 : decode cX1_doDeed 6 = .ok (.aload_n 0, 1) := by decide +kernel
theorem dX1_doDeed_7 : decode cX1_doDeed 7 = .ok (.bipush 8, 2) := by decide +kernel
theorem dX1_doDeed_9 : decode cX1_doDeed 9 = .ok (.invokevirtual 20, 3) := by decide +kernel
theorem dX1_doDeed_12 : decode cX1_doDeed 12 = .ok (.tableswitch 124 0 6 #[44, 67, 90, 106, 106, 112, 118], 44) := by decide +kernel
theorem dX1_doDeed_56 : decode cX1_doDeed 56 = .ok (.bipush 17, 2) := by decide +kernel
theorem dX1_doDeed_58 : decode cX1_doDeed 58 = .ok (.istore_n 3, 1) := by decide +kernel
theorem dX1_doDeed_59 : decode cX1_doDeed 59 = .ok (.aload_n 0, 1) := by decide +kernel
theorem dX1_doDeed_60 : decode cX1_doDeed 60 = .ok (.bipush 8, 2) := by decide +kernel
theorem dX1_doDeed_62 : decode cX1_doDeed 62 = .ok (.invokevirtual 20, 3) := by decide +kernel
theorem dX1_doDeed_65 : decode cX1_doDeed 65 = .ok (.istore 4, 2) := by decide +kernel
theorem dX1_doDeed_67 : decode cX1_doDeed 67 = .ok (.aload_n 0, 1) := by decide +kernel
theorem dX1_doDeed_68 : decode cX1_doDeed 68 = .ok (.sipush 1000, 3) := by decide +kernel
theorem dX1_doDeed_71 : decode cX1_doDeed 71 = .ok (.invokevirtual 20, 3) := by decide +kernel
theorem dX1_doDeed_74 : decode cX1_doDeed 74 = .ok (.istore 5, 2) := by decide +kernel
theorem dX1_doDeed_76 : decode cX1_doDeed 76 = .ok (.goto 88, 3) := by decide +kernel
theorem dX1_doDeed_79 : decode cX1_doDeed 79 = .ok (.bipush 18, 2) := by decide +kernel
theorem dX1_doDeed_81 : decode cX1_doDeed 81 = .ok (.istore_n 3, 1) := by decide +kernel
theorem dX1_doDeed_82 : decode cX1_doDeed 82 = .ok (.aload_n 0, 1) := by decide +kernel
theorem dX1_doDeed_83 : decode cX1_doDeed 83 = .ok (.bipush 64, 2) := by decide +kernel
theorem dX1_doDeed_85 : decode cX1_doDeed 85 = .ok (.invokevirtual 20, 3) := by decide +kernel
theorem dX1_doDeed_88 : decode cX1_doDeed 88 = .ok (.istore 4, 2) := by decide +kernel
theorem dX1_doDeed_90 : decode cX1_doDeed 90 = .ok (.aload_n 0, 1) := by decide +kernel
theorem dX1_doDeed_91 : decode cX1_doDeed 91 = .ok (.sipush 1000, 3) := by decide +kernel
theorem dX1_doDeed_94 : decode cX1_doDeed 94 = .ok (.invokevirtual 20, 3) := by decide +kernel
theorem dX1_doDeed_97 : decode cX1_doDeed 97 = .ok (.istore 5, 2) := by decide +kernel
theorem dX1_doDeed_99 : decode cX1_doDeed 99 = .ok (.goto 65, 3) := by decide +kernel
theorem dX1_doDeed_102 : decode cX1_doDeed 102 = .ok (.bipush 19, 2) := by decide +kernel
theorem dX1_doDeed_104 : decode cX1_doDeed 104 = .ok (.istore_n 3, 1) := by decide +kernel
theorem dX1_doDeed_105 : decode cX1_doDeed 105 = .ok (.aload_n 0, 1) := by decide +kernel
theorem dX1_doDeed_106 : decode cX1_doDeed 106 = .ok (.aload_n 1, 1) := by decide +kernel
theorem dX1_doDeed_107 : decode cX1_doDeed 107 = .ok (.getfield 26, 3) := by decide +kernel
theorem dX1_doDeed_110 : decode cX1_doDeed 110 = .ok (.invokevirtual 20, 3) := by decide +kernel
theorem dX1_doDeed_113 : decode cX1_doDeed 113 = .ok (.istore 4, 2) := by decide +kernel
theorem dX1_doDeed_115 : decode cX1_doDeed 115 = .ok (.goto 49, 3) := by decide +kernel
theorem dX1_doDeed_118 : decode cX1_doDeed 118 = .ok (.bipush 22, 2) := by decide +kernel
theorem dX1_doDeed_120 : decode cX1_doDeed 120 = .ok (.istore_n 3, 1) := by decide +kernel
theorem dX1_doDeed_121 : decode cX1_doDeed 121 = .ok (.goto 43, 3) := by decide +kernel
theorem dX1_doDeed_124 : decode cX1_doDeed 124 = .ok (.bipush 23, 2) := by decide +kernel
theorem dX1_doDeed_126 : decode cX1_doDeed 126 = .ok (.istore_n 3, 1) := by decide +kernel
theorem dX1_doDeed_127 : decode cX1_doDeed 127 = .ok (.goto 37, 3) := by decide +kernel
theorem dX1_doDeed_130 : decode cX1_doDeed 130 = .ok (.bipush 24, 2) := by decide +kernel
theorem dX1_doDeed_132 : decode cX1_doDeed 132 = .ok (.istore_n 3, 1) := by decide +kernel
theorem dX1_doDeed_133 : decode cX1_doDeed 133 = .ok (.goto 31, 3) := by decide +kernel
theorem dX1_doDeed_136 : decode cX1_doDeed 136 = .ok (.aload_n 0, 1) := by decide +kernel
theorem dX1_doDeed_137 : decode cX1_doDeed 137 = .ok (.sipush 250, 3) := by decide +kernel
theorem dX1_doDeed_140 : decode cX1_doDeed 140 = .ok (.invokevirtual 20, 3) := by decide +kernel
theorem dX1_doDeed_143 : decode cX1_doDeed 143 = .ok (.iconst 1, 1) := by decide +kernel
theorem dX1_doDeed_144 : decode cX1_doDeed 144 = .ok (.iadd, 1) := by decide +kernel
theorem dX1_doDeed_145 : decode cX1_doDeed 145 = .ok (.istore 4, 2) := by decide +kernel
theorem dX1_doDeed_147 : decode cX1_doDeed 147 = .ok (.aload_n 2, 1) := by decide +kernel
theorem dX1_doDeed_148 : decode cX1_doDeed 148 = .ok (.iload 4, 2) := by decide +kernel
theorem dX1_doDeed_150 : decode cX1_doDeed 150 = .ok (.invokevirtual 31, 3) := by decide +kernel
theorem dX1_doDeed_153 : decode cX1_doDeed 153 = .ok (.ifCond .eq 8, 3) := by decide +kernel
theorem dX1_doDeed_156 : decode cX1_doDeed 156 = .ok (.bipush 21, 2) := by decide +kernel
theorem dX1_doDeed_158 : decode cX1_doDeed 158 = .ok (.goto 5, 3) := by decide +kernel
theorem dX1_doDeed_161 : decode cX1_doDeed 161 = .ok (.bipush 20, 2) := by decide +kernel
theorem dX1_doDeed_163 : decode cX1_doDeed 163 = .ok (.istore_n 3, 1) := by decide +kernel
theorem dX1_doDeed_164 : decode cX1_doDeed 164 = .ok (.aload_n 2, 1) := by decide +kernel
theorem dX1_doDeed_165 : decode cX1_doDeed 165 = .ok (.aload_n 1, 1) := by decide +kernel
theorem dX1_doDeed_166 : decode cX1_doDeed 166 = .ok (.iload_n 3, 1) := by decide +kernel
theorem dX1_doDeed_167 : decode cX1_doDeed 167 = .ok (.iload 4, 2) := by decide +kernel
theorem dX1_doDeed_169 : decode cX1_doDeed 169 = .ok (.iload 5, 2) := by decide +kernel
theorem dX1_doDeed_171 : decode cX1_doDeed 171 = .ok (.invokevirtual 35, 3) := by decide +kernel
theorem dX1_doDeed_174 : decode cX1_doDeed 174 = .ok (.ireturn, 1) := by decide +kernel
theorem dX2_init_0 : decode cX2_init 0 = .ok (.aload_n 0, 1) := by decide +kernel
theorem dX2_init_1 : decode cX2_init 1 = .ok (.invokespecial 3, 3) := by decide +kernel
theorem dX2_init_4 : decode cX2_init 4 = .ok (.aload_n 0, 1) := by decide +kernel
theorem dX2_init_5 : decode cX2_init 5 = .ok (.bipush 8, 2) := by decide +kernel
theorem dX2_init_7 : decode cX2_init 7 = .ok (.newarray .int, 2) := by decide +kernel
theorem dX2_init_9 : decode cX2_init 9 = .ok (.putfield 11, 3) := by decide +kernel
theorem dX2_init_12 : decode cX2_init 12 = .ok (.aload_n 0, 1) := by decide +kernel
theorem dX2_init_13 : decode cX2_init 13 = .ok (.iconst 0, 1) := by decide +kernel
theorem dX2_init_14 : decode cX2_init 14 = .ok (.putfield 17, 3) := by decide +kernel
theorem dX2_init_17 : decode cX2_init 17 = .ok (.aload_n 0, 1) := by decide +kernel
theorem dX2_init_18 : decode cX2_init 18 = .ok (.iconst 0, 1) := by decide +kernel
theorem dX2_init_19 : decode cX2_init 19 = .ok (.putfield 21, 3) := by decide +kernel
theorem dX2_init_22 : decode cX2_init 22 = .ok (.return_, 1) := by decide +kernel
theorem dX2_look_0 : decode cX2_look 0 = .ok (.aload_n 1, 1) := by decide +kernel
theorem dX2_look_1 : decode cX2_look 1 = .ok (.iload 4, 2) := by decide +kernel
theorem dX2_look_3 : decode cX2_look 3 = .ok (.invokevirtual 24, 3) := by decide +kernel
theorem dX2_look_6 : decode cX2_look 6 = .ok (.ifCond .eq 13, 3) := by decide +kernel
theorem dX2_look_9 : decode cX2_look 9 = .ok (.aload_n 1, 1) := by decide +kernel
theorem dX2_look_10 : decode cX2_look 10 = .ok (.iload_n 3, 1) := by decide +kernel
theorem dX2_look_11 : decode cX2_look 11 = .ok (.iload 4, 2) := by decide +kernel
theorem dX2_look_13 : decode cX2_look 13 = .ok (.invokevirtual 28, 3) := by decide +kernel
theorem dX2_look_16 : decode cX2_look 16 = .ok (.goto 4, 3) := by decide +kernel
theorem dX2_look_19 : decode cX2_look 19 = .ok (.iconst (-1), 1) := by decide +kernel
theorem dX2_look_20 : decode cX2_look 20 = .ok (.istore 5, 2) := by decide +kernel
theorem dX2_look_22 : decode cX2_look 22 = .ok (.iload 5, 2) := by decide +kernel
theorem dX2_look_24 : decode cX2_look 24 = .ok (.iconst (-1), 1) := by decide +kernel
theorem dX2_look_25 : decode cX2_look 25 = .ok (.if_icmp .ne 5, 3) := by decide +kernel
theorem dX2_look_28 : decode cX2_look 28 = .ok (.iconst 1, 1) := by decide +kernel
theorem dX2_look_29 : decode cX2_look 29 = .ok (.ireturn, 1) := by decide +kernel
theorem dX2_look_30 : decode cX2_look 30 = .ok (.aload_n 0, 1) := by decide +kernel
theorem dX2_look_31 : decode cX2_look 31 = .ok (.aload_n 1, 1) := by decide +kernel
theorem dX2_look_32 : decode cX2_look 32 = .ok (.aload_n 2, 1) := by decide +kernel
theorem dX2_look_33 : decode cX2_look 33 = .ok (.iload 5, 2) := by decide +kernel
theorem dX2_look_35 : decode cX2_look 35 = .ok (.invokevirtual 32, 3) := by decide +kernel
theorem dX2_look_38 : decode cX2_look 38 = .ok (.ifCond .ne 5, 3) := by decide +kernel
theorem dX2_look_41 : decode cX2_look 41 = .ok (.iconst 2, 1) := by decide +kernel
theorem dX2_look_42 : decode cX2_look 42 = .ok (.ireturn, 1) := by decide +kernel
theorem dX2_look_43 : decode cX2_look 43 = .ok (.aload_n 0, 1) := by decide +kernel
theorem dX2_look_44 : decode cX2_look 44 = .ok (.invokevirtual 36, 3) := by decide +kernel
theorem dX2_look_47 : decode cX2_look 47 = .ok (.istore 6, 2) := by decide +kernel
theorem dX2_look_49 : decode cX2_look 49 = .ok (.aload_n 1, 1) := by decide +kernel
theorem dX2_look_50 : decode cX2_look 50 = .ok (.getfield 40, 3) := by decide +kernel
theorem dX2_look_53 : decode cX2_look 53 = .ok (.iload 5, 2) := by decide +kernel
theorem dX2_look_55 : decode cX2_look 55 = .ok (.iconst 3, 1) := by decide +kernel
theorem dX2_look_56 : decode cX2_look 56 = .ok (.invokevirtual 44, 3) := by decide +kernel
theorem dX2_look_59 : decode cX2_look 59 = .ok (.iconst 1, 1) := by decide +kernel
theorem dX2_look_60 : decode cX2_look 60 = .ok (.if_icmp .ne 7, 3) := by decide +kernel
theorem dX2_look_63 : decode cX2_look 63 = .ok (.iconst 1, 1) := by decide +kernel
theorem dX2_look_64 : decode cX2_look 64 = .ok (.goto 4, 3) := by decide +kernel
theorem dX2_look_67 : decode cX2_look 67 = .ok (.iconst 0, 1) := by decide +kernel
theorem dX2_look_68 : decode cX2_look 68 = .ok (.istore 7, 2) := by decide +kernel
theorem dX2_look_70 : decode cX2_look 70 = .ok (.iload 7, 2) := by decide +kernel
theorem dX2_look_72 : decode cX2_look 72 = .ok (.ifCond .eq 11, 3) := by decide +kernel
theorem dX2_look_75 : decode cX2_look 75 = .ok (.iload 6, 2) := by decide +kernel
theorem dX2_look_77 : decode cX2_look 77 = .ok (.ldc 49, 2) := by decide +kernel
theorem dX2_look_79 : decode cX2_look 79 = .ok (.iand, 1) := by decide +kernel
theorem dX2_look_80 : decode cX2_look 80 = .ok (.goto 9, 3) := by decide +kernel
theorem dX2_look_83 : decode cX2_look 83 = .ok (.aload_n 2, 1) := by decide +kernel
theorem dX2_look_84 : decode cX2_look 84 = .ok (.iload 6, 2) := by decide +kernel
theorem dX2_look_86 : decode cX2_look 86 = .ok (.invokevirtual 50, 3) := by decide +kernel
theorem dX2_look_89 : decode cX2_look 89 = .ok (.istore 8, 2) := by decide +kernel
theorem dX2_look_91 : decode cX2_look 91 = .ok (.iload 8, 2) := by decide +kernel
theorem dX2_look_93 : decode cX2_look 93 = .ok (.iconst (-1), 1) := by decide +kernel
theorem dX2_look_94 : decode cX2_look 94 = .ok (.if_icmp .ne 5, 3) := by decide +kernel
theorem dX2_look_97 : decode cX2_look 97 = .ok (.iconst 3, 1) := by decide +kernel
theorem dX2_look_98 : decode cX2_look 98 = .ok (.ireturn, 1) := by decide +kernel
theorem dX2_look_99 : decode cX2_look 99 = .ok (.aload_n 0, 1) := by decide +kernel
theorem dX2_look_100 : decode cX2_look 100 = .ok (.aload_n 1, 1) := by decide +kernel
theorem dX2_look_101 : decode cX2_look 101 = .ok (.iload_n 3, 1) := by decide +kernel
theorem dX2_look_102 : decode cX2_look 102 = .ok (.iload 8, 2) := by decide +kernel
theorem dX2_look_104 : decode cX2_look 104 = .ok (.invokevirtual 56, 3) := by decide +kernel
theorem dX2_look_107 : decode cX2_look 107 = .ok (.putfield 21, 3) := by decide +kernel
theorem dX2_look_110 : decode cX2_look 110 = .ok (.iconst 0, 1) := by decide +kernel
theorem dX2_look_111 : decode cX2_look 111 = .ok (.ireturn, 1) := by decide +kernel
theorem dX2_varsThere_0 : decode cX2_varsThere 0 = .ok (.iconst 0, 1) := by decide +kernel
theorem dX2_varsThere_1 : decode cX2_varsThere 1 = .ok (.istore_n 3, 1) := by decide +kernel
theorem dX2_varsThere_2 : decode cX2_varsThere 2 = .ok (.iconst 0, 1) := by decide +kernel
theorem dX2_varsThere_3 : decode cX2_varsThere 3 = .ok (.istore 4, 2) := by decide +kernel
theorem dX2_varsThere_5 : decode cX2_varsThere 5 = .ok (.iload 4, 2) := by decide +kernel
theorem dX2_varsThere_7 : decode cX2_varsThere 7 = .ok (.aload_n 1, 1) := by decide +kernel
theorem dX2_varsThere_8 : decode cX2_varsThere 8 = .ok (.getfield 59, 3) := by decide +kernel
theorem dX2_varsThere_11 : decode cX2_varsThere 11 = .ok (.getfield 62, 3) := by decide +kernel
theorem dX2_varsThere_14 : decode cX2_varsThere 14 = .ok (.if_icmp .ge 31, 3) := by decide +kernel
theorem dX2_varsThere_17 : decode cX2_varsThere 17 = .ok (.aload_n 0, 1) := by decide +kernel
theorem dX2_varsThere_18 : decode cX2_varsThere 18 = .ok (.aload_n 1, 1) := by decide +kernel
theorem dX2_varsThere_19 : decode cX2_varsThere 19 = .ok (.aload_n 2, 1) := by decide +kernel
theorem dX2_varsThere_20 : decode cX2_varsThere 20 = .ok (.iload 4, 2) := by decide +kernel
theorem dX2_varsThere_22 : decode cX2_varsThere 22 = .ok (.aload_n 2, 1) := by decide +kernel
theorem dX2_varsThere_23 : decode cX2_varsThere 23 = .ok (.getfield 65, 3) := by decide +kernel
theorem dX2_varsThere_26 : decode cX2_varsThere 26 = .ok (.invokevirtual 68, 3) := by decide +kernel
theorem dX2_varsThere_29 : decode cX2_varsThere 29 = .ok (.ifCond .ne 10, 3) := by decide +kernel
theorem dX2_varsThere_32 : decode cX2_varsThere 32 = .ok (.iload_n 3, 1) := by decide +kernel
theorem dX2_varsThere_33 : decode cX2_varsThere 33 = .ok (.iconst 1, 1) := by decide +kernel
theorem dX2_varsThere_34 : decode cX2_varsThere 34 = .ok (.iload 4, 2) := by decide +kernel
theorem dX2_varsThere_36 : decode cX2_varsThere 36 = .ok (.ishl, 1) := by decide +kernel
theorem dX2_varsThere_37 : decode cX2_varsThere 37 = .ok (.ior, 1) := by decide +kernel
theorem dX2_varsThere_38 : decode cX2_varsThere 38 = .ok (.istore_n 3, 1) := by decide +kernel
theorem dX2_varsThere_39 : decode cX2_varsThere 39 = .ok (.iinc 4 1, 3) := by decide +kernel
theorem dX2_varsThere_42 : decode cX2_varsThere 42 = .ok (.goto (-37), 3) := by decide +kernel
theorem dX2_varsThere_45 : decode cX2_varsThere 45 = .ok (.iload_n 3, 1) := by decide +kernel
theorem dX2_varsThere_46 : decode cX2_varsThere 46 = .ok (.ireturn, 1) := by decide +kernel
theorem dX2_doOps_0 : decode cX2_doOps 0 = .ok (.aload_n 0, 1) := by decide +kernel
theorem dX2_doOps_1 : decode cX2_doOps 1 = .ok (.iconst 0, 1) := by decide +kernel
theorem dX2_doOps_2 : decode cX2_doOps 2 = .ok (.putfield 17, 3) := by decide +kernel
theorem dX2_doOps_5 : decode cX2_doOps 5 = .ok (.aload_n 1, 1) := by decide +kernel
theorem dX2_doOps_6 : decode cX2_doOps 6 = .ok (.getfield 40, 3) := by decide +kernel
theorem dX2_doOps_9 : decode cX2_doOps 9 = .ok (.iload_n 3, 1) := by decide +kernel
theorem dX2_doOps_10 : decode cX2_doOps 10 = .ok (.iconst 4, 1) := by decide +kernel
theorem dX2_doOps_11 : decode cX2_doOps 11 = .ok (.invokevirtual 44, 3) := by decide +kernel
theorem dX2_doOps_14 : decode cX2_doOps 14 = .ok (.istore 4, 2) := by decide +kernel
theorem dX2_doOps_16 : decode cX2_doOps 16 = .ok (.iconst 0, 1) := by decide +kernel
theorem dX2_doOps_17 : decode cX2_doOps 17 = .ok (.istore 5, 2) := by decide +kernel
theorem dX2_doOps_19 : decode cX2_doOps 19 = .ok (.iload 5, 2) := by decide +kernel
theorem dX2_doOps_21 : decode cX2_doOps 21 = .ok (.iload 4, 2) := by decide +kernel
theorem dX2_doOps_23 : decode cX2_doOps 23 = .ok (.if_icmp .ge 57, 3) := by decide +kernel
theorem dX2_doOps_26 : decode cX2_doOps 26 = .ok (.aload_n 1, 1) := by decide +kernel
theorem dX2_doOps_27 : decode cX2_doOps 27 = .ok (.getfield 40, 3) := by decide +kernel
theorem dX2_doOps_30 : decode cX2_doOps 30 = .ok (.iload_n 3, 1) := by decide +kernel
theorem dX2_doOps_31 : decode cX2_doOps 31 = .ok (.iconst 5, 1) := by decide +kernel
theorem dX2_doOps_32 : decode cX2_doOps 32 = .ok (.iconst 2, 1) := by decide +kernel
theorem dX2_doOps_33 : decode cX2_doOps 33 = .ok (.iload 5, 2) := by decide +kernel
theorem dX2_doOps_35 : decode cX2_doOps 35 = .ok (.imul, 1) := by decide +kernel
theorem dX2_doOps_36 : decode cX2_doOps 36 = .ok (.iadd, 1) := by decide +kernel
theorem dX2_doOps_37 : decode cX2_doOps 37 = .ok (.invokevirtual 44, 3) := by decide +kernel
theorem dX2_doOps_40 : decode cX2_doOps 40 = .ok (.istore 6, 2) := by decide +kernel
theorem dX2_doOps_42 : decode cX2_doOps 42 = .ok (.aload_n 1, 1) := by decide +kernel
theorem dX2_doOps_43 : decode cX2_doOps 43 = .ok (.getfield 40, 3) := by decide +kernel
theorem dX2_doOps_46 : decode cX2_doOps 46 = .ok (.iload_n 3, 1) := by decide +kernel
theorem dX2_doOps_47 : decode cX2_doOps 47 = .ok (.iconst 5, 1) := by decide +kernel
theorem dX2_doOps_48 : decode cX2_doOps 48 = .ok (.iconst 2, 1) := by decide +kernel
theorem dX2_doOps_49 : decode cX2_doOps 49 = .ok (.iload 5, 2) := by decide +kernel
theorem dX2_doOps_51 : decode cX2_doOps 51 = .ok (.imul, 1) := by decide +kernel
theorem dX2_doOps_52 : decode cX2_doOps 52 = .ok (.iadd, 1) := by decide +kernel
theorem dX2_doOps_53 : decode cX2_doOps 53 = .ok (.iconst 1, 1) := by decide +kernel
theorem dX2_doOps_54 : decode cX2_doOps 54 = .ok (.iadd, 1) := by decide +kernel
theorem dX2_doOps_55 : decode cX2_doOps 55 = .ok (.invokevirtual 44, 3) := by decide +kernel
theorem dX2_doOps_58 : decode cX2_doOps 58 = .ok (.istore 7, 2) := by decide +kernel
theorem dX2_doOps_60 : decode cX2_doOps 60 = .ok (.aload_n 0, 1) := by decide +kernel
theorem dX2_doOps_61 : decode cX2_doOps 61 = .ok (.aload_n 2, 1) := by decide +kernel
theorem dX2_doOps_62 : decode cX2_doOps 62 = .ok (.iload 6, 2) := by decide +kernel
theorem dX2_doOps_64 : decode cX2_doOps 64 = .ok (.iload 7, 2) := by decide +kernel
theorem dX2_doOps_66 : decode cX2_doOps 66 = .ok (.invokevirtual 72, 3) := by decide +kernel
theorem dX2_doOps_69 : decode cX2_doOps 69 = .ok (.ifCond .ne 5, 3) := by decide +kernel
theorem dX2_doOps_72 : decode cX2_doOps 72 = .ok (.iconst 0, 1) := by decide +kernel
theorem dX2_doOps_73 : decode cX2_doOps 73 = .ok (.ireturn, 1) := by decide +kernel
theorem dX2_doOps_74 : decode cX2_doOps 74 = .ok (.iinc 5 1, 3) := by decide +kernel
theorem dX2_doOps_77 : decode cX2_doOps 77 = .ok (.goto (-58), 3) := by decide +kernel
theorem dX2_doOps_80 : decode cX2_doOps 80 = .ok (.iconst 1, 1) := by decide +kernel
theorem dX2_doOps_81 : decode cX2_doOps 81 = .ok (.ireturn, 1) := by decide +kernel
theorem dX2_doOp_0 : decode cX2_doOp 0 = .ok (.iload_n 2, 1) := by decide +kernel
theorem dX2_doOp_1 : decode cX2_doOp 1 = .ok (.invokestatic 76, 3) := by decide +kernel
theorem dX2_doOp_4 : decode cX2_doOp 4 = .ok (.ifCond .le 10, 3) := by decide +kernel
theorem dX2_doOp_7 : decode cX2_doOp 7 = .ok (.aload_n 0, 1) := by decide +kernel
theorem dX2_doOp_8 : decode cX2_doOp 8 = .ok (.invokevirtual 36, 3) := by decide +kernel
theorem dX2_doOp_11 : decode cX2_doOp 11 = .ok (.goto 4, 3) := by decide +kernel
theorem dX2_doOp_14 : decode cX2_doOp 14 = .ok (.iconst 0, 1) := by decide +kernel
theorem dX2_doOp_15 : decode cX2_doOp 15 = .ok (.istore 4, 2) := by decide +kernel
theorem dX2_doOp_17 : decode cX2_doOp 17 = .ok (.iload_n 2, 1) := by decide +kernel
theorem dX2_doOp_18 : decode cX2_doOp 18 = .ok (.invokestatic 76, 3) := by decide +kernel
theorem dX2_doOp_21 : decode cX2_doOp 21 = .ok (.iconst 1, 1) := by decide +kernel
theorem dX2_doOp_22 : decode cX2_doOp 22 = .ok (.if_icmp .le 10, 3) := by decide +kernel
theorem dX2_doOp_25 : decode cX2_doOp 25 = .ok (.aload_n 0, 1) := by decide +kernel
theorem dX2_doOp_26 : decode cX2_doOp 26 = .ok (.invokevirtual 36, 3) := by decide +kernel
theorem dX2_doOp_29 : decode cX2_doOp 29 = .ok (.goto 4, 3) := by decide +kernel
theorem dX2_doOp_32 : decode cX2_doOp 32 = .ok (.iconst 0, 1) := by decide +kernel
theorem dX2_doOp_33 : decode cX2_doOp 33 = .ok (.istore 5, 2) := by decide +kernel
theorem dX2_doOp_35 : decode cX2_doOp 35 = .ok (.iload_n 2, 1) := by decide +kernel
theorem dX2_doOp_36 : decode cX2_doOp 36 = .ok (.lookupswitch 165 #[(10, 76), (11, 129), (12, 141), (13, 153), (14, 88), (15, 114), (100, 68)], 68) := by decide +kernel
theorem dX2_doOp_104 : decode cX2_doOp 104 = .ok (.aload_n 0, 1) := by decide +kernel
theorem dX2_doOp_105 : decode cX2_doOp 105 = .ok (.iload_n 3, 1) := by decide +kernel
theorem dX2_doOp_106 : decode cX2_doOp 106 = .ok (.invokevirtual 81, 3) := by decide +kernel
theorem dX2_doOp_109 : decode cX2_doOp 109 = .ok (.goto 104, 3) := by decide +kernel
theorem dX2_doOp_112 : decode cX2_doOp 112 = .ok (.aload_n 0, 1) := by decide +kernel
theorem dX2_doOp_113 : decode cX2_doOp 113 = .ok (.aload_n 1, 1) := by decide +kernel
theorem dX2_doOp_114 : decode cX2_doOp 114 = .ok (.iload_n 3, 1) := by decide +kernel
theorem dX2_doOp_115 : decode cX2_doOp 115 = .ok (.invokevirtual 85, 3) := by decide +kernel
theorem dX2_doOp_118 : decode cX2_doOp 118 = .ok (.invokevirtual 81, 3) := by decide +kernel
theorem dX2_doOp_121 : decode cX2_doOp 121 = .ok (.goto 92, 3) := by decide +kernel
theorem dX2_doOp_124 : decode cX2_doOp 124 = .ok (.aload_n 0, 1) := by decide +kernel
theorem dX2_doOp_125 : decode cX2_doOp 125 = .ok (.aload_n 1, 1) := by decide +kernel
theorem dX2_doOp_126 : decode cX2_doOp 126 = .ok (.iload 4, 2) := by decide +kernel
theorem dX2_doOp_128 : decode cX2_doOp 128 = .ok (.invokevirtual 50, 3) := by decide +kernel
theorem dX2_doOp_131 : decode cX2_doOp 131 = .ok (.invokevirtual 81, 3) := by decide +kernel
theorem dX2_doOp_134 : decode cX2_doOp 134 = .ok (.aload_n 1, 1) := by decide +kernel
theorem dX2_doOp_135 : decode cX2_doOp 135 = .ok (.iload 4, 2) := by decide +kernel
theorem dX2_doOp_137 : decode cX2_doOp 137 = .ok (.invokevirtual 50, 3) := by decide +kernel
theorem dX2_doOp_140 : decode cX2_doOp 140 = .ok (.iconst (-1), 1) := by decide +kernel
theorem dX2_doOp_141 : decode cX2_doOp 141 = .ok (.if_icmp .eq 7, 3) := by decide +kernel
theorem dX2_doOp_144 : decode cX2_doOp 144 = .ok (.iconst 1, 1) := by decide +kernel
theorem dX2_doOp_145 : decode cX2_doOp 145 = .ok (.goto 4, 3) := by decide +kernel
theorem dX2_doOp_148 : decode cX2_doOp 148 = .ok (.iconst 0, 1) := by decide +kernel
theorem dX2_doOp_149 : decode cX2_doOp 149 = .ok (.ireturn, 1) := by decide +kernel
theorem dX2_doOp_150 : decode cX2_doOp 150 = .ok (.aload_n 0, 1) := by decide +kernel
theorem dX2_doOp_151 : decode cX2_doOp 151 = .ok (.iload 4, 2) := by decide +kernel
theorem dX2_doOp_153 : decode cX2_doOp 153 = .ok (.invokevirtual 81, 3) := by decide +kernel
theorem dX2_doOp_156 : decode cX2_doOp 156 = .ok (.aload_n 0, 1) := by decide +kernel
theorem dX2_doOp_157 : decode cX2_doOp 157 = .ok (.iload 4, 2) := by decide +kernel
theorem dX2_doOp_159 : decode cX2_doOp 159 = .ok (.invokevirtual 81, 3) := by decide +kernel
theorem dX2_doOp_162 : decode cX2_doOp 162 = .ok (.goto 51, 3) := by decide +kernel
theorem dX2_doOp_165 : decode cX2_doOp 165 = .ok (.aload_n 0, 1) := by decide +kernel
theorem dX2_doOp_166 : decode cX2_doOp 166 = .ok (.iload 5, 2) := by decide +kernel
theorem dX2_doOp_168 : decode cX2_doOp 168 = .ok (.iload 4, 2) := by decide +kernel
theorem dX2_doOp_170 : decode cX2_doOp 170 = .ok (.iadd, 1) := by decide +kernel
theorem dX2_doOp_171 : decode cX2_doOp 171 = .ok (.invokevirtual 81, 3) := by decide +kernel
theorem dX2_doOp_174 : decode cX2_doOp 174 = .ok (.goto 39, 3) := by decide +kernel
theorem dX2_doOp_177 : decode cX2_doOp 177 = .ok (.aload_n 0, 1) := by decide +kernel
theorem dX2_doOp_178 : decode cX2_doOp 178 = .ok (.iload 5, 2) := by decide +kernel
theorem dX2_doOp_180 : decode cX2_doOp 180 = .ok (.iload 4, 2) := by decide +kernel
theorem dX2_doOp_182 : decode cX2_doOp 182 = .ok (.isub, 1) := by decide +kernel
theorem dX2_doOp_183 : decode cX2_doOp 183 = .ok (.invokevirtual 81, 3) := by decide +kernel
theorem dX2_doOp_186 : decode cX2_doOp 186 = .ok (.goto 27, 3) := by decide +kernel
theorem dX2_doOp_189 : decode cX2_doOp 189 = .ok (.aload_n 0, 1) := by decide +kernel
theorem dX2_doOp_190 : decode cX2_doOp 190 = .ok (.iload 5, 2) := by decide +kernel
theorem dX2_doOp_192 : decode cX2_doOp 192 = .ok (.iload 4, 2) := by decide +kernel
theorem dX2_doOp_194 : decode cX2_doOp 194 = .ok (.imul, 1) := by decide +kernel
theorem dX2_doOp_195 : decode cX2_doOp 195 = .ok (.invokevirtual 81, 3) := by decide +kernel
theorem dX2_doOp_198 : decode cX2_doOp 198 = .ok (.goto 15, 3) := by decide +kernel
theorem dX2_doOp_201 : decode cX2_doOp 201 = .ok (.aload_n 0, 1) := by decide +kernel
theorem dX2_doOp_202 : decode cX2_doOp 202 = .ok (.iload 4, 2) := by decide +kernel
theorem dX2_doOp_204 : decode cX2_doOp 204 = .ok (.invokevirtual 81, 3) := by decide +kernel
theorem dX2_doOp_207 : decode cX2_doOp 207 = .ok (.aload_n 0, 1) := by decide +kernel
theorem dX2_doOp_208 : decode cX2_doOp 208 = .ok (.iload 5, 2) := by decide +kernel
theorem dX2_doOp_210 : decode cX2_doOp 210 = .ok (.invokevirtual 81, 3) := by decide +kernel
theorem dX2_doOp_213 : decode cX2_doOp 213 = .ok (.iconst 1, 1) := by decide +kernel
theorem dX2_doOp_214 : decode cX2_doOp 214 = .ok (.ireturn, 1) := by decide +kernel
theorem dX2_push_0 : decode cX2_push 0 = .ok (.aload_n 0, 1) := by decide +kernel
theorem dX2_push_1 : decode cX2_push 1 = .ok (.getfield 17, 3) := by decide +kernel
theorem dX2_push_4 : decode cX2_push 4 = .ok (.aload_n 0, 1) := by decide +kernel
theorem dX2_push_5 : decode cX2_push 5 = .ok (.getfield 11, 3) := by decide +kernel
theorem dX2_push_8 : decode cX2_push 8 = .ok (.arraylength, 1) := by decide +kernel
theorem dX2_push_9 : decode cX2_push 9 = .ok (.if_icmp .ge 23, 3) := by decide +kernel
theorem dX2_push_12 : decode cX2_push 12 = .ok (.aload_n 0, 1) := by decide +kernel
theorem dX2_push_13 : decode cX2_push 13 = .ok (.getfield 11, 3) := by decide +kernel
theorem dX2_push_16 : decode cX2_push 16 = .ok (.aload_n 0, 1) := by decide +kernel
theorem dX2_push_17 : decode cX2_push 17 = .ok (.getfield 17, 3) := by decide +kernel
theorem dX2_push_20 : decode cX2_push 20 = .ok (.iload_n 1, 1) := by decide +kernel
theorem dX2_push_21 : decode cX2_push 21 = .ok (.iastore, 1) := by decide +kernel
theorem dX2_push_22 : decode cX2_push 22 = .ok (.aload_n 0, 1) := by decide +kernel
theorem dX2_push_23 : decode cX2_push 23 = .ok (.dup, 1) := by decide +kernel
theorem dX2_push_24 : decode cX2_push 24 = .ok (.getfield 17, 3) := by decide +kernel
theorem dX2_push_27 : decode cX2_push 27 = .ok (.iconst 1, 1) := by decide +kernel
theorem dX2_push_28 : decode cX2_push 28 = .ok (.iadd, 1) := by decide +kernel
theorem dX2_push_29 : decode cX2_push 29 = .ok (.putfield 17, 3) := by decide +kernel
theorem dX2_push_32 : decode cX2_push 32 = .ok (.return_, 1) := by decide +kernel
theorem dX2_pop_0 : decode cX2_pop 0 = .ok (.aload_n 0, 1) := by decide +kernel
theorem dX2_pop_1 : decode cX2_pop 1 = .ok (.getfield 17, 3) := by decide +kernel
theorem dX2_pop_4 : decode cX2_pop 4 = .ok (.ifCond .gt 5, 3) := by decide +kernel
theorem dX2_pop_7 : decode cX2_pop 7 = .ok (.iconst 0, 1) := by decide +kernel
theorem dX2_pop_8 : decode cX2_pop 8 = .ok (.ireturn, 1) := by decide +kernel
theorem dX2_pop_9 : decode cX2_pop 9 = .ok (.aload_n 0, 1) := by decide +kernel
theorem dX2_pop_10 : decode cX2_pop 10 = .ok (.dup, 1) := by decide +kernel
theorem dX2_pop_11 : decode cX2_pop 11 = .ok (.getfield 17, 3) := by decide +kernel
theorem dX2_pop_14 : decode cX2_pop 14 = .ok (.iconst 1, 1) := by decide +kernel
theorem dX2_pop_15 : decode cX2_pop 15 = .ok (.isub, 1) := by decide +kernel
theorem dX2_pop_16 : decode cX2_pop 16 = .ok (.putfield 17, 3) := by decide +kernel
theorem dX2_pop_19 : decode cX2_pop 19 = .ok (.aload_n 0, 1) := by decide +kernel
theorem dX2_pop_20 : decode cX2_pop 20 = .ok (.getfield 11, 3) := by decide +kernel
theorem dX2_pop_23 : decode cX2_pop 23 = .ok (.aload_n 0, 1) := by decide +kernel
theorem dX2_pop_24 : decode cX2_pop 24 = .ok (.getfield 17, 3) := by decide +kernel
theorem dX2_pop_27 : decode cX2_pop 27 = .ok (.iaload, 1) := by decide +kernel
theorem dX2_pop_28 : decode cX2_pop 28 = .ok (.ireturn, 1) := by decide +kernel
theorem dX3_init_0 : decode cX3_init 0 = .ok (.aload_n 0, 1) := by decide +kernel
theorem dX3_init_1 : decode cX3_init 1 = .ok (.invokespecial 3, 3) := by decide +kernel
theorem dX3_init_4 : decode cX3_init 4 = .ok (.aload_n 0, 1) := by decide +kernel
theorem dX3_init_5 : decode cX3_init 5 = .ok (.bipush 8, 2) := by decide +kernel
theorem dX3_init_7 : decode cX3_init 7 = .ok (.newarray .int, 2) := by decide +kernel
theorem dX3_init_9 : decode cX3_init 9 = .ok (.putfield 11, 3) := by decide +kernel
theorem dX3_init_12 : decode cX3_init 12 = .ok (.aload_n 0, 1) := by decide +kernel
theorem dX3_init_13 : decode cX3_init 13 = .ok (.bipush 64, 2) := by decide +kernel
theorem dX3_init_15 : decode cX3_init 15 = .ok (.newarray .int, 2) := by decide +kernel
theorem dX3_init_17 : decode cX3_init 17 = .ok (.putfield 15, 3) := by decide +kernel
theorem dX3_init_20 : decode cX3_init 20 = .ok (.aload_n 0, 1) := by decide +kernel
theorem dX3_init_21 : decode cX3_init 21 = .ok (.bipush 8, 2) := by decide +kernel
theorem dX3_init_23 : decode cX3_init 23 = .ok (.newarray .int, 2) := by decide +kernel
theorem dX3_init_25 : decode cX3_init 25 = .ok (.putfield 18, 3) := by decide +kernel
theorem dX3_init_28 : decode cX3_init 28 = .ok (.aload_n 0, 1) := by decide +kernel
theorem dX3_init_29 : decode cX3_init 29 = .ok (.iconst 0, 1) := by decide +kernel
theorem dX3_init_30 : decode cX3_init 30 = .ok (.putfield 21, 3) := by decide +kernel
theorem dX3_init_33 : decode cX3_init 33 = .ok (.aload_n 0, 1) := by decide +kernel
theorem dX3_init_34 : decode cX3_init 34 = .ok (.iconst 0, 1) := by decide +kernel
theorem dX3_init_35 : decode cX3_init 35 = .ok (.putfield 25, 3) := by decide +kernel
theorem dX3_init_38 : decode cX3_init 38 = .ok (.aload_n 0, 1) := by decide +kernel
theorem dX3_init_39 : decode cX3_init 39 = .ok (.iconst 0, 1) := by decide +kernel
theorem dX3_init_40 : decode cX3_init 40 = .ok (.putfield 28, 3) := by decide +kernel
theorem dX3_init_43 : decode cX3_init 43 = .ok (.return_, 1) := by decide +kernel
theorem dX3_makeNew_0 : decode cX3_makeNew 0 = .ok (.iconst 0, 1) := by decide +kernel
theorem dX3_makeNew_1 : decode cX3_makeNew 1 = .ok (.istore_n 1, 1) := by decide +kernel
theorem dX3_makeNew_2 : decode cX3_makeNew 2 = .ok (.iload_n 1, 1) := by decide +kernel
theorem dX3_makeNew_3 : decode cX3_makeNew 3 = .ok (.bipush 8, 2) := by decide +kernel
theorem dX3_makeNew_5 : decode cX3_makeNew 5 = .ok (.if_icmp .ge 16, 3) := by decide +kernel
theorem dX3_makeNew_8 : decode cX3_makeNew 8 = .ok (.aload_n 0, 1) := by decide +kernel
theorem dX3_makeNew_9 : decode cX3_makeNew 9 = .ok (.getfield 11, 3) := by decide +kernel
theorem dX3_makeNew_12 : decode cX3_makeNew 12 = .ok (.iload_n 1, 1) := by decide +kernel
theorem dX3_makeNew_13 : decode cX3_makeNew 13 = .ok (.iconst 0, 1) := by decide +kernel
theorem dX3_makeNew_14 : decode cX3_makeNew 14 = .ok (.iastore, 1) := by decide +kernel
theorem dX3_makeNew_15 : decode cX3_makeNew 15 = .ok (.iinc 1 1, 3) := by decide +kernel
theorem dX3_makeNew_18 : decode cX3_makeNew 18 = .ok (.goto (-16), 3) := by decide +kernel
theorem dX3_makeNew_21 : decode cX3_makeNew 21 = .ok (.iconst 0, 1) := by decide +kernel
theorem dX3_makeNew_22 : decode cX3_makeNew 22 = .ok (.istore_n 1, 1) := by decide +kernel
theorem dX3_makeNew_23 : decode cX3_makeNew 23 = .ok (.iload_n 1, 1) := by decide +kernel
theorem dX3_makeNew_24 : decode cX3_makeNew 24 = .ok (.bipush 64, 2) := by decide +kernel
theorem dX3_makeNew_26 : decode cX3_makeNew 26 = .ok (.if_icmp .ge 16, 3) := by decide +kernel
theorem dX3_makeNew_29 : decode cX3_makeNew 29 = .ok (.aload_n 0, 1) := by decide +kernel
theorem dX3_makeNew_30 : decode cX3_makeNew 30 = .ok (.getfield 15, 3) := by decide +kernel
theorem dX3_makeNew_33 : decode cX3_makeNew 33 = .ok (.iload_n 1, 1) := by decide +kernel
theorem dX3_makeNew_34 : decode cX3_makeNew 34 = .ok (.iconst 0, 1) := by decide +kernel
theorem dX3_makeNew_35 : decode cX3_makeNew 35 = .ok (.iastore, 1) := by decide +kernel
theorem dX3_makeNew_36 : decode cX3_makeNew 36 = .ok (.iinc 1 1, 3) := by decide +kernel
theorem dX3_makeNew_39 : decode cX3_makeNew 39 = .ok (.goto (-16), 3) := by decide +kernel
theorem dX3_makeNew_42 : decode cX3_makeNew 42 = .ok (.aload_n 0, 1) := by decide +kernel
theorem dX3_makeNew_43 : decode cX3_makeNew 43 = .ok (.iconst 0, 1) := by decide +kernel
theorem dX3_makeNew_44 : decode cX3_makeNew 44 = .ok (.putfield 21, 3) := by decide +kernel
theorem dX3_makeNew_47 : decode cX3_makeNew 47 = .ok (.aload_n 0, 1) := by decide +kernel
theorem dX3_makeNew_48 : decode cX3_makeNew 48 = .ok (.iconst 0, 1) := by decide +kernel
theorem dX3_makeNew_49 : decode cX3_makeNew 49 = .ok (.putfield 25, 3) := by decide +kernel
theorem dX3_makeNew_52 : decode cX3_makeNew 52 = .ok (.aload_n 0, 1) := by decide +kernel
theorem dX3_makeNew_53 : decode cX3_makeNew 53 = .ok (.iconst 0, 1) := by decide +kernel
theorem dX3_makeNew_54 : decode cX3_makeNew 54 = .ok (.putfield 28, 3) := by decide +kernel
theorem dX3_makeNew_57 : decode cX3_makeNew 57 = .ok (.return_, 1) := by decide +kernel
theorem dX3_copyFrom_0 : decode cX3_copyFrom 0 = .ok (.aload_n 1, 1) := by decide +kernel
theorem dX3_copyFrom_1 : decode cX3_copyFrom 1 = .ok (.getfield 11, 3) := by decide +kernel
theorem dX3_copyFrom_4 : decode cX3_copyFrom 4 = .ok (.iconst 0, 1) := by decide +kernel
theorem dX3_copyFrom_5 : decode cX3_copyFrom 5 = .ok (.aload_n 0, 1) := by decide +kernel
theorem dX3_copyFrom_6 : decode cX3_copyFrom 6 = .ok (.getfield 11, 3) := by decide +kernel
theorem dX3_copyFrom_9 : decode cX3_copyFrom 9 = .ok (.iconst 0, 1) := by decide +kernel
theorem dX3_copyFrom_10 : decode cX3_copyFrom 10 = .ok (.bipush 8, 2) := by decide +kernel
theorem dX3_copyFrom_12 : decode cX3_copyFrom 12 = .ok (.invokestatic 31, 3) := by decide +kernel
theorem dX3_copyFrom_15 : decode cX3_copyFrom 15 = .ok (.aload_n 1, 1) := by decide +kernel
theorem dX3_copyFrom_16 : decode cX3_copyFrom 16 = .ok (.getfield 15, 3) := by decide +kernel
theorem dX3_copyFrom_19 : decode cX3_copyFrom 19 = .ok (.iconst 0, 1) := by decide +kernel
theorem dX3_copyFrom_20 : decode cX3_copyFrom 20 = .ok (.aload_n 0, 1) := by decide +kernel
theorem dX3_copyFrom_21 : decode cX3_copyFrom 21 = .ok (.getfield 15, 3) := by decide +kernel
theorem dX3_copyFrom_24 : decode cX3_copyFrom 24 = .ok (.iconst 0, 1) := by decide +kernel
theorem dX3_copyFrom_25 : decode cX3_copyFrom 25 = .ok (.bipush 64, 2) := by decide +kernel
theorem dX3_copyFrom_27 : decode cX3_copyFrom 27 = .ok (.invokestatic 31, 3) := by decide +kernel
theorem dX3_copyFrom_30 : decode cX3_copyFrom 30 = .ok (.aload_n 1, 1) := by decide +kernel
theorem dX3_copyFrom_31 : decode cX3_copyFrom 31 = .ok (.getfield 18, 3) := by decide +kernel
theorem dX3_copyFrom_34 : decode cX3_copyFrom 34 = .ok (.iconst 0, 1) := by decide +kernel
theorem dX3_copyFrom_35 : decode cX3_copyFrom 35 = .ok (.aload_n 0, 1) := by decide +kernel
theorem dX3_copyFrom_36 : decode cX3_copyFrom 36 = .ok (.getfield 18, 3) := by decide +kernel
theorem dX3_copyFrom_39 : decode cX3_copyFrom 39 = .ok (.iconst 0, 1) := by decide +kernel
theorem dX3_copyFrom_40 : decode cX3_copyFrom 40 = .ok (.bipush 8, 2) := by decide +kernel
theorem dX3_copyFrom_42 : decode cX3_copyFrom 42 = .ok (.invokestatic 31, 3) := by decide +kernel
theorem dX3_copyFrom_45 : decode cX3_copyFrom 45 = .ok (.aload_n 0, 1) := by decide +kernel
theorem dX3_copyFrom_46 : decode cX3_copyFrom 46 = .ok (.aload_n 1, 1) := by decide +kernel
theorem dX3_copyFrom_47 : decode cX3_copyFrom 47 = .ok (.getfield 21, 3) := by decide +kernel
theorem dX3_copyFrom_50 : decode cX3_copyFrom 50 = .ok (.putfield 21, 3) := by decide +kernel
theorem dX3_copyFrom_53 : decode cX3_copyFrom 53 = .ok (.aload_n 0, 1) := by decide +kernel
theorem dX3_copyFrom_54 : decode cX3_copyFrom 54 = .ok (.aload_n 1, 1) := by decide +kernel
theorem dX3_copyFrom_55 : decode cX3_copyFrom 55 = .ok (.getfield 25, 3) := by decide +kernel
theorem dX3_copyFrom_58 : decode cX3_copyFrom 58 = .ok (.putfield 25, 3) := by decide +kernel
theorem dX3_copyFrom_61 : decode cX3_copyFrom 61 = .ok (.aload_n 0, 1) := by decide +kernel
theorem dX3_copyFrom_62 : decode cX3_copyFrom 62 = .ok (.aload_n 1, 1) := by decide +kernel
theorem dX3_copyFrom_63 : decode cX3_copyFrom 63 = .ok (.getfield 28, 3) := by decide +kernel
theorem dX3_copyFrom_66 : decode cX3_copyFrom 66 = .ok (.putfield 28, 3) := by decide +kernel
theorem dX3_copyFrom_69 : decode cX3_copyFrom 69 = .ok (.return_, 1) := by decide +kernel
theorem dX3_registerAt_0 : decode cX3_registerAt 0 = .ok (.iload_n 1, 1) := by decide +kernel
theorem dX3_registerAt_1 : decode cX3_registerAt 1 = .ok (.ifCond .lt 18, 3) := by decide +kernel
theorem dX3_registerAt_4 : decode cX3_registerAt 4 = .ok (.iload_n 1, 1) := by decide +kernel
theorem dX3_registerAt_5 : decode cX3_registerAt 5 = .ok (.bipush 8, 2) := by decide +kernel
theorem dX3_registerAt_7 : decode cX3_registerAt 7 = .ok (.if_icmp .ge 12, 3) := by decide +kernel
theorem dX3_registerAt_10 : decode cX3_registerAt 10 = .ok (.aload_n 0, 1) := by decide +kernel
theorem dX3_registerAt_11 : decode cX3_registerAt 11 = .ok (.getfield 11, 3) := by decide +kernel
theorem dX3_registerAt_14 : decode cX3_registerAt 14 = .ok (.iload_n 1, 1) := by decide +kernel
theorem dX3_registerAt_15 : decode cX3_registerAt 15 = .ok (.iaload, 1) := by decide +kernel
theorem dX3_registerAt_16 : decode cX3_registerAt 16 = .ok (.goto 4, 3) := by decide +kernel
theorem dX3_registerAt_19 : decode cX3_registerAt 19 = .ok (.iconst (-1), 1) := by decide +kernel
theorem dX3_registerAt_20 : decode cX3_registerAt 20 = .ok (.ireturn, 1) := by decide +kernel
theorem dX3_memoryAt_0 : decode cX3_memoryAt 0 = .ok (.iload_n 1, 1) := by decide +kernel
theorem dX3_memoryAt_1 : decode cX3_memoryAt 1 = .ok (.ifCond .lt 18, 3) := by decide +kernel
theorem dX3_memoryAt_4 : decode cX3_memoryAt 4 = .ok (.iload_n 1, 1) := by decide +kernel
theorem dX3_memoryAt_5 : decode cX3_memoryAt 5 = .ok (.bipush 64, 2) := by decide +kernel
theorem dX3_memoryAt_7 : decode cX3_memoryAt 7 = .ok (.if_icmp .ge 12, 3) := by decide +kernel
theorem dX3_memoryAt_10 : decode cX3_memoryAt 10 = .ok (.aload_n 0, 1) := by decide +kernel
theorem dX3_memoryAt_11 : decode cX3_memoryAt 11 = .ok (.getfield 15, 3) := by decide +kernel
theorem dX3_memoryAt_14 : decode cX3_memoryAt 14 = .ok (.iload_n 1, 1) := by decide +kernel
theorem dX3_memoryAt_15 : decode cX3_memoryAt 15 = .ok (.iaload, 1) := by decide +kernel
theorem dX3_memoryAt_16 : decode cX3_memoryAt 16 = .ok (.goto 4, 3) := by decide +kernel
theorem dX3_memoryAt_19 : decode cX3_memoryAt 19 = .ok (.iconst (-1), 1) := by decide +kernel
theorem dX3_memoryAt_20 : decode cX3_memoryAt 20 = .ok (.ireturn, 1) := by decide +kernel
theorem dX3_perform_0 : decode cX3_perform 0 = .ok (.iload_n 2, 1) := by decide +kernel
theorem dX3_perform_1 : decode cX3_perform 1 = .ok (.tableswitch 142 17 23 #[43, 58, 73, 95, 105, 115, 132], 43) := by decide +kernel
theorem dX3_perform_44 : decode cX3_perform 44 = .ok (.aload_n 0, 1) := by decide +kernel
theorem dX3_perform_45 : decode cX3_perform 45 = .ok (.getfield 11, 3) := by decide +kernel
theorem dX3_perform_48 : decode cX3_perform 48 = .ok (.iload_n 3, 1) := by decide +kernel
theorem dX3_perform_49 : decode cX3_perform 49 = .ok (.iload 4, 2) := by decide +kernel
theorem dX3_perform_51 : decode cX3_perform 51 = .ok (.invokestatic 37, 3) := by decide +kernel
theorem dX3_perform_54 : decode cX3_perform 54 = .ok (.istore 5, 2) := by decide +kernel
theorem dX3_perform_56 : decode cX3_perform 56 = .ok (.goto 98, 3) := by decide +kernel
theorem dX3_perform_59 : decode cX3_perform 59 = .ok (.aload_n 0, 1) := by decide +kernel
theorem dX3_perform_60 : decode cX3_perform 60 = .ok (.getfield 15, 3) := by decide +kernel
theorem dX3_perform_63 : decode cX3_perform 63 = .ok (.iload_n 3, 1) := by decide +kernel
theorem dX3_perform_64 : decode cX3_perform 64 = .ok (.iload 4, 2) := by decide +kernel
theorem dX3_perform_66 : decode cX3_perform 66 = .ok (.invokestatic 37, 3) := by decide +kernel
theorem dX3_perform_69 : decode cX3_perform 69 = .ok (.istore 5, 2) := by decide +kernel
theorem dX3_perform_71 : decode cX3_perform 71 = .ok (.goto 83, 3) := by decide +kernel
theorem dX3_perform_74 : decode cX3_perform 74 = .ok (.aload_n 0, 1) := by decide +kernel
theorem dX3_perform_75 : decode cX3_perform 75 = .ok (.iload_n 3, 1) := by decide +kernel
theorem dX3_perform_76 : decode cX3_perform 76 = .ok (.aload_n 0, 1) := by decide +kernel
theorem dX3_perform_77 : decode cX3_perform 77 = .ok (.getfield 25, 3) := by decide +kernel
theorem dX3_perform_80 : decode cX3_perform 80 = .ok (.if_icmp .ne 7, 3) := by decide +kernel
theorem dX3_perform_83 : decode cX3_perform 83 = .ok (.iconst (-1), 1) := by decide +kernel
theorem dX3_perform_84 : decode cX3_perform 84 = .ok (.goto 4, 3) := by decide +kernel
theorem dX3_perform_87 : decode cX3_perform 87 = .ok (.iload_n 3, 1) := by decide +kernel
theorem dX3_perform_88 : decode cX3_perform 88 = .ok (.invokevirtual 41, 3) := by decide +kernel
theorem dX3_perform_91 : decode cX3_perform 91 = .ok (.istore 5, 2) := by decide +kernel
theorem dX3_perform_93 : decode cX3_perform 93 = .ok (.goto 61, 3) := by decide +kernel
theorem dX3_perform_96 : decode cX3_perform 96 = .ok (.aload_n 0, 1) := by decide +kernel
theorem dX3_perform_97 : decode cX3_perform 97 = .ok (.iload_n 3, 1) := by decide +kernel
theorem dX3_perform_98 : decode cX3_perform 98 = .ok (.invokevirtual 45, 3) := by decide +kernel
theorem dX3_perform_101 : decode cX3_perform 101 = .ok (.istore 5, 2) := by decide +kernel
theorem dX3_perform_103 : decode cX3_perform 103 = .ok (.goto 51, 3) := by decide +kernel
theorem dX3_perform_106 : decode cX3_perform 106 = .ok (.aload_n 0, 1) := by decide +kernel
theorem dX3_perform_107 : decode cX3_perform 107 = .ok (.iload_n 3, 1) := by decide +kernel
theorem dX3_perform_108 : decode cX3_perform 108 = .ok (.invokevirtual 48, 3) := by decide +kernel
theorem dX3_perform_111 : decode cX3_perform 111 = .ok (.istore 5, 2) := by decide +kernel
theorem dX3_perform_113 : decode cX3_perform 113 = .ok (.goto 41, 3) := by decide +kernel
theorem dX3_perform_116 : decode cX3_perform 116 = .ok (.aload_n 0, 1) := by decide +kernel
theorem dX3_perform_117 : decode cX3_perform 117 = .ok (.aload_n 1, 1) := by decide +kernel
theorem dX3_perform_118 : decode cX3_perform 118 = .ok (.aload_n 0, 1) := by decide +kernel
theorem dX3_perform_119 : decode cX3_perform 119 = .ok (.getfield 25, 3) := by decide +kernel
theorem dX3_perform_122 : decode cX3_perform 122 = .ok (.invokevirtual 51, 3) := by decide +kernel
theorem dX3_perform_125 : decode cX3_perform 125 = .ok (.invokevirtual 41, 3) := by decide +kernel
theorem dX3_perform_128 : decode cX3_perform 128 = .ok (.istore 5, 2) := by decide +kernel
theorem dX3_perform_130 : decode cX3_perform 130 = .ok (.goto 24, 3) := by decide +kernel
theorem dX3_perform_133 : decode cX3_perform 133 = .ok (.aload_n 0, 1) := by decide +kernel
theorem dX3_perform_134 : decode cX3_perform 134 = .ok (.aload_n 1, 1) := by decide +kernel
theorem dX3_perform_135 : decode cX3_perform 135 = .ok (.invokevirtual 56, 3) := by decide +kernel
theorem dX3_perform_138 : decode cX3_perform 138 = .ok (.istore 5, 2) := by decide +kernel
theorem dX3_perform_140 : decode cX3_perform 140 = .ok (.goto 14, 3) := by decide +kernel
theorem dX3_perform_143 : decode cX3_perform 143 = .ok (.aload_n 0, 1) := by decide +kernel
theorem dX3_perform_144 : decode cX3_perform 144 = .ok (.aload_n 0, 1) := by decide +kernel
theorem dX3_perform_145 : decode cX3_perform 145 = .ok (.aload_n 1, 1) := by decide +kernel
theorem dX3_perform_146 : decode cX3_perform 146 = .ok (.invokevirtual 60, 3) := by decide +kernel
theorem dX3_perform_149 : decode cX3_perform 149 = .ok (.invokevirtual 41, 3) := by decide +kernel
theorem dX3_perform_152 : decode cX3_perform 152 = .ok (.istore 5, 2) := by decide +kernel
theorem dX3_perform_154 : decode cX3_perform 154 = .ok (.iload 5, 2) := by decide +kernel
theorem dX3_perform_156 : decode cX3_perform 156 = .ok (.ifCond .ne 13, 3) := by decide +kernel
theorem dX3_perform_159 : decode cX3_perform 159 = .ok (.aload_n 0, 1) := by decide +kernel
theorem dX3_perform_160 : decode cX3_perform 160 = .ok (.dup, 1) := by decide +kernel
theorem dX3_perform_161 : decode cX3_perform 161 = .ok (.getfield 28, 3) := by decide +kernel
theorem dX3_perform_164 : decode cX3_perform 164 = .ok (.iconst 1, 1) := by decide +kernel
theorem dX3_perform_165 : decode cX3_perform 165 = .ok (.iadd, 1) := by decide +kernel
theorem dX3_perform_166 : decode cX3_perform 166 = .ok (.putfield 28, 3) := by decide +kernel
theorem dX3_perform_169 : decode cX3_perform 169 = .ok (.iload 5, 2) := by decide +kernel
theorem dX3_perform_171 : decode cX3_perform 171 = .ok (.ireturn, 1) := by decide +kernel
theorem dX3_write_0 : decode cX3_write 0 = .ok (.iload_n 1, 1) := by decide +kernel
theorem dX3_write_1 : decode cX3_write 1 = .ok (.ifCond .lt 9, 3) := by decide +kernel
theorem dX3_write_4 : decode cX3_write 4 = .ok (.iload_n 1, 1) := by decide +kernel
theorem dX3_write_5 : decode cX3_write 5 = .ok (.aload_n 0, 1) := by decide +kernel
theorem dX3_write_6 : decode cX3_write 6 = .ok (.arraylength, 1) := by decide +kernel
theorem dX3_write_7 : decode cX3_write 7 = .ok (.if_icmp .lt 5, 3) := by decide +kernel
theorem dX3_write_10 : decode cX3_write 10 = .ok (.iconst (-1), 1) := by decide +kernel
theorem dX3_write_11 : decode cX3_write 11 = .ok (.ireturn, 1) := by decide +kernel
theorem dX3_write_12 : decode cX3_write 12 = .ok (.aload_n 0, 1) := by decide +kernel
theorem dX3_write_13 : decode cX3_write 13 = .ok (.iload_n 1, 1) := by decide +kernel
theorem dX3_write_14 : decode cX3_write 14 = .ok (.iaload, 1) := by decide +kernel
theorem dX3_write_15 : decode cX3_write 15 = .ok (.iload_n 2, 1) := by decide +kernel
theorem dX3_write_16 : decode cX3_write 16 = .ok (.if_icmp .ne 5, 3) := by decide +kernel
theorem dX3_write_19 : decode cX3_write 19 = .ok (.iconst 1, 1) := by decide +kernel
theorem dX3_write_20 : decode cX3_write 20 = .ok (.ireturn, 1) := by decide +kernel
theorem dX3_write_21 : decode cX3_write 21 = .ok (.aload_n 0, 1) := by decide +kernel
theorem dX3_write_22 : decode cX3_write 22 = .ok (.iload_n 1, 1) := by decide +kernel
theorem dX3_write_23 : decode cX3_write 23 = .ok (.iload_n 2, 1) := by decide +kernel
theorem dX3_write_24 : decode cX3_write 24 = .ok (.iastore, 1) := by decide +kernel
theorem dX3_write_25 : decode cX3_write 25 = .ok (.iconst 0, 1) := by decide +kernel
theorem dX3_write_26 : decode cX3_write 26 = .ok (.ireturn, 1) := by decide +kernel
theorem dX3_moveTo_0 : decode cX3_moveTo 0 = .ok (.iload_n 1, 1) := by decide +kernel
theorem dX3_moveTo_1 : decode cX3_moveTo 1 = .ok (.iconst (-1), 1) := by decide +kernel
theorem dX3_moveTo_2 : decode cX3_moveTo 2 = .ok (.if_icmp .ne 5, 3) := by decide +kernel
theorem dX3_moveTo_5 : decode cX3_moveTo 5 = .ok (.iconst 1, 1) := by decide +kernel
theorem dX3_moveTo_6 : decode cX3_moveTo 6 = .ok (.ireturn, 1) := by decide +kernel
theorem dX3_moveTo_7 : decode cX3_moveTo 7 = .ok (.aload_n 0, 1) := by decide +kernel
theorem dX3_moveTo_8 : decode cX3_moveTo 8 = .ok (.iload_n 1, 1) := by decide +kernel
theorem dX3_moveTo_9 : decode cX3_moveTo 9 = .ok (.putfield 25, 3) := by decide +kernel
theorem dX3_moveTo_12 : decode cX3_moveTo 12 = .ok (.iconst 0, 1) := by decide +kernel
theorem dX3_moveTo_13 : decode cX3_moveTo 13 = .ok (.ireturn, 1) := by decide +kernel
theorem dX3_stopOf_0 : decode cX3_stopOf 0 = .ok (.iconst 0, 1) := by decide +kernel
theorem dX3_stopOf_1 : decode cX3_stopOf 1 = .ok (.istore_n 2, 1) := by decide +kernel
theorem dX3_stopOf_2 : decode cX3_stopOf 2 = .ok (.iload_n 2, 1) := by decide +kernel
theorem dX3_stopOf_3 : decode cX3_stopOf 3 = .ok (.aload_n 0, 1) := by decide +kernel
theorem dX3_stopOf_4 : decode cX3_stopOf 4 = .ok (.getfield 21, 3) := by decide +kernel
theorem dX3_stopOf_7 : decode cX3_stopOf 7 = .ok (.if_icmp .ge 27, 3) := by decide +kernel
theorem dX3_stopOf_10 : decode cX3_stopOf 10 = .ok (.iload_n 2, 1) := by decide +kernel
theorem dX3_stopOf_11 : decode cX3_stopOf 11 = .ok (.bipush 8, 2) := by decide +kernel
theorem dX3_stopOf_13 : decode cX3_stopOf 13 = .ok (.if_icmp .ge 21, 3) := by decide +kernel
theorem dX3_stopOf_16 : decode cX3_stopOf 16 = .ok (.aload_n 0, 1) := by decide +kernel
theorem dX3_stopOf_17 : decode cX3_stopOf 17 = .ok (.getfield 18, 3) := by decide +kernel
theorem dX3_stopOf_20 : decode cX3_stopOf 20 = .ok (.iload_n 2, 1) := by decide +kernel
theorem dX3_stopOf_21 : decode cX3_stopOf 21 = .ok (.iaload, 1) := by decide +kernel
theorem dX3_stopOf_22 : decode cX3_stopOf 22 = .ok (.iload_n 1, 1) := by decide +kernel
theorem dX3_stopOf_23 : decode cX3_stopOf 23 = .ok (.if_icmp .ne 5, 3) := by decide +kernel
theorem dX3_stopOf_26 : decode cX3_stopOf 26 = .ok (.iload_n 2, 1) := by decide +kernel
theorem dX3_stopOf_27 : decode cX3_stopOf 27 = .ok (.ireturn, 1) := by decide +kernel
theorem dX3_stopOf_28 : decode cX3_stopOf 28 = .ok (.iinc 2 1, 3) := by decide +kernel
theorem dX3_stopOf_31 : decode cX3_stopOf 31 = .ok (.goto (-29), 3) := by decide +kernel
theorem dX3_stopOf_34 : decode cX3_stopOf 34 = .ok (.iconst (-1), 1) := by decide +kernel
theorem dX3_stopOf_35 : decode cX3_stopOf 35 = .ok (.ireturn, 1) := by decide +kernel
theorem dX3_hasStop_0 : decode cX3_hasStop 0 = .ok (.aload_n 0, 1) := by decide +kernel
theorem dX3_hasStop_1 : decode cX3_hasStop 1 = .ok (.iload_n 1, 1) := by decide +kernel
theorem dX3_hasStop_2 : decode cX3_hasStop 2 = .ok (.invokevirtual 63, 3) := by decide +kernel
theorem dX3_hasStop_5 : decode cX3_hasStop 5 = .ok (.iconst (-1), 1) := by decide +kernel
theorem dX3_hasStop_6 : decode cX3_hasStop 6 = .ok (.if_icmp .eq 7, 3) := by decide +kernel
theorem dX3_hasStop_9 : decode cX3_hasStop 9 = .ok (.iconst 1, 1) := by decide +kernel
theorem dX3_hasStop_10 : decode cX3_hasStop 10 = .ok (.goto 4, 3) := by decide +kernel
theorem dX3_hasStop_13 : decode cX3_hasStop 13 = .ok (.iconst 0, 1) := by decide +kernel
theorem dX3_hasStop_14 : decode cX3_hasStop 14 = .ok (.ireturn, 1) := by decide +kernel
theorem dX3_addStop_0 : decode cX3_addStop 0 = .ok (.aload_n 0, 1) := by decide +kernel
theorem dX3_addStop_1 : decode cX3_addStop 1 = .ok (.iload_n 1, 1) := by decide +kernel
theorem dX3_addStop_2 : decode cX3_addStop 2 = .ok (.invokevirtual 66, 3) := by decide +kernel
theorem dX3_addStop_5 : decode cX3_addStop 5 = .ok (.ifCond .eq 5, 3) := by decide +kernel
theorem dX3_addStop_8 : decode cX3_addStop 8 = .ok (.iconst 1, 1) := by decide +kernel
theorem dX3_addStop_9 : decode cX3_addStop 9 = .ok (.ireturn, 1) := by decide +kernel
theorem dX3_addStop_10 : decode cX3_addStop 10 = .ok (.aload_n 0, 1) := by decide +kernel
theorem dX3_addStop_11 : decode cX3_addStop 11 = .ok (.getfield 21, 3) := by decide +kernel
theorem dX3_addStop_14 : decode cX3_addStop 14 = .ok (.bipush 8, 2) := by decide +kernel
theorem dX3_addStop_16 : decode cX3_addStop 16 = .ok (.if_icmp .lt 5, 3) := by decide +kernel
theorem dX3_addStop_19 : decode cX3_addStop 19 = .ok (.iconst 2, 1) := by decide +kernel
theorem dX3_addStop_20 : decode cX3_addStop 20 = .ok (.ireturn, 1) := by decide +kernel
theorem dX3_addStop_21 : decode cX3_addStop 21 = .ok (.aload_n 0, 1) := by decide +kernel
theorem dX3_addStop_22 : decode cX3_addStop 22 = .ok (.getfield 18, 3) := by decide +kernel
theorem dX3_addStop_25 : decode cX3_addStop 25 = .ok (.aload_n 0, 1) := by decide +kernel
theorem dX3_addStop_26 : decode cX3_addStop 26 = .ok (.getfield 21, 3) := by decide +kernel
theorem dX3_addStop_29 : decode cX3_addStop 29 = .ok (.iload_n 1, 1) := by decide +kernel
theorem dX3_addStop_30 : decode cX3_addStop 30 = .ok (.iastore, 1) := by decide +kernel
theorem dX3_addStop_31 : decode cX3_addStop 31 = .ok (.aload_n 0, 1) := by decide +kernel
theorem dX3_addStop_32 : decode cX3_addStop 32 = .ok (.dup, 1) := by decide +kernel
theorem dX3_addStop_33 : decode cX3_addStop 33 = .ok (.getfield 21, 3) := by decide +kernel
theorem dX3_addStop_36 : decode cX3_addStop 36 = .ok (.iconst 1, 1) := by decide +kernel
theorem dX3_addStop_37 : decode cX3_addStop 37 = .ok (.iadd, 1) := by decide +kernel
theorem dX3_addStop_38 : decode cX3_addStop 38 = .ok (.putfield 21, 3) := by decide +kernel
theorem dX3_addStop_41 : decode cX3_addStop 41 = .ok (.iconst 0, 1) := by decide +kernel
theorem dX3_addStop_42 : decode cX3_addStop 42 = .ok (.ireturn, 1) := by decide +kernel
theorem dX3_dropStop_0 : decode cX3_dropStop 0 = .ok (.aload_n 0, 1) := by decide +kernel
theorem dX3_dropStop_1 : decode cX3_dropStop 1 = .ok (.iload_n 1, 1) := by decide +kernel
theorem dX3_dropStop_2 : decode cX3_dropStop 2 = .ok (.invokevirtual 63, 3) := by decide +kernel
theorem dX3_dropStop_5 : decode cX3_dropStop 5 = .ok (.istore_n 2, 1) := by decide +kernel
theorem dX3_dropStop_6 : decode cX3_dropStop 6 = .ok (.iload_n 2, 1) := by decide +kernel
theorem dX3_dropStop_7 : decode cX3_dropStop 7 = .ok (.iconst (-1), 1) := by decide +kernel
theorem dX3_dropStop_8 : decode cX3_dropStop 8 = .ok (.if_icmp .ne 5, 3) := by decide +kernel
theorem dX3_dropStop_11 : decode cX3_dropStop 11 = .ok (.iconst 1, 1) := by decide +kernel
theorem dX3_dropStop_12 : decode cX3_dropStop 12 = .ok (.ireturn, 1) := by decide +kernel
theorem dX3_dropStop_13 : decode cX3_dropStop 13 = .ok (.aload_n 0, 1) := by decide +kernel
theorem dX3_dropStop_14 : decode cX3_dropStop 14 = .ok (.dup, 1) := by decide +kernel
theorem dX3_dropStop_15 : decode cX3_dropStop 15 = .ok (.getfield 21, 3) := by decide +kernel
theorem dX3_dropStop_18 : decode cX3_dropStop 18 = .ok (.iconst 1, 1) := by decide +kernel
theorem dX3_dropStop_19 : decode cX3_dropStop 19 = .ok (.isub, 1) := by decide +kernel
theorem dX3_dropStop_20 : decode cX3_dropStop 20 = .ok (.putfield 21, 3) := by decide +kernel
theorem dX3_dropStop_23 : decode cX3_dropStop 23 = .ok (.aload_n 0, 1) := by decide +kernel
theorem dX3_dropStop_24 : decode cX3_dropStop 24 = .ok (.getfield 18, 3) := by decide +kernel
theorem dX3_dropStop_27 : decode cX3_dropStop 27 = .ok (.iload_n 2, 1) := by decide +kernel
theorem dX3_dropStop_28 : decode cX3_dropStop 28 = .ok (.aload_n 0, 1) := by decide +kernel
theorem dX3_dropStop_29 : decode cX3_dropStop 29 = .ok (.getfield 18, 3) := by decide +kernel
theorem dX3_dropStop_32 : decode cX3_dropStop 32 = .ok (.aload_n 0, 1) := by decide +kernel
theorem dX3_dropStop_33 : decode cX3_dropStop 33 = .ok (.getfield 21, 3) := by decide +kernel
theorem dX3_dropStop_36 : decode cX3_dropStop 36 = .ok (.iaload, 1) := by decide +kernel
theorem dX3_dropStop_37 : decode cX3_dropStop 37 = .ok (.iastore, 1) := by decide +kernel
theorem dX3_dropStop_38 : decode cX3_dropStop 38 = .ok (.iconst 0, 1) := by decide +kernel
theorem dX3_dropStop_39 : decode cX3_dropStop 39 = .ok (.ireturn, 1) := by decide +kernel
theorem dX3_leaveScope_0 : decode cX3_leaveScope 0 = .ok (.aload_n 1, 1) := by decide +kernel
theorem dX3_leaveScope_1 : decode cX3_leaveScope 1 = .ok (.aload_n 0, 1) := by decide +kernel
theorem dX3_leaveScope_2 : decode cX3_leaveScope 2 = .ok (.getfield 25, 3) := by decide +kernel
theorem dX3_leaveScope_5 : decode cX3_leaveScope 5 = .ok (.iconst (-1), 1) := by decide +kernel
theorem dX3_leaveScope_6 : decode cX3_leaveScope 6 = .ok (.invokevirtual 70, 3) := by decide +kernel
theorem dX3_leaveScope_9 : decode cX3_leaveScope 9 = .ok (.istore_n 2, 1) := by decide +kernel
theorem dX3_leaveScope_10 : decode cX3_leaveScope 10 = .ok (.iload_n 2, 1) := by decide +kernel
theorem dX3_leaveScope_11 : decode cX3_leaveScope 11 = .ok (.iconst (-1), 1) := by decide +kernel
theorem dX3_leaveScope_12 : decode cX3_leaveScope 12 = .ok (.if_icmp .ne 5, 3) := by decide +kernel
theorem dX3_leaveScope_15 : decode cX3_leaveScope 15 = .ok (.iconst 1, 1) := by decide +kernel
theorem dX3_leaveScope_16 : decode cX3_leaveScope 16 = .ok (.ireturn, 1) := by decide +kernel
theorem dX3_leaveScope_17 : decode cX3_leaveScope 17 = .ok (.aload_n 1, 1) := by decide +kernel
theorem dX3_leaveScope_18 : decode cX3_leaveScope 18 = .ok (.getfield 74, 3) := by decide +kernel
theorem dX3_leaveScope_21 : decode cX3_leaveScope 21 = .ok (.iload_n 2, 1) := by decide +kernel
theorem dX3_leaveScope_22 : decode cX3_leaveScope 22 = .ok (.iconst 1, 1) := by decide +kernel
theorem dX3_leaveScope_23 : decode cX3_leaveScope 23 = .ok (.invokevirtual 78, 3) := by decide +kernel
theorem dX3_leaveScope_26 : decode cX3_leaveScope 26 = .ok (.istore_n 3, 1) := by decide +kernel
theorem dX3_leaveScope_27 : decode cX3_leaveScope 27 = .ok (.aload_n 1, 1) := by decide +kernel
theorem dX3_leaveScope_28 : decode cX3_leaveScope 28 = .ok (.iload_n 3, 1) := by decide +kernel
theorem dX3_leaveScope_29 : decode cX3_leaveScope 29 = .ok (.invokevirtual 83, 3) := by decide +kernel
theorem dX3_leaveScope_32 : decode cX3_leaveScope 32 = .ok (.ifCond .eq 11, 3) := by decide +kernel
theorem dX3_leaveScope_35 : decode cX3_leaveScope 35 = .ok (.aload_n 0, 1) := by decide +kernel
theorem dX3_leaveScope_36 : decode cX3_leaveScope 36 = .ok (.iload_n 3, 1) := by decide +kernel
theorem dX3_leaveScope_37 : decode cX3_leaveScope 37 = .ok (.invokevirtual 41, 3) := by decide +kernel
theorem dX3_leaveScope_40 : decode cX3_leaveScope 40 = .ok (.goto 4, 3) := by decide +kernel
theorem dX3_leaveScope_43 : decode cX3_leaveScope 43 = .ok (.iconst 2, 1) := by decide +kernel
theorem dX3_leaveScope_44 : decode cX3_leaveScope 44 = .ok (.ireturn, 1) := by decide +kernel
theorem dX3_stoppingRow_0 : decode cX3_stoppingRow 0 = .ok (.aload_n 1, 1) := by decide +kernel
theorem dX3_stoppingRow_1 : decode cX3_stoppingRow 1 = .ok (.aload_n 0, 1) := by decide +kernel
theorem dX3_stoppingRow_2 : decode cX3_stoppingRow 2 = .ok (.getfield 25, 3) := by decide +kernel
theorem dX3_stoppingRow_5 : decode cX3_stoppingRow 5 = .ok (.invokevirtual 86, 3) := by decide +kernel
theorem dX3_stoppingRow_8 : decode cX3_stoppingRow 8 = .ok (.iconst 1, 1) := by decide +kernel
theorem dX3_stoppingRow_9 : decode cX3_stoppingRow 9 = .ok (.iadd, 1) := by decide +kernel
theorem dX3_stoppingRow_10 : decode cX3_stoppingRow 10 = .ok (.istore_n 2, 1) := by decide +kernel
theorem dX3_stoppingRow_11 : decode cX3_stoppingRow 11 = .ok (.iload_n 2, 1) := by decide +kernel
theorem dX3_stoppingRow_12 : decode cX3_stoppingRow 12 = .ok (.aload_n 1, 1) := by decide +kernel
theorem dX3_stoppingRow_13 : decode cX3_stoppingRow 13 = .ok (.getfield 89, 3) := by decide +kernel
theorem dX3_stoppingRow_16 : decode cX3_stoppingRow 16 = .ok (.getfield 92, 3) := by decide +kernel
theorem dX3_stoppingRow_19 : decode cX3_stoppingRow 19 = .ok (.if_icmp .ge 35, 3) := by decide +kernel
theorem dX3_stoppingRow_22 : decode cX3_stoppingRow 22 = .ok (.aload_n 0, 1) := by decide +kernel
theorem dX3_stoppingRow_23 : decode cX3_stoppingRow 23 = .ok (.aload_n 1, 1) := by decide +kernel
theorem dX3_stoppingRow_24 : decode cX3_stoppingRow 24 = .ok (.getfield 89, 3) := by decide +kernel
theorem dX3_stoppingRow_27 : decode cX3_stoppingRow 27 = .ok (.iload_n 2, 1) := by decide +kernel
theorem dX3_stoppingRow_28 : decode cX3_stoppingRow 28 = .ok (.iconst 1, 1) := by decide +kernel
theorem dX3_stoppingRow_29 : decode cX3_stoppingRow 29 = .ok (.invokevirtual 78, 3) := by decide +kernel
theorem dX3_stoppingRow_32 : decode cX3_stoppingRow 32 = .ok (.invokevirtual 66, 3) := by decide +kernel
theorem dX3_stoppingRow_35 : decode cX3_stoppingRow 35 = .ok (.ifCond .eq 13, 3) := by decide +kernel
theorem dX3_stoppingRow_38 : decode cX3_stoppingRow 38 = .ok (.aload_n 1, 1) := by decide +kernel
theorem dX3_stoppingRow_39 : decode cX3_stoppingRow 39 = .ok (.getfield 89, 3) := by decide +kernel
theorem dX3_stoppingRow_42 : decode cX3_stoppingRow 42 = .ok (.iload_n 2, 1) := by decide +kernel
theorem dX3_stoppingRow_43 : decode cX3_stoppingRow 43 = .ok (.iconst 0, 1) := by decide +kernel
theorem dX3_stoppingRow_44 : decode cX3_stoppingRow 44 = .ok (.invokevirtual 78, 3) := by decide +kernel
theorem dX3_stoppingRow_47 : decode cX3_stoppingRow 47 = .ok (.ireturn, 1) := by decide +kernel
theorem dX3_stoppingRow_48 : decode cX3_stoppingRow 48 = .ok (.iinc 2 1, 3) := by decide +kernel
theorem dX3_stoppingRow_51 : decode cX3_stoppingRow 51 = .ok (.goto (-40), 3) := by decide +kernel
theorem dX3_stoppingRow_54 : decode cX3_stoppingRow 54 = .ok (.iconst (-1), 1) := by decide +kernel
theorem dX3_stoppingRow_55 : decode cX3_stoppingRow 55 = .ok (.ireturn, 1) := by decide +kernel
theorem dX4_init_0 : decode cX4_init 0 = .ok (.aload_n 0, 1) := by decide +kernel
theorem dX4_init_1 : decode cX4_init 1 = .ok (.invokespecial 3, 3) := by decide +kernel
theorem dX4_init_4 : decode cX4_init 4 = .ok (.aload_n 0, 1) := by decide +kernel
theorem dX4_init_5 : decode cX4_init 5 = .ok (.new 9, 3) := by decide +kernel
theorem dX4_init_8 : decode cX4_init 8 = .ok (.dup, 1) := by decide +kernel
theorem dX4_init_9 : decode cX4_init 9 = .ok (.sipush 181, 3) := by decide +kernel
theorem dX4_init_12 : decode cX4_init 12 = .ok (.iconst 1, 1) := by decide +kernel
theorem dX4_init_13 : decode cX4_init 13 = .ok (.invokespecial 13, 3) := by decide +kernel
theorem dX4_init_16 : decode cX4_init 16 = .ok (.putfield 16, 3) := by decide +kernel
theorem dX4_init_19 : decode cX4_init 19 = .ok (.aload_n 0, 1) := by decide +kernel
theorem dX4_init_20 : decode cX4_init 20 = .ok (.new 9, 3) := by decide +kernel
theorem dX4_init_23 : decode cX4_init 23 = .ok (.dup, 1) := by decide +kernel
theorem dX4_init_24 : decode cX4_init 24 = .ok (.bipush 30, 2) := by decide +kernel
theorem dX4_init_26 : decode cX4_init 26 = .ok (.iconst 2, 1) := by decide +kernel
theorem dX4_init_27 : decode cX4_init 27 = .ok (.invokespecial 13, 3) := by decide +kernel
theorem dX4_init_30 : decode cX4_init 30 = .ok (.putfield 20, 3) := by decide +kernel
theorem dX4_init_33 : decode cX4_init 33 = .ok (.aload_n 0, 1) := by decide +kernel
theorem dX4_init_34 : decode cX4_init 34 = .ok (.new 9, 3) := by decide +kernel
theorem dX4_init_37 : decode cX4_init 37 = .ok (.dup, 1) := by decide +kernel
theorem dX4_init_38 : decode cX4_init 38 = .ok (.bipush 30, 2) := by decide +kernel
theorem dX4_init_40 : decode cX4_init 40 = .ok (.iconst 2, 1) := by decide +kernel
theorem dX4_init_41 : decode cX4_init 41 = .ok (.invokespecial 13, 3) := by decide +kernel
theorem dX4_init_44 : decode cX4_init 44 = .ok (.putfield 23, 3) := by decide +kernel
theorem dX4_init_47 : decode cX4_init 47 = .ok (.aload_n 0, 1) := by decide +kernel
theorem dX4_init_48 : decode cX4_init 48 = .ok (.iconst 0, 1) := by decide +kernel
theorem dX4_init_49 : decode cX4_init 49 = .ok (.putfield 26, 3) := by decide +kernel
theorem dX4_init_52 : decode cX4_init 52 = .ok (.aload_n 0, 1) := by decide +kernel
theorem dX4_init_53 : decode cX4_init 53 = .ok (.iconst 1, 1) := by decide +kernel
theorem dX4_init_54 : decode cX4_init 54 = .ok (.putfield 30, 3) := by decide +kernel
theorem dX4_init_57 : decode cX4_init 57 = .ok (.return_, 1) := by decide +kernel
theorem dX4_pack_0 : decode cX4_pack 0 = .ok (.aload_n 0, 1) := by decide +kernel
theorem dX4_pack_1 : decode cX4_pack 1 = .ok (.getfield 16, 3) := by decide +kernel
theorem dX4_pack_4 : decode cX4_pack 4 = .ok (.invokevirtual 33, 3) := by decide +kernel
theorem dX4_pack_7 : decode cX4_pack 7 = .ok (.aload_n 0, 1) := by decide +kernel
theorem dX4_pack_8 : decode cX4_pack 8 = .ok (.iconst 0, 1) := by decide +kernel
theorem dX4_pack_9 : decode cX4_pack 9 = .ok (.putfield 26, 3) := by decide +kernel
theorem dX4_pack_12 : decode cX4_pack 12 = .ok (.aload_n 0, 1) := by decide +kernel
theorem dX4_pack_13 : decode cX4_pack 13 = .ok (.iconst 1, 1) := by decide +kernel
theorem dX4_pack_14 : decode cX4_pack 14 = .ok (.putfield 30, 3) := by decide +kernel
theorem dX4_pack_17 : decode cX4_pack 17 = .ok (.iconst 0, 1) := by decide +kernel
theorem dX4_pack_18 : decode cX4_pack 18 = .ok (.istore_n 2, 1) := by decide +kernel
theorem dX4_pack_19 : decode cX4_pack 19 = .ok (.iload_n 2, 1) := by decide +kernel
theorem dX4_pack_20 : decode cX4_pack 20 = .ok (.aload_n 1, 1) := by decide +kernel
theorem dX4_pack_21 : decode cX4_pack 21 = .ok (.getfield 36, 3) := by decide +kernel
theorem dX4_pack_24 : decode cX4_pack 24 = .ok (.if_icmp .ge 52, 3) := by decide +kernel
theorem dX4_pack_27 : decode cX4_pack 27 = .ok (.aload_n 1, 1) := by decide +kernel
theorem dX4_pack_28 : decode cX4_pack 28 = .ok (.iload_n 2, 1) := by decide +kernel
theorem dX4_pack_29 : decode cX4_pack 29 = .ok (.iconst 0, 1) := by decide +kernel
theorem dX4_pack_30 : decode cX4_pack 30 = .ok (.invokevirtual 41, 3) := by decide +kernel
theorem dX4_pack_33 : decode cX4_pack 33 = .ok (.istore_n 3, 1) := by decide +kernel
theorem dX4_pack_34 : decode cX4_pack 34 = .ok (.aload_n 1, 1) := by decide +kernel
theorem dX4_pack_35 : decode cX4_pack 35 = .ok (.iload_n 2, 1) := by decide +kernel
theorem dX4_pack_36 : decode cX4_pack 36 = .ok (.iconst 1, 1) := by decide +kernel
theorem dX4_pack_37 : decode cX4_pack 37 = .ok (.invokevirtual 41, 3) := by decide +kernel
theorem dX4_pack_40 : decode cX4_pack 40 = .ok (.istore 4, 2) := by decide +kernel
theorem dX4_pack_42 : decode cX4_pack 42 = .ok (.aload_n 0, 1) := by decide +kernel
theorem dX4_pack_43 : decode cX4_pack 43 = .ok (.iload_n 3, 1) := by decide +kernel
theorem dX4_pack_44 : decode cX4_pack 44 = .ok (.aload_n 0, 1) := by decide +kernel
theorem dX4_pack_45 : decode cX4_pack 45 = .ok (.getfield 26, 3) := by decide +kernel
theorem dX4_pack_48 : decode cX4_pack 48 = .ok (.isub, 1) := by decide +kernel
theorem dX4_pack_49 : decode cX4_pack 49 = .ok (.iload 4, 2) := by decide +kernel
theorem dX4_pack_51 : decode cX4_pack 51 = .ok (.aload_n 0, 1) := by decide +kernel
theorem dX4_pack_52 : decode cX4_pack 52 = .ok (.getfield 30, 3) := by decide +kernel
theorem dX4_pack_55 : decode cX4_pack 55 = .ok (.isub, 1) := by decide +kernel
theorem dX4_pack_56 : decode cX4_pack 56 = .ok (.invokevirtual 45, 3) := by decide +kernel
theorem dX4_pack_59 : decode cX4_pack 59 = .ok (.aload_n 0, 1) := by decide +kernel
theorem dX4_pack_60 : decode cX4_pack 60 = .ok (.iload_n 3, 1) := by decide +kernel
theorem dX4_pack_61 : decode cX4_pack 61 = .ok (.putfield 26, 3) := by decide +kernel
theorem dX4_pack_64 : decode cX4_pack 64 = .ok (.aload_n 0, 1) := by decide +kernel
theorem dX4_pack_65 : decode cX4_pack 65 = .ok (.iload 4, 2) := by decide +kernel
theorem dX4_pack_67 : decode cX4_pack 67 = .ok (.putfield 30, 3) := by decide +kernel
theorem dX4_pack_70 : decode cX4_pack 70 = .ok (.iinc 2 1, 3) := by decide +kernel
theorem dX4_pack_73 : decode cX4_pack 73 = .ok (.goto (-54), 3) := by decide +kernel
theorem dX4_pack_76 : decode cX4_pack 76 = .ok (.aload_n 0, 1) := by decide +kernel
theorem dX4_pack_77 : decode cX4_pack 77 = .ok (.iconst 0, 1) := by decide +kernel
theorem dX4_pack_78 : decode cX4_pack 78 = .ok (.invokevirtual 48, 3) := by decide +kernel
theorem dX4_pack_81 : decode cX4_pack 81 = .ok (.return_, 1) := by decide +kernel
theorem dX4_putByte_0 : decode cX4_putByte 0 = .ok (.aload_n 0, 1) := by decide +kernel
theorem dX4_putByte_1 : decode cX4_putByte 1 = .ok (.getfield 16, 3) := by decide +kernel
theorem dX4_putByte_4 : decode cX4_putByte 4 = .ok (.aload_n 0, 1) := by decide +kernel
theorem dX4_putByte_5 : decode cX4_putByte 5 = .ok (.getfield 16, 3) := by decide +kernel
theorem dX4_putByte_8 : decode cX4_putByte 8 = .ok (.lconst 0, 1) := by decide +kernel
theorem dX4_putByte_9 : decode cX4_putByte 9 = .ok (.invokevirtual 52, 3) := by decide +kernel
theorem dX4_putByte_12 : decode cX4_putByte 12 = .ok (.iconst 0, 1) := by decide +kernel
theorem dX4_putByte_13 : decode cX4_putByte 13 = .ok (.iload_n 1, 1) := by decide +kernel
theorem dX4_putByte_14 : decode cX4_putByte 14 = .ok (.invokevirtual 56, 3) := by decide +kernel
theorem dX4_putByte_17 : decode cX4_putByte 17 = .ok (.return_, 1) := by decide +kernel
theorem dX4_packRow_0 : decode cX4_packRow 0 = .ok (.iload_n 1, 1) := by decide +kernel
theorem dX4_packRow_1 : decode cX4_packRow 1 = .ok (.istore_n 3, 1) := by decide +kernel
theorem dX4_packRow_2 : decode cX4_packRow 2 = .ok (.iload_n 2, 1) := by decide +kernel
theorem dX4_packRow_3 : decode cX4_packRow 3 = .ok (.istore 4, 2) := by decide +kernel
theorem dX4_packRow_5 : decode cX4_packRow 5 = .ok (.iconst 0, 1) := by decide +kernel
theorem dX4_packRow_6 : decode cX4_packRow 6 = .ok (.istore 5, 2) := by decide +kernel
theorem dX4_packRow_8 : decode cX4_packRow 8 = .ok (.iload 5, 2) := by decide +kernel
theorem dX4_packRow_10 : decode cX4_packRow 10 = .ok (.bipush 6, 2) := by decide +kernel
theorem dX4_packRow_12 : decode cX4_packRow 12 = .ok (.if_icmp .ge 164, 3) := by decide +kernel
theorem dX4_packRow_15 : decode cX4_packRow 15 = .ok (.iload_n 3, 1) := by decide +kernel
theorem dX4_packRow_16 : decode cX4_packRow 16 = .ok (.iload 4, 2) := by decide +kernel
theorem dX4_packRow_18 : decode cX4_packRow 18 = .ok (.invokestatic 60, 3) := by decide +kernel
theorem dX4_packRow_21 : decode cX4_packRow 21 = .ok (.istore 6, 2) := by decide +kernel
theorem dX4_packRow_23 : decode cX4_packRow 23 = .ok (.iload 6, 2) := by decide +kernel
theorem dX4_packRow_25 : decode cX4_packRow 25 = .ok (.iconst 1, 1) := by decide +kernel
theorem dX4_packRow_26 : decode cX4_packRow 26 = .ok (.if_icmp .ne 34, 3) := by decide +kernel
theorem dX4_packRow_29 : decode cX4_packRow 29 = .ok (.aload_n 0, 1) := by decide +kernel
theorem dX4_packRow_30 : decode cX4_packRow 30 = .ok (.iload_n 3, 1) := by decide +kernel
theorem dX4_packRow_31 : decode cX4_packRow 31 = .ok (.ifCond .ne 12, 3) := by decide +kernel
theorem dX4_packRow_34 : decode cX4_packRow 34 = .ok (.iload 4, 2) := by decide +kernel
theorem dX4_packRow_36 : decode cX4_packRow 36 = .ok (.ifCond .ne 7, 3) := by decide +kernel
theorem dX4_packRow_39 : decode cX4_packRow 39 = .ok (.iconst 1, 1) := by decide +kernel
theorem dX4_packRow_40 : decode cX4_packRow 40 = .ok (.goto 16, 3) := by decide +kernel
theorem dX4_packRow_43 : decode cX4_packRow 43 = .ok (.bipush 10, 2) := by decide +kernel
theorem dX4_packRow_45 : decode cX4_packRow 45 = .ok (.iload_n 3, 1) := by decide +kernel
theorem dX4_packRow_46 : decode cX4_packRow 46 = .ok (.bipush 12, 2) := by decide +kernel
theorem dX4_packRow_48 : decode cX4_packRow 48 = .ok (.imul, 1) := by decide +kernel
theorem dX4_packRow_49 : decode cX4_packRow 49 = .ok (.iadd, 1) := by decide +kernel
theorem dX4_packRow_50 : decode cX4_packRow 50 = .ok (.iload 4, 2) := by decide +kernel
theorem dX4_packRow_52 : decode cX4_packRow 52 = .ok (.iadd, 1) := by decide +kernel
theorem dX4_packRow_53 : decode cX4_packRow 53 = .ok (.bipush (-4), 2) := by decide +kernel
theorem dX4_packRow_55 : decode cX4_packRow 55 = .ok (.isub, 1) := by decide +kernel
theorem dX4_packRow_56 : decode cX4_packRow 56 = .ok (.invokevirtual 48, 3) := by decide +kernel
theorem dX4_packRow_59 : decode cX4_packRow 59 = .ok (.return_, 1) := by decide +kernel
theorem dX4_packRow_60 : decode cX4_packRow 60 = .ok (.iload_n 3, 1) := by decide +kernel
theorem dX4_packRow_61 : decode cX4_packRow 61 = .ok (.iload 4, 2) := by decide +kernel
theorem dX4_packRow_63 : decode cX4_packRow 63 = .ok (.iload 6, 2) := by decide +kernel
theorem dX4_packRow_65 : decode cX4_packRow 65 = .ok (.invokestatic 63, 3) := by decide +kernel
theorem dX4_packRow_68 : decode cX4_packRow 68 = .ok (.istore 7, 2) := by decide +kernel
theorem dX4_packRow_70 : decode cX4_packRow 70 = .ok (.iload 7, 2) := by decide +kernel
theorem dX4_packRow_72 : decode cX4_packRow 72 = .ok (.iconst (-1), 1) := by decide +kernel
theorem dX4_packRow_73 : decode cX4_packRow 73 = .ok (.if_icmp .ne 12, 3) := by decide +kernel
theorem dX4_packRow_76 : decode cX4_packRow 76 = .ok (.iload_n 3, 1) := by decide +kernel
theorem dX4_packRow_77 : decode cX4_packRow 77 = .ok (.iload 6, 2) := by decide +kernel
theorem dX4_packRow_79 : decode cX4_packRow 79 = .ok (.invokestatic 67, 3) := by decide +kernel
theorem dX4_packRow_82 : decode cX4_packRow 82 = .ok (.goto 5, 3) := by decide +kernel
theorem dX4_packRow_85 : decode cX4_packRow 85 = .ok (.bipush (-5), 2) := by decide +kernel
theorem dX4_packRow_87 : decode cX4_packRow 87 = .ok (.istore 8, 2) := by decide +kernel
theorem dX4_packRow_89 : decode cX4_packRow 89 = .ok (.iload 7, 2) := by decide +kernel
theorem dX4_packRow_91 : decode cX4_packRow 91 = .ok (.iconst (-1), 1) := by decide +kernel
theorem dX4_packRow_92 : decode cX4_packRow 92 = .ok (.if_icmp .eq 22, 3) := by decide +kernel
theorem dX4_packRow_95 : decode cX4_packRow 95 = .ok (.aload_n 0, 1) := by decide +kernel
theorem dX4_packRow_96 : decode cX4_packRow 96 = .ok (.iconst 2, 1) := by decide +kernel
theorem dX4_packRow_97 : decode cX4_packRow 97 = .ok (.invokevirtual 48, 3) := by decide +kernel
theorem dX4_packRow_100 : decode cX4_packRow 100 = .ok (.aload_n 0, 1) := by decide +kernel
theorem dX4_packRow_101 : decode cX4_packRow 101 = .ok (.iload 7, 2) := by decide +kernel
theorem dX4_packRow_103 : decode cX4_packRow 103 = .ok (.invokevirtual 48, 3) := by decide +kernel
theorem dX4_packRow_106 : decode cX4_packRow 106 = .ok (.iload_n 3, 1) := by decide +kernel
theorem dX4_packRow_107 : decode cX4_packRow 107 = .ok (.iload 7, 2) := by decide +kernel
theorem dX4_packRow_109 : decode cX4_packRow 109 = .ok (.isub, 1) := by decide +kernel
theorem dX4_packRow_110 : decode cX4_packRow 110 = .ok (.istore_n 3, 1) := by decide +kernel
theorem dX4_packRow_111 : decode cX4_packRow 111 = .ok (.goto 59, 3) := by decide +kernel
theorem dX4_packRow_114 : decode cX4_packRow 114 = .ok (.iload 8, 2) := by decide +kernel
theorem dX4_packRow_116 : decode cX4_packRow 116 = .ok (.bipush (-4), 2) := by decide +kernel
theorem dX4_packRow_118 : decode cX4_packRow 118 = .ok (.if_icmp .lt 44, 3) := by decide +kernel
theorem dX4_packRow_121 : decode cX4_packRow 121 = .ok (.aload_n 0, 1) := by decide +kernel
theorem dX4_packRow_122 : decode cX4_packRow 122 = .ok (.iconst 3, 1) := by decide +kernel
theorem dX4_packRow_123 : decode cX4_packRow 123 = .ok (.invokevirtual 48, 3) := by decide +kernel
theorem dX4_packRow_126 : decode cX4_packRow 126 = .ok (.aload_n 0, 1) := by decide +kernel
theorem dX4_packRow_127 : decode cX4_packRow 127 = .ok (.iload 4, 2) := by decide +kernel
theorem dX4_packRow_129 : decode cX4_packRow 129 = .ok (.iload 8, 2) := by decide +kernel
theorem dX4_packRow_131 : decode cX4_packRow 131 = .ok (.isub, 1) := by decide +kernel
theorem dX4_packRow_132 : decode cX4_packRow 132 = .ok (.bipush 8, 2) := by decide +kernel
theorem dX4_packRow_134 : decode cX4_packRow 134 = .ok (.iushr, 1) := by decide +kernel
theorem dX4_packRow_135 : decode cX4_packRow 135 = .ok (.sipush 255, 3) := by decide +kernel
theorem dX4_packRow_138 : decode cX4_packRow 138 = .ok (.iand, 1) := by decide +kernel
theorem dX4_packRow_139 : decode cX4_packRow 139 = .ok (.invokevirtual 48, 3) := by decide +kernel
theorem dX4_packRow_142 : decode cX4_packRow 142 = .ok (.aload_n 0, 1) := by decide +kernel
theorem dX4_packRow_143 : decode cX4_packRow 143 = .ok (.iload 4, 2) := by decide +kernel
theorem dX4_packRow_145 : decode cX4_packRow 145 = .ok (.iload 8, 2) := by decide +kernel
theorem dX4_packRow_147 : decode cX4_packRow 147 = .ok (.isub, 1) := by decide +kernel
theorem dX4_packRow_148 : decode cX4_packRow 148 = .ok (.sipush 255, 3) := by decide +kernel
theorem dX4_packRow_151 : decode cX4_packRow 151 = .ok (.iand, 1) := by decide +kernel
theorem dX4_packRow_152 : decode cX4_packRow 152 = .ok (.invokevirtual 48, 3) := by decide +kernel
theorem dX4_packRow_155 : decode cX4_packRow 155 = .ok (.iload 8, 2) := by decide +kernel
theorem dX4_packRow_157 : decode cX4_packRow 157 = .ok (.istore 4, 2) := by decide +kernel
theorem dX4_packRow_159 : decode cX4_packRow 159 = .ok (.goto 11, 3) := by decide +kernel
theorem dX4_packRow_162 : decode cX4_packRow 162 = .ok (.aload_n 0, 1) := by decide +kernel
theorem dX4_packRow_163 : decode cX4_packRow 163 = .ok (.iconst 4, 1) := by decide +kernel
theorem dX4_packRow_164 : decode cX4_packRow 164 = .ok (.invokevirtual 48, 3) := by decide +kernel
theorem dX4_packRow_167 : decode cX4_packRow 167 = .ok (.iinc 3 (-17), 3) := by decide +kernel
theorem dX4_packRow_170 : decode cX4_packRow 170 = .ok (.iinc 5 1, 3) := by decide +kernel
theorem dX4_packRow_173 : decode cX4_packRow 173 = .ok (.goto (-165), 3) := by decide +kernel
theorem dX4_packRow_176 : decode cX4_packRow 176 = .ok (.return_, 1) := by decide +kernel
theorem dX4_bytesFor_0 : decode cX4_bytesFor 0 = .ok (.iload_n 1, 1) := by decide +kernel
theorem dX4_bytesFor_1 : decode cX4_bytesFor 1 = .ok (.bipush (-4), 2) := by decide +kernel
theorem dX4_bytesFor_3 : decode cX4_bytesFor 3 = .ok (.if_icmp .lt 9, 3) := by decide +kernel
theorem dX4_bytesFor_6 : decode cX4_bytesFor 6 = .ok (.iload_n 1, 1) := by decide +kernel
theorem dX4_bytesFor_7 : decode cX4_bytesFor 7 = .ok (.bipush 7, 2) := by decide +kernel
theorem dX4_bytesFor_9 : decode cX4_bytesFor 9 = .ok (.if_icmp .le 12, 3) := by decide +kernel
theorem dX4_bytesFor_12 : decode cX4_bytesFor 12 = .ok (.iconst 4, 1) := by decide +kernel
theorem dX4_bytesFor_13 : decode cX4_bytesFor 13 = .ok (.iload_n 0, 1) := by decide +kernel
theorem dX4_bytesFor_14 : decode cX4_bytesFor 14 = .ok (.bipush 20, 2) := by decide +kernel
theorem dX4_bytesFor_16 : decode cX4_bytesFor 16 = .ok (.invokestatic 70, 3) := by decide +kernel
theorem dX4_bytesFor_19 : decode cX4_bytesFor 19 = .ok (.iadd, 1) := by decide +kernel
theorem dX4_bytesFor_20 : decode cX4_bytesFor 20 = .ok (.ireturn, 1) := by decide +kernel
theorem dX4_bytesFor_21 : decode cX4_bytesFor 21 = .ok (.iconst 1, 1) := by decide +kernel
theorem dX4_bytesFor_22 : decode cX4_bytesFor 22 = .ok (.iload_n 0, 1) := by decide +kernel
theorem dX4_bytesFor_23 : decode cX4_bytesFor 23 = .ok (.iload_n 1, 1) := by decide +kernel
theorem dX4_bytesFor_24 : decode cX4_bytesFor 24 = .ok (.iconst 1, 1) := by decide +kernel
theorem dX4_bytesFor_25 : decode cX4_bytesFor 25 = .ok (.if_icmp .le 8, 3) := by decide +kernel
theorem dX4_bytesFor_28 : decode cX4_bytesFor 28 = .ok (.bipush 19, 2) := by decide +kernel
theorem dX4_bytesFor_30 : decode cX4_bytesFor 30 = .ok (.goto 5, 3) := by decide +kernel
theorem dX4_bytesFor_33 : decode cX4_bytesFor 33 = .ok (.bipush 20, 2) := by decide +kernel
theorem dX4_bytesFor_35 : decode cX4_bytesFor 35 = .ok (.invokestatic 70, 3) := by decide +kernel
theorem dX4_bytesFor_38 : decode cX4_bytesFor 38 = .ok (.iadd, 1) := by decide +kernel
theorem dX4_bytesFor_39 : decode cX4_bytesFor 39 = .ok (.ireturn, 1) := by decide +kernel
theorem dX4_bytesUp_0 : decode cX4_bytesUp 0 = .ok (.iload_n 0, 1) := by decide +kernel
theorem dX4_bytesUp_1 : decode cX4_bytesUp 1 = .ok (.iload_n 1, 1) := by decide +kernel
theorem dX4_bytesUp_2 : decode cX4_bytesUp 2 = .ok (.if_icmp .gt 5, 3) := by decide +kernel
theorem dX4_bytesUp_5 : decode cX4_bytesUp 5 = .ok (.iconst 0, 1) := by decide +kernel
theorem dX4_bytesUp_6 : decode cX4_bytesUp 6 = .ok (.ireturn, 1) := by decide +kernel
theorem dX4_bytesUp_7 : decode cX4_bytesUp 7 = .ok (.iload_n 0, 1) := by decide +kernel
theorem dX4_bytesUp_8 : decode cX4_bytesUp 8 = .ok (.bipush 17, 2) := by decide +kernel
theorem dX4_bytesUp_10 : decode cX4_bytesUp 10 = .ok (.isub, 1) := by decide +kernel
theorem dX4_bytesUp_11 : decode cX4_bytesUp 11 = .ok (.iload_n 1, 1) := by decide +kernel
theorem dX4_bytesUp_12 : decode cX4_bytesUp 12 = .ok (.if_icmp .gt 7, 3) := by decide +kernel
theorem dX4_bytesUp_15 : decode cX4_bytesUp 15 = .ok (.iconst 1, 1) := by decide +kernel
theorem dX4_bytesUp_16 : decode cX4_bytesUp 16 = .ok (.goto 4, 3) := by decide +kernel
theorem dX4_bytesUp_19 : decode cX4_bytesUp 19 = .ok (.iconst 2, 1) := by decide +kernel
theorem dX4_bytesUp_20 : decode cX4_bytesUp 20 = .ok (.ireturn, 1) := by decide +kernel
theorem dX4_leastUp_0 : decode cX4_leastUp 0 = .ok (.iconst 0, 1) := by decide +kernel
theorem dX4_leastUp_1 : decode cX4_leastUp 1 = .ok (.istore_n 3, 1) := by decide +kernel
theorem dX4_leastUp_2 : decode cX4_leastUp 2 = .ok (.iload_n 3, 1) := by decide +kernel
theorem dX4_leastUp_3 : decode cX4_leastUp 3 = .ok (.iload_n 0, 1) := by decide +kernel
theorem dX4_leastUp_4 : decode cX4_leastUp 4 = .ok (.if_icmp .gt 31, 3) := by decide +kernel
theorem dX4_leastUp_7 : decode cX4_leastUp 7 = .ok (.iload_n 3, 1) := by decide +kernel
theorem dX4_leastUp_8 : decode cX4_leastUp 8 = .ok (.sipush 255, 3) := by decide +kernel
theorem dX4_leastUp_11 : decode cX4_leastUp 11 = .ok (.if_icmp .gt 24, 3) := by decide +kernel
theorem dX4_leastUp_14 : decode cX4_leastUp 14 = .ok (.iconst 2, 1) := by decide +kernel
theorem dX4_leastUp_15 : decode cX4_leastUp 15 = .ok (.iload_n 0, 1) := by decide +kernel
theorem dX4_leastUp_16 : decode cX4_leastUp 16 = .ok (.iload_n 3, 1) := by decide +kernel
theorem dX4_leastUp_17 : decode cX4_leastUp 17 = .ok (.isub, 1) := by decide +kernel
theorem dX4_leastUp_18 : decode cX4_leastUp 18 = .ok (.iload_n 1, 1) := by decide +kernel
theorem dX4_leastUp_19 : decode cX4_leastUp 19 = .ok (.invokestatic 60, 3) := by decide +kernel
theorem dX4_leastUp_22 : decode cX4_leastUp 22 = .ok (.iadd, 1) := by decide +kernel
theorem dX4_leastUp_23 : decode cX4_leastUp 23 = .ok (.iload_n 2, 1) := by decide +kernel
theorem dX4_leastUp_24 : decode cX4_leastUp 24 = .ok (.if_icmp .ne 5, 3) := by decide +kernel
theorem dX4_leastUp_27 : decode cX4_leastUp 27 = .ok (.iload_n 3, 1) := by decide +kernel
theorem dX4_leastUp_28 : decode cX4_leastUp 28 = .ok (.ireturn, 1) := by decide +kernel
theorem dX4_leastUp_29 : decode cX4_leastUp 29 = .ok (.iinc 3 1, 3) := by decide +kernel
theorem dX4_leastUp_32 : decode cX4_leastUp 32 = .ok (.goto (-30), 3) := by decide +kernel
theorem dX4_leastUp_35 : decode cX4_leastUp 35 = .ok (.iconst (-1), 1) := by decide +kernel
theorem dX4_leastUp_36 : decode cX4_leastUp 36 = .ok (.ireturn, 1) := by decide +kernel
theorem dX4_mostRest_0 : decode cX4_mostRest 0 = .ok (.bipush 7, 2) := by decide +kernel
theorem dX4_mostRest_2 : decode cX4_mostRest 2 = .ok (.istore_n 2, 1) := by decide +kernel
theorem dX4_mostRest_3 : decode cX4_mostRest 3 = .ok (.iconst 0, 1) := by decide +kernel
theorem dX4_mostRest_4 : decode cX4_mostRest 4 = .ok (.istore_n 3, 1) := by decide +kernel
theorem dX4_mostRest_5 : decode cX4_mostRest 5 = .ok (.iload_n 3, 1) := by decide +kernel
theorem dX4_mostRest_6 : decode cX4_mostRest 6 = .ok (.bipush 12, 2) := by decide +kernel
theorem dX4_mostRest_8 : decode cX4_mostRest 8 = .ok (.if_icmp .ge 23, 3) := by decide +kernel
theorem dX4_mostRest_11 : decode cX4_mostRest 11 = .ok (.iconst 3, 1) := by decide +kernel
theorem dX4_mostRest_12 : decode cX4_mostRest 12 = .ok (.iload_n 0, 1) := by decide +kernel
theorem dX4_mostRest_13 : decode cX4_mostRest 13 = .ok (.iload_n 2, 1) := by decide +kernel
theorem dX4_mostRest_14 : decode cX4_mostRest 14 = .ok (.invokestatic 60, 3) := by decide +kernel
theorem dX4_mostRest_17 : decode cX4_mostRest 17 = .ok (.iadd, 1) := by decide +kernel
theorem dX4_mostRest_18 : decode cX4_mostRest 18 = .ok (.iload_n 1, 1) := by decide +kernel
theorem dX4_mostRest_19 : decode cX4_mostRest 19 = .ok (.if_icmp .eq 12, 3) := by decide +kernel
theorem dX4_mostRest_22 : decode cX4_mostRest 22 = .ok (.iinc 2 (-1), 3) := by decide +kernel
theorem dX4_mostRest_25 : decode cX4_mostRest 25 = .ok (.iinc 3 1, 3) := by decide +kernel
theorem dX4_mostRest_28 : decode cX4_mostRest 28 = .ok (.goto (-23), 3) := by decide +kernel
theorem dX4_mostRest_31 : decode cX4_mostRest 31 = .ok (.iload_n 2, 1) := by decide +kernel
theorem dX4_mostRest_32 : decode cX4_mostRest 32 = .ok (.ireturn, 1) := by decide +kernel
theorem dX4_unpack_0 : decode cX4_unpack 0 = .ok (.aload_n 0, 1) := by decide +kernel
theorem dX4_unpack_1 : decode cX4_unpack 1 = .ok (.getfield 23, 3) := by decide +kernel
theorem dX4_unpack_4 : decode cX4_unpack 4 = .ok (.invokevirtual 33, 3) := by decide +kernel
theorem dX4_unpack_7 : decode cX4_unpack 7 = .ok (.aload_n 0, 1) := by decide +kernel
theorem dX4_unpack_8 : decode cX4_unpack 8 = .ok (.iconst 0, 1) := by decide +kernel
theorem dX4_unpack_9 : decode cX4_unpack 9 = .ok (.putfield 26, 3) := by decide +kernel
theorem dX4_unpack_12 : decode cX4_unpack 12 = .ok (.aload_n 0, 1) := by decide +kernel
theorem dX4_unpack_13 : decode cX4_unpack 13 = .ok (.iconst 1, 1) := by decide +kernel
theorem dX4_unpack_14 : decode cX4_unpack 14 = .ok (.putfield 30, 3) := by decide +kernel
theorem dX4_unpack_17 : decode cX4_unpack 17 = .ok (.iconst 0, 1) := by decide +kernel
theorem dX4_unpack_18 : decode cX4_unpack 18 = .ok (.istore_n 2, 1) := by decide +kernel
theorem dX4_unpack_19 : decode cX4_unpack 19 = .ok (.iconst 0, 1) := by decide +kernel
theorem dX4_unpack_20 : decode cX4_unpack 20 = .ok (.istore_n 3, 1) := by decide +kernel
theorem dX4_unpack_21 : decode cX4_unpack 21 = .ok (.iload_n 3, 1) := by decide +kernel
theorem dX4_unpack_22 : decode cX4_unpack 22 = .ok (.sipush 940, 3) := by decide +kernel
theorem dX4_unpack_25 : decode cX4_unpack 25 = .ok (.if_icmp .ge 101, 3) := by decide +kernel
theorem dX4_unpack_28 : decode cX4_unpack 28 = .ok (.iload_n 2, 1) := by decide +kernel
theorem dX4_unpack_29 : decode cX4_unpack 29 = .ok (.aload_n 1, 1) := by decide +kernel
theorem dX4_unpack_30 : decode cX4_unpack 30 = .ok (.getfield 75, 3) := by decide +kernel
theorem dX4_unpack_33 : decode cX4_unpack 33 = .ok (.if_icmp .ge 93, 3) := by decide +kernel
theorem dX4_unpack_36 : decode cX4_unpack 36 = .ok (.aload_n 1, 1) := by decide +kernel
theorem dX4_unpack_37 : decode cX4_unpack 37 = .ok (.iload_n 2, 1) := by decide +kernel
theorem dX4_unpack_38 : decode cX4_unpack 38 = .ok (.invokevirtual 78, 3) := by decide +kernel
theorem dX4_unpack_41 : decode cX4_unpack 41 = .ok (.istore 4, 2) := by decide +kernel
theorem dX4_unpack_43 : decode cX4_unpack 43 = .ok (.iload 4, 2) := by decide +kernel
theorem dX4_unpack_45 : decode cX4_unpack 45 = .ok (.ifCond .ne 12, 3) := by decide +kernel
theorem dX4_unpack_48 : decode cX4_unpack 48 = .ok (.aload_n 0, 1) := by decide +kernel
theorem dX4_unpack_49 : decode cX4_unpack 49 = .ok (.aload_n 1, 1) := by decide +kernel
theorem dX4_unpack_50 : decode cX4_unpack 50 = .ok (.iload_n 2, 1) := by decide +kernel
theorem dX4_unpack_51 : decode cX4_unpack 51 = .ok (.iconst 1, 1) := by decide +kernel
theorem dX4_unpack_52 : decode cX4_unpack 52 = .ok (.iadd, 1) := by decide +kernel
theorem dX4_unpack_53 : decode cX4_unpack 53 = .ok (.invokevirtual 82, 3) := by decide +kernel
theorem dX4_unpack_56 : decode cX4_unpack 56 = .ok (.ireturn, 1) := by decide +kernel
theorem dX4_unpack_57 : decode cX4_unpack 57 = .ok (.iload 4, 2) := by decide +kernel
theorem dX4_unpack_59 : decode cX4_unpack 59 = .ok (.iconst 2, 1) := by decide +kernel
theorem dX4_unpack_60 : decode cX4_unpack 60 = .ok (.if_icmp .ne 7, 3) := by decide +kernel
theorem dX4_unpack_63 : decode cX4_unpack 63 = .ok (.iconst 2, 1) := by decide +kernel
theorem dX4_unpack_64 : decode cX4_unpack 64 = .ok (.goto 14, 3) := by decide +kernel
theorem dX4_unpack_67 : decode cX4_unpack 67 = .ok (.iload 4, 2) := by decide +kernel
theorem dX4_unpack_69 : decode cX4_unpack 69 = .ok (.iconst 3, 1) := by decide +kernel
theorem dX4_unpack_70 : decode cX4_unpack 70 = .ok (.if_icmp .ne 7, 3) := by decide +kernel
theorem dX4_unpack_73 : decode cX4_unpack 73 = .ok (.iconst 3, 1) := by decide +kernel
theorem dX4_unpack_74 : decode cX4_unpack 74 = .ok (.goto 4, 3) := by decide +kernel
theorem dX4_unpack_77 : decode cX4_unpack 77 = .ok (.iconst 1, 1) := by decide +kernel
theorem dX4_unpack_78 : decode cX4_unpack 78 = .ok (.istore 5, 2) := by decide +kernel
theorem dX4_unpack_80 : decode cX4_unpack 80 = .ok (.iload 4, 2) := by decide +kernel
theorem dX4_unpack_82 : decode cX4_unpack 82 = .ok (.iconst 4, 1) := by decide +kernel
theorem dX4_unpack_83 : decode cX4_unpack 83 = .ok (.if_icmp .le 10, 3) := by decide +kernel
theorem dX4_unpack_86 : decode cX4_unpack 86 = .ok (.iload 4, 2) := by decide +kernel
theorem dX4_unpack_88 : decode cX4_unpack 88 = .ok (.bipush 10, 2) := by decide +kernel
theorem dX4_unpack_90 : decode cX4_unpack 90 = .ok (.if_icmp .lt 23, 3) := by decide +kernel
theorem dX4_unpack_93 : decode cX4_unpack 93 = .ok (.iload_n 2, 1) := by decide +kernel
theorem dX4_unpack_94 : decode cX4_unpack 94 = .ok (.iload 5, 2) := by decide +kernel
theorem dX4_unpack_96 : decode cX4_unpack 96 = .ok (.iadd, 1) := by decide +kernel
theorem dX4_unpack_97 : decode cX4_unpack 97 = .ok (.aload_n 1, 1) := by decide +kernel
theorem dX4_unpack_98 : decode cX4_unpack 98 = .ok (.getfield 75, 3) := by decide +kernel
theorem dX4_unpack_101 : decode cX4_unpack 101 = .ok (.if_icmp .gt 12, 3) := by decide +kernel
theorem dX4_unpack_104 : decode cX4_unpack 104 = .ok (.aload_n 0, 1) := by decide +kernel
theorem dX4_unpack_105 : decode cX4_unpack 105 = .ok (.aload_n 1, 1) := by decide +kernel
theorem dX4_unpack_106 : decode cX4_unpack 106 = .ok (.iload_n 2, 1) := by decide +kernel
theorem dX4_unpack_107 : decode cX4_unpack 107 = .ok (.invokevirtual 86, 3) := by decide +kernel
theorem dX4_unpack_110 : decode cX4_unpack 110 = .ok (.ifCond .ne 5, 3) := by decide +kernel
theorem dX4_unpack_113 : decode cX4_unpack 113 = .ok (.iload_n 2, 1) := by decide +kernel
theorem dX4_unpack_114 : decode cX4_unpack 114 = .ok (.ireturn, 1) := by decide +kernel
theorem dX4_unpack_115 : decode cX4_unpack 115 = .ok (.iload_n 2, 1) := by decide +kernel
theorem dX4_unpack_116 : decode cX4_unpack 116 = .ok (.iload 5, 2) := by decide +kernel
theorem dX4_unpack_118 : decode cX4_unpack 118 = .ok (.iadd, 1) := by decide +kernel
theorem dX4_unpack_119 : decode cX4_unpack 119 = .ok (.istore_n 2, 1) := by decide +kernel
theorem dX4_unpack_120 : decode cX4_unpack 120 = .ok (.iinc 3 1, 3) := by decide +kernel
theorem dX4_unpack_123 : decode cX4_unpack 123 = .ok (.goto (-102), 3) := by decide +kernel
theorem dX4_unpack_126 : decode cX4_unpack 126 = .ok (.aload_n 1, 1) := by decide +kernel
theorem dX4_unpack_127 : decode cX4_unpack 127 = .ok (.getfield 75, 3) := by decide +kernel
theorem dX4_unpack_130 : decode cX4_unpack 130 = .ok (.ireturn, 1) := by decide +kernel
theorem dX4_unpackEnd_0 : decode cX4_unpackEnd 0 = .ok (.iload_n 2, 1) := by decide +kernel
theorem dX4_unpackEnd_1 : decode cX4_unpackEnd 1 = .ok (.aload_n 1, 1) := by decide +kernel
theorem dX4_unpackEnd_2 : decode cX4_unpackEnd 2 = .ok (.getfield 75, 3) := by decide +kernel
theorem dX4_unpackEnd_5 : decode cX4_unpackEnd 5 = .ok (.if_icmp .ge 5, 3) := by decide +kernel
theorem dX4_unpackEnd_8 : decode cX4_unpackEnd 8 = .ok (.iload_n 2, 1) := by decide +kernel
theorem dX4_unpackEnd_9 : decode cX4_unpackEnd 9 = .ok (.ireturn, 1) := by decide +kernel
theorem dX4_unpackEnd_10 : decode cX4_unpackEnd 10 = .ok (.aload_n 0, 1) := by decide +kernel
theorem dX4_unpackEnd_11 : decode cX4_unpackEnd 11 = .ok (.getfield 20, 3) := by decide +kernel
theorem dX4_unpackEnd_14 : decode cX4_unpackEnd 14 = .ok (.aload_n 0, 1) := by decide +kernel
theorem dX4_unpackEnd_15 : decode cX4_unpackEnd 15 = .ok (.getfield 23, 3) := by decide +kernel
theorem dX4_unpackEnd_18 : decode cX4_unpackEnd 18 = .ok (.invokevirtual 90, 3) := by decide +kernel
theorem dX4_unpackEnd_21 : decode cX4_unpackEnd 21 = .ok (.iconst (-1), 1) := by decide +kernel
theorem dX4_unpackEnd_22 : decode cX4_unpackEnd 22 = .ok (.ireturn, 1) := by decide +kernel
theorem dX4_unpackOp_0 : decode cX4_unpackOp 0 = .ok (.aload_n 1, 1) := by decide +kernel
theorem dX4_unpackOp_1 : decode cX4_unpackOp 1 = .ok (.iload_n 2, 1) := by decide +kernel
theorem dX4_unpackOp_2 : decode cX4_unpackOp 2 = .ok (.invokevirtual 78, 3) := by decide +kernel
theorem dX4_unpackOp_5 : decode cX4_unpackOp 5 = .ok (.istore_n 3, 1) := by decide +kernel
theorem dX4_unpackOp_6 : decode cX4_unpackOp 6 = .ok (.iload_n 3, 1) := by decide +kernel
theorem dX4_unpackOp_7 : decode cX4_unpackOp 7 = .ok (.iconst 1, 1) := by decide +kernel
theorem dX4_unpackOp_8 : decode cX4_unpackOp 8 = .ok (.if_icmp .ne 8, 3) := by decide +kernel
theorem dX4_unpackOp_11 : decode cX4_unpackOp 11 = .ok (.aload_n 0, 1) := by decide +kernel
theorem dX4_unpackOp_12 : decode cX4_unpackOp 12 = .ok (.invokevirtual 94, 3) := by decide +kernel
theorem dX4_unpackOp_15 : decode cX4_unpackOp 15 = .ok (.ireturn, 1) := by decide +kernel
theorem dX4_unpackOp_16 : decode cX4_unpackOp 16 = .ok (.iload_n 3, 1) := by decide +kernel
theorem dX4_unpackOp_17 : decode cX4_unpackOp 17 = .ok (.iconst 2, 1) := by decide +kernel
theorem dX4_unpackOp_18 : decode cX4_unpackOp 18 = .ok (.if_icmp .ne 22, 3) := by decide +kernel
theorem dX4_unpackOp_21 : decode cX4_unpackOp 21 = .ok (.aload_n 0, 1) := by decide +kernel
theorem dX4_unpackOp_22 : decode cX4_unpackOp 22 = .ok (.dup, 1) := by decide +kernel
theorem dX4_unpackOp_23 : decode cX4_unpackOp 23 = .ok (.getfield 26, 3) := by decide +kernel
theorem dX4_unpackOp_26 : decode cX4_unpackOp 26 = .ok (.aload_n 1, 1) := by decide +kernel
theorem dX4_unpackOp_27 : decode cX4_unpackOp 27 = .ok (.iload_n 2, 1) := by decide +kernel
theorem dX4_unpackOp_28 : decode cX4_unpackOp 28 = .ok (.iconst 1, 1) := by decide +kernel
theorem dX4_unpackOp_29 : decode cX4_unpackOp 29 = .ok (.iadd, 1) := by decide +kernel
theorem dX4_unpackOp_30 : decode cX4_unpackOp 30 = .ok (.invokevirtual 78, 3) := by decide +kernel
theorem dX4_unpackOp_33 : decode cX4_unpackOp 33 = .ok (.iadd, 1) := by decide +kernel
theorem dX4_unpackOp_34 : decode cX4_unpackOp 34 = .ok (.putfield 26, 3) := by decide +kernel
theorem dX4_unpackOp_37 : decode cX4_unpackOp 37 = .ok (.goto 117, 3) := by decide +kernel
theorem dX4_unpackOp_40 : decode cX4_unpackOp 40 = .ok (.iload_n 3, 1) := by decide +kernel
theorem dX4_unpackOp_41 : decode cX4_unpackOp 41 = .ok (.iconst 3, 1) := by decide +kernel
theorem dX4_unpackOp_42 : decode cX4_unpackOp 42 = .ok (.if_icmp .ne 53, 3) := by decide +kernel
theorem dX4_unpackOp_45 : decode cX4_unpackOp 45 = .ok (.aload_n 1, 1) := by decide +kernel
theorem dX4_unpackOp_46 : decode cX4_unpackOp 46 = .ok (.iload_n 2, 1) := by decide +kernel
theorem dX4_unpackOp_47 : decode cX4_unpackOp 47 = .ok (.iconst 1, 1) := by decide +kernel
theorem dX4_unpackOp_48 : decode cX4_unpackOp 48 = .ok (.iadd, 1) := by decide +kernel
theorem dX4_unpackOp_49 : decode cX4_unpackOp 49 = .ok (.invokevirtual 78, 3) := by decide +kernel
theorem dX4_unpackOp_52 : decode cX4_unpackOp 52 = .ok (.sipush 256, 3) := by decide +kernel
theorem dX4_unpackOp_55 : decode cX4_unpackOp 55 = .ok (.imul, 1) := by decide +kernel
theorem dX4_unpackOp_56 : decode cX4_unpackOp 56 = .ok (.aload_n 1, 1) := by decide +kernel
theorem dX4_unpackOp_57 : decode cX4_unpackOp 57 = .ok (.iload_n 2, 1) := by decide +kernel
theorem dX4_unpackOp_58 : decode cX4_unpackOp 58 = .ok (.iconst 2, 1) := by decide +kernel
theorem dX4_unpackOp_59 : decode cX4_unpackOp 59 = .ok (.iadd, 1) := by decide +kernel
theorem dX4_unpackOp_60 : decode cX4_unpackOp 60 = .ok (.invokevirtual 78, 3) := by decide +kernel
theorem dX4_unpackOp_63 : decode cX4_unpackOp 63 = .ok (.iadd, 1) := by decide +kernel
theorem dX4_unpackOp_64 : decode cX4_unpackOp 64 = .ok (.istore 4, 2) := by decide +kernel
theorem dX4_unpackOp_66 : decode cX4_unpackOp 66 = .ok (.aload_n 0, 1) := by decide +kernel
theorem dX4_unpackOp_67 : decode cX4_unpackOp 67 = .ok (.dup, 1) := by decide +kernel
theorem dX4_unpackOp_68 : decode cX4_unpackOp 68 = .ok (.getfield 30, 3) := by decide +kernel
theorem dX4_unpackOp_71 : decode cX4_unpackOp 71 = .ok (.iload 4, 2) := by decide +kernel
theorem dX4_unpackOp_73 : decode cX4_unpackOp 73 = .ok (.ldc 98, 2) := by decide +kernel
theorem dX4_unpackOp_75 : decode cX4_unpackOp 75 = .ok (.if_icmp .lt 11, 3) := by decide +kernel
theorem dX4_unpackOp_78 : decode cX4_unpackOp 78 = .ok (.iload 4, 2) := by decide +kernel
theorem dX4_unpackOp_80 : decode cX4_unpackOp 80 = .ok (.ldc 99, 2) := by decide +kernel
theorem dX4_unpackOp_82 : decode cX4_unpackOp 82 = .ok (.isub, 1) := by decide +kernel
theorem dX4_unpackOp_83 : decode cX4_unpackOp 83 = .ok (.goto 5, 3) := by decide +kernel
theorem dX4_unpackOp_86 : decode cX4_unpackOp 86 = .ok (.iload 4, 2) := by decide +kernel
theorem dX4_unpackOp_88 : decode cX4_unpackOp 88 = .ok (.iadd, 1) := by decide +kernel
theorem dX4_unpackOp_89 : decode cX4_unpackOp 89 = .ok (.putfield 30, 3) := by decide +kernel
theorem dX4_unpackOp_92 : decode cX4_unpackOp 92 = .ok (.goto 62, 3) := by decide +kernel
theorem dX4_unpackOp_95 : decode cX4_unpackOp 95 = .ok (.iload_n 3, 1) := by decide +kernel
theorem dX4_unpackOp_96 : decode cX4_unpackOp 96 = .ok (.iconst 4, 1) := by decide +kernel
theorem dX4_unpackOp_97 : decode cX4_unpackOp 97 = .ok (.if_icmp .ne 17, 3) := by decide +kernel
theorem dX4_unpackOp_100 : decode cX4_unpackOp 100 = .ok (.aload_n 0, 1) := by decide +kernel
theorem dX4_unpackOp_101 : decode cX4_unpackOp 101 = .ok (.dup, 1) := by decide +kernel
theorem dX4_unpackOp_102 : decode cX4_unpackOp 102 = .ok (.getfield 26, 3) := by decide +kernel
theorem dX4_unpackOp_105 : decode cX4_unpackOp 105 = .ok (.bipush 17, 2) := by decide +kernel
theorem dX4_unpackOp_107 : decode cX4_unpackOp 107 = .ok (.iadd, 1) := by decide +kernel
theorem dX4_unpackOp_108 : decode cX4_unpackOp 108 = .ok (.putfield 26, 3) := by decide +kernel
theorem dX4_unpackOp_111 : decode cX4_unpackOp 111 = .ok (.goto 43, 3) := by decide +kernel
theorem dX4_unpackOp_114 : decode cX4_unpackOp 114 = .ok (.aload_n 0, 1) := by decide +kernel
theorem dX4_unpackOp_115 : decode cX4_unpackOp 115 = .ok (.dup, 1) := by decide +kernel
theorem dX4_unpackOp_116 : decode cX4_unpackOp 116 = .ok (.getfield 26, 3) := by decide +kernel
theorem dX4_unpackOp_119 : decode cX4_unpackOp 119 = .ok (.iload_n 3, 1) := by decide +kernel
theorem dX4_unpackOp_120 : decode cX4_unpackOp 120 = .ok (.bipush 10, 2) := by decide +kernel
theorem dX4_unpackOp_122 : decode cX4_unpackOp 122 = .ok (.isub, 1) := by decide +kernel
theorem dX4_unpackOp_123 : decode cX4_unpackOp 123 = .ok (.bipush 12, 2) := by decide +kernel
theorem dX4_unpackOp_125 : decode cX4_unpackOp 125 = .ok (.idiv, 1) := by decide +kernel
theorem dX4_unpackOp_126 : decode cX4_unpackOp 126 = .ok (.iadd, 1) := by decide +kernel
theorem dX4_unpackOp_127 : decode cX4_unpackOp 127 = .ok (.putfield 26, 3) := by decide +kernel
theorem dX4_unpackOp_130 : decode cX4_unpackOp 130 = .ok (.aload_n 0, 1) := by decide +kernel
theorem dX4_unpackOp_131 : decode cX4_unpackOp 131 = .ok (.dup, 1) := by decide +kernel
theorem dX4_unpackOp_132 : decode cX4_unpackOp 132 = .ok (.getfield 30, 3) := by decide +kernel
theorem dX4_unpackOp_135 : decode cX4_unpackOp 135 = .ok (.iload_n 3, 1) := by decide +kernel
theorem dX4_unpackOp_136 : decode cX4_unpackOp 136 = .ok (.bipush 10, 2) := by decide +kernel
theorem dX4_unpackOp_138 : decode cX4_unpackOp 138 = .ok (.isub, 1) := by decide +kernel
theorem dX4_unpackOp_139 : decode cX4_unpackOp 139 = .ok (.bipush 12, 2) := by decide +kernel
theorem dX4_unpackOp_141 : decode cX4_unpackOp 141 = .ok (.irem, 1) := by decide +kernel
theorem dX4_unpackOp_142 : decode cX4_unpackOp 142 = .ok (.bipush (-4), 2) := by decide +kernel
theorem dX4_unpackOp_144 : decode cX4_unpackOp 144 = .ok (.iadd, 1) := by decide +kernel
theorem dX4_unpackOp_145 : decode cX4_unpackOp 145 = .ok (.iadd, 1) := by decide +kernel
theorem dX4_unpackOp_146 : decode cX4_unpackOp 146 = .ok (.putfield 30, 3) := by decide +kernel
theorem dX4_unpackOp_149 : decode cX4_unpackOp 149 = .ok (.aload_n 0, 1) := by decide +kernel
theorem dX4_unpackOp_150 : decode cX4_unpackOp 150 = .ok (.invokevirtual 94, 3) := by decide +kernel
theorem dX4_unpackOp_153 : decode cX4_unpackOp 153 = .ok (.ireturn, 1) := by decide +kernel
theorem dX4_unpackOp_154 : decode cX4_unpackOp 154 = .ok (.aload_n 0, 1) := by decide +kernel
theorem dX4_unpackOp_155 : decode cX4_unpackOp 155 = .ok (.getfield 26, 3) := by decide +kernel
theorem dX4_unpackOp_158 : decode cX4_unpackOp 158 = .ok (.sipush 255, 3) := by decide +kernel
theorem dX4_unpackOp_161 : decode cX4_unpackOp 161 = .ok (.if_icmp .gt 7, 3) := by decide +kernel
theorem dX4_unpackOp_164 : decode cX4_unpackOp 164 = .ok (.iconst 1, 1) := by decide +kernel
theorem dX4_unpackOp_165 : decode cX4_unpackOp 165 = .ok (.goto 4, 3) := by decide +kernel
theorem dX4_unpackOp_168 : decode cX4_unpackOp 168 = .ok (.iconst 0, 1) := by decide +kernel
theorem dX4_unpackOp_169 : decode cX4_unpackOp 169 = .ok (.ireturn, 1) := by decide +kernel
theorem dX4_unpackRow_0 : decode cX4_unpackRow 0 = .ok (.aload_n 0, 1) := by decide +kernel
theorem dX4_unpackRow_1 : decode cX4_unpackRow 1 = .ok (.getfield 23, 3) := by decide +kernel
theorem dX4_unpackRow_4 : decode cX4_unpackRow 4 = .ok (.getfield 36, 3) := by decide +kernel
theorem dX4_unpackRow_7 : decode cX4_unpackRow 7 = .ok (.ifCond .eq 27, 3) := by decide +kernel
theorem dX4_unpackRow_10 : decode cX4_unpackRow 10 = .ok (.aload_n 0, 1) := by decide +kernel
theorem dX4_unpackRow_11 : decode cX4_unpackRow 11 = .ok (.getfield 26, 3) := by decide +kernel
theorem dX4_unpackRow_14 : decode cX4_unpackRow 14 = .ok (.aload_n 0, 1) := by decide +kernel
theorem dX4_unpackRow_15 : decode cX4_unpackRow 15 = .ok (.getfield 23, 3) := by decide +kernel
theorem dX4_unpackRow_18 : decode cX4_unpackRow 18 = .ok (.aload_n 0, 1) := by decide +kernel
theorem dX4_unpackRow_19 : decode cX4_unpackRow 19 = .ok (.getfield 23, 3) := by decide +kernel
theorem dX4_unpackRow_22 : decode cX4_unpackRow 22 = .ok (.getfield 36, 3) := by decide +kernel
theorem dX4_unpackRow_25 : decode cX4_unpackRow 25 = .ok (.iconst 1, 1) := by decide +kernel
theorem dX4_unpackRow_26 : decode cX4_unpackRow 26 = .ok (.isub, 1) := by decide +kernel
theorem dX4_unpackRow_27 : decode cX4_unpackRow 27 = .ok (.iconst 0, 1) := by decide +kernel
theorem dX4_unpackRow_28 : decode cX4_unpackRow 28 = .ok (.invokevirtual 41, 3) := by decide +kernel
theorem dX4_unpackRow_31 : decode cX4_unpackRow 31 = .ok (.if_icmp .le 7, 3) := by decide +kernel
theorem dX4_unpackRow_34 : decode cX4_unpackRow 34 = .ok (.iconst 1, 1) := by decide +kernel
theorem dX4_unpackRow_35 : decode cX4_unpackRow 35 = .ok (.goto 4, 3) := by decide +kernel
theorem dX4_unpackRow_38 : decode cX4_unpackRow 38 = .ok (.iconst 0, 1) := by decide +kernel
theorem dX4_unpackRow_39 : decode cX4_unpackRow 39 = .ok (.istore_n 1, 1) := by decide +kernel
theorem dX4_unpackRow_40 : decode cX4_unpackRow 40 = .ok (.aload_n 0, 1) := by decide +kernel
theorem dX4_unpackRow_41 : decode cX4_unpackRow 41 = .ok (.getfield 30, 3) := by decide +kernel
theorem dX4_unpackRow_44 : decode cX4_unpackRow 44 = .ok (.iconst 1, 1) := by decide +kernel
theorem dX4_unpackRow_45 : decode cX4_unpackRow 45 = .ok (.if_icmp .lt 17, 3) := by decide +kernel
theorem dX4_unpackRow_48 : decode cX4_unpackRow 48 = .ok (.aload_n 0, 1) := by decide +kernel
theorem dX4_unpackRow_49 : decode cX4_unpackRow 49 = .ok (.getfield 30, 3) := by decide +kernel
theorem dX4_unpackRow_52 : decode cX4_unpackRow 52 = .ok (.sipush 250, 3) := by decide +kernel
theorem dX4_unpackRow_55 : decode cX4_unpackRow 55 = .ok (.if_icmp .gt 7, 3) := by decide +kernel
theorem dX4_unpackRow_58 : decode cX4_unpackRow 58 = .ok (.iconst 1, 1) := by decide +kernel
theorem dX4_unpackRow_59 : decode cX4_unpackRow 59 = .ok (.goto 4, 3) := by decide +kernel
theorem dX4_unpackRow_62 : decode cX4_unpackRow 62 = .ok (.iconst 0, 1) := by decide +kernel
theorem dX4_unpackRow_63 : decode cX4_unpackRow 63 = .ok (.istore_n 2, 1) := by decide +kernel
theorem dX4_unpackRow_64 : decode cX4_unpackRow 64 = .ok (.iload_n 1, 1) := by decide +kernel
theorem dX4_unpackRow_65 : decode cX4_unpackRow 65 = .ok (.ifCond .eq 27, 3) := by decide +kernel
theorem dX4_unpackRow_68 : decode cX4_unpackRow 68 = .ok (.iload_n 2, 1) := by decide +kernel
theorem dX4_unpackRow_69 : decode cX4_unpackRow 69 = .ok (.ifCond .eq 23, 3) := by decide +kernel
theorem dX4_unpackRow_72 : decode cX4_unpackRow 72 = .ok (.aload_n 0, 1) := by decide +kernel
theorem dX4_unpackRow_73 : decode cX4_unpackRow 73 = .ok (.getfield 26, 3) := by decide +kernel
theorem dX4_unpackRow_76 : decode cX4_unpackRow 76 = .ok (.sipush 255, 3) := by decide +kernel
theorem dX4_unpackRow_79 : decode cX4_unpackRow 79 = .ok (.if_icmp .gt 13, 3) := by decide +kernel
theorem dX4_unpackRow_82 : decode cX4_unpackRow 82 = .ok (.aload_n 0, 1) := by decide +kernel
theorem dX4_unpackRow_83 : decode cX4_unpackRow 83 = .ok (.getfield 23, 3) := by decide +kernel
theorem dX4_unpackRow_86 : decode cX4_unpackRow 86 = .ok (.invokevirtual 100, 3) := by decide +kernel
theorem dX4_unpackRow_89 : decode cX4_unpackRow 89 = .ok (.ifCond .eq 5, 3) := by decide +kernel
theorem dX4_unpackRow_92 : decode cX4_unpackRow 92 = .ok (.iconst 0, 1) := by decide +kernel
theorem dX4_unpackRow_93 : decode cX4_unpackRow 93 = .ok (.ireturn, 1) := by decide +kernel
theorem dX4_unpackRow_94 : decode cX4_unpackRow 94 = .ok (.aload_n 0, 1) := by decide +kernel
theorem dX4_unpackRow_95 : decode cX4_unpackRow 95 = .ok (.getfield 23, 3) := by decide +kernel
theorem dX4_unpackRow_98 : decode cX4_unpackRow 98 = .ok (.lconst 0, 1) := by decide +kernel
theorem dX4_unpackRow_99 : decode cX4_unpackRow 99 = .ok (.invokevirtual 52, 3) := by decide +kernel
theorem dX4_unpackRow_102 : decode cX4_unpackRow 102 = .ok (.istore_n 3, 1) := by decide +kernel
theorem dX4_unpackRow_103 : decode cX4_unpackRow 103 = .ok (.aload_n 0, 1) := by decide +kernel
theorem dX4_unpackRow_104 : decode cX4_unpackRow 104 = .ok (.getfield 23, 3) := by decide +kernel
theorem dX4_unpackRow_107 : decode cX4_unpackRow 107 = .ok (.iload_n 3, 1) := by decide +kernel
theorem dX4_unpackRow_108 : decode cX4_unpackRow 108 = .ok (.iconst 0, 1) := by decide +kernel
theorem dX4_unpackRow_109 : decode cX4_unpackRow 109 = .ok (.aload_n 0, 1) := by decide +kernel
theorem dX4_unpackRow_110 : decode cX4_unpackRow 110 = .ok (.getfield 26, 3) := by decide +kernel
theorem dX4_unpackRow_113 : decode cX4_unpackRow 113 = .ok (.invokevirtual 56, 3) := by decide +kernel
theorem dX4_unpackRow_116 : decode cX4_unpackRow 116 = .ok (.aload_n 0, 1) := by decide +kernel
theorem dX4_unpackRow_117 : decode cX4_unpackRow 117 = .ok (.getfield 23, 3) := by decide +kernel
theorem dX4_unpackRow_120 : decode cX4_unpackRow 120 = .ok (.iload_n 3, 1) := by decide +kernel
theorem dX4_unpackRow_121 : decode cX4_unpackRow 121 = .ok (.iconst 1, 1) := by decide +kernel
theorem dX4_unpackRow_122 : decode cX4_unpackRow 122 = .ok (.aload_n 0, 1) := by decide +kernel
theorem dX4_unpackRow_123 : decode cX4_unpackRow 123 = .ok (.getfield 30, 3) := by decide +kernel
theorem dX4_unpackRow_126 : decode cX4_unpackRow 126 = .ok (.invokevirtual 56, 3) := by decide +kernel
theorem dX4_unpackRow_129 : decode cX4_unpackRow 129 = .ok (.iconst 1, 1) := by decide +kernel
theorem dX4_unpackRow_130 : decode cX4_unpackRow 130 = .ok (.ireturn, 1) := by decide +kernel
theorem dX5_init_0 : decode cX5_init 0 = .ok (.aload_n 0, 1) := by decide +kernel
theorem dX5_init_1 : decode cX5_init 1 = .ok (.invokespecial 3, 3) := by decide +kernel
theorem dX5_init_4 : decode cX5_init 4 = .ok (.aload_n 0, 1) := by decide +kernel
theorem dX5_init_5 : decode cX5_init 5 = .ok (.iconst 0, 1) := by decide +kernel
theorem dX5_init_6 : decode cX5_init 6 = .ok (.putfield 9, 3) := by decide +kernel
theorem dX5_init_9 : decode cX5_init 9 = .ok (.aload_n 0, 1) := by decide +kernel
theorem dX5_init_10 : decode cX5_init 10 = .ok (.bipush 40, 2) := by decide +kernel
theorem dX5_init_12 : decode cX5_init 12 = .ok (.newarray .int, 2) := by decide +kernel
theorem dX5_init_14 : decode cX5_init 14 = .ok (.putfield 15, 3) := by decide +kernel
theorem dX5_init_17 : decode cX5_init 17 = .ok (.aload_n 0, 1) := by decide +kernel
theorem dX5_init_18 : decode cX5_init 18 = .ok (.bipush 40, 2) := by decide +kernel
theorem dX5_init_20 : decode cX5_init 20 = .ok (.newarray .int, 2) := by decide +kernel
theorem dX5_init_22 : decode cX5_init 22 = .ok (.putfield 19, 3) := by decide +kernel
theorem dX5_init_25 : decode cX5_init 25 = .ok (.aload_n 0, 1) := by decide +kernel
theorem dX5_init_26 : decode cX5_init 26 = .ok (.bipush 40, 2) := by decide +kernel
theorem dX5_init_28 : decode cX5_init 28 = .ok (.newarray .int, 2) := by decide +kernel
theorem dX5_init_30 : decode cX5_init 30 = .ok (.putfield 22, 3) := by decide +kernel
theorem dX5_init_33 : decode cX5_init 33 = .ok (.aload_n 0, 1) := by decide +kernel
theorem dX5_init_34 : decode cX5_init 34 = .ok (.bipush 40, 2) := by decide +kernel
theorem dX5_init_36 : decode cX5_init 36 = .ok (.newarray .boolean, 2) := by decide +kernel
theorem dX5_init_38 : decode cX5_init 38 = .ok (.putfield 25, 3) := by decide +kernel
theorem dX5_init_41 : decode cX5_init 41 = .ok (.aload_n 0, 1) := by decide +kernel
theorem dX5_init_42 : decode cX5_init 42 = .ok (.iconst 0, 1) := by decide +kernel
theorem dX5_init_43 : decode cX5_init 43 = .ok (.putfield 29, 3) := by decide +kernel
theorem dX5_init_46 : decode cX5_init 46 = .ok (.return_, 1) := by decide +kernel
theorem dX5_forget_0 : decode cX5_forget 0 = .ok (.aload_n 0, 1) := by decide +kernel
theorem dX5_forget_1 : decode cX5_forget 1 = .ok (.iconst 0, 1) := by decide +kernel
theorem dX5_forget_2 : decode cX5_forget 2 = .ok (.putfield 9, 3) := by decide +kernel
theorem dX5_forget_5 : decode cX5_forget 5 = .ok (.return_, 1) := by decide +kernel
theorem dX5_copyFrom_0 : decode cX5_copyFrom 0 = .ok (.aload_n 0, 1) := by decide +kernel
theorem dX5_copyFrom_1 : decode cX5_copyFrom 1 = .ok (.aload_n 1, 1) := by decide +kernel
theorem dX5_copyFrom_2 : decode cX5_copyFrom 2 = .ok (.getfield 9, 3) := by decide +kernel
theorem dX5_copyFrom_5 : decode cX5_copyFrom 5 = .ok (.putfield 9, 3) := by decide +kernel
theorem dX5_copyFrom_8 : decode cX5_copyFrom 8 = .ok (.aload_n 1, 1) := by decide +kernel
theorem dX5_copyFrom_9 : decode cX5_copyFrom 9 = .ok (.getfield 15, 3) := by decide +kernel
theorem dX5_copyFrom_12 : decode cX5_copyFrom 12 = .ok (.iconst 0, 1) := by decide +kernel
theorem dX5_copyFrom_13 : decode cX5_copyFrom 13 = .ok (.aload_n 0, 1) := by decide +kernel
theorem dX5_copyFrom_14 : decode cX5_copyFrom 14 = .ok (.getfield 15, 3) := by decide +kernel
theorem dX5_copyFrom_17 : decode cX5_copyFrom 17 = .ok (.iconst 0, 1) := by decide +kernel
theorem dX5_copyFrom_18 : decode cX5_copyFrom 18 = .ok (.bipush 40, 2) := by decide +kernel
theorem dX5_copyFrom_20 : decode cX5_copyFrom 20 = .ok (.invokestatic 32, 3) := by decide +kernel
theorem dX5_copyFrom_23 : decode cX5_copyFrom 23 = .ok (.aload_n 1, 1) := by decide +kernel
theorem dX5_copyFrom_24 : decode cX5_copyFrom 24 = .ok (.getfield 19, 3) := by decide +kernel
theorem dX5_copyFrom_27 : decode cX5_copyFrom 27 = .ok (.iconst 0, 1) := by decide +kernel
theorem dX5_copyFrom_28 : decode cX5_copyFrom 28 = .ok (.aload_n 0, 1) := by decide +kernel
theorem dX5_copyFrom_29 : decode cX5_copyFrom 29 = .ok (.getfield 19, 3) := by decide +kernel
theorem dX5_copyFrom_32 : decode cX5_copyFrom 32 = .ok (.iconst 0, 1) := by decide +kernel
theorem dX5_copyFrom_33 : decode cX5_copyFrom 33 = .ok (.bipush 40, 2) := by decide +kernel
theorem dX5_copyFrom_35 : decode cX5_copyFrom 35 = .ok (.invokestatic 32, 3) := by decide +kernel
theorem dX5_copyFrom_38 : decode cX5_copyFrom 38 = .ok (.aload_n 1, 1) := by decide +kernel
theorem dX5_copyFrom_39 : decode cX5_copyFrom 39 = .ok (.getfield 22, 3) := by decide +kernel
theorem dX5_copyFrom_42 : decode cX5_copyFrom 42 = .ok (.iconst 0, 1) := by decide +kernel
theorem dX5_copyFrom_43 : decode cX5_copyFrom 43 = .ok (.aload_n 0, 1) := by decide +kernel
theorem dX5_copyFrom_44 : decode cX5_copyFrom 44 = .ok (.getfield 22, 3) := by decide +kernel
theorem dX5_copyFrom_47 : decode cX5_copyFrom 47 = .ok (.iconst 0, 1) := by decide +kernel
theorem dX5_copyFrom_48 : decode cX5_copyFrom 48 = .ok (.bipush 40, 2) := by decide +kernel
theorem dX5_copyFrom_50 : decode cX5_copyFrom 50 = .ok (.invokestatic 32, 3) := by decide +kernel
theorem dX5_copyFrom_53 : decode cX5_copyFrom 53 = .ok (.return_, 1) := by decide +kernel
theorem dX5_add_0 : decode cX5_add 0 = .ok (.aload_n 0, 1) := by decide +kernel
theorem dX5_add_1 : decode cX5_add 1 = .ok (.getfield 9, 3) := by decide +kernel
theorem dX5_add_4 : decode cX5_add 4 = .ok (.bipush 40, 2) := by decide +kernel
theorem dX5_add_6 : decode cX5_add 6 = .ok (.if_icmp .ge 43, 3) := by decide +kernel
theorem dX5_add_9 : decode cX5_add 9 = .ok (.aload_n 0, 1) := by decide +kernel
theorem dX5_add_10 : decode cX5_add 10 = .ok (.getfield 15, 3) := by decide +kernel
theorem dX5_add_13 : decode cX5_add 13 = .ok (.aload_n 0, 1) := by decide +kernel
theorem dX5_add_14 : decode cX5_add 14 = .ok (.getfield 9, 3) := by decide +kernel
theorem dX5_add_17 : decode cX5_add 17 = .ok (.iload_n 1, 1) := by decide +kernel
theorem dX5_add_18 : decode cX5_add 18 = .ok (.iastore, 1) := by decide +kernel
theorem dX5_add_19 : decode cX5_add 19 = .ok (.aload_n 0, 1) := by decide +kernel
theorem dX5_add_20 : decode cX5_add 20 = .ok (.getfield 19, 3) := by decide +kernel
theorem dX5_add_23 : decode cX5_add 23 = .ok (.aload_n 0, 1) := by decide +kernel
theorem dX5_add_24 : decode cX5_add 24 = .ok (.getfield 9, 3) := by decide +kernel
theorem dX5_add_27 : decode cX5_add 27 = .ok (.iload_n 2, 1) := by decide +kernel
theorem dX5_add_28 : decode cX5_add 28 = .ok (.iastore, 1) := by decide +kernel
theorem dX5_add_29 : decode cX5_add 29 = .ok (.aload_n 0, 1) := by decide +kernel
theorem dX5_add_30 : decode cX5_add 30 = .ok (.getfield 22, 3) := by decide +kernel
theorem dX5_add_33 : decode cX5_add 33 = .ok (.aload_n 0, 1) := by decide +kernel
theorem dX5_add_34 : decode cX5_add 34 = .ok (.getfield 9, 3) := by decide +kernel
theorem dX5_add_37 : decode cX5_add 37 = .ok (.iload_n 3, 1) := by decide +kernel
theorem dX5_add_38 : decode cX5_add 38 = .ok (.iastore, 1) := by decide +kernel
theorem dX5_add_39 : decode cX5_add 39 = .ok (.aload_n 0, 1) := by decide +kernel
theorem dX5_add_40 : decode cX5_add 40 = .ok (.dup, 1) := by decide +kernel
theorem dX5_add_41 : decode cX5_add 41 = .ok (.getfield 9, 3) := by decide +kernel
theorem dX5_add_44 : decode cX5_add 44 = .ok (.iconst 1, 1) := by decide +kernel
theorem dX5_add_45 : decode cX5_add 45 = .ok (.iadd, 1) := by decide +kernel
theorem dX5_add_46 : decode cX5_add 46 = .ok (.putfield 9, 3) := by decide +kernel
theorem dX5_add_49 : decode cX5_add 49 = .ok (.return_, 1) := by decide +kernel
theorem dX5_isSaidOf_0 : decode cX5_isSaidOf 0 = .ok (.aload_n 0, 1) := by decide +kernel
theorem dX5_isSaidOf_1 : decode cX5_isSaidOf 1 = .ok (.iconst 0, 1) := by decide +kernel
theorem dX5_isSaidOf_2 : decode cX5_isSaidOf 2 = .ok (.putfield 29, 3) := by decide +kernel
theorem dX5_isSaidOf_5 : decode cX5_isSaidOf 5 = .ok (.iconst 0, 1) := by decide +kernel
theorem dX5_isSaidOf_6 : decode cX5_isSaidOf 6 = .ok (.istore 5, 2) := by decide +kernel
theorem dX5_isSaidOf_8 : decode cX5_isSaidOf 8 = .ok (.iload 5, 2) := by decide +kernel
theorem dX5_isSaidOf_10 : decode cX5_isSaidOf 10 = .ok (.aload_n 0, 1) := by decide +kernel
theorem dX5_isSaidOf_11 : decode cX5_isSaidOf 11 = .ok (.getfield 9, 3) := by decide +kernel
theorem dX5_isSaidOf_14 : decode cX5_isSaidOf 14 = .ok (.if_icmp .ge 150, 3) := by decide +kernel
theorem dX5_isSaidOf_17 : decode cX5_isSaidOf 17 = .ok (.iload 5, 2) := by decide +kernel
theorem dX5_isSaidOf_19 : decode cX5_isSaidOf 19 = .ok (.bipush 40, 2) := by decide +kernel
theorem dX5_isSaidOf_21 : decode cX5_isSaidOf 21 = .ok (.if_icmp .ge 143, 3) := by decide +kernel
theorem dX5_isSaidOf_24 : decode cX5_isSaidOf 24 = .ok (.aload_n 0, 1) := by decide +kernel
theorem dX5_isSaidOf_25 : decode cX5_isSaidOf 25 = .ok (.getfield 15, 3) := by decide +kernel
theorem dX5_isSaidOf_28 : decode cX5_isSaidOf 28 = .ok (.iload 5, 2) := by decide +kernel
theorem dX5_isSaidOf_30 : decode cX5_isSaidOf 30 = .ok (.iaload, 1) := by decide +kernel
theorem dX5_isSaidOf_31 : decode cX5_isSaidOf 31 = .ok (.bipush 27, 2) := by decide +kernel
theorem dX5_isSaidOf_33 : decode cX5_isSaidOf 33 = .ok (.if_icmp .ne 22, 3) := by decide +kernel
theorem dX5_isSaidOf_36 : decode cX5_isSaidOf 36 = .ok (.aload_n 0, 1) := by decide +kernel
theorem dX5_isSaidOf_37 : decode cX5_isSaidOf 37 = .ok (.aload_n 0, 1) := by decide +kernel
theorem dX5_isSaidOf_38 : decode cX5_isSaidOf 38 = .ok (.invokevirtual 38, 3) := by decide +kernel
theorem dX5_isSaidOf_41 : decode cX5_isSaidOf 41 = .ok (.ifCond .ne 7, 3) := by decide +kernel
theorem dX5_isSaidOf_44 : decode cX5_isSaidOf 44 = .ok (.iconst 1, 1) := by decide +kernel
theorem dX5_isSaidOf_45 : decode cX5_isSaidOf 45 = .ok (.goto 4, 3) := by decide +kernel
theorem dX5_isSaidOf_48 : decode cX5_isSaidOf 48 = .ok (.iconst 0, 1) := by decide +kernel
theorem dX5_isSaidOf_49 : decode cX5_isSaidOf 49 = .ok (.invokevirtual 42, 3) := by decide +kernel
theorem dX5_isSaidOf_52 : decode cX5_isSaidOf 52 = .ok (.goto 106, 3) := by decide +kernel
theorem dX5_isSaidOf_55 : decode cX5_isSaidOf 55 = .ok (.aload_n 0, 1) := by decide +kernel
theorem dX5_isSaidOf_56 : decode cX5_isSaidOf 56 = .ok (.getfield 15, 3) := by decide +kernel
theorem dX5_isSaidOf_59 : decode cX5_isSaidOf 59 = .ok (.iload 5, 2) := by decide +kernel
theorem dX5_isSaidOf_61 : decode cX5_isSaidOf 61 = .ok (.iaload, 1) := by decide +kernel
theorem dX5_isSaidOf_62 : decode cX5_isSaidOf 62 = .ok (.bipush 26, 2) := by decide +kernel
theorem dX5_isSaidOf_64 : decode cX5_isSaidOf 64 = .ok (.if_icmp .eq 15, 3) := by decide +kernel
theorem dX5_isSaidOf_67 : decode cX5_isSaidOf 67 = .ok (.aload_n 0, 1) := by decide +kernel
theorem dX5_isSaidOf_68 : decode cX5_isSaidOf 68 = .ok (.getfield 15, 3) := by decide +kernel
theorem dX5_isSaidOf_71 : decode cX5_isSaidOf 71 = .ok (.iload 5, 2) := by decide +kernel
theorem dX5_isSaidOf_73 : decode cX5_isSaidOf 73 = .ok (.iaload, 1) := by decide +kernel
theorem dX5_isSaidOf_74 : decode cX5_isSaidOf 74 = .ok (.bipush 25, 2) := by decide +kernel
theorem dX5_isSaidOf_76 : decode cX5_isSaidOf 76 = .ok (.if_icmp .ne 67, 3) := by decide +kernel
theorem dX5_isSaidOf_79 : decode cX5_isSaidOf 79 = .ok (.aload_n 0, 1) := by decide +kernel
theorem dX5_isSaidOf_80 : decode cX5_isSaidOf 80 = .ok (.invokevirtual 38, 3) := by decide +kernel
theorem dX5_isSaidOf_83 : decode cX5_isSaidOf 83 = .ok (.istore 6, 2) := by decide +kernel
theorem dX5_isSaidOf_85 : decode cX5_isSaidOf 85 = .ok (.aload_n 0, 1) := by decide +kernel
theorem dX5_isSaidOf_86 : decode cX5_isSaidOf 86 = .ok (.invokevirtual 38, 3) := by decide +kernel
theorem dX5_isSaidOf_89 : decode cX5_isSaidOf 89 = .ok (.istore 7, 2) := by decide +kernel
theorem dX5_isSaidOf_91 : decode cX5_isSaidOf 91 = .ok (.aload_n 0, 1) := by decide +kernel
theorem dX5_isSaidOf_92 : decode cX5_isSaidOf 92 = .ok (.aload_n 0, 1) := by decide +kernel
theorem dX5_isSaidOf_93 : decode cX5_isSaidOf 93 = .ok (.getfield 15, 3) := by decide +kernel
theorem dX5_isSaidOf_96 : decode cX5_isSaidOf 96 = .ok (.iload 5, 2) := by decide +kernel
theorem dX5_isSaidOf_98 : decode cX5_isSaidOf 98 = .ok (.iaload, 1) := by decide +kernel
theorem dX5_isSaidOf_99 : decode cX5_isSaidOf 99 = .ok (.bipush 26, 2) := by decide +kernel
theorem dX5_isSaidOf_101 : decode cX5_isSaidOf 101 = .ok (.if_icmp .ne 21, 3) := by decide +kernel
theorem dX5_isSaidOf_104 : decode cX5_isSaidOf 104 = .ok (.iload 7, 2) := by decide +kernel
theorem dX5_isSaidOf_106 : decode cX5_isSaidOf 106 = .ok (.ifCond .eq 12, 3) := by decide +kernel
theorem dX5_isSaidOf_109 : decode cX5_isSaidOf 109 = .ok (.iload 6, 2) := by decide +kernel
theorem dX5_isSaidOf_111 : decode cX5_isSaidOf 111 = .ok (.ifCond .eq 7, 3) := by decide +kernel
theorem dX5_isSaidOf_114 : decode cX5_isSaidOf 114 = .ok (.iconst 1, 1) := by decide +kernel
theorem dX5_isSaidOf_115 : decode cX5_isSaidOf 115 = .ok (.goto 22, 3) := by decide +kernel
theorem dX5_isSaidOf_118 : decode cX5_isSaidOf 118 = .ok (.iconst 0, 1) := by decide +kernel
theorem dX5_isSaidOf_119 : decode cX5_isSaidOf 119 = .ok (.goto 18, 3) := by decide +kernel
theorem dX5_isSaidOf_122 : decode cX5_isSaidOf 122 = .ok (.iload 7, 2) := by decide +kernel
theorem dX5_isSaidOf_124 : decode cX5_isSaidOf 124 = .ok (.ifCond .ne 8, 3) := by decide +kernel
theorem dX5_isSaidOf_127 : decode cX5_isSaidOf 127 = .ok (.iload 6, 2) := by decide +kernel
theorem dX5_isSaidOf_129 : decode cX5_isSaidOf 129 = .ok (.ifCond .eq 7, 3) := by decide +kernel
theorem dX5_isSaidOf_132 : decode cX5_isSaidOf 132 = .ok (.iconst 1, 1) := by decide +kernel
theorem dX5_isSaidOf_133 : decode cX5_isSaidOf 133 = .ok (.goto 4, 3) := by decide +kernel
theorem dX5_isSaidOf_136 : decode cX5_isSaidOf 136 = .ok (.iconst 0, 1) := by decide +kernel
theorem dX5_isSaidOf_137 : decode cX5_isSaidOf 137 = .ok (.invokevirtual 42, 3) := by decide +kernel
theorem dX5_isSaidOf_140 : decode cX5_isSaidOf 140 = .ok (.goto 18, 3) := by decide +kernel
theorem dX5_isSaidOf_143 : decode cX5_isSaidOf 143 = .ok (.aload_n 0, 1) := by decide +kernel
theorem dX5_isSaidOf_144 : decode cX5_isSaidOf 144 = .ok (.aload_n 0, 1) := by decide +kernel
theorem dX5_isSaidOf_145 : decode cX5_isSaidOf 145 = .ok (.aload_n 1, 1) := by decide +kernel
theorem dX5_isSaidOf_146 : decode cX5_isSaidOf 146 = .ok (.aload_n 2, 1) := by decide +kernel
theorem dX5_isSaidOf_147 : decode cX5_isSaidOf 147 = .ok (.aload_n 3, 1) := by decide +kernel
theorem dX5_isSaidOf_148 : decode cX5_isSaidOf 148 = .ok (.iload 4, 2) := by decide +kernel
theorem dX5_isSaidOf_150 : decode cX5_isSaidOf 150 = .ok (.iload 5, 2) := by decide +kernel
theorem dX5_isSaidOf_152 : decode cX5_isSaidOf 152 = .ok (.invokevirtual 46, 3) := by decide +kernel
theorem dX5_isSaidOf_155 : decode cX5_isSaidOf 155 = .ok (.invokevirtual 42, 3) := by decide +kernel
theorem dX5_isSaidOf_158 : decode cX5_isSaidOf 158 = .ok (.iinc 5 1, 3) := by decide +kernel
theorem dX5_isSaidOf_161 : decode cX5_isSaidOf 161 = .ok (.goto (-153), 3) := by decide +kernel
theorem dX5_isSaidOf_164 : decode cX5_isSaidOf 164 = .ok (.aload_n 0, 1) := by decide +kernel
theorem dX5_isSaidOf_165 : decode cX5_isSaidOf 165 = .ok (.invokevirtual 38, 3) := by decide +kernel
theorem dX5_isSaidOf_168 : decode cX5_isSaidOf 168 = .ok (.ireturn, 1) := by decide +kernel
theorem dX5_push_0 : decode cX5_push 0 = .ok (.aload_n 0, 1) := by decide +kernel
theorem dX5_push_1 : decode cX5_push 1 = .ok (.getfield 29, 3) := by decide +kernel
theorem dX5_push_4 : decode cX5_push 4 = .ok (.bipush 40, 2) := by decide +kernel
theorem dX5_push_6 : decode cX5_push 6 = .ok (.if_icmp .ge 23, 3) := by decide +kernel
theorem dX5_push_9 : decode cX5_push 9 = .ok (.aload_n 0, 1) := by decide +kernel
theorem dX5_push_10 : decode cX5_push 10 = .ok (.getfield 25, 3) := by decide +kernel
theorem dX5_push_13 : decode cX5_push 13 = .ok (.aload_n 0, 1) := by decide +kernel
theorem dX5_push_14 : decode cX5_push 14 = .ok (.getfield 29, 3) := by decide +kernel
theorem dX5_push_17 : decode cX5_push 17 = .ok (.iload_n 1, 1) := by decide +kernel
theorem dX5_push_18 : decode cX5_push 18 = .ok (.bastore, 1) := by decide +kernel
theorem dX5_push_19 : decode cX5_push 19 = .ok (.aload_n 0, 1) := by decide +kernel
theorem dX5_push_20 : decode cX5_push 20 = .ok (.dup, 1) := by decide +kernel
theorem dX5_push_21 : decode cX5_push 21 = .ok (.getfield 29, 3) := by decide +kernel
theorem dX5_push_24 : decode cX5_push 24 = .ok (.iconst 1, 1) := by decide +kernel
theorem dX5_push_25 : decode cX5_push 25 = .ok (.iadd, 1) := by decide +kernel
theorem dX5_push_26 : decode cX5_push 26 = .ok (.putfield 29, 3) := by decide +kernel
theorem dX5_push_29 : decode cX5_push 29 = .ok (.return_, 1) := by decide +kernel
theorem dX5_pop_0 : decode cX5_pop 0 = .ok (.aload_n 0, 1) := by decide +kernel
theorem dX5_pop_1 : decode cX5_pop 1 = .ok (.getfield 29, 3) := by decide +kernel
theorem dX5_pop_4 : decode cX5_pop 4 = .ok (.ifCond .gt 5, 3) := by decide +kernel
theorem dX5_pop_7 : decode cX5_pop 7 = .ok (.iconst 0, 1) := by decide +kernel
theorem dX5_pop_8 : decode cX5_pop 8 = .ok (.ireturn, 1) := by decide +kernel
theorem dX5_pop_9 : decode cX5_pop 9 = .ok (.aload_n 0, 1) := by decide +kernel
theorem dX5_pop_10 : decode cX5_pop 10 = .ok (.dup, 1) := by decide +kernel
theorem dX5_pop_11 : decode cX5_pop 11 = .ok (.getfield 29, 3) := by decide +kernel
theorem dX5_pop_14 : decode cX5_pop 14 = .ok (.iconst 1, 1) := by decide +kernel
theorem dX5_pop_15 : decode cX5_pop 15 = .ok (.isub, 1) := by decide +kernel
theorem dX5_pop_16 : decode cX5_pop 16 = .ok (.putfield 29, 3) := by decide +kernel
theorem dX5_pop_19 : decode cX5_pop 19 = .ok (.aload_n 0, 1) := by decide +kernel
theorem dX5_pop_20 : decode cX5_pop 20 = .ok (.getfield 25, 3) := by decide +kernel
theorem dX5_pop_23 : decode cX5_pop 23 = .ok (.aload_n 0, 1) := by decide +kernel
theorem dX5_pop_24 : decode cX5_pop 24 = .ok (.getfield 29, 3) := by decide +kernel
theorem dX5_pop_27 : decode cX5_pop 27 = .ok (.baload, 1) := by decide +kernel
theorem dX5_pop_28 : decode cX5_pop 28 = .ok (.ireturn, 1) := by decide +kernel
theorem dX5_isOne_0 : decode cX5_isOne 0 = .ok (.aload_n 1, 1) := by decide +kernel
theorem dX5_isOne_1 : decode cX5_isOne 1 = .ok (.getfield 50, 3) := by decide +kernel
theorem dX5_isOne_4 : decode cX5_isOne 4 = .ok (.iload 4, 2) := by decide +kernel
theorem dX5_isOne_6 : decode cX5_isOne 6 = .ok (.iconst 0, 1) := by decide +kernel
theorem dX5_isOne_7 : decode cX5_isOne 7 = .ok (.invokevirtual 56, 3) := by decide +kernel
theorem dX5_isOne_10 : decode cX5_isOne 10 = .ok (.istore 6, 2) := by decide +kernel
theorem dX5_isOne_12 : decode cX5_isOne 12 = .ok (.aload_n 1, 1) := by decide +kernel
theorem dX5_isOne_13 : decode cX5_isOne 13 = .ok (.getfield 50, 3) := by decide +kernel
theorem dX5_isOne_16 : decode cX5_isOne 16 = .ok (.iload 4, 2) := by decide +kernel
theorem dX5_isOne_18 : decode cX5_isOne 18 = .ok (.iconst 1, 1) := by decide +kernel
theorem dX5_isOne_19 : decode cX5_isOne 19 = .ok (.invokevirtual 56, 3) := by decide +kernel
theorem dX5_isOne_22 : decode cX5_isOne 22 = .ok (.istore 7, 2) := by decide +kernel
theorem dX5_isOne_24 : decode cX5_isOne 24 = .ok (.aload_n 0, 1) := by decide +kernel
theorem dX5_isOne_25 : decode cX5_isOne 25 = .ok (.getfield 15, 3) := by decide +kernel
theorem dX5_isOne_28 : decode cX5_isOne 28 = .ok (.iload 5, 2) := by decide +kernel
theorem dX5_isOne_30 : decode cX5_isOne 30 = .ok (.iaload, 1) := by decide +kernel
theorem dX5_isOne_31 : decode cX5_isOne 31 = .ok (.lookupswitch 195 #[(7, 97), (9, 161), (28, 65), (29, 86), (30, 117), (31, 131), (32, 148)], 65) := by decide +kernel
theorem dX5_isOne_96 : decode cX5_isOne 96 = .ok (.aload_n 3, 1) := by decide +kernel
theorem dX5_isOne_97 : decode cX5_isOne 97 = .ok (.aload_n 1, 1) := by decide +kernel
theorem dX5_isOne_98 : decode cX5_isOne 98 = .ok (.aload_n 2, 1) := by decide +kernel
theorem dX5_isOne_99 : decode cX5_isOne 99 = .ok (.iload 4, 2) := by decide +kernel
theorem dX5_isOne_101 : decode cX5_isOne 101 = .ok (.aload_n 2, 1) := by decide +kernel
theorem dX5_isOne_102 : decode cX5_isOne 102 = .ok (.getfield 62, 3) := by decide +kernel
theorem dX5_isOne_105 : decode cX5_isOne 105 = .ok (.invokevirtual 67, 3) := by decide +kernel
theorem dX5_isOne_108 : decode cX5_isOne 108 = .ok (.ifCond .ne 7, 3) := by decide +kernel
theorem dX5_isOne_111 : decode cX5_isOne 111 = .ok (.iconst 1, 1) := by decide +kernel
theorem dX5_isOne_112 : decode cX5_isOne 112 = .ok (.goto 4, 3) := by decide +kernel
theorem dX5_isOne_115 : decode cX5_isOne 115 = .ok (.iconst 0, 1) := by decide +kernel
theorem dX5_isOne_116 : decode cX5_isOne 116 = .ok (.ireturn, 1) := by decide +kernel
theorem dX5_isOne_117 : decode cX5_isOne 117 = .ok (.aload_n 1, 1) := by decide +kernel
theorem dX5_isOne_118 : decode cX5_isOne 118 = .ok (.iload 6, 2) := by decide +kernel
theorem dX5_isOne_120 : decode cX5_isOne 120 = .ok (.aload_n 2, 1) := by decide +kernel
theorem dX5_isOne_121 : decode cX5_isOne 121 = .ok (.getfield 62, 3) := by decide +kernel
theorem dX5_isOne_124 : decode cX5_isOne 124 = .ok (.invokevirtual 73, 3) := by decide +kernel
theorem dX5_isOne_127 : decode cX5_isOne 127 = .ok (.ireturn, 1) := by decide +kernel
theorem dX5_isOne_128 : decode cX5_isOne 128 = .ok (.aload_n 1, 1) := by decide +kernel
theorem dX5_isOne_129 : decode cX5_isOne 129 = .ok (.getfield 77, 3) := by decide +kernel
theorem dX5_isOne_132 : decode cX5_isOne 132 = .ok (.iload 7, 2) := by decide +kernel
theorem dX5_isOne_134 : decode cX5_isOne 134 = .ok (.iconst 2, 1) := by decide +kernel
theorem dX5_isOne_135 : decode cX5_isOne 135 = .ok (.invokevirtual 56, 3) := by decide +kernel
theorem dX5_isOne_138 : decode cX5_isOne 138 = .ok (.iconst 1, 1) := by decide +kernel
theorem dX5_isOne_139 : decode cX5_isOne 139 = .ok (.if_icmp .ne 7, 3) := by decide +kernel
theorem dX5_isOne_142 : decode cX5_isOne 142 = .ok (.iconst 1, 1) := by decide +kernel
theorem dX5_isOne_143 : decode cX5_isOne 143 = .ok (.goto 4, 3) := by decide +kernel
theorem dX5_isOne_146 : decode cX5_isOne 146 = .ok (.iconst 0, 1) := by decide +kernel
theorem dX5_isOne_147 : decode cX5_isOne 147 = .ok (.ireturn, 1) := by decide +kernel
theorem dX5_isOne_148 : decode cX5_isOne 148 = .ok (.aload_n 1, 1) := by decide +kernel
theorem dX5_isOne_149 : decode cX5_isOne 149 = .ok (.iload 6, 2) := by decide +kernel
theorem dX5_isOne_151 : decode cX5_isOne 151 = .ok (.aload_n 0, 1) := by decide +kernel
theorem dX5_isOne_152 : decode cX5_isOne 152 = .ok (.getfield 22, 3) := by decide +kernel
theorem dX5_isOne_155 : decode cX5_isOne 155 = .ok (.iload 5, 2) := by decide +kernel
theorem dX5_isOne_157 : decode cX5_isOne 157 = .ok (.iaload, 1) := by decide +kernel
theorem dX5_isOne_158 : decode cX5_isOne 158 = .ok (.invokevirtual 80, 3) := by decide +kernel
theorem dX5_isOne_161 : decode cX5_isOne 161 = .ok (.ireturn, 1) := by decide +kernel
theorem dX5_isOne_162 : decode cX5_isOne 162 = .ok (.aload_n 0, 1) := by decide +kernel
theorem dX5_isOne_163 : decode cX5_isOne 163 = .ok (.aload_n 1, 1) := by decide +kernel
theorem dX5_isOne_164 : decode cX5_isOne 164 = .ok (.getfield 77, 3) := by decide +kernel
theorem dX5_isOne_167 : decode cX5_isOne 167 = .ok (.iload 7, 2) := by decide +kernel
theorem dX5_isOne_169 : decode cX5_isOne 169 = .ok (.iconst 1, 1) := by decide +kernel
theorem dX5_isOne_170 : decode cX5_isOne 170 = .ok (.invokevirtual 56, 3) := by decide +kernel
theorem dX5_isOne_173 : decode cX5_isOne 173 = .ok (.iload 5, 2) := by decide +kernel
theorem dX5_isOne_175 : decode cX5_isOne 175 = .ok (.invokevirtual 83, 3) := by decide +kernel
theorem dX5_isOne_178 : decode cX5_isOne 178 = .ok (.ireturn, 1) := by decide +kernel
theorem dX5_isOne_179 : decode cX5_isOne 179 = .ok (.aload_n 0, 1) := by decide +kernel
theorem dX5_isOne_180 : decode cX5_isOne 180 = .ok (.aload_n 1, 1) := by decide +kernel
theorem dX5_isOne_181 : decode cX5_isOne 181 = .ok (.iload 4, 2) := by decide +kernel
theorem dX5_isOne_183 : decode cX5_isOne 183 = .ok (.invokevirtual 86, 3) := by decide +kernel
theorem dX5_isOne_186 : decode cX5_isOne 186 = .ok (.iload 5, 2) := by decide +kernel
theorem dX5_isOne_188 : decode cX5_isOne 188 = .ok (.invokevirtual 83, 3) := by decide +kernel
theorem dX5_isOne_191 : decode cX5_isOne 191 = .ok (.ireturn, 1) := by decide +kernel
theorem dX5_isOne_192 : decode cX5_isOne 192 = .ok (.aload_n 3, 1) := by decide +kernel
theorem dX5_isOne_193 : decode cX5_isOne 193 = .ok (.aload_n 1, 1) := by decide +kernel
theorem dX5_isOne_194 : decode cX5_isOne 194 = .ok (.aload_n 2, 1) := by decide +kernel
theorem dX5_isOne_195 : decode cX5_isOne 195 = .ok (.iload 4, 2) := by decide +kernel
theorem dX5_isOne_197 : decode cX5_isOne 197 = .ok (.aload_n 2, 1) := by decide +kernel
theorem dX5_isOne_198 : decode cX5_isOne 198 = .ok (.getfield 62, 3) := by decide +kernel
theorem dX5_isOne_201 : decode cX5_isOne 201 = .ok (.invokevirtual 67, 3) := by decide +kernel
theorem dX5_isOne_204 : decode cX5_isOne 204 = .ok (.ifCond .ne 20, 3) := by decide +kernel
theorem dX5_isOne_207 : decode cX5_isOne 207 = .ok (.aload_n 0, 1) := by decide +kernel
theorem dX5_isOne_208 : decode cX5_isOne 208 = .ok (.aload_n 3, 1) := by decide +kernel
theorem dX5_isOne_209 : decode cX5_isOne 209 = .ok (.getfield 90, 3) := by decide +kernel
theorem dX5_isOne_212 : decode cX5_isOne 212 = .ok (.iload 5, 2) := by decide +kernel
theorem dX5_isOne_214 : decode cX5_isOne 214 = .ok (.invokevirtual 83, 3) := by decide +kernel
theorem dX5_isOne_217 : decode cX5_isOne 217 = .ok (.ifCond .eq 7, 3) := by decide +kernel
theorem dX5_isOne_220 : decode cX5_isOne 220 = .ok (.iconst 1, 1) := by decide +kernel
theorem dX5_isOne_221 : decode cX5_isOne 221 = .ok (.goto 4, 3) := by decide +kernel
theorem dX5_isOne_224 : decode cX5_isOne 224 = .ok (.iconst 0, 1) := by decide +kernel
theorem dX5_isOne_225 : decode cX5_isOne 225 = .ok (.ireturn, 1) := by decide +kernel
theorem dX5_isOne_226 : decode cX5_isOne 226 = .ok (.aload_n 0, 1) := by decide +kernel
theorem dX5_isOne_227 : decode cX5_isOne 227 = .ok (.iload 4, 2) := by decide +kernel
theorem dX5_isOne_229 : decode cX5_isOne 229 = .ok (.iload 5, 2) := by decide +kernel
theorem dX5_isOne_231 : decode cX5_isOne 231 = .ok (.invokevirtual 83, 3) := by decide +kernel
theorem dX5_isOne_234 : decode cX5_isOne 234 = .ok (.ireturn, 1) := by decide +kernel
theorem dX5_isSo_0 : decode cX5_isSo 0 = .ok (.aload_n 0, 1) := by decide +kernel
theorem dX5_isSo_1 : decode cX5_isSo 1 = .ok (.getfield 19, 3) := by decide +kernel
theorem dX5_isSo_4 : decode cX5_isSo 4 = .ok (.iload_n 2, 1) := by decide +kernel
theorem dX5_isSo_5 : decode cX5_isSo 5 = .ok (.iaload, 1) := by decide +kernel
theorem dX5_isSo_6 : decode cX5_isSo 6 = .ok (.bipush 60, 2) := by decide +kernel
theorem dX5_isSo_8 : decode cX5_isSo 8 = .ok (.if_icmp .ne 19, 3) := by decide +kernel
theorem dX5_isSo_11 : decode cX5_isSo 11 = .ok (.iload_n 1, 1) := by decide +kernel
theorem dX5_isSo_12 : decode cX5_isSo 12 = .ok (.aload_n 0, 1) := by decide +kernel
theorem dX5_isSo_13 : decode cX5_isSo 13 = .ok (.getfield 22, 3) := by decide +kernel
theorem dX5_isSo_16 : decode cX5_isSo 16 = .ok (.iload_n 2, 1) := by decide +kernel
theorem dX5_isSo_17 : decode cX5_isSo 17 = .ok (.iaload, 1) := by decide +kernel
theorem dX5_isSo_18 : decode cX5_isSo 18 = .ok (.if_icmp .ge 7, 3) := by decide +kernel
theorem dX5_isSo_21 : decode cX5_isSo 21 = .ok (.iconst 1, 1) := by decide +kernel
theorem dX5_isSo_22 : decode cX5_isSo 22 = .ok (.goto 4, 3) := by decide +kernel
theorem dX5_isSo_25 : decode cX5_isSo 25 = .ok (.iconst 0, 1) := by decide +kernel
theorem dX5_isSo_26 : decode cX5_isSo 26 = .ok (.ireturn, 1) := by decide +kernel
theorem dX5_isSo_27 : decode cX5_isSo 27 = .ok (.aload_n 0, 1) := by decide +kernel
theorem dX5_isSo_28 : decode cX5_isSo 28 = .ok (.getfield 19, 3) := by decide +kernel
theorem dX5_isSo_31 : decode cX5_isSo 31 = .ok (.iload_n 2, 1) := by decide +kernel
theorem dX5_isSo_32 : decode cX5_isSo 32 = .ok (.iaload, 1) := by decide +kernel
theorem dX5_isSo_33 : decode cX5_isSo 33 = .ok (.bipush 62, 2) := by decide +kernel
theorem dX5_isSo_35 : decode cX5_isSo 35 = .ok (.if_icmp .ne 21, 3) := by decide +kernel
theorem dX5_isSo_38 : decode cX5_isSo 38 = .ok (.iload_n 1, 1) := by decide +kernel
theorem dX5_isSo_39 : decode cX5_isSo 39 = .ok (.aload_n 0, 1) := by decide +kernel
theorem dX5_isSo_40 : decode cX5_isSo 40 = .ok (.getfield 22, 3) := by decide +kernel
theorem dX5_isSo_43 : decode cX5_isSo 43 = .ok (.iload_n 2, 1) := by decide +kernel
theorem dX5_isSo_44 : decode cX5_isSo 44 = .ok (.iaload, 1) := by decide +kernel
theorem dX5_isSo_45 : decode cX5_isSo 45 = .ok (.if_icmp .le 7, 3) := by decide +kernel
theorem dX5_isSo_48 : decode cX5_isSo 48 = .ok (.iconst 1, 1) := by decide +kernel
theorem dX5_isSo_49 : decode cX5_isSo 49 = .ok (.goto 22, 3) := by decide +kernel
theorem dX5_isSo_52 : decode cX5_isSo 52 = .ok (.iconst 0, 1) := by decide +kernel
theorem dX5_isSo_53 : decode cX5_isSo 53 = .ok (.goto 18, 3) := by decide +kernel
theorem dX5_isSo_56 : decode cX5_isSo 56 = .ok (.iload_n 1, 1) := by decide +kernel
theorem dX5_isSo_57 : decode cX5_isSo 57 = .ok (.aload_n 0, 1) := by decide +kernel
theorem dX5_isSo_58 : decode cX5_isSo 58 = .ok (.getfield 22, 3) := by decide +kernel
theorem dX5_isSo_61 : decode cX5_isSo 61 = .ok (.iload_n 2, 1) := by decide +kernel
theorem dX5_isSo_62 : decode cX5_isSo 62 = .ok (.iaload, 1) := by decide +kernel
theorem dX5_isSo_63 : decode cX5_isSo 63 = .ok (.if_icmp .ne 7, 3) := by decide +kernel
theorem dX5_isSo_66 : decode cX5_isSo 66 = .ok (.iconst 1, 1) := by decide +kernel
theorem dX5_isSo_67 : decode cX5_isSo 67 = .ok (.goto 4, 3) := by decide +kernel
theorem dX5_isSo_70 : decode cX5_isSo 70 = .ok (.iconst 0, 1) := by decide +kernel
theorem dX5_isSo_71 : decode cX5_isSo 71 = .ok (.ireturn, 1) := by decide +kernel
theorem dX6_init_0 : decode cX6_init 0 = .ok (.aload_n 0, 1) := by decide +kernel
theorem dX6_init_1 : decode cX6_init 1 = .ok (.invokespecial 3, 3) := by decide +kernel
theorem dX6_init_4 : decode cX6_init 4 = .ok (.aload_n 0, 1) := by decide +kernel
theorem dX6_init_5 : decode cX6_init 5 = .ok (.new 9, 3) := by decide +kernel
theorem dX6_init_8 : decode cX6_init 8 = .ok (.dup, 1) := by decide +kernel
theorem dX6_init_9 : decode cX6_init 9 = .ok (.invokespecial 11, 3) := by decide +kernel
theorem dX6_init_12 : decode cX6_init 12 = .ok (.putfield 12, 3) := by decide +kernel
theorem dX6_init_15 : decode cX6_init 15 = .ok (.aload_n 0, 1) := by decide +kernel
theorem dX6_init_16 : decode cX6_init 16 = .ok (.iconst 0, 1) := by decide +kernel
theorem dX6_init_17 : decode cX6_init 17 = .ok (.putfield 18, 3) := by decide +kernel
theorem dX6_init_20 : decode cX6_init 20 = .ok (.return_, 1) := by decide +kernel
theorem dX6_readSentence_0 : decode cX6_readSentence 0 = .ok (.aload_n 0, 1) := by decide +kernel
theorem dX6_readSentence_1 : decode cX6_readSentence 1 = .ok (.getfield 12, 3) := by decide +kernel
theorem dX6_readSentence_4 : decode cX6_readSentence 4 = .ok (.invokevirtual 22, 3) := by decide +kernel
theorem dX6_readSentence_7 : decode cX6_readSentence 7 = .ok (.aload_n 0, 1) := by decide +kernel
theorem dX6_readSentence_8 : decode cX6_readSentence 8 = .ok (.iconst 0, 1) := by decide +kernel
theorem dX6_readSentence_9 : decode cX6_readSentence 9 = .ok (.putfield 18, 3) := by decide +kernel
theorem dX6_readSentence_12 : decode cX6_readSentence 12 = .ok (.aload_n 1, 1) := by decide +kernel
theorem dX6_readSentence_13 : decode cX6_readSentence 13 = .ok (.sipush 200, 3) := by decide +kernel
theorem dX6_readSentence_16 : decode cX6_readSentence 16 = .ok (.invokevirtual 25, 3) := by decide +kernel
theorem dX6_readSentence_19 : decode cX6_readSentence 19 = .ok (.aload_n 0, 1) := by decide +kernel
theorem dX6_readSentence_20 : decode cX6_readSentence 20 = .ok (.aload_n 1, 1) := by decide +kernel
theorem dX6_readSentence_21 : decode cX6_readSentence 21 = .ok (.aload_n 2, 1) := by decide +kernel
theorem dX6_readSentence_22 : decode cX6_readSentence 22 = .ok (.iconst 1, 1) := by decide +kernel
theorem dX6_readSentence_23 : decode cX6_readSentence 23 = .ok (.invokevirtual 31, 3) := by decide +kernel
theorem dX6_readSentence_26 : decode cX6_readSentence 26 = .ok (.ifCond .eq 16, 3) := by decide +kernel
theorem dX6_readSentence_29 : decode cX6_readSentence 29 = .ok (.aload_n 1, 1) := by decide +kernel
theorem dX6_readSentence_30 : decode cX6_readSentence 30 = .ok (.getfield 35, 3) := by decide +kernel
theorem dX6_readSentence_33 : decode cX6_readSentence 33 = .ok (.ifCond .eq 9, 3) := by decide +kernel
theorem dX6_readSentence_36 : decode cX6_readSentence 36 = .ok (.aload_n 1, 1) := by decide +kernel
theorem dX6_readSentence_37 : decode cX6_readSentence 37 = .ok (.iconst 1, 1) := by decide +kernel
theorem dX6_readSentence_38 : decode cX6_readSentence 38 = .ok (.invokevirtual 38, 3) := by decide +kernel
theorem dX6_readSentence_41 : decode cX6_readSentence 41 = .ok (.pop, 1) := by decide +kernel
theorem dX6_readSentence_42 : decode cX6_readSentence 42 = .ok (.aload_n 0, 1) := by decide +kernel
theorem dX6_readSentence_43 : decode cX6_readSentence 43 = .ok (.getfield 18, 3) := by decide +kernel
theorem dX6_readSentence_46 : decode cX6_readSentence 46 = .ok (.ireturn, 1) := by decide +kernel
theorem dX6_readCond_0 : decode cX6_readCond 0 = .ok (.iconst 0, 1) := by decide +kernel
theorem dX6_readCond_1 : decode cX6_readCond 1 = .ok (.istore 4, 2) := by decide +kernel
theorem dX6_readCond_3 : decode cX6_readCond 3 = .ok (.iconst 0, 1) := by decide +kernel
theorem dX6_readCond_4 : decode cX6_readCond 4 = .ok (.istore 5, 2) := by decide +kernel
theorem dX6_readCond_6 : decode cX6_readCond 6 = .ok (.iconst 0, 1) := by decide +kernel
theorem dX6_readCond_7 : decode cX6_readCond 7 = .ok (.istore 6, 2) := by decide +kernel
theorem dX6_readCond_9 : decode cX6_readCond 9 = .ok (.iload 6, 2) := by decide +kernel
theorem dX6_readCond_11 : decode cX6_readCond 11 = .ok (.bipush 20, 2) := by decide +kernel
theorem dX6_readCond_13 : decode cX6_readCond 13 = .ok (.if_icmp .gt 111, 3) := by decide +kernel
theorem dX6_readCond_16 : decode cX6_readCond 16 = .ok (.aload_n 0, 1) := by decide +kernel
theorem dX6_readCond_17 : decode cX6_readCond 17 = .ok (.aload_n 1, 1) := by decide +kernel
theorem dX6_readCond_18 : decode cX6_readCond 18 = .ok (.aload_n 2, 1) := by decide +kernel
theorem dX6_readCond_19 : decode cX6_readCond 19 = .ok (.iload_n 3, 1) := by decide +kernel
theorem dX6_readCond_20 : decode cX6_readCond 20 = .ok (.invokevirtual 42, 3) := by decide +kernel
theorem dX6_readCond_23 : decode cX6_readCond 23 = .ok (.ifCond .ne 5, 3) := by decide +kernel
theorem dX6_readCond_26 : decode cX6_readCond 26 = .ok (.iconst 0, 1) := by decide +kernel
theorem dX6_readCond_27 : decode cX6_readCond 27 = .ok (.ireturn, 1) := by decide +kernel
theorem dX6_readCond_28 : decode cX6_readCond 28 = .ok (.iload 4, 2) := by decide +kernel
theorem dX6_readCond_30 : decode cX6_readCond 30 = .ok (.ifCond .eq 14, 3) := by decide +kernel
theorem dX6_readCond_33 : decode cX6_readCond 33 = .ok (.aload_n 0, 1) := by decide +kernel
theorem dX6_readCond_34 : decode cX6_readCond 34 = .ok (.getfield 12, 3) := by decide +kernel
theorem dX6_readCond_37 : decode cX6_readCond 37 = .ok (.bipush 26, 2) := by decide +kernel
theorem dX6_readCond_39 : decode cX6_readCond 39 = .ok (.iconst 0, 1) := by decide +kernel
theorem dX6_readCond_40 : decode cX6_readCond 40 = .ok (.iconst 0, 1) := by decide +kernel
theorem dX6_readCond_41 : decode cX6_readCond 41 = .ok (.invokevirtual 45, 3) := by decide +kernel
theorem dX6_readCond_44 : decode cX6_readCond 44 = .ok (.aload_n 1, 1) := by decide +kernel
theorem dX6_readCond_45 : decode cX6_readCond 45 = .ok (.invokevirtual 49, 3) := by decide +kernel
theorem dX6_readCond_48 : decode cX6_readCond 48 = .ok (.bipush 26, 2) := by decide +kernel
theorem dX6_readCond_50 : decode cX6_readCond 50 = .ok (.if_icmp .ne 7, 3) := by decide +kernel
theorem dX6_readCond_53 : decode cX6_readCond 53 = .ok (.iconst 1, 1) := by decide +kernel
theorem dX6_readCond_54 : decode cX6_readCond 54 = .ok (.goto 4, 3) := by decide +kernel
theorem dX6_readCond_57 : decode cX6_readCond 57 = .ok (.iconst 0, 1) := by decide +kernel
theorem dX6_readCond_58 : decode cX6_readCond 58 = .ok (.istore 4, 2) := by decide +kernel
theorem dX6_readCond_60 : decode cX6_readCond 60 = .ok (.iload 4, 2) := by decide +kernel
theorem dX6_readCond_62 : decode cX6_readCond 62 = .ok (.ifCond .ne 19, 3) := by decide +kernel
theorem dX6_readCond_65 : decode cX6_readCond 65 = .ok (.iload 5, 2) := by decide +kernel
theorem dX6_readCond_67 : decode cX6_readCond 67 = .ok (.ifCond .eq 14, 3) := by decide +kernel
theorem dX6_readCond_70 : decode cX6_readCond 70 = .ok (.aload_n 0, 1) := by decide +kernel
theorem dX6_readCond_71 : decode cX6_readCond 71 = .ok (.getfield 12, 3) := by decide +kernel
theorem dX6_readCond_74 : decode cX6_readCond 74 = .ok (.bipush 25, 2) := by decide +kernel
theorem dX6_readCond_76 : decode cX6_readCond 76 = .ok (.iconst 0, 1) := by decide +kernel
theorem dX6_readCond_77 : decode cX6_readCond 77 = .ok (.iconst 0, 1) := by decide +kernel
theorem dX6_readCond_78 : decode cX6_readCond 78 = .ok (.invokevirtual 45, 3) := by decide +kernel
theorem dX6_readCond_81 : decode cX6_readCond 81 = .ok (.iload 4, 2) := by decide +kernel
theorem dX6_readCond_83 : decode cX6_readCond 83 = .ok (.ifCond .ne 14, 3) := by decide +kernel
theorem dX6_readCond_86 : decode cX6_readCond 86 = .ok (.aload_n 1, 1) := by decide +kernel
theorem dX6_readCond_87 : decode cX6_readCond 87 = .ok (.invokevirtual 49, 3) := by decide +kernel
theorem dX6_readCond_90 : decode cX6_readCond 90 = .ok (.bipush 25, 2) := by decide +kernel
theorem dX6_readCond_92 : decode cX6_readCond 92 = .ok (.if_icmp .eq 5, 3) := by decide +kernel
theorem dX6_readCond_95 : decode cX6_readCond 95 = .ok (.iconst 1, 1) := by decide +kernel
theorem dX6_readCond_96 : decode cX6_readCond 96 = .ok (.ireturn, 1) := by decide +kernel
theorem dX6_readCond_97 : decode cX6_readCond 97 = .ok (.iload 5, 2) := by decide +kernel
theorem dX6_readCond_99 : decode cX6_readCond 99 = .ok (.ifCond .ne 8, 3) := by decide +kernel
theorem dX6_readCond_102 : decode cX6_readCond 102 = .ok (.iload 4, 2) := by decide +kernel
theorem dX6_readCond_104 : decode cX6_readCond 104 = .ok (.ifCond .ne 7, 3) := by decide +kernel
theorem dX6_readCond_107 : decode cX6_readCond 107 = .ok (.iconst 1, 1) := by decide +kernel
theorem dX6_readCond_108 : decode cX6_readCond 108 = .ok (.goto 4, 3) := by decide +kernel
theorem dX6_readCond_111 : decode cX6_readCond 111 = .ok (.iconst 0, 1) := by decide +kernel
theorem dX6_readCond_112 : decode cX6_readCond 112 = .ok (.istore 5, 2) := by decide +kernel
theorem dX6_readCond_114 : decode cX6_readCond 114 = .ok (.aload_n 1, 1) := by decide +kernel
theorem dX6_readCond_115 : decode cX6_readCond 115 = .ok (.invokevirtual 53, 3) := by decide +kernel
theorem dX6_readCond_118 : decode cX6_readCond 118 = .ok (.iinc 6 1, 3) := by decide +kernel
theorem dX6_readCond_121 : decode cX6_readCond 121 = .ok (.goto (-112), 3) := by decide +kernel
theorem dX6_readCond_124 : decode cX6_readCond 124 = .ok (.aload_n 1, 1) := by decide +kernel
theorem dX6_readCond_125 : decode cX6_readCond 125 = .ok (.iconst 4, 1) := by decide +kernel
theorem dX6_readCond_126 : decode cX6_readCond 126 = .ok (.invokevirtual 38, 3) := by decide +kernel
theorem dX6_readCond_129 : decode cX6_readCond 129 = .ok (.ireturn, 1) := by decide +kernel
theorem dX6_readOne_0 : decode cX6_readOne 0 = .ok (.aload_n 1, 1) := by decide +kernel
theorem dX6_readOne_1 : decode cX6_readOne 1 = .ok (.invokevirtual 49, 3) := by decide +kernel
theorem dX6_readOne_4 : decode cX6_readOne 4 = .ok (.istore 4, 2) := by decide +kernel
theorem dX6_readOne_6 : decode cX6_readOne 6 = .ok (.aload_n 1, 1) := by decide +kernel
theorem dX6_readOne_7 : decode cX6_readOne 7 = .ok (.bipush 40, 2) := by decide +kernel
theorem dX6_readOne_9 : decode cX6_readOne 9 = .ok (.invokevirtual 56, 3) := by decide +kernel
theorem dX6_readOne_12 : decode cX6_readOne 12 = .ok (.istore 5, 2) := by decide +kernel
theorem dX6_readOne_14 : decode cX6_readOne 14 = .ok (.iload 5, 2) := by decide +kernel
theorem dX6_readOne_16 : decode cX6_readOne 16 = .ok (.ifCond .ne 17, 3) := by decide +kernel
theorem dX6_readOne_19 : decode cX6_readOne 19 = .ok (.iload 4, 2) := by decide +kernel
theorem dX6_readOne_21 : decode cX6_readOne 21 = .ok (.invokestatic 60, 3) := by decide +kernel
theorem dX6_readOne_24 : decode cX6_readOne 24 = .ok (.ifCond .ne 9, 3) := by decide +kernel
theorem dX6_readOne_27 : decode cX6_readOne 27 = .ok (.aload_n 1, 1) := by decide +kernel
theorem dX6_readOne_28 : decode cX6_readOne 28 = .ok (.iconst 1, 1) := by decide +kernel
theorem dX6_readOne_29 : decode cX6_readOne 29 = .ok (.invokevirtual 38, 3) := by decide +kernel
theorem dX6_readOne_32 : decode cX6_readOne 32 = .ok (.ireturn, 1) := by decide +kernel
theorem dX6_readOne_33 : decode cX6_readOne 33 = .ok (.aload_n 0, 1) := by decide +kernel
theorem dX6_readOne_34 : decode cX6_readOne 34 = .ok (.getfield 18, 3) := by decide +kernel
theorem dX6_readOne_37 : decode cX6_readOne 37 = .ok (.bipush 20, 2) := by decide +kernel
theorem dX6_readOne_39 : decode cX6_readOne 39 = .ok (.if_icmp .ge 9, 3) := by decide +kernel
theorem dX6_readOne_42 : decode cX6_readOne 42 = .ok (.iload_n 3, 1) := by decide +kernel
theorem dX6_readOne_43 : decode cX6_readOne 43 = .ok (.bipush 8, 2) := by decide +kernel
theorem dX6_readOne_45 : decode cX6_readOne 45 = .ok (.if_icmp .le 9, 3) := by decide +kernel
theorem dX6_readOne_48 : decode cX6_readOne 48 = .ok (.aload_n 1, 1) := by decide +kernel
theorem dX6_readOne_49 : decode cX6_readOne 49 = .ok (.iconst 4, 1) := by decide +kernel
theorem dX6_readOne_50 : decode cX6_readOne 50 = .ok (.invokevirtual 38, 3) := by decide +kernel
theorem dX6_readOne_53 : decode cX6_readOne 53 = .ok (.ireturn, 1) := by decide +kernel
theorem dX6_readOne_54 : decode cX6_readOne 54 = .ok (.aload_n 0, 1) := by decide +kernel
theorem dX6_readOne_55 : decode cX6_readOne 55 = .ok (.dup, 1) := by decide +kernel
theorem dX6_readOne_56 : decode cX6_readOne 56 = .ok (.getfield 18, 3) := by decide +kernel
theorem dX6_readOne_59 : decode cX6_readOne 59 = .ok (.iconst 1, 1) := by decide +kernel
theorem dX6_readOne_60 : decode cX6_readOne 60 = .ok (.iadd, 1) := by decide +kernel
theorem dX6_readOne_61 : decode cX6_readOne 61 = .ok (.putfield 18, 3) := by decide +kernel
theorem dX6_readOne_64 : decode cX6_readOne 64 = .ok (.aload_n 1, 1) := by decide +kernel
theorem dX6_readOne_65 : decode cX6_readOne 65 = .ok (.invokevirtual 53, 3) := by decide +kernel
theorem dX6_readOne_68 : decode cX6_readOne 68 = .ok (.iload 5, 2) := by decide +kernel
theorem dX6_readOne_70 : decode cX6_readOne 70 = .ok (.ifCond .eq 30, 3) := by decide +kernel
theorem dX6_readOne_73 : decode cX6_readOne 73 = .ok (.aload_n 0, 1) := by decide +kernel
theorem dX6_readOne_74 : decode cX6_readOne 74 = .ok (.aload_n 1, 1) := by decide +kernel
theorem dX6_readOne_75 : decode cX6_readOne 75 = .ok (.aload_n 2, 1) := by decide +kernel
theorem dX6_readOne_76 : decode cX6_readOne 76 = .ok (.iload_n 3, 1) := by decide +kernel
theorem dX6_readOne_77 : decode cX6_readOne 77 = .ok (.iconst 1, 1) := by decide +kernel
theorem dX6_readOne_78 : decode cX6_readOne 78 = .ok (.iadd, 1) := by decide +kernel
theorem dX6_readOne_79 : decode cX6_readOne 79 = .ok (.invokevirtual 31, 3) := by decide +kernel
theorem dX6_readOne_82 : decode cX6_readOne 82 = .ok (.ifCond .eq 16, 3) := by decide +kernel
theorem dX6_readOne_85 : decode cX6_readOne 85 = .ok (.aload_n 1, 1) := by decide +kernel
theorem dX6_readOne_86 : decode cX6_readOne 86 = .ok (.bipush 41, 2) := by decide +kernel
theorem dX6_readOne_88 : decode cX6_readOne 88 = .ok (.invokevirtual 63, 3) := by decide +kernel
theorem dX6_readOne_91 : decode cX6_readOne 91 = .ok (.ifCond .eq 7, 3) := by decide +kernel
theorem dX6_readOne_94 : decode cX6_readOne 94 = .ok (.iconst 1, 1) := by decide +kernel
theorem dX6_readOne_95 : decode cX6_readOne 95 = .ok (.goto 4, 3) := by decide +kernel
theorem dX6_readOne_98 : decode cX6_readOne 98 = .ok (.iconst 0, 1) := by decide +kernel
theorem dX6_readOne_99 : decode cX6_readOne 99 = .ok (.ireturn, 1) := by decide +kernel
theorem dX6_readOne_100 : decode cX6_readOne 100 = .ok (.iload 4, 2) := by decide +kernel
theorem dX6_readOne_102 : decode cX6_readOne 102 = .ok (.bipush 27, 2) := by decide +kernel
theorem dX6_readOne_104 : decode cX6_readOne 104 = .ok (.if_icmp .ne 28, 3) := by decide +kernel
theorem dX6_readOne_107 : decode cX6_readOne 107 = .ok (.aload_n 0, 1) := by decide +kernel
theorem dX6_readOne_108 : decode cX6_readOne 108 = .ok (.aload_n 1, 1) := by decide +kernel
theorem dX6_readOne_109 : decode cX6_readOne 109 = .ok (.aload_n 2, 1) := by decide +kernel
theorem dX6_readOne_110 : decode cX6_readOne 110 = .ok (.iload_n 3, 1) := by decide +kernel
theorem dX6_readOne_111 : decode cX6_readOne 111 = .ok (.iconst 1, 1) := by decide +kernel
theorem dX6_readOne_112 : decode cX6_readOne 112 = .ok (.iadd, 1) := by decide +kernel
theorem dX6_readOne_113 : decode cX6_readOne 113 = .ok (.invokevirtual 42, 3) := by decide +kernel
theorem dX6_readOne_116 : decode cX6_readOne 116 = .ok (.istore 6, 2) := by decide +kernel
theorem dX6_readOne_118 : decode cX6_readOne 118 = .ok (.aload_n 0, 1) := by decide +kernel
theorem dX6_readOne_119 : decode cX6_readOne 119 = .ok (.getfield 12, 3) := by decide +kernel
theorem dX6_readOne_122 : decode cX6_readOne 122 = .ok (.bipush 27, 2) := by decide +kernel
theorem dX6_readOne_124 : decode cX6_readOne 124 = .ok (.iconst 0, 1) := by decide +kernel
theorem dX6_readOne_125 : decode cX6_readOne 125 = .ok (.iconst 0, 1) := by decide +kernel
theorem dX6_readOne_126 : decode cX6_readOne 126 = .ok (.invokevirtual 45, 3) := by decide +kernel
theorem dX6_readOne_129 : decode cX6_readOne 129 = .ok (.iload 6, 2) := by decide +kernel
theorem dX6_readOne_131 : decode cX6_readOne 131 = .ok (.ireturn, 1) := by decide +kernel
theorem dX6_readOne_132 : decode cX6_readOne 132 = .ok (.iload 4, 2) := by decide +kernel
theorem dX6_readOne_134 : decode cX6_readOne 134 = .ok (.bipush 28, 2) := by decide +kernel
theorem dX6_readOne_136 : decode cX6_readOne 136 = .ok (.if_icmp .eq 17, 3) := by decide +kernel
theorem dX6_readOne_139 : decode cX6_readOne 139 = .ok (.iload 4, 2) := by decide +kernel
theorem dX6_readOne_141 : decode cX6_readOne 141 = .ok (.bipush 29, 2) := by decide +kernel
theorem dX6_readOne_143 : decode cX6_readOne 143 = .ok (.if_icmp .eq 10, 3) := by decide +kernel
theorem dX6_readOne_146 : decode cX6_readOne 146 = .ok (.iload 4, 2) := by decide +kernel
theorem dX6_readOne_148 : decode cX6_readOne 148 = .ok (.bipush 7, 2) := by decide +kernel
theorem dX6_readOne_150 : decode cX6_readOne 150 = .ok (.if_icmp .ne 16, 3) := by decide +kernel
theorem dX6_readOne_153 : decode cX6_readOne 153 = .ok (.aload_n 0, 1) := by decide +kernel
theorem dX6_readOne_154 : decode cX6_readOne 154 = .ok (.getfield 12, 3) := by decide +kernel
theorem dX6_readOne_157 : decode cX6_readOne 157 = .ok (.iload 4, 2) := by decide +kernel
theorem dX6_readOne_159 : decode cX6_readOne 159 = .ok (.iconst 0, 1) := by decide +kernel
theorem dX6_readOne_160 : decode cX6_readOne 160 = .ok (.iconst 0, 1) := by decide +kernel
theorem dX6_readOne_161 : decode cX6_readOne 161 = .ok (.invokevirtual 45, 3) := by decide +kernel
theorem dX6_readOne_164 : decode cX6_readOne 164 = .ok (.iconst 1, 1) := by decide +kernel
theorem dX6_readOne_165 : decode cX6_readOne 165 = .ok (.ireturn, 1) := by decide +kernel
theorem dX6_readOne_166 : decode cX6_readOne 166 = .ok (.iload 4, 2) := by decide +kernel
theorem dX6_readOne_168 : decode cX6_readOne 168 = .ok (.bipush 30, 2) := by decide +kernel
theorem dX6_readOne_170 : decode cX6_readOne 170 = .ok (.if_icmp .ne 12, 3) := by decide +kernel
theorem dX6_readOne_173 : decode cX6_readOne 173 = .ok (.aload_n 0, 1) := by decide +kernel
theorem dX6_readOne_174 : decode cX6_readOne 174 = .ok (.aload_n 1, 1) := by decide +kernel
theorem dX6_readOne_175 : decode cX6_readOne 175 = .ok (.aload_n 2, 1) := by decide +kernel
theorem dX6_readOne_176 : decode cX6_readOne 176 = .ok (.invokevirtual 66, 3) := by decide +kernel
theorem dX6_readOne_179 : decode cX6_readOne 179 = .ok (.goto 10, 3) := by decide +kernel
theorem dX6_readOne_182 : decode cX6_readOne 182 = .ok (.aload_n 0, 1) := by decide +kernel
theorem dX6_readOne_183 : decode cX6_readOne 183 = .ok (.aload_n 1, 1) := by decide +kernel
theorem dX6_readOne_184 : decode cX6_readOne 184 = .ok (.iload 4, 2) := by decide +kernel
theorem dX6_readOne_186 : decode cX6_readOne 186 = .ok (.invokevirtual 70, 3) := by decide +kernel
theorem dX6_readOne_189 : decode cX6_readOne 189 = .ok (.ireturn, 1) := by decide +kernel
theorem dX6_isFirstWord_0 : decode cX6_isFirstWord 0 = .ok (.iload_n 0, 1) := by decide +kernel
theorem dX6_isFirstWord_1 : decode cX6_isFirstWord 1 = .ok (.tableswitch 125 7 33 #[123, 125, 123, 125, 125, 125, 125, 125, 125, 125, 125, 125, 125, 125, 125, 125, 125, 125, 125, 125, 123, 123, 123, 123, 123, 123, 123], 123) := by decide +kernel
theorem dX6_isFirstWord_124 : decode cX6_isFirstWord 124 = .ok (.iconst 1, 1) := by decide +kernel
theorem dX6_isFirstWord_125 : decode cX6_isFirstWord 125 = .ok (.ireturn, 1) := by decide +kernel
theorem dX6_isFirstWord_126 : decode cX6_isFirstWord 126 = .ok (.iconst 0, 1) := by decide +kernel
theorem dX6_isFirstWord_127 : decode cX6_isFirstWord 127 = .ok (.ireturn, 1) := by decide +kernel
theorem dX6_readScopeName_0 : decode cX6_readScopeName 0 = .ok (.aload_n 1, 1) := by decide +kernel
theorem dX6_readScopeName_1 : decode cX6_readScopeName 1 = .ok (.invokevirtual 74, 3) := by decide +kernel
theorem dX6_readScopeName_4 : decode cX6_readScopeName 4 = .ok (.ifCond .ne 5, 3) := by decide +kernel
theorem dX6_readScopeName_7 : decode cX6_readScopeName 7 = .ok (.iconst 0, 1) := by decide +kernel
theorem dX6_readScopeName_8 : decode cX6_readScopeName 8 = .ok (.ireturn, 1) := by decide +kernel
theorem dX6_readScopeName_9 : decode cX6_readScopeName 9 = .ok (.aload_n 2, 1) := by decide +kernel
theorem dX6_readScopeName_10 : decode cX6_readScopeName 10 = .ok (.getfield 78, 3) := by decide +kernel
theorem dX6_readScopeName_13 : decode cX6_readScopeName 13 = .ok (.aload_n 1, 1) := by decide +kernel
theorem dX6_readScopeName_14 : decode cX6_readScopeName 14 = .ok (.getfield 84, 3) := by decide +kernel
theorem dX6_readScopeName_17 : decode cX6_readScopeName 17 = .ok (.invokevirtual 88, 3) := by decide +kernel
theorem dX6_readScopeName_20 : decode cX6_readScopeName 20 = .ok (.istore_n 3, 1) := by decide +kernel
theorem dX6_readScopeName_21 : decode cX6_readScopeName 21 = .ok (.iload_n 3, 1) := by decide +kernel
theorem dX6_readScopeName_22 : decode cX6_readScopeName 22 = .ok (.iconst (-1), 1) := by decide +kernel
theorem dX6_readScopeName_23 : decode cX6_readScopeName 23 = .ok (.if_icmp .ne 9, 3) := by decide +kernel
theorem dX6_readScopeName_26 : decode cX6_readScopeName 26 = .ok (.aload_n 1, 1) := by decide +kernel
theorem dX6_readScopeName_27 : decode cX6_readScopeName 27 = .ok (.iconst 3, 1) := by decide +kernel
theorem dX6_readScopeName_28 : decode cX6_readScopeName 28 = .ok (.invokevirtual 38, 3) := by decide +kernel
theorem dX6_readScopeName_31 : decode cX6_readScopeName 31 = .ok (.ireturn, 1) := by decide +kernel
theorem dX6_readScopeName_32 : decode cX6_readScopeName 32 = .ok (.aload_n 0, 1) := by decide +kernel
theorem dX6_readScopeName_33 : decode cX6_readScopeName 33 = .ok (.getfield 12, 3) := by decide +kernel
theorem dX6_readScopeName_36 : decode cX6_readScopeName 36 = .ok (.bipush 30, 2) := by decide +kernel
theorem dX6_readScopeName_38 : decode cX6_readScopeName 38 = .ok (.iconst 0, 1) := by decide +kernel
theorem dX6_readScopeName_39 : decode cX6_readScopeName 39 = .ok (.iload_n 3, 1) := by decide +kernel
theorem dX6_readScopeName_40 : decode cX6_readScopeName 40 = .ok (.invokevirtual 45, 3) := by decide +kernel
theorem dX6_readScopeName_43 : decode cX6_readScopeName 43 = .ok (.aload_n 1, 1) := by decide +kernel
theorem dX6_readScopeName_44 : decode cX6_readScopeName 44 = .ok (.invokevirtual 53, 3) := by decide +kernel
theorem dX6_readScopeName_47 : decode cX6_readScopeName 47 = .ok (.iconst 1, 1) := by decide +kernel
theorem dX6_readScopeName_48 : decode cX6_readScopeName 48 = .ok (.ireturn, 1) := by decide +kernel
theorem dX6_readCompared_0 : decode cX6_readCompared 0 = .ok (.aload_n 1, 1) := by decide +kernel
theorem dX6_readCompared_1 : decode cX6_readCompared 1 = .ok (.bipush 60, 2) := by decide +kernel
theorem dX6_readCompared_3 : decode cX6_readCompared 3 = .ok (.invokevirtual 56, 3) := by decide +kernel
theorem dX6_readCompared_6 : decode cX6_readCompared 6 = .ok (.ifCond .ne 27, 3) := by decide +kernel
theorem dX6_readCompared_9 : decode cX6_readCompared 9 = .ok (.aload_n 1, 1) := by decide +kernel
theorem dX6_readCompared_10 : decode cX6_readCompared 10 = .ok (.bipush 61, 2) := by decide +kernel
theorem dX6_readCompared_12 : decode cX6_readCompared 12 = .ok (.invokevirtual 56, 3) := by decide +kernel
theorem dX6_readCompared_15 : decode cX6_readCompared 15 = .ok (.ifCond .ne 18, 3) := by decide +kernel
theorem dX6_readCompared_18 : decode cX6_readCompared 18 = .ok (.aload_n 1, 1) := by decide +kernel
theorem dX6_readCompared_19 : decode cX6_readCompared 19 = .ok (.bipush 62, 2) := by decide +kernel
theorem dX6_readCompared_21 : decode cX6_readCompared 21 = .ok (.invokevirtual 56, 3) := by decide +kernel
theorem dX6_readCompared_24 : decode cX6_readCompared 24 = .ok (.ifCond .ne 9, 3) := by decide +kernel
theorem dX6_readCompared_27 : decode cX6_readCompared 27 = .ok (.aload_n 1, 1) := by decide +kernel
theorem dX6_readCompared_28 : decode cX6_readCompared 28 = .ok (.iconst 1, 1) := by decide +kernel
theorem dX6_readCompared_29 : decode cX6_readCompared 29 = .ok (.invokevirtual 38, 3) := by decide +kernel
theorem dX6_readCompared_32 : decode cX6_readCompared 32 = .ok (.ireturn, 1) := by decide +kernel
theorem dX6_readCompared_33 : decode cX6_readCompared 33 = .ok (.aload_n 1, 1) := by decide +kernel
theorem dX6_readCompared_34 : decode cX6_readCompared 34 = .ok (.getfield 94, 3) := by decide +kernel
theorem dX6_readCompared_37 : decode cX6_readCompared 37 = .ok (.istore_n 3, 1) := by decide +kernel
theorem dX6_readCompared_38 : decode cX6_readCompared 38 = .ok (.aload_n 1, 1) := by decide +kernel
theorem dX6_readCompared_39 : decode cX6_readCompared 39 = .ok (.invokevirtual 53, 3) := by decide +kernel
theorem dX6_readCompared_42 : decode cX6_readCompared 42 = .ok (.aload_n 1, 1) := by decide +kernel
theorem dX6_readCompared_43 : decode cX6_readCompared 43 = .ok (.iconst 0, 1) := by decide +kernel
theorem dX6_readCompared_44 : decode cX6_readCompared 44 = .ok (.sipush 999, 3) := by decide +kernel
theorem dX6_readCompared_47 : decode cX6_readCompared 47 = .ok (.invokevirtual 99, 3) := by decide +kernel
theorem dX6_readCompared_50 : decode cX6_readCompared 50 = .ok (.ifCond .ne 5, 3) := by decide +kernel
theorem dX6_readCompared_53 : decode cX6_readCompared 53 = .ok (.iconst 0, 1) := by decide +kernel
theorem dX6_readCompared_54 : decode cX6_readCompared 54 = .ok (.ireturn, 1) := by decide +kernel
theorem dX6_readCompared_55 : decode cX6_readCompared 55 = .ok (.aload_n 0, 1) := by decide +kernel
theorem dX6_readCompared_56 : decode cX6_readCompared 56 = .ok (.getfield 12, 3) := by decide +kernel
theorem dX6_readCompared_59 : decode cX6_readCompared 59 = .ok (.iload_n 2, 1) := by decide +kernel
theorem dX6_readCompared_60 : decode cX6_readCompared 60 = .ok (.iload_n 3, 1) := by decide +kernel
theorem dX6_readCompared_61 : decode cX6_readCompared 61 = .ok (.aload_n 1, 1) := by decide +kernel
theorem dX6_readCompared_62 : decode cX6_readCompared 62 = .ok (.getfield 103, 3) := by decide +kernel
theorem dX6_readCompared_65 : decode cX6_readCompared 65 = .ok (.invokevirtual 45, 3) := by decide +kernel
theorem dX6_readCompared_68 : decode cX6_readCompared 68 = .ok (.aload_n 1, 1) := by decide +kernel
theorem dX6_readCompared_69 : decode cX6_readCompared 69 = .ok (.invokevirtual 53, 3) := by decide +kernel
theorem dX6_readCompared_72 : decode cX6_readCompared 72 = .ok (.iconst 1, 1) := by decide +kernel
theorem dX6_readCompared_73 : decode cX6_readCompared 73 = .ok (.ireturn, 1) := by decide +kernel
theorem dX7_init_0 : decode cX7_init 0 = .ok (.aload_n 0, 1) := by decide +kernel
theorem dX7_init_1 : decode cX7_init 1 = .ok (.invokespecial 3, 3) := by decide +kernel
theorem dX7_init_4 : decode cX7_init 4 = .ok (.aload_n 0, 1) := by decide +kernel
theorem dX7_init_5 : decode cX7_init 5 = .ok (.iconst 0, 1) := by decide +kernel
theorem dX7_init_6 : decode cX7_init 6 = .ok (.putfield 9, 3) := by decide +kernel
theorem dX7_init_9 : decode cX7_init 9 = .ok (.aload_n 0, 1) := by decide +kernel
theorem dX7_init_10 : decode cX7_init 10 = .ok (.iload_n 2, 1) := by decide +kernel
theorem dX7_init_11 : decode cX7_init 11 = .ok (.putfield 15, 3) := by decide +kernel
theorem dX7_init_14 : decode cX7_init 14 = .ok (.aload_n 0, 1) := by decide +kernel
theorem dX7_init_15 : decode cX7_init 15 = .ok (.iload_n 1, 1) := by decide +kernel
theorem dX7_init_16 : decode cX7_init 16 = .ok (.newarray .long, 2) := by decide +kernel
theorem dX7_init_18 : decode cX7_init 18 = .ok (.putfield 18, 3) := by decide +kernel
theorem dX7_init_21 : decode cX7_init 21 = .ok (.aload_n 0, 1) := by decide +kernel
theorem dX7_init_22 : decode cX7_init 22 = .ok (.iload_n 1, 1) := by decide +kernel
theorem dX7_init_23 : decode cX7_init 23 = .ok (.iload_n 2, 1) := by decide +kernel
theorem dX7_init_24 : decode cX7_init 24 = .ok (.imul, 1) := by decide +kernel
theorem dX7_init_25 : decode cX7_init 25 = .ok (.newarray .int, 2) := by decide +kernel
theorem dX7_init_27 : decode cX7_init 27 = .ok (.putfield 22, 3) := by decide +kernel
theorem dX7_init_30 : decode cX7_init 30 = .ok (.return_, 1) := by decide +kernel
theorem dX7_forget_0 : decode cX7_forget 0 = .ok (.aload_n 0, 1) := by decide +kernel
theorem dX7_forget_1 : decode cX7_forget 1 = .ok (.iconst 0, 1) := by decide +kernel
theorem dX7_forget_2 : decode cX7_forget 2 = .ok (.putfield 9, 3) := by decide +kernel
theorem dX7_forget_5 : decode cX7_forget 5 = .ok (.return_, 1) := by decide +kernel
theorem dX7_isFull_0 : decode cX7_isFull 0 = .ok (.aload_n 0, 1) := by decide +kernel
theorem dX7_isFull_1 : decode cX7_isFull 1 = .ok (.getfield 9, 3) := by decide +kernel
theorem dX7_isFull_4 : decode cX7_isFull 4 = .ok (.aload_n 0, 1) := by decide +kernel
theorem dX7_isFull_5 : decode cX7_isFull 5 = .ok (.getfield 18, 3) := by decide +kernel
theorem dX7_isFull_8 : decode cX7_isFull 8 = .ok (.arraylength, 1) := by decide +kernel
theorem dX7_isFull_9 : decode cX7_isFull 9 = .ok (.if_icmp .lt 7, 3) := by decide +kernel
theorem dX7_isFull_12 : decode cX7_isFull 12 = .ok (.iconst 1, 1) := by decide +kernel
theorem dX7_isFull_13 : decode cX7_isFull 13 = .ok (.goto 4, 3) := by decide +kernel
theorem dX7_isFull_16 : decode cX7_isFull 16 = .ok (.iconst 0, 1) := by decide +kernel
theorem dX7_isFull_17 : decode cX7_isFull 17 = .ok (.ireturn, 1) := by decide +kernel
theorem dX7_has_0 : decode cX7_has 0 = .ok (.iload_n 1, 1) := by decide +kernel
theorem dX7_has_1 : decode cX7_has 1 = .ok (.ifCond .lt 15, 3) := by decide +kernel
theorem dX7_has_4 : decode cX7_has 4 = .ok (.iload_n 1, 1) := by decide +kernel
theorem dX7_has_5 : decode cX7_has 5 = .ok (.aload_n 0, 1) := by decide +kernel
theorem dX7_has_6 : decode cX7_has 6 = .ok (.getfield 9, 3) := by decide +kernel
theorem dX7_has_9 : decode cX7_has 9 = .ok (.if_icmp .ge 7, 3) := by decide +kernel
theorem dX7_has_12 : decode cX7_has 12 = .ok (.iconst 1, 1) := by decide +kernel
theorem dX7_has_13 : decode cX7_has 13 = .ok (.goto 4, 3) := by decide +kernel
theorem dX7_has_16 : decode cX7_has 16 = .ok (.iconst 0, 1) := by decide +kernel
theorem dX7_has_17 : decode cX7_has 17 = .ok (.ireturn, 1) := by decide +kernel
theorem dX7_add_0 : decode cX7_add 0 = .ok (.aload_n 0, 1) := by decide +kernel
theorem dX7_add_1 : decode cX7_add 1 = .ok (.getfield 9, 3) := by decide +kernel
theorem dX7_add_4 : decode cX7_add 4 = .ok (.aload_n 0, 1) := by decide +kernel
theorem dX7_add_5 : decode cX7_add 5 = .ok (.getfield 18, 3) := by decide +kernel
theorem dX7_add_8 : decode cX7_add 8 = .ok (.arraylength, 1) := by decide +kernel
theorem dX7_add_9 : decode cX7_add 9 = .ok (.if_icmp .lt 5, 3) := by decide +kernel
theorem dX7_add_12 : decode cX7_add 12 = .ok (.iconst (-1), 1) := by decide +kernel
theorem dX7_add_13 : decode cX7_add 13 = .ok (.ireturn, 1) := by decide +kernel
theorem dX7_add_14 : decode cX7_add 14 = .ok (.aload_n 0, 1) := by decide +kernel
theorem dX7_add_15 : decode cX7_add 15 = .ok (.getfield 18, 3) := by decide +kernel
theorem dX7_add_18 : decode cX7_add 18 = .ok (.aload_n 0, 1) := by decide +kernel
theorem dX7_add_19 : decode cX7_add 19 = .ok (.getfield 9, 3) := by decide +kernel
theorem dX7_add_22 : decode cX7_add 22 = .ok (.lload_n 1, 1) := by decide +kernel
theorem dX7_add_23 : decode cX7_add 23 = .ok (.lastore, 1) := by decide +kernel
theorem dX7_add_24 : decode cX7_add 24 = .ok (.aload_n 0, 1) := by decide +kernel
theorem dX7_add_25 : decode cX7_add 25 = .ok (.dup, 1) := by decide +kernel
theorem dX7_add_26 : decode cX7_add 26 = .ok (.getfield 9, 3) := by decide +kernel
theorem dX7_add_29 : decode cX7_add 29 = .ok (.iconst 1, 1) := by decide +kernel
theorem dX7_add_30 : decode cX7_add 30 = .ok (.iadd, 1) := by decide +kernel
theorem dX7_add_31 : decode cX7_add 31 = .ok (.putfield 9, 3) := by decide +kernel
theorem dX7_add_34 : decode cX7_add 34 = .ok (.aload_n 0, 1) := by decide +kernel
theorem dX7_add_35 : decode cX7_add 35 = .ok (.getfield 9, 3) := by decide +kernel
theorem dX7_add_38 : decode cX7_add 38 = .ok (.iconst 1, 1) := by decide +kernel
theorem dX7_add_39 : decode cX7_add 39 = .ok (.isub, 1) := by decide +kernel
theorem dX7_add_40 : decode cX7_add 40 = .ok (.ireturn, 1) := by decide +kernel
theorem dX7_at_0 : decode cX7_at 0 = .ok (.iload_n 1, 1) := by decide +kernel
theorem dX7_at_1 : decode cX7_at 1 = .ok (.ifCond .lt 27, 3) := by decide +kernel
theorem dX7_at_4 : decode cX7_at 4 = .ok (.iload_n 1, 1) := by decide +kernel
theorem dX7_at_5 : decode cX7_at 5 = .ok (.aload_n 0, 1) := by decide +kernel
theorem dX7_at_6 : decode cX7_at 6 = .ok (.getfield 9, 3) := by decide +kernel
theorem dX7_at_9 : decode cX7_at 9 = .ok (.if_icmp .ge 19, 3) := by decide +kernel
theorem dX7_at_12 : decode cX7_at 12 = .ok (.iload_n 2, 1) := by decide +kernel
theorem dX7_at_13 : decode cX7_at 13 = .ok (.ifCond .lt 15, 3) := by decide +kernel
theorem dX7_at_16 : decode cX7_at 16 = .ok (.iload_n 2, 1) := by decide +kernel
theorem dX7_at_17 : decode cX7_at 17 = .ok (.aload_n 0, 1) := by decide +kernel
theorem dX7_at_18 : decode cX7_at 18 = .ok (.getfield 15, 3) := by decide +kernel
theorem dX7_at_21 : decode cX7_at 21 = .ok (.if_icmp .ge 7, 3) := by decide +kernel
theorem dX7_at_24 : decode cX7_at 24 = .ok (.iconst 1, 1) := by decide +kernel
theorem dX7_at_25 : decode cX7_at 25 = .ok (.goto 4, 3) := by decide +kernel
theorem dX7_at_28 : decode cX7_at 28 = .ok (.iconst 0, 1) := by decide +kernel
theorem dX7_at_29 : decode cX7_at 29 = .ok (.istore_n 3, 1) := by decide +kernel
theorem dX7_at_30 : decode cX7_at 30 = .ok (.iload_n 3, 1) := by decide +kernel
theorem dX7_at_31 : decode cX7_at 31 = .ok (.ifCond .eq 19, 3) := by decide +kernel
theorem dX7_at_34 : decode cX7_at 34 = .ok (.aload_n 0, 1) := by decide +kernel
theorem dX7_at_35 : decode cX7_at 35 = .ok (.getfield 22, 3) := by decide +kernel
theorem dX7_at_38 : decode cX7_at 38 = .ok (.iload_n 1, 1) := by decide +kernel
theorem dX7_at_39 : decode cX7_at 39 = .ok (.aload_n 0, 1) := by decide +kernel
theorem dX7_at_40 : decode cX7_at 40 = .ok (.getfield 15, 3) := by decide +kernel
theorem dX7_at_43 : decode cX7_at 43 = .ok (.imul, 1) := by decide +kernel
theorem dX7_at_44 : decode cX7_at 44 = .ok (.iload_n 2, 1) := by decide +kernel
theorem dX7_at_45 : decode cX7_at 45 = .ok (.iadd, 1) := by decide +kernel
theorem dX7_at_46 : decode cX7_at 46 = .ok (.iaload, 1) := by decide +kernel
theorem dX7_at_47 : decode cX7_at 47 = .ok (.goto 4, 3) := by decide +kernel
theorem dX7_at_50 : decode cX7_at 50 = .ok (.iconst (-1), 1) := by decide +kernel
theorem dX7_at_51 : decode cX7_at 51 = .ok (.ireturn, 1) := by decide +kernel
theorem dX7_put_0 : decode cX7_put 0 = .ok (.iload_n 1, 1) := by decide +kernel
theorem dX7_put_1 : decode cX7_put 1 = .ok (.ifCond .lt 37, 3) := by decide +kernel
theorem dX7_put_4 : decode cX7_put 4 = .ok (.iload_n 1, 1) := by decide +kernel
theorem dX7_put_5 : decode cX7_put 5 = .ok (.aload_n 0, 1) := by decide +kernel
theorem dX7_put_6 : decode cX7_put 6 = .ok (.getfield 9, 3) := by decide +kernel
theorem dX7_put_9 : decode cX7_put 9 = .ok (.if_icmp .ge 29, 3) := by decide +kernel
theorem dX7_put_12 : decode cX7_put 12 = .ok (.iload_n 2, 1) := by decide +kernel
theorem dX7_put_13 : decode cX7_put 13 = .ok (.ifCond .lt 25, 3) := by decide +kernel
theorem dX7_put_16 : decode cX7_put 16 = .ok (.iload_n 2, 1) := by decide +kernel
theorem dX7_put_17 : decode cX7_put 17 = .ok (.aload_n 0, 1) := by decide +kernel
theorem dX7_put_18 : decode cX7_put 18 = .ok (.getfield 15, 3) := by decide +kernel
theorem dX7_put_21 : decode cX7_put 21 = .ok (.if_icmp .ge 17, 3) := by decide +kernel
theorem dX7_put_24 : decode cX7_put 24 = .ok (.aload_n 0, 1) := by decide +kernel
theorem dX7_put_25 : decode cX7_put 25 = .ok (.getfield 22, 3) := by decide +kernel
theorem dX7_put_28 : decode cX7_put 28 = .ok (.iload_n 1, 1) := by decide +kernel
theorem dX7_put_29 : decode cX7_put 29 = .ok (.aload_n 0, 1) := by decide +kernel
theorem dX7_put_30 : decode cX7_put 30 = .ok (.getfield 15, 3) := by decide +kernel
theorem dX7_put_33 : decode cX7_put 33 = .ok (.imul, 1) := by decide +kernel
theorem dX7_put_34 : decode cX7_put 34 = .ok (.iload_n 2, 1) := by decide +kernel
theorem dX7_put_35 : decode cX7_put 35 = .ok (.iadd, 1) := by decide +kernel
theorem dX7_put_36 : decode cX7_put 36 = .ok (.iload_n 3, 1) := by decide +kernel
theorem dX7_put_37 : decode cX7_put 37 = .ok (.iastore, 1) := by decide +kernel
theorem dX7_put_38 : decode cX7_put 38 = .ok (.return_, 1) := by decide +kernel
theorem dX7_nameOf_0 : decode cX7_nameOf 0 = .ok (.iload_n 1, 1) := by decide +kernel
theorem dX7_nameOf_1 : decode cX7_nameOf 1 = .ok (.ifCond .lt 20, 3) := by decide +kernel
theorem dX7_nameOf_4 : decode cX7_nameOf 4 = .ok (.iload_n 1, 1) := by decide +kernel
theorem dX7_nameOf_5 : decode cX7_nameOf 5 = .ok (.aload_n 0, 1) := by decide +kernel
theorem dX7_nameOf_6 : decode cX7_nameOf 6 = .ok (.getfield 9, 3) := by decide +kernel
theorem dX7_nameOf_9 : decode cX7_nameOf 9 = .ok (.if_icmp .ge 12, 3) := by decide +kernel
theorem dX7_nameOf_12 : decode cX7_nameOf 12 = .ok (.aload_n 0, 1) := by decide +kernel
theorem dX7_nameOf_13 : decode cX7_nameOf 13 = .ok (.getfield 18, 3) := by decide +kernel
theorem dX7_nameOf_16 : decode cX7_nameOf 16 = .ok (.iload_n 1, 1) := by decide +kernel
theorem dX7_nameOf_17 : decode cX7_nameOf 17 = .ok (.laload, 1) := by decide +kernel
theorem dX7_nameOf_18 : decode cX7_nameOf 18 = .ok (.goto 4, 3) := by decide +kernel
theorem dX7_nameOf_21 : decode cX7_nameOf 21 = .ok (.lconst 0, 1) := by decide +kernel
theorem dX7_nameOf_22 : decode cX7_nameOf 22 = .ok (.lreturn, 1) := by decide +kernel
theorem dX7_find_0 : decode cX7_find 0 = .ok (.iconst 0, 1) := by decide +kernel
theorem dX7_find_1 : decode cX7_find 1 = .ok (.istore_n 3, 1) := by decide +kernel
theorem dX7_find_2 : decode cX7_find 2 = .ok (.iload_n 3, 1) := by decide +kernel
theorem dX7_find_3 : decode cX7_find 3 = .ok (.aload_n 0, 1) := by decide +kernel
theorem dX7_find_4 : decode cX7_find 4 = .ok (.getfield 9, 3) := by decide +kernel
theorem dX7_find_7 : decode cX7_find 7 = .ok (.if_icmp .ge 22, 3) := by decide +kernel
theorem dX7_find_10 : decode cX7_find 10 = .ok (.aload_n 0, 1) := by decide +kernel
theorem dX7_find_11 : decode cX7_find 11 = .ok (.getfield 18, 3) := by decide +kernel
theorem dX7_find_14 : decode cX7_find 14 = .ok (.iload_n 3, 1) := by decide +kernel
theorem dX7_find_15 : decode cX7_find 15 = .ok (.laload, 1) := by decide +kernel
theorem dX7_find_16 : decode cX7_find 16 = .ok (.lload_n 1, 1) := by decide +kernel
theorem dX7_find_17 : decode cX7_find 17 = .ok (.lcmp, 1) := by decide +kernel
theorem dX7_find_18 : decode cX7_find 18 = .ok (.ifCond .ne 5, 3) := by decide +kernel
theorem dX7_find_21 : decode cX7_find 21 = .ok (.iload_n 3, 1) := by decide +kernel
theorem dX7_find_22 : decode cX7_find 22 = .ok (.ireturn, 1) := by decide +kernel
theorem dX7_find_23 : decode cX7_find 23 = .ok (.iinc 3 1, 3) := by decide +kernel
theorem dX7_find_26 : decode cX7_find 26 = .ok (.goto (-24), 3) := by decide +kernel
theorem dX7_find_29 : decode cX7_find 29 = .ok (.iconst (-1), 1) := by decide +kernel
theorem dX7_find_30 : decode cX7_find 30 = .ok (.ireturn, 1) := by decide +kernel
theorem dX7_copyFrom_0 : decode cX7_copyFrom 0 = .ok (.aload_n 0, 1) := by decide +kernel
theorem dX7_copyFrom_1 : decode cX7_copyFrom 1 = .ok (.aload_n 1, 1) := by decide +kernel
theorem dX7_copyFrom_2 : decode cX7_copyFrom 2 = .ok (.getfield 9, 3) := by decide +kernel
theorem dX7_copyFrom_5 : decode cX7_copyFrom 5 = .ok (.aload_n 0, 1) := by decide +kernel
theorem dX7_copyFrom_6 : decode cX7_copyFrom 6 = .ok (.getfield 18, 3) := by decide +kernel
theorem dX7_copyFrom_9 : decode cX7_copyFrom 9 = .ok (.arraylength, 1) := by decide +kernel
theorem dX7_copyFrom_10 : decode cX7_copyFrom 10 = .ok (.invokestatic 26, 3) := by decide +kernel
theorem dX7_copyFrom_13 : decode cX7_copyFrom 13 = .ok (.putfield 9, 3) := by decide +kernel
theorem dX7_copyFrom_16 : decode cX7_copyFrom 16 = .ok (.aload_n 1, 1) := by decide +kernel
theorem dX7_copyFrom_17 : decode cX7_copyFrom 17 = .ok (.getfield 18, 3) := by decide +kernel
theorem dX7_copyFrom_20 : decode cX7_copyFrom 20 = .ok (.iconst 0, 1) := by decide +kernel
theorem dX7_copyFrom_21 : decode cX7_copyFrom 21 = .ok (.aload_n 0, 1) := by decide +kernel
theorem dX7_copyFrom_22 : decode cX7_copyFrom 22 = .ok (.getfield 18, 3) := by decide +kernel
theorem dX7_copyFrom_25 : decode cX7_copyFrom 25 = .ok (.iconst 0, 1) := by decide +kernel
theorem dX7_copyFrom_26 : decode cX7_copyFrom 26 = .ok (.aload_n 0, 1) := by decide +kernel
theorem dX7_copyFrom_27 : decode cX7_copyFrom 27 = .ok (.getfield 18, 3) := by decide +kernel
theorem dX7_copyFrom_30 : decode cX7_copyFrom 30 = .ok (.arraylength, 1) := by decide +kernel
theorem dX7_copyFrom_31 : decode cX7_copyFrom 31 = .ok (.aload_n 1, 1) := by decide +kernel
theorem dX7_copyFrom_32 : decode cX7_copyFrom 32 = .ok (.getfield 18, 3) := by decide +kernel
theorem dX7_copyFrom_35 : decode cX7_copyFrom 35 = .ok (.arraylength, 1) := by decide +kernel
theorem dX7_copyFrom_36 : decode cX7_copyFrom 36 = .ok (.invokestatic 26, 3) := by decide +kernel
theorem dX7_copyFrom_39 : decode cX7_copyFrom 39 = .ok (.invokestatic 32, 3) := by decide +kernel
theorem dX7_copyFrom_42 : decode cX7_copyFrom 42 = .ok (.aload_n 1, 1) := by decide +kernel
theorem dX7_copyFrom_43 : decode cX7_copyFrom 43 = .ok (.getfield 22, 3) := by decide +kernel
theorem dX7_copyFrom_46 : decode cX7_copyFrom 46 = .ok (.iconst 0, 1) := by decide +kernel
theorem dX7_copyFrom_47 : decode cX7_copyFrom 47 = .ok (.aload_n 0, 1) := by decide +kernel
theorem dX7_copyFrom_48 : decode cX7_copyFrom 48 = .ok (.getfield 22, 3) := by decide +kernel
theorem dX7_copyFrom_51 : decode cX7_copyFrom 51 = .ok (.iconst 0, 1) := by decide +kernel
theorem dX7_copyFrom_52 : decode cX7_copyFrom 52 = .ok (.aload_n 0, 1) := by decide +kernel
theorem dX7_copyFrom_53 : decode cX7_copyFrom 53 = .ok (.getfield 22, 3) := by decide +kernel
theorem dX7_copyFrom_56 : decode cX7_copyFrom 56 = .ok (.arraylength, 1) := by decide +kernel
theorem dX7_copyFrom_57 : decode cX7_copyFrom 57 = .ok (.aload_n 1, 1) := by decide +kernel
theorem dX7_copyFrom_58 : decode cX7_copyFrom 58 = .ok (.getfield 22, 3) := by decide +kernel
theorem dX7_copyFrom_61 : decode cX7_copyFrom 61 = .ok (.arraylength, 1) := by decide +kernel
theorem dX7_copyFrom_62 : decode cX7_copyFrom 62 = .ok (.invokestatic 26, 3) := by decide +kernel
theorem dX7_copyFrom_65 : decode cX7_copyFrom 65 = .ok (.invokestatic 32, 3) := by decide +kernel
theorem dX7_copyFrom_68 : decode cX7_copyFrom 68 = .ok (.return_, 1) := by decide +kernel
theorem dX8_init_0 : decode cX8_init 0 = .ok (.aload_n 0, 1) := by decide +kernel
theorem dX8_init_1 : decode cX8_init 1 = .ok (.invokespecial 3, 3) := by decide +kernel
theorem dX8_init_4 : decode cX8_init 4 = .ok (.aload_n 0, 1) := by decide +kernel
theorem dX8_init_5 : decode cX8_init 5 = .ok (.sipush 940, 3) := by decide +kernel
theorem dX8_init_8 : decode cX8_init 8 = .ok (.newarray .int, 2) := by decide +kernel
theorem dX8_init_10 : decode cX8_init 10 = .ok (.putfield 11, 3) := by decide +kernel
theorem dX8_init_13 : decode cX8_init 13 = .ok (.aload_n 0, 1) := by decide +kernel
theorem dX8_init_14 : decode cX8_init 14 = .ok (.iconst 0, 1) := by decide +kernel
theorem dX8_init_15 : decode cX8_init 15 = .ok (.putfield 15, 3) := by decide +kernel
theorem dX8_init_18 : decode cX8_init 18 = .ok (.aload_n 0, 1) := by decide +kernel
theorem dX8_init_19 : decode cX8_init 19 = .ok (.iconst 0, 1) := by decide +kernel
theorem dX8_init_20 : decode cX8_init 20 = .ok (.putfield 19, 3) := by decide +kernel
theorem dX8_init_23 : decode cX8_init 23 = .ok (.aload_n 0, 1) := by decide +kernel
theorem dX8_init_24 : decode cX8_init 24 = .ok (.iconst 0, 1) := by decide +kernel
theorem dX8_init_25 : decode cX8_init 25 = .ok (.putfield 22, 3) := by decide +kernel
theorem dX8_init_28 : decode cX8_init 28 = .ok (.aload_n 0, 1) := by decide +kernel
theorem dX8_init_29 : decode cX8_init 29 = .ok (.iconst 0, 1) := by decide +kernel
theorem dX8_init_30 : decode cX8_init 30 = .ok (.putfield 25, 3) := by decide +kernel
theorem dX8_init_33 : decode cX8_init 33 = .ok (.aload_n 0, 1) := by decide +kernel
theorem dX8_init_34 : decode cX8_init 34 = .ok (.iconst 0, 1) := by decide +kernel
theorem dX8_init_35 : decode cX8_init 35 = .ok (.putfield 28, 3) := by decide +kernel
theorem dX8_init_38 : decode cX8_init 38 = .ok (.aload_n 0, 1) := by decide +kernel
theorem dX8_init_39 : decode cX8_init 39 = .ok (.lconst 0, 1) := by decide +kernel
theorem dX8_init_40 : decode cX8_init 40 = .ok (.putfield 31, 3) := by decide +kernel
theorem dX8_init_43 : decode cX8_init 43 = .ok (.aload_n 0, 1) := by decide +kernel
theorem dX8_init_44 : decode cX8_init 44 = .ok (.iconst (-1), 1) := by decide +kernel
theorem dX8_init_45 : decode cX8_init 45 = .ok (.putfield 35, 3) := by decide +kernel
theorem dX8_init_48 : decode cX8_init 48 = .ok (.aload_n 0, 1) := by decide +kernel
theorem dX8_init_49 : decode cX8_init 49 = .ok (.iconst 0, 1) := by decide +kernel
theorem dX8_init_50 : decode cX8_init 50 = .ok (.putfield 38, 3) := by decide +kernel
theorem dX8_init_53 : decode cX8_init 53 = .ok (.aload_n 0, 1) := by decide +kernel
theorem dX8_init_54 : decode cX8_init 54 = .ok (.iconst 0, 1) := by decide +kernel
theorem dX8_init_55 : decode cX8_init 55 = .ok (.putfield 41, 3) := by decide +kernel
theorem dX8_init_58 : decode cX8_init 58 = .ok (.aload_n 0, 1) := by decide +kernel
theorem dX8_init_59 : decode cX8_init 59 = .ok (.iconst 0, 1) := by decide +kernel
theorem dX8_init_60 : decode cX8_init 60 = .ok (.putfield 44, 3) := by decide +kernel
theorem dX8_init_63 : decode cX8_init 63 = .ok (.aload_n 0, 1) := by decide +kernel
theorem dX8_init_64 : decode cX8_init 64 = .ok (.iconst 0, 1) := by decide +kernel
theorem dX8_init_65 : decode cX8_init 65 = .ok (.putfield 47, 3) := by decide +kernel
theorem dX8_init_68 : decode cX8_init 68 = .ok (.return_, 1) := by decide +kernel
theorem dX8_putInt_0 : decode cX8_putInt 0 = .ok (.bipush 24, 2) := by decide +kernel
theorem dX8_putInt_2 : decode cX8_putInt 2 = .ok (.istore_n 2, 1) := by decide +kernel
theorem dX8_putInt_3 : decode cX8_putInt 3 = .ok (.iload_n 2, 1) := by decide +kernel
theorem dX8_putInt_4 : decode cX8_putInt 4 = .ok (.ifCond .lt 45, 3) := by decide +kernel
theorem dX8_putInt_7 : decode cX8_putInt 7 = .ok (.aload_n 0, 1) := by decide +kernel
theorem dX8_putInt_8 : decode cX8_putInt 8 = .ok (.getfield 15, 3) := by decide +kernel
theorem dX8_putInt_11 : decode cX8_putInt 11 = .ok (.sipush 940, 3) := by decide +kernel
theorem dX8_putInt_14 : decode cX8_putInt 14 = .ok (.if_icmp .ge 29, 3) := by decide +kernel
theorem dX8_putInt_17 : decode cX8_putInt 17 = .ok (.aload_n 0, 1) := by decide +kernel
theorem dX8_putInt_18 : decode cX8_putInt 18 = .ok (.getfield 11, 3) := by decide +kernel
theorem dX8_putInt_21 : decode cX8_putInt 21 = .ok (.aload_n 0, 1) := by decide +kernel
theorem dX8_putInt_22 : decode cX8_putInt 22 = .ok (.getfield 15, 3) := by decide +kernel
theorem dX8_putInt_25 : decode cX8_putInt 25 = .ok (.iload_n 1, 1) := by decide +kernel
theorem dX8_putInt_26 : decode cX8_putInt 26 = .ok (.iload_n 2, 1) := by decide +kernel
theorem dX8_putInt_27 : decode cX8_putInt 27 = .ok (.iushr, 1) := by decide +kernel
theorem dX8_putInt_28 : decode cX8_putInt 28 = .ok (.sipush 255, 3) := by decide +kernel
theorem dX8_putInt_31 : decode cX8_putInt 31 = .ok (.iand, 1) := by decide +kernel
theorem dX8_putInt_32 : decode cX8_putInt 32 = .ok (.iastore, 1) := by decide +kernel
theorem dX8_putInt_33 : decode cX8_putInt 33 = .ok (.aload_n 0, 1) := by decide +kernel
theorem dX8_putInt_34 : decode cX8_putInt 34 = .ok (.dup, 1) := by decide +kernel
theorem dX8_putInt_35 : decode cX8_putInt 35 = .ok (.getfield 15, 3) := by decide +kernel
theorem dX8_putInt_38 : decode cX8_putInt 38 = .ok (.iconst 1, 1) := by decide +kernel
theorem dX8_putInt_39 : decode cX8_putInt 39 = .ok (.iadd, 1) := by decide +kernel
theorem dX8_putInt_40 : decode cX8_putInt 40 = .ok (.putfield 15, 3) := by decide +kernel
theorem dX8_putInt_43 : decode cX8_putInt 43 = .ok (.iinc 2 (-8), 3) := by decide +kernel
theorem dX8_putInt_46 : decode cX8_putInt 46 = .ok (.goto (-43), 3) := by decide +kernel
theorem dX8_putInt_49 : decode cX8_putInt 49 = .ok (.return_, 1) := by decide +kernel
theorem dX8_byteOf_0 : decode cX8_byteOf 0 = .ok (.iload_n 1, 1) := by decide +kernel
theorem dX8_byteOf_1 : decode cX8_byteOf 1 = .ok (.ifCond .lt 20, 3) := by decide +kernel
theorem dX8_byteOf_4 : decode cX8_byteOf 4 = .ok (.iload_n 1, 1) := by decide +kernel
theorem dX8_byteOf_5 : decode cX8_byteOf 5 = .ok (.aload_n 0, 1) := by decide +kernel
theorem dX8_byteOf_6 : decode cX8_byteOf 6 = .ok (.getfield 15, 3) := by decide +kernel
theorem dX8_byteOf_9 : decode cX8_byteOf 9 = .ok (.if_icmp .ge 12, 3) := by decide +kernel
theorem dX8_byteOf_12 : decode cX8_byteOf 12 = .ok (.aload_n 0, 1) := by decide +kernel
theorem dX8_byteOf_13 : decode cX8_byteOf 13 = .ok (.getfield 11, 3) := by decide +kernel
theorem dX8_byteOf_16 : decode cX8_byteOf 16 = .ok (.iload_n 1, 1) := by decide +kernel
theorem dX8_byteOf_17 : decode cX8_byteOf 17 = .ok (.iaload, 1) := by decide +kernel
theorem dX8_byteOf_18 : decode cX8_byteOf 18 = .ok (.goto 4, 3) := by decide +kernel
theorem dX8_byteOf_21 : decode cX8_byteOf 21 = .ok (.iconst (-1), 1) := by decide +kernel
theorem dX8_byteOf_22 : decode cX8_byteOf 22 = .ok (.ireturn, 1) := by decide +kernel
theorem dX8_begin_0 : decode cX8_begin 0 = .ok (.aload_n 0, 1) := by decide +kernel
theorem dX8_begin_1 : decode cX8_begin 1 = .ok (.iload_n 1, 1) := by decide +kernel
theorem dX8_begin_2 : decode cX8_begin 2 = .ok (.putfield 19, 3) := by decide +kernel
theorem dX8_begin_5 : decode cX8_begin 5 = .ok (.aload_n 0, 1) := by decide +kernel
theorem dX8_begin_6 : decode cX8_begin 6 = .ok (.iconst 0, 1) := by decide +kernel
theorem dX8_begin_7 : decode cX8_begin 7 = .ok (.putfield 44, 3) := by decide +kernel
theorem dX8_begin_10 : decode cX8_begin 10 = .ok (.aload_n 0, 1) := by decide +kernel
theorem dX8_begin_11 : decode cX8_begin 11 = .ok (.iconst 0, 1) := by decide +kernel
theorem dX8_begin_12 : decode cX8_begin 12 = .ok (.putfield 22, 3) := by decide +kernel
theorem dX8_begin_15 : decode cX8_begin 15 = .ok (.aload_n 0, 1) := by decide +kernel
theorem dX8_begin_16 : decode cX8_begin 16 = .ok (.invokevirtual 50, 3) := by decide +kernel
theorem dX8_begin_19 : decode cX8_begin 19 = .ok (.return_, 1) := by decide +kernel
theorem dX8_advance_0 : decode cX8_advance 0 = .ok (.iconst 0, 1) := by decide +kernel
theorem dX8_advance_1 : decode cX8_advance 1 = .ok (.istore_n 1, 1) := by decide +kernel
theorem dX8_advance_2 : decode cX8_advance 2 = .ok (.iload_n 1, 1) := by decide +kernel
theorem dX8_advance_3 : decode cX8_advance 3 = .ok (.sipush 940, 3) := by decide +kernel
theorem dX8_advance_6 : decode cX8_advance 6 = .ok (.if_icmp .ge 33, 3) := by decide +kernel
theorem dX8_advance_9 : decode cX8_advance 9 = .ok (.aload_n 0, 1) := by decide +kernel
theorem dX8_advance_10 : decode cX8_advance 10 = .ok (.aload_n 0, 1) := by decide +kernel
theorem dX8_advance_11 : decode cX8_advance 11 = .ok (.getfield 22, 3) := by decide +kernel
theorem dX8_advance_14 : decode cX8_advance 14 = .ok (.invokevirtual 53, 3) := by decide +kernel
theorem dX8_advance_17 : decode cX8_advance 17 = .ok (.invokestatic 57, 3) := by decide +kernel
theorem dX8_advance_20 : decode cX8_advance 20 = .ok (.ifCond .eq 19, 3) := by decide +kernel
theorem dX8_advance_23 : decode cX8_advance 23 = .ok (.aload_n 0, 1) := by decide +kernel
theorem dX8_advance_24 : decode cX8_advance 24 = .ok (.dup, 1) := by decide +kernel
theorem dX8_advance_25 : decode cX8_advance 25 = .ok (.getfield 22, 3) := by decide +kernel
theorem dX8_advance_28 : decode cX8_advance 28 = .ok (.iconst 1, 1) := by decide +kernel
theorem dX8_advance_29 : decode cX8_advance 29 = .ok (.iadd, 1) := by decide +kernel
theorem dX8_advance_30 : decode cX8_advance 30 = .ok (.putfield 22, 3) := by decide +kernel
theorem dX8_advance_33 : decode cX8_advance 33 = .ok (.iinc 1 1, 3) := by decide +kernel
theorem dX8_advance_36 : decode cX8_advance 36 = .ok (.goto (-34), 3) := by decide +kernel
theorem dX8_advance_39 : decode cX8_advance 39 = .ok (.aload_n 0, 1) := by decide +kernel
theorem dX8_advance_40 : decode cX8_advance 40 = .ok (.aload_n 0, 1) := by decide +kernel
theorem dX8_advance_41 : decode cX8_advance 41 = .ok (.getfield 22, 3) := by decide +kernel
theorem dX8_advance_44 : decode cX8_advance 44 = .ok (.putfield 28, 3) := by decide +kernel
theorem dX8_advance_47 : decode cX8_advance 47 = .ok (.aload_n 0, 1) := by decide +kernel
theorem dX8_advance_48 : decode cX8_advance 48 = .ok (.getfield 15, 3) := by decide +kernel
theorem dX8_advance_51 : decode cX8_advance 51 = .ok (.aload_n 0, 1) := by decide +kernel
theorem dX8_advance_52 : decode cX8_advance 52 = .ok (.getfield 19, 3) := by decide +kernel
theorem dX8_advance_55 : decode cX8_advance 55 = .ok (.if_icmp .le 30, 3) := by decide +kernel
theorem dX8_advance_58 : decode cX8_advance 58 = .ok (.aload_n 0, 1) := by decide +kernel
theorem dX8_advance_59 : decode cX8_advance 59 = .ok (.getfield 22, 3) := by decide +kernel
theorem dX8_advance_62 : decode cX8_advance 62 = .ok (.aload_n 0, 1) := by decide +kernel
theorem dX8_advance_63 : decode cX8_advance 63 = .ok (.getfield 19, 3) := by decide +kernel
theorem dX8_advance_66 : decode cX8_advance 66 = .ok (.if_icmp .lt 19, 3) := by decide +kernel
theorem dX8_advance_69 : decode cX8_advance 69 = .ok (.aload_n 0, 1) := by decide +kernel
theorem dX8_advance_70 : decode cX8_advance 70 = .ok (.aload_n 0, 1) := by decide +kernel
theorem dX8_advance_71 : decode cX8_advance 71 = .ok (.getfield 19, 3) := by decide +kernel
theorem dX8_advance_74 : decode cX8_advance 74 = .ok (.putfield 28, 3) := by decide +kernel
theorem dX8_advance_77 : decode cX8_advance 77 = .ok (.aload_n 0, 1) := by decide +kernel
theorem dX8_advance_78 : decode cX8_advance 78 = .ok (.iconst 4, 1) := by decide +kernel
theorem dX8_advance_79 : decode cX8_advance 79 = .ok (.putfield 25, 3) := by decide +kernel
theorem dX8_advance_82 : decode cX8_advance 82 = .ok (.goto 84, 3) := by decide +kernel
theorem dX8_advance_85 : decode cX8_advance 85 = .ok (.aload_n 0, 1) := by decide +kernel
theorem dX8_advance_86 : decode cX8_advance 86 = .ok (.getfield 22, 3) := by decide +kernel
theorem dX8_advance_89 : decode cX8_advance 89 = .ok (.aload_n 0, 1) := by decide +kernel
theorem dX8_advance_90 : decode cX8_advance 90 = .ok (.getfield 15, 3) := by decide +kernel
theorem dX8_advance_93 : decode cX8_advance 93 = .ok (.if_icmp .lt 11, 3) := by decide +kernel
theorem dX8_advance_96 : decode cX8_advance 96 = .ok (.aload_n 0, 1) := by decide +kernel
theorem dX8_advance_97 : decode cX8_advance 97 = .ok (.iconst 0, 1) := by decide +kernel
theorem dX8_advance_98 : decode cX8_advance 98 = .ok (.putfield 25, 3) := by decide +kernel
theorem dX8_advance_101 : decode cX8_advance 101 = .ok (.goto 65, 3) := by decide +kernel
theorem dX8_advance_104 : decode cX8_advance 104 = .ok (.aload_n 0, 1) := by decide +kernel
theorem dX8_advance_105 : decode cX8_advance 105 = .ok (.aload_n 0, 1) := by decide +kernel
theorem dX8_advance_106 : decode cX8_advance 106 = .ok (.getfield 22, 3) := by decide +kernel
theorem dX8_advance_109 : decode cX8_advance 109 = .ok (.invokevirtual 53, 3) := by decide +kernel
theorem dX8_advance_112 : decode cX8_advance 112 = .ok (.invokestatic 61, 3) := by decide +kernel
theorem dX8_advance_115 : decode cX8_advance 115 = .ok (.ifCond .eq 10, 3) := by decide +kernel
theorem dX8_advance_118 : decode cX8_advance 118 = .ok (.aload_n 0, 1) := by decide +kernel
theorem dX8_advance_119 : decode cX8_advance 119 = .ok (.invokevirtual 64, 3) := by decide +kernel
theorem dX8_advance_122 : decode cX8_advance 122 = .ok (.goto 44, 3) := by decide +kernel
theorem dX8_advance_125 : decode cX8_advance 125 = .ok (.aload_n 0, 1) := by decide +kernel
theorem dX8_advance_126 : decode cX8_advance 126 = .ok (.aload_n 0, 1) := by decide +kernel
theorem dX8_advance_127 : decode cX8_advance 127 = .ok (.aload_n 0, 1) := by decide +kernel
theorem dX8_advance_128 : decode cX8_advance 128 = .ok (.getfield 22, 3) := by decide +kernel
theorem dX8_advance_131 : decode cX8_advance 131 = .ok (.invokevirtual 53, 3) := by decide +kernel
theorem dX8_advance_134 : decode cX8_advance 134 = .ok (.putfield 41, 3) := by decide +kernel
theorem dX8_advance_137 : decode cX8_advance 137 = .ok (.aload_n 0, 1) := by decide +kernel
theorem dX8_advance_138 : decode cX8_advance 138 = .ok (.aload_n 0, 1) := by decide +kernel
theorem dX8_advance_139 : decode cX8_advance 139 = .ok (.getfield 41, 3) := by decide +kernel
theorem dX8_advance_142 : decode cX8_advance 142 = .ok (.invokestatic 67, 3) := by decide +kernel
theorem dX8_advance_145 : decode cX8_advance 145 = .ok (.ifCond .eq 7, 3) := by decide +kernel
theorem dX8_advance_148 : decode cX8_advance 148 = .ok (.iconst 3, 1) := by decide +kernel
theorem dX8_advance_149 : decode cX8_advance 149 = .ok (.goto 4, 3) := by decide +kernel
theorem dX8_advance_152 : decode cX8_advance 152 = .ok (.iconst 4, 1) := by decide +kernel
theorem dX8_advance_153 : decode cX8_advance 153 = .ok (.putfield 25, 3) := by decide +kernel
theorem dX8_advance_156 : decode cX8_advance 156 = .ok (.aload_n 0, 1) := by decide +kernel
theorem dX8_advance_157 : decode cX8_advance 157 = .ok (.dup, 1) := by decide +kernel
theorem dX8_advance_158 : decode cX8_advance 158 = .ok (.getfield 22, 3) := by decide +kernel
theorem dX8_advance_161 : decode cX8_advance 161 = .ok (.iconst 1, 1) := by decide +kernel
theorem dX8_advance_162 : decode cX8_advance 162 = .ok (.iadd, 1) := by decide +kernel
theorem dX8_advance_163 : decode cX8_advance 163 = .ok (.putfield 22, 3) := by decide +kernel
theorem dX8_advance_166 : decode cX8_advance 166 = .ok (.return_, 1) := by decide +kernel
theorem dX8_isBlank_0 : decode cX8_isBlank 0 = .ok (.iload_n 0, 1) := by decide +kernel
theorem dX8_isBlank_1 : decode cX8_isBlank 1 = .ok (.bipush 32, 2) := by decide +kernel
theorem dX8_isBlank_3 : decode cX8_isBlank 3 = .ok (.if_icmp .eq 9, 3) := by decide +kernel
theorem dX8_isBlank_6 : decode cX8_isBlank 6 = .ok (.iload_n 0, 1) := by decide +kernel
theorem dX8_isBlank_7 : decode cX8_isBlank 7 = .ok (.bipush 10, 2) := by decide +kernel
theorem dX8_isBlank_9 : decode cX8_isBlank 9 = .ok (.if_icmp .ne 7, 3) := by decide +kernel
theorem dX8_isBlank_12 : decode cX8_isBlank 12 = .ok (.iconst 1, 1) := by decide +kernel
theorem dX8_isBlank_13 : decode cX8_isBlank 13 = .ok (.goto 4, 3) := by decide +kernel
theorem dX8_isBlank_16 : decode cX8_isBlank 16 = .ok (.iconst 0, 1) := by decide +kernel
theorem dX8_isBlank_17 : decode cX8_isBlank 17 = .ok (.ireturn, 1) := by decide +kernel
theorem dX8_goesOn_0 : decode cX8_goesOn 0 = .ok (.iload_n 0, 1) := by decide +kernel
theorem dX8_goesOn_1 : decode cX8_goesOn 1 = .ok (.bipush 97, 2) := by decide +kernel
theorem dX8_goesOn_3 : decode cX8_goesOn 3 = .ok (.if_icmp .lt 9, 3) := by decide +kernel
theorem dX8_goesOn_6 : decode cX8_goesOn 6 = .ok (.iload_n 0, 1) := by decide +kernel
theorem dX8_goesOn_7 : decode cX8_goesOn 7 = .ok (.bipush 122, 2) := by decide +kernel
theorem dX8_goesOn_9 : decode cX8_goesOn 9 = .ok (.if_icmp .le 15, 3) := by decide +kernel
theorem dX8_goesOn_12 : decode cX8_goesOn 12 = .ok (.iload_n 0, 1) := by decide +kernel
theorem dX8_goesOn_13 : decode cX8_goesOn 13 = .ok (.bipush 48, 2) := by decide +kernel
theorem dX8_goesOn_15 : decode cX8_goesOn 15 = .ok (.if_icmp .lt 13, 3) := by decide +kernel
theorem dX8_goesOn_18 : decode cX8_goesOn 18 = .ok (.iload_n 0, 1) := by decide +kernel
theorem dX8_goesOn_19 : decode cX8_goesOn 19 = .ok (.bipush 57, 2) := by decide +kernel
theorem dX8_goesOn_21 : decode cX8_goesOn 21 = .ok (.if_icmp .gt 7, 3) := by decide +kernel
theorem dX8_goesOn_24 : decode cX8_goesOn 24 = .ok (.iconst 1, 1) := by decide +kernel
theorem dX8_goesOn_25 : decode cX8_goesOn 25 = .ok (.goto 4, 3) := by decide +kernel
theorem dX8_goesOn_28 : decode cX8_goesOn 28 = .ok (.iconst 0, 1) := by decide +kernel
theorem dX8_goesOn_29 : decode cX8_goesOn 29 = .ok (.ireturn, 1) := by decide +kernel
theorem dX8_isSignByte_0 : decode cX8_isSignByte 0 = .ok (.iload_n 0, 1) := by decide +kernel
theorem dX8_isSignByte_1 : decode cX8_isSignByte 1 = .ok (.bipush 59, 2) := by decide +kernel
theorem dX8_isSignByte_3 : decode cX8_isSignByte 3 = .ok (.if_icmp .eq 33, 3) := by decide +kernel
theorem dX8_isSignByte_6 : decode cX8_isSignByte 6 = .ok (.iload_n 0, 1) := by decide +kernel
theorem dX8_isSignByte_7 : decode cX8_isSignByte 7 = .ok (.bipush 60, 2) := by decide +kernel
theorem dX8_isSignByte_9 : decode cX8_isSignByte 9 = .ok (.if_icmp .eq 27, 3) := by decide +kernel
theorem dX8_isSignByte_12 : decode cX8_isSignByte 12 = .ok (.iload_n 0, 1) := by decide +kernel
theorem dX8_isSignByte_13 : decode cX8_isSignByte 13 = .ok (.bipush 61, 2) := by decide +kernel
theorem dX8_isSignByte_15 : decode cX8_isSignByte 15 = .ok (.if_icmp .eq 21, 3) := by decide +kernel
theorem dX8_isSignByte_18 : decode cX8_isSignByte 18 = .ok (.iload_n 0, 1) := by decide +kernel
theorem dX8_isSignByte_19 : decode cX8_isSignByte 19 = .ok (.bipush 62, 2) := by decide +kernel
theorem dX8_isSignByte_21 : decode cX8_isSignByte 21 = .ok (.if_icmp .eq 15, 3) := by decide +kernel
theorem dX8_isSignByte_24 : decode cX8_isSignByte 24 = .ok (.iload_n 0, 1) := by decide +kernel
theorem dX8_isSignByte_25 : decode cX8_isSignByte 25 = .ok (.bipush 40, 2) := by decide +kernel
theorem dX8_isSignByte_27 : decode cX8_isSignByte 27 = .ok (.if_icmp .eq 9, 3) := by decide +kernel
theorem dX8_isSignByte_30 : decode cX8_isSignByte 30 = .ok (.iload_n 0, 1) := by decide +kernel
theorem dX8_isSignByte_31 : decode cX8_isSignByte 31 = .ok (.bipush 41, 2) := by decide +kernel
theorem dX8_isSignByte_33 : decode cX8_isSignByte 33 = .ok (.if_icmp .ne 7, 3) := by decide +kernel
theorem dX8_isSignByte_36 : decode cX8_isSignByte 36 = .ok (.iconst 1, 1) := by decide +kernel
theorem dX8_isSignByte_37 : decode cX8_isSignByte 37 = .ok (.goto 4, 3) := by decide +kernel
theorem dX8_isSignByte_40 : decode cX8_isSignByte 40 = .ok (.iconst 0, 1) := by decide +kernel
theorem dX8_isSignByte_41 : decode cX8_isSignByte 41 = .ok (.ireturn, 1) := by decide +kernel
theorem dX8_readRun_0 : decode cX8_readRun 0 = .ok (.iconst 0, 1) := by decide +kernel
theorem dX8_readRun_1 : decode cX8_readRun 1 = .ok (.istore_n 1, 1) := by decide +kernel
theorem dX8_readRun_2 : decode cX8_readRun 2 = .ok (.iconst 0, 1) := by decide +kernel
theorem dX8_readRun_3 : decode cX8_readRun 3 = .ok (.istore_n 2, 1) := by decide +kernel
theorem dX8_readRun_4 : decode cX8_readRun 4 = .ok (.aload_n 0, 1) := by decide +kernel
theorem dX8_readRun_5 : decode cX8_readRun 5 = .ok (.lconst 0, 1) := by decide +kernel
theorem dX8_readRun_6 : decode cX8_readRun 6 = .ok (.putfield 31, 3) := by decide +kernel
theorem dX8_readRun_9 : decode cX8_readRun 9 = .ok (.aload_n 0, 1) := by decide +kernel
theorem dX8_readRun_10 : decode cX8_readRun 10 = .ok (.iconst 0, 1) := by decide +kernel
theorem dX8_readRun_11 : decode cX8_readRun 11 = .ok (.putfield 38, 3) := by decide +kernel
theorem dX8_readRun_14 : decode cX8_readRun 14 = .ok (.iconst 0, 1) := by decide +kernel
theorem dX8_readRun_15 : decode cX8_readRun 15 = .ok (.istore_n 3, 1) := by decide +kernel
theorem dX8_readRun_16 : decode cX8_readRun 16 = .ok (.iload_n 3, 1) := by decide +kernel
theorem dX8_readRun_17 : decode cX8_readRun 17 = .ok (.sipush 940, 3) := by decide +kernel
theorem dX8_readRun_20 : decode cX8_readRun 20 = .ok (.if_icmp .ge 95, 3) := by decide +kernel
theorem dX8_readRun_23 : decode cX8_readRun 23 = .ok (.aload_n 0, 1) := by decide +kernel
theorem dX8_readRun_24 : decode cX8_readRun 24 = .ok (.aload_n 0, 1) := by decide +kernel
theorem dX8_readRun_25 : decode cX8_readRun 25 = .ok (.getfield 22, 3) := by decide +kernel
theorem dX8_readRun_28 : decode cX8_readRun 28 = .ok (.invokevirtual 53, 3) := by decide +kernel
theorem dX8_readRun_31 : decode cX8_readRun 31 = .ok (.invokestatic 61, 3) := by decide +kernel
theorem dX8_readRun_34 : decode cX8_readRun 34 = .ok (.ifCond .eq 81, 3) := by decide +kernel
theorem dX8_readRun_37 : decode cX8_readRun 37 = .ok (.aload_n 0, 1) := by decide +kernel
theorem dX8_readRun_38 : decode cX8_readRun 38 = .ok (.aload_n 0, 1) := by decide +kernel
theorem dX8_readRun_39 : decode cX8_readRun 39 = .ok (.getfield 22, 3) := by decide +kernel
theorem dX8_readRun_42 : decode cX8_readRun 42 = .ok (.invokevirtual 53, 3) := by decide +kernel
theorem dX8_readRun_45 : decode cX8_readRun 45 = .ok (.istore 4, 2) := by decide +kernel
theorem dX8_readRun_47 : decode cX8_readRun 47 = .ok (.iload 4, 2) := by decide +kernel
theorem dX8_readRun_49 : decode cX8_readRun 49 = .ok (.bipush 97, 2) := by decide +kernel
theorem dX8_readRun_51 : decode cX8_readRun 51 = .ok (.if_icmp .lt 28, 3) := by decide +kernel
theorem dX8_readRun_54 : decode cX8_readRun 54 = .ok (.iinc 1 1, 3) := by decide +kernel
theorem dX8_readRun_57 : decode cX8_readRun 57 = .ok (.aload_n 0, 1) := by decide +kernel
theorem dX8_readRun_58 : decode cX8_readRun 58 = .ok (.aload_n 0, 1) := by decide +kernel
theorem dX8_readRun_59 : decode cX8_readRun 59 = .ok (.getfield 31, 3) := by decide +kernel
theorem dX8_readRun_62 : decode cX8_readRun 62 = .ok (.ldc2_w 70, 3) := by decide +kernel
theorem dX8_readRun_65 : decode cX8_readRun 65 = .ok (.lmul, 1) := by decide +kernel
theorem dX8_readRun_66 : decode cX8_readRun 66 = .ok (.iload 4, 2) := by decide +kernel
theorem dX8_readRun_68 : decode cX8_readRun 68 = .ok (.bipush 96, 2) := by decide +kernel
theorem dX8_readRun_70 : decode cX8_readRun 70 = .ok (.isub, 1) := by decide +kernel
theorem dX8_readRun_71 : decode cX8_readRun 71 = .ok (.i2l, 1) := by decide +kernel
theorem dX8_readRun_72 : decode cX8_readRun 72 = .ok (.ladd, 1) := by decide +kernel
theorem dX8_readRun_73 : decode cX8_readRun 73 = .ok (.putfield 31, 3) := by decide +kernel
theorem dX8_readRun_76 : decode cX8_readRun 76 = .ok (.goto 23, 3) := by decide +kernel
theorem dX8_readRun_79 : decode cX8_readRun 79 = .ok (.iinc 2 1, 3) := by decide +kernel
theorem dX8_readRun_82 : decode cX8_readRun 82 = .ok (.aload_n 0, 1) := by decide +kernel
theorem dX8_readRun_83 : decode cX8_readRun 83 = .ok (.aload_n 0, 1) := by decide +kernel
theorem dX8_readRun_84 : decode cX8_readRun 84 = .ok (.getfield 38, 3) := by decide +kernel
theorem dX8_readRun_87 : decode cX8_readRun 87 = .ok (.bipush 10, 2) := by decide +kernel
theorem dX8_readRun_89 : decode cX8_readRun 89 = .ok (.imul, 1) := by decide +kernel
theorem dX8_readRun_90 : decode cX8_readRun 90 = .ok (.iload 4, 2) := by decide +kernel
theorem dX8_readRun_92 : decode cX8_readRun 92 = .ok (.bipush 48, 2) := by decide +kernel
theorem dX8_readRun_94 : decode cX8_readRun 94 = .ok (.isub, 1) := by decide +kernel
theorem dX8_readRun_95 : decode cX8_readRun 95 = .ok (.iadd, 1) := by decide +kernel
theorem dX8_readRun_96 : decode cX8_readRun 96 = .ok (.putfield 38, 3) := by decide +kernel
theorem dX8_readRun_99 : decode cX8_readRun 99 = .ok (.aload_n 0, 1) := by decide +kernel
theorem dX8_readRun_100 : decode cX8_readRun 100 = .ok (.dup, 1) := by decide +kernel
theorem dX8_readRun_101 : decode cX8_readRun 101 = .ok (.getfield 22, 3) := by decide +kernel
theorem dX8_readRun_104 : decode cX8_readRun 104 = .ok (.iconst 1, 1) := by decide +kernel
theorem dX8_readRun_105 : decode cX8_readRun 105 = .ok (.iadd, 1) := by decide +kernel
theorem dX8_readRun_106 : decode cX8_readRun 106 = .ok (.putfield 22, 3) := by decide +kernel
theorem dX8_readRun_109 : decode cX8_readRun 109 = .ok (.iinc 3 1, 3) := by decide +kernel
theorem dX8_readRun_112 : decode cX8_readRun 112 = .ok (.goto (-96), 3) := by decide +kernel
theorem dX8_readRun_115 : decode cX8_readRun 115 = .ok (.iload_n 2, 1) := by decide +kernel
theorem dX8_readRun_116 : decode cX8_readRun 116 = .ok (.ifCond .ne 28, 3) := by decide +kernel
theorem dX8_readRun_119 : decode cX8_readRun 119 = .ok (.iload_n 1, 1) := by decide +kernel
theorem dX8_readRun_120 : decode cX8_readRun 120 = .ok (.bipush 7, 2) := by decide +kernel
theorem dX8_readRun_122 : decode cX8_readRun 122 = .ok (.if_icmp .gt 22, 3) := by decide +kernel
theorem dX8_readRun_125 : decode cX8_readRun 125 = .ok (.aload_n 0, 1) := by decide +kernel
theorem dX8_readRun_126 : decode cX8_readRun 126 = .ok (.iconst 1, 1) := by decide +kernel
theorem dX8_readRun_127 : decode cX8_readRun 127 = .ok (.putfield 25, 3) := by decide +kernel
theorem dX8_readRun_130 : decode cX8_readRun 130 = .ok (.aload_n 0, 1) := by decide +kernel
theorem dX8_readRun_131 : decode cX8_readRun 131 = .ok (.aload_n 0, 1) := by decide +kernel
theorem dX8_readRun_132 : decode cX8_readRun 132 = .ok (.getfield 31, 3) := by decide +kernel
theorem dX8_readRun_135 : decode cX8_readRun 135 = .ok (.invokestatic 72, 3) := by decide +kernel
theorem dX8_readRun_138 : decode cX8_readRun 138 = .ok (.putfield 35, 3) := by decide +kernel
theorem dX8_readRun_141 : decode cX8_readRun 141 = .ok (.goto 21, 3) := by decide +kernel
theorem dX8_readRun_144 : decode cX8_readRun 144 = .ok (.aload_n 0, 1) := by decide +kernel
theorem dX8_readRun_145 : decode cX8_readRun 145 = .ok (.iload_n 1, 1) := by decide +kernel
theorem dX8_readRun_146 : decode cX8_readRun 146 = .ok (.ifCond .ne 12, 3) := by decide +kernel
theorem dX8_readRun_149 : decode cX8_readRun 149 = .ok (.iload_n 2, 1) := by decide +kernel
theorem dX8_readRun_150 : decode cX8_readRun 150 = .ok (.iconst 3, 1) := by decide +kernel
theorem dX8_readRun_151 : decode cX8_readRun 151 = .ok (.if_icmp .gt 7, 3) := by decide +kernel
theorem dX8_readRun_154 : decode cX8_readRun 154 = .ok (.iconst 2, 1) := by decide +kernel
theorem dX8_readRun_155 : decode cX8_readRun 155 = .ok (.goto 4, 3) := by decide +kernel
theorem dX8_readRun_158 : decode cX8_readRun 158 = .ok (.iconst 4, 1) := by decide +kernel
theorem dX8_readRun_159 : decode cX8_readRun 159 = .ok (.putfield 25, 3) := by decide +kernel
theorem dX8_readRun_162 : decode cX8_readRun 162 = .ok (.return_, 1) := by decide +kernel
theorem dX8_wordOf_0 : decode cX8_wordOf 0 = .ok (.lconst 0, 1) := by decide +kernel
theorem dX8_wordOf_1 : decode cX8_wordOf 1 = .ok (.lstore_n 2, 1) := by decide +kernel
theorem dX8_wordOf_2 : decode cX8_wordOf 2 = .ok (.iconst 0, 1) := by decide +kernel
theorem dX8_wordOf_3 : decode cX8_wordOf 3 = .ok (.istore 4, 2) := by decide +kernel
theorem dX8_wordOf_5 : decode cX8_wordOf 5 = .ok (.iconst 0, 1) := by decide +kernel
theorem dX8_wordOf_6 : decode cX8_wordOf 6 = .ok (.istore 5, 2) := by decide +kernel
theorem dX8_wordOf_8 : decode cX8_wordOf 8 = .ok (.iload 5, 2) := by decide +kernel
theorem dX8_wordOf_10 : decode cX8_wordOf 10 = .ok (.ldc 76, 2) := by decide +kernel
theorem dX8_wordOf_12 : decode cX8_wordOf 12 = .ok (.invokevirtual 78, 3) := by decide +kernel
theorem dX8_wordOf_15 : decode cX8_wordOf 15 = .ok (.if_icmp .ge 55, 3) := by decide +kernel
theorem dX8_wordOf_18 : decode cX8_wordOf 18 = .ok (.ldc 76, 2) := by decide +kernel
theorem dX8_wordOf_20 : decode cX8_wordOf 20 = .ok (.iload 5, 2) := by decide +kernel
theorem dX8_wordOf_22 : decode cX8_wordOf 22 = .ok (.invokevirtual 83, 3) := by decide +kernel
theorem dX8_wordOf_25 : decode cX8_wordOf 25 = .ok (.istore 6, 2) := by decide +kernel
theorem dX8_wordOf_27 : decode cX8_wordOf 27 = .ok (.iload 6, 2) := by decide +kernel
theorem dX8_wordOf_29 : decode cX8_wordOf 29 = .ok (.bipush 32, 2) := by decide +kernel
theorem dX8_wordOf_31 : decode cX8_wordOf 31 = .ok (.if_icmp .eq 19, 3) := by decide +kernel
theorem dX8_wordOf_34 : decode cX8_wordOf 34 = .ok (.lload_n 2, 1) := by decide +kernel
theorem dX8_wordOf_35 : decode cX8_wordOf 35 = .ok (.ldc2_w 70, 3) := by decide +kernel
theorem dX8_wordOf_38 : decode cX8_wordOf 38 = .ok (.lmul, 1) := by decide +kernel
theorem dX8_wordOf_39 : decode cX8_wordOf 39 = .ok (.iload 6, 2) := by decide +kernel
theorem dX8_wordOf_41 : decode cX8_wordOf 41 = .ok (.bipush 96, 2) := by decide +kernel
theorem dX8_wordOf_43 : decode cX8_wordOf 43 = .ok (.isub, 1) := by decide +kernel
