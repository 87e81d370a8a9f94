theorem dX12_isAddress_13 : decode cX12_isAddress 13 = .ok (.ireturn, 1) := by decide +kernel
theorem dX12_rowOf_0 : decode cX12_rowOf 0 = .ok (.aload_n 0, 1) := by decide +kernel
theorem dX12_rowOf_1 : decode cX12_rowOf 1 = .ok (.getfield 98, 3) := by decide +kernel
theorem dX12_rowOf_4 : decode cX12_rowOf 4 = .ok (.iconst 1, 1) := by decide +kernel
theorem dX12_rowOf_5 : decode cX12_rowOf 5 = .ok (.iaload, 1) := by decide +kernel
theorem dX12_rowOf_6 : decode cX12_rowOf 6 = .ok (.iconst 1, 1) := by decide +kernel
theorem dX12_rowOf_7 : decode cX12_rowOf 7 = .ok (.isub, 1) := by decide +kernel
theorem dX12_rowOf_8 : decode cX12_rowOf 8 = .ok (.istore_n 2, 1) := by decide +kernel
theorem dX12_rowOf_9 : decode cX12_rowOf 9 = .ok (.iload_n 2, 1) := by decide +kernel
theorem dX12_rowOf_10 : decode cX12_rowOf 10 = .ok (.ifCond .lt 22, 3) := by decide +kernel
theorem dX12_rowOf_13 : decode cX12_rowOf 13 = .ok (.aload_n 0, 1) := by decide +kernel
theorem dX12_rowOf_14 : decode cX12_rowOf 14 = .ok (.getfield 98, 3) := by decide +kernel
theorem dX12_rowOf_17 : decode cX12_rowOf 17 = .ok (.bipush 6, 2) := by decide +kernel
theorem dX12_rowOf_19 : decode cX12_rowOf 19 = .ok (.iload_n 2, 1) := by decide +kernel
theorem dX12_rowOf_20 : decode cX12_rowOf 20 = .ok (.iadd, 1) := by decide +kernel
theorem dX12_rowOf_21 : decode cX12_rowOf 21 = .ok (.iaload, 1) := by decide +kernel
theorem dX12_rowOf_22 : decode cX12_rowOf 22 = .ok (.iload_n 1, 1) := by decide +kernel
theorem dX12_rowOf_23 : decode cX12_rowOf 23 = .ok (.if_icmp .le 9, 3) := by decide +kernel
theorem dX12_rowOf_26 : decode cX12_rowOf 26 = .ok (.iinc 2 (-1), 3) := by decide +kernel
theorem dX12_rowOf_29 : decode cX12_rowOf 29 = .ok (.goto (-20), 3) := by decide +kernel
theorem dX12_rowOf_32 : decode cX12_rowOf 32 = .ok (.iload_n 2, 1) := by decide +kernel
theorem dX12_rowOf_33 : decode cX12_rowOf 33 = .ok (.ireturn, 1) := by decide +kernel
theorem dX12_lineOf_0 : decode cX12_lineOf 0 = .ok (.aload_n 0, 1) := by decide +kernel
theorem dX12_lineOf_1 : decode cX12_lineOf 1 = .ok (.iload_n 1, 1) := by decide +kernel
theorem dX12_lineOf_2 : decode cX12_lineOf 2 = .ok (.invokevirtual 261, 3) := by decide +kernel
theorem dX12_lineOf_5 : decode cX12_lineOf 5 = .ok (.iconst (-1), 1) := by decide +kernel
theorem dX12_lineOf_6 : decode cX12_lineOf 6 = .ok (.if_icmp .ne 7, 3) := by decide +kernel
theorem dX12_lineOf_9 : decode cX12_lineOf 9 = .ok (.iconst (-1), 1) := by decide +kernel
theorem dX12_lineOf_10 : decode cX12_lineOf 10 = .ok (.goto 16, 3) := by decide +kernel
theorem dX12_lineOf_13 : decode cX12_lineOf 13 = .ok (.aload_n 0, 1) := by decide +kernel
theorem dX12_lineOf_14 : decode cX12_lineOf 14 = .ok (.getfield 98, 3) := by decide +kernel
theorem dX12_lineOf_17 : decode cX12_lineOf 17 = .ok (.bipush 36, 2) := by decide +kernel
theorem dX12_lineOf_19 : decode cX12_lineOf 19 = .ok (.aload_n 0, 1) := by decide +kernel
theorem dX12_lineOf_20 : decode cX12_lineOf 20 = .ok (.iload_n 1, 1) := by decide +kernel
theorem dX12_lineOf_21 : decode cX12_lineOf 21 = .ok (.invokevirtual 261, 3) := by decide +kernel
theorem dX12_lineOf_24 : decode cX12_lineOf 24 = .ok (.iadd, 1) := by decide +kernel
theorem dX12_lineOf_25 : decode cX12_lineOf 25 = .ok (.iaload, 1) := by decide +kernel
theorem dX12_lineOf_26 : decode cX12_lineOf 26 = .ok (.ireturn, 1) := by decide +kernel
theorem dX12_rowEnd_0 : decode cX12_rowEnd 0 = .ok (.iload_n 1, 1) := by decide +kernel
theorem dX12_rowEnd_1 : decode cX12_rowEnd 1 = .ok (.aload_n 0, 1) := by decide +kernel
theorem dX12_rowEnd_2 : decode cX12_rowEnd 2 = .ok (.getfield 98, 3) := by decide +kernel
theorem dX12_rowEnd_5 : decode cX12_rowEnd 5 = .ok (.iconst 1, 1) := by decide +kernel
theorem dX12_rowEnd_6 : decode cX12_rowEnd 6 = .ok (.iaload, 1) := by decide +kernel
theorem dX12_rowEnd_7 : decode cX12_rowEnd 7 = .ok (.iconst 1, 1) := by decide +kernel
theorem dX12_rowEnd_8 : decode cX12_rowEnd 8 = .ok (.isub, 1) := by decide +kernel
theorem dX12_rowEnd_9 : decode cX12_rowEnd 9 = .ok (.if_icmp .ne 12, 3) := by decide +kernel
theorem dX12_rowEnd_12 : decode cX12_rowEnd 12 = .ok (.aload_n 0, 1) := by decide +kernel
theorem dX12_rowEnd_13 : decode cX12_rowEnd 13 = .ok (.getfield 98, 3) := by decide +kernel
theorem dX12_rowEnd_16 : decode cX12_rowEnd 16 = .ok (.iconst 0, 1) := by decide +kernel
theorem dX12_rowEnd_17 : decode cX12_rowEnd 17 = .ok (.iaload, 1) := by decide +kernel
theorem dX12_rowEnd_18 : decode cX12_rowEnd 18 = .ok (.goto 14, 3) := by decide +kernel
theorem dX12_rowEnd_21 : decode cX12_rowEnd 21 = .ok (.aload_n 0, 1) := by decide +kernel
theorem dX12_rowEnd_22 : decode cX12_rowEnd 22 = .ok (.getfield 98, 3) := by decide +kernel
theorem dX12_rowEnd_25 : decode cX12_rowEnd 25 = .ok (.bipush 6, 2) := by decide +kernel
theorem dX12_rowEnd_27 : decode cX12_rowEnd 27 = .ok (.iload_n 1, 1) := by decide +kernel
theorem dX12_rowEnd_28 : decode cX12_rowEnd 28 = .ok (.iadd, 1) := by decide +kernel
theorem dX12_rowEnd_29 : decode cX12_rowEnd 29 = .ok (.iconst 1, 1) := by decide +kernel
theorem dX12_rowEnd_30 : decode cX12_rowEnd 30 = .ok (.iadd, 1) := by decide +kernel
theorem dX12_rowEnd_31 : decode cX12_rowEnd 31 = .ok (.iaload, 1) := by decide +kernel
theorem dX12_rowEnd_32 : decode cX12_rowEnd 32 = .ok (.ireturn, 1) := by decide +kernel
theorem dX12_row_0 : decode cX12_row 0 = .ok (.aload_n 0, 1) := by decide +kernel
theorem dX12_row_1 : decode cX12_row 1 = .ok (.iconst 0, 1) := by decide +kernel
theorem dX12_row_2 : decode cX12_row 2 = .ok (.putfield 1, 3) := by decide +kernel
theorem dX12_row_5 : decode cX12_row 5 = .ok (.iload_n 1, 1) := by decide +kernel
theorem dX12_row_6 : decode cX12_row 6 = .ok (.iconst 0, 1) := by decide +kernel
theorem dX12_row_7 : decode cX12_row 7 = .ok (.aload_n 0, 1) := by decide +kernel
theorem dX12_row_8 : decode cX12_row 8 = .ok (.getfield 98, 3) := by decide +kernel
theorem dX12_row_11 : decode cX12_row 11 = .ok (.iconst 1, 1) := by decide +kernel
theorem dX12_row_12 : decode cX12_row 12 = .ok (.iaload, 1) := by decide +kernel
theorem dX12_row_13 : decode cX12_row 13 = .ok (.iconst 1, 1) := by decide +kernel
theorem dX12_row_14 : decode cX12_row 14 = .ok (.isub, 1) := by decide +kernel
theorem dX12_row_15 : decode cX12_row 15 = .ok (.invokestatic 75, 3) := by decide +kernel
theorem dX12_row_18 : decode cX12_row 18 = .ok (.ifCond .ne 5, 3) := by decide +kernel
theorem dX12_row_21 : decode cX12_row 21 = .ok (.iconst (-1), 1) := by decide +kernel
theorem dX12_row_22 : decode cX12_row 22 = .ok (.ireturn, 1) := by decide +kernel
theorem dX12_row_23 : decode cX12_row 23 = .ok (.iload_n 2, 1) := by decide +kernel
theorem dX12_row_24 : decode cX12_row 24 = .ok (.tableswitch 64 0 2 #[28, 38, 48], 28) := by decide +kernel
theorem dX12_row_52 : decode cX12_row 52 = .ok (.aload_n 0, 1) := by decide +kernel
theorem dX12_row_53 : decode cX12_row 53 = .ok (.getfield 98, 3) := by decide +kernel
theorem dX12_row_56 : decode cX12_row 56 = .ok (.bipush 6, 2) := by decide +kernel
theorem dX12_row_58 : decode cX12_row 58 = .ok (.iload_n 1, 1) := by decide +kernel
theorem dX12_row_59 : decode cX12_row 59 = .ok (.iadd, 1) := by decide +kernel
theorem dX12_row_60 : decode cX12_row 60 = .ok (.iaload, 1) := by decide +kernel
theorem dX12_row_61 : decode cX12_row 61 = .ok (.ireturn, 1) := by decide +kernel
theorem dX12_row_62 : decode cX12_row 62 = .ok (.aload_n 0, 1) := by decide +kernel
theorem dX12_row_63 : decode cX12_row 63 = .ok (.getfield 98, 3) := by decide +kernel
theorem dX12_row_66 : decode cX12_row 66 = .ok (.bipush 36, 2) := by decide +kernel
theorem dX12_row_68 : decode cX12_row 68 = .ok (.iload_n 1, 1) := by decide +kernel
theorem dX12_row_69 : decode cX12_row 69 = .ok (.iadd, 1) := by decide +kernel
theorem dX12_row_70 : decode cX12_row 70 = .ok (.iaload, 1) := by decide +kernel
theorem dX12_row_71 : decode cX12_row 71 = .ok (.ireturn, 1) := by decide +kernel
theorem dX12_row_72 : decode cX12_row 72 = .ok (.aload_n 0, 1) := by decide +kernel
theorem dX12_row_73 : decode cX12_row 73 = .ok (.iload_n 1, 1) := by decide +kernel
theorem dX12_row_74 : decode cX12_row 74 = .ok (.invokevirtual 264, 3) := by decide +kernel
theorem dX12_row_77 : decode cX12_row 77 = .ok (.aload_n 0, 1) := by decide +kernel
theorem dX12_row_78 : decode cX12_row 78 = .ok (.getfield 98, 3) := by decide +kernel
theorem dX12_row_81 : decode cX12_row 81 = .ok (.bipush 6, 2) := by decide +kernel
theorem dX12_row_83 : decode cX12_row 83 = .ok (.iload_n 1, 1) := by decide +kernel
theorem dX12_row_84 : decode cX12_row 84 = .ok (.iadd, 1) := by decide +kernel
theorem dX12_row_85 : decode cX12_row 85 = .ok (.iaload, 1) := by decide +kernel
theorem dX12_row_86 : decode cX12_row 86 = .ok (.isub, 1) := by decide +kernel
theorem dX12_row_87 : decode cX12_row 87 = .ok (.ireturn, 1) := by decide +kernel
theorem dX12_row_88 : decode cX12_row 88 = .ok (.iconst (-1), 1) := by decide +kernel
theorem dX12_row_89 : decode cX12_row 89 = .ok (.ireturn, 1) := by decide +kernel
theorem dX12_lineAt_0 : decode cX12_lineAt 0 = .ok (.aload_n 0, 1) := by decide +kernel
theorem dX12_lineAt_1 : decode cX12_lineAt 1 = .ok (.iconst 0, 1) := by decide +kernel
theorem dX12_lineAt_2 : decode cX12_lineAt 2 = .ok (.putfield 1, 3) := by decide +kernel
theorem dX12_lineAt_5 : decode cX12_lineAt 5 = .ok (.aload_n 0, 1) := by decide +kernel
theorem dX12_lineAt_6 : decode cX12_lineAt 6 = .ok (.iload_n 1, 1) := by decide +kernel
theorem dX12_lineAt_7 : decode cX12_lineAt 7 = .ok (.invokevirtual 267, 3) := by decide +kernel
theorem dX12_lineAt_10 : decode cX12_lineAt 10 = .ok (.ifCond .eq 11, 3) := by decide +kernel
theorem dX12_lineAt_13 : decode cX12_lineAt 13 = .ok (.aload_n 0, 1) := by decide +kernel
theorem dX12_lineAt_14 : decode cX12_lineAt 14 = .ok (.iload_n 1, 1) := by decide +kernel
theorem dX12_lineAt_15 : decode cX12_lineAt 15 = .ok (.invokevirtual 270, 3) := by decide +kernel
theorem dX12_lineAt_18 : decode cX12_lineAt 18 = .ok (.goto 4, 3) := by decide +kernel
theorem dX12_lineAt_21 : decode cX12_lineAt 21 = .ok (.iconst (-1), 1) := by decide +kernel
theorem dX12_lineAt_22 : decode cX12_lineAt 22 = .ok (.ireturn, 1) := by decide +kernel
theorem dX12_addressOf_0 : decode cX12_addressOf 0 = .ok (.aload_n 0, 1) := by decide +kernel
theorem dX12_addressOf_1 : decode cX12_addressOf 1 = .ok (.iconst 0, 1) := by decide +kernel
theorem dX12_addressOf_2 : decode cX12_addressOf 2 = .ok (.putfield 1, 3) := by decide +kernel
theorem dX12_addressOf_5 : decode cX12_addressOf 5 = .ok (.iconst 0, 1) := by decide +kernel
theorem dX12_addressOf_6 : decode cX12_addressOf 6 = .ok (.istore_n 3, 1) := by decide +kernel
theorem dX12_addressOf_7 : decode cX12_addressOf 7 = .ok (.iconst 0, 1) := by decide +kernel
theorem dX12_addressOf_8 : decode cX12_addressOf 8 = .ok (.istore 4, 2) := by decide +kernel
theorem dX12_addressOf_10 : decode cX12_addressOf 10 = .ok (.iload 4, 2) := by decide +kernel
theorem dX12_addressOf_12 : decode cX12_addressOf 12 = .ok (.aload_n 0, 1) := by decide +kernel
theorem dX12_addressOf_13 : decode cX12_addressOf 13 = .ok (.getfield 98, 3) := by decide +kernel
theorem dX12_addressOf_16 : decode cX12_addressOf 16 = .ok (.iconst 1, 1) := by decide +kernel
theorem dX12_addressOf_17 : decode cX12_addressOf 17 = .ok (.iaload, 1) := by decide +kernel
theorem dX12_addressOf_18 : decode cX12_addressOf 18 = .ok (.if_icmp .ge 45, 3) := by decide +kernel
theorem dX12_addressOf_21 : decode cX12_addressOf 21 = .ok (.aload_n 0, 1) := by decide +kernel
theorem dX12_addressOf_22 : decode cX12_addressOf 22 = .ok (.getfield 98, 3) := by decide +kernel
theorem dX12_addressOf_25 : decode cX12_addressOf 25 = .ok (.bipush 36, 2) := by decide +kernel
theorem dX12_addressOf_27 : decode cX12_addressOf 27 = .ok (.iload 4, 2) := by decide +kernel
theorem dX12_addressOf_29 : decode cX12_addressOf 29 = .ok (.iadd, 1) := by decide +kernel
theorem dX12_addressOf_30 : decode cX12_addressOf 30 = .ok (.iaload, 1) := by decide +kernel
theorem dX12_addressOf_31 : decode cX12_addressOf 31 = .ok (.iload_n 1, 1) := by decide +kernel
theorem dX12_addressOf_32 : decode cX12_addressOf 32 = .ok (.if_icmp .eq 6, 3) := by decide +kernel
theorem dX12_addressOf_35 : decode cX12_addressOf 35 = .ok (.goto 22, 3) := by decide +kernel
theorem dX12_addressOf_38 : decode cX12_addressOf 38 = .ok (.iload_n 3, 1) := by decide +kernel
theorem dX12_addressOf_39 : decode cX12_addressOf 39 = .ok (.iload_n 2, 1) := by decide +kernel
theorem dX12_addressOf_40 : decode cX12_addressOf 40 = .ok (.if_icmp .ne 14, 3) := by decide +kernel
theorem dX12_addressOf_43 : decode cX12_addressOf 43 = .ok (.aload_n 0, 1) := by decide +kernel
theorem dX12_addressOf_44 : decode cX12_addressOf 44 = .ok (.getfield 98, 3) := by decide +kernel
theorem dX12_addressOf_47 : decode cX12_addressOf 47 = .ok (.bipush 6, 2) := by decide +kernel
theorem dX12_addressOf_49 : decode cX12_addressOf 49 = .ok (.iload 4, 2) := by decide +kernel
theorem dX12_addressOf_51 : decode cX12_addressOf 51 = .ok (.iadd, 1) := by decide +kernel
theorem dX12_addressOf_52 : decode cX12_addressOf 52 = .ok (.iaload, 1) := by decide +kernel
theorem dX12_addressOf_53 : decode cX12_addressOf 53 = .ok (.ireturn, 1) := by decide +kernel
theorem dX12_addressOf_54 : decode cX12_addressOf 54 = .ok (.iinc 3 1, 3) := by decide +kernel
theorem dX12_addressOf_57 : decode cX12_addressOf 57 = .ok (.iinc 4 1, 3) := by decide +kernel
theorem dX12_addressOf_60 : decode cX12_addressOf 60 = .ok (.goto (-50), 3) := by decide +kernel
theorem dX12_addressOf_63 : decode cX12_addressOf 63 = .ok (.iconst (-1), 1) := by decide +kernel
theorem dX12_addressOf_64 : decode cX12_addressOf 64 = .ok (.ireturn, 1) := by decide +kernel
theorem dX12_longest_0 : decode cX12_longest 0 = .ok (.aload_n 0, 1) := by decide +kernel
theorem dX12_longest_1 : decode cX12_longest 1 = .ok (.iconst 0, 1) := by decide +kernel
theorem dX12_longest_2 : decode cX12_longest 2 = .ok (.putfield 1, 3) := by decide +kernel
theorem dX12_longest_5 : decode cX12_longest 5 = .ok (.iconst (-1), 1) := by decide +kernel
theorem dX12_longest_6 : decode cX12_longest 6 = .ok (.istore_n 1, 1) := by decide +kernel
theorem dX12_longest_7 : decode cX12_longest 7 = .ok (.iconst 0, 1) := by decide +kernel
theorem dX12_longest_8 : decode cX12_longest 8 = .ok (.istore_n 2, 1) := by decide +kernel
theorem dX12_longest_9 : decode cX12_longest 9 = .ok (.iconst 1, 1) := by decide +kernel
theorem dX12_longest_10 : decode cX12_longest 10 = .ok (.istore_n 3, 1) := by decide +kernel
theorem dX12_longest_11 : decode cX12_longest 11 = .ok (.iload_n 3, 1) := by decide +kernel
theorem dX12_longest_12 : decode cX12_longest 12 = .ok (.sipush 250, 3) := by decide +kernel
theorem dX12_longest_15 : decode cX12_longest 15 = .ok (.if_icmp .gt 82, 3) := by decide +kernel
theorem dX12_longest_18 : decode cX12_longest 18 = .ok (.iconst 0, 1) := by decide +kernel
theorem dX12_longest_19 : decode cX12_longest 19 = .ok (.istore 4, 2) := by decide +kernel
theorem dX12_longest_21 : decode cX12_longest 21 = .ok (.iconst 0, 1) := by decide +kernel
theorem dX12_longest_22 : decode cX12_longest 22 = .ok (.istore 5, 2) := by decide +kernel
theorem dX12_longest_24 : decode cX12_longest 24 = .ok (.iload 5, 2) := by decide +kernel
theorem dX12_longest_26 : decode cX12_longest 26 = .ok (.aload_n 0, 1) := by decide +kernel
theorem dX12_longest_27 : decode cX12_longest 27 = .ok (.getfield 98, 3) := by decide +kernel
theorem dX12_longest_30 : decode cX12_longest 30 = .ok (.iconst 1, 1) := by decide +kernel
theorem dX12_longest_31 : decode cX12_longest 31 = .ok (.iaload, 1) := by decide +kernel
theorem dX12_longest_32 : decode cX12_longest 32 = .ok (.if_icmp .ge 45, 3) := by decide +kernel
theorem dX12_longest_35 : decode cX12_longest 35 = .ok (.aload_n 0, 1) := by decide +kernel
theorem dX12_longest_36 : decode cX12_longest 36 = .ok (.getfield 98, 3) := by decide +kernel
theorem dX12_longest_39 : decode cX12_longest 39 = .ok (.bipush 36, 2) := by decide +kernel
theorem dX12_longest_41 : decode cX12_longest 41 = .ok (.iload 5, 2) := by decide +kernel
theorem dX12_longest_43 : decode cX12_longest 43 = .ok (.iadd, 1) := by decide +kernel
theorem dX12_longest_44 : decode cX12_longest 44 = .ok (.iaload, 1) := by decide +kernel
theorem dX12_longest_45 : decode cX12_longest 45 = .ok (.iload_n 3, 1) := by decide +kernel
theorem dX12_longest_46 : decode cX12_longest 46 = .ok (.if_icmp .ne 25, 3) := by decide +kernel
theorem dX12_longest_49 : decode cX12_longest 49 = .ok (.iload 4, 2) := by decide +kernel
theorem dX12_longest_51 : decode cX12_longest 51 = .ok (.aload_n 0, 1) := by decide +kernel
theorem dX12_longest_52 : decode cX12_longest 52 = .ok (.iload 5, 2) := by decide +kernel
theorem dX12_longest_54 : decode cX12_longest 54 = .ok (.invokevirtual 264, 3) := by decide +kernel
theorem dX12_longest_57 : decode cX12_longest 57 = .ok (.aload_n 0, 1) := by decide +kernel
theorem dX12_longest_58 : decode cX12_longest 58 = .ok (.getfield 98, 3) := by decide +kernel
theorem dX12_longest_61 : decode cX12_longest 61 = .ok (.bipush 6, 2) := by decide +kernel
theorem dX12_longest_63 : decode cX12_longest 63 = .ok (.iload 5, 2) := by decide +kernel
theorem dX12_longest_65 : decode cX12_longest 65 = .ok (.iadd, 1) := by decide +kernel
theorem dX12_longest_66 : decode cX12_longest 66 = .ok (.iaload, 1) := by decide +kernel
theorem dX12_longest_67 : decode cX12_longest 67 = .ok (.isub, 1) := by decide +kernel
theorem dX12_longest_68 : decode cX12_longest 68 = .ok (.iadd, 1) := by decide +kernel
theorem dX12_longest_69 : decode cX12_longest 69 = .ok (.istore 4, 2) := by decide +kernel
theorem dX12_longest_71 : decode cX12_longest 71 = .ok (.iinc 5 1, 3) := by decide +kernel
theorem dX12_longest_74 : decode cX12_longest 74 = .ok (.goto (-50), 3) := by decide +kernel
theorem dX12_longest_77 : decode cX12_longest 77 = .ok (.iload 4, 2) := by decide +kernel
theorem dX12_longest_79 : decode cX12_longest 79 = .ok (.iload_n 2, 1) := by decide +kernel
theorem dX12_longest_80 : decode cX12_longest 80 = .ok (.if_icmp .gt 6, 3) := by decide +kernel
theorem dX12_longest_83 : decode cX12_longest 83 = .ok (.goto 8, 3) := by decide +kernel
theorem dX12_longest_86 : decode cX12_longest 86 = .ok (.iload 4, 2) := by decide +kernel
theorem dX12_longest_88 : decode cX12_longest 88 = .ok (.istore_n 2, 1) := by decide +kernel
theorem dX12_longest_89 : decode cX12_longest 89 = .ok (.iload_n 3, 1) := by decide +kernel
theorem dX12_longest_90 : decode cX12_longest 90 = .ok (.istore_n 1, 1) := by decide +kernel
theorem dX12_longest_91 : decode cX12_longest 91 = .ok (.iinc 3 1, 3) := by decide +kernel
theorem dX12_longest_94 : decode cX12_longest 94 = .ok (.goto (-83), 3) := by decide +kernel
theorem dX12_longest_97 : decode cX12_longest 97 = .ok (.iload_n 1, 1) := by decide +kernel
theorem dX12_longest_98 : decode cX12_longest 98 = .ok (.ireturn, 1) := by decide +kernel
theorem dX12_isScope_0 : decode cX12_isScope 0 = .ok (.iload_n 1, 1) := by decide +kernel
theorem dX12_isScope_1 : decode cX12_isScope 1 = .ok (.iconst 0, 1) := by decide +kernel
theorem dX12_isScope_2 : decode cX12_isScope 2 = .ok (.aload_n 0, 1) := by decide +kernel
theorem dX12_isScope_3 : decode cX12_isScope 3 = .ok (.getfield 98, 3) := by decide +kernel
theorem dX12_isScope_6 : decode cX12_isScope 6 = .ok (.iconst 2, 1) := by decide +kernel
theorem dX12_isScope_7 : decode cX12_isScope 7 = .ok (.iaload, 1) := by decide +kernel
theorem dX12_isScope_8 : decode cX12_isScope 8 = .ok (.iconst 1, 1) := by decide +kernel
theorem dX12_isScope_9 : decode cX12_isScope 9 = .ok (.isub, 1) := by decide +kernel
theorem dX12_isScope_10 : decode cX12_isScope 10 = .ok (.invokestatic 75, 3) := by decide +kernel
theorem dX12_isScope_13 : decode cX12_isScope 13 = .ok (.ireturn, 1) := by decide +kernel
theorem dX12_isVar_0 : decode cX12_isVar 0 = .ok (.iload_n 1, 1) := by decide +kernel
theorem dX12_isVar_1 : decode cX12_isVar 1 = .ok (.iconst 0, 1) := by decide +kernel
theorem dX12_isVar_2 : decode cX12_isVar 2 = .ok (.aload_n 0, 1) := by decide +kernel
theorem dX12_isVar_3 : decode cX12_isVar 3 = .ok (.getfield 98, 3) := by decide +kernel
theorem dX12_isVar_6 : decode cX12_isVar 6 = .ok (.iconst 4, 1) := by decide +kernel
theorem dX12_isVar_7 : decode cX12_isVar 7 = .ok (.iaload, 1) := by decide +kernel
theorem dX12_isVar_8 : decode cX12_isVar 8 = .ok (.iconst 1, 1) := by decide +kernel
theorem dX12_isVar_9 : decode cX12_isVar 9 = .ok (.isub, 1) := by decide +kernel
theorem dX12_isVar_10 : decode cX12_isVar 10 = .ok (.invokestatic 75, 3) := by decide +kernel
theorem dX12_isVar_13 : decode cX12_isVar 13 = .ok (.ireturn, 1) := by decide +kernel
theorem dX12_hasAddress_0 : decode cX12_hasAddress 0 = .ok (.iload_n 2, 1) := by decide +kernel
theorem dX12_hasAddress_1 : decode cX12_hasAddress 1 = .ok (.aload_n 0, 1) := by decide +kernel
theorem dX12_hasAddress_2 : decode cX12_hasAddress 2 = .ok (.getfield 98, 3) := by decide +kernel
theorem dX12_hasAddress_5 : decode cX12_hasAddress 5 = .ok (.bipush 66, 2) := by decide +kernel
theorem dX12_hasAddress_7 : decode cX12_hasAddress 7 = .ok (.iload_n 1, 1) := by decide +kernel
theorem dX12_hasAddress_8 : decode cX12_hasAddress 8 = .ok (.iadd, 1) := by decide +kernel
theorem dX12_hasAddress_9 : decode cX12_hasAddress 9 = .ok (.iaload, 1) := by decide +kernel
theorem dX12_hasAddress_10 : decode cX12_hasAddress 10 = .ok (.aload_n 0, 1) := by decide +kernel
theorem dX12_hasAddress_11 : decode cX12_hasAddress 11 = .ok (.getfield 98, 3) := by decide +kernel
theorem dX12_hasAddress_14 : decode cX12_hasAddress 14 = .ok (.bipush 76, 2) := by decide +kernel
theorem dX12_hasAddress_16 : decode cX12_hasAddress 16 = .ok (.iload_n 1, 1) := by decide +kernel
theorem dX12_hasAddress_17 : decode cX12_hasAddress 17 = .ok (.iadd, 1) := by decide +kernel
theorem dX12_hasAddress_18 : decode cX12_hasAddress 18 = .ok (.iaload, 1) := by decide +kernel
theorem dX12_hasAddress_19 : decode cX12_hasAddress 19 = .ok (.iconst 1, 1) := by decide +kernel
theorem dX12_hasAddress_20 : decode cX12_hasAddress 20 = .ok (.isub, 1) := by decide +kernel
theorem dX12_hasAddress_21 : decode cX12_hasAddress 21 = .ok (.invokestatic 75, 3) := by decide +kernel
theorem dX12_hasAddress_24 : decode cX12_hasAddress 24 = .ok (.ireturn, 1) := by decide +kernel
theorem dX12_widthOf_0 : decode cX12_widthOf 0 = .ok (.aload_n 0, 1) := by decide +kernel
theorem dX12_widthOf_1 : decode cX12_widthOf 1 = .ok (.getfield 98, 3) := by decide +kernel
theorem dX12_widthOf_4 : decode cX12_widthOf 4 = .ok (.bipush 76, 2) := by decide +kernel
theorem dX12_widthOf_6 : decode cX12_widthOf 6 = .ok (.iload_n 1, 1) := by decide +kernel
theorem dX12_widthOf_7 : decode cX12_widthOf 7 = .ok (.iadd, 1) := by decide +kernel
theorem dX12_widthOf_8 : decode cX12_widthOf 8 = .ok (.iaload, 1) := by decide +kernel
theorem dX12_widthOf_9 : decode cX12_widthOf 9 = .ok (.aload_n 0, 1) := by decide +kernel
theorem dX12_widthOf_10 : decode cX12_widthOf 10 = .ok (.getfield 98, 3) := by decide +kernel
theorem dX12_widthOf_13 : decode cX12_widthOf 13 = .ok (.bipush 66, 2) := by decide +kernel
theorem dX12_widthOf_15 : decode cX12_widthOf 15 = .ok (.iload_n 1, 1) := by decide +kernel
theorem dX12_widthOf_16 : decode cX12_widthOf 16 = .ok (.iadd, 1) := by decide +kernel
theorem dX12_widthOf_17 : decode cX12_widthOf 17 = .ok (.iaload, 1) := by decide +kernel
theorem dX12_widthOf_18 : decode cX12_widthOf 18 = .ok (.isub, 1) := by decide +kernel
theorem dX12_widthOf_19 : decode cX12_widthOf 19 = .ok (.ireturn, 1) := by decide +kernel
theorem dX12_isInner_0 : decode cX12_isInner 0 = .ok (.aload_n 0, 1) := by decide +kernel
theorem dX12_isInner_1 : decode cX12_isInner 1 = .ok (.iload_n 1, 1) := by decide +kernel
theorem dX12_isInner_2 : decode cX12_isInner 2 = .ok (.invokevirtual 273, 3) := by decide +kernel
theorem dX12_isInner_5 : decode cX12_isInner 5 = .ok (.aload_n 0, 1) := by decide +kernel
theorem dX12_isInner_6 : decode cX12_isInner 6 = .ok (.iload_n 2, 1) := by decide +kernel
theorem dX12_isInner_7 : decode cX12_isInner 7 = .ok (.invokevirtual 273, 3) := by decide +kernel
theorem dX12_isInner_10 : decode cX12_isInner 10 = .ok (.if_icmp .lt 21, 3) := by decide +kernel
theorem dX12_isInner_13 : decode cX12_isInner 13 = .ok (.aload_n 0, 1) := by decide +kernel
theorem dX12_isInner_14 : decode cX12_isInner 14 = .ok (.iload_n 1, 1) := by decide +kernel
theorem dX12_isInner_15 : decode cX12_isInner 15 = .ok (.invokevirtual 273, 3) := by decide +kernel
theorem dX12_isInner_18 : decode cX12_isInner 18 = .ok (.aload_n 0, 1) := by decide +kernel
theorem dX12_isInner_19 : decode cX12_isInner 19 = .ok (.iload_n 2, 1) := by decide +kernel
theorem dX12_isInner_20 : decode cX12_isInner 20 = .ok (.invokevirtual 273, 3) := by decide +kernel
theorem dX12_isInner_23 : decode cX12_isInner 23 = .ok (.if_icmp .ne 12, 3) := by decide +kernel
theorem dX12_isInner_26 : decode cX12_isInner 26 = .ok (.iload_n 1, 1) := by decide +kernel
theorem dX12_isInner_27 : decode cX12_isInner 27 = .ok (.iload_n 2, 1) := by decide +kernel
theorem dX12_isInner_28 : decode cX12_isInner 28 = .ok (.if_icmp .le 7, 3) := by decide +kernel
theorem dX12_isInner_31 : decode cX12_isInner 31 = .ok (.iconst 1, 1) := by decide +kernel
theorem dX12_isInner_32 : decode cX12_isInner 32 = .ok (.goto 4, 3) := by decide +kernel
theorem dX12_isInner_35 : decode cX12_isInner 35 = .ok (.iconst 0, 1) := by decide +kernel
theorem dX12_isInner_36 : decode cX12_isInner 36 = .ok (.ireturn, 1) := by decide +kernel
theorem dX12_nextInChain_0 : decode cX12_nextInChain 0 = .ok (.iconst (-1), 1) := by decide +kernel
theorem dX12_nextInChain_1 : decode cX12_nextInChain 1 = .ok (.istore_n 3, 1) := by decide +kernel
theorem dX12_nextInChain_2 : decode cX12_nextInChain 2 = .ok (.iconst 0, 1) := by decide +kernel
theorem dX12_nextInChain_3 : decode cX12_nextInChain 3 = .ok (.istore 4, 2) := by decide +kernel
theorem dX12_nextInChain_5 : decode cX12_nextInChain 5 = .ok (.iload 4, 2) := by decide +kernel
theorem dX12_nextInChain_7 : decode cX12_nextInChain 7 = .ok (.aload_n 0, 1) := by decide +kernel
theorem dX12_nextInChain_8 : decode cX12_nextInChain 8 = .ok (.getfield 98, 3) := by decide +kernel
theorem dX12_nextInChain_11 : decode cX12_nextInChain 11 = .ok (.iconst 2, 1) := by decide +kernel
theorem dX12_nextInChain_12 : decode cX12_nextInChain 12 = .ok (.iaload, 1) := by decide +kernel
theorem dX12_nextInChain_13 : decode cX12_nextInChain 13 = .ok (.if_icmp .ge 52, 3) := by decide +kernel
theorem dX12_nextInChain_16 : decode cX12_nextInChain 16 = .ok (.aload_n 0, 1) := by decide +kernel
theorem dX12_nextInChain_17 : decode cX12_nextInChain 17 = .ok (.iload 4, 2) := by decide +kernel
theorem dX12_nextInChain_19 : decode cX12_nextInChain 19 = .ok (.iload_n 1, 1) := by decide +kernel
theorem dX12_nextInChain_20 : decode cX12_nextInChain 20 = .ok (.invokevirtual 276, 3) := by decide +kernel
theorem dX12_nextInChain_23 : decode cX12_nextInChain 23 = .ok (.ifCond .eq 36, 3) := by decide +kernel
theorem dX12_nextInChain_26 : decode cX12_nextInChain 26 = .ok (.iload_n 2, 1) := by decide +kernel
theorem dX12_nextInChain_27 : decode cX12_nextInChain 27 = .ok (.iconst (-1), 1) := by decide +kernel
theorem dX12_nextInChain_28 : decode cX12_nextInChain 28 = .ok (.if_icmp .eq 13, 3) := by decide +kernel
theorem dX12_nextInChain_31 : decode cX12_nextInChain 31 = .ok (.aload_n 0, 1) := by decide +kernel
theorem dX12_nextInChain_32 : decode cX12_nextInChain 32 = .ok (.iload_n 2, 1) := by decide +kernel
theorem dX12_nextInChain_33 : decode cX12_nextInChain 33 = .ok (.iload 4, 2) := by decide +kernel
theorem dX12_nextInChain_35 : decode cX12_nextInChain 35 = .ok (.invokevirtual 279, 3) := by decide +kernel
theorem dX12_nextInChain_38 : decode cX12_nextInChain 38 = .ok (.ifCond .eq 21, 3) := by decide +kernel
theorem dX12_nextInChain_41 : decode cX12_nextInChain 41 = .ok (.iload_n 3, 1) := by decide +kernel
theorem dX12_nextInChain_42 : decode cX12_nextInChain 42 = .ok (.iconst (-1), 1) := by decide +kernel
theorem dX12_nextInChain_43 : decode cX12_nextInChain 43 = .ok (.if_icmp .eq 13, 3) := by decide +kernel
theorem dX12_nextInChain_46 : decode cX12_nextInChain 46 = .ok (.aload_n 0, 1) := by decide +kernel
theorem dX12_nextInChain_47 : decode cX12_nextInChain 47 = .ok (.iload 4, 2) := by decide +kernel
theorem dX12_nextInChain_49 : decode cX12_nextInChain 49 = .ok (.iload_n 3, 1) := by decide +kernel
theorem dX12_nextInChain_50 : decode cX12_nextInChain 50 = .ok (.invokevirtual 279, 3) := by decide +kernel
theorem dX12_nextInChain_53 : decode cX12_nextInChain 53 = .ok (.ifCond .eq 6, 3) := by decide +kernel
theorem dX12_nextInChain_56 : decode cX12_nextInChain 56 = .ok (.iload 4, 2) := by decide +kernel
theorem dX12_nextInChain_58 : decode cX12_nextInChain 58 = .ok (.istore_n 3, 1) := by decide +kernel
theorem dX12_nextInChain_59 : decode cX12_nextInChain 59 = .ok (.iinc 4 1, 3) := by decide +kernel
theorem dX12_nextInChain_62 : decode cX12_nextInChain 62 = .ok (.goto (-57), 3) := by decide +kernel
theorem dX12_nextInChain_65 : decode cX12_nextInChain 65 = .ok (.iload_n 3, 1) := by decide +kernel
theorem dX12_nextInChain_66 : decode cX12_nextInChain 66 = .ok (.ireturn, 1) := by decide +kernel
theorem dX12_outerOf_0 : decode cX12_outerOf 0 = .ok (.aload_n 0, 1) := by decide +kernel
theorem dX12_outerOf_1 : decode cX12_outerOf 1 = .ok (.aload_n 0, 1) := by decide +kernel
theorem dX12_outerOf_2 : decode cX12_outerOf 2 = .ok (.getfield 98, 3) := by decide +kernel
theorem dX12_outerOf_5 : decode cX12_outerOf 5 = .ok (.bipush 66, 2) := by decide +kernel
theorem dX12_outerOf_7 : decode cX12_outerOf 7 = .ok (.iload_n 1, 1) := by decide +kernel
theorem dX12_outerOf_8 : decode cX12_outerOf 8 = .ok (.iadd, 1) := by decide +kernel
theorem dX12_outerOf_9 : decode cX12_outerOf 9 = .ok (.iaload, 1) := by decide +kernel
theorem dX12_outerOf_10 : decode cX12_outerOf 10 = .ok (.iload_n 1, 1) := by decide +kernel
theorem dX12_outerOf_11 : decode cX12_outerOf 11 = .ok (.invokevirtual 282, 3) := by decide +kernel
theorem dX12_outerOf_14 : decode cX12_outerOf 14 = .ok (.ireturn, 1) := by decide +kernel
theorem dX12_scope_0 : decode cX12_scope 0 = .ok (.aload_n 0, 1) := by decide +kernel
theorem dX12_scope_1 : decode cX12_scope 1 = .ok (.iconst 0, 1) := by decide +kernel
theorem dX12_scope_2 : decode cX12_scope 2 = .ok (.putfield 1, 3) := by decide +kernel
theorem dX12_scope_5 : decode cX12_scope 5 = .ok (.aload_n 0, 1) := by decide +kernel
theorem dX12_scope_6 : decode cX12_scope 6 = .ok (.iload_n 1, 1) := by decide +kernel
theorem dX12_scope_7 : decode cX12_scope 7 = .ok (.invokevirtual 286, 3) := by decide +kernel
theorem dX12_scope_10 : decode cX12_scope 10 = .ok (.ifCond .ne 5, 3) := by decide +kernel
theorem dX12_scope_13 : decode cX12_scope 13 = .ok (.iconst (-1), 1) := by decide +kernel
theorem dX12_scope_14 : decode cX12_scope 14 = .ok (.ireturn, 1) := by decide +kernel
theorem dX12_scope_15 : decode cX12_scope 15 = .ok (.iload_n 2, 1) := by decide +kernel
theorem dX12_scope_16 : decode cX12_scope 16 = .ok (.tableswitch 117 0 4 #[36, 46, 56, 66, 72], 36) := by decide +kernel
theorem dX12_scope_52 : decode cX12_scope 52 = .ok (.aload_n 0, 1) := by decide +kernel
theorem dX12_scope_53 : decode cX12_scope 53 = .ok (.getfield 98, 3) := by decide +kernel
theorem dX12_scope_56 : decode cX12_scope 56 = .ok (.bipush 66, 2) := by decide +kernel
theorem dX12_scope_58 : decode cX12_scope 58 = .ok (.iload_n 1, 1) := by decide +kernel
theorem dX12_scope_59 : decode cX12_scope 59 = .ok (.iadd, 1) := by decide +kernel
theorem dX12_scope_60 : decode cX12_scope 60 = .ok (.iaload, 1) := by decide +kernel
theorem dX12_scope_61 : decode cX12_scope 61 = .ok (.ireturn, 1) := by decide +kernel
theorem dX12_scope_62 : decode cX12_scope 62 = .ok (.aload_n 0, 1) := by decide +kernel
theorem dX12_scope_63 : decode cX12_scope 63 = .ok (.getfield 98, 3) := by decide +kernel
theorem dX12_scope_66 : decode cX12_scope 66 = .ok (.bipush 76, 2) := by decide +kernel
theorem dX12_scope_68 : decode cX12_scope 68 = .ok (.iload_n 1, 1) := by decide +kernel
theorem dX12_scope_69 : decode cX12_scope 69 = .ok (.iadd, 1) := by decide +kernel
theorem dX12_scope_70 : decode cX12_scope 70 = .ok (.iaload, 1) := by decide +kernel
theorem dX12_scope_71 : decode cX12_scope 71 = .ok (.ireturn, 1) := by decide +kernel
theorem dX12_scope_72 : decode cX12_scope 72 = .ok (.aload_n 0, 1) := by decide +kernel
theorem dX12_scope_73 : decode cX12_scope 73 = .ok (.getfield 98, 3) := by decide +kernel
theorem dX12_scope_76 : decode cX12_scope 76 = .ok (.bipush 86, 2) := by decide +kernel
theorem dX12_scope_78 : decode cX12_scope 78 = .ok (.iload_n 1, 1) := by decide +kernel
theorem dX12_scope_79 : decode cX12_scope 79 = .ok (.iadd, 1) := by decide +kernel
theorem dX12_scope_80 : decode cX12_scope 80 = .ok (.iaload, 1) := by decide +kernel
theorem dX12_scope_81 : decode cX12_scope 81 = .ok (.ireturn, 1) := by decide +kernel
theorem dX12_scope_82 : decode cX12_scope 82 = .ok (.aload_n 0, 1) := by decide +kernel
theorem dX12_scope_83 : decode cX12_scope 83 = .ok (.iload_n 1, 1) := by decide +kernel
theorem dX12_scope_84 : decode cX12_scope 84 = .ok (.invokevirtual 289, 3) := by decide +kernel
theorem dX12_scope_87 : decode cX12_scope 87 = .ok (.ireturn, 1) := by decide +kernel
theorem dX12_scope_88 : decode cX12_scope 88 = .ok (.iconst 0, 1) := by decide +kernel
theorem dX12_scope_89 : decode cX12_scope 89 = .ok (.istore_n 3, 1) := by decide +kernel
theorem dX12_scope_90 : decode cX12_scope 90 = .ok (.iconst 0, 1) := by decide +kernel
theorem dX12_scope_91 : decode cX12_scope 91 = .ok (.istore 4, 2) := by decide +kernel
theorem dX12_scope_93 : decode cX12_scope 93 = .ok (.iload 4, 2) := by decide +kernel
theorem dX12_scope_95 : decode cX12_scope 95 = .ok (.aload_n 0, 1) := by decide +kernel
theorem dX12_scope_96 : decode cX12_scope 96 = .ok (.getfield 98, 3) := by decide +kernel
theorem dX12_scope_99 : decode cX12_scope 99 = .ok (.iconst 4, 1) := by decide +kernel
theorem dX12_scope_100 : decode cX12_scope 100 = .ok (.iaload, 1) := by decide +kernel
theorem dX12_scope_101 : decode cX12_scope 101 = .ok (.if_icmp .ge 30, 3) := by decide +kernel
theorem dX12_scope_104 : decode cX12_scope 104 = .ok (.aload_n 0, 1) := by decide +kernel
theorem dX12_scope_105 : decode cX12_scope 105 = .ok (.getfield 98, 3) := by decide +kernel
theorem dX12_scope_108 : decode cX12_scope 108 = .ok (.bipush 114, 2) := by decide +kernel
theorem dX12_scope_110 : decode cX12_scope 110 = .ok (.iload 4, 2) := by decide +kernel
theorem dX12_scope_112 : decode cX12_scope 112 = .ok (.iadd, 1) := by decide +kernel
theorem dX12_scope_113 : decode cX12_scope 113 = .ok (.iaload, 1) := by decide +kernel
theorem dX12_scope_114 : decode cX12_scope 114 = .ok (.iload_n 1, 1) := by decide +kernel
theorem dX12_scope_115 : decode cX12_scope 115 = .ok (.if_icmp .ne 10, 3) := by decide +kernel
theorem dX12_scope_118 : decode cX12_scope 118 = .ok (.iload_n 3, 1) := by decide +kernel
theorem dX12_scope_119 : decode cX12_scope 119 = .ok (.iconst 1, 1) := by decide +kernel
theorem dX12_scope_120 : decode cX12_scope 120 = .ok (.iload 4, 2) := by decide +kernel
theorem dX12_scope_122 : decode cX12_scope 122 = .ok (.ishl, 1) := by decide +kernel
theorem dX12_scope_123 : decode cX12_scope 123 = .ok (.ior, 1) := by decide +kernel
theorem dX12_scope_124 : decode cX12_scope 124 = .ok (.istore_n 3, 1) := by decide +kernel
theorem dX12_scope_125 : decode cX12_scope 125 = .ok (.iinc 4 1, 3) := by decide +kernel
theorem dX12_scope_128 : decode cX12_scope 128 = .ok (.goto (-35), 3) := by decide +kernel
theorem dX12_scope_131 : decode cX12_scope 131 = .ok (.iload_n 3, 1) := by decide +kernel
theorem dX12_scope_132 : decode cX12_scope 132 = .ok (.ireturn, 1) := by decide +kernel
theorem dX12_scope_133 : decode cX12_scope 133 = .ok (.iconst (-1), 1) := by decide +kernel
theorem dX12_scope_134 : decode cX12_scope 134 = .ok (.ireturn, 1) := by decide +kernel
theorem dX12_chain_0 : decode cX12_chain 0 = .ok (.aload_n 0, 1) := by decide +kernel
theorem dX12_chain_1 : decode cX12_chain 1 = .ok (.iconst 0, 1) := by decide +kernel
theorem dX12_chain_2 : decode cX12_chain 2 = .ok (.putfield 1, 3) := by decide +kernel
theorem dX12_chain_5 : decode cX12_chain 5 = .ok (.aload_n 0, 1) := by decide +kernel
theorem dX12_chain_6 : decode cX12_chain 6 = .ok (.iload_n 1, 1) := by decide +kernel
theorem dX12_chain_7 : decode cX12_chain 7 = .ok (.invokevirtual 267, 3) := by decide +kernel
theorem dX12_chain_10 : decode cX12_chain 10 = .ok (.ifCond .ne 5, 3) := by decide +kernel
theorem dX12_chain_13 : decode cX12_chain 13 = .ok (.iconst (-1), 1) := by decide +kernel
theorem dX12_chain_14 : decode cX12_chain 14 = .ok (.ireturn, 1) := by decide +kernel
theorem dX12_chain_15 : decode cX12_chain 15 = .ok (.aload_n 0, 1) := by decide +kernel
theorem dX12_chain_16 : decode cX12_chain 16 = .ok (.iconst 0, 1) := by decide +kernel
theorem dX12_chain_17 : decode cX12_chain 17 = .ok (.putfield 292, 3) := by decide +kernel
theorem dX12_chain_20 : decode cX12_chain 20 = .ok (.aload_n 0, 1) := by decide +kernel
theorem dX12_chain_21 : decode cX12_chain 21 = .ok (.iload_n 1, 1) := by decide +kernel
theorem dX12_chain_22 : decode cX12_chain 22 = .ok (.invokevirtual 270, 3) := by decide +kernel
theorem dX12_chain_25 : decode cX12_chain 25 = .ok (.istore_n 2, 1) := by decide +kernel
theorem dX12_chain_26 : decode cX12_chain 26 = .ok (.aload_n 0, 1) := by decide +kernel
theorem dX12_chain_27 : decode cX12_chain 27 = .ok (.iload_n 1, 1) := by decide +kernel
theorem dX12_chain_28 : decode cX12_chain 28 = .ok (.iconst (-1), 1) := by decide +kernel
theorem dX12_chain_29 : decode cX12_chain 29 = .ok (.invokevirtual 282, 3) := by decide +kernel
theorem dX12_chain_32 : decode cX12_chain 32 = .ok (.istore_n 3, 1) := by decide +kernel
theorem dX12_chain_33 : decode cX12_chain 33 = .ok (.iload_n 3, 1) := by decide +kernel
theorem dX12_chain_34 : decode cX12_chain 34 = .ok (.iconst (-1), 1) := by decide +kernel
theorem dX12_chain_35 : decode cX12_chain 35 = .ok (.if_icmp .eq 53, 3) := by decide +kernel
theorem dX12_chain_38 : decode cX12_chain 38 = .ok (.aload_n 0, 1) := by decide +kernel
theorem dX12_chain_39 : decode cX12_chain 39 = .ok (.getfield 130, 3) := by decide +kernel
theorem dX12_chain_42 : decode cX12_chain 42 = .ok (.aload_n 0, 1) := by decide +kernel
theorem dX12_chain_43 : decode cX12_chain 43 = .ok (.getfield 292, 3) := by decide +kernel
theorem dX12_chain_46 : decode cX12_chain 46 = .ok (.iload_n 3, 1) := by decide +kernel
theorem dX12_chain_47 : decode cX12_chain 47 = .ok (.iastore, 1) := by decide +kernel
theorem dX12_chain_48 : decode cX12_chain 48 = .ok (.aload_n 0, 1) := by decide +kernel
theorem dX12_chain_49 : decode cX12_chain 49 = .ok (.getfield 133, 3) := by decide +kernel
theorem dX12_chain_52 : decode cX12_chain 52 = .ok (.aload_n 0, 1) := by decide +kernel
theorem dX12_chain_53 : decode cX12_chain 53 = .ok (.getfield 292, 3) := by decide +kernel
theorem dX12_chain_56 : decode cX12_chain 56 = .ok (.iload_n 2, 1) := by decide +kernel
theorem dX12_chain_57 : decode cX12_chain 57 = .ok (.iastore, 1) := by decide +kernel
theorem dX12_chain_58 : decode cX12_chain 58 = .ok (.aload_n 0, 1) := by decide +kernel
theorem dX12_chain_59 : decode cX12_chain 59 = .ok (.getfield 98, 3) := by decide +kernel
theorem dX12_chain_62 : decode cX12_chain 62 = .ok (.bipush 86, 2) := by decide +kernel
theorem dX12_chain_64 : decode cX12_chain 64 = .ok (.iload_n 3, 1) := by decide +kernel
theorem dX12_chain_65 : decode cX12_chain 65 = .ok (.iadd, 1) := by decide +kernel
theorem dX12_chain_66 : decode cX12_chain 66 = .ok (.iaload, 1) := by decide +kernel
theorem dX12_chain_67 : decode cX12_chain 67 = .ok (.istore_n 2, 1) := by decide +kernel
theorem dX12_chain_68 : decode cX12_chain 68 = .ok (.aload_n 0, 1) := by decide +kernel
theorem dX12_chain_69 : decode cX12_chain 69 = .ok (.dup, 1) := by decide +kernel
theorem dX12_chain_70 : decode cX12_chain 70 = .ok (.getfield 292, 3) := by decide +kernel
theorem dX12_chain_73 : decode cX12_chain 73 = .ok (.iconst 1, 1) := by decide +kernel
theorem dX12_chain_74 : decode cX12_chain 74 = .ok (.iadd, 1) := by decide +kernel
theorem dX12_chain_75 : decode cX12_chain 75 = .ok (.putfield 292, 3) := by decide +kernel
theorem dX12_chain_78 : decode cX12_chain 78 = .ok (.aload_n 0, 1) := by decide +kernel
theorem dX12_chain_79 : decode cX12_chain 79 = .ok (.iload_n 1, 1) := by decide +kernel
theorem dX12_chain_80 : decode cX12_chain 80 = .ok (.iload_n 3, 1) := by decide +kernel
theorem dX12_chain_81 : decode cX12_chain 81 = .ok (.invokevirtual 282, 3) := by decide +kernel
theorem dX12_chain_84 : decode cX12_chain 84 = .ok (.istore_n 3, 1) := by decide +kernel
theorem dX12_chain_85 : decode cX12_chain 85 = .ok (.goto (-52), 3) := by decide +kernel
theorem dX12_chain_88 : decode cX12_chain 88 = .ok (.aload_n 0, 1) := by decide +kernel
theorem dX12_chain_89 : decode cX12_chain 89 = .ok (.getfield 292, 3) := by decide +kernel
theorem dX12_chain_92 : decode cX12_chain 92 = .ok (.ireturn, 1) := by decide +kernel
theorem dX12_chainAt_0 : decode cX12_chainAt 0 = .ok (.aload_n 0, 1) := by decide +kernel
theorem dX12_chainAt_1 : decode cX12_chainAt 1 = .ok (.iconst 0, 1) := by decide +kernel
theorem dX12_chainAt_2 : decode cX12_chainAt 2 = .ok (.putfield 1, 3) := by decide +kernel
theorem dX12_chainAt_5 : decode cX12_chainAt 5 = .ok (.iload_n 1, 1) := by decide +kernel
theorem dX12_chainAt_6 : decode cX12_chainAt 6 = .ok (.iconst 0, 1) := by decide +kernel
theorem dX12_chainAt_7 : decode cX12_chainAt 7 = .ok (.aload_n 0, 1) := by decide +kernel
theorem dX12_chainAt_8 : decode cX12_chainAt 8 = .ok (.getfield 292, 3) := by decide +kernel
theorem dX12_chainAt_11 : decode cX12_chainAt 11 = .ok (.iconst 1, 1) := by decide +kernel
theorem dX12_chainAt_12 : decode cX12_chainAt 12 = .ok (.isub, 1) := by decide +kernel
theorem dX12_chainAt_13 : decode cX12_chainAt 13 = .ok (.invokestatic 75, 3) := by decide +kernel
theorem dX12_chainAt_16 : decode cX12_chainAt 16 = .ok (.ifCond .eq 12, 3) := by decide +kernel
theorem dX12_chainAt_19 : decode cX12_chainAt 19 = .ok (.aload_n 0, 1) := by decide +kernel
theorem dX12_chainAt_20 : decode cX12_chainAt 20 = .ok (.getfield 130, 3) := by decide +kernel
theorem dX12_chainAt_23 : decode cX12_chainAt 23 = .ok (.iload_n 1, 1) := by decide +kernel
theorem dX12_chainAt_24 : decode cX12_chainAt 24 = .ok (.iaload, 1) := by decide +kernel
theorem dX12_chainAt_25 : decode cX12_chainAt 25 = .ok (.goto 4, 3) := by decide +kernel
theorem dX12_chainAt_28 : decode cX12_chainAt 28 = .ok (.iconst (-1), 1) := by decide +kernel
theorem dX12_chainAt_29 : decode cX12_chainAt 29 = .ok (.ireturn, 1) := by decide +kernel
theorem dX12_chainLine_0 : decode cX12_chainLine 0 = .ok (.aload_n 0, 1) := by decide +kernel
theorem dX12_chainLine_1 : decode cX12_chainLine 1 = .ok (.iconst 0, 1) := by decide +kernel
theorem dX12_chainLine_2 : decode cX12_chainLine 2 = .ok (.putfield 1, 3) := by decide +kernel
theorem dX12_chainLine_5 : decode cX12_chainLine 5 = .ok (.iload_n 1, 1) := by decide +kernel
theorem dX12_chainLine_6 : decode cX12_chainLine 6 = .ok (.iconst 0, 1) := by decide +kernel
theorem dX12_chainLine_7 : decode cX12_chainLine 7 = .ok (.aload_n 0, 1) := by decide +kernel
theorem dX12_chainLine_8 : decode cX12_chainLine 8 = .ok (.getfield 292, 3) := by decide +kernel
theorem dX12_chainLine_11 : decode cX12_chainLine 11 = .ok (.iconst 1, 1) := by decide +kernel
theorem dX12_chainLine_12 : decode cX12_chainLine 12 = .ok (.isub, 1) := by decide +kernel
theorem dX12_chainLine_13 : decode cX12_chainLine 13 = .ok (.invokestatic 75, 3) := by decide +kernel
theorem dX12_chainLine_16 : decode cX12_chainLine 16 = .ok (.ifCond .eq 12, 3) := by decide +kernel
theorem dX12_chainLine_19 : decode cX12_chainLine 19 = .ok (.aload_n 0, 1) := by decide +kernel
theorem dX12_chainLine_20 : decode cX12_chainLine 20 = .ok (.getfield 133, 3) := by decide +kernel
theorem dX12_chainLine_23 : decode cX12_chainLine 23 = .ok (.iload_n 1, 1) := by decide +kernel
theorem dX12_chainLine_24 : decode cX12_chainLine 24 = .ok (.iaload, 1) := by decide +kernel
theorem dX12_chainLine_25 : decode cX12_chainLine 25 = .ok (.goto 4, 3) := by decide +kernel
theorem dX12_chainLine_28 : decode cX12_chainLine 28 = .ok (.iconst (-1), 1) := by decide +kernel
theorem dX12_chainLine_29 : decode cX12_chainLine 29 = .ok (.ireturn, 1) := by decide +kernel
theorem dX12_whereOf_0 : decode cX12_whereOf 0 = .ok (.iconst 0, 1) := by decide +kernel
theorem dX12_whereOf_1 : decode cX12_whereOf 1 = .ok (.istore_n 3, 1) := by decide +kernel
theorem dX12_whereOf_2 : decode cX12_whereOf 2 = .ok (.iload_n 3, 1) := by decide +kernel
theorem dX12_whereOf_3 : decode cX12_whereOf 3 = .ok (.aload_n 0, 1) := by decide +kernel
theorem dX12_whereOf_4 : decode cX12_whereOf 4 = .ok (.getfield 98, 3) := by decide +kernel
theorem dX12_whereOf_7 : decode cX12_whereOf 7 = .ok (.iconst 5, 1) := by decide +kernel
theorem dX12_whereOf_8 : decode cX12_whereOf 8 = .ok (.iaload, 1) := by decide +kernel
theorem dX12_whereOf_9 : decode cX12_whereOf 9 = .ok (.if_icmp .ge 54, 3) := by decide +kernel
theorem dX12_whereOf_12 : decode cX12_whereOf 12 = .ok (.aload_n 0, 1) := by decide +kernel
theorem dX12_whereOf_13 : decode cX12_whereOf 13 = .ok (.getfield 98, 3) := by decide +kernel
theorem dX12_whereOf_16 : decode cX12_whereOf 16 = .ok (.sipush 134, 3) := by decide +kernel
theorem dX12_whereOf_19 : decode cX12_whereOf 19 = .ok (.iload_n 3, 1) := by decide +kernel
theorem dX12_whereOf_20 : decode cX12_whereOf 20 = .ok (.iadd, 1) := by decide +kernel
theorem dX12_whereOf_21 : decode cX12_whereOf 21 = .ok (.iaload, 1) := by decide +kernel
theorem dX12_whereOf_22 : decode cX12_whereOf 22 = .ok (.iload_n 1, 1) := by decide +kernel
theorem dX12_whereOf_23 : decode cX12_whereOf 23 = .ok (.if_icmp .ne 34, 3) := by decide +kernel
theorem dX12_whereOf_26 : decode cX12_whereOf 26 = .ok (.iload_n 2, 1) := by decide +kernel
theorem dX12_whereOf_27 : decode cX12_whereOf 27 = .ok (.aload_n 0, 1) := by decide +kernel
theorem dX12_whereOf_28 : decode cX12_whereOf 28 = .ok (.getfield 98, 3) := by decide +kernel
theorem dX12_whereOf_31 : decode cX12_whereOf 31 = .ok (.sipush 150, 3) := by decide +kernel
theorem dX12_whereOf_34 : decode cX12_whereOf 34 = .ok (.iload_n 3, 1) := by decide +kernel
theorem dX12_whereOf_35 : decode cX12_whereOf 35 = .ok (.iadd, 1) := by decide +kernel
theorem dX12_whereOf_36 : decode cX12_whereOf 36 = .ok (.iaload, 1) := by decide +kernel
theorem dX12_whereOf_37 : decode cX12_whereOf 37 = .ok (.aload_n 0, 1) := by decide +kernel
theorem dX12_whereOf_38 : decode cX12_whereOf 38 = .ok (.getfield 98, 3) := by decide +kernel
theorem dX12_whereOf_41 : decode cX12_whereOf 41 = .ok (.sipush 166, 3) := by decide +kernel
theorem dX12_whereOf_44 : decode cX12_whereOf 44 = .ok (.iload_n 3, 1) := by decide +kernel
theorem dX12_whereOf_45 : decode cX12_whereOf 45 = .ok (.iadd, 1) := by decide +kernel
theorem dX12_whereOf_46 : decode cX12_whereOf 46 = .ok (.iaload, 1) := by decide +kernel
theorem dX12_whereOf_47 : decode cX12_whereOf 47 = .ok (.iconst 1, 1) := by decide +kernel
theorem dX12_whereOf_48 : decode cX12_whereOf 48 = .ok (.isub, 1) := by decide +kernel
theorem dX12_whereOf_49 : decode cX12_whereOf 49 = .ok (.invokestatic 75, 3) := by decide +kernel
theorem dX12_whereOf_52 : decode cX12_whereOf 52 = .ok (.ifCond .eq 5, 3) := by decide +kernel
theorem dX12_whereOf_55 : decode cX12_whereOf 55 = .ok (.iload_n 3, 1) := by decide +kernel
theorem dX12_whereOf_56 : decode cX12_whereOf 56 = .ok (.ireturn, 1) := by decide +kernel
theorem dX12_whereOf_57 : decode cX12_whereOf 57 = .ok (.iinc 3 1, 3) := by decide +kernel
theorem dX12_whereOf_60 : decode cX12_whereOf 60 = .ok (.goto (-58), 3) := by decide +kernel
theorem dX12_whereOf_63 : decode cX12_whereOf 63 = .ok (.iconst (-1), 1) := by decide +kernel
theorem dX12_whereOf_64 : decode cX12_whereOf 64 = .ok (.ireturn, 1) := by decide +kernel
theorem dX12_doTwo_0 : decode cX12_doTwo 0 = .ok (.aload_n 0, 1) := by decide +kernel
theorem dX12_doTwo_1 : decode cX12_doTwo 1 = .ok (.getfield 136, 3) := by decide +kernel
theorem dX12_doTwo_4 : decode cX12_doTwo 4 = .ok (.aload_n 0, 1) := by decide +kernel
theorem dX12_doTwo_5 : decode cX12_doTwo 5 = .ok (.getfield 295, 3) := by decide +kernel
theorem dX12_doTwo_8 : decode cX12_doTwo 8 = .ok (.iconst 2, 1) := by decide +kernel
theorem dX12_doTwo_9 : decode cX12_doTwo 9 = .ok (.isub, 1) := by decide +kernel
theorem dX12_doTwo_10 : decode cX12_doTwo 10 = .ok (.iaload, 1) := by decide +kernel
theorem dX12_doTwo_11 : decode cX12_doTwo 11 = .ok (.istore_n 2, 1) := by decide +kernel
theorem dX12_doTwo_12 : decode cX12_doTwo 12 = .ok (.aload_n 0, 1) := by decide +kernel
theorem dX12_doTwo_13 : decode cX12_doTwo 13 = .ok (.getfield 136, 3) := by decide +kernel
theorem dX12_doTwo_16 : decode cX12_doTwo 16 = .ok (.aload_n 0, 1) := by decide +kernel
theorem dX12_doTwo_17 : decode cX12_doTwo 17 = .ok (.getfield 295, 3) := by decide +kernel
theorem dX12_doTwo_20 : decode cX12_doTwo 20 = .ok (.iconst 1, 1) := by decide +kernel
theorem dX12_doTwo_21 : decode cX12_doTwo 21 = .ok (.isub, 1) := by decide +kernel
theorem dX12_doTwo_22 : decode cX12_doTwo 22 = .ok (.iaload, 1) := by decide +kernel
theorem dX12_doTwo_23 : decode cX12_doTwo 23 = .ok (.istore_n 3, 1) := by decide +kernel
theorem dX12_doTwo_24 : decode cX12_doTwo 24 = .ok (.iload_n 1, 1) := by decide +kernel
theorem dX12_doTwo_25 : decode cX12_doTwo 25 = .ok (.sipush 1015, 3) := by decide +kernel
theorem dX12_doTwo_28 : decode cX12_doTwo 28 = .ok (.if_icmp .ne 28, 3) := by decide +kernel
theorem dX12_doTwo_31 : decode cX12_doTwo 31 = .ok (.aload_n 0, 1) := by decide +kernel
theorem dX12_doTwo_32 : decode cX12_doTwo 32 = .ok (.getfield 136, 3) := by decide +kernel
theorem dX12_doTwo_35 : decode cX12_doTwo 35 = .ok (.aload_n 0, 1) := by decide +kernel
theorem dX12_doTwo_36 : decode cX12_doTwo 36 = .ok (.getfield 295, 3) := by decide +kernel
theorem dX12_doTwo_39 : decode cX12_doTwo 39 = .ok (.iconst 2, 1) := by decide +kernel
theorem dX12_doTwo_40 : decode cX12_doTwo 40 = .ok (.isub, 1) := by decide +kernel
theorem dX12_doTwo_41 : decode cX12_doTwo 41 = .ok (.iload_n 3, 1) := by decide +kernel
theorem dX12_doTwo_42 : decode cX12_doTwo 42 = .ok (.iastore, 1) := by decide +kernel
theorem dX12_doTwo_43 : decode cX12_doTwo 43 = .ok (.aload_n 0, 1) := by decide +kernel
theorem dX12_doTwo_44 : decode cX12_doTwo 44 = .ok (.getfield 136, 3) := by decide +kernel
theorem dX12_doTwo_47 : decode cX12_doTwo 47 = .ok (.aload_n 0, 1) := by decide +kernel
theorem dX12_doTwo_48 : decode cX12_doTwo 48 = .ok (.getfield 295, 3) := by decide +kernel
theorem dX12_doTwo_51 : decode cX12_doTwo 51 = .ok (.iconst 1, 1) := by decide +kernel
theorem dX12_doTwo_52 : decode cX12_doTwo 52 = .ok (.isub, 1) := by decide +kernel
theorem dX12_doTwo_53 : decode cX12_doTwo 53 = .ok (.iload_n 2, 1) := by decide +kernel
theorem dX12_doTwo_54 : decode cX12_doTwo 54 = .ok (.iastore, 1) := by decide +kernel
theorem dX12_doTwo_55 : decode cX12_doTwo 55 = .ok (.return_, 1) := by decide +kernel
theorem dX12_doTwo_56 : decode cX12_doTwo 56 = .ok (.aload_n 0, 1) := by decide +kernel
theorem dX12_doTwo_57 : decode cX12_doTwo 57 = .ok (.dup, 1) := by decide +kernel
theorem dX12_doTwo_58 : decode cX12_doTwo 58 = .ok (.getfield 295, 3) := by decide +kernel
theorem dX12_doTwo_61 : decode cX12_doTwo 61 = .ok (.iconst 1, 1) := by decide +kernel
theorem dX12_doTwo_62 : decode cX12_doTwo 62 = .ok (.isub, 1) := by decide +kernel
theorem dX12_doTwo_63 : decode cX12_doTwo 63 = .ok (.putfield 295, 3) := by decide +kernel
theorem dX12_doTwo_66 : decode cX12_doTwo 66 = .ok (.aload_n 0, 1) := by decide +kernel
theorem dX12_doTwo_67 : decode cX12_doTwo 67 = .ok (.getfield 136, 3) := by decide +kernel
theorem dX12_doTwo_70 : decode cX12_doTwo 70 = .ok (.aload_n 0, 1) := by decide +kernel
theorem dX12_doTwo_71 : decode cX12_doTwo 71 = .ok (.getfield 295, 3) := by decide +kernel
theorem dX12_doTwo_74 : decode cX12_doTwo 74 = .ok (.iconst 1, 1) := by decide +kernel
theorem dX12_doTwo_75 : decode cX12_doTwo 75 = .ok (.isub, 1) := by decide +kernel
theorem dX12_doTwo_76 : decode cX12_doTwo 76 = .ok (.iload_n 1, 1) := by decide +kernel
theorem dX12_doTwo_77 : decode cX12_doTwo 77 = .ok (.sipush 1010, 3) := by decide +kernel
theorem dX12_doTwo_80 : decode cX12_doTwo 80 = .ok (.if_icmp .ne 9, 3) := by decide +kernel
theorem dX12_doTwo_83 : decode cX12_doTwo 83 = .ok (.iload_n 2, 1) := by decide +kernel
theorem dX12_doTwo_84 : decode cX12_doTwo 84 = .ok (.iload_n 3, 1) := by decide +kernel
theorem dX12_doTwo_85 : decode cX12_doTwo 85 = .ok (.iadd, 1) := by decide +kernel
theorem dX12_doTwo_86 : decode cX12_doTwo 86 = .ok (.goto 19, 3) := by decide +kernel
theorem dX12_doTwo_89 : decode cX12_doTwo 89 = .ok (.iload_n 1, 1) := by decide +kernel
theorem dX12_doTwo_90 : decode cX12_doTwo 90 = .ok (.sipush 1011, 3) := by decide +kernel
theorem dX12_doTwo_93 : decode cX12_doTwo 93 = .ok (.if_icmp .ne 9, 3) := by decide +kernel
theorem dX12_doTwo_96 : decode cX12_doTwo 96 = .ok (.iload_n 2, 1) := by decide +kernel
theorem dX12_doTwo_97 : decode cX12_doTwo 97 = .ok (.iload_n 3, 1) := by decide +kernel
theorem dX12_doTwo_98 : decode cX12_doTwo 98 = .ok (.isub, 1) := by decide +kernel
theorem dX12_doTwo_99 : decode cX12_doTwo 99 = .ok (.goto 6, 3) := by decide +kernel
theorem dX12_doTwo_102 : decode cX12_doTwo 102 = .ok (.iload_n 2, 1) := by decide +kernel
theorem dX12_doTwo_103 : decode cX12_doTwo 103 = .ok (.iload_n 3, 1) := by decide +kernel
theorem dX12_doTwo_104 : decode cX12_doTwo 104 = .ok (.imul, 1) := by decide +kernel
theorem dX12_doTwo_105 : decode cX12_doTwo 105 = .ok (.iastore, 1) := by decide +kernel
theorem dX12_doTwo_106 : decode cX12_doTwo 106 = .ok (.return_, 1) := by decide +kernel
theorem dX12_doOp_0 : decode cX12_doOp 0 = .ok (.iload_n 1, 1) := by decide +kernel
theorem dX12_doOp_1 : decode cX12_doOp 1 = .ok (.sipush 1010, 3) := by decide +kernel
theorem dX12_doOp_4 : decode cX12_doOp 4 = .ok (.if_icmp .ge 49, 3) := by decide +kernel
theorem dX12_doOp_7 : decode cX12_doOp 7 = .ok (.aload_n 0, 1) := by decide +kernel
theorem dX12_doOp_8 : decode cX12_doOp 8 = .ok (.getfield 136, 3) := by decide +kernel
theorem dX12_doOp_11 : decode cX12_doOp 11 = .ok (.aload_n 0, 1) := by decide +kernel
theorem dX12_doOp_12 : decode cX12_doOp 12 = .ok (.getfield 295, 3) := by decide +kernel
theorem dX12_doOp_15 : decode cX12_doOp 15 = .ok (.iload_n 1, 1) := by decide +kernel
theorem dX12_doOp_16 : decode cX12_doOp 16 = .ok (.sipush 1000, 3) := by decide +kernel
theorem dX12_doOp_19 : decode cX12_doOp 19 = .ok (.if_icmp .ge 7, 3) := by decide +kernel
theorem dX12_doOp_22 : decode cX12_doOp 22 = .ok (.iload_n 1, 1) := by decide +kernel
theorem dX12_doOp_23 : decode cX12_doOp 23 = .ok (.goto 17, 3) := by decide +kernel
theorem dX12_doOp_26 : decode cX12_doOp 26 = .ok (.aload_n 0, 1) := by decide +kernel
theorem dX12_doOp_27 : decode cX12_doOp 27 = .ok (.getfield 98, 3) := by decide +kernel
theorem dX12_doOp_30 : decode cX12_doOp 30 = .ok (.sipush 353, 3) := by decide +kernel
theorem dX12_doOp_33 : decode cX12_doOp 33 = .ok (.iload_n 1, 1) := by decide +kernel
theorem dX12_doOp_34 : decode cX12_doOp 34 = .ok (.iadd, 1) := by decide +kernel
theorem dX12_doOp_35 : decode cX12_doOp 35 = .ok (.sipush 1000, 3) := by decide +kernel
theorem dX12_doOp_38 : decode cX12_doOp 38 = .ok (.isub, 1) := by decide +kernel
theorem dX12_doOp_39 : decode cX12_doOp 39 = .ok (.iaload, 1) := by decide +kernel
theorem dX12_doOp_40 : decode cX12_doOp 40 = .ok (.iastore, 1) := by decide +kernel
theorem dX12_doOp_41 : decode cX12_doOp 41 = .ok (.aload_n 0, 1) := by decide +kernel
theorem dX12_doOp_42 : decode cX12_doOp 42 = .ok (.dup, 1) := by decide +kernel
theorem dX12_doOp_43 : decode cX12_doOp 43 = .ok (.getfield 295, 3) := by decide +kernel
theorem dX12_doOp_46 : decode cX12_doOp 46 = .ok (.iconst 1, 1) := by decide +kernel
theorem dX12_doOp_47 : decode cX12_doOp 47 = .ok (.iadd, 1) := by decide +kernel
theorem dX12_doOp_48 : decode cX12_doOp 48 = .ok (.putfield 295, 3) := by decide +kernel
theorem dX12_doOp_51 : decode cX12_doOp 51 = .ok (.iconst 1, 1) := by decide +kernel
theorem dX12_doOp_52 : decode cX12_doOp 52 = .ok (.ireturn, 1) := by decide +kernel
theorem dX12_doOp_53 : decode cX12_doOp 53 = .ok (.iload_n 1, 1) := by decide +kernel
theorem dX12_doOp_54 : decode cX12_doOp 54 = .ok (.sipush 1014, 3) := by decide +kernel
theorem dX12_doOp_57 : decode cX12_doOp 57 = .ok (.if_icmp .ne 35, 3) := by decide +kernel
theorem dX12_doOp_60 : decode cX12_doOp 60 = .ok (.aload_n 0, 1) := by decide +kernel
theorem dX12_doOp_61 : decode cX12_doOp 61 = .ok (.getfield 136, 3) := by decide +kernel
theorem dX12_doOp_64 : decode cX12_doOp 64 = .ok (.aload_n 0, 1) := by decide +kernel
theorem dX12_doOp_65 : decode cX12_doOp 65 = .ok (.getfield 295, 3) := by decide +kernel
theorem dX12_doOp_68 : decode cX12_doOp 68 = .ok (.aload_n 0, 1) := by decide +kernel
theorem dX12_doOp_69 : decode cX12_doOp 69 = .ok (.getfield 136, 3) := by decide +kernel
theorem dX12_doOp_72 : decode cX12_doOp 72 = .ok (.aload_n 0, 1) := by decide +kernel
theorem dX12_doOp_73 : decode cX12_doOp 73 = .ok (.getfield 295, 3) := by decide +kernel
theorem dX12_doOp_76 : decode cX12_doOp 76 = .ok (.iconst 1, 1) := by decide +kernel
theorem dX12_doOp_77 : decode cX12_doOp 77 = .ok (.isub, 1) := by decide +kernel
theorem dX12_doOp_78 : decode cX12_doOp 78 = .ok (.iaload, 1) := by decide +kernel
theorem dX12_doOp_79 : decode cX12_doOp 79 = .ok (.iastore, 1) := by decide +kernel
theorem dX12_doOp_80 : decode cX12_doOp 80 = .ok (.aload_n 0, 1) := by decide +kernel
theorem dX12_doOp_81 : decode cX12_doOp 81 = .ok (.dup, 1) := by decide +kernel
theorem dX12_doOp_82 : decode cX12_doOp 82 = .ok (.getfield 295, 3) := by decide +kernel
theorem dX12_doOp_85 : decode cX12_doOp 85 = .ok (.iconst 1, 1) := by decide +kernel
theorem dX12_doOp_86 : decode cX12_doOp 86 = .ok (.iadd, 1) := by decide +kernel
theorem dX12_doOp_87 : decode cX12_doOp 87 = .ok (.putfield 295, 3) := by decide +kernel
theorem dX12_doOp_90 : decode cX12_doOp 90 = .ok (.iconst 1, 1) := by decide +kernel
theorem dX12_doOp_91 : decode cX12_doOp 91 = .ok (.ireturn, 1) := by decide +kernel
theorem dX12_doOp_92 : decode cX12_doOp 92 = .ok (.iload_n 1, 1) := by decide +kernel
theorem dX12_doOp_93 : decode cX12_doOp 93 = .ok (.sipush 1013, 3) := by decide +kernel
theorem dX12_doOp_96 : decode cX12_doOp 96 = .ok (.if_icmp .eq 10, 3) := by decide +kernel
theorem dX12_doOp_99 : decode cX12_doOp 99 = .ok (.aload_n 0, 1) := by decide +kernel
theorem dX12_doOp_100 : decode cX12_doOp 100 = .ok (.iload_n 1, 1) := by decide +kernel
theorem dX12_doOp_101 : decode cX12_doOp 101 = .ok (.invokevirtual 298, 3) := by decide +kernel
theorem dX12_doOp_104 : decode cX12_doOp 104 = .ok (.iconst 1, 1) := by decide +kernel
theorem dX12_doOp_105 : decode cX12_doOp 105 = .ok (.ireturn, 1) := by decide +kernel
theorem dX12_doOp_106 : decode cX12_doOp 106 = .ok (.aload_n 0, 1) := by decide +kernel
theorem dX12_doOp_107 : decode cX12_doOp 107 = .ok (.getfield 136, 3) := by decide +kernel
theorem dX12_doOp_110 : decode cX12_doOp 110 = .ok (.aload_n 0, 1) := by decide +kernel
theorem dX12_doOp_111 : decode cX12_doOp 111 = .ok (.getfield 295, 3) := by decide +kernel
theorem dX12_doOp_114 : decode cX12_doOp 114 = .ok (.iconst 1, 1) := by decide +kernel
theorem dX12_doOp_115 : decode cX12_doOp 115 = .ok (.isub, 1) := by decide +kernel
theorem dX12_doOp_116 : decode cX12_doOp 116 = .ok (.iaload, 1) := by decide +kernel
theorem dX12_doOp_117 : decode cX12_doOp 117 = .ok (.iconst 0, 1) := by decide +kernel
theorem dX12_doOp_118 : decode cX12_doOp 118 = .ok (.bipush 63, 2) := by decide +kernel
theorem dX12_doOp_120 : decode cX12_doOp 120 = .ok (.invokestatic 75, 3) := by decide +kernel
theorem dX12_doOp_123 : decode cX12_doOp 123 = .ok (.ifCond .ne 5, 3) := by decide +kernel
theorem dX12_doOp_126 : decode cX12_doOp 126 = .ok (.iconst 0, 1) := by decide +kernel
theorem dX12_doOp_127 : decode cX12_doOp 127 = .ok (.ireturn, 1) := by decide +kernel
theorem dX12_doOp_128 : decode cX12_doOp 128 = .ok (.aload_n 0, 1) := by decide +kernel
theorem dX12_doOp_129 : decode cX12_doOp 129 = .ok (.getfield 136, 3) := by decide +kernel
theorem dX12_doOp_132 : decode cX12_doOp 132 = .ok (.aload_n 0, 1) := by decide +kernel
theorem dX12_doOp_133 : decode cX12_doOp 133 = .ok (.getfield 295, 3) := by decide +kernel
theorem dX12_doOp_136 : decode cX12_doOp 136 = .ok (.iconst 1, 1) := by decide +kernel
theorem dX12_doOp_137 : decode cX12_doOp 137 = .ok (.isub, 1) := by decide +kernel
theorem dX12_doOp_138 : decode cX12_doOp 138 = .ok (.aload_n 0, 1) := by decide +kernel
theorem dX12_doOp_139 : decode cX12_doOp 139 = .ok (.getfield 98, 3) := by decide +kernel
theorem dX12_doOp_142 : decode cX12_doOp 142 = .ok (.sipush 361, 3) := by decide +kernel
theorem dX12_doOp_145 : decode cX12_doOp 145 = .ok (.aload_n 0, 1) := by decide +kernel
theorem dX12_doOp_146 : decode cX12_doOp 146 = .ok (.getfield 136, 3) := by decide +kernel
theorem dX12_doOp_149 : decode cX12_doOp 149 = .ok (.aload_n 0, 1) := by decide +kernel
theorem dX12_doOp_150 : decode cX12_doOp 150 = .ok (.getfield 295, 3) := by decide +kernel
theorem dX12_doOp_153 : decode cX12_doOp 153 = .ok (.iconst 1, 1) := by decide +kernel
theorem dX12_doOp_154 : decode cX12_doOp 154 = .ok (.isub, 1) := by decide +kernel
theorem dX12_doOp_155 : decode cX12_doOp 155 = .ok (.iaload, 1) := by decide +kernel
theorem dX12_doOp_156 : decode cX12_doOp 156 = .ok (.iadd, 1) := by decide +kernel
theorem dX12_doOp_157 : decode cX12_doOp 157 = .ok (.iaload, 1) := by decide +kernel
theorem dX12_doOp_158 : decode cX12_doOp 158 = .ok (.iastore, 1) := by decide +kernel
theorem dX12_doOp_159 : decode cX12_doOp 159 = .ok (.iconst 1, 1) := by decide +kernel
theorem dX12_doOp_160 : decode cX12_doOp 160 = .ok (.ireturn, 1) := by decide +kernel
theorem dX12_wordAt_0 : decode cX12_wordAt 0 = .ok (.aload_n 0, 1) := by decide +kernel
theorem dX12_wordAt_1 : decode cX12_wordAt 1 = .ok (.iconst 0, 1) := by decide +kernel
theorem dX12_wordAt_2 : decode cX12_wordAt 2 = .ok (.putfield 301, 3) := by decide +kernel
theorem dX12_wordAt_5 : decode cX12_wordAt 5 = .ok (.aload_n 0, 1) := by decide +kernel
theorem dX12_wordAt_6 : decode cX12_wordAt 6 = .ok (.getfield 98, 3) := by decide +kernel
theorem dX12_wordAt_9 : decode cX12_wordAt 9 = .ok (.sipush 182, 3) := by decide +kernel
theorem dX12_wordAt_12 : decode cX12_wordAt 12 = .ok (.iload_n 1, 1) := by decide +kernel
theorem dX12_wordAt_13 : decode cX12_wordAt 13 = .ok (.iadd, 1) := by decide +kernel
theorem dX12_wordAt_14 : decode cX12_wordAt 14 = .ok (.iaload, 1) := by decide +kernel
theorem dX12_wordAt_15 : decode cX12_wordAt 15 = .ok (.iconst 2, 1) := by decide +kernel
theorem dX12_wordAt_16 : decode cX12_wordAt 16 = .ok (.if_icmp .ne 23, 3) := by decide +kernel
theorem dX12_wordAt_19 : decode cX12_wordAt 19 = .ok (.aload_n 0, 1) := by decide +kernel
theorem dX12_wordAt_20 : decode cX12_wordAt 20 = .ok (.getfield 98, 3) := by decide +kernel
theorem dX12_wordAt_23 : decode cX12_wordAt 23 = .ok (.sipush 353, 3) := by decide +kernel
theorem dX12_wordAt_26 : decode cX12_wordAt 26 = .ok (.aload_n 0, 1) := by decide +kernel
theorem dX12_wordAt_27 : decode cX12_wordAt 27 = .ok (.getfield 98, 3) := by decide +kernel
theorem dX12_wordAt_30 : decode cX12_wordAt 30 = .ok (.sipush 198, 3) := by decide +kernel
theorem dX12_wordAt_33 : decode cX12_wordAt 33 = .ok (.iload_n 1, 1) := by decide +kernel
theorem dX12_wordAt_34 : decode cX12_wordAt 34 = .ok (.iadd, 1) := by decide +kernel
theorem dX12_wordAt_35 : decode cX12_wordAt 35 = .ok (.iaload, 1) := by decide +kernel
theorem dX12_wordAt_36 : decode cX12_wordAt 36 = .ok (.iadd, 1) := by decide +kernel
theorem dX12_wordAt_37 : decode cX12_wordAt 37 = .ok (.iaload, 1) := by decide +kernel
theorem dX12_wordAt_38 : decode cX12_wordAt 38 = .ok (.ireturn, 1) := by decide +kernel
theorem dX12_wordAt_39 : decode cX12_wordAt 39 = .ok (.aload_n 0, 1) := by decide +kernel
theorem dX12_wordAt_40 : decode cX12_wordAt 40 = .ok (.iconst 0, 1) := by decide +kernel
theorem dX12_wordAt_41 : decode cX12_wordAt 41 = .ok (.putfield 295, 3) := by decide +kernel
theorem dX12_wordAt_44 : decode cX12_wordAt 44 = .ok (.iconst 0, 1) := by decide +kernel
theorem dX12_wordAt_45 : decode cX12_wordAt 45 = .ok (.istore_n 2, 1) := by decide +kernel
theorem dX12_wordAt_46 : decode cX12_wordAt 46 = .ok (.iload_n 2, 1) := by decide +kernel
theorem dX12_wordAt_47 : decode cX12_wordAt 47 = .ok (.aload_n 0, 1) := by decide +kernel
theorem dX12_wordAt_48 : decode cX12_wordAt 48 = .ok (.getfield 98, 3) := by decide +kernel
theorem dX12_wordAt_51 : decode cX12_wordAt 51 = .ok (.sipush 198, 3) := by decide +kernel
theorem dX12_wordAt_54 : decode cX12_wordAt 54 = .ok (.iload_n 1, 1) := by decide +kernel
theorem dX12_wordAt_55 : decode cX12_wordAt 55 = .ok (.iadd, 1) := by decide +kernel
theorem dX12_wordAt_56 : decode cX12_wordAt 56 = .ok (.iaload, 1) := by decide +kernel
theorem dX12_wordAt_57 : decode cX12_wordAt 57 = .ok (.if_icmp .ge 41, 3) := by decide +kernel
theorem dX12_wordAt_60 : decode cX12_wordAt 60 = .ok (.aload_n 0, 1) := by decide +kernel
theorem dX12_wordAt_61 : decode cX12_wordAt 61 = .ok (.aload_n 0, 1) := by decide +kernel
theorem dX12_wordAt_62 : decode cX12_wordAt 62 = .ok (.getfield 98, 3) := by decide +kernel
theorem dX12_wordAt_65 : decode cX12_wordAt 65 = .ok (.sipush 214, 3) := by decide +kernel
theorem dX12_wordAt_68 : decode cX12_wordAt 68 = .ok (.bipush 8, 2) := by decide +kernel
theorem dX12_wordAt_70 : decode cX12_wordAt 70 = .ok (.iload_n 1, 1) := by decide +kernel
theorem dX12_wordAt_71 : decode cX12_wordAt 71 = .ok (.imul, 1) := by decide +kernel
theorem dX12_wordAt_72 : decode cX12_wordAt 72 = .ok (.iadd, 1) := by decide +kernel
theorem dX12_wordAt_73 : decode cX12_wordAt 73 = .ok (.iload_n 2, 1) := by decide +kernel
theorem dX12_wordAt_74 : decode cX12_wordAt 74 = .ok (.iadd, 1) := by decide +kernel
theorem dX12_wordAt_75 : decode cX12_wordAt 75 = .ok (.iaload, 1) := by decide +kernel
theorem dX12_wordAt_76 : decode cX12_wordAt 76 = .ok (.invokevirtual 304, 3) := by decide +kernel
theorem dX12_wordAt_79 : decode cX12_wordAt 79 = .ok (.ifCond .eq 6, 3) := by decide +kernel
theorem dX12_wordAt_82 : decode cX12_wordAt 82 = .ok (.goto 10, 3) := by decide +kernel
theorem dX12_wordAt_85 : decode cX12_wordAt 85 = .ok (.aload_n 0, 1) := by decide +kernel
theorem dX12_wordAt_86 : decode cX12_wordAt 86 = .ok (.iconst 2, 1) := by decide +kernel
theorem dX12_wordAt_87 : decode cX12_wordAt 87 = .ok (.putfield 301, 3) := by decide +kernel
theorem dX12_wordAt_90 : decode cX12_wordAt 90 = .ok (.iconst 0, 1) := by decide +kernel
theorem dX12_wordAt_91 : decode cX12_wordAt 91 = .ok (.ireturn, 1) := by decide +kernel
theorem dX12_wordAt_92 : decode cX12_wordAt 92 = .ok (.iinc 2 1, 3) := by decide +kernel
theorem dX12_wordAt_95 : decode cX12_wordAt 95 = .ok (.goto (-49), 3) := by decide +kernel
theorem dX12_wordAt_98 : decode cX12_wordAt 98 = .ok (.aload_n 0, 1) := by decide +kernel
theorem dX12_wordAt_99 : decode cX12_wordAt 99 = .ok (.getfield 136, 3) := by decide +kernel
theorem dX12_wordAt_102 : decode cX12_wordAt 102 = .ok (.aload_n 0, 1) := by decide +kernel
theorem dX12_wordAt_103 : decode cX12_wordAt 103 = .ok (.getfield 295, 3) := by decide +kernel
theorem dX12_wordAt_106 : decode cX12_wordAt 106 = .ok (.iconst 1, 1) := by decide +kernel
theorem dX12_wordAt_107 : decode cX12_wordAt 107 = .ok (.isub, 1) := by decide +kernel
theorem dX12_wordAt_108 : decode cX12_wordAt 108 = .ok (.iaload, 1) := by decide +kernel
theorem dX12_wordAt_109 : decode cX12_wordAt 109 = .ok (.istore_n 2, 1) := by decide +kernel
theorem dX12_wordAt_110 : decode cX12_wordAt 110 = .ok (.aload_n 0, 1) := by decide +kernel
theorem dX12_wordAt_111 : decode cX12_wordAt 111 = .ok (.getfield 98, 3) := by decide +kernel
theorem dX12_wordAt_114 : decode cX12_wordAt 114 = .ok (.sipush 182, 3) := by decide +kernel
theorem dX12_wordAt_117 : decode cX12_wordAt 117 = .ok (.iload_n 1, 1) := by decide +kernel
theorem dX12_wordAt_118 : decode cX12_wordAt 118 = .ok (.iadd, 1) := by decide +kernel
theorem dX12_wordAt_119 : decode cX12_wordAt 119 = .ok (.iaload, 1) := by decide +kernel
theorem dX12_wordAt_120 : decode cX12_wordAt 120 = .ok (.iconst 1, 1) := by decide +kernel
theorem dX12_wordAt_121 : decode cX12_wordAt 121 = .ok (.if_icmp .ne 9, 3) := by decide +kernel
theorem dX12_wordAt_124 : decode cX12_wordAt 124 = .ok (.iload_n 2, 1) := by decide +kernel
theorem dX12_wordAt_125 : decode cX12_wordAt 125 = .ok (.ldc_w 307, 3) := by decide +kernel
theorem dX12_wordAt_128 : decode cX12_wordAt 128 = .ok (.iand, 1) := by decide +kernel
theorem dX12_wordAt_129 : decode cX12_wordAt 129 = .ok (.ireturn, 1) := by decide +kernel
theorem dX12_wordAt_130 : decode cX12_wordAt 130 = .ok (.iload_n 2, 1) := by decide +kernel
theorem dX12_wordAt_131 : decode cX12_wordAt 131 = .ok (.iconst 0, 1) := by decide +kernel
theorem dX12_wordAt_132 : decode cX12_wordAt 132 = .ok (.bipush 63, 2) := by decide +kernel
theorem dX12_wordAt_134 : decode cX12_wordAt 134 = .ok (.invokestatic 75, 3) := by decide +kernel
theorem dX12_wordAt_137 : decode cX12_wordAt 137 = .ok (.ifCond .eq 14, 3) := by decide +kernel
theorem dX12_wordAt_140 : decode cX12_wordAt 140 = .ok (.aload_n 0, 1) := by decide +kernel
theorem dX12_wordAt_141 : decode cX12_wordAt 141 = .ok (.getfield 98, 3) := by decide +kernel
theorem dX12_wordAt_144 : decode cX12_wordAt 144 = .ok (.sipush 361, 3) := by decide +kernel
theorem dX12_wordAt_147 : decode cX12_wordAt 147 = .ok (.iload_n 2, 1) := by decide +kernel
theorem dX12_wordAt_148 : decode cX12_wordAt 148 = .ok (.iadd, 1) := by decide +kernel
theorem dX12_wordAt_149 : decode cX12_wordAt 149 = .ok (.iaload, 1) := by decide +kernel
theorem dX12_wordAt_150 : decode cX12_wordAt 150 = .ok (.ireturn, 1) := by decide +kernel
theorem dX12_wordAt_151 : decode cX12_wordAt 151 = .ok (.aload_n 0, 1) := by decide +kernel
theorem dX12_wordAt_152 : decode cX12_wordAt 152 = .ok (.iconst 3, 1) := by decide +kernel
theorem dX12_wordAt_153 : decode cX12_wordAt 153 = .ok (.putfield 301, 3) := by decide +kernel
theorem dX12_wordAt_156 : decode cX12_wordAt 156 = .ok (.iconst 0, 1) := by decide +kernel
theorem dX12_wordAt_157 : decode cX12_wordAt 157 = .ok (.ireturn, 1) := by decide +kernel
theorem dX12_valueOf_0 : decode cX12_valueOf 0 = .ok (.aload_n 0, 1) := by decide +kernel
theorem dX12_valueOf_1 : decode cX12_valueOf 1 = .ok (.iload_n 1, 1) := by decide +kernel
theorem dX12_valueOf_2 : decode cX12_valueOf 2 = .ok (.iload_n 2, 1) := by decide +kernel
theorem dX12_valueOf_3 : decode cX12_valueOf 3 = .ok (.invokevirtual 308, 3) := by decide +kernel
theorem dX12_valueOf_6 : decode cX12_valueOf 6 = .ok (.istore_n 3, 1) := by decide +kernel
theorem dX12_valueOf_7 : decode cX12_valueOf 7 = .ok (.iload_n 3, 1) := by decide +kernel
theorem dX12_valueOf_8 : decode cX12_valueOf 8 = .ok (.iconst (-1), 1) := by decide +kernel
theorem dX12_valueOf_9 : decode cX12_valueOf 9 = .ok (.if_icmp .ne 10, 3) := by decide +kernel
theorem dX12_valueOf_12 : decode cX12_valueOf 12 = .ok (.aload_n 0, 1) := by decide +kernel
theorem dX12_valueOf_13 : decode cX12_valueOf 13 = .ok (.iconst 1, 1) := by decide +kernel
theorem dX12_valueOf_14 : decode cX12_valueOf 14 = .ok (.putfield 301, 3) := by decide +kernel
theorem dX12_valueOf_17 : decode cX12_valueOf 17 = .ok (.iconst 0, 1) := by decide +kernel
theorem dX12_valueOf_18 : decode cX12_valueOf 18 = .ok (.ireturn, 1) := by decide +kernel
theorem dX12_valueOf_19 : decode cX12_valueOf 19 = .ok (.aload_n 0, 1) := by decide +kernel
theorem dX12_valueOf_20 : decode cX12_valueOf 20 = .ok (.getfield 98, 3) := by decide +kernel
theorem dX12_valueOf_23 : decode cX12_valueOf 23 = .ok (.bipush 124, 2) := by decide +kernel
theorem dX12_valueOf_25 : decode cX12_valueOf 25 = .ok (.iload_n 1, 1) := by decide +kernel
theorem dX12_valueOf_26 : decode cX12_valueOf 26 = .ok (.iadd, 1) := by decide +kernel
theorem dX12_valueOf_27 : decode cX12_valueOf 27 = .ok (.iaload, 1) := by decide +kernel
theorem dX12_valueOf_28 : decode cX12_valueOf 28 = .ok (.istore 4, 2) := by decide +kernel
theorem dX12_valueOf_30 : decode cX12_valueOf 30 = .ok (.aload_n 0, 1) := by decide +kernel
theorem dX12_valueOf_31 : decode cX12_valueOf 31 = .ok (.getfield 98, 3) := by decide +kernel
theorem dX12_valueOf_34 : decode cX12_valueOf 34 = .ok (.bipush 102, 2) := by decide +kernel
theorem dX12_valueOf_36 : decode cX12_valueOf 36 = .ok (.iload 4, 2) := by decide +kernel
theorem dX12_valueOf_38 : decode cX12_valueOf 38 = .ok (.iadd, 1) := by decide +kernel
theorem dX12_valueOf_39 : decode cX12_valueOf 39 = .ok (.iaload, 1) := by decide +kernel
theorem dX12_valueOf_40 : decode cX12_valueOf 40 = .ok (.istore 5, 2) := by decide +kernel
theorem dX12_valueOf_42 : decode cX12_valueOf 42 = .ok (.aload_n 0, 1) := by decide +kernel
theorem dX12_valueOf_43 : decode cX12_valueOf 43 = .ok (.iload_n 3, 1) := by decide +kernel
theorem dX12_valueOf_44 : decode cX12_valueOf 44 = .ok (.invokevirtual 311, 3) := by decide +kernel
theorem dX12_valueOf_47 : decode cX12_valueOf 47 = .ok (.aload_n 0, 1) := by decide +kernel
theorem dX12_valueOf_48 : decode cX12_valueOf 48 = .ok (.getfield 98, 3) := by decide +kernel
theorem dX12_valueOf_51 : decode cX12_valueOf 51 = .ok (.bipush 96, 2) := by decide +kernel
theorem dX12_valueOf_53 : decode cX12_valueOf 53 = .ok (.iload 4, 2) := by decide +kernel
theorem dX12_valueOf_55 : decode cX12_valueOf 55 = .ok (.iadd, 1) := by decide +kernel
theorem dX12_valueOf_56 : decode cX12_valueOf 56 = .ok (.iaload, 1) := by decide +kernel
theorem dX12_valueOf_57 : decode cX12_valueOf 57 = .ok (.ishr, 1) := by decide +kernel
theorem dX12_valueOf_58 : decode cX12_valueOf 58 = .ok (.iconst 1, 1) := by decide +kernel
theorem dX12_valueOf_59 : decode cX12_valueOf 59 = .ok (.iload 5, 2) := by decide +kernel
theorem dX12_valueOf_61 : decode cX12_valueOf 61 = .ok (.ishl, 1) := by decide +kernel
theorem dX12_valueOf_62 : decode cX12_valueOf 62 = .ok (.iconst 1, 1) := by decide +kernel
theorem dX12_valueOf_63 : decode cX12_valueOf 63 = .ok (.isub, 1) := by decide +kernel
theorem dX12_valueOf_64 : decode cX12_valueOf 64 = .ok (.iand, 1) := by decide +kernel
theorem dX12_valueOf_65 : decode cX12_valueOf 65 = .ok (.istore 6, 2) := by decide +kernel
theorem dX12_valueOf_67 : decode cX12_valueOf 67 = .ok (.aload_n 0, 1) := by decide +kernel
theorem dX12_valueOf_68 : decode cX12_valueOf 68 = .ok (.getfield 98, 3) := by decide +kernel
theorem dX12_valueOf_71 : decode cX12_valueOf 71 = .ok (.bipush 108, 2) := by decide +kernel
theorem dX12_valueOf_73 : decode cX12_valueOf 73 = .ok (.iload 4, 2) := by decide +kernel
theorem dX12_valueOf_75 : decode cX12_valueOf 75 = .ok (.iadd, 1) := by decide +kernel
theorem dX12_valueOf_76 : decode cX12_valueOf 76 = .ok (.iaload, 1) := by decide +kernel
theorem dX12_valueOf_77 : decode cX12_valueOf 77 = .ok (.iconst 1, 1) := by decide +kernel
theorem dX12_valueOf_78 : decode cX12_valueOf 78 = .ok (.if_icmp .ne 25, 3) := by decide +kernel
theorem dX12_valueOf_81 : decode cX12_valueOf 81 = .ok (.iload 6, 2) := by decide +kernel
theorem dX12_valueOf_83 : decode cX12_valueOf 83 = .ok (.iload 5, 2) := by decide +kernel
theorem dX12_valueOf_85 : decode cX12_valueOf 85 = .ok (.iconst 1, 1) := by decide +kernel
theorem dX12_valueOf_86 : decode cX12_valueOf 86 = .ok (.isub, 1) := by decide +kernel
theorem dX12_valueOf_87 : decode cX12_valueOf 87 = .ok (.invokestatic 314, 3) := by decide +kernel
theorem dX12_valueOf_90 : decode cX12_valueOf 90 = .ok (.ifCond .eq 13, 3) := by decide +kernel
theorem dX12_valueOf_93 : decode cX12_valueOf 93 = .ok (.iload 6, 2) := by decide +kernel
theorem dX12_valueOf_95 : decode cX12_valueOf 95 = .ok (.iconst 1, 1) := by decide +kernel
theorem dX12_valueOf_96 : decode cX12_valueOf 96 = .ok (.iload 5, 2) := by decide +kernel
theorem dX12_valueOf_98 : decode cX12_valueOf 98 = .ok (.ishl, 1) := by decide +kernel
theorem dX12_valueOf_99 : decode cX12_valueOf 99 = .ok (.isub, 1) := by decide +kernel
theorem dX12_valueOf_100 : decode cX12_valueOf 100 = .ok (.goto 5, 3) := by decide +kernel
theorem dX12_valueOf_103 : decode cX12_valueOf 103 = .ok (.iload 6, 2) := by decide +kernel
theorem dX12_valueOf_105 : decode cX12_valueOf 105 = .ok (.ireturn, 1) := by decide +kernel
theorem dX12_isThere_0 : decode cX12_isThere 0 = .ok (.aload_n 0, 1) := by decide +kernel
theorem dX12_isThere_1 : decode cX12_isThere 1 = .ok (.iload_n 1, 1) := by decide +kernel
theorem dX12_isThere_2 : decode cX12_isThere 2 = .ok (.aload_n 0, 1) := by decide +kernel
theorem dX12_isThere_3 : decode cX12_isThere 3 = .ok (.getfield 98, 3) := by decide +kernel
theorem dX12_isThere_6 : decode cX12_isThere 6 = .ok (.sipush 342, 3) := by decide +kernel
theorem dX12_isThere_9 : decode cX12_isThere 9 = .ok (.iaload, 1) := by decide +kernel
theorem dX12_isThere_10 : decode cX12_isThere 10 = .ok (.invokevirtual 317, 3) := by decide +kernel
theorem dX12_isThere_13 : decode cX12_isThere 13 = .ok (.pop, 1) := by decide +kernel
theorem dX12_isThere_14 : decode cX12_isThere 14 = .ok (.aload_n 0, 1) := by decide +kernel
theorem dX12_isThere_15 : decode cX12_isThere 15 = .ok (.getfield 301, 3) := by decide +kernel
theorem dX12_isThere_18 : decode cX12_isThere 18 = .ok (.ifCond .ne 7, 3) := by decide +kernel
theorem dX12_isThere_21 : decode cX12_isThere 21 = .ok (.iconst 1, 1) := by decide +kernel
theorem dX12_isThere_22 : decode cX12_isThere 22 = .ok (.goto 4, 3) := by decide +kernel
theorem dX12_isThere_25 : decode cX12_isThere 25 = .ok (.iconst 0, 1) := by decide +kernel
theorem dX12_isThere_26 : decode cX12_isThere 26 = .ok (.ireturn, 1) := by decide +kernel
theorem dX12_thoseThere_0 : decode cX12_thoseThere 0 = .ok (.iconst 0, 1) := by decide +kernel
theorem dX12_thoseThere_1 : decode cX12_thoseThere 1 = .ok (.istore_n 1, 1) := by decide +kernel
theorem dX12_thoseThere_2 : decode cX12_thoseThere 2 = .ok (.iconst 0, 1) := by decide +kernel
theorem dX12_thoseThere_3 : decode cX12_thoseThere 3 = .ok (.istore_n 2, 1) := by decide +kernel
theorem dX12_thoseThere_4 : decode cX12_thoseThere 4 = .ok (.iload_n 2, 1) := by decide +kernel
theorem dX12_thoseThere_5 : decode cX12_thoseThere 5 = .ok (.aload_n 0, 1) := by decide +kernel
theorem dX12_thoseThere_6 : decode cX12_thoseThere 6 = .ok (.getfield 98, 3) := by decide +kernel
theorem dX12_thoseThere_9 : decode cX12_thoseThere 9 = .ok (.iconst 4, 1) := by decide +kernel
theorem dX12_thoseThere_10 : decode cX12_thoseThere 10 = .ok (.iaload, 1) := by decide +kernel
theorem dX12_thoseThere_11 : decode cX12_thoseThere 11 = .ok (.if_icmp .ge 23, 3) := by decide +kernel
theorem dX12_thoseThere_14 : decode cX12_thoseThere 14 = .ok (.aload_n 0, 1) := by decide +kernel
theorem dX12_thoseThere_15 : decode cX12_thoseThere 15 = .ok (.iload_n 2, 1) := by decide +kernel
theorem dX12_thoseThere_16 : decode cX12_thoseThere 16 = .ok (.invokevirtual 320, 3) := by decide +kernel
theorem dX12_thoseThere_19 : decode cX12_thoseThere 19 = .ok (.ifCond .eq 9, 3) := by decide +kernel
theorem dX12_thoseThere_22 : decode cX12_thoseThere 22 = .ok (.iload_n 1, 1) := by decide +kernel
theorem dX12_thoseThere_23 : decode cX12_thoseThere 23 = .ok (.iconst 1, 1) := by decide +kernel
theorem dX12_thoseThere_24 : decode cX12_thoseThere 24 = .ok (.iload_n 2, 1) := by decide +kernel
theorem dX12_thoseThere_25 : decode cX12_thoseThere 25 = .ok (.ishl, 1) := by decide +kernel
theorem dX12_thoseThere_26 : decode cX12_thoseThere 26 = .ok (.ior, 1) := by decide +kernel
theorem dX12_thoseThere_27 : decode cX12_thoseThere 27 = .ok (.istore_n 1, 1) := by decide +kernel
theorem dX12_thoseThere_28 : decode cX12_thoseThere 28 = .ok (.iinc 2 1, 3) := by decide +kernel
theorem dX12_thoseThere_31 : decode cX12_thoseThere 31 = .ok (.goto (-27), 3) := by decide +kernel
theorem dX12_thoseThere_34 : decode cX12_thoseThere 34 = .ok (.iload_n 1, 1) := by decide +kernel
theorem dX12_thoseThere_35 : decode cX12_thoseThere 35 = .ok (.ireturn, 1) := by decide +kernel
theorem dX12_wheresOf_0 : decode cX12_wheresOf 0 = .ok (.iconst 0, 1) := by decide +kernel
theorem dX12_wheresOf_1 : decode cX12_wheresOf 1 = .ok (.istore_n 2, 1) := by decide +kernel
theorem dX12_wheresOf_2 : decode cX12_wheresOf 2 = .ok (.iconst 0, 1) := by decide +kernel
theorem dX12_wheresOf_3 : decode cX12_wheresOf 3 = .ok (.istore_n 3, 1) := by decide +kernel
theorem dX12_wheresOf_4 : decode cX12_wheresOf 4 = .ok (.iload_n 3, 1) := by decide +kernel
theorem dX12_wheresOf_5 : decode cX12_wheresOf 5 = .ok (.aload_n 0, 1) := by decide +kernel
theorem dX12_wheresOf_6 : decode cX12_wheresOf 6 = .ok (.getfield 98, 3) := by decide +kernel
theorem dX12_wheresOf_9 : decode cX12_wheresOf 9 = .ok (.iconst 5, 1) := by decide +kernel
theorem dX12_wheresOf_10 : decode cX12_wheresOf 10 = .ok (.iaload, 1) := by decide +kernel
theorem dX12_wheresOf_11 : decode cX12_wheresOf 11 = .ok (.if_icmp .ge 26, 3) := by decide +kernel
theorem dX12_wheresOf_14 : decode cX12_wheresOf 14 = .ok (.aload_n 0, 1) := by decide +kernel
theorem dX12_wheresOf_15 : decode cX12_wheresOf 15 = .ok (.getfield 98, 3) := by decide +kernel
theorem dX12_wheresOf_18 : decode cX12_wheresOf 18 = .ok (.sipush 134, 3) := by decide +kernel
theorem dX12_wheresOf_21 : decode cX12_wheresOf 21 = .ok (.iload_n 3, 1) := by decide +kernel
theorem dX12_wheresOf_22 : decode cX12_wheresOf 22 = .ok (.iadd, 1) := by decide +kernel
theorem dX12_wheresOf_23 : decode cX12_wheresOf 23 = .ok (.iaload, 1) := by decide +kernel
theorem dX12_wheresOf_24 : decode cX12_wheresOf 24 = .ok (.iload_n 1, 1) := by decide +kernel
theorem dX12_wheresOf_25 : decode cX12_wheresOf 25 = .ok (.if_icmp .ne 6, 3) := by decide +kernel
theorem dX12_wheresOf_28 : decode cX12_wheresOf 28 = .ok (.iinc 2 1, 3) := by decide +kernel
theorem dX12_wheresOf_31 : decode cX12_wheresOf 31 = .ok (.iinc 3 1, 3) := by decide +kernel
theorem dX12_wheresOf_34 : decode cX12_wheresOf 34 = .ok (.goto (-30), 3) := by decide +kernel
theorem dX12_wheresOf_37 : decode cX12_wheresOf 37 = .ok (.iload_n 2, 1) := by decide +kernel
theorem dX12_wheresOf_38 : decode cX12_wheresOf 38 = .ok (.ireturn, 1) := by decide +kernel
theorem dX12_var_0 : decode cX12_var 0 = .ok (.aload_n 0, 1) := by decide +kernel
theorem dX12_var_1 : decode cX12_var 1 = .ok (.iconst 0, 1) := by decide +kernel
theorem dX12_var_2 : decode cX12_var 2 = .ok (.putfield 1, 3) := by decide +kernel
theorem dX12_var_5 : decode cX12_var 5 = .ok (.aload_n 0, 1) := by decide +kernel
theorem dX12_var_6 : decode cX12_var 6 = .ok (.iload_n 1, 1) := by decide +kernel
theorem dX12_var_7 : decode cX12_var 7 = .ok (.invokevirtual 323, 3) := by decide +kernel
theorem dX12_var_10 : decode cX12_var 10 = .ok (.ifCond .ne 5, 3) := by decide +kernel
theorem dX12_var_13 : decode cX12_var 13 = .ok (.iconst (-1), 1) := by decide +kernel
theorem dX12_var_14 : decode cX12_var 14 = .ok (.ireturn, 1) := by decide +kernel
theorem dX12_var_15 : decode cX12_var 15 = .ok (.aload_n 0, 1) := by decide +kernel
theorem dX12_var_16 : decode cX12_var 16 = .ok (.getfield 98, 3) := by decide +kernel
theorem dX12_var_19 : decode cX12_var 19 = .ok (.bipush 124, 2) := by decide +kernel
theorem dX12_var_21 : decode cX12_var 21 = .ok (.iload_n 1, 1) := by decide +kernel
theorem dX12_var_22 : decode cX12_var 22 = .ok (.iadd, 1) := by decide +kernel
theorem dX12_var_23 : decode cX12_var 23 = .ok (.iaload, 1) := by decide +kernel
theorem dX12_var_24 : decode cX12_var 24 = .ok (.istore_n 3, 1) := by decide +kernel
theorem dX12_var_25 : decode cX12_var 25 = .ok (.iload_n 2, 1) := by decide +kernel
theorem dX12_var_26 : decode cX12_var 26 = .ok (.tableswitch 86 0 5 #[38, 48, 50, 56, 66, 76], 38) := by decide +kernel
theorem dX12_var_64 : decode cX12_var 64 = .ok (.aload_n 0, 1) := by decide +kernel
theorem dX12_var_65 : decode cX12_var 65 = .ok (.getfield 98, 3) := by decide +kernel
theorem dX12_var_68 : decode cX12_var 68 = .ok (.bipush 114, 2) := by decide +kernel
theorem dX12_var_70 : decode cX12_var 70 = .ok (.iload_n 1, 1) := by decide +kernel
theorem dX12_var_71 : decode cX12_var 71 = .ok (.iadd, 1) := by decide +kernel
theorem dX12_var_72 : decode cX12_var 72 = .ok (.iaload, 1) := by decide +kernel
theorem dX12_var_73 : decode cX12_var 73 = .ok (.ireturn, 1) := by decide +kernel
theorem dX12_var_74 : decode cX12_var 74 = .ok (.iload_n 3, 1) := by decide +kernel
theorem dX12_var_75 : decode cX12_var 75 = .ok (.ireturn, 1) := by decide +kernel
theorem dX12_var_76 : decode cX12_var 76 = .ok (.aload_n 0, 1) := by decide +kernel
theorem dX12_var_77 : decode cX12_var 77 = .ok (.iload_n 1, 1) := by decide +kernel
theorem dX12_var_78 : decode cX12_var 78 = .ok (.invokevirtual 326, 3) := by decide +kernel
theorem dX12_var_81 : decode cX12_var 81 = .ok (.ireturn, 1) := by decide +kernel
theorem dX12_var_82 : decode cX12_var 82 = .ok (.aload_n 0, 1) := by decide +kernel
theorem dX12_var_83 : decode cX12_var 83 = .ok (.getfield 98, 3) := by decide +kernel
theorem dX12_var_86 : decode cX12_var 86 = .ok (.bipush 96, 2) := by decide +kernel
theorem dX12_var_88 : decode cX12_var 88 = .ok (.iload_n 3, 1) := by decide +kernel
theorem dX12_var_89 : decode cX12_var 89 = .ok (.iadd, 1) := by decide +kernel
theorem dX12_var_90 : decode cX12_var 90 = .ok (.iaload, 1) := by decide +kernel
theorem dX12_var_91 : decode cX12_var 91 = .ok (.ireturn, 1) := by decide +kernel
theorem dX12_var_92 : decode cX12_var 92 = .ok (.aload_n 0, 1) := by decide +kernel
theorem dX12_var_93 : decode cX12_var 93 = .ok (.getfield 98, 3) := by decide +kernel
theorem dX12_var_96 : decode cX12_var 96 = .ok (.bipush 102, 2) := by decide +kernel
theorem dX12_var_98 : decode cX12_var 98 = .ok (.iload_n 3, 1) := by decide +kernel
theorem dX12_var_99 : decode cX12_var 99 = .ok (.iadd, 1) := by decide +kernel
theorem dX12_var_100 : decode cX12_var 100 = .ok (.iaload, 1) := by decide +kernel
theorem dX12_var_101 : decode cX12_var 101 = .ok (.ireturn, 1) := by decide +kernel
theorem dX12_var_102 : decode cX12_var 102 = .ok (.aload_n 0, 1) := by decide +kernel
theorem dX12_var_103 : decode cX12_var 103 = .ok (.getfield 98, 3) := by decide +kernel
theorem dX12_var_106 : decode cX12_var 106 = .ok (.bipush 108, 2) := by decide +kernel
theorem dX12_var_108 : decode cX12_var 108 = .ok (.iload_n 3, 1) := by decide +kernel
theorem dX12_var_109 : decode cX12_var 109 = .ok (.iadd, 1) := by decide +kernel
theorem dX12_var_110 : decode cX12_var 110 = .ok (.iaload, 1) := by decide +kernel
theorem dX12_var_111 : decode cX12_var 111 = .ok (.ireturn, 1) := by decide +kernel
theorem dX12_var_112 : decode cX12_var 112 = .ok (.iconst (-1), 1) := by decide +kernel
theorem dX12_var_113 : decode cX12_var 113 = .ok (.ireturn, 1) := by decide +kernel
theorem dX12_placeOf_0 : decode cX12_placeOf 0 = .ok (.aload_n 0, 1) := by decide +kernel
theorem dX12_placeOf_1 : decode cX12_placeOf 1 = .ok (.iconst 0, 1) := by decide +kernel
theorem dX12_placeOf_2 : decode cX12_placeOf 2 = .ok (.putfield 1, 3) := by decide +kernel
theorem dX12_placeOf_5 : decode cX12_placeOf 5 = .ok (.aload_n 0, 1) := by decide +kernel
theorem dX12_placeOf_6 : decode cX12_placeOf 6 = .ok (.iload_n 1, 1) := by decide +kernel
theorem dX12_placeOf_7 : decode cX12_placeOf 7 = .ok (.invokevirtual 323, 3) := by decide +kernel
theorem dX12_placeOf_10 : decode cX12_placeOf 10 = .ok (.ifCond .eq 20, 3) := by decide +kernel
theorem dX12_placeOf_13 : decode cX12_placeOf 13 = .ok (.aload_n 0, 1) := by decide +kernel
theorem dX12_placeOf_14 : decode cX12_placeOf 14 = .ok (.iload_n 2, 1) := by decide +kernel
theorem dX12_placeOf_15 : decode cX12_placeOf 15 = .ok (.invokevirtual 267, 3) := by decide +kernel
theorem dX12_placeOf_18 : decode cX12_placeOf 18 = .ok (.ifCond .eq 12, 3) := by decide +kernel
theorem dX12_placeOf_21 : decode cX12_placeOf 21 = .ok (.aload_n 0, 1) := by decide +kernel
theorem dX12_placeOf_22 : decode cX12_placeOf 22 = .ok (.iload_n 1, 1) := by decide +kernel
theorem dX12_placeOf_23 : decode cX12_placeOf 23 = .ok (.iload_n 2, 1) := by decide +kernel
theorem dX12_placeOf_24 : decode cX12_placeOf 24 = .ok (.invokevirtual 308, 3) := by decide +kernel
theorem dX12_placeOf_27 : decode cX12_placeOf 27 = .ok (.goto 4, 3) := by decide +kernel
theorem dX12_placeOf_30 : decode cX12_placeOf 30 = .ok (.iconst (-1), 1) := by decide +kernel
theorem dX12_placeOf_31 : decode cX12_placeOf 31 = .ok (.ireturn, 1) := by decide +kernel
theorem dX12_value_0 : decode cX12_value 0 = .ok (.aload_n 0, 1) := by decide +kernel
theorem dX12_value_1 : decode cX12_value 1 = .ok (.iconst 0, 1) := by decide +kernel
theorem dX12_value_2 : decode cX12_value 2 = .ok (.putfield 1, 3) := by decide +kernel
theorem dX12_value_5 : decode cX12_value 5 = .ok (.aload_n 0, 1) := by decide +kernel
theorem dX12_value_6 : decode cX12_value 6 = .ok (.iload_n 1, 1) := by decide +kernel
theorem dX12_value_7 : decode cX12_value 7 = .ok (.invokevirtual 323, 3) := by decide +kernel
theorem dX12_value_10 : decode cX12_value 10 = .ok (.ifCond .eq 11, 3) := by decide +kernel
theorem dX12_value_13 : decode cX12_value 13 = .ok (.aload_n 0, 1) := by decide +kernel
theorem dX12_value_14 : decode cX12_value 14 = .ok (.iload_n 2, 1) := by decide +kernel
theorem dX12_value_15 : decode cX12_value 15 = .ok (.invokevirtual 267, 3) := by decide +kernel
theorem dX12_value_18 : decode cX12_value 18 = .ok (.ifCond .ne 8, 3) := by decide +kernel
theorem dX12_value_21 : decode cX12_value 21 = .ok (.aload_n 0, 1) := by decide +kernel
theorem dX12_value_22 : decode cX12_value 22 = .ok (.invokevirtual 329, 3) := by decide +kernel
theorem dX12_value_25 : decode cX12_value 25 = .ok (.ireturn, 1) := by decide +kernel
theorem dX12_value_26 : decode cX12_value 26 = .ok (.aload_n 0, 1) := by decide +kernel
theorem dX12_value_27 : decode cX12_value 27 = .ok (.iload_n 1, 1) := by decide +kernel
theorem dX12_value_28 : decode cX12_value 28 = .ok (.iload_n 2, 1) := by decide +kernel
theorem dX12_value_29 : decode cX12_value 29 = .ok (.invokevirtual 317, 3) := by decide +kernel
theorem dX12_value_32 : decode cX12_value 32 = .ok (.istore_n 3, 1) := by decide +kernel
theorem dX12_value_33 : decode cX12_value 33 = .ok (.aload_n 0, 1) := by decide +kernel
theorem dX12_value_34 : decode cX12_value 34 = .ok (.getfield 301, 3) := by decide +kernel
theorem dX12_value_37 : decode cX12_value 37 = .ok (.ifCond .ne 7, 3) := by decide +kernel
theorem dX12_value_40 : decode cX12_value 40 = .ok (.iload_n 3, 1) := by decide +kernel
theorem dX12_value_41 : decode cX12_value 41 = .ok (.goto 7, 3) := by decide +kernel
theorem dX12_value_44 : decode cX12_value 44 = .ok (.aload_n 0, 1) := by decide +kernel
theorem dX12_value_45 : decode cX12_value 45 = .ok (.invokevirtual 329, 3) := by decide +kernel
theorem dX12_value_48 : decode cX12_value 48 = .ok (.ireturn, 1) := by decide +kernel
theorem dX12_why_0 : decode cX12_why 0 = .ok (.aload_n 0, 1) := by decide +kernel
theorem dX12_why_1 : decode cX12_why 1 = .ok (.iconst 0, 1) := by decide +kernel
theorem dX12_why_2 : decode cX12_why 2 = .ok (.putfield 1, 3) := by decide +kernel
theorem dX12_why_5 : decode cX12_why 5 = .ok (.aload_n 0, 1) := by decide +kernel
theorem dX12_why_6 : decode cX12_why 6 = .ok (.iload_n 1, 1) := by decide +kernel
theorem dX12_why_7 : decode cX12_why 7 = .ok (.invokevirtual 323, 3) := by decide +kernel
theorem dX12_why_10 : decode cX12_why 10 = .ok (.ifCond .eq 11, 3) := by decide +kernel
theorem dX12_why_13 : decode cX12_why 13 = .ok (.aload_n 0, 1) := by decide +kernel
theorem dX12_why_14 : decode cX12_why 14 = .ok (.iload_n 2, 1) := by decide +kernel
theorem dX12_why_15 : decode cX12_why 15 = .ok (.invokevirtual 267, 3) := by decide +kernel
theorem dX12_why_18 : decode cX12_why 18 = .ok (.ifCond .ne 5, 3) := by decide +kernel
theorem dX12_why_21 : decode cX12_why 21 = .ok (.iconst (-1), 1) := by decide +kernel
theorem dX12_why_22 : decode cX12_why 22 = .ok (.ireturn, 1) := by decide +kernel
theorem dX12_why_23 : decode cX12_why 23 = .ok (.aload_n 0, 1) := by decide +kernel
theorem dX12_why_24 : decode cX12_why 24 = .ok (.iload_n 1, 1) := by decide +kernel
theorem dX12_why_25 : decode cX12_why 25 = .ok (.iload_n 2, 1) := by decide +kernel
theorem dX12_why_26 : decode cX12_why 26 = .ok (.invokevirtual 317, 3) := by decide +kernel
theorem dX12_why_29 : decode cX12_why 29 = .ok (.pop, 1) := by decide +kernel
theorem dX12_why_30 : decode cX12_why 30 = .ok (.aload_n 0, 1) := by decide +kernel
theorem dX12_why_31 : decode cX12_why 31 = .ok (.getfield 301, 3) := by decide +kernel
theorem dX12_why_34 : decode cX12_why 34 = .ok (.ireturn, 1) := by decide +kernel
theorem dX12_now_0 : decode cX12_now 0 = .ok (.aload_n 0, 1) := by decide +kernel
theorem dX12_now_1 : decode cX12_now 1 = .ok (.iconst 0, 1) := by decide +kernel
theorem dX12_now_2 : decode cX12_now 2 = .ok (.putfield 1, 3) := by decide +kernel
theorem dX12_now_5 : decode cX12_now 5 = .ok (.iload_n 1, 1) := by decide +kernel
theorem dX12_now_6 : decode cX12_now 6 = .ok (.tableswitch 97 0 5 #[38, 47, 60, 69, 83, 88], 38) := by decide +kernel
theorem dX12_now_44 : decode cX12_now 44 = .ok (.aload_n 0, 1) := by decide +kernel
theorem dX12_now_45 : decode cX12_now 45 = .ok (.getfield 98, 3) := by decide +kernel
theorem dX12_now_48 : decode cX12_now 48 = .ok (.sipush 342, 3) := by decide +kernel
theorem dX12_now_51 : decode cX12_now 51 = .ok (.iaload, 1) := by decide +kernel
theorem dX12_now_52 : decode cX12_now 52 = .ok (.ireturn, 1) := by decide +kernel
theorem dX12_now_53 : decode cX12_now 53 = .ok (.aload_n 0, 1) := by decide +kernel
theorem dX12_now_54 : decode cX12_now 54 = .ok (.aload_n 0, 1) := by decide +kernel
theorem dX12_now_55 : decode cX12_now 55 = .ok (.getfield 98, 3) := by decide +kernel
theorem dX12_now_58 : decode cX12_now 58 = .ok (.sipush 342, 3) := by decide +kernel
theorem dX12_now_61 : decode cX12_now 61 = .ok (.iaload, 1) := by decide +kernel
theorem dX12_now_62 : decode cX12_now 62 = .ok (.invokevirtual 270, 3) := by decide +kernel
theorem dX12_now_65 : decode cX12_now 65 = .ok (.ireturn, 1) := by decide +kernel
theorem dX12_now_66 : decode cX12_now 66 = .ok (.aload_n 0, 1) := by decide +kernel
theorem dX12_now_67 : decode cX12_now 67 = .ok (.getfield 98, 3) := by decide +kernel
theorem dX12_now_70 : decode cX12_now 70 = .ok (.sipush 344, 3) := by decide +kernel
theorem dX12_now_73 : decode cX12_now 73 = .ok (.iaload, 1) := by decide +kernel
theorem dX12_now_74 : decode cX12_now 74 = .ok (.ireturn, 1) := by decide +kernel
theorem dX12_now_75 : decode cX12_now 75 = .ok (.aload_n 0, 1) := by decide +kernel
theorem dX12_now_76 : decode cX12_now 76 = .ok (.aload_n 0, 1) := by decide +kernel
theorem dX12_now_77 : decode cX12_now 77 = .ok (.getfield 98, 3) := by decide +kernel
theorem dX12_now_80 : decode cX12_now 80 = .ok (.sipush 342, 3) := by decide +kernel
theorem dX12_now_83 : decode cX12_now 83 = .ok (.iaload, 1) := by decide +kernel
theorem dX12_now_84 : decode cX12_now 84 = .ok (.iconst (-1), 1) := by decide +kernel
theorem dX12_now_85 : decode cX12_now 85 = .ok (.invokevirtual 282, 3) := by decide +kernel
theorem dX12_now_88 : decode cX12_now 88 = .ok (.ireturn, 1) := by decide +kernel
theorem dX12_now_89 : decode cX12_now 89 = .ok (.aload_n 0, 1) := by decide +kernel
theorem dX12_now_90 : decode cX12_now 90 = .ok (.invokevirtual 332, 3) := by decide +kernel
theorem dX12_now_93 : decode cX12_now 93 = .ok (.ireturn, 1) := by decide +kernel
theorem dX12_now_94 : decode cX12_now 94 = .ok (.aload_n 0, 1) := by decide +kernel
theorem dX12_now_95 : decode cX12_now 95 = .ok (.getfield 98, 3) := by decide +kernel
theorem dX12_now_98 : decode cX12_now 98 = .ok (.sipush 343, 3) := by decide +kernel
theorem dX12_now_101 : decode cX12_now 101 = .ok (.iaload, 1) := by decide +kernel
theorem dX12_now_102 : decode cX12_now 102 = .ok (.ireturn, 1) := by decide +kernel
theorem dX12_now_103 : decode cX12_now 103 = .ok (.iconst (-1), 1) := by decide +kernel
theorem dX12_now_104 : decode cX12_now 104 = .ok (.ireturn, 1) := by decide +kernel
theorem dX12_register_0 : decode cX12_register 0 = .ok (.aload_n 0, 1) := by decide +kernel
theorem dX12_register_1 : decode cX12_register 1 = .ok (.iconst 0, 1) := by decide +kernel
theorem dX12_register_2 : decode cX12_register 2 = .ok (.putfield 1, 3) := by decide +kernel
theorem dX12_register_5 : decode cX12_register 5 = .ok (.iload_n 1, 1) := by decide +kernel
theorem dX12_register_6 : decode cX12_register 6 = .ok (.iconst 0, 1) := by decide +kernel
theorem dX12_register_7 : decode cX12_register 7 = .ok (.bipush 7, 2) := by decide +kernel
theorem dX12_register_9 : decode cX12_register 9 = .ok (.invokestatic 75, 3) := by decide +kernel
theorem dX12_register_12 : decode cX12_register 12 = .ok (.ifCond .eq 16, 3) := by decide +kernel
theorem dX12_register_15 : decode cX12_register 15 = .ok (.aload_n 0, 1) := by decide +kernel
theorem dX12_register_16 : decode cX12_register 16 = .ok (.getfield 98, 3) := by decide +kernel
theorem dX12_register_19 : decode cX12_register 19 = .ok (.sipush 353, 3) := by decide +kernel
theorem dX12_register_22 : decode cX12_register 22 = .ok (.iload_n 1, 1) := by decide +kernel
theorem dX12_register_23 : decode cX12_register 23 = .ok (.iadd, 1) := by decide +kernel
theorem dX12_register_24 : decode cX12_register 24 = .ok (.iaload, 1) := by decide +kernel
theorem dX12_register_25 : decode cX12_register 25 = .ok (.goto 4, 3) := by decide +kernel
theorem dX12_register_28 : decode cX12_register 28 = .ok (.iconst (-1), 1) := by decide +kernel
theorem dX12_register_29 : decode cX12_register 29 = .ok (.ireturn, 1) := by decide +kernel
theorem dX12_memory_0 : decode cX12_memory 0 = .ok (.aload_n 0, 1) := by decide +kernel
theorem dX12_memory_1 : decode cX12_memory 1 = .ok (.iconst 0, 1) := by decide +kernel
theorem dX12_memory_2 : decode cX12_memory 2 = .ok (.putfield 1, 3) := by decide +kernel
theorem dX12_memory_5 : decode cX12_memory 5 = .ok (.iload_n 1, 1) := by decide +kernel
theorem dX12_memory_6 : decode cX12_memory 6 = .ok (.iconst 0, 1) := by decide +kernel
theorem dX12_memory_7 : decode cX12_memory 7 = .ok (.bipush 63, 2) := by decide +kernel
theorem dX12_memory_9 : decode cX12_memory 9 = .ok (.invokestatic 75, 3) := by decide +kernel
theorem dX12_memory_12 : decode cX12_memory 12 = .ok (.ifCond .eq 16, 3) := by decide +kernel
theorem dX12_memory_15 : decode cX12_memory 15 = .ok (.aload_n 0, 1) := by decide +kernel
theorem dX12_memory_16 : decode cX12_memory 16 = .ok (.getfield 98, 3) := by decide +kernel
theorem dX12_memory_19 : decode cX12_memory 19 = .ok (.sipush 361, 3) := by decide +kernel
theorem dX12_memory_22 : decode cX12_memory 22 = .ok (.iload_n 1, 1) := by decide +kernel
theorem dX12_memory_23 : decode cX12_memory 23 = .ok (.iadd, 1) := by decide +kernel
theorem dX12_memory_24 : decode cX12_memory 24 = .ok (.iaload, 1) := by decide +kernel
theorem dX12_memory_25 : decode cX12_memory 25 = .ok (.goto 4, 3) := by decide +kernel
theorem dX12_memory_28 : decode cX12_memory 28 = .ok (.iconst (-1), 1) := by decide +kernel
theorem dX12_memory_29 : decode cX12_memory 29 = .ok (.ireturn, 1) := by decide +kernel
theorem dX12_fraction_0 : decode cX12_fraction 0 = .ok (.iload_n 3, 1) := by decide +kernel
theorem dX12_fraction_1 : decode cX12_fraction 1 = .ok (.ifCond .ne 7, 3) := by decide +kernel
theorem dX12_fraction_4 : decode cX12_fraction 4 = .ok (.iload_n 1, 1) := by decide +kernel
theorem dX12_fraction_5 : decode cX12_fraction 5 = .ok (.goto 4, 3) := by decide +kernel
theorem dX12_fraction_8 : decode cX12_fraction 8 = .ok (.iload_n 2, 1) := by decide +kernel
theorem dX12_fraction_9 : decode cX12_fraction 9 = .ok (.iload_n 1, 1) := by decide +kernel
theorem dX12_fraction_10 : decode cX12_fraction 10 = .ok (.iload_n 2, 1) := by decide +kernel
theorem dX12_fraction_11 : decode cX12_fraction 11 = .ok (.invokestatic 335, 3) := by decide +kernel
theorem dX12_fraction_14 : decode cX12_fraction 14 = .ok (.idiv, 1) := by decide +kernel
theorem dX12_fraction_15 : decode cX12_fraction 15 = .ok (.ireturn, 1) := by decide +kernel
theorem dX12_cover_0 : decode cX12_cover 0 = .ok (.aload_n 0, 1) := by decide +kernel
theorem dX12_cover_1 : decode cX12_cover 1 = .ok (.iconst 0, 1) := by decide +kernel
theorem dX12_cover_2 : decode cX12_cover 2 = .ok (.putfield 1, 3) := by decide +kernel
theorem dX12_cover_5 : decode cX12_cover 5 = .ok (.aload_n 0, 1) := by decide +kernel
theorem dX12_cover_6 : decode cX12_cover 6 = .ok (.iload_n 1, 1) := by decide +kernel
theorem dX12_cover_7 : decode cX12_cover 7 = .ok (.invokevirtual 323, 3) := by decide +kernel
theorem dX12_cover_10 : decode cX12_cover 10 = .ok (.ifCond .eq 12, 3) := by decide +kernel
theorem dX12_cover_13 : decode cX12_cover 13 = .ok (.iload_n 2, 1) := by decide +kernel
theorem dX12_cover_14 : decode cX12_cover 14 = .ok (.iconst 0, 1) := by decide +kernel
theorem dX12_cover_15 : decode cX12_cover 15 = .ok (.iconst 1, 1) := by decide +kernel
theorem dX12_cover_16 : decode cX12_cover 16 = .ok (.invokestatic 75, 3) := by decide +kernel
theorem dX12_cover_19 : decode cX12_cover 19 = .ok (.ifCond .ne 8, 3) := by decide +kernel
theorem dX12_cover_22 : decode cX12_cover 22 = .ok (.aload_n 0, 1) := by decide +kernel
theorem dX12_cover_23 : decode cX12_cover 23 = .ok (.invokevirtual 329, 3) := by decide +kernel
theorem dX12_cover_26 : decode cX12_cover 26 = .ok (.ireturn, 1) := by decide +kernel
theorem dX12_cover_27 : decode cX12_cover 27 = .ok (.iconst 0, 1) := by decide +kernel
theorem dX12_cover_28 : decode cX12_cover 28 = .ok (.istore_n 3, 1) := by decide +kernel
theorem dX12_cover_29 : decode cX12_cover 29 = .ok (.iconst 0, 1) := by decide +kernel
theorem dX12_cover_30 : decode cX12_cover 30 = .ok (.istore 4, 2) := by decide +kernel
theorem dX12_cover_32 : decode cX12_cover 32 = .ok (.iload 4, 2) := by decide +kernel
theorem dX12_cover_34 : decode cX12_cover 34 = .ok (.aload_n 0, 1) := by decide +kernel
theorem dX12_cover_35 : decode cX12_cover 35 = .ok (.getfield 98, 3) := by decide +kernel
theorem dX12_cover_38 : decode cX12_cover 38 = .ok (.iconst 5, 1) := by decide +kernel
theorem dX12_cover_39 : decode cX12_cover 39 = .ok (.iaload, 1) := by decide +kernel
theorem dX12_cover_40 : decode cX12_cover 40 = .ok (.if_icmp .ge 50, 3) := by decide +kernel
theorem dX12_cover_43 : decode cX12_cover 43 = .ok (.aload_n 0, 1) := by decide +kernel
theorem dX12_cover_44 : decode cX12_cover 44 = .ok (.getfield 98, 3) := by decide +kernel
theorem dX12_cover_47 : decode cX12_cover 47 = .ok (.sipush 134, 3) := by decide +kernel
theorem dX12_cover_50 : decode cX12_cover 50 = .ok (.iload 4, 2) := by decide +kernel
theorem dX12_cover_52 : decode cX12_cover 52 = .ok (.iadd, 1) := by decide +kernel
theorem dX12_cover_53 : decode cX12_cover 53 = .ok (.iaload, 1) := by decide +kernel
theorem dX12_cover_54 : decode cX12_cover 54 = .ok (.iload_n 1, 1) := by decide +kernel
theorem dX12_cover_55 : decode cX12_cover 55 = .ok (.if_icmp .ne 29, 3) := by decide +kernel
theorem dX12_cover_58 : decode cX12_cover 58 = .ok (.iload_n 3, 1) := by decide +kernel
theorem dX12_cover_59 : decode cX12_cover 59 = .ok (.aload_n 0, 1) := by decide +kernel
theorem dX12_cover_60 : decode cX12_cover 60 = .ok (.getfield 98, 3) := by decide +kernel
theorem dX12_cover_63 : decode cX12_cover 63 = .ok (.sipush 166, 3) := by decide +kernel
theorem dX12_cover_66 : decode cX12_cover 66 = .ok (.iload 4, 2) := by decide +kernel
theorem dX12_cover_68 : decode cX12_cover 68 = .ok (.iadd, 1) := by decide +kernel
theorem dX12_cover_69 : decode cX12_cover 69 = .ok (.iaload, 1) := by decide +kernel
theorem dX12_cover_70 : decode cX12_cover 70 = .ok (.aload_n 0, 1) := by decide +kernel
theorem dX12_cover_71 : decode cX12_cover 71 = .ok (.getfield 98, 3) := by decide +kernel
theorem dX12_cover_74 : decode cX12_cover 74 = .ok (.sipush 150, 3) := by decide +kernel
theorem dX12_cover_77 : decode cX12_cover 77 = .ok (.iload 4, 2) := by decide +kernel
theorem dX12_cover_79 : decode cX12_cover 79 = .ok (.iadd, 1) := by decide +kernel
theorem dX12_cover_80 : decode cX12_cover 80 = .ok (.iaload, 1) := by decide +kernel
theorem dX12_cover_81 : decode cX12_cover 81 = .ok (.isub, 1) := by decide +kernel
theorem dX12_cover_82 : decode cX12_cover 82 = .ok (.iadd, 1) := by decide +kernel
theorem dX12_cover_83 : decode cX12_cover 83 = .ok (.istore_n 3, 1) := by decide +kernel
theorem dX12_cover_84 : decode cX12_cover 84 = .ok (.iinc 4 1, 3) := by decide +kernel
theorem dX12_cover_87 : decode cX12_cover 87 = .ok (.goto (-55), 3) := by decide +kernel
theorem dX12_cover_90 : decode cX12_cover 90 = .ok (.aload_n 0, 1) := by decide +kernel
theorem dX12_cover_91 : decode cX12_cover 91 = .ok (.iload_n 3, 1) := by decide +kernel
theorem dX12_cover_92 : decode cX12_cover 92 = .ok (.aload_n 0, 1) := by decide +kernel
theorem dX12_cover_93 : decode cX12_cover 93 = .ok (.aload_n 0, 1) := by decide +kernel
theorem dX12_cover_94 : decode cX12_cover 94 = .ok (.getfield 98, 3) := by decide +kernel
theorem dX12_cover_97 : decode cX12_cover 97 = .ok (.bipush 114, 2) := by decide +kernel
theorem dX12_cover_99 : decode cX12_cover 99 = .ok (.iload_n 1, 1) := by decide +kernel
theorem dX12_cover_100 : decode cX12_cover 100 = .ok (.iadd, 1) := by decide +kernel
theorem dX12_cover_101 : decode cX12_cover 101 = .ok (.iaload, 1) := by decide +kernel
theorem dX12_cover_102 : decode cX12_cover 102 = .ok (.invokevirtual 273, 3) := by decide +kernel
theorem dX12_cover_105 : decode cX12_cover 105 = .ok (.iload_n 2, 1) := by decide +kernel
theorem dX12_cover_106 : decode cX12_cover 106 = .ok (.invokevirtual 338, 3) := by decide +kernel
theorem dX12_cover_109 : decode cX12_cover 109 = .ok (.ireturn, 1) := by decide +kernel
theorem dX12_save_0 : decode cX12_save 0 = .ok (.iconst 0, 1) := by decide +kernel
theorem dX12_save_1 : decode cX12_save 1 = .ok (.istore_n 3, 1) := by decide +kernel
theorem dX12_save_2 : decode cX12_save 2 = .ok (.iload_n 3, 1) := by decide +kernel
theorem dX12_save_3 : decode cX12_save 3 = .ok (.bipush 83, 2) := by decide +kernel
theorem dX12_save_5 : decode cX12_save 5 = .ok (.if_icmp .ge 24, 3) := by decide +kernel
theorem dX12_save_8 : decode cX12_save 8 = .ok (.aload_n 1, 1) := by decide +kernel
theorem dX12_save_9 : decode cX12_save 9 = .ok (.iload_n 2, 1) := by decide +kernel
theorem dX12_save_10 : decode cX12_save 10 = .ok (.iload_n 3, 1) := by decide +kernel
theorem dX12_save_11 : decode cX12_save 11 = .ok (.iadd, 1) := by decide +kernel
theorem dX12_save_12 : decode cX12_save 12 = .ok (.aload_n 0, 1) := by decide +kernel
theorem dX12_save_13 : decode cX12_save 13 = .ok (.getfield 98, 3) := by decide +kernel
theorem dX12_save_16 : decode cX12_save 16 = .ok (.sipush 342, 3) := by decide +kernel
theorem dX12_save_19 : decode cX12_save 19 = .ok (.iload_n 3, 1) := by decide +kernel
theorem dX12_save_20 : decode cX12_save 20 = .ok (.iadd, 1) := by decide +kernel
theorem dX12_save_21 : decode cX12_save 21 = .ok (.iaload, 1) := by decide +kernel
theorem dX12_save_22 : decode cX12_save 22 = .ok (.iastore, 1) := by decide +kernel
theorem dX12_save_23 : decode cX12_save 23 = .ok (.iinc 3 1, 3) := by decide +kernel
theorem dX12_save_26 : decode cX12_save 26 = .ok (.goto (-24), 3) := by decide +kernel
theorem dX12_save_29 : decode cX12_save 29 = .ok (.return_, 1) := by decide +kernel
theorem dX12_comeBack_0 : decode cX12_comeBack 0 = .ok (.iconst 0, 1) := by decide +kernel
theorem dX12_comeBack_1 : decode cX12_comeBack 1 = .ok (.istore_n 3, 1) := by decide +kernel
theorem dX12_comeBack_2 : decode cX12_comeBack 2 = .ok (.iload_n 3, 1) := by decide +kernel
theorem dX12_comeBack_3 : decode cX12_comeBack 3 = .ok (.bipush 83, 2) := by decide +kernel
theorem dX12_comeBack_5 : decode cX12_comeBack 5 = .ok (.if_icmp .ge 24, 3) := by decide +kernel
theorem dX12_comeBack_8 : decode cX12_comeBack 8 = .ok (.aload_n 0, 1) := by decide +kernel
theorem dX12_comeBack_9 : decode cX12_comeBack 9 = .ok (.getfield 98, 3) := by decide +kernel
theorem dX12_comeBack_12 : decode cX12_comeBack 12 = .ok (.sipush 342, 3) := by decide +kernel
theorem dX12_comeBack_15 : decode cX12_comeBack 15 = .ok (.iload_n 3, 1) := by decide +kernel
theorem dX12_comeBack_16 : decode cX12_comeBack 16 = .ok (.iadd, 1) := by decide +kernel
theorem dX12_comeBack_17 : decode cX12_comeBack 17 = .ok (.aload_n 1, 1) := by decide +kernel
theorem dX12_comeBack_18 : decode cX12_comeBack 18 = .ok (.iload_n 2, 1) := by decide +kernel
theorem dX12_comeBack_19 : decode cX12_comeBack 19 = .ok (.iload_n 3, 1) := by decide +kernel
theorem dX12_comeBack_20 : decode cX12_comeBack 20 = .ok (.iadd, 1) := by decide +kernel
theorem dX12_comeBack_21 : decode cX12_comeBack 21 = .ok (.iaload, 1) := by decide +kernel
theorem dX12_comeBack_22 : decode cX12_comeBack 22 = .ok (.iastore, 1) := by decide +kernel
theorem dX12_comeBack_23 : decode cX12_comeBack 23 = .ok (.iinc 3 1, 3) := by decide +kernel
theorem dX12_comeBack_26 : decode cX12_comeBack 26 = .ok (.goto (-24), 3) := by decide +kernel
theorem dX12_comeBack_29 : decode cX12_comeBack 29 = .ok (.return_, 1) := by decide +kernel
theorem dX12_snap_0 : decode cX12_snap 0 = .ok (.aload_n 0, 1) := by decide +kernel
theorem dX12_snap_1 : decode cX12_snap 1 = .ok (.getfield 258, 3) := by decide +kernel
theorem dX12_snap_4 : decode cX12_snap 4 = .ok (.bipush 8, 2) := by decide +kernel
theorem dX12_snap_6 : decode cX12_snap 6 = .ok (.if_icmp .ne 43, 3) := by decide +kernel
theorem dX12_snap_9 : decode cX12_snap 9 = .ok (.iconst 0, 1) := by decide +kernel
theorem dX12_snap_10 : decode cX12_snap 10 = .ok (.istore_n 1, 1) := by decide +kernel
theorem dX12_snap_11 : decode cX12_snap 11 = .ok (.iload_n 1, 1) := by decide +kernel
theorem dX12_snap_12 : decode cX12_snap 12 = .ok (.sipush 581, 3) := by decide +kernel
theorem dX12_snap_15 : decode cX12_snap 15 = .ok (.if_icmp .ge 24, 3) := by decide +kernel
theorem dX12_snap_18 : decode cX12_snap 18 = .ok (.aload_n 0, 1) := by decide +kernel
theorem dX12_snap_19 : decode cX12_snap 19 = .ok (.getfield 107, 3) := by decide +kernel
theorem dX12_snap_22 : decode cX12_snap 22 = .ok (.iload_n 1, 1) := by decide +kernel
theorem dX12_snap_23 : decode cX12_snap 23 = .ok (.aload_n 0, 1) := by decide +kernel
theorem dX12_snap_24 : decode cX12_snap 24 = .ok (.getfield 107, 3) := by decide +kernel
theorem dX12_snap_27 : decode cX12_snap 27 = .ok (.iload_n 1, 1) := by decide +kernel
theorem dX12_snap_28 : decode cX12_snap 28 = .ok (.bipush 83, 2) := by decide +kernel
theorem dX12_snap_30 : decode cX12_snap 30 = .ok (.iadd, 1) := by decide +kernel
theorem dX12_snap_31 : decode cX12_snap 31 = .ok (.iaload, 1) := by decide +kernel
theorem dX12_snap_32 : decode cX12_snap 32 = .ok (.iastore, 1) := by decide +kernel
theorem dX12_snap_33 : decode cX12_snap 33 = .ok (.iinc 1 1, 3) := by decide +kernel
theorem dX12_snap_36 : decode cX12_snap 36 = .ok (.goto (-25), 3) := by decide +kernel
theorem dX12_snap_39 : decode cX12_snap 39 = .ok (.aload_n 0, 1) := by decide +kernel
theorem dX12_snap_40 : decode cX12_snap 40 = .ok (.dup, 1) := by decide +kernel
theorem dX12_snap_41 : decode cX12_snap 41 = .ok (.getfield 258, 3) := by decide +kernel
theorem dX12_snap_44 : decode cX12_snap 44 = .ok (.iconst 1, 1) := by decide +kernel
theorem dX12_snap_45 : decode cX12_snap 45 = .ok (.isub, 1) := by decide +kernel
theorem dX12_snap_46 : decode cX12_snap 46 = .ok (.putfield 258, 3) := by decide +kernel
theorem dX12_snap_49 : decode cX12_snap 49 = .ok (.aload_n 0, 1) := by decide +kernel
theorem dX12_snap_50 : decode cX12_snap 50 = .ok (.aload_n 0, 1) := by decide +kernel
theorem dX12_snap_51 : decode cX12_snap 51 = .ok (.getfield 107, 3) := by decide +kernel
theorem dX12_snap_54 : decode cX12_snap 54 = .ok (.bipush 83, 2) := by decide +kernel
theorem dX12_snap_56 : decode cX12_snap 56 = .ok (.aload_n 0, 1) := by decide +kernel
theorem dX12_snap_57 : decode cX12_snap 57 = .ok (.getfield 258, 3) := by decide +kernel
theorem dX12_snap_60 : decode cX12_snap 60 = .ok (.imul, 1) := by decide +kernel
theorem dX12_snap_61 : decode cX12_snap 61 = .ok (.invokevirtual 342, 3) := by decide +kernel
theorem dX12_snap_64 : decode cX12_snap 64 = .ok (.aload_n 0, 1) := by decide +kernel
theorem dX12_snap_65 : decode cX12_snap 65 = .ok (.dup, 1) := by decide +kernel
theorem dX12_snap_66 : decode cX12_snap 66 = .ok (.getfield 258, 3) := by decide +kernel
theorem dX12_snap_69 : decode cX12_snap 69 = .ok (.iconst 1, 1) := by decide +kernel
theorem dX12_snap_70 : decode cX12_snap 70 = .ok (.iadd, 1) := by decide +kernel
theorem dX12_snap_71 : decode cX12_snap 71 = .ok (.putfield 258, 3) := by decide +kernel
theorem dX12_snap_74 : decode cX12_snap 74 = .ok (.return_, 1) := by decide +kernel
theorem dX12_stopAt_0 : decode cX12_stopAt 0 = .ok (.iconst 0, 1) := by decide +kernel
theorem dX12_stopAt_1 : decode cX12_stopAt 1 = .ok (.istore_n 2, 1) := by decide +kernel
theorem dX12_stopAt_2 : decode cX12_stopAt 2 = .ok (.iload_n 2, 1) := by decide +kernel
theorem dX12_stopAt_3 : decode cX12_stopAt 3 = .ok (.aload_n 0, 1) := by decide +kernel
theorem dX12_stopAt_4 : decode cX12_stopAt 4 = .ok (.getfield 98, 3) := by decide +kernel
theorem dX12_stopAt_7 : decode cX12_stopAt 7 = .ok (.sipush 344, 3) := by decide +kernel
theorem dX12_stopAt_10 : decode cX12_stopAt 10 = .ok (.iaload, 1) := by decide +kernel
theorem dX12_stopAt_11 : decode cX12_stopAt 11 = .ok (.if_icmp .ge 25, 3) := by decide +kernel
theorem dX12_stopAt_14 : decode cX12_stopAt 14 = .ok (.aload_n 0, 1) := by decide +kernel
theorem dX12_stopAt_15 : decode cX12_stopAt 15 = .ok (.getfield 98, 3) := by decide +kernel
theorem dX12_stopAt_18 : decode cX12_stopAt 18 = .ok (.sipush 345, 3) := by decide +kernel
theorem dX12_stopAt_21 : decode cX12_stopAt 21 = .ok (.iload_n 2, 1) := by decide +kernel
theorem dX12_stopAt_22 : decode cX12_stopAt 22 = .ok (.iadd, 1) := by decide +kernel
theorem dX12_stopAt_23 : decode cX12_stopAt 23 = .ok (.iaload, 1) := by decide +kernel
theorem dX12_stopAt_24 : decode cX12_stopAt 24 = .ok (.iload_n 1, 1) := by decide +kernel
theorem dX12_stopAt_25 : decode cX12_stopAt 25 = .ok (.if_icmp .ne 5, 3) := by decide +kernel
theorem dX12_stopAt_28 : decode cX12_stopAt 28 = .ok (.iload_n 2, 1) := by decide +kernel
theorem dX12_stopAt_29 : decode cX12_stopAt 29 = .ok (.ireturn, 1) := by decide +kernel
theorem dX12_stopAt_30 : decode cX12_stopAt 30 = .ok (.iinc 2 1, 3) := by decide +kernel
theorem dX12_stopAt_33 : decode cX12_stopAt 33 = .ok (.goto (-31), 3) := by decide +kernel
theorem dX12_stopAt_36 : decode cX12_stopAt 36 = .ok (.iconst (-1), 1) := by decide +kernel
theorem dX12_stopAt_37 : decode cX12_stopAt 37 = .ok (.ireturn, 1) := by decide +kernel
theorem dX12_stepTo_0 : decode cX12_stepTo 0 = .ok (.aload_n 0, 1) := by decide +kernel
theorem dX12_stepTo_1 : decode cX12_stepTo 1 = .ok (.getfield 98, 3) := by decide +kernel
theorem dX12_stepTo_4 : decode cX12_stepTo 4 = .ok (.sipush 342, 3) := by decide +kernel
theorem dX12_stepTo_7 : decode cX12_stepTo 7 = .ok (.iaload, 1) := by decide +kernel
theorem dX12_stepTo_8 : decode cX12_stepTo 8 = .ok (.istore_n 1, 1) := by decide +kernel
theorem dX12_stepTo_9 : decode cX12_stepTo 9 = .ok (.aload_n 0, 1) := by decide +kernel
theorem dX12_stepTo_10 : decode cX12_stepTo 10 = .ok (.iload_n 1, 1) := by decide +kernel
theorem dX12_stepTo_11 : decode cX12_stepTo 11 = .ok (.invokevirtual 270, 3) := by decide +kernel
theorem dX12_stepTo_14 : decode cX12_stepTo 14 = .ok (.istore_n 2, 1) := by decide +kernel
theorem dX12_stepTo_15 : decode cX12_stepTo 15 = .ok (.aload_n 0, 1) := by decide +kernel
theorem dX12_stepTo_16 : decode cX12_stepTo 16 = .ok (.iload_n 1, 1) := by decide +kernel
theorem dX12_stepTo_17 : decode cX12_stepTo 17 = .ok (.iconst (-1), 1) := by decide +kernel
theorem dX12_stepTo_18 : decode cX12_stepTo 18 = .ok (.invokevirtual 282, 3) := by decide +kernel
theorem dX12_stepTo_21 : decode cX12_stepTo 21 = .ok (.istore_n 3, 1) := by decide +kernel
theorem dX12_stepTo_22 : decode cX12_stepTo 22 = .ok (.aload_n 0, 1) := by decide +kernel
theorem dX12_stepTo_23 : decode cX12_stepTo 23 = .ok (.iload_n 1, 1) := by decide +kernel
theorem dX12_stepTo_24 : decode cX12_stepTo 24 = .ok (.invokevirtual 261, 3) := by decide +kernel
theorem dX12_stepTo_27 : decode cX12_stepTo 27 = .ok (.iconst 1, 1) := by decide +kernel
theorem dX12_stepTo_28 : decode cX12_stepTo 28 = .ok (.iadd, 1) := by decide +kernel
theorem dX12_stepTo_29 : decode cX12_stepTo 29 = .ok (.istore 4, 2) := by decide +kernel
theorem dX12_stepTo_31 : decode cX12_stepTo 31 = .ok (.iload 4, 2) := by decide +kernel
theorem dX12_stepTo_33 : decode cX12_stepTo 33 = .ok (.aload_n 0, 1) := by decide +kernel
theorem dX12_stepTo_34 : decode cX12_stepTo 34 = .ok (.getfield 98, 3) := by decide +kernel
theorem dX12_stepTo_37 : decode cX12_stepTo 37 = .ok (.iconst 1, 1) := by decide +kernel
theorem dX12_stepTo_38 : decode cX12_stepTo 38 = .ok (.iaload, 1) := by decide +kernel
theorem dX12_stepTo_39 : decode cX12_stepTo 39 = .ok (.if_icmp .ge 57, 3) := by decide +kernel
theorem dX12_stepTo_42 : decode cX12_stepTo 42 = .ok (.aload_n 0, 1) := by decide +kernel
theorem dX12_stepTo_43 : decode cX12_stepTo 43 = .ok (.getfield 98, 3) := by decide +kernel
theorem dX12_stepTo_46 : decode cX12_stepTo 46 = .ok (.bipush 36, 2) := by decide +kernel
theorem dX12_stepTo_48 : decode cX12_stepTo 48 = .ok (.iload 4, 2) := by decide +kernel
theorem dX12_stepTo_50 : decode cX12_stepTo 50 = .ok (.iadd, 1) := by decide +kernel
theorem dX12_stepTo_51 : decode cX12_stepTo 51 = .ok (.iaload, 1) := by decide +kernel
theorem dX12_stepTo_52 : decode cX12_stepTo 52 = .ok (.iload_n 2, 1) := by decide +kernel
theorem dX12_stepTo_53 : decode cX12_stepTo 53 = .ok (.if_icmp .ne 26, 3) := by decide +kernel
theorem dX12_stepTo_56 : decode cX12_stepTo 56 = .ok (.iload_n 3, 1) := by decide +kernel
theorem dX12_stepTo_57 : decode cX12_stepTo 57 = .ok (.iconst (-1), 1) := by decide +kernel
theorem dX12_stepTo_58 : decode cX12_stepTo 58 = .ok (.if_icmp .eq 32, 3) := by decide +kernel
theorem dX12_stepTo_61 : decode cX12_stepTo 61 = .ok (.aload_n 0, 1) := by decide +kernel
theorem dX12_stepTo_62 : decode cX12_stepTo 62 = .ok (.iload_n 3, 1) := by decide +kernel
theorem dX12_stepTo_63 : decode cX12_stepTo 63 = .ok (.aload_n 0, 1) := by decide +kernel
theorem dX12_stepTo_64 : decode cX12_stepTo 64 = .ok (.getfield 98, 3) := by decide +kernel
theorem dX12_stepTo_67 : decode cX12_stepTo 67 = .ok (.bipush 6, 2) := by decide +kernel
theorem dX12_stepTo_69 : decode cX12_stepTo 69 = .ok (.iload 4, 2) := by decide +kernel
theorem dX12_stepTo_71 : decode cX12_stepTo 71 = .ok (.iadd, 1) := by decide +kernel
theorem dX12_stepTo_72 : decode cX12_stepTo 72 = .ok (.iaload, 1) := by decide +kernel
theorem dX12_stepTo_73 : decode cX12_stepTo 73 = .ok (.invokevirtual 276, 3) := by decide +kernel
theorem dX12_stepTo_76 : decode cX12_stepTo 76 = .ok (.ifCond .ne 14, 3) := by decide +kernel
theorem dX12_stepTo_79 : decode cX12_stepTo 79 = .ok (.aload_n 0, 1) := by decide +kernel
theorem dX12_stepTo_80 : decode cX12_stepTo 80 = .ok (.getfield 98, 3) := by decide +kernel
theorem dX12_stepTo_83 : decode cX12_stepTo 83 = .ok (.bipush 6, 2) := by decide +kernel
theorem dX12_stepTo_85 : decode cX12_stepTo 85 = .ok (.iload 4, 2) := by decide +kernel
theorem dX12_stepTo_87 : decode cX12_stepTo 87 = .ok (.iadd, 1) := by decide +kernel
theorem dX12_stepTo_88 : decode cX12_stepTo 88 = .ok (.iaload, 1) := by decide +kernel
theorem dX12_stepTo_89 : decode cX12_stepTo 89 = .ok (.ireturn, 1) := by decide +kernel
theorem dX12_stepTo_90 : decode cX12_stepTo 90 = .ok (.iinc 4 1, 3) := by decide +kernel
theorem dX12_stepTo_93 : decode cX12_stepTo 93 = .ok (.goto (-62), 3) := by decide +kernel
theorem dX12_stepTo_96 : decode cX12_stepTo 96 = .ok (.iconst (-1), 1) := by decide +kernel
theorem dX12_stepTo_97 : decode cX12_stepTo 97 = .ok (.ireturn, 1) := by decide +kernel
theorem dX12_leaveTo_0 : decode cX12_leaveTo 0 = .ok (.aload_n 0, 1) := by decide +kernel
theorem dX12_leaveTo_1 : decode cX12_leaveTo 1 = .ok (.aload_n 0, 1) := by decide +kernel
theorem dX12_leaveTo_2 : decode cX12_leaveTo 2 = .ok (.getfield 98, 3) := by decide +kernel
theorem dX12_leaveTo_5 : decode cX12_leaveTo 5 = .ok (.sipush 342, 3) := by decide +kernel
theorem dX12_leaveTo_8 : decode cX12_leaveTo 8 = .ok (.iaload, 1) := by decide +kernel
theorem dX12_leaveTo_9 : decode cX12_leaveTo 9 = .ok (.iconst (-1), 1) := by decide +kernel
theorem dX12_leaveTo_10 : decode cX12_leaveTo 10 = .ok (.invokevirtual 282, 3) := by decide +kernel
theorem dX12_leaveTo_13 : decode cX12_leaveTo 13 = .ok (.istore_n 1, 1) := by decide +kernel
theorem dX12_leaveTo_14 : decode cX12_leaveTo 14 = .ok (.iload_n 1, 1) := by decide +kernel
theorem dX12_leaveTo_15 : decode cX12_leaveTo 15 = .ok (.iconst (-1), 1) := by decide +kernel
theorem dX12_leaveTo_16 : decode cX12_leaveTo 16 = .ok (.if_icmp .ne 7, 3) := by decide +kernel
theorem dX12_leaveTo_19 : decode cX12_leaveTo 19 = .ok (.iconst (-1), 1) := by decide +kernel
theorem dX12_leaveTo_20 : decode cX12_leaveTo 20 = .ok (.goto 12, 3) := by decide +kernel
theorem dX12_leaveTo_23 : decode cX12_leaveTo 23 = .ok (.aload_n 0, 1) := by decide +kernel
theorem dX12_leaveTo_24 : decode cX12_leaveTo 24 = .ok (.getfield 98, 3) := by decide +kernel
theorem dX12_leaveTo_27 : decode cX12_leaveTo 27 = .ok (.bipush 76, 2) := by decide +kernel
theorem dX12_leaveTo_29 : decode cX12_leaveTo 29 = .ok (.iload_n 1, 1) := by decide +kernel
theorem dX12_leaveTo_30 : decode cX12_leaveTo 30 = .ok (.iadd, 1) := by decide +kernel
theorem dX12_leaveTo_31 : decode cX12_leaveTo 31 = .ok (.iaload, 1) := by decide +kernel
theorem dX12_leaveTo_32 : decode cX12_leaveTo 32 = .ok (.ireturn, 1) := by decide +kernel
theorem dX12_runTo_0 : decode cX12_runTo 0 = .ok (.aload_n 0, 1) := by decide +kernel
theorem dX12_runTo_1 : decode cX12_runTo 1 = .ok (.aload_n 0, 1) := by decide +kernel
theorem dX12_runTo_2 : decode cX12_runTo 2 = .ok (.getfield 98, 3) := by decide +kernel
theorem dX12_runTo_5 : decode cX12_runTo 5 = .ok (.sipush 342, 3) := by decide +kernel
theorem dX12_runTo_8 : decode cX12_runTo 8 = .ok (.iaload, 1) := by decide +kernel
theorem dX12_runTo_9 : decode cX12_runTo 9 = .ok (.invokevirtual 261, 3) := by decide +kernel
theorem dX12_runTo_12 : decode cX12_runTo 12 = .ok (.iconst 1, 1) := by decide +kernel
theorem dX12_runTo_13 : decode cX12_runTo 13 = .ok (.iadd, 1) := by decide +kernel
theorem dX12_runTo_14 : decode cX12_runTo 14 = .ok (.istore_n 1, 1) := by decide +kernel
theorem dX12_runTo_15 : decode cX12_runTo 15 = .ok (.iload_n 1, 1) := by decide +kernel
theorem dX12_runTo_16 : decode cX12_runTo 16 = .ok (.aload_n 0, 1) := by decide +kernel
theorem dX12_runTo_17 : decode cX12_runTo 17 = .ok (.getfield 98, 3) := by decide +kernel
theorem dX12_runTo_20 : decode cX12_runTo 20 = .ok (.iconst 1, 1) := by decide +kernel
theorem dX12_runTo_21 : decode cX12_runTo 21 = .ok (.iaload, 1) := by decide +kernel
theorem dX12_runTo_22 : decode cX12_runTo 22 = .ok (.if_icmp .ge 36, 3) := by decide +kernel
theorem dX12_runTo_25 : decode cX12_runTo 25 = .ok (.aload_n 0, 1) := by decide +kernel
theorem dX12_runTo_26 : decode cX12_runTo 26 = .ok (.aload_n 0, 1) := by decide +kernel
theorem dX12_runTo_27 : decode cX12_runTo 27 = .ok (.getfield 98, 3) := by decide +kernel
theorem dX12_runTo_30 : decode cX12_runTo 30 = .ok (.bipush 36, 2) := by decide +kernel
theorem dX12_runTo_32 : decode cX12_runTo 32 = .ok (.iload_n 1, 1) := by decide +kernel
theorem dX12_runTo_33 : decode cX12_runTo 33 = .ok (.iadd, 1) := by decide +kernel
theorem dX12_runTo_34 : decode cX12_runTo 34 = .ok (.iaload, 1) := by decide +kernel
theorem dX12_runTo_35 : decode cX12_runTo 35 = .ok (.invokevirtual 346, 3) := by decide +kernel
theorem dX12_runTo_38 : decode cX12_runTo 38 = .ok (.iconst (-1), 1) := by decide +kernel
theorem dX12_runTo_39 : decode cX12_runTo 39 = .ok (.if_icmp .eq 13, 3) := by decide +kernel
theorem dX12_runTo_42 : decode cX12_runTo 42 = .ok (.aload_n 0, 1) := by decide +kernel
theorem dX12_runTo_43 : decode cX12_runTo 43 = .ok (.getfield 98, 3) := by decide +kernel
theorem dX12_runTo_46 : decode cX12_runTo 46 = .ok (.bipush 6, 2) := by decide +kernel
theorem dX12_runTo_48 : decode cX12_runTo 48 = .ok (.iload_n 1, 1) := by decide +kernel
theorem dX12_runTo_49 : decode cX12_runTo 49 = .ok (.iadd, 1) := by decide +kernel
theorem dX12_runTo_50 : decode cX12_runTo 50 = .ok (.iaload, 1) := by decide +kernel
theorem dX12_runTo_51 : decode cX12_runTo 51 = .ok (.ireturn, 1) := by decide +kernel
theorem dX12_runTo_52 : decode cX12_runTo 52 = .ok (.iinc 1 1, 3) := by decide +kernel
theorem dX12_runTo_55 : decode cX12_runTo 55 = .ok (.goto (-40), 3) := by decide +kernel
theorem dX12_runTo_58 : decode cX12_runTo 58 = .ok (.iconst (-1), 1) := by decide +kernel
theorem dX12_runTo_59 : decode cX12_runTo 59 = .ok (.ireturn, 1) := by decide +kernel
theorem dX12_refusal_0 : decode cX12_refusal 0 = .ok (.iload_n 1, 1) := by decide +kernel
theorem dX12_refusal_1 : decode cX12_refusal 1 = .ok (.tableswitch 191 0 6 #[43, 63, 83, 101, 133, 148, 162], 43) := by decide +kernel
theorem dX12_refusal_44 : decode cX12_refusal 44 = .ok (.aload_n 0, 1) := by decide +kernel
theorem dX12_refusal_45 : decode cX12_refusal 45 = .ok (.getfield 98, 3) := by decide +kernel
theorem dX12_refusal_48 : decode cX12_refusal 48 = .ok (.sipush 353, 3) := by decide +kernel
theorem dX12_refusal_51 : decode cX12_refusal 51 = .ok (.iload_n 2, 1) := by decide +kernel
theorem dX12_refusal_52 : decode cX12_refusal 52 = .ok (.iadd, 1) := by decide +kernel
theorem dX12_refusal_53 : decode cX12_refusal 53 = .ok (.iaload, 1) := by decide +kernel
theorem dX12_refusal_54 : decode cX12_refusal 54 = .ok (.iload_n 3, 1) := by decide +kernel
theorem dX12_refusal_55 : decode cX12_refusal 55 = .ok (.if_icmp .ne 7, 3) := by decide +kernel
theorem dX12_refusal_58 : decode cX12_refusal 58 = .ok (.iconst 1, 1) := by decide +kernel
theorem dX12_refusal_59 : decode cX12_refusal 59 = .ok (.goto 4, 3) := by decide +kernel
theorem dX12_refusal_62 : decode cX12_refusal 62 = .ok (.iconst 0, 1) := by decide +kernel
theorem dX12_refusal_63 : decode cX12_refusal 63 = .ok (.ireturn, 1) := by decide +kernel
theorem dX12_refusal_64 : decode cX12_refusal 64 = .ok (.aload_n 0, 1) := by decide +kernel
theorem dX12_refusal_65 : decode cX12_refusal 65 = .ok (.getfield 98, 3) := by decide +kernel
theorem dX12_refusal_68 : decode cX12_refusal 68 = .ok (.sipush 361, 3) := by decide +kernel
theorem dX12_refusal_71 : decode cX12_refusal 71 = .ok (.iload_n 2, 1) := by decide +kernel
theorem dX12_refusal_72 : decode cX12_refusal 72 = .ok (.iadd, 1) := by decide +kernel
theorem dX12_refusal_73 : decode cX12_refusal 73 = .ok (.iaload, 1) := by decide +kernel
theorem dX12_refusal_74 : decode cX12_refusal 74 = .ok (.iload_n 3, 1) := by decide +kernel
theorem dX12_refusal_75 : decode cX12_refusal 75 = .ok (.if_icmp .ne 7, 3) := by decide +kernel
theorem dX12_refusal_78 : decode cX12_refusal 78 = .ok (.iconst 1, 1) := by decide +kernel
theorem dX12_refusal_79 : decode cX12_refusal 79 = .ok (.goto 4, 3) := by decide +kernel
theorem dX12_refusal_82 : decode cX12_refusal 82 = .ok (.iconst 0, 1) := by decide +kernel
theorem dX12_refusal_83 : decode cX12_refusal 83 = .ok (.ireturn, 1) := by decide +kernel
theorem dX12_refusal_84 : decode cX12_refusal 84 = .ok (.aload_n 0, 1) := by decide +kernel
theorem dX12_refusal_85 : decode cX12_refusal 85 = .ok (.getfield 98, 3) := by decide +kernel
theorem dX12_refusal_88 : decode cX12_refusal 88 = .ok (.sipush 342, 3) := by decide +kernel
theorem dX12_refusal_91 : decode cX12_refusal 91 = .ok (.iaload, 1) := by decide +kernel
theorem dX12_refusal_92 : decode cX12_refusal 92 = .ok (.iload_n 2, 1) := by decide +kernel
theorem dX12_refusal_93 : decode cX12_refusal 93 = .ok (.if_icmp .ne 7, 3) := by decide +kernel
theorem dX12_refusal_96 : decode cX12_refusal 96 = .ok (.iconst 1, 1) := by decide +kernel
theorem dX12_refusal_97 : decode cX12_refusal 97 = .ok (.goto 4, 3) := by decide +kernel
theorem dX12_refusal_100 : decode cX12_refusal 100 = .ok (.iconst 0, 1) := by decide +kernel
theorem dX12_refusal_101 : decode cX12_refusal 101 = .ok (.ireturn, 1) := by decide +kernel
theorem dX12_refusal_102 : decode cX12_refusal 102 = .ok (.aload_n 0, 1) := by decide +kernel
theorem dX12_refusal_103 : decode cX12_refusal 103 = .ok (.iload_n 2, 1) := by decide +kernel
theorem dX12_refusal_104 : decode cX12_refusal 104 = .ok (.invokevirtual 346, 3) := by decide +kernel
theorem dX12_refusal_107 : decode cX12_refusal 107 = .ok (.iconst (-1), 1) := by decide +kernel
theorem dX12_refusal_108 : decode cX12_refusal 108 = .ok (.if_icmp .eq 7, 3) := by decide +kernel
theorem dX12_refusal_111 : decode cX12_refusal 111 = .ok (.iconst 1, 1) := by decide +kernel
theorem dX12_refusal_112 : decode cX12_refusal 112 = .ok (.goto 21, 3) := by decide +kernel
theorem dX12_refusal_115 : decode cX12_refusal 115 = .ok (.aload_n 0, 1) := by decide +kernel
theorem dX12_refusal_116 : decode cX12_refusal 116 = .ok (.getfield 98, 3) := by decide +kernel
theorem dX12_refusal_119 : decode cX12_refusal 119 = .ok (.sipush 344, 3) := by decide +kernel
theorem dX12_refusal_122 : decode cX12_refusal 122 = .ok (.iaload, 1) := by decide +kernel
theorem dX12_refusal_123 : decode cX12_refusal 123 = .ok (.bipush 8, 2) := by decide +kernel
theorem dX12_refusal_125 : decode cX12_refusal 125 = .ok (.if_icmp .ne 7, 3) := by decide +kernel
theorem dX12_refusal_128 : decode cX12_refusal 128 = .ok (.iconst 2, 1) := by decide +kernel
theorem dX12_refusal_129 : decode cX12_refusal 129 = .ok (.goto 4, 3) := by decide +kernel
theorem dX12_refusal_132 : decode cX12_refusal 132 = .ok (.iconst 0, 1) := by decide +kernel
theorem dX12_refusal_133 : decode cX12_refusal 133 = .ok (.ireturn, 1) := by decide +kernel
theorem dX12_refusal_134 : decode cX12_refusal 134 = .ok (.aload_n 0, 1) := by decide +kernel
theorem dX12_refusal_135 : decode cX12_refusal 135 = .ok (.iload_n 2, 1) := by decide +kernel
theorem dX12_refusal_136 : decode cX12_refusal 136 = .ok (.invokevirtual 346, 3) := by decide +kernel
theorem dX12_refusal_139 : decode cX12_refusal 139 = .ok (.iconst (-1), 1) := by decide +kernel
theorem dX12_refusal_140 : decode cX12_refusal 140 = .ok (.if_icmp .ne 7, 3) := by decide +kernel
theorem dX12_refusal_143 : decode cX12_refusal 143 = .ok (.iconst 1, 1) := by decide +kernel
theorem dX12_refusal_144 : decode cX12_refusal 144 = .ok (.goto 4, 3) := by decide +kernel
theorem dX12_refusal_147 : decode cX12_refusal 147 = .ok (.iconst 0, 1) := by decide +kernel
theorem dX12_refusal_148 : decode cX12_refusal 148 = .ok (.ireturn, 1) := by decide +kernel
theorem dX12_refusal_149 : decode cX12_refusal 149 = .ok (.aload_n 0, 1) := by decide +kernel
theorem dX12_refusal_150 : decode cX12_refusal 150 = .ok (.invokevirtual 349, 3) := by decide +kernel
theorem dX12_refusal_153 : decode cX12_refusal 153 = .ok (.iconst (-1), 1) := by decide +kernel
theorem dX12_refusal_154 : decode cX12_refusal 154 = .ok (.if_icmp .ne 7, 3) := by decide +kernel
theorem dX12_refusal_157 : decode cX12_refusal 157 = .ok (.iconst 1, 1) := by decide +kernel
theorem dX12_refusal_158 : decode cX12_refusal 158 = .ok (.goto 4, 3) := by decide +kernel
theorem dX12_refusal_161 : decode cX12_refusal 161 = .ok (.iconst 0, 1) := by decide +kernel
theorem dX12_refusal_162 : decode cX12_refusal 162 = .ok (.ireturn, 1) := by decide +kernel
theorem dX12_refusal_163 : decode cX12_refusal 163 = .ok (.aload_n 0, 1) := by decide +kernel
theorem dX12_refusal_164 : decode cX12_refusal 164 = .ok (.invokevirtual 352, 3) := by decide +kernel
theorem dX12_refusal_167 : decode cX12_refusal 167 = .ok (.iconst (-1), 1) := by decide +kernel
theorem dX12_refusal_168 : decode cX12_refusal 168 = .ok (.if_icmp .ne 7, 3) := by decide +kernel
theorem dX12_refusal_171 : decode cX12_refusal 171 = .ok (.iconst 1, 1) := by decide +kernel
theorem dX12_refusal_172 : decode cX12_refusal 172 = .ok (.goto 19, 3) := by decide +kernel
theorem dX12_refusal_175 : decode cX12_refusal 175 = .ok (.aload_n 0, 1) := by decide +kernel
theorem dX12_refusal_176 : decode cX12_refusal 176 = .ok (.aload_n 0, 1) := by decide +kernel
theorem dX12_refusal_177 : decode cX12_refusal 177 = .ok (.invokevirtual 352, 3) := by decide +kernel
theorem dX12_refusal_180 : decode cX12_refusal 180 = .ok (.invokevirtual 267, 3) := by decide +kernel
theorem dX12_refusal_183 : decode cX12_refusal 183 = .ok (.ifCond .eq 7, 3) := by decide +kernel
theorem dX12_refusal_186 : decode cX12_refusal 186 = .ok (.iconst 0, 1) := by decide +kernel
theorem dX12_refusal_187 : decode cX12_refusal 187 = .ok (.goto 4, 3) := by decide +kernel
theorem dX12_refusal_190 : decode cX12_refusal 190 = .ok (.iconst 2, 1) := by decide +kernel
theorem dX12_refusal_191 : decode cX12_refusal 191 = .ok (.ireturn, 1) := by decide +kernel
theorem dX12_refusal_192 : decode cX12_refusal 192 = .ok (.aload_n 0, 1) := by decide +kernel
theorem dX12_refusal_193 : decode cX12_refusal 193 = .ok (.invokevirtual 355, 3) := by decide +kernel
theorem dX12_refusal_196 : decode cX12_refusal 196 = .ok (.iconst (-1), 1) := by decide +kernel
theorem dX12_refusal_197 : decode cX12_refusal 197 = .ok (.if_icmp .ne 7, 3) := by decide +kernel
theorem dX12_refusal_200 : decode cX12_refusal 200 = .ok (.iconst 1, 1) := by decide +kernel
theorem dX12_refusal_201 : decode cX12_refusal 201 = .ok (.goto 4, 3) := by decide +kernel
theorem dX12_refusal_204 : decode cX12_refusal 204 = .ok (.iconst 0, 1) := by decide +kernel
theorem dX12_refusal_205 : decode cX12_refusal 205 = .ok (.ireturn, 1) := by decide +kernel
theorem dX12_live_0 : decode cX12_live 0 = .ok (.aload_n 0, 1) := by decide +kernel
theorem dX12_live_1 : decode cX12_live 1 = .ok (.getfield 98, 3) := by decide +kernel
theorem dX12_live_4 : decode cX12_live 4 = .ok (.sipush 343, 3) := by decide +kernel
theorem dX12_live_7 : decode cX12_live 7 = .ok (.dup2, 1) := by decide +kernel
theorem dX12_live_8 : decode cX12_live 8 = .ok (.iaload, 1) := by decide +kernel
theorem dX12_live_9 : decode cX12_live 9 = .ok (.iconst 1, 1) := by decide +kernel
theorem dX12_live_10 : decode cX12_live 10 = .ok (.iadd, 1) := by decide +kernel
theorem dX12_live_11 : decode cX12_live 11 = .ok (.iastore, 1) := by decide +kernel
theorem dX12_live_12 : decode cX12_live 12 = .ok (.iload_n 1, 1) := by decide +kernel
theorem dX12_live_13 : decode cX12_live 13 = .ok (.tableswitch 148 0 4 #[35, 47, 59, 69, 100], 35) := by decide +kernel
theorem dX12_live_48 : decode cX12_live 48 = .ok (.aload_n 0, 1) := by decide +kernel
theorem dX12_live_49 : decode cX12_live 49 = .ok (.getfield 98, 3) := by decide +kernel
theorem dX12_live_52 : decode cX12_live 52 = .ok (.sipush 353, 3) := by decide +kernel
theorem dX12_live_55 : decode cX12_live 55 = .ok (.iload_n 2, 1) := by decide +kernel
theorem dX12_live_56 : decode cX12_live 56 = .ok (.iadd, 1) := by decide +kernel
theorem dX12_live_57 : decode cX12_live 57 = .ok (.iload_n 3, 1) := by decide +kernel
theorem dX12_live_58 : decode cX12_live 58 = .ok (.iastore, 1) := by decide +kernel
theorem dX12_live_59 : decode cX12_live 59 = .ok (.return_, 1) := by decide +kernel
theorem dX12_live_60 : decode cX12_live 60 = .ok (.aload_n 0, 1) := by decide +kernel
theorem dX12_live_61 : decode cX12_live 61 = .ok (.getfield 98, 3) := by decide +kernel
theorem dX12_live_64 : decode cX12_live 64 = .ok (.sipush 361, 3) := by decide +kernel
theorem dX12_live_67 : decode cX12_live 67 = .ok (.iload_n 2, 1) := by decide +kernel
theorem dX12_live_68 : decode cX12_live 68 = .ok (.iadd, 1) := by decide +kernel
theorem dX12_live_69 : decode cX12_live 69 = .ok (.iload_n 3, 1) := by decide +kernel
theorem dX12_live_70 : decode cX12_live 70 = .ok (.iastore, 1) := by decide +kernel
theorem dX12_live_71 : decode cX12_live 71 = .ok (.return_, 1) := by decide +kernel
theorem dX12_live_72 : decode cX12_live 72 = .ok (.aload_n 0, 1) := by decide +kernel
theorem dX12_live_73 : decode cX12_live 73 = .ok (.getfield 98, 3) := by decide +kernel
theorem dX12_live_76 : decode cX12_live 76 = .ok (.sipush 342, 3) := by decide +kernel
theorem dX12_live_79 : decode cX12_live 79 = .ok (.iload_n 2, 1) := by decide +kernel
theorem dX12_live_80 : decode cX12_live 80 = .ok (.iastore, 1) := by decide +kernel
theorem dX12_live_81 : decode cX12_live 81 = .ok (.return_, 1) := by decide +kernel
theorem dX12_live_82 : decode cX12_live 82 = .ok (.aload_n 0, 1) := by decide +kernel
theorem dX12_live_83 : decode cX12_live 83 = .ok (.getfield 98, 3) := by decide +kernel
theorem dX12_live_86 : decode cX12_live 86 = .ok (.sipush 345, 3) := by decide +kernel
theorem dX12_live_89 : decode cX12_live 89 = .ok (.aload_n 0, 1) := by decide +kernel
theorem dX12_live_90 : decode cX12_live 90 = .ok (.getfield 98, 3) := by decide +kernel
theorem dX12_live_93 : decode cX12_live 93 = .ok (.sipush 344, 3) := by decide +kernel
theorem dX12_live_96 : decode cX12_live 96 = .ok (.iaload, 1) := by decide +kernel
theorem dX12_live_97 : decode cX12_live 97 = .ok (.iadd, 1) := by decide +kernel
theorem dX12_live_98 : decode cX12_live 98 = .ok (.iload_n 2, 1) := by decide +kernel
theorem dX12_live_99 : decode cX12_live 99 = .ok (.iastore, 1) := by decide +kernel
theorem dX12_live_100 : decode cX12_live 100 = .ok (.aload_n 0, 1) := by decide +kernel
theorem dX12_live_101 : decode cX12_live 101 = .ok (.getfield 98, 3) := by decide +kernel
theorem dX12_live_104 : decode cX12_live 104 = .ok (.sipush 344, 3) := by decide +kernel
theorem dX12_live_107 : decode cX12_live 107 = .ok (.dup2, 1) := by decide +kernel
theorem dX12_live_108 : decode cX12_live 108 = .ok (.iaload, 1) := by decide +kernel
theorem dX12_live_109 : decode cX12_live 109 = .ok (.iconst 1, 1) := by decide +kernel
theorem dX12_live_110 : decode cX12_live 110 = .ok (.iadd, 1) := by decide +kernel
theorem dX12_live_111 : decode cX12_live 111 = .ok (.iastore, 1) := by decide +kernel
theorem dX12_live_112 : decode cX12_live 112 = .ok (.return_, 1) := by decide +kernel
theorem dX12_live_113 : decode cX12_live 113 = .ok (.aload_n 0, 1) := by decide +kernel
theorem dX12_live_114 : decode cX12_live 114 = .ok (.iload_n 2, 1) := by decide +kernel
theorem dX12_live_115 : decode cX12_live 115 = .ok (.invokevirtual 346, 3) := by decide +kernel
theorem dX12_live_118 : decode cX12_live 118 = .ok (.istore 4, 2) := by decide +kernel
theorem dX12_live_120 : decode cX12_live 120 = .ok (.aload_n 0, 1) := by decide +kernel
theorem dX12_live_121 : decode cX12_live 121 = .ok (.getfield 98, 3) := by decide +kernel
theorem dX12_live_124 : decode cX12_live 124 = .ok (.sipush 344, 3) := by decide +kernel
theorem dX12_live_127 : decode cX12_live 127 = .ok (.dup2, 1) := by decide +kernel
theorem dX12_live_128 : decode cX12_live 128 = .ok (.iaload, 1) := by decide +kernel
theorem dX12_live_129 : decode cX12_live 129 = .ok (.iconst 1, 1) := by decide +kernel
theorem dX12_live_130 : decode cX12_live 130 = .ok (.isub, 1) := by decide +kernel
theorem dX12_live_131 : decode cX12_live 131 = .ok (.iastore, 1) := by decide +kernel
theorem dX12_live_132 : decode cX12_live 132 = .ok (.aload_n 0, 1) := by decide +kernel
theorem dX12_live_133 : decode cX12_live 133 = .ok (.getfield 98, 3) := by decide +kernel
theorem dX12_live_136 : decode cX12_live 136 = .ok (.sipush 345, 3) := by decide +kernel
theorem dX12_live_139 : decode cX12_live 139 = .ok (.iload 4, 2) := by decide +kernel
theorem dX12_live_141 : decode cX12_live 141 = .ok (.iadd, 1) := by decide +kernel
theorem dX12_live_142 : decode cX12_live 142 = .ok (.aload_n 0, 1) := by decide +kernel
theorem dX12_live_143 : decode cX12_live 143 = .ok (.getfield 98, 3) := by decide +kernel
theorem dX12_live_146 : decode cX12_live 146 = .ok (.sipush 345, 3) := by decide +kernel
theorem dX12_live_149 : decode cX12_live 149 = .ok (.aload_n 0, 1) := by decide +kernel
theorem dX12_live_150 : decode cX12_live 150 = .ok (.getfield 98, 3) := by decide +kernel
theorem dX12_live_153 : decode cX12_live 153 = .ok (.sipush 344, 3) := by decide +kernel
theorem dX12_live_156 : decode cX12_live 156 = .ok (.iaload, 1) := by decide +kernel
theorem dX12_live_157 : decode cX12_live 157 = .ok (.iadd, 1) := by decide +kernel
theorem dX12_live_158 : decode cX12_live 158 = .ok (.iaload, 1) := by decide +kernel
theorem dX12_live_159 : decode cX12_live 159 = .ok (.iastore, 1) := by decide +kernel
theorem dX12_live_160 : decode cX12_live 160 = .ok (.return_, 1) := by decide +kernel
theorem dX12_live_161 : decode cX12_live 161 = .ok (.aload_n 0, 1) := by decide +kernel
theorem dX12_live_162 : decode cX12_live 162 = .ok (.getfield 98, 3) := by decide +kernel
theorem dX12_live_165 : decode cX12_live 165 = .ok (.sipush 342, 3) := by decide +kernel
theorem dX12_live_168 : decode cX12_live 168 = .ok (.iload_n 1, 1) := by decide +kernel
theorem dX12_live_169 : decode cX12_live 169 = .ok (.iconst 5, 1) := by decide +kernel
theorem dX12_live_170 : decode cX12_live 170 = .ok (.if_icmp .ne 10, 3) := by decide +kernel
theorem dX12_live_173 : decode cX12_live 173 = .ok (.aload_n 0, 1) := by decide +kernel
theorem dX12_live_174 : decode cX12_live 174 = .ok (.invokevirtual 349, 3) := by decide +kernel
theorem dX12_live_177 : decode cX12_live 177 = .ok (.goto 20, 3) := by decide +kernel
theorem dX12_live_180 : decode cX12_live 180 = .ok (.iload_n 1, 1) := by decide +kernel
theorem dX12_live_181 : decode cX12_live 181 = .ok (.bipush 6, 2) := by decide +kernel
theorem dX12_live_183 : decode cX12_live 183 = .ok (.if_icmp .ne 10, 3) := by decide +kernel
theorem dX12_live_186 : decode cX12_live 186 = .ok (.aload_n 0, 1) := by decide +kernel
theorem dX12_live_187 : decode cX12_live 187 = .ok (.invokevirtual 352, 3) := by decide +kernel
theorem dX12_live_190 : decode cX12_live 190 = .ok (.goto 7, 3) := by decide +kernel
theorem dX12_live_193 : decode cX12_live 193 = .ok (.aload_n 0, 1) := by decide +kernel
theorem dX12_live_194 : decode cX12_live 194 = .ok (.invokevirtual 355, 3) := by decide +kernel
theorem dX12_live_197 : decode cX12_live 197 = .ok (.iastore, 1) := by decide +kernel
theorem dX12_live_198 : decode cX12_live 198 = .ok (.return_, 1) := by decide +kernel
theorem dX12_act_0 : decode cX12_act 0 = .ok (.iload 4, 2) := by decide +kernel
theorem dX12_act_2 : decode cX12_act 2 = .ok (.ifCond .ne 5, 3) := by decide +kernel
theorem dX12_act_5 : decode cX12_act 5 = .ok (.iconst (-1), 1) := by decide +kernel
theorem dX12_act_6 : decode cX12_act 6 = .ok (.ireturn, 1) := by decide +kernel
theorem dX12_act_7 : decode cX12_act 7 = .ok (.aload_n 0, 1) := by decide +kernel
theorem dX12_act_8 : decode cX12_act 8 = .ok (.iload_n 1, 1) := by decide +kernel
theorem dX12_act_9 : decode cX12_act 9 = .ok (.iload_n 2, 1) := by decide +kernel
theorem dX12_act_10 : decode cX12_act 10 = .ok (.iload_n 3, 1) := by decide +kernel
theorem dX12_act_11 : decode cX12_act 11 = .ok (.invokevirtual 358, 3) := by decide +kernel
theorem dX12_act_14 : decode cX12_act 14 = .ok (.istore 5, 2) := by decide +kernel
theorem dX12_act_16 : decode cX12_act 16 = .ok (.iload 5, 2) := by decide +kernel
theorem dX12_act_18 : decode cX12_act 18 = .ok (.ifCond .eq 6, 3) := by decide +kernel
theorem dX12_act_21 : decode cX12_act 21 = .ok (.iload 5, 2) := by decide +kernel
theorem dX12_act_23 : decode cX12_act 23 = .ok (.ireturn, 1) := by decide +kernel
theorem dX12_act_24 : decode cX12_act 24 = .ok (.aload_n 0, 1) := by decide +kernel
theorem dX12_act_25 : decode cX12_act 25 = .ok (.invokevirtual 361, 3) := by decide +kernel
theorem dX12_act_28 : decode cX12_act 28 = .ok (.aload_n 0, 1) := by decide +kernel
theorem dX12_act_29 : decode cX12_act 29 = .ok (.iload_n 1, 1) := by decide +kernel
theorem dX12_act_30 : decode cX12_act 30 = .ok (.iload_n 2, 1) := by decide +kernel
theorem dX12_act_31 : decode cX12_act 31 = .ok (.iload_n 3, 1) := by decide +kernel
theorem dX12_act_32 : decode cX12_act 32 = .ok (.invokevirtual 364, 3) := by decide +kernel
theorem dX12_act_35 : decode cX12_act 35 = .ok (.iconst 0, 1) := by decide +kernel
theorem dX12_act_36 : decode cX12_act 36 = .ok (.ireturn, 1) := by decide +kernel
theorem dX12_set_0 : decode cX12_set 0 = .ok (.aload_n 0, 1) := by decide +kernel
theorem dX12_set_1 : decode cX12_set 1 = .ok (.iconst 0, 1) := by decide +kernel
theorem dX12_set_2 : decode cX12_set 2 = .ok (.putfield 1, 3) := by decide +kernel
theorem dX12_set_5 : decode cX12_set 5 = .ok (.aload_n 0, 1) := by decide +kernel
theorem dX12_set_6 : decode cX12_set 6 = .ok (.iconst 0, 1) := by decide +kernel
theorem dX12_set_7 : decode cX12_set 7 = .ok (.iload_n 1, 1) := by decide +kernel
theorem dX12_set_8 : decode cX12_set 8 = .ok (.iload_n 2, 1) := by decide +kernel
theorem dX12_set_9 : decode cX12_set 9 = .ok (.iload_n 1, 1) := by decide +kernel
theorem dX12_set_10 : decode cX12_set 10 = .ok (.iconst 0, 1) := by decide +kernel
theorem dX12_set_11 : decode cX12_set 11 = .ok (.bipush 7, 2) := by decide +kernel
theorem dX12_set_13 : decode cX12_set 13 = .ok (.invokestatic 75, 3) := by decide +kernel
theorem dX12_set_16 : decode cX12_set 16 = .ok (.ifCond .eq 18, 3) := by decide +kernel
theorem dX12_set_19 : decode cX12_set 19 = .ok (.iload_n 2, 1) := by decide +kernel
theorem dX12_set_20 : decode cX12_set 20 = .ok (.iconst 0, 1) := by decide +kernel
theorem dX12_set_21 : decode cX12_set 21 = .ok (.ldc_w 307, 3) := by decide +kernel
theorem dX12_set_24 : decode cX12_set 24 = .ok (.invokestatic 75, 3) := by decide +kernel
theorem dX12_set_27 : decode cX12_set 27 = .ok (.ifCond .eq 7, 3) := by decide +kernel
theorem dX12_set_30 : decode cX12_set 30 = .ok (.iconst 1, 1) := by decide +kernel
theorem dX12_set_31 : decode cX12_set 31 = .ok (.goto 4, 3) := by decide +kernel
theorem dX12_set_34 : decode cX12_set 34 = .ok (.iconst 0, 1) := by decide +kernel
theorem dX12_set_35 : decode cX12_set 35 = .ok (.invokevirtual 368, 3) := by decide +kernel
theorem dX12_set_38 : decode cX12_set 38 = .ok (.ireturn, 1) := by decide +kernel
theorem dX12_poke_0 : decode cX12_poke 0 = .ok (.aload_n 0, 1) := by decide +kernel
theorem dX12_poke_1 : decode cX12_poke 1 = .ok (.iconst 0, 1) := by decide +kernel
theorem dX12_poke_2 : decode cX12_poke 2 = .ok (.putfield 1, 3) := by decide +kernel
theorem dX12_poke_5 : decode cX12_poke 5 = .ok (.aload_n 0, 1) := by decide +kernel
theorem dX12_poke_6 : decode cX12_poke 6 = .ok (.iconst 1, 1) := by decide +kernel
theorem dX12_poke_7 : decode cX12_poke 7 = .ok (.iload_n 1, 1) := by decide +kernel
theorem dX12_poke_8 : decode cX12_poke 8 = .ok (.iload_n 2, 1) := by decide +kernel
theorem dX12_poke_9 : decode cX12_poke 9 = .ok (.iload_n 1, 1) := by decide +kernel
theorem dX12_poke_10 : decode cX12_poke 10 = .ok (.iconst 0, 1) := by decide +kernel
theorem dX12_poke_11 : decode cX12_poke 11 = .ok (.bipush 63, 2) := by decide +kernel
theorem dX12_poke_13 : decode cX12_poke 13 = .ok (.invokestatic 75, 3) := by decide +kernel
theorem dX12_poke_16 : decode cX12_poke 16 = .ok (.ifCond .eq 18, 3) := by decide +kernel
theorem dX12_poke_19 : decode cX12_poke 19 = .ok (.iload_n 2, 1) := by decide +kernel
theorem dX12_poke_20 : decode cX12_poke 20 = .ok (.iconst 0, 1) := by decide +kernel
theorem dX12_poke_21 : decode cX12_poke 21 = .ok (.ldc_w 307, 3) := by decide +kernel
theorem dX12_poke_24 : decode cX12_poke 24 = .ok (.invokestatic 75, 3) := by decide +kernel
theorem dX12_poke_27 : decode cX12_poke 27 = .ok (.ifCond .eq 7, 3) := by decide +kernel
theorem dX12_poke_30 : decode cX12_poke 30 = .ok (.iconst 1, 1) := by decide +kernel
theorem dX12_poke_31 : decode cX12_poke 31 = .ok (.goto 4, 3) := by decide +kernel
theorem dX12_poke_34 : decode cX12_poke 34 = .ok (.iconst 0, 1) := by decide +kernel
theorem dX12_poke_35 : decode cX12_poke 35 = .ok (.invokevirtual 368, 3) := by decide +kernel
theorem dX12_poke_38 : decode cX12_poke 38 = .ok (.ireturn, 1) := by decide +kernel
theorem dX12_go__0 : decode cX12_go_ 0 = .ok (.aload_n 0, 1) := by decide +kernel
theorem dX12_go__1 : decode cX12_go_ 1 = .ok (.iconst 0, 1) := by decide +kernel
theorem dX12_go__2 : decode cX12_go_ 2 = .ok (.putfield 1, 3) := by decide +kernel
theorem dX12_go__5 : decode cX12_go_ 5 = .ok (.aload_n 0, 1) := by decide +kernel
theorem dX12_go__6 : decode cX12_go_ 6 = .ok (.iconst 2, 1) := by decide +kernel
theorem dX12_go__7 : decode cX12_go_ 7 = .ok (.iload_n 1, 1) := by decide +kernel
theorem dX12_go__8 : decode cX12_go_ 8 = .ok (.iconst 0, 1) := by decide +kernel
theorem dX12_go__9 : decode cX12_go_ 9 = .ok (.aload_n 0, 1) := by decide +kernel
theorem dX12_go__10 : decode cX12_go_ 10 = .ok (.iload_n 1, 1) := by decide +kernel
theorem dX12_go__11 : decode cX12_go_ 11 = .ok (.invokevirtual 267, 3) := by decide +kernel
theorem dX12_go__14 : decode cX12_go_ 14 = .ok (.invokevirtual 368, 3) := by decide +kernel
theorem dX12_go__17 : decode cX12_go_ 17 = .ok (.ireturn, 1) := by decide +kernel
theorem dX12_stop_0 : decode cX12_stop 0 = .ok (.aload_n 0, 1) := by decide +kernel
theorem dX12_stop_1 : decode cX12_stop 1 = .ok (.iconst 0, 1) := by decide +kernel
theorem dX12_stop_2 : decode cX12_stop 2 = .ok (.putfield 1, 3) := by decide +kernel
theorem dX12_stop_5 : decode cX12_stop 5 = .ok (.aload_n 0, 1) := by decide +kernel
theorem dX12_stop_6 : decode cX12_stop 6 = .ok (.iconst 3, 1) := by decide +kernel
theorem dX12_stop_7 : decode cX12_stop 7 = .ok (.iload_n 1, 1) := by decide +kernel
theorem dX12_stop_8 : decode cX12_stop 8 = .ok (.iconst 0, 1) := by decide +kernel
theorem dX12_stop_9 : decode cX12_stop 9 = .ok (.iload_n 1, 1) := by decide +kernel
theorem dX12_stop_10 : decode cX12_stop 10 = .ok (.iconst 1, 1) := by decide +kernel
theorem dX12_stop_11 : decode cX12_stop 11 = .ok (.sipush 250, 3) := by decide +kernel
theorem dX12_stop_14 : decode cX12_stop 14 = .ok (.invokestatic 75, 3) := by decide +kernel
theorem dX12_stop_17 : decode cX12_stop 17 = .ok (.invokevirtual 368, 3) := by decide +kernel
theorem dX12_stop_20 : decode cX12_stop 20 = .ok (.ireturn, 1) := by decide +kernel
theorem dX12_clear_0 : decode cX12_clear 0 = .ok (.aload_n 0, 1) := by decide +kernel
theorem dX12_clear_1 : decode cX12_clear 1 = .ok (.iconst 0, 1) := by decide +kernel
theorem dX12_clear_2 : decode cX12_clear 2 = .ok (.putfield 1, 3) := by decide +kernel
theorem dX12_clear_5 : decode cX12_clear 5 = .ok (.aload_n 0, 1) := by decide +kernel
theorem dX12_clear_6 : decode cX12_clear 6 = .ok (.iconst 4, 1) := by decide +kernel
theorem dX12_clear_7 : decode cX12_clear 7 = .ok (.iload_n 1, 1) := by decide +kernel
theorem dX12_clear_8 : decode cX12_clear 8 = .ok (.iconst 0, 1) := by decide +kernel
theorem dX12_clear_9 : decode cX12_clear 9 = .ok (.iload_n 1, 1) := by decide +kernel
theorem dX12_clear_10 : decode cX12_clear 10 = .ok (.iconst 1, 1) := by decide +kernel
theorem dX12_clear_11 : decode cX12_clear 11 = .ok (.sipush 250, 3) := by decide +kernel
theorem dX12_clear_14 : decode cX12_clear 14 = .ok (.invokestatic 75, 3) := by decide +kernel
theorem dX12_clear_17 : decode cX12_clear 17 = .ok (.invokevirtual 368, 3) := by decide +kernel
theorem dX12_clear_20 : decode cX12_clear 20 = .ok (.ireturn, 1) := by decide +kernel
theorem dX12_step_0 : decode cX12_step 0 = .ok (.aload_n 0, 1) := by decide +kernel
theorem dX12_step_1 : decode cX12_step 1 = .ok (.iconst 0, 1) := by decide +kernel
theorem dX12_step_2 : decode cX12_step 2 = .ok (.putfield 1, 3) := by decide +kernel
theorem dX12_step_5 : decode cX12_step 5 = .ok (.aload_n 0, 1) := by decide +kernel
theorem dX12_step_6 : decode cX12_step 6 = .ok (.iconst 5, 1) := by decide +kernel
theorem dX12_step_7 : decode cX12_step 7 = .ok (.iconst 0, 1) := by decide +kernel
theorem dX12_step_8 : decode cX12_step 8 = .ok (.iconst 0, 1) := by decide +kernel
theorem dX12_step_9 : decode cX12_step 9 = .ok (.iconst 1, 1) := by decide +kernel
theorem dX12_step_10 : decode cX12_step 10 = .ok (.invokevirtual 368, 3) := by decide +kernel
theorem dX12_step_13 : decode cX12_step 13 = .ok (.ireturn, 1) := by decide +kernel
theorem dX12_leave_0 : decode cX12_leave 0 = .ok (.aload_n 0, 1) := by decide +kernel
theorem dX12_leave_1 : decode cX12_leave 1 = .ok (.iconst 0, 1) := by decide +kernel
theorem dX12_leave_2 : decode cX12_leave 2 = .ok (.putfield 1, 3) := by decide +kernel
theorem dX12_leave_5 : decode cX12_leave 5 = .ok (.aload_n 0, 1) := by decide +kernel
theorem dX12_leave_6 : decode cX12_leave 6 = .ok (.bipush 6, 2) := by decide +kernel
theorem dX12_leave_8 : decode cX12_leave 8 = .ok (.iconst 0, 1) := by decide +kernel
theorem dX12_leave_9 : decode cX12_leave 9 = .ok (.iconst 0, 1) := by decide +kernel
theorem dX12_leave_10 : decode cX12_leave 10 = .ok (.iconst 1, 1) := by decide +kernel
theorem dX12_leave_11 : decode cX12_leave 11 = .ok (.invokevirtual 368, 3) := by decide +kernel
theorem dX12_leave_14 : decode cX12_leave 14 = .ok (.ireturn, 1) := by decide +kernel
theorem dX12_run_0 : decode cX12_run 0 = .ok (.aload_n 0, 1) := by decide +kernel
theorem dX12_run_1 : decode cX12_run 1 = .ok (.iconst 0, 1) := by decide +kernel
theorem dX12_run_2 : decode cX12_run 2 = .ok (.putfield 1, 3) := by decide +kernel
theorem dX12_run_5 : decode cX12_run 5 = .ok (.aload_n 0, 1) := by decide +kernel
theorem dX12_run_6 : decode cX12_run 6 = .ok (.bipush 7, 2) := by decide +kernel
theorem dX12_run_8 : decode cX12_run 8 = .ok (.iconst 0, 1) := by decide +kernel
theorem dX12_run_9 : decode cX12_run 9 = .ok (.iconst 0, 1) := by decide +kernel
theorem dX12_run_10 : decode cX12_run 10 = .ok (.iconst 1, 1) := by decide +kernel
theorem dX12_run_11 : decode cX12_run 11 = .ok (.invokevirtual 368, 3) := by decide +kernel
theorem dX12_run_14 : decode cX12_run 14 = .ok (.ireturn, 1) := by decide +kernel
theorem dX12_undo_0 : decode cX12_undo 0 = .ok (.aload_n 0, 1) := by decide +kernel
theorem dX12_undo_1 : decode cX12_undo 1 = .ok (.iconst 0, 1) := by decide +kernel
theorem dX12_undo_2 : decode cX12_undo 2 = .ok (.putfield 1, 3) := by decide +kernel
theorem dX12_undo_5 : decode cX12_undo 5 = .ok (.aload_n 0, 1) := by decide +kernel
theorem dX12_undo_6 : decode cX12_undo 6 = .ok (.getfield 258, 3) := by decide +kernel
theorem dX12_undo_9 : decode cX12_undo 9 = .ok (.ifCond .ne 5, 3) := by decide +kernel
theorem dX12_undo_12 : decode cX12_undo 12 = .ok (.iconst (-1), 1) := by decide +kernel
theorem dX12_undo_13 : decode cX12_undo 13 = .ok (.ireturn, 1) := by decide +kernel
theorem dX12_undo_14 : decode cX12_undo 14 = .ok (.aload_n 0, 1) := by decide +kernel
theorem dX12_undo_15 : decode cX12_undo 15 = .ok (.dup, 1) := by decide +kernel
theorem dX12_undo_16 : decode cX12_undo 16 = .ok (.getfield 258, 3) := by decide +kernel
theorem dX12_undo_19 : decode cX12_undo 19 = .ok (.iconst 1, 1) := by decide +kernel
theorem dX12_undo_20 : decode cX12_undo 20 = .ok (.isub, 1) := by decide +kernel
theorem dX12_undo_21 : decode cX12_undo 21 = .ok (.putfield 258, 3) := by decide +kernel
theorem dX12_undo_24 : decode cX12_undo 24 = .ok (.aload_n 0, 1) := by decide +kernel
theorem dX12_undo_25 : decode cX12_undo 25 = .ok (.aload_n 0, 1) := by decide +kernel
theorem dX12_undo_26 : decode cX12_undo 26 = .ok (.getfield 107, 3) := by decide +kernel
theorem dX12_undo_29 : decode cX12_undo 29 = .ok (.bipush 83, 2) := by decide +kernel
theorem dX12_undo_31 : decode cX12_undo 31 = .ok (.aload_n 0, 1) := by decide +kernel
theorem dX12_undo_32 : decode cX12_undo 32 = .ok (.getfield 258, 3) := by decide +kernel
theorem dX12_undo_35 : decode cX12_undo 35 = .ok (.imul, 1) := by decide +kernel
theorem dX12_undo_36 : decode cX12_undo 36 = .ok (.invokevirtual 372, 3) := by decide +kernel
theorem dX12_undo_39 : decode cX12_undo 39 = .ok (.aload_n 0, 1) := by decide +kernel
theorem dX12_undo_40 : decode cX12_undo 40 = .ok (.getfield 258, 3) := by decide +kernel
theorem dX12_undo_43 : decode cX12_undo 43 = .ok (.ireturn, 1) := by decide +kernel
theorem dX12_lay_0 : decode cX12_lay 0 = .ok (.aload_n 0, 1) := by decide +kernel
theorem dX12_lay_1 : decode cX12_lay 1 = .ok (.getfield 142, 3) := by decide +kernel
theorem dX12_lay_4 : decode cX12_lay 4 = .ok (.aload_n 0, 1) := by decide +kernel
theorem dX12_lay_5 : decode cX12_lay 5 = .ok (.getfield 375, 3) := by decide +kernel
theorem dX12_lay_8 : decode cX12_lay 8 = .ok (.iload_n 1, 1) := by decide +kernel
theorem dX12_lay_9 : decode cX12_lay 9 = .ok (.iastore, 1) := by decide +kernel
theorem dX12_lay_10 : decode cX12_lay 10 = .ok (.aload_n 0, 1) := by decide +kernel
theorem dX12_lay_11 : decode cX12_lay 11 = .ok (.dup, 1) := by decide +kernel
theorem dX12_lay_12 : decode cX12_lay 12 = .ok (.getfield 375, 3) := by decide +kernel
theorem dX12_lay_15 : decode cX12_lay 15 = .ok (.iconst 1, 1) := by decide +kernel
theorem dX12_lay_16 : decode cX12_lay 16 = .ok (.iadd, 1) := by decide +kernel
theorem dX12_lay_17 : decode cX12_lay 17 = .ok (.putfield 375, 3) := by decide +kernel
theorem dX12_lay_20 : decode cX12_lay 20 = .ok (.return_, 1) := by decide +kernel
theorem dX12_isBetter_0 : decode cX12_isBetter 0 = .ok (.aload_n 0, 1) := by decide +kernel
theorem dX12_isBetter_1 : decode cX12_isBetter 1 = .ok (.getfield 378, 3) := by decide +kernel
theorem dX12_isBetter_4 : decode cX12_isBetter 4 = .ok (.ifCond .eq 14, 3) := by decide +kernel
theorem dX12_isBetter_7 : decode cX12_isBetter 7 = .ok (.aload_n 0, 1) := by decide +kernel
theorem dX12_isBetter_8 : decode cX12_isBetter 8 = .ok (.getfield 375, 3) := by decide +kernel
theorem dX12_isBetter_11 : decode cX12_isBetter 11 = .ok (.aload_n 0, 1) := by decide +kernel
theorem dX12_isBetter_12 : decode cX12_isBetter 12 = .ok (.getfield 378, 3) := by decide +kernel
theorem dX12_isBetter_15 : decode cX12_isBetter 15 = .ok (.if_icmp .eq 27, 3) := by decide +kernel
theorem dX12_isBetter_18 : decode cX12_isBetter 18 = .ok (.aload_n 0, 1) := by decide +kernel
theorem dX12_isBetter_19 : decode cX12_isBetter 19 = .ok (.getfield 378, 3) := by decide +kernel
theorem dX12_isBetter_22 : decode cX12_isBetter 22 = .ok (.ifCond .eq 14, 3) := by decide +kernel
theorem dX12_isBetter_25 : decode cX12_isBetter 25 = .ok (.aload_n 0, 1) := by decide +kernel
theorem dX12_isBetter_26 : decode cX12_isBetter 26 = .ok (.getfield 375, 3) := by decide +kernel
theorem dX12_isBetter_29 : decode cX12_isBetter 29 = .ok (.aload_n 0, 1) := by decide +kernel
theorem dX12_isBetter_30 : decode cX12_isBetter 30 = .ok (.getfield 378, 3) := by decide +kernel
theorem dX12_isBetter_33 : decode cX12_isBetter 33 = .ok (.if_icmp .ge 7, 3) := by decide +kernel
theorem dX12_isBetter_36 : decode cX12_isBetter 36 = .ok (.iconst 1, 1) := by decide +kernel
theorem dX12_isBetter_37 : decode cX12_isBetter 37 = .ok (.goto 4, 3) := by decide +kernel
theorem dX12_isBetter_40 : decode cX12_isBetter 40 = .ok (.iconst 0, 1) := by decide +kernel
theorem dX12_isBetter_41 : decode cX12_isBetter 41 = .ok (.ireturn, 1) := by decide +kernel
theorem dX12_isBetter_42 : decode cX12_isBetter 42 = .ok (.iconst 0, 1) := by decide +kernel
theorem dX12_isBetter_43 : decode cX12_isBetter 43 = .ok (.istore_n 1, 1) := by decide +kernel
theorem dX12_isBetter_44 : decode cX12_isBetter 44 = .ok (.iload_n 1, 1) := by decide +kernel
theorem dX12_isBetter_45 : decode cX12_isBetter 45 = .ok (.aload_n 0, 1) := by decide +kernel
theorem dX12_isBetter_46 : decode cX12_isBetter 46 = .ok (.getfield 375, 3) := by decide +kernel
theorem dX12_isBetter_49 : decode cX12_isBetter 49 = .ok (.if_icmp .ge 45, 3) := by decide +kernel
theorem dX12_isBetter_52 : decode cX12_isBetter 52 = .ok (.aload_n 0, 1) := by decide +kernel
theorem dX12_isBetter_53 : decode cX12_isBetter 53 = .ok (.getfield 142, 3) := by decide +kernel
theorem dX12_isBetter_56 : decode cX12_isBetter 56 = .ok (.iload_n 1, 1) := by decide +kernel
theorem dX12_isBetter_57 : decode cX12_isBetter 57 = .ok (.iaload, 1) := by decide +kernel
theorem dX12_isBetter_58 : decode cX12_isBetter 58 = .ok (.aload_n 0, 1) := by decide +kernel
theorem dX12_isBetter_59 : decode cX12_isBetter 59 = .ok (.getfield 145, 3) := by decide +kernel
theorem dX12_isBetter_62 : decode cX12_isBetter 62 = .ok (.iload_n 1, 1) := by decide +kernel
theorem dX12_isBetter_63 : decode cX12_isBetter 63 = .ok (.iaload, 1) := by decide +kernel
theorem dX12_isBetter_64 : decode cX12_isBetter 64 = .ok (.if_icmp .eq 24, 3) := by decide +kernel
theorem dX12_isBetter_67 : decode cX12_isBetter 67 = .ok (.aload_n 0, 1) := by decide +kernel
theorem dX12_isBetter_68 : decode cX12_isBetter 68 = .ok (.getfield 142, 3) := by decide +kernel
theorem dX12_isBetter_71 : decode cX12_isBetter 71 = .ok (.iload_n 1, 1) := by decide +kernel
theorem dX12_isBetter_72 : decode cX12_isBetter 72 = .ok (.iaload, 1) := by decide +kernel
theorem dX12_isBetter_73 : decode cX12_isBetter 73 = .ok (.aload_n 0, 1) := by decide +kernel
theorem dX12_isBetter_74 : decode cX12_isBetter 74 = .ok (.getfield 145, 3) := by decide +kernel
theorem dX12_isBetter_77 : decode cX12_isBetter 77 = .ok (.iload_n 1, 1) := by decide +kernel
theorem dX12_isBetter_78 : decode cX12_isBetter 78 = .ok (.iaload, 1) := by decide +kernel
theorem dX12_isBetter_79 : decode cX12_isBetter 79 = .ok (.if_icmp .ge 7, 3) := by decide +kernel
theorem dX12_isBetter_82 : decode cX12_isBetter 82 = .ok (.iconst 1, 1) := by decide +kernel
theorem dX12_isBetter_83 : decode cX12_isBetter 83 = .ok (.goto 4, 3) := by decide +kernel
theorem dX12_isBetter_86 : decode cX12_isBetter 86 = .ok (.iconst 0, 1) := by decide +kernel
theorem dX12_isBetter_87 : decode cX12_isBetter 87 = .ok (.ireturn, 1) := by decide +kernel
theorem dX12_isBetter_88 : decode cX12_isBetter 88 = .ok (.iinc 1 1, 3) := by decide +kernel
theorem dX12_isBetter_91 : decode cX12_isBetter 91 = .ok (.goto (-47), 3) := by decide +kernel
theorem dX12_isBetter_94 : decode cX12_isBetter 94 = .ok (.iconst 0, 1) := by decide +kernel
theorem dX12_isBetter_95 : decode cX12_isBetter 95 = .ok (.ireturn, 1) := by decide +kernel
theorem dX12_tryWay_0 : decode cX12_tryWay 0 = .ok (.aload_n 0, 1) := by decide +kernel
theorem dX12_tryWay_1 : decode cX12_tryWay 1 = .ok (.iconst 0, 1) := by decide +kernel
theorem dX12_tryWay_2 : decode cX12_tryWay 2 = .ok (.putfield 375, 3) := by decide +kernel
theorem dX12_tryWay_5 : decode cX12_tryWay 5 = .ok (.iload_n 1, 1) := by decide +kernel
theorem dX12_tryWay_6 : decode cX12_tryWay 6 = .ok (.iconst (-1), 1) := by decide +kernel
theorem dX12_tryWay_7 : decode cX12_tryWay 7 = .ok (.if_icmp .eq 13, 3) := by decide +kernel
theorem dX12_tryWay_10 : decode cX12_tryWay 10 = .ok (.aload_n 0, 1) := by decide +kernel
theorem dX12_tryWay_11 : decode cX12_tryWay 11 = .ok (.iconst 2, 1) := by decide +kernel
theorem dX12_tryWay_12 : decode cX12_tryWay 12 = .ok (.invokevirtual 381, 3) := by decide +kernel
theorem dX12_tryWay_15 : decode cX12_tryWay 15 = .ok (.aload_n 0, 1) := by decide +kernel
theorem dX12_tryWay_16 : decode cX12_tryWay 16 = .ok (.iload_n 1, 1) := by decide +kernel
theorem dX12_tryWay_17 : decode cX12_tryWay 17 = .ok (.invokevirtual 381, 3) := by decide +kernel
theorem dX12_tryWay_20 : decode cX12_tryWay 20 = .ok (.iload_n 2, 1) := by decide +kernel
theorem dX12_tryWay_21 : decode cX12_tryWay 21 = .ok (.ifCond .eq 29, 3) := by decide +kernel
theorem dX12_tryWay_24 : decode cX12_tryWay 24 = .ok (.aload_n 0, 1) := by decide +kernel
theorem dX12_tryWay_25 : decode cX12_tryWay 25 = .ok (.iconst 3, 1) := by decide +kernel
theorem dX12_tryWay_26 : decode cX12_tryWay 26 = .ok (.invokevirtual 381, 3) := by decide +kernel
theorem dX12_tryWay_29 : decode cX12_tryWay 29 = .ok (.aload_n 0, 1) := by decide +kernel
theorem dX12_tryWay_30 : decode cX12_tryWay 30 = .ok (.iload_n 2, 1) := by decide +kernel
theorem dX12_tryWay_31 : decode cX12_tryWay 31 = .ok (.bipush 8, 2) := by decide +kernel
theorem dX12_tryWay_33 : decode cX12_tryWay 33 = .ok (.ishr, 1) := by decide +kernel
theorem dX12_tryWay_34 : decode cX12_tryWay 34 = .ok (.sipush 255, 3) := by decide +kernel
theorem dX12_tryWay_37 : decode cX12_tryWay 37 = .ok (.iand, 1) := by decide +kernel
theorem dX12_tryWay_38 : decode cX12_tryWay 38 = .ok (.invokevirtual 381, 3) := by decide +kernel
theorem dX12_tryWay_41 : decode cX12_tryWay 41 = .ok (.aload_n 0, 1) := by decide +kernel
theorem dX12_tryWay_42 : decode cX12_tryWay 42 = .ok (.iload_n 2, 1) := by decide +kernel
theorem dX12_tryWay_43 : decode cX12_tryWay 43 = .ok (.sipush 255, 3) := by decide +kernel
theorem dX12_tryWay_46 : decode cX12_tryWay 46 = .ok (.iand, 1) := by decide +kernel
theorem dX12_tryWay_47 : decode cX12_tryWay 47 = .ok (.invokevirtual 381, 3) := by decide +kernel
theorem dX12_tryWay_50 : decode cX12_tryWay 50 = .ok (.iconst 0, 1) := by decide +kernel
theorem dX12_tryWay_51 : decode cX12_tryWay 51 = .ok (.istore 5, 2) := by decide +kernel
theorem dX12_tryWay_53 : decode cX12_tryWay 53 = .ok (.iload 5, 2) := by decide +kernel
theorem dX12_tryWay_55 : decode cX12_tryWay 55 = .ok (.iload_n 3, 1) := by decide +kernel
theorem dX12_tryWay_56 : decode cX12_tryWay 56 = .ok (.if_icmp .ge 14, 3) := by decide +kernel
theorem dX12_tryWay_59 : decode cX12_tryWay 59 = .ok (.aload_n 0, 1) := by decide +kernel
theorem dX12_tryWay_60 : decode cX12_tryWay 60 = .ok (.iconst 4, 1) := by decide +kernel
theorem dX12_tryWay_61 : decode cX12_tryWay 61 = .ok (.invokevirtual 381, 3) := by decide +kernel
theorem dX12_tryWay_64 : decode cX12_tryWay 64 = .ok (.iinc 5 1, 3) := by decide +kernel
theorem dX12_tryWay_67 : decode cX12_tryWay 67 = .ok (.goto (-14), 3) := by decide +kernel
theorem dX12_tryWay_70 : decode cX12_tryWay 70 = .ok (.aload_n 0, 1) := by decide +kernel
theorem dX12_tryWay_71 : decode cX12_tryWay 71 = .ok (.iload 4, 2) := by decide +kernel
theorem dX12_tryWay_73 : decode cX12_tryWay 73 = .ok (.invokevirtual 381, 3) := by decide +kernel
theorem dX12_tryWay_76 : decode cX12_tryWay 76 = .ok (.aload_n 0, 1) := by decide +kernel
theorem dX12_tryWay_77 : decode cX12_tryWay 77 = .ok (.invokevirtual 384, 3) := by decide +kernel
theorem dX12_tryWay_80 : decode cX12_tryWay 80 = .ok (.ifCond .ne 4, 3) := by decide +kernel
theorem dX12_tryWay_83 : decode cX12_tryWay 83 = .ok (.return_, 1) := by decide +kernel
theorem dX12_tryWay_84 : decode cX12_tryWay 84 = .ok (.aload_n 0, 1) := by decide +kernel
theorem dX12_tryWay_85 : decode cX12_tryWay 85 = .ok (.aload_n 0, 1) := by decide +kernel
theorem dX12_tryWay_86 : decode cX12_tryWay 86 = .ok (.getfield 375, 3) := by decide +kernel
theorem dX12_tryWay_89 : decode cX12_tryWay 89 = .ok (.putfield 378, 3) := by decide +kernel
theorem dX12_tryWay_92 : decode cX12_tryWay 92 = .ok (.iconst 0, 1) := by decide +kernel
theorem dX12_tryWay_93 : decode cX12_tryWay 93 = .ok (.istore 5, 2) := by decide +kernel
theorem dX12_tryWay_95 : decode cX12_tryWay 95 = .ok (.iload 5, 2) := by decide +kernel
theorem dX12_tryWay_97 : decode cX12_tryWay 97 = .ok (.aload_n 0, 1) := by decide +kernel
theorem dX12_tryWay_98 : decode cX12_tryWay 98 = .ok (.getfield 375, 3) := by decide +kernel
theorem dX12_tryWay_101 : decode cX12_tryWay 101 = .ok (.if_icmp .ge 23, 3) := by decide +kernel
theorem dX12_tryWay_104 : decode cX12_tryWay 104 = .ok (.aload_n 0, 1) := by decide +kernel
theorem dX12_tryWay_105 : decode cX12_tryWay 105 = .ok (.getfield 145, 3) := by decide +kernel
theorem dX12_tryWay_108 : decode cX12_tryWay 108 = .ok (.iload 5, 2) := by decide +kernel
theorem dX12_tryWay_110 : decode cX12_tryWay 110 = .ok (.aload_n 0, 1) := by decide +kernel
theorem dX12_tryWay_111 : decode cX12_tryWay 111 = .ok (.getfield 142, 3) := by decide +kernel
theorem dX12_tryWay_114 : decode cX12_tryWay 114 = .ok (.iload 5, 2) := by decide +kernel
theorem dX12_tryWay_116 : decode cX12_tryWay 116 = .ok (.iaload, 1) := by decide +kernel
theorem dX12_tryWay_117 : decode cX12_tryWay 117 = .ok (.iastore, 1) := by decide +kernel
theorem dX12_tryWay_118 : decode cX12_tryWay 118 = .ok (.iinc 5 1, 3) := by decide +kernel
theorem dX12_tryWay_121 : decode cX12_tryWay 121 = .ok (.goto (-26), 3) := by decide +kernel
theorem dX12_tryWay_124 : decode cX12_tryWay 124 = .ok (.return_, 1) := by decide +kernel
theorem dX12_tryLast_0 : decode cX12_tryLast 0 = .ok (.iconst 0, 1) := by decide +kernel
theorem dX12_tryLast_1 : decode cX12_tryLast 1 = .ok (.istore 4, 2) := by decide +kernel
theorem dX12_tryLast_3 : decode cX12_tryLast 3 = .ok (.bipush 17, 2) := by decide +kernel
theorem dX12_tryLast_5 : decode cX12_tryLast 5 = .ok (.iload 4, 2) := by decide +kernel
theorem dX12_tryLast_7 : decode cX12_tryLast 7 = .ok (.imul, 1) := by decide +kernel
theorem dX12_tryLast_8 : decode cX12_tryLast 8 = .ok (.iload_n 1, 1) := by decide +kernel
theorem dX12_tryLast_9 : decode cX12_tryLast 9 = .ok (.if_icmp .gt 45, 3) := by decide +kernel
theorem dX12_tryLast_12 : decode cX12_tryLast 12 = .ok (.iload_n 1, 1) := by decide +kernel
theorem dX12_tryLast_13 : decode cX12_tryLast 13 = .ok (.bipush 17, 2) := by decide +kernel
theorem dX12_tryLast_15 : decode cX12_tryLast 15 = .ok (.iload 4, 2) := by decide +kernel
theorem dX12_tryLast_17 : decode cX12_tryLast 17 = .ok (.imul, 1) := by decide +kernel
theorem dX12_tryLast_18 : decode cX12_tryLast 18 = .ok (.isub, 1) := by decide +kernel
theorem dX12_tryLast_19 : decode cX12_tryLast 19 = .ok (.istore 5, 2) := by decide +kernel
theorem dX12_tryLast_21 : decode cX12_tryLast 21 = .ok (.iload 5, 2) := by decide +kernel
theorem dX12_tryLast_23 : decode cX12_tryLast 23 = .ok (.ifCond .ne 15, 3) := by decide +kernel
theorem dX12_tryLast_26 : decode cX12_tryLast 26 = .ok (.aload_n 0, 1) := by decide +kernel
theorem dX12_tryLast_27 : decode cX12_tryLast 27 = .ok (.iconst (-1), 1) := by decide +kernel
theorem dX12_tryLast_28 : decode cX12_tryLast 28 = .ok (.iload_n 2, 1) := by decide +kernel
theorem dX12_tryLast_29 : decode cX12_tryLast 29 = .ok (.iload 4, 2) := by decide +kernel
theorem dX12_tryLast_31 : decode cX12_tryLast 31 = .ok (.iload_n 3, 1) := by decide +kernel
theorem dX12_tryLast_32 : decode cX12_tryLast 32 = .ok (.invokevirtual 387, 3) := by decide +kernel
theorem dX12_tryLast_35 : decode cX12_tryLast 35 = .ok (.goto 13, 3) := by decide +kernel
theorem dX12_tryLast_38 : decode cX12_tryLast 38 = .ok (.aload_n 0, 1) := by decide +kernel
theorem dX12_tryLast_39 : decode cX12_tryLast 39 = .ok (.iload 5, 2) := by decide +kernel
theorem dX12_tryLast_41 : decode cX12_tryLast 41 = .ok (.iload_n 2, 1) := by decide +kernel
theorem dX12_tryLast_42 : decode cX12_tryLast 42 = .ok (.iload 4, 2) := by decide +kernel
theorem dX12_tryLast_44 : decode cX12_tryLast 44 = .ok (.iload_n 3, 1) := by decide +kernel
theorem dX12_tryLast_45 : decode cX12_tryLast 45 = .ok (.invokevirtual 387, 3) := by decide +kernel
theorem dX12_tryLast_48 : decode cX12_tryLast 48 = .ok (.iinc 4 1, 3) := by decide +kernel
theorem dX12_tryLast_51 : decode cX12_tryLast 51 = .ok (.goto (-48), 3) := by decide +kernel
theorem dX12_tryLast_54 : decode cX12_tryLast 54 = .ok (.return_, 1) := by decide +kernel
theorem dX12_packRow_0 : decode cX12_packRow 0 = .ok (.aload_n 0, 1) := by decide +kernel
theorem dX12_packRow_1 : decode cX12_packRow 1 = .ok (.iconst 0, 1) := by decide +kernel
theorem dX12_packRow_2 : decode cX12_packRow 2 = .ok (.putfield 378, 3) := by decide +kernel
theorem dX12_packRow_5 : decode cX12_packRow 5 = .ok (.aload_n 0, 1) := by decide +kernel
theorem dX12_packRow_6 : decode cX12_packRow 6 = .ok (.iload_n 1, 1) := by decide +kernel
theorem dX12_packRow_7 : decode cX12_packRow 7 = .ok (.iload_n 2, 1) := by decide +kernel
theorem dX12_packRow_8 : decode cX12_packRow 8 = .ok (.iconst 1, 1) := by decide +kernel
theorem dX12_packRow_9 : decode cX12_packRow 9 = .ok (.invokevirtual 391, 3) := by decide +kernel
theorem dX12_packRow_12 : decode cX12_packRow 12 = .ok (.iconst 0, 1) := by decide +kernel
theorem dX12_packRow_13 : decode cX12_packRow 13 = .ok (.istore_n 3, 1) := by decide +kernel
theorem dX12_packRow_14 : decode cX12_packRow 14 = .ok (.iload_n 3, 1) := by decide +kernel
theorem dX12_packRow_15 : decode cX12_packRow 15 = .ok (.sipush 245, 3) := by decide +kernel
theorem dX12_packRow_18 : decode cX12_packRow 18 = .ok (.if_icmp .gt 39, 3) := by decide +kernel
theorem dX12_packRow_21 : decode cX12_packRow 21 = .ok (.iload_n 3, 1) := by decide +kernel
theorem dX12_packRow_22 : decode cX12_packRow 22 = .ok (.bipush 12, 2) := by decide +kernel
theorem dX12_packRow_24 : decode cX12_packRow 24 = .ok (.idiv, 1) := by decide +kernel
theorem dX12_packRow_25 : decode cX12_packRow 25 = .ok (.iload_n 1, 1) := by decide +kernel
theorem dX12_packRow_26 : decode cX12_packRow 26 = .ok (.if_icmp .gt 25, 3) := by decide +kernel
theorem dX12_packRow_29 : decode cX12_packRow 29 = .ok (.aload_n 0, 1) := by decide +kernel
theorem dX12_packRow_30 : decode cX12_packRow 30 = .ok (.iload_n 1, 1) := by decide +kernel
theorem dX12_packRow_31 : decode cX12_packRow 31 = .ok (.iload_n 3, 1) := by decide +kernel
theorem dX12_packRow_32 : decode cX12_packRow 32 = .ok (.bipush 12, 2) := by decide +kernel
theorem dX12_packRow_34 : decode cX12_packRow 34 = .ok (.idiv, 1) := by decide +kernel
theorem dX12_packRow_35 : decode cX12_packRow 35 = .ok (.isub, 1) := by decide +kernel
theorem dX12_packRow_36 : decode cX12_packRow 36 = .ok (.iload_n 2, 1) := by decide +kernel
theorem dX12_packRow_37 : decode cX12_packRow 37 = .ok (.iload_n 3, 1) := by decide +kernel
theorem dX12_packRow_38 : decode cX12_packRow 38 = .ok (.bipush 12, 2) := by decide +kernel
theorem dX12_packRow_40 : decode cX12_packRow 40 = .ok (.irem, 1) := by decide +kernel
theorem dX12_packRow_41 : decode cX12_packRow 41 = .ok (.iconst 4, 1) := by decide +kernel
theorem dX12_packRow_42 : decode cX12_packRow 42 = .ok (.isub, 1) := by decide +kernel
theorem dX12_packRow_43 : decode cX12_packRow 43 = .ok (.isub, 1) := by decide +kernel
theorem dX12_packRow_44 : decode cX12_packRow 44 = .ok (.iload_n 3, 1) := by decide +kernel
theorem dX12_packRow_45 : decode cX12_packRow 45 = .ok (.bipush 10, 2) := by decide +kernel
theorem dX12_packRow_47 : decode cX12_packRow 47 = .ok (.iadd, 1) := by decide +kernel
theorem dX12_packRow_48 : decode cX12_packRow 48 = .ok (.invokevirtual 391, 3) := by decide +kernel
theorem dX12_packRow_51 : decode cX12_packRow 51 = .ok (.iinc 3 1, 3) := by decide +kernel
theorem dX12_packRow_54 : decode cX12_packRow 54 = .ok (.goto (-40), 3) := by decide +kernel
theorem dX12_packRow_57 : decode cX12_packRow 57 = .ok (.iconst 0, 1) := by decide +kernel
theorem dX12_packRow_58 : decode cX12_packRow 58 = .ok (.istore_n 3, 1) := by decide +kernel
theorem dX12_packRow_59 : decode cX12_packRow 59 = .ok (.iload_n 3, 1) := by decide +kernel
theorem dX12_packRow_60 : decode cX12_packRow 60 = .ok (.aload_n 0, 1) := by decide +kernel
theorem dX12_packRow_61 : decode cX12_packRow 61 = .ok (.getfield 378, 3) := by decide +kernel
theorem dX12_packRow_64 : decode cX12_packRow 64 = .ok (.if_icmp .ge 26, 3) := by decide +kernel
theorem dX12_packRow_67 : decode cX12_packRow 67 = .ok (.aload_n 0, 1) := by decide +kernel
theorem dX12_packRow_68 : decode cX12_packRow 68 = .ok (.getfield 139, 3) := by decide +kernel
theorem dX12_packRow_71 : decode cX12_packRow 71 = .ok (.aload_n 0, 1) := by decide +kernel
theorem dX12_packRow_72 : decode cX12_packRow 72 = .ok (.getfield 394, 3) := by decide +kernel
theorem dX12_packRow_75 : decode cX12_packRow 75 = .ok (.iload_n 3, 1) := by decide +kernel
theorem dX12_packRow_76 : decode cX12_packRow 76 = .ok (.iadd, 1) := by decide +kernel
theorem dX12_packRow_77 : decode cX12_packRow 77 = .ok (.aload_n 0, 1) := by decide +kernel
theorem dX12_packRow_78 : decode cX12_packRow 78 = .ok (.getfield 145, 3) := by decide +kernel
theorem dX12_packRow_81 : decode cX12_packRow 81 = .ok (.iload_n 3, 1) := by decide +kernel
theorem dX12_packRow_82 : decode cX12_packRow 82 = .ok (.iaload, 1) := by decide +kernel
theorem dX12_packRow_83 : decode cX12_packRow 83 = .ok (.iastore, 1) := by decide +kernel
theorem dX12_packRow_84 : decode cX12_packRow 84 = .ok (.iinc 3 1, 3) := by decide +kernel
theorem dX12_packRow_87 : decode cX12_packRow 87 = .ok (.goto (-28), 3) := by decide +kernel
theorem dX12_packRow_90 : decode cX12_packRow 90 = .ok (.aload_n 0, 1) := by decide +kernel
theorem dX12_packRow_91 : decode cX12_packRow 91 = .ok (.dup, 1) := by decide +kernel
theorem dX12_packRow_92 : decode cX12_packRow 92 = .ok (.getfield 394, 3) := by decide +kernel
theorem dX12_packRow_95 : decode cX12_packRow 95 = .ok (.aload_n 0, 1) := by decide +kernel
theorem dX12_packRow_96 : decode cX12_packRow 96 = .ok (.getfield 378, 3) := by decide +kernel
theorem dX12_packRow_99 : decode cX12_packRow 99 = .ok (.iadd, 1) := by decide +kernel
theorem dX12_packRow_100 : decode cX12_packRow 100 = .ok (.putfield 394, 3) := by decide +kernel
theorem dX12_packRow_103 : decode cX12_packRow 103 = .ok (.return_, 1) := by decide +kernel
theorem dX12_packed_0 : decode cX12_packed 0 = .ok (.aload_n 0, 1) := by decide +kernel
theorem dX12_packed_1 : decode cX12_packed 1 = .ok (.iconst 0, 1) := by decide +kernel
theorem dX12_packed_2 : decode cX12_packed 2 = .ok (.putfield 1, 3) := by decide +kernel
theorem dX12_packed_5 : decode cX12_packed 5 = .ok (.aload_n 0, 1) := by decide +kernel
theorem dX12_packed_6 : decode cX12_packed 6 = .ok (.iconst 0, 1) := by decide +kernel
theorem dX12_packed_7 : decode cX12_packed 7 = .ok (.putfield 394, 3) := by decide +kernel
theorem dX12_packed_10 : decode cX12_packed 10 = .ok (.iconst 0, 1) := by decide +kernel
theorem dX12_packed_11 : decode cX12_packed 11 = .ok (.istore_n 1, 1) := by decide +kernel
theorem dX12_packed_12 : decode cX12_packed 12 = .ok (.iconst 1, 1) := by decide +kernel
theorem dX12_packed_13 : decode cX12_packed 13 = .ok (.istore_n 2, 1) := by decide +kernel
theorem dX12_packed_14 : decode cX12_packed 14 = .ok (.iconst 0, 1) := by decide +kernel
theorem dX12_packed_15 : decode cX12_packed 15 = .ok (.istore_n 3, 1) := by decide +kernel
theorem dX12_packed_16 : decode cX12_packed 16 = .ok (.iload_n 3, 1) := by decide +kernel
theorem dX12_packed_17 : decode cX12_packed 17 = .ok (.aload_n 0, 1) := by decide +kernel
theorem dX12_packed_18 : decode cX12_packed 18 = .ok (.getfield 98, 3) := by decide +kernel
theorem dX12_packed_21 : decode cX12_packed 21 = .ok (.iconst 1, 1) := by decide +kernel
theorem dX12_packed_22 : decode cX12_packed 22 = .ok (.iaload, 1) := by decide +kernel
theorem dX12_packed_23 : decode cX12_packed 23 = .ok (.if_icmp .ge 55, 3) := by decide +kernel
theorem dX12_packed_26 : decode cX12_packed 26 = .ok (.aload_n 0, 1) := by decide +kernel
theorem dX12_packed_27 : decode cX12_packed 27 = .ok (.aload_n 0, 1) := by decide +kernel
theorem dX12_packed_28 : decode cX12_packed 28 = .ok (.getfield 98, 3) := by decide +kernel
theorem dX12_packed_31 : decode cX12_packed 31 = .ok (.bipush 6, 2) := by decide +kernel
theorem dX12_packed_33 : decode cX12_packed 33 = .ok (.iload_n 3, 1) := by decide +kernel
theorem dX12_packed_34 : decode cX12_packed 34 = .ok (.iadd, 1) := by decide +kernel
theorem dX12_packed_35 : decode cX12_packed 35 = .ok (.iaload, 1) := by decide +kernel
theorem dX12_packed_36 : decode cX12_packed 36 = .ok (.iload_n 1, 1) := by decide +kernel
theorem dX12_packed_37 : decode cX12_packed 37 = .ok (.isub, 1) := by decide +kernel
theorem dX12_packed_38 : decode cX12_packed 38 = .ok (.aload_n 0, 1) := by decide +kernel
theorem dX12_packed_39 : decode cX12_packed 39 = .ok (.getfield 98, 3) := by decide +kernel
theorem dX12_packed_42 : decode cX12_packed 42 = .ok (.bipush 36, 2) := by decide +kernel
theorem dX12_packed_44 : decode cX12_packed 44 = .ok (.iload_n 3, 1) := by decide +kernel
theorem dX12_packed_45 : decode cX12_packed 45 = .ok (.iadd, 1) := by decide +kernel
theorem dX12_packed_46 : decode cX12_packed 46 = .ok (.iaload, 1) := by decide +kernel
theorem dX12_packed_47 : decode cX12_packed 47 = .ok (.iload_n 2, 1) := by decide +kernel
theorem dX12_packed_48 : decode cX12_packed 48 = .ok (.isub, 1) := by decide +kernel
theorem dX12_packed_49 : decode cX12_packed 49 = .ok (.invokevirtual 397, 3) := by decide +kernel
theorem dX12_packed_52 : decode cX12_packed 52 = .ok (.aload_n 0, 1) := by decide +kernel
theorem dX12_packed_53 : decode cX12_packed 53 = .ok (.getfield 98, 3) := by decide +kernel
theorem dX12_packed_56 : decode cX12_packed 56 = .ok (.bipush 6, 2) := by decide +kernel
theorem dX12_packed_58 : decode cX12_packed 58 = .ok (.iload_n 3, 1) := by decide +kernel
theorem dX12_packed_59 : decode cX12_packed 59 = .ok (.iadd, 1) := by decide +kernel
theorem dX12_packed_60 : decode cX12_packed 60 = .ok (.iaload, 1) := by decide +kernel
theorem dX12_packed_61 : decode cX12_packed 61 = .ok (.istore_n 1, 1) := by decide +kernel
theorem dX12_packed_62 : decode cX12_packed 62 = .ok (.aload_n 0, 1) := by decide +kernel
theorem dX12_packed_63 : decode cX12_packed 63 = .ok (.getfield 98, 3) := by decide +kernel
theorem dX12_packed_66 : decode cX12_packed 66 = .ok (.bipush 36, 2) := by decide +kernel
theorem dX12_packed_68 : decode cX12_packed 68 = .ok (.iload_n 3, 1) := by decide +kernel
theorem dX12_packed_69 : decode cX12_packed 69 = .ok (.iadd, 1) := by decide +kernel
theorem dX12_packed_70 : decode cX12_packed 70 = .ok (.iaload, 1) := by decide +kernel
theorem dX12_packed_71 : decode cX12_packed 71 = .ok (.istore_n 2, 1) := by decide +kernel
theorem dX12_packed_72 : decode cX12_packed 72 = .ok (.iinc 3 1, 3) := by decide +kernel
theorem dX12_packed_75 : decode cX12_packed 75 = .ok (.goto (-59), 3) := by decide +kernel
theorem dX12_packed_78 : decode cX12_packed 78 = .ok (.aload_n 0, 1) := by decide +kernel
theorem dX12_packed_79 : decode cX12_packed 79 = .ok (.getfield 139, 3) := by decide +kernel
theorem dX12_packed_82 : decode cX12_packed 82 = .ok (.aload_n 0, 1) := by decide +kernel
theorem dX12_packed_83 : decode cX12_packed 83 = .ok (.getfield 394, 3) := by decide +kernel
theorem dX12_packed_86 : decode cX12_packed 86 = .ok (.iconst 0, 1) := by decide +kernel
theorem dX12_packed_87 : decode cX12_packed 87 = .ok (.iastore, 1) := by decide +kernel
theorem dX12_packed_88 : decode cX12_packed 88 = .ok (.aload_n 0, 1) := by decide +kernel
theorem dX12_packed_89 : decode cX12_packed 89 = .ok (.dup, 1) := by decide +kernel
theorem dX12_packed_90 : decode cX12_packed 90 = .ok (.getfield 394, 3) := by decide +kernel
theorem dX12_packed_93 : decode cX12_packed 93 = .ok (.iconst 1, 1) := by decide +kernel
theorem dX12_packed_94 : decode cX12_packed 94 = .ok (.iadd, 1) := by decide +kernel
theorem dX12_packed_95 : decode cX12_packed 95 = .ok (.putfield 394, 3) := by decide +kernel
theorem dX12_packed_98 : decode cX12_packed 98 = .ok (.aload_n 0, 1) := by decide +kernel
theorem dX12_packed_99 : decode cX12_packed 99 = .ok (.getfield 394, 3) := by decide +kernel
theorem dX12_packed_102 : decode cX12_packed 102 = .ok (.ireturn, 1) := by decide +kernel
theorem dX12_packedAt_0 : decode cX12_packedAt 0 = .ok (.aload_n 0, 1) := by decide +kernel
theorem dX12_packedAt_1 : decode cX12_packedAt 1 = .ok (.iconst 0, 1) := by decide +kernel
theorem dX12_packedAt_2 : decode cX12_packedAt 2 = .ok (.putfield 1, 3) := by decide +kernel
theorem dX12_packedAt_5 : decode cX12_packedAt 5 = .ok (.iload_n 1, 1) := by decide +kernel
theorem dX12_packedAt_6 : decode cX12_packedAt 6 = .ok (.iconst 0, 1) := by decide +kernel
theorem dX12_packedAt_7 : decode cX12_packedAt 7 = .ok (.aload_n 0, 1) := by decide +kernel
theorem dX12_packedAt_8 : decode cX12_packedAt 8 = .ok (.getfield 394, 3) := by decide +kernel
theorem dX12_packedAt_11 : decode cX12_packedAt 11 = .ok (.iconst 1, 1) := by decide +kernel
theorem dX12_packedAt_12 : decode cX12_packedAt 12 = .ok (.isub, 1) := by decide +kernel
theorem dX12_packedAt_13 : decode cX12_packedAt 13 = .ok (.invokestatic 75, 3) := by decide +kernel
theorem dX12_packedAt_16 : decode cX12_packedAt 16 = .ok (.ifCond .eq 12, 3) := by decide +kernel
theorem dX12_packedAt_19 : decode cX12_packedAt 19 = .ok (.aload_n 0, 1) := by decide +kernel
theorem dX12_packedAt_20 : decode cX12_packedAt 20 = .ok (.getfield 139, 3) := by decide +kernel
theorem dX12_packedAt_23 : decode cX12_packedAt 23 = .ok (.iload_n 1, 1) := by decide +kernel
theorem dX12_packedAt_24 : decode cX12_packedAt 24 = .ok (.iaload, 1) := by decide +kernel
theorem dX12_packedAt_25 : decode cX12_packedAt 25 = .ok (.goto 4, 3) := by decide +kernel
theorem dX12_packedAt_28 : decode cX12_packedAt 28 = .ok (.iconst (-1), 1) := by decide +kernel
theorem dX12_packedAt_29 : decode cX12_packedAt 29 = .ok (.ireturn, 1) := by decide +kernel
theorem dX12_addRow_0 : decode cX12_addRow 0 = .ok (.aload_n 0, 1) := by decide +kernel
theorem dX12_addRow_1 : decode cX12_addRow 1 = .ok (.getfield 401, 3) := by decide +kernel
theorem dX12_addRow_4 : decode cX12_addRow 4 = .ok (.bipush 30, 2) := by decide +kernel
theorem dX12_addRow_6 : decode cX12_addRow 6 = .ok (.if_icmp .eq 42, 3) := by decide +kernel
theorem dX12_addRow_9 : decode cX12_addRow 9 = .ok (.aload_n 0, 1) := by decide +kernel
theorem dX12_addRow_10 : decode cX12_addRow 10 = .ok (.getfield 401, 3) := by decide +kernel
theorem dX12_addRow_13 : decode cX12_addRow 13 = .ok (.ifCond .le 21, 3) := by decide +kernel
theorem dX12_addRow_16 : decode cX12_addRow 16 = .ok (.aload_n 0, 1) := by decide +kernel
theorem dX12_addRow_17 : decode cX12_addRow 17 = .ok (.getfield 404, 3) := by decide +kernel
theorem dX12_addRow_20 : decode cX12_addRow 20 = .ok (.aload_n 0, 1) := by decide +kernel
theorem dX12_addRow_21 : decode cX12_addRow 21 = .ok (.getfield 148, 3) := by decide +kernel
theorem dX12_addRow_24 : decode cX12_addRow 24 = .ok (.aload_n 0, 1) := by decide +kernel
theorem dX12_addRow_25 : decode cX12_addRow 25 = .ok (.getfield 401, 3) := by decide +kernel
theorem dX12_addRow_28 : decode cX12_addRow 28 = .ok (.iconst 1, 1) := by decide +kernel
theorem dX12_addRow_29 : decode cX12_addRow 29 = .ok (.isub, 1) := by decide +kernel
theorem dX12_addRow_30 : decode cX12_addRow 30 = .ok (.iaload, 1) := by decide +kernel
theorem dX12_addRow_31 : decode cX12_addRow 31 = .ok (.if_icmp .le 17, 3) := by decide +kernel
theorem dX12_addRow_34 : decode cX12_addRow 34 = .ok (.aload_n 0, 1) := by decide +kernel
theorem dX12_addRow_35 : decode cX12_addRow 35 = .ok (.getfield 407, 3) := by decide +kernel
theorem dX12_addRow_38 : decode cX12_addRow 38 = .ok (.iconst 1, 1) := by decide +kernel
theorem dX12_addRow_39 : decode cX12_addRow 39 = .ok (.sipush 250, 3) := by decide +kernel
theorem dX12_addRow_42 : decode cX12_addRow 42 = .ok (.invokestatic 75, 3) := by decide +kernel
theorem dX12_addRow_45 : decode cX12_addRow 45 = .ok (.ifCond .ne 5, 3) := by decide +kernel
theorem dX12_addRow_48 : decode cX12_addRow 48 = .ok (.iconst 0, 1) := by decide +kernel
theorem dX12_addRow_49 : decode cX12_addRow 49 = .ok (.ireturn, 1) := by decide +kernel
theorem dX12_addRow_50 : decode cX12_addRow 50 = .ok (.aload_n 0, 1) := by decide +kernel
theorem dX12_addRow_51 : decode cX12_addRow 51 = .ok (.getfield 148, 3) := by decide +kernel
theorem dX12_addRow_54 : decode cX12_addRow 54 = .ok (.aload_n 0, 1) := by decide +kernel
theorem dX12_addRow_55 : decode cX12_addRow 55 = .ok (.getfield 401, 3) := by decide +kernel
theorem dX12_addRow_58 : decode cX12_addRow 58 = .ok (.aload_n 0, 1) := by decide +kernel
theorem dX12_addRow_59 : decode cX12_addRow 59 = .ok (.getfield 404, 3) := by decide +kernel
theorem dX12_addRow_62 : decode cX12_addRow 62 = .ok (.iastore, 1) := by decide +kernel
theorem dX12_addRow_63 : decode cX12_addRow 63 = .ok (.aload_n 0, 1) := by decide +kernel
theorem dX12_addRow_64 : decode cX12_addRow 64 = .ok (.getfield 151, 3) := by decide +kernel
theorem dX12_addRow_67 : decode cX12_addRow 67 = .ok (.aload_n 0, 1) := by decide +kernel
theorem dX12_addRow_68 : decode cX12_addRow 68 = .ok (.getfield 401, 3) := by decide +kernel
theorem dX12_addRow_71 : decode cX12_addRow 71 = .ok (.aload_n 0, 1) := by decide +kernel
theorem dX12_addRow_72 : decode cX12_addRow 72 = .ok (.getfield 407, 3) := by decide +kernel
theorem dX12_addRow_75 : decode cX12_addRow 75 = .ok (.iastore, 1) := by decide +kernel
theorem dX12_addRow_76 : decode cX12_addRow 76 = .ok (.aload_n 0, 1) := by decide +kernel
theorem dX12_addRow_77 : decode cX12_addRow 77 = .ok (.dup, 1) := by decide +kernel
theorem dX12_addRow_78 : decode cX12_addRow 78 = .ok (.getfield 401, 3) := by decide +kernel
theorem dX12_addRow_81 : decode cX12_addRow 81 = .ok (.iconst 1, 1) := by decide +kernel
theorem dX12_addRow_82 : decode cX12_addRow 82 = .ok (.iadd, 1) := by decide +kernel
theorem dX12_addRow_83 : decode cX12_addRow 83 = .ok (.putfield 401, 3) := by decide +kernel
theorem dX12_addRow_86 : decode cX12_addRow 86 = .ok (.iconst 1, 1) := by decide +kernel
theorem dX12_addRow_87 : decode cX12_addRow 87 = .ok (.ireturn, 1) := by decide +kernel
theorem dX12_goesOn_0 : decode cX12_goesOn 0 = .ok (.aload_n 0, 1) := by decide +kernel
theorem dX12_goesOn_1 : decode cX12_goesOn 1 = .ok (.dup, 1) := by decide +kernel
theorem dX12_goesOn_2 : decode cX12_goesOn 2 = .ok (.getfield 404, 3) := by decide +kernel
theorem dX12_goesOn_5 : decode cX12_goesOn 5 = .ok (.iload_n 1, 1) := by decide +kernel
theorem dX12_goesOn_6 : decode cX12_goesOn 6 = .ok (.iadd, 1) := by decide +kernel
theorem dX12_goesOn_7 : decode cX12_goesOn 7 = .ok (.putfield 404, 3) := by decide +kernel
theorem dX12_goesOn_10 : decode cX12_goesOn 10 = .ok (.aload_n 0, 1) := by decide +kernel
theorem dX12_goesOn_11 : decode cX12_goesOn 11 = .ok (.getfield 404, 3) := by decide +kernel
theorem dX12_goesOn_14 : decode cX12_goesOn 14 = .ok (.sipush 256, 3) := by decide +kernel
theorem dX12_goesOn_17 : decode cX12_goesOn 17 = .ok (.if_icmp .ge 7, 3) := by decide +kernel
theorem dX12_goesOn_20 : decode cX12_goesOn 20 = .ok (.iconst 1, 1) := by decide +kernel
theorem dX12_goesOn_21 : decode cX12_goesOn 21 = .ok (.goto 4, 3) := by decide +kernel
theorem dX12_goesOn_24 : decode cX12_goesOn 24 = .ok (.iconst 0, 1) := by decide +kernel
theorem dX12_goesOn_25 : decode cX12_goesOn 25 = .ok (.ireturn, 1) := by decide +kernel
theorem dX12_unpackOp_0 : decode cX12_unpackOp 0 = .ok (.aload_n 0, 1) := by decide +kernel
theorem dX12_unpackOp_1 : decode cX12_unpackOp 1 = .ok (.getfield 7, 3) := by decide +kernel
theorem dX12_unpackOp_4 : decode cX12_unpackOp 4 = .ok (.iload_n 1, 1) := by decide +kernel
theorem dX12_unpackOp_5 : decode cX12_unpackOp 5 = .ok (.iaload, 1) := by decide +kernel
theorem dX12_unpackOp_6 : decode cX12_unpackOp 6 = .ok (.istore_n 3, 1) := by decide +kernel
theorem dX12_unpackOp_7 : decode cX12_unpackOp 7 = .ok (.iload_n 3, 1) := by decide +kernel
theorem dX12_unpackOp_8 : decode cX12_unpackOp 8 = .ok (.tableswitch 150 1 4 #[32, 45, 73, 135], 32) := by decide +kernel
theorem dX12_unpackOp_40 : decode cX12_unpackOp 40 = .ok (.aload_n 0, 1) := by decide +kernel
theorem dX12_unpackOp_41 : decode cX12_unpackOp 41 = .ok (.invokevirtual 410, 3) := by decide +kernel
theorem dX12_unpackOp_44 : decode cX12_unpackOp 44 = .ok (.ifCond .eq 7, 3) := by decide +kernel
theorem dX12_unpackOp_47 : decode cX12_unpackOp 47 = .ok (.iconst 1, 1) := by decide +kernel
theorem dX12_unpackOp_48 : decode cX12_unpackOp 48 = .ok (.goto 4, 3) := by decide +kernel
theorem dX12_unpackOp_51 : decode cX12_unpackOp 51 = .ok (.iconst 0, 1) := by decide +kernel
theorem dX12_unpackOp_52 : decode cX12_unpackOp 52 = .ok (.ireturn, 1) := by decide +kernel
theorem dX12_unpackOp_53 : decode cX12_unpackOp 53 = .ok (.iload_n 1, 1) := by decide +kernel
theorem dX12_unpackOp_54 : decode cX12_unpackOp 54 = .ok (.iconst 1, 1) := by decide +kernel
theorem dX12_unpackOp_55 : decode cX12_unpackOp 55 = .ok (.iadd, 1) := by decide +kernel
theorem dX12_unpackOp_56 : decode cX12_unpackOp 56 = .ok (.iload_n 2, 1) := by decide +kernel
theorem dX12_unpackOp_57 : decode cX12_unpackOp 57 = .ok (.if_icmp .ge 22, 3) := by decide +kernel
theorem dX12_unpackOp_60 : decode cX12_unpackOp 60 = .ok (.aload_n 0, 1) := by decide +kernel
theorem dX12_unpackOp_61 : decode cX12_unpackOp 61 = .ok (.aload_n 0, 1) := by decide +kernel
theorem dX12_unpackOp_62 : decode cX12_unpackOp 62 = .ok (.getfield 7, 3) := by decide +kernel
theorem dX12_unpackOp_65 : decode cX12_unpackOp 65 = .ok (.iload_n 1, 1) := by decide +kernel
theorem dX12_unpackOp_66 : decode cX12_unpackOp 66 = .ok (.iconst 1, 1) := by decide +kernel
theorem dX12_unpackOp_67 : decode cX12_unpackOp 67 = .ok (.iadd, 1) := by decide +kernel
theorem dX12_unpackOp_68 : decode cX12_unpackOp 68 = .ok (.iaload, 1) := by decide +kernel
theorem dX12_unpackOp_69 : decode cX12_unpackOp 69 = .ok (.invokevirtual 413, 3) := by decide +kernel
theorem dX12_unpackOp_72 : decode cX12_unpackOp 72 = .ok (.ifCond .eq 7, 3) := by decide +kernel
theorem dX12_unpackOp_75 : decode cX12_unpackOp 75 = .ok (.iconst 2, 1) := by decide +kernel
theorem dX12_unpackOp_76 : decode cX12_unpackOp 76 = .ok (.goto 4, 3) := by decide +kernel
theorem dX12_unpackOp_79 : decode cX12_unpackOp 79 = .ok (.iconst 0, 1) := by decide +kernel
theorem dX12_unpackOp_80 : decode cX12_unpackOp 80 = .ok (.ireturn, 1) := by decide +kernel
theorem dX12_unpackOp_81 : decode cX12_unpackOp 81 = .ok (.iload_n 1, 1) := by decide +kernel
theorem dX12_unpackOp_82 : decode cX12_unpackOp 82 = .ok (.iconst 2, 1) := by decide +kernel
theorem dX12_unpackOp_83 : decode cX12_unpackOp 83 = .ok (.iadd, 1) := by decide +kernel
theorem dX12_unpackOp_84 : decode cX12_unpackOp 84 = .ok (.iload_n 2, 1) := by decide +kernel
theorem dX12_unpackOp_85 : decode cX12_unpackOp 85 = .ok (.if_icmp .lt 5, 3) := by decide +kernel
theorem dX12_unpackOp_88 : decode cX12_unpackOp 88 = .ok (.iconst 0, 1) := by decide +kernel
theorem dX12_unpackOp_89 : decode cX12_unpackOp 89 = .ok (.ireturn, 1) := by decide +kernel
theorem dX12_unpackOp_90 : decode cX12_unpackOp 90 = .ok (.sipush 256, 3) := by decide +kernel
theorem dX12_unpackOp_93 : decode cX12_unpackOp 93 = .ok (.aload_n 0, 1) := by decide +kernel
theorem dX12_unpackOp_94 : decode cX12_unpackOp 94 = .ok (.getfield 7, 3) := by decide +kernel
theorem dX12_unpackOp_97 : decode cX12_unpackOp 97 = .ok (.iload_n 1, 1) := by decide +kernel
theorem dX12_unpackOp_98 : decode cX12_unpackOp 98 = .ok (.iconst 1, 1) := by decide +kernel
theorem dX12_unpackOp_99 : decode cX12_unpackOp 99 = .ok (.iadd, 1) := by decide +kernel
theorem dX12_unpackOp_100 : decode cX12_unpackOp 100 = .ok (.iaload, 1) := by decide +kernel
theorem dX12_unpackOp_101 : decode cX12_unpackOp 101 = .ok (.imul, 1) := by decide +kernel
theorem dX12_unpackOp_102 : decode cX12_unpackOp 102 = .ok (.aload_n 0, 1) := by decide +kernel
theorem dX12_unpackOp_103 : decode cX12_unpackOp 103 = .ok (.getfield 7, 3) := by decide +kernel
theorem dX12_unpackOp_106 : decode cX12_unpackOp 106 = .ok (.iload_n 1, 1) := by decide +kernel
theorem dX12_unpackOp_107 : decode cX12_unpackOp 107 = .ok (.iconst 2, 1) := by decide +kernel
theorem dX12_unpackOp_108 : decode cX12_unpackOp 108 = .ok (.iadd, 1) := by decide +kernel
theorem dX12_unpackOp_109 : decode cX12_unpackOp 109 = .ok (.iaload, 1) := by decide +kernel
theorem dX12_unpackOp_110 : decode cX12_unpackOp 110 = .ok (.iadd, 1) := by decide +kernel
theorem dX12_unpackOp_111 : decode cX12_unpackOp 111 = .ok (.istore 4, 2) := by decide +kernel
theorem dX12_unpackOp_113 : decode cX12_unpackOp 113 = .ok (.aload_n 0, 1) := by decide +kernel
theorem dX12_unpackOp_114 : decode cX12_unpackOp 114 = .ok (.dup, 1) := by decide +kernel
theorem dX12_unpackOp_115 : decode cX12_unpackOp 115 = .ok (.getfield 407, 3) := by decide +kernel
theorem dX12_unpackOp_118 : decode cX12_unpackOp 118 = .ok (.iload 4, 2) := by decide +kernel
theorem dX12_unpackOp_120 : decode cX12_unpackOp 120 = .ok (.ldc_w 416, 3) := by decide +kernel
theorem dX12_unpackOp_123 : decode cX12_unpackOp 123 = .ok (.if_icmp .ge 8, 3) := by decide +kernel
theorem dX12_unpackOp_126 : decode cX12_unpackOp 126 = .ok (.iload 4, 2) := by decide +kernel
theorem dX12_unpackOp_128 : decode cX12_unpackOp 128 = .ok (.goto 9, 3) := by decide +kernel
theorem dX12_unpackOp_131 : decode cX12_unpackOp 131 = .ok (.iload 4, 2) := by decide +kernel
theorem dX12_unpackOp_133 : decode cX12_unpackOp 133 = .ok (.ldc_w 417, 3) := by decide +kernel
theorem dX12_unpackOp_136 : decode cX12_unpackOp 136 = .ok (.isub, 1) := by decide +kernel
theorem dX12_unpackOp_137 : decode cX12_unpackOp 137 = .ok (.iadd, 1) := by decide +kernel
theorem dX12_unpackOp_138 : decode cX12_unpackOp 138 = .ok (.putfield 407, 3) := by decide +kernel
theorem dX12_unpackOp_141 : decode cX12_unpackOp 141 = .ok (.iconst 3, 1) := by decide +kernel
theorem dX12_unpackOp_142 : decode cX12_unpackOp 142 = .ok (.ireturn, 1) := by decide +kernel
theorem dX12_unpackOp_143 : decode cX12_unpackOp 143 = .ok (.aload_n 0, 1) := by decide +kernel
theorem dX12_unpackOp_144 : decode cX12_unpackOp 144 = .ok (.bipush 17, 2) := by decide +kernel
theorem dX12_unpackOp_146 : decode cX12_unpackOp 146 = .ok (.invokevirtual 413, 3) := by decide +kernel
theorem dX12_unpackOp_149 : decode cX12_unpackOp 149 = .ok (.ifCond .eq 7, 3) := by decide +kernel
theorem dX12_unpackOp_152 : decode cX12_unpackOp 152 = .ok (.iconst 1, 1) := by decide +kernel
theorem dX12_unpackOp_153 : decode cX12_unpackOp 153 = .ok (.goto 4, 3) := by decide +kernel
theorem dX12_unpackOp_156 : decode cX12_unpackOp 156 = .ok (.iconst 0, 1) := by decide +kernel
theorem dX12_unpackOp_157 : decode cX12_unpackOp 157 = .ok (.ireturn, 1) := by decide +kernel
theorem dX12_unpackOp_158 : decode cX12_unpackOp 158 = .ok (.iload_n 3, 1) := by decide +kernel
theorem dX12_unpackOp_159 : decode cX12_unpackOp 159 = .ok (.bipush 10, 2) := by decide +kernel
theorem dX12_unpackOp_161 : decode cX12_unpackOp 161 = .ok (.if_icmp .lt 17, 3) := by decide +kernel
theorem dX12_unpackOp_164 : decode cX12_unpackOp 164 = .ok (.aload_n 0, 1) := by decide +kernel
theorem dX12_unpackOp_165 : decode cX12_unpackOp 165 = .ok (.iload_n 3, 1) := by decide +kernel
theorem dX12_unpackOp_166 : decode cX12_unpackOp 166 = .ok (.bipush 10, 2) := by decide +kernel
theorem dX12_unpackOp_168 : decode cX12_unpackOp 168 = .ok (.isub, 1) := by decide +kernel
theorem dX12_unpackOp_169 : decode cX12_unpackOp 169 = .ok (.bipush 12, 2) := by decide +kernel
theorem dX12_unpackOp_171 : decode cX12_unpackOp 171 = .ok (.idiv, 1) := by decide +kernel
theorem dX12_unpackOp_172 : decode cX12_unpackOp 172 = .ok (.invokevirtual 413, 3) := by decide +kernel
theorem dX12_unpackOp_175 : decode cX12_unpackOp 175 = .ok (.ifCond .ne 5, 3) := by decide +kernel
theorem dX12_unpackOp_178 : decode cX12_unpackOp 178 = .ok (.iconst 0, 1) := by decide +kernel
theorem dX12_unpackOp_179 : decode cX12_unpackOp 179 = .ok (.ireturn, 1) := by decide +kernel
theorem dX12_unpackOp_180 : decode cX12_unpackOp 180 = .ok (.aload_n 0, 1) := by decide +kernel
theorem dX12_unpackOp_181 : decode cX12_unpackOp 181 = .ok (.dup, 1) := by decide +kernel
theorem dX12_unpackOp_182 : decode cX12_unpackOp 182 = .ok (.getfield 407, 3) := by decide +kernel
theorem dX12_unpackOp_185 : decode cX12_unpackOp 185 = .ok (.iload_n 3, 1) := by decide +kernel
theorem dX12_unpackOp_186 : decode cX12_unpackOp 186 = .ok (.bipush 10, 2) := by decide +kernel
theorem dX12_unpackOp_188 : decode cX12_unpackOp 188 = .ok (.isub, 1) := by decide +kernel
theorem dX12_unpackOp_189 : decode cX12_unpackOp 189 = .ok (.bipush 12, 2) := by decide +kernel
theorem dX12_unpackOp_191 : decode cX12_unpackOp 191 = .ok (.irem, 1) := by decide +kernel
theorem dX12_unpackOp_192 : decode cX12_unpackOp 192 = .ok (.iconst 4, 1) := by decide +kernel
theorem dX12_unpackOp_193 : decode cX12_unpackOp 193 = .ok (.isub, 1) := by decide +kernel
theorem dX12_unpackOp_194 : decode cX12_unpackOp 194 = .ok (.iadd, 1) := by decide +kernel
theorem dX12_unpackOp_195 : decode cX12_unpackOp 195 = .ok (.putfield 407, 3) := by decide +kernel
theorem dX12_unpackOp_198 : decode cX12_unpackOp 198 = .ok (.aload_n 0, 1) := by decide +kernel
theorem dX12_unpackOp_199 : decode cX12_unpackOp 199 = .ok (.invokevirtual 410, 3) := by decide +kernel
theorem dX12_unpackOp_202 : decode cX12_unpackOp 202 = .ok (.ifCond .eq 7, 3) := by decide +kernel
theorem dX12_unpackOp_205 : decode cX12_unpackOp 205 = .ok (.iconst 1, 1) := by decide +kernel
theorem dX12_unpackOp_206 : decode cX12_unpackOp 206 = .ok (.goto 4, 3) := by decide +kernel
theorem dX12_unpackOp_209 : decode cX12_unpackOp 209 = .ok (.iconst 0, 1) := by decide +kernel
theorem dX12_unpackOp_210 : decode cX12_unpackOp 210 = .ok (.ireturn, 1) := by decide +kernel
theorem dX12_unpacked_0 : decode cX12_unpacked 0 = .ok (.aload_n 0, 1) := by decide +kernel
theorem dX12_unpacked_1 : decode cX12_unpacked 1 = .ok (.iconst 0, 1) := by decide +kernel
theorem dX12_unpacked_2 : decode cX12_unpacked 2 = .ok (.putfield 1, 3) := by decide +kernel
theorem dX12_unpacked_5 : decode cX12_unpacked 5 = .ok (.aload_n 0, 1) := by decide +kernel
theorem dX12_unpacked_6 : decode cX12_unpacked 6 = .ok (.invokevirtual 89, 3) := by decide +kernel
theorem dX12_unpacked_9 : decode cX12_unpacked 9 = .ok (.istore_n 1, 1) := by decide +kernel
theorem dX12_unpacked_10 : decode cX12_unpacked 10 = .ok (.aload_n 0, 1) := by decide +kernel
theorem dX12_unpacked_11 : decode cX12_unpacked 11 = .ok (.iconst 0, 1) := by decide +kernel
theorem dX12_unpacked_12 : decode cX12_unpacked 12 = .ok (.putfield 401, 3) := by decide +kernel
theorem dX12_unpacked_15 : decode cX12_unpacked 15 = .ok (.aload_n 0, 1) := by decide +kernel
theorem dX12_unpacked_16 : decode cX12_unpacked 16 = .ok (.iconst 0, 1) := by decide +kernel
theorem dX12_unpacked_17 : decode cX12_unpacked 17 = .ok (.putfield 404, 3) := by decide +kernel
theorem dX12_unpacked_20 : decode cX12_unpacked 20 = .ok (.aload_n 0, 1) := by decide +kernel
theorem dX12_unpacked_21 : decode cX12_unpacked 21 = .ok (.iconst 1, 1) := by decide +kernel
theorem dX12_unpacked_22 : decode cX12_unpacked 22 = .ok (.putfield 407, 3) := by decide +kernel
theorem dX12_unpacked_25 : decode cX12_unpacked 25 = .ok (.iconst 0, 1) := by decide +kernel
theorem dX12_unpacked_26 : decode cX12_unpacked 26 = .ok (.istore_n 2, 1) := by decide +kernel
theorem dX12_unpacked_27 : decode cX12_unpacked 27 = .ok (.iload_n 2, 1) := by decide +kernel
theorem dX12_unpacked_28 : decode cX12_unpacked 28 = .ok (.iload_n 1, 1) := by decide +kernel
theorem dX12_unpacked_29 : decode cX12_unpacked 29 = .ok (.if_icmp .ge 34, 3) := by decide +kernel
theorem dX12_unpacked_32 : decode cX12_unpacked 32 = .ok (.aload_n 0, 1) := by decide +kernel
theorem dX12_unpacked_33 : decode cX12_unpacked 33 = .ok (.getfield 7, 3) := by decide +kernel
theorem dX12_unpacked_36 : decode cX12_unpacked 36 = .ok (.iload_n 2, 1) := by decide +kernel
theorem dX12_unpacked_37 : decode cX12_unpacked 37 = .ok (.iaload, 1) := by decide +kernel
theorem dX12_unpacked_38 : decode cX12_unpacked 38 = .ok (.ifCond .eq 25, 3) := by decide +kernel
theorem dX12_unpacked_41 : decode cX12_unpacked 41 = .ok (.aload_n 0, 1) := by decide +kernel
theorem dX12_unpacked_42 : decode cX12_unpacked 42 = .ok (.iload_n 2, 1) := by decide +kernel
theorem dX12_unpacked_43 : decode cX12_unpacked 43 = .ok (.iload_n 1, 1) := by decide +kernel
theorem dX12_unpacked_44 : decode cX12_unpacked 44 = .ok (.invokevirtual 418, 3) := by decide +kernel
theorem dX12_unpacked_47 : decode cX12_unpacked 47 = .ok (.istore_n 3, 1) := by decide +kernel
theorem dX12_unpacked_48 : decode cX12_unpacked 48 = .ok (.iload_n 3, 1) := by decide +kernel
theorem dX12_unpacked_49 : decode cX12_unpacked 49 = .ok (.ifCond .ne 7, 3) := by decide +kernel
theorem dX12_unpacked_52 : decode cX12_unpacked 52 = .ok (.iconst (-1), 1) := by decide +kernel
theorem dX12_unpacked_53 : decode cX12_unpacked 53 = .ok (.iload_n 2, 1) := by decide +kernel
theorem dX12_unpacked_54 : decode cX12_unpacked 54 = .ok (.isub, 1) := by decide +kernel
theorem dX12_unpacked_55 : decode cX12_unpacked 55 = .ok (.ireturn, 1) := by decide +kernel
theorem dX12_unpacked_56 : decode cX12_unpacked 56 = .ok (.iload_n 2, 1) := by decide +kernel
theorem dX12_unpacked_57 : decode cX12_unpacked 57 = .ok (.iload_n 3, 1) := by decide +kernel
theorem dX12_unpacked_58 : decode cX12_unpacked 58 = .ok (.iadd, 1) := by decide +kernel
theorem dX12_unpacked_59 : decode cX12_unpacked 59 = .ok (.istore_n 2, 1) := by decide +kernel
theorem dX12_unpacked_60 : decode cX12_unpacked 60 = .ok (.goto (-33), 3) := by decide +kernel
theorem dX12_unpacked_63 : decode cX12_unpacked 63 = .ok (.iload_n 2, 1) := by decide +kernel
theorem dX12_unpacked_64 : decode cX12_unpacked 64 = .ok (.iload_n 1, 1) := by decide +kernel
theorem dX12_unpacked_65 : decode cX12_unpacked 65 = .ok (.if_icmp .lt 7, 3) := by decide +kernel
theorem dX12_unpacked_68 : decode cX12_unpacked 68 = .ok (.iconst (-1), 1) := by decide +kernel
theorem dX12_unpacked_69 : decode cX12_unpacked 69 = .ok (.iload_n 1, 1) := by decide +kernel
theorem dX12_unpacked_70 : decode cX12_unpacked 70 = .ok (.isub, 1) := by decide +kernel
theorem dX12_unpacked_71 : decode cX12_unpacked 71 = .ok (.ireturn, 1) := by decide +kernel
theorem dX12_unpacked_72 : decode cX12_unpacked 72 = .ok (.iload_n 2, 1) := by decide +kernel
theorem dX12_unpacked_73 : decode cX12_unpacked 73 = .ok (.iconst 1, 1) := by decide +kernel
theorem dX12_unpacked_74 : decode cX12_unpacked 74 = .ok (.iadd, 1) := by decide +kernel
theorem dX12_unpacked_75 : decode cX12_unpacked 75 = .ok (.iload_n 1, 1) := by decide +kernel
theorem dX12_unpacked_76 : decode cX12_unpacked 76 = .ok (.if_icmp .ge 9, 3) := by decide +kernel
theorem dX12_unpacked_79 : decode cX12_unpacked 79 = .ok (.iconst (-1), 1) := by decide +kernel
theorem dX12_unpacked_80 : decode cX12_unpacked 80 = .ok (.iload_n 2, 1) := by decide +kernel
theorem dX12_unpacked_81 : decode cX12_unpacked 81 = .ok (.iconst 1, 1) := by decide +kernel
theorem dX12_unpacked_82 : decode cX12_unpacked 82 = .ok (.iadd, 1) := by decide +kernel
theorem dX12_unpacked_83 : decode cX12_unpacked 83 = .ok (.isub, 1) := by decide +kernel
theorem dX12_unpacked_84 : decode cX12_unpacked 84 = .ok (.ireturn, 1) := by decide +kernel
theorem dX12_unpacked_85 : decode cX12_unpacked 85 = .ok (.aload_n 0, 1) := by decide +kernel
theorem dX12_unpacked_86 : decode cX12_unpacked 86 = .ok (.aload_n 0, 1) := by decide +kernel
theorem dX12_unpacked_87 : decode cX12_unpacked 87 = .ok (.getfield 401, 3) := by decide +kernel
theorem dX12_unpacked_90 : decode cX12_unpacked 90 = .ok (.putfield 421, 3) := by decide +kernel
theorem dX12_unpacked_93 : decode cX12_unpacked 93 = .ok (.iconst 0, 1) := by decide +kernel
theorem dX12_unpacked_94 : decode cX12_unpacked 94 = .ok (.istore_n 3, 1) := by decide +kernel
theorem dX12_unpacked_95 : decode cX12_unpacked 95 = .ok (.iload_n 3, 1) := by decide +kernel
theorem dX12_unpacked_96 : decode cX12_unpacked 96 = .ok (.aload_n 0, 1) := by decide +kernel
theorem dX12_unpacked_97 : decode cX12_unpacked 97 = .ok (.getfield 401, 3) := by decide +kernel
theorem dX12_unpacked_100 : decode cX12_unpacked 100 = .ok (.if_icmp .ge 33, 3) := by decide +kernel
theorem dX12_unpacked_103 : decode cX12_unpacked 103 = .ok (.aload_n 0, 1) := by decide +kernel
theorem dX12_unpacked_104 : decode cX12_unpacked 104 = .ok (.getfield 154, 3) := by decide +kernel
theorem dX12_unpacked_107 : decode cX12_unpacked 107 = .ok (.iload_n 3, 1) := by decide +kernel
theorem dX12_unpacked_108 : decode cX12_unpacked 108 = .ok (.aload_n 0, 1) := by decide +kernel
theorem dX12_unpacked_109 : decode cX12_unpacked 109 = .ok (.getfield 148, 3) := by decide +kernel
theorem dX12_unpacked_112 : decode cX12_unpacked 112 = .ok (.iload_n 3, 1) := by decide +kernel
theorem dX12_unpacked_113 : decode cX12_unpacked 113 = .ok (.iaload, 1) := by decide +kernel
theorem dX12_unpacked_114 : decode cX12_unpacked 114 = .ok (.iastore, 1) := by decide +kernel
theorem dX12_unpacked_115 : decode cX12_unpacked 115 = .ok (.aload_n 0, 1) := by decide +kernel
theorem dX12_unpacked_116 : decode cX12_unpacked 116 = .ok (.getfield 157, 3) := by decide +kernel
theorem dX12_unpacked_119 : decode cX12_unpacked 119 = .ok (.iload_n 3, 1) := by decide +kernel
theorem dX12_unpacked_120 : decode cX12_unpacked 120 = .ok (.aload_n 0, 1) := by decide +kernel
theorem dX12_unpacked_121 : decode cX12_unpacked 121 = .ok (.getfield 151, 3) := by decide +kernel
theorem dX12_unpacked_124 : decode cX12_unpacked 124 = .ok (.iload_n 3, 1) := by decide +kernel
theorem dX12_unpacked_125 : decode cX12_unpacked 125 = .ok (.iaload, 1) := by decide +kernel
theorem dX12_unpacked_126 : decode cX12_unpacked 126 = .ok (.iastore, 1) := by decide +kernel
theorem dX12_unpacked_127 : decode cX12_unpacked 127 = .ok (.iinc 3 1, 3) := by decide +kernel
theorem dX12_unpacked_130 : decode cX12_unpacked 130 = .ok (.goto (-35), 3) := by decide +kernel
theorem dX12_unpacked_133 : decode cX12_unpacked 133 = .ok (.aload_n 0, 1) := by decide +kernel
theorem dX12_unpacked_134 : decode cX12_unpacked 134 = .ok (.getfield 401, 3) := by decide +kernel
theorem dX12_unpacked_137 : decode cX12_unpacked 137 = .ok (.ireturn, 1) := by decide +kernel
theorem dX12_unpackedAt_0 : decode cX12_unpackedAt 0 = .ok (.aload_n 0, 1) := by decide +kernel
theorem dX12_unpackedAt_1 : decode cX12_unpackedAt 1 = .ok (.iconst 0, 1) := by decide +kernel
theorem dX12_unpackedAt_2 : decode cX12_unpackedAt 2 = .ok (.putfield 1, 3) := by decide +kernel
theorem dX12_unpackedAt_5 : decode cX12_unpackedAt 5 = .ok (.iload_n 1, 1) := by decide +kernel
theorem dX12_unpackedAt_6 : decode cX12_unpackedAt 6 = .ok (.iconst 0, 1) := by decide +kernel
theorem dX12_unpackedAt_7 : decode cX12_unpackedAt 7 = .ok (.aload_n 0, 1) := by decide +kernel
theorem dX12_unpackedAt_8 : decode cX12_unpackedAt 8 = .ok (.getfield 421, 3) := by decide +kernel
theorem dX12_unpackedAt_11 : decode cX12_unpackedAt 11 = .ok (.iconst 1, 1) := by decide +kernel
theorem dX12_unpackedAt_12 : decode cX12_unpackedAt 12 = .ok (.isub, 1) := by decide +kernel
theorem dX12_unpackedAt_13 : decode cX12_unpackedAt 13 = .ok (.invokestatic 75, 3) := by decide +kernel
theorem dX12_unpackedAt_16 : decode cX12_unpackedAt 16 = .ok (.ifCond .eq 34, 3) := by decide +kernel
theorem dX12_unpackedAt_19 : decode cX12_unpackedAt 19 = .ok (.iload_n 2, 1) := by decide +kernel
theorem dX12_unpackedAt_20 : decode cX12_unpackedAt 20 = .ok (.iconst 0, 1) := by decide +kernel
theorem dX12_unpackedAt_21 : decode cX12_unpackedAt 21 = .ok (.iconst 1, 1) := by decide +kernel
theorem dX12_unpackedAt_22 : decode cX12_unpackedAt 22 = .ok (.invokestatic 75, 3) := by decide +kernel
theorem dX12_unpackedAt_25 : decode cX12_unpackedAt 25 = .ok (.ifCond .eq 25, 3) := by decide +kernel
theorem dX12_unpackedAt_28 : decode cX12_unpackedAt 28 = .ok (.iload_n 2, 1) := by decide +kernel
theorem dX12_unpackedAt_29 : decode cX12_unpackedAt 29 = .ok (.ifCond .ne 12, 3) := by decide +kernel
theorem dX12_unpackedAt_32 : decode cX12_unpackedAt 32 = .ok (.aload_n 0, 1) := by decide +kernel
theorem dX12_unpackedAt_33 : decode cX12_unpackedAt 33 = .ok (.getfield 154, 3) := by decide +kernel
theorem dX12_unpackedAt_36 : decode cX12_unpackedAt 36 = .ok (.iload_n 1, 1) := by decide +kernel
theorem dX12_unpackedAt_37 : decode cX12_unpackedAt 37 = .ok (.iaload, 1) := by decide +kernel
theorem dX12_unpackedAt_38 : decode cX12_unpackedAt 38 = .ok (.goto 13, 3) := by decide +kernel
theorem dX12_unpackedAt_41 : decode cX12_unpackedAt 41 = .ok (.aload_n 0, 1) := by decide +kernel
theorem dX12_unpackedAt_42 : decode cX12_unpackedAt 42 = .ok (.getfield 157, 3) := by decide +kernel
theorem dX12_unpackedAt_45 : decode cX12_unpackedAt 45 = .ok (.iload_n 1, 1) := by decide +kernel
theorem dX12_unpackedAt_46 : decode cX12_unpackedAt 46 = .ok (.iaload, 1) := by decide +kernel
theorem dX12_unpackedAt_47 : decode cX12_unpackedAt 47 = .ok (.goto 4, 3) := by decide +kernel
theorem dX12_unpackedAt_50 : decode cX12_unpackedAt 50 = .ok (.iconst (-1), 1) := by decide +kernel
theorem dX12_unpackedAt_51 : decode cX12_unpackedAt 51 = .ok (.ireturn, 1) := by decide +kernel
theorem dX12_write_0 : decode cX12_write 0 = .ok (.aload_n 0, 1) := by decide +kernel
theorem dX12_write_1 : decode cX12_write 1 = .ok (.getfield 160, 3) := by decide +kernel
theorem dX12_write_4 : decode cX12_write 4 = .ok (.aload_n 0, 1) := by decide +kernel
theorem dX12_write_5 : decode cX12_write 5 = .ok (.getfield 424, 3) := by decide +kernel
theorem dX12_write_8 : decode cX12_write 8 = .ok (.iload_n 1, 1) := by decide +kernel
theorem dX12_write_9 : decode cX12_write 9 = .ok (.iastore, 1) := by decide +kernel
theorem dX12_write_10 : decode cX12_write 10 = .ok (.aload_n 0, 1) := by decide +kernel
theorem dX12_write_11 : decode cX12_write 11 = .ok (.dup, 1) := by decide +kernel
theorem dX12_write_12 : decode cX12_write 12 = .ok (.getfield 424, 3) := by decide +kernel
theorem dX12_write_15 : decode cX12_write 15 = .ok (.iconst 1, 1) := by decide +kernel
theorem dX12_write_16 : decode cX12_write 16 = .ok (.iadd, 1) := by decide +kernel
theorem dX12_write_17 : decode cX12_write 17 = .ok (.putfield 424, 3) := by decide +kernel
theorem dX12_write_20 : decode cX12_write 20 = .ok (.return_, 1) := by decide +kernel
theorem dX12_writeWord_0 : decode cX12_writeWord 0 = .ok (.lload_n 1, 1) := by decide +kernel
theorem dX12_writeWord_1 : decode cX12_writeWord 1 = .ok (.ldc2_w 54, 3) := by decide +kernel
theorem dX12_writeWord_4 : decode cX12_writeWord 4 = .ok (.lcmp, 1) := by decide +kernel
theorem dX12_writeWord_5 : decode cX12_writeWord 5 = .ok (.ifCond .lt 12, 3) := by decide +kernel
theorem dX12_writeWord_8 : decode cX12_writeWord 8 = .ok (.aload_n 0, 1) := by decide +kernel
theorem dX12_writeWord_9 : decode cX12_writeWord 9 = .ok (.lload_n 1, 1) := by decide +kernel
theorem dX12_writeWord_10 : decode cX12_writeWord 10 = .ok (.ldc2_w 54, 3) := by decide +kernel
theorem dX12_writeWord_13 : decode cX12_writeWord 13 = .ok (.ldiv, 1) := by decide +kernel
theorem dX12_writeWord_14 : decode cX12_writeWord 14 = .ok (.invokevirtual 427, 3) := by decide +kernel
theorem dX12_writeWord_17 : decode cX12_writeWord 17 = .ok (.aload_n 0, 1) := by decide +kernel
theorem dX12_writeWord_18 : decode cX12_writeWord 18 = .ok (.bipush 96, 2) := by decide +kernel
theorem dX12_writeWord_20 : decode cX12_writeWord 20 = .ok (.lload_n 1, 1) := by decide +kernel
theorem dX12_writeWord_21 : decode cX12_writeWord 21 = .ok (.ldc2_w 54, 3) := by decide +kernel
theorem dX12_writeWord_24 : decode cX12_writeWord 24 = .ok (.lrem, 1) := by decide +kernel
theorem dX12_writeWord_25 : decode cX12_writeWord 25 = .ok (.l2i, 1) := by decide +kernel
theorem dX12_writeWord_26 : decode cX12_writeWord 26 = .ok (.iadd, 1) := by decide +kernel
theorem dX12_writeWord_27 : decode cX12_writeWord 27 = .ok (.invokevirtual 431, 3) := by decide +kernel
theorem dX12_writeWord_30 : decode cX12_writeWord 30 = .ok (.return_, 1) := by decide +kernel
theorem dX12_writeNext_0 : decode cX12_writeNext 0 = .ok (.aload_n 0, 1) := by decide +kernel
theorem dX12_writeNext_1 : decode cX12_writeNext 1 = .ok (.bipush 32, 2) := by decide +kernel
theorem dX12_writeNext_3 : decode cX12_writeNext 3 = .ok (.invokevirtual 431, 3) := by decide +kernel
theorem dX12_writeNext_6 : decode cX12_writeNext 6 = .ok (.aload_n 0, 1) := by decide +kernel
theorem dX12_writeNext_7 : decode cX12_writeNext 7 = .ok (.lload_n 1, 1) := by decide +kernel
theorem dX12_writeNext_8 : decode cX12_writeNext 8 = .ok (.invokevirtual 427, 3) := by decide +kernel
theorem dX12_writeNext_11 : decode cX12_writeNext 11 = .ok (.return_, 1) := by decide +kernel
theorem dX12_writeNumber_0 : decode cX12_writeNumber 0 = .ok (.iload_n 1, 1) := by decide +kernel
theorem dX12_writeNumber_1 : decode cX12_writeNumber 1 = .ok (.bipush 9, 2) := by decide +kernel
theorem dX12_writeNumber_3 : decode cX12_writeNumber 3 = .ok (.if_icmp .le 11, 3) := by decide +kernel
theorem dX12_writeNumber_6 : decode cX12_writeNumber 6 = .ok (.aload_n 0, 1) := by decide +kernel
theorem dX12_writeNumber_7 : decode cX12_writeNumber 7 = .ok (.iload_n 1, 1) := by decide +kernel
theorem dX12_writeNumber_8 : decode cX12_writeNumber 8 = .ok (.bipush 10, 2) := by decide +kernel
theorem dX12_writeNumber_10 : decode cX12_writeNumber 10 = .ok (.idiv, 1) := by decide +kernel
theorem dX12_writeNumber_11 : decode cX12_writeNumber 11 = .ok (.invokevirtual 434, 3) := by decide +kernel
theorem dX12_writeNumber_14 : decode cX12_writeNumber 14 = .ok (.aload_n 0, 1) := by decide +kernel
theorem dX12_writeNumber_15 : decode cX12_writeNumber 15 = .ok (.bipush 48, 2) := by decide +kernel
theorem dX12_writeNumber_17 : decode cX12_writeNumber 17 = .ok (.iload_n 1, 1) := by decide +kernel
theorem dX12_writeNumber_18 : decode cX12_writeNumber 18 = .ok (.bipush 10, 2) := by decide +kernel
theorem dX12_writeNumber_20 : decode cX12_writeNumber 20 = .ok (.irem, 1) := by decide +kernel
theorem dX12_writeNumber_21 : decode cX12_writeNumber 21 = .ok (.iadd, 1) := by decide +kernel
theorem dX12_writeNumber_22 : decode cX12_writeNumber 22 = .ok (.invokevirtual 431, 3) := by decide +kernel
theorem dX12_writeNumber_25 : decode cX12_writeNumber 25 = .ok (.return_, 1) := by decide +kernel
theorem dX12_tag_0 : decode cX12_tag 0 = .ok (.aload_n 0, 1) := by decide +kernel
theorem dX12_tag_1 : decode cX12_tag 1 = .ok (.iconst 0, 1) := by decide +kernel
theorem dX12_tag_2 : decode cX12_tag 2 = .ok (.putfield 1, 3) := by decide +kernel
theorem dX12_tag_5 : decode cX12_tag 5 = .ok (.aload_n 0, 1) := by decide +kernel
theorem dX12_tag_6 : decode cX12_tag 6 = .ok (.iload_n 1, 1) := by decide +kernel
theorem dX12_tag_7 : decode cX12_tag 7 = .ok (.invokevirtual 323, 3) := by decide +kernel
theorem dX12_tag_10 : decode cX12_tag 10 = .ok (.ifCond .ne 5, 3) := by decide +kernel
theorem dX12_tag_13 : decode cX12_tag 13 = .ok (.iconst (-1), 1) := by decide +kernel
theorem dX12_tag_14 : decode cX12_tag 14 = .ok (.ireturn, 1) := by decide +kernel
theorem dX12_tag_15 : decode cX12_tag 15 = .ok (.aload_n 0, 1) := by decide +kernel
theorem dX12_tag_16 : decode cX12_tag 16 = .ok (.iconst 0, 1) := by decide +kernel
theorem dX12_tag_17 : decode cX12_tag 17 = .ok (.putfield 424, 3) := by decide +kernel
theorem dX12_tag_20 : decode cX12_tag 20 = .ok (.aload_n 0, 1) := by decide +kernel
theorem dX12_tag_21 : decode cX12_tag 21 = .ok (.aload_n 0, 1) := by decide +kernel
theorem dX12_tag_22 : decode cX12_tag 22 = .ok (.getfield 116, 3) := by decide +kernel
theorem dX12_tag_25 : decode cX12_tag 25 = .ok (.bipush 16, 2) := by decide +kernel
theorem dX12_tag_27 : decode cX12_tag 27 = .ok (.iload_n 1, 1) := by decide +kernel
theorem dX12_tag_28 : decode cX12_tag 28 = .ok (.iadd, 1) := by decide +kernel
theorem dX12_tag_29 : decode cX12_tag 29 = .ok (.laload, 1) := by decide +kernel
theorem dX12_tag_30 : decode cX12_tag 30 = .ok (.invokevirtual 427, 3) := by decide +kernel
theorem dX12_tag_33 : decode cX12_tag 33 = .ok (.aload_n 0, 1) := by decide +kernel
theorem dX12_tag_34 : decode cX12_tag 34 = .ok (.bipush 105, 2) := by decide +kernel
theorem dX12_tag_36 : decode cX12_tag 36 = .ok (.bipush 115, 2) := by decide +kernel
theorem dX12_tag_38 : decode cX12_tag 38 = .ok (.iconst 0, 1) := by decide +kernel
theorem dX12_tag_39 : decode cX12_tag 39 = .ok (.iconst 0, 1) := by decide +kernel
theorem dX12_tag_40 : decode cX12_tag 40 = .ok (.iconst 0, 1) := by decide +kernel
theorem dX12_tag_41 : decode cX12_tag 41 = .ok (.iconst 0, 1) := by decide +kernel
theorem dX12_tag_42 : decode cX12_tag 42 = .ok (.invokestatic 58, 3) := by decide +kernel
theorem dX12_tag_45 : decode cX12_tag 45 = .ok (.invokevirtual 437, 3) := by decide +kernel
theorem dX12_tag_48 : decode cX12_tag 48 = .ok (.aload_n 0, 1) := by decide +kernel
theorem dX12_tag_49 : decode cX12_tag 49 = .ok (.iload_n 1, 1) := by decide +kernel
theorem dX12_tag_50 : decode cX12_tag 50 = .ok (.aload_n 0, 1) := by decide +kernel
theorem dX12_tag_51 : decode cX12_tag 51 = .ok (.getfield 98, 3) := by decide +kernel
theorem dX12_tag_54 : decode cX12_tag 54 = .ok (.sipush 342, 3) := by decide +kernel
theorem dX12_tag_57 : decode cX12_tag 57 = .ok (.iaload, 1) := by decide +kernel
theorem dX12_tag_58 : decode cX12_tag 58 = .ok (.invokevirtual 317, 3) := by decide +kernel
theorem dX12_tag_61 : decode cX12_tag 61 = .ok (.istore_n 2, 1) := by decide +kernel
theorem dX12_tag_62 : decode cX12_tag 62 = .ok (.aload_n 0, 1) := by decide +kernel
theorem dX12_tag_63 : decode cX12_tag 63 = .ok (.getfield 301, 3) := by decide +kernel
theorem dX12_tag_66 : decode cX12_tag 66 = .ok (.ifCond .eq 22, 3) := by decide +kernel
theorem dX12_tag_69 : decode cX12_tag 69 = .ok (.aload_n 0, 1) := by decide +kernel
theorem dX12_tag_70 : decode cX12_tag 70 = .ok (.bipush 111, 2) := by decide +kernel
theorem dX12_tag_72 : decode cX12_tag 72 = .ok (.bipush 117, 2) := by decide +kernel
theorem dX12_tag_74 : decode cX12_tag 74 = .ok (.bipush 116, 2) := by decide +kernel
theorem dX12_tag_76 : decode cX12_tag 76 = .ok (.iconst 0, 1) := by decide +kernel
theorem dX12_tag_77 : decode cX12_tag 77 = .ok (.iconst 0, 1) := by decide +kernel
theorem dX12_tag_78 : decode cX12_tag 78 = .ok (.iconst 0, 1) := by decide +kernel
theorem dX12_tag_79 : decode cX12_tag 79 = .ok (.invokestatic 58, 3) := by decide +kernel
theorem dX12_tag_82 : decode cX12_tag 82 = .ok (.invokevirtual 437, 3) := by decide +kernel
theorem dX12_tag_85 : decode cX12_tag 85 = .ok (.goto 27, 3) := by decide +kernel
theorem dX12_tag_88 : decode cX12_tag 88 = .ok (.aload_n 0, 1) := by decide +kernel
theorem dX12_tag_89 : decode cX12_tag 89 = .ok (.bipush 32, 2) := by decide +kernel
theorem dX12_tag_91 : decode cX12_tag 91 = .ok (.invokevirtual 431, 3) := by decide +kernel
theorem dX12_tag_94 : decode cX12_tag 94 = .ok (.iload_n 2, 1) := by decide +kernel
theorem dX12_tag_95 : decode cX12_tag 95 = .ok (.ifCond .ge 9, 3) := by decide +kernel
theorem dX12_tag_98 : decode cX12_tag 98 = .ok (.aload_n 0, 1) := by decide +kernel
theorem dX12_tag_99 : decode cX12_tag 99 = .ok (.bipush 45, 2) := by decide +kernel
theorem dX12_tag_101 : decode cX12_tag 101 = .ok (.invokevirtual 431, 3) := by decide +kernel
theorem dX12_tag_104 : decode cX12_tag 104 = .ok (.aload_n 0, 1) := by decide +kernel
theorem dX12_tag_105 : decode cX12_tag 105 = .ok (.iload_n 2, 1) := by decide +kernel
theorem dX12_tag_106 : decode cX12_tag 106 = .ok (.invokestatic 440, 3) := by decide +kernel
theorem dX12_tag_109 : decode cX12_tag 109 = .ok (.invokevirtual 434, 3) := by decide +kernel
theorem dX12_tag_112 : decode cX12_tag 112 = .ok (.aload_n 0, 1) := by decide +kernel
theorem dX12_tag_113 : decode cX12_tag 113 = .ok (.bipush 7, 2) := by decide +kernel
theorem dX12_tag_115 : decode cX12_tag 115 = .ok (.invokestatic 62, 3) := by decide +kernel
theorem dX12_tag_118 : decode cX12_tag 118 = .ok (.invokevirtual 437, 3) := by decide +kernel
theorem dX12_tag_121 : decode cX12_tag 121 = .ok (.aload_n 0, 1) := by decide +kernel
theorem dX12_tag_122 : decode cX12_tag 122 = .ok (.aload_n 0, 1) := by decide +kernel
theorem dX12_tag_123 : decode cX12_tag 123 = .ok (.getfield 116, 3) := by decide +kernel
theorem dX12_tag_126 : decode cX12_tag 126 = .ok (.aload_n 0, 1) := by decide +kernel
theorem dX12_tag_127 : decode cX12_tag 127 = .ok (.getfield 98, 3) := by decide +kernel
theorem dX12_tag_130 : decode cX12_tag 130 = .ok (.bipush 114, 2) := by decide +kernel
theorem dX12_tag_132 : decode cX12_tag 132 = .ok (.iload_n 1, 1) := by decide +kernel
theorem dX12_tag_133 : decode cX12_tag 133 = .ok (.iadd, 1) := by decide +kernel
theorem dX12_tag_134 : decode cX12_tag 134 = .ok (.iaload, 1) := by decide +kernel
theorem dX12_tag_135 : decode cX12_tag 135 = .ok (.laload, 1) := by decide +kernel
theorem dX12_tag_136 : decode cX12_tag 136 = .ok (.invokevirtual 437, 3) := by decide +kernel
theorem dX12_tag_139 : decode cX12_tag 139 = .ok (.aload_n 0, 1) := by decide +kernel
theorem dX12_tag_140 : decode cX12_tag 140 = .ok (.getfield 424, 3) := by decide +kernel
theorem dX12_tag_143 : decode cX12_tag 143 = .ok (.ireturn, 1) := by decide +kernel
theorem dX12_byteAt_0 : decode cX12_byteAt 0 = .ok (.aload_n 0, 1) := by decide +kernel
theorem dX12_byteAt_1 : decode cX12_byteAt 1 = .ok (.iconst 0, 1) := by decide +kernel
theorem dX12_byteAt_2 : decode cX12_byteAt 2 = .ok (.putfield 1, 3) := by decide +kernel
theorem dX12_byteAt_5 : decode cX12_byteAt 5 = .ok (.iload_n 1, 1) := by decide +kernel
theorem dX12_byteAt_6 : decode cX12_byteAt 6 = .ok (.iconst 0, 1) := by decide +kernel
theorem dX12_byteAt_7 : decode cX12_byteAt 7 = .ok (.aload_n 0, 1) := by decide +kernel
theorem dX12_byteAt_8 : decode cX12_byteAt 8 = .ok (.getfield 424, 3) := by decide +kernel
theorem dX12_byteAt_11 : decode cX12_byteAt 11 = .ok (.iconst 1, 1) := by decide +kernel
theorem dX12_byteAt_12 : decode cX12_byteAt 12 = .ok (.isub, 1) := by decide +kernel
theorem dX12_byteAt_13 : decode cX12_byteAt 13 = .ok (.invokestatic 75, 3) := by decide +kernel
theorem dX12_byteAt_16 : decode cX12_byteAt 16 = .ok (.ifCond .eq 12, 3) := by decide +kernel
theorem dX12_byteAt_19 : decode cX12_byteAt 19 = .ok (.aload_n 0, 1) := by decide +kernel
theorem dX12_byteAt_20 : decode cX12_byteAt 20 = .ok (.getfield 160, 3) := by decide +kernel
theorem dX12_byteAt_23 : decode cX12_byteAt 23 = .ok (.iload_n 1, 1) := by decide +kernel
theorem dX12_byteAt_24 : decode cX12_byteAt 24 = .ok (.iaload, 1) := by decide +kernel
theorem dX12_byteAt_25 : decode cX12_byteAt 25 = .ok (.goto 4, 3) := by decide +kernel
theorem dX12_byteAt_28 : decode cX12_byteAt 28 = .ok (.iconst (-1), 1) := by decide +kernel
theorem dX12_byteAt_29 : decode cX12_byteAt 29 = .ok (.ireturn, 1) := by decide +kernel
theorem dX12_draw_0 : decode cX12_draw 0 = .ok (.aload_n 0, 1) := by decide +kernel
theorem dX12_draw_1 : decode cX12_draw 1 = .ok (.aload_n 0, 1) := by decide +kernel
theorem dX12_draw_2 : decode cX12_draw 2 = .ok (.getfield 442, 3) := by decide +kernel
theorem dX12_draw_5 : decode cX12_draw 5 = .ok (.ldc_w 445, 3) := by decide +kernel
theorem dX12_draw_8 : decode cX12_draw 8 = .ok (.imul, 1) := by decide +kernel
theorem dX12_draw_9 : decode cX12_draw 9 = .ok (.sipush 12345, 3) := by decide +kernel
theorem dX12_draw_12 : decode cX12_draw 12 = .ok (.iadd, 1) := by decide +kernel
theorem dX12_draw_13 : decode cX12_draw 13 = .ok (.putfield 442, 3) := by decide +kernel
theorem dX12_draw_16 : decode cX12_draw 16 = .ok (.aload_n 0, 1) := by decide +kernel
theorem dX12_draw_17 : decode cX12_draw 17 = .ok (.getfield 442, 3) := by decide +kernel
theorem dX12_draw_20 : decode cX12_draw 20 = .ok (.bipush 8, 2) := by decide +kernel
theorem dX12_draw_22 : decode cX12_draw 22 = .ok (.iushr, 1) := by decide +kernel
theorem dX12_draw_23 : decode cX12_draw 23 = .ok (.iload_n 1, 1) := by decide +kernel
theorem dX12_draw_24 : decode cX12_draw 24 = .ok (.irem, 1) := by decide +kernel
theorem dX12_draw_25 : decode cX12_draw 25 = .ok (.ireturn, 1) := by decide +kernel
theorem dX12_doIf_0 : decode cX12_doIf 0 = .ok (.aload_n 0, 1) := by decide +kernel
theorem dX12_doIf_1 : decode cX12_doIf 1 = .ok (.iload_n 1, 1) := by decide +kernel
theorem dX12_doIf_2 : decode cX12_doIf 2 = .ok (.iload_n 2, 1) := by decide +kernel
theorem dX12_doIf_3 : decode cX12_doIf 3 = .ok (.iload_n 3, 1) := by decide +kernel
theorem dX12_doIf_4 : decode cX12_doIf 4 = .ok (.invokevirtual 358, 3) := by decide +kernel
theorem dX12_doIf_7 : decode cX12_doIf 7 = .ok (.ifCond .ne 10, 3) := by decide +kernel
theorem dX12_doIf_10 : decode cX12_doIf 10 = .ok (.aload_n 0, 1) := by decide +kernel
theorem dX12_doIf_11 : decode cX12_doIf 11 = .ok (.iload_n 1, 1) := by decide +kernel
theorem dX12_doIf_12 : decode cX12_doIf 12 = .ok (.iload_n 2, 1) := by decide +kernel
theorem dX12_doIf_13 : decode cX12_doIf 13 = .ok (.iload_n 3, 1) := by decide +kernel
theorem dX12_doIf_14 : decode cX12_doIf 14 = .ok (.invokevirtual 364, 3) := by decide +kernel
theorem dX12_doIf_17 : decode cX12_doIf 17 = .ok (.return_, 1) := by decide +kernel
theorem dX12_drawsDeed_0 : decode cX12_drawsDeed 0 = .ok (.aload_n 0, 1) := by decide +kernel
theorem dX12_drawsDeed_1 : decode cX12_drawsDeed 1 = .ok (.bipush 8, 2) := by decide +kernel
theorem dX12_drawsDeed_3 : decode cX12_drawsDeed 3 = .ok (.invokevirtual 446, 3) := by decide +kernel
theorem dX12_drawsDeed_6 : decode cX12_drawsDeed 6 = .ok (.istore_n 1, 1) := by decide +kernel
theorem dX12_drawsDeed_7 : decode cX12_drawsDeed 7 = .ok (.iload_n 1, 1) := by decide +kernel
theorem dX12_drawsDeed_8 : decode cX12_drawsDeed 8 = .ok (.iconst 2, 1) := by decide +kernel
theorem dX12_drawsDeed_9 : decode cX12_drawsDeed 9 = .ok (.if_icmp .ge 40, 3) := by decide +kernel
theorem dX12_drawsDeed_12 : decode cX12_drawsDeed 12 = .ok (.aload_n 0, 1) := by decide +kernel
theorem dX12_drawsDeed_13 : decode cX12_drawsDeed 13 = .ok (.iload_n 1, 1) := by decide +kernel
theorem dX12_drawsDeed_14 : decode cX12_drawsDeed 14 = .ok (.ifCond .ne 8, 3) := by decide +kernel
theorem dX12_drawsDeed_17 : decode cX12_drawsDeed 17 = .ok (.bipush 8, 2) := by decide +kernel
theorem dX12_drawsDeed_19 : decode cX12_drawsDeed 19 = .ok (.goto 5, 3) := by decide +kernel
theorem dX12_drawsDeed_22 : decode cX12_drawsDeed 22 = .ok (.bipush 64, 2) := by decide +kernel
theorem dX12_drawsDeed_24 : decode cX12_drawsDeed 24 = .ok (.invokevirtual 446, 3) := by decide +kernel
theorem dX12_drawsDeed_27 : decode cX12_drawsDeed 27 = .ok (.istore_n 2, 1) := by decide +kernel
theorem dX12_drawsDeed_28 : decode cX12_drawsDeed 28 = .ok (.aload_n 0, 1) := by decide +kernel
theorem dX12_drawsDeed_29 : decode cX12_drawsDeed 29 = .ok (.iload_n 1, 1) := by decide +kernel
theorem dX12_drawsDeed_30 : decode cX12_drawsDeed 30 = .ok (.ifCond .ne 7, 3) := by decide +kernel
theorem dX12_drawsDeed_33 : decode cX12_drawsDeed 33 = .ok (.iconst 0, 1) := by decide +kernel
theorem dX12_drawsDeed_34 : decode cX12_drawsDeed 34 = .ok (.goto 4, 3) := by decide +kernel
theorem dX12_drawsDeed_37 : decode cX12_drawsDeed 37 = .ok (.iconst 1, 1) := by decide +kernel
theorem dX12_drawsDeed_38 : decode cX12_drawsDeed 38 = .ok (.iload_n 2, 1) := by decide +kernel
theorem dX12_drawsDeed_39 : decode cX12_drawsDeed 39 = .ok (.aload_n 0, 1) := by decide +kernel
theorem dX12_drawsDeed_40 : decode cX12_drawsDeed 40 = .ok (.sipush 1000, 3) := by decide +kernel
theorem dX12_drawsDeed_43 : decode cX12_drawsDeed 43 = .ok (.invokevirtual 446, 3) := by decide +kernel
theorem dX12_drawsDeed_46 : decode cX12_drawsDeed 46 = .ok (.invokevirtual 449, 3) := by decide +kernel
theorem dX12_drawsDeed_49 : decode cX12_drawsDeed 49 = .ok (.iload_n 1, 1) := by decide +kernel
theorem dX12_drawsDeed_50 : decode cX12_drawsDeed 50 = .ok (.iconst 2, 1) := by decide +kernel
theorem dX12_drawsDeed_51 : decode cX12_drawsDeed 51 = .ok (.if_icmp .ne 19, 3) := by decide +kernel
theorem dX12_drawsDeed_54 : decode cX12_drawsDeed 54 = .ok (.aload_n 0, 1) := by decide +kernel
theorem dX12_drawsDeed_55 : decode cX12_drawsDeed 55 = .ok (.iconst 2, 1) := by decide +kernel
theorem dX12_drawsDeed_56 : decode cX12_drawsDeed 56 = .ok (.aload_n 0, 1) := by decide +kernel
theorem dX12_drawsDeed_57 : decode cX12_drawsDeed 57 = .ok (.aload_n 0, 1) := by decide +kernel
theorem dX12_drawsDeed_58 : decode cX12_drawsDeed 58 = .ok (.getfield 98, 3) := by decide +kernel
theorem dX12_drawsDeed_61 : decode cX12_drawsDeed 61 = .ok (.iconst 0, 1) := by decide +kernel
theorem dX12_drawsDeed_62 : decode cX12_drawsDeed 62 = .ok (.iaload, 1) := by decide +kernel
theorem dX12_drawsDeed_63 : decode cX12_drawsDeed 63 = .ok (.invokevirtual 446, 3) := by decide +kernel
theorem dX12_drawsDeed_66 : decode cX12_drawsDeed 66 = .ok (.iconst 0, 1) := by decide +kernel
theorem dX12_drawsDeed_67 : decode cX12_drawsDeed 67 = .ok (.invokevirtual 449, 3) := by decide +kernel
theorem dX12_drawsDeed_70 : decode cX12_drawsDeed 70 = .ok (.iload_n 1, 1) := by decide +kernel
theorem dX12_drawsDeed_71 : decode cX12_drawsDeed 71 = .ok (.iconst 3, 1) := by decide +kernel
theorem dX12_drawsDeed_72 : decode cX12_drawsDeed 72 = .ok (.if_icmp .eq 8, 3) := by decide +kernel
theorem dX12_drawsDeed_75 : decode cX12_drawsDeed 75 = .ok (.iload_n 1, 1) := by decide +kernel
theorem dX12_drawsDeed_76 : decode cX12_drawsDeed 76 = .ok (.iconst 4, 1) := by decide +kernel
theorem dX12_drawsDeed_77 : decode cX12_drawsDeed 77 = .ok (.if_icmp .ne 10, 3) := by decide +kernel
theorem dX12_drawsDeed_80 : decode cX12_drawsDeed 80 = .ok (.aload_n 0, 1) := by decide +kernel
theorem dX12_drawsDeed_81 : decode cX12_drawsDeed 81 = .ok (.iconst 5, 1) := by decide +kernel
theorem dX12_drawsDeed_82 : decode cX12_drawsDeed 82 = .ok (.iconst 0, 1) := by decide +kernel
theorem dX12_drawsDeed_83 : decode cX12_drawsDeed 83 = .ok (.iconst 0, 1) := by decide +kernel
theorem dX12_drawsDeed_84 : decode cX12_drawsDeed 84 = .ok (.invokevirtual 449, 3) := by decide +kernel
theorem dX12_drawsDeed_87 : decode cX12_drawsDeed 87 = .ok (.iload_n 1, 1) := by decide +kernel
theorem dX12_drawsDeed_88 : decode cX12_drawsDeed 88 = .ok (.iconst 5, 1) := by decide +kernel
theorem dX12_drawsDeed_89 : decode cX12_drawsDeed 89 = .ok (.if_icmp .ne 11, 3) := by decide +kernel
theorem dX12_drawsDeed_92 : decode cX12_drawsDeed 92 = .ok (.aload_n 0, 1) := by decide +kernel
theorem dX12_drawsDeed_93 : decode cX12_drawsDeed 93 = .ok (.bipush 6, 2) := by decide +kernel
theorem dX12_drawsDeed_95 : decode cX12_drawsDeed 95 = .ok (.iconst 0, 1) := by decide +kernel
theorem dX12_drawsDeed_96 : decode cX12_drawsDeed 96 = .ok (.iconst 0, 1) := by decide +kernel
theorem dX12_drawsDeed_97 : decode cX12_drawsDeed 97 = .ok (.invokevirtual 449, 3) := by decide +kernel
theorem dX12_drawsDeed_100 : decode cX12_drawsDeed 100 = .ok (.iload_n 1, 1) := by decide +kernel
theorem dX12_drawsDeed_101 : decode cX12_drawsDeed 101 = .ok (.bipush 6, 2) := by decide +kernel
theorem dX12_drawsDeed_103 : decode cX12_drawsDeed 103 = .ok (.if_icmp .ne 11, 3) := by decide +kernel
theorem dX12_drawsDeed_106 : decode cX12_drawsDeed 106 = .ok (.aload_n 0, 1) := by decide +kernel
theorem dX12_drawsDeed_107 : decode cX12_drawsDeed 107 = .ok (.bipush 7, 2) := by decide +kernel
theorem dX12_drawsDeed_109 : decode cX12_drawsDeed 109 = .ok (.iconst 0, 1) := by decide +kernel
theorem dX12_drawsDeed_110 : decode cX12_drawsDeed 110 = .ok (.iconst 0, 1) := by decide +kernel
theorem dX12_drawsDeed_111 : decode cX12_drawsDeed 111 = .ok (.invokevirtual 449, 3) := by decide +kernel
theorem dX12_drawsDeed_114 : decode cX12_drawsDeed 114 = .ok (.iload_n 1, 1) := by decide +kernel
theorem dX12_drawsDeed_115 : decode cX12_drawsDeed 115 = .ok (.bipush 7, 2) := by decide +kernel
theorem dX12_drawsDeed_117 : decode cX12_drawsDeed 117 = .ok (.if_icmp .ne 33, 3) := by decide +kernel
theorem dX12_drawsDeed_120 : decode cX12_drawsDeed 120 = .ok (.aload_n 0, 1) := by decide +kernel
theorem dX12_drawsDeed_121 : decode cX12_drawsDeed 121 = .ok (.sipush 250, 3) := by decide +kernel
