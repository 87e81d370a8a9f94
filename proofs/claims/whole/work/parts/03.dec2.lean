theorem dX11_tag_51 : decode cX11_tag 51 = .ok (.aload_n 0, 1) := by decide +kernel
theorem dX11_tag_52 : decode cX11_tag 52 = .ok (.getfield 26, 3) := by decide +kernel
theorem dX11_tag_55 : decode cX11_tag 55 = .ok (.getfield 218, 3) := by decide +kernel
theorem dX11_tag_58 : decode cX11_tag 58 = .ok (.invokevirtual 204, 3) := by decide +kernel
theorem dX11_tag_61 : decode cX11_tag 61 = .ok (.ifCond .ne 24, 3) := by decide +kernel
theorem dX11_tag_64 : decode cX11_tag 64 = .ok (.aload_n 0, 1) := by decide +kernel
theorem dX11_tag_65 : decode cX11_tag 65 = .ok (.ldc_w 289, 3) := by decide +kernel
theorem dX11_tag_68 : decode cX11_tag 68 = .ok (.invokevirtual 291, 3) := by decide +kernel
theorem dX11_tag_71 : decode cX11_tag 71 = .ok (.aload_n 0, 1) := by decide +kernel
theorem dX11_tag_72 : decode cX11_tag 72 = .ok (.aload_n 0, 1) := by decide +kernel
theorem dX11_tag_73 : decode cX11_tag 73 = .ok (.getfield 44, 3) := by decide +kernel
theorem dX11_tag_76 : decode cX11_tag 76 = .ok (.getfield 215, 3) := by decide +kernel
theorem dX11_tag_79 : decode cX11_tag 79 = .ok (.invokevirtual 294, 3) := by decide +kernel
theorem dX11_tag_82 : decode cX11_tag 82 = .ok (.goto 10, 3) := by decide +kernel
theorem dX11_tag_85 : decode cX11_tag 85 = .ok (.aload_n 0, 1) := by decide +kernel
theorem dX11_tag_86 : decode cX11_tag 86 = .ok (.ldc_w 297, 3) := by decide +kernel
theorem dX11_tag_89 : decode cX11_tag 89 = .ok (.invokevirtual 291, 3) := by decide +kernel
theorem dX11_tag_92 : decode cX11_tag 92 = .ok (.aload_n 0, 1) := by decide +kernel
theorem dX11_tag_93 : decode cX11_tag 93 = .ok (.ldc_w 299, 3) := by decide +kernel
theorem dX11_tag_96 : decode cX11_tag 96 = .ok (.invokevirtual 291, 3) := by decide +kernel
theorem dX11_tag_99 : decode cX11_tag 99 = .ok (.aload_n 0, 1) := by decide +kernel
theorem dX11_tag_100 : decode cX11_tag 100 = .ok (.aload_n 0, 1) := by decide +kernel
theorem dX11_tag_101 : decode cX11_tag 101 = .ok (.getfield 19, 3) := by decide +kernel
theorem dX11_tag_104 : decode cX11_tag 104 = .ok (.getfield 165, 3) := by decide +kernel
theorem dX11_tag_107 : decode cX11_tag 107 = .ok (.aload_n 0, 1) := by decide +kernel
theorem dX11_tag_108 : decode cX11_tag 108 = .ok (.getfield 19, 3) := by decide +kernel
theorem dX11_tag_111 : decode cX11_tag 111 = .ok (.getfield 174, 3) := by decide +kernel
theorem dX11_tag_114 : decode cX11_tag 114 = .ok (.iload_n 1, 1) := by decide +kernel
theorem dX11_tag_115 : decode cX11_tag 115 = .ok (.iconst 0, 1) := by decide +kernel
theorem dX11_tag_116 : decode cX11_tag 116 = .ok (.invokevirtual 157, 3) := by decide +kernel
theorem dX11_tag_119 : decode cX11_tag 119 = .ok (.invokevirtual 281, 3) := by decide +kernel
theorem dX11_tag_122 : decode cX11_tag 122 = .ok (.invokevirtual 285, 3) := by decide +kernel
theorem dX11_tag_125 : decode cX11_tag 125 = .ok (.aload_n 0, 1) := by decide +kernel
theorem dX11_tag_126 : decode cX11_tag 126 = .ok (.getfield 114, 3) := by decide +kernel
theorem dX11_tag_129 : decode cX11_tag 129 = .ok (.getfield 189, 3) := by decide +kernel
theorem dX11_tag_132 : decode cX11_tag 132 = .ok (.ireturn, 1) := by decide +kernel
theorem dX11_byteAt_0 : decode cX11_byteAt 0 = .ok (.aload_n 0, 1) := by decide +kernel
theorem dX11_byteAt_1 : decode cX11_byteAt 1 = .ok (.getfield 114, 3) := by decide +kernel
theorem dX11_byteAt_4 : decode cX11_byteAt 4 = .ok (.iload_n 1, 1) := by decide +kernel
theorem dX11_byteAt_5 : decode cX11_byteAt 5 = .ok (.iconst 0, 1) := by decide +kernel
theorem dX11_byteAt_6 : decode cX11_byteAt 6 = .ok (.invokevirtual 157, 3) := by decide +kernel
theorem dX11_byteAt_9 : decode cX11_byteAt 9 = .ok (.ireturn, 1) := by decide +kernel
theorem dX11_tagByte_0 : decode cX11_tagByte 0 = .ok (.aload_n 0, 1) := by decide +kernel
theorem dX11_tagByte_1 : decode cX11_tagByte 1 = .ok (.getfield 114, 3) := by decide +kernel
theorem dX11_tagByte_4 : decode cX11_tagByte 4 = .ok (.aload_n 0, 1) := by decide +kernel
theorem dX11_tagByte_5 : decode cX11_tagByte 5 = .ok (.getfield 114, 3) := by decide +kernel
theorem dX11_tagByte_8 : decode cX11_tagByte 8 = .ok (.lconst 0, 1) := by decide +kernel
theorem dX11_tagByte_9 : decode cX11_tagByte 9 = .ok (.invokevirtual 196, 3) := by decide +kernel
theorem dX11_tagByte_12 : decode cX11_tagByte 12 = .ok (.iconst 0, 1) := by decide +kernel
theorem dX11_tagByte_13 : decode cX11_tagByte 13 = .ok (.iload_n 1, 1) := by decide +kernel
theorem dX11_tagByte_14 : decode cX11_tagByte 14 = .ok (.invokevirtual 200, 3) := by decide +kernel
theorem dX11_tagByte_17 : decode cX11_tagByte 17 = .ok (.return_, 1) := by decide +kernel
theorem dX11_tagText_0 : decode cX11_tagText 0 = .ok (.iconst 0, 1) := by decide +kernel
theorem dX11_tagText_1 : decode cX11_tagText 1 = .ok (.istore_n 2, 1) := by decide +kernel
theorem dX11_tagText_2 : decode cX11_tagText 2 = .ok (.iload_n 2, 1) := by decide +kernel
theorem dX11_tagText_3 : decode cX11_tagText 3 = .ok (.aload_n 1, 1) := by decide +kernel
theorem dX11_tagText_4 : decode cX11_tagText 4 = .ok (.invokevirtual 301, 3) := by decide +kernel
theorem dX11_tagText_7 : decode cX11_tagText 7 = .ok (.if_icmp .ge 18, 3) := by decide +kernel
theorem dX11_tagText_10 : decode cX11_tagText 10 = .ok (.aload_n 0, 1) := by decide +kernel
theorem dX11_tagText_11 : decode cX11_tagText 11 = .ok (.aload_n 1, 1) := by decide +kernel
theorem dX11_tagText_12 : decode cX11_tagText 12 = .ok (.iload_n 2, 1) := by decide +kernel
theorem dX11_tagText_13 : decode cX11_tagText 13 = .ok (.invokevirtual 306, 3) := by decide +kernel
theorem dX11_tagText_16 : decode cX11_tagText 16 = .ok (.invokevirtual 310, 3) := by decide +kernel
theorem dX11_tagText_19 : decode cX11_tagText 19 = .ok (.iinc 2 1, 3) := by decide +kernel
theorem dX11_tagText_22 : decode cX11_tagText 22 = .ok (.goto (-20), 3) := by decide +kernel
theorem dX11_tagText_25 : decode cX11_tagText 25 = .ok (.return_, 1) := by decide +kernel
theorem dX11_tagName_0 : decode cX11_tagName 0 = .ok (.bipush 30, 2) := by decide +kernel
theorem dX11_tagName_2 : decode cX11_tagName 2 = .ok (.istore_n 3, 1) := by decide +kernel
theorem dX11_tagName_3 : decode cX11_tagName 3 = .ok (.iload_n 3, 1) := by decide +kernel
theorem dX11_tagName_4 : decode cX11_tagName 4 = .ok (.ifCond .lt 32, 3) := by decide +kernel
theorem dX11_tagName_7 : decode cX11_tagName 7 = .ok (.lload_n 1, 1) := by decide +kernel
theorem dX11_tagName_8 : decode cX11_tagName 8 = .ok (.iload_n 3, 1) := by decide +kernel
theorem dX11_tagName_9 : decode cX11_tagName 9 = .ok (.lushr, 1) := by decide +kernel
theorem dX11_tagName_10 : decode cX11_tagName 10 = .ok (.l2i, 1) := by decide +kernel
theorem dX11_tagName_11 : decode cX11_tagName 11 = .ok (.bipush 31, 2) := by decide +kernel
theorem dX11_tagName_13 : decode cX11_tagName 13 = .ok (.iand, 1) := by decide +kernel
theorem dX11_tagName_14 : decode cX11_tagName 14 = .ok (.istore 4, 2) := by decide +kernel
theorem dX11_tagName_16 : decode cX11_tagName 16 = .ok (.iload 4, 2) := by decide +kernel
theorem dX11_tagName_18 : decode cX11_tagName 18 = .ok (.ifCond .le 12, 3) := by decide +kernel
theorem dX11_tagName_21 : decode cX11_tagName 21 = .ok (.aload_n 0, 1) := by decide +kernel
theorem dX11_tagName_22 : decode cX11_tagName 22 = .ok (.bipush 96, 2) := by decide +kernel
theorem dX11_tagName_24 : decode cX11_tagName 24 = .ok (.iload 4, 2) := by decide +kernel
theorem dX11_tagName_26 : decode cX11_tagName 26 = .ok (.iadd, 1) := by decide +kernel
theorem dX11_tagName_27 : decode cX11_tagName 27 = .ok (.invokevirtual 310, 3) := by decide +kernel
theorem dX11_tagName_30 : decode cX11_tagName 30 = .ok (.iinc 3 (-5), 3) := by decide +kernel
theorem dX11_tagName_33 : decode cX11_tagName 33 = .ok (.goto (-30), 3) := by decide +kernel
theorem dX11_tagName_36 : decode cX11_tagName 36 = .ok (.return_, 1) := by decide +kernel
theorem dX11_tagNumber_0 : decode cX11_tagNumber 0 = .ok (.iload_n 1, 1) := by decide +kernel
theorem dX11_tagNumber_1 : decode cX11_tagNumber 1 = .ok (.ifCond .ge 8, 3) := by decide +kernel
theorem dX11_tagNumber_4 : decode cX11_tagNumber 4 = .ok (.iload_n 1, 1) := by decide +kernel
theorem dX11_tagNumber_5 : decode cX11_tagNumber 5 = .ok (.ineg, 1) := by decide +kernel
theorem dX11_tagNumber_6 : decode cX11_tagNumber 6 = .ok (.goto 4, 3) := by decide +kernel
theorem dX11_tagNumber_9 : decode cX11_tagNumber 9 = .ok (.iload_n 1, 1) := by decide +kernel
theorem dX11_tagNumber_10 : decode cX11_tagNumber 10 = .ok (.istore_n 2, 1) := by decide +kernel
theorem dX11_tagNumber_11 : decode cX11_tagNumber 11 = .ok (.iload_n 1, 1) := by decide +kernel
theorem dX11_tagNumber_12 : decode cX11_tagNumber 12 = .ok (.ifCond .ge 9, 3) := by decide +kernel
theorem dX11_tagNumber_15 : decode cX11_tagNumber 15 = .ok (.aload_n 0, 1) := by decide +kernel
theorem dX11_tagNumber_16 : decode cX11_tagNumber 16 = .ok (.bipush 45, 2) := by decide +kernel
theorem dX11_tagNumber_18 : decode cX11_tagNumber 18 = .ok (.invokevirtual 310, 3) := by decide +kernel
theorem dX11_tagNumber_21 : decode cX11_tagNumber 21 = .ok (.sipush 10000, 3) := by decide +kernel
theorem dX11_tagNumber_24 : decode cX11_tagNumber 24 = .ok (.istore_n 3, 1) := by decide +kernel
theorem dX11_tagNumber_25 : decode cX11_tagNumber 25 = .ok (.iload_n 3, 1) := by decide +kernel
theorem dX11_tagNumber_26 : decode cX11_tagNumber 26 = .ok (.iconst 1, 1) := by decide +kernel
theorem dX11_tagNumber_27 : decode cX11_tagNumber 27 = .ok (.if_icmp .lt 34, 3) := by decide +kernel
theorem dX11_tagNumber_30 : decode cX11_tagNumber 30 = .ok (.iload_n 2, 1) := by decide +kernel
theorem dX11_tagNumber_31 : decode cX11_tagNumber 31 = .ok (.iload_n 3, 1) := by decide +kernel
theorem dX11_tagNumber_32 : decode cX11_tagNumber 32 = .ok (.if_icmp .ge 8, 3) := by decide +kernel
theorem dX11_tagNumber_35 : decode cX11_tagNumber 35 = .ok (.iload_n 3, 1) := by decide +kernel
theorem dX11_tagNumber_36 : decode cX11_tagNumber 36 = .ok (.iconst 1, 1) := by decide +kernel
theorem dX11_tagNumber_37 : decode cX11_tagNumber 37 = .ok (.if_icmp .ne 16, 3) := by decide +kernel
theorem dX11_tagNumber_40 : decode cX11_tagNumber 40 = .ok (.aload_n 0, 1) := by decide +kernel
theorem dX11_tagNumber_41 : decode cX11_tagNumber 41 = .ok (.bipush 48, 2) := by decide +kernel
theorem dX11_tagNumber_43 : decode cX11_tagNumber 43 = .ok (.iload_n 2, 1) := by decide +kernel
theorem dX11_tagNumber_44 : decode cX11_tagNumber 44 = .ok (.iload_n 3, 1) := by decide +kernel
theorem dX11_tagNumber_45 : decode cX11_tagNumber 45 = .ok (.idiv, 1) := by decide +kernel
theorem dX11_tagNumber_46 : decode cX11_tagNumber 46 = .ok (.bipush 10, 2) := by decide +kernel
theorem dX11_tagNumber_48 : decode cX11_tagNumber 48 = .ok (.irem, 1) := by decide +kernel
theorem dX11_tagNumber_49 : decode cX11_tagNumber 49 = .ok (.iadd, 1) := by decide +kernel
theorem dX11_tagNumber_50 : decode cX11_tagNumber 50 = .ok (.invokevirtual 310, 3) := by decide +kernel
theorem dX11_tagNumber_53 : decode cX11_tagNumber 53 = .ok (.iload_n 3, 1) := by decide +kernel
theorem dX11_tagNumber_54 : decode cX11_tagNumber 54 = .ok (.bipush 10, 2) := by decide +kernel
theorem dX11_tagNumber_56 : decode cX11_tagNumber 56 = .ok (.idiv, 1) := by decide +kernel
theorem dX11_tagNumber_57 : decode cX11_tagNumber 57 = .ok (.istore_n 3, 1) := by decide +kernel
theorem dX11_tagNumber_58 : decode cX11_tagNumber 58 = .ok (.goto (-33), 3) := by decide +kernel
theorem dX11_tagNumber_61 : decode cX11_tagNumber 61 = .ok (.return_, 1) := by decide +kernel
theorem dX11_drawn_0 : decode cX11_drawn 0 = .ok (.iload_n 1, 1) := by decide +kernel
theorem dX11_drawn_1 : decode cX11_drawn 1 = .ok (.iconst 1, 1) := by decide +kernel
theorem dX11_drawn_2 : decode cX11_drawn 2 = .ok (.bipush 60, 2) := by decide +kernel
theorem dX11_drawn_4 : decode cX11_drawn 4 = .ok (.invokestatic 237, 3) := by decide +kernel
theorem dX11_drawn_7 : decode cX11_drawn 7 = .ok (.ifCond .ne 5, 3) := by decide +kernel
theorem dX11_drawn_10 : decode cX11_drawn 10 = .ok (.iconst (-1), 1) := by decide +kernel
theorem dX11_drawn_11 : decode cX11_drawn 11 = .ok (.ireturn, 1) := by decide +kernel
theorem dX11_drawn_12 : decode cX11_drawn 12 = .ok (.aload_n 0, 1) := by decide +kernel
theorem dX11_drawn_13 : decode cX11_drawn 13 = .ok (.getfield 30, 3) := by decide +kernel
theorem dX11_drawn_16 : decode cX11_drawn 16 = .ok (.aload_n 0, 1) := by decide +kernel
theorem dX11_drawn_17 : decode cX11_drawn 17 = .ok (.getfield 26, 3) := by decide +kernel
theorem dX11_drawn_20 : decode cX11_drawn 20 = .ok (.invokevirtual 246, 3) := by decide +kernel
theorem dX11_drawn_23 : decode cX11_drawn 23 = .ok (.aload_n 0, 1) := by decide +kernel
theorem dX11_drawn_24 : decode cX11_drawn 24 = .ok (.getfield 51, 3) := by decide +kernel
theorem dX11_drawn_27 : decode cX11_drawn 27 = .ok (.aload_n 0, 1) := by decide +kernel
theorem dX11_drawn_28 : decode cX11_drawn 28 = .ok (.getfield 19, 3) := by decide +kernel
theorem dX11_drawn_31 : decode cX11_drawn 31 = .ok (.aload_n 0, 1) := by decide +kernel
theorem dX11_drawn_32 : decode cX11_drawn 32 = .ok (.getfield 26, 3) := by decide +kernel
theorem dX11_drawn_35 : decode cX11_drawn 35 = .ok (.iload_n 1, 1) := by decide +kernel
theorem dX11_drawn_36 : decode cX11_drawn 36 = .ok (.iload_n 2, 1) := by decide +kernel
theorem dX11_drawn_37 : decode cX11_drawn 37 = .ok (.invokevirtual 313, 3) := by decide +kernel
theorem dX11_drawn_40 : decode cX11_drawn 40 = .ok (.istore_n 3, 1) := by decide +kernel
theorem dX11_drawn_41 : decode cX11_drawn 41 = .ok (.iload_n 3, 1) := by decide +kernel
theorem dX11_drawn_42 : decode cX11_drawn 42 = .ok (.ifCond .le 11, 3) := by decide +kernel
theorem dX11_drawn_45 : decode cX11_drawn 45 = .ok (.aload_n 0, 1) := by decide +kernel
theorem dX11_drawn_46 : decode cX11_drawn 46 = .ok (.aload_n 0, 1) := by decide +kernel
theorem dX11_drawn_47 : decode cX11_drawn 47 = .ok (.getfield 30, 3) := by decide +kernel
theorem dX11_drawn_50 : decode cX11_drawn 50 = .ok (.invokevirtual 253, 3) := by decide +kernel
theorem dX11_drawn_53 : decode cX11_drawn 53 = .ok (.iload_n 3, 1) := by decide +kernel
theorem dX11_drawn_54 : decode cX11_drawn 54 = .ok (.ireturn, 1) := by decide +kernel
theorem dX11_odds_0 : decode cX11_odds 0 = .ok (.aload_n 0, 1) := by decide +kernel
theorem dX11_odds_1 : decode cX11_odds 1 = .ok (.getfield 19, 3) := by decide +kernel
theorem dX11_odds_4 : decode cX11_odds 4 = .ok (.getfield 174, 3) := by decide +kernel
theorem dX11_odds_7 : decode cX11_odds 7 = .ok (.iload_n 1, 1) := by decide +kernel
theorem dX11_odds_8 : decode cX11_odds 8 = .ok (.invokevirtual 153, 3) := by decide +kernel
theorem dX11_odds_11 : decode cX11_odds 11 = .ok (.ifCond .eq 13, 3) := by decide +kernel
theorem dX11_odds_14 : decode cX11_odds 14 = .ok (.iload_n 2, 1) := by decide +kernel
theorem dX11_odds_15 : decode cX11_odds 15 = .ok (.iconst 1, 1) := by decide +kernel
theorem dX11_odds_16 : decode cX11_odds 16 = .ok (.bipush 30, 2) := by decide +kernel
theorem dX11_odds_18 : decode cX11_odds 18 = .ok (.invokestatic 237, 3) := by decide +kernel
theorem dX11_odds_21 : decode cX11_odds 21 = .ok (.ifCond .ne 5, 3) := by decide +kernel
theorem dX11_odds_24 : decode cX11_odds 24 = .ok (.iconst (-1), 1) := by decide +kernel
theorem dX11_odds_25 : decode cX11_odds 25 = .ok (.ireturn, 1) := by decide +kernel
theorem dX11_odds_26 : decode cX11_odds 26 = .ok (.iconst 0, 1) := by decide +kernel
theorem dX11_odds_27 : decode cX11_odds 27 = .ok (.istore 4, 2) := by decide +kernel
theorem dX11_odds_29 : decode cX11_odds 29 = .ok (.iconst 0, 1) := by decide +kernel
theorem dX11_odds_30 : decode cX11_odds 30 = .ok (.istore 5, 2) := by decide +kernel
theorem dX11_odds_32 : decode cX11_odds 32 = .ok (.iload 5, 2) := by decide +kernel
theorem dX11_odds_34 : decode cX11_odds 34 = .ok (.iload_n 2, 1) := by decide +kernel
theorem dX11_odds_35 : decode cX11_odds 35 = .ok (.if_icmp .ge 71, 3) := by decide +kernel
theorem dX11_odds_38 : decode cX11_odds 38 = .ok (.aload_n 0, 1) := by decide +kernel
theorem dX11_odds_39 : decode cX11_odds 39 = .ok (.getfield 30, 3) := by decide +kernel
theorem dX11_odds_42 : decode cX11_odds 42 = .ok (.aload_n 0, 1) := by decide +kernel
theorem dX11_odds_43 : decode cX11_odds 43 = .ok (.getfield 26, 3) := by decide +kernel
theorem dX11_odds_46 : decode cX11_odds 46 = .ok (.invokevirtual 246, 3) := by decide +kernel
theorem dX11_odds_49 : decode cX11_odds 49 = .ok (.aload_n 0, 1) := by decide +kernel
theorem dX11_odds_50 : decode cX11_odds 50 = .ok (.getfield 51, 3) := by decide +kernel
theorem dX11_odds_53 : decode cX11_odds 53 = .ok (.aload_n 0, 1) := by decide +kernel
theorem dX11_odds_54 : decode cX11_odds 54 = .ok (.getfield 19, 3) := by decide +kernel
theorem dX11_odds_57 : decode cX11_odds 57 = .ok (.aload_n 0, 1) := by decide +kernel
theorem dX11_odds_58 : decode cX11_odds 58 = .ok (.getfield 30, 3) := by decide +kernel
theorem dX11_odds_61 : decode cX11_odds 61 = .ok (.bipush 10, 2) := by decide +kernel
theorem dX11_odds_63 : decode cX11_odds 63 = .ok (.iload_n 3, 1) := by decide +kernel
theorem dX11_odds_64 : decode cX11_odds 64 = .ok (.iload 5, 2) := by decide +kernel
theorem dX11_odds_66 : decode cX11_odds 66 = .ok (.iadd, 1) := by decide +kernel
theorem dX11_odds_67 : decode cX11_odds 67 = .ok (.invokevirtual 313, 3) := by decide +kernel
theorem dX11_odds_70 : decode cX11_odds 70 = .ok (.pop, 1) := by decide +kernel
theorem dX11_odds_71 : decode cX11_odds 71 = .ok (.aload_n 0, 1) := by decide +kernel
theorem dX11_odds_72 : decode cX11_odds 72 = .ok (.getfield 44, 3) := by decide +kernel
theorem dX11_odds_75 : decode cX11_odds 75 = .ok (.aload_n 0, 1) := by decide +kernel
theorem dX11_odds_76 : decode cX11_odds 76 = .ok (.getfield 19, 3) := by decide +kernel
theorem dX11_odds_79 : decode cX11_odds 79 = .ok (.aload_n 0, 1) := by decide +kernel
theorem dX11_odds_80 : decode cX11_odds 80 = .ok (.getfield 30, 3) := by decide +kernel
theorem dX11_odds_83 : decode cX11_odds 83 = .ok (.iload_n 1, 1) := by decide +kernel
theorem dX11_odds_84 : decode cX11_odds 84 = .ok (.aload_n 0, 1) := by decide +kernel
theorem dX11_odds_85 : decode cX11_odds 85 = .ok (.getfield 30, 3) := by decide +kernel
theorem dX11_odds_88 : decode cX11_odds 88 = .ok (.getfield 218, 3) := by decide +kernel
theorem dX11_odds_91 : decode cX11_odds 91 = .ok (.invokevirtual 204, 3) := by decide +kernel
theorem dX11_odds_94 : decode cX11_odds 94 = .ok (.ifCond .ne 6, 3) := by decide +kernel
theorem dX11_odds_97 : decode cX11_odds 97 = .ok (.iinc 4 1, 3) := by decide +kernel
theorem dX11_odds_100 : decode cX11_odds 100 = .ok (.iinc 5 1, 3) := by decide +kernel
theorem dX11_odds_103 : decode cX11_odds 103 = .ok (.goto (-71), 3) := by decide +kernel
theorem dX11_odds_106 : decode cX11_odds 106 = .ok (.iload 4, 2) := by decide +kernel
theorem dX11_odds_108 : decode cX11_odds 108 = .ok (.ireturn, 1) := by decide +kernel
theorem dX11_book_0 : decode cX11_book 0 = .ok (.iload_n 1, 1) := by decide +kernel
theorem dX11_book_1 : decode cX11_book 1 = .ok (.ifCond .eq 12, 3) := by decide +kernel
theorem dX11_book_4 : decode cX11_book 4 = .ok (.iload_n 1, 1) := by decide +kernel
theorem dX11_book_5 : decode cX11_book 5 = .ok (.iconst 1, 1) := by decide +kernel
theorem dX11_book_6 : decode cX11_book 6 = .ok (.if_icmp .eq 7, 3) := by decide +kernel
theorem dX11_book_9 : decode cX11_book 9 = .ok (.sipush (-1000), 3) := by decide +kernel
theorem dX11_book_12 : decode cX11_book 12 = .ok (.ireturn, 1) := by decide +kernel
theorem dX11_book_13 : decode cX11_book 13 = .ok (.aload_n 0, 1) := by decide +kernel
theorem dX11_book_14 : decode cX11_book 14 = .ok (.getfield 79, 3) := by decide +kernel
theorem dX11_book_17 : decode cX11_book 17 = .ok (.aload_n 0, 1) := by decide +kernel
theorem dX11_book_18 : decode cX11_book 18 = .ok (.getfield 10, 3) := by decide +kernel
theorem dX11_book_21 : decode cX11_book 21 = .ok (.invokevirtual 316, 3) := by decide +kernel
theorem dX11_book_24 : decode cX11_book 24 = .ok (.aload_n 0, 1) := by decide +kernel
theorem dX11_book_25 : decode cX11_book 25 = .ok (.getfield 10, 3) := by decide +kernel
theorem dX11_book_28 : decode cX11_book 28 = .ok (.iconst 0, 1) := by decide +kernel
theorem dX11_book_29 : decode cX11_book 29 = .ok (.putfield 120, 3) := by decide +kernel
theorem dX11_book_32 : decode cX11_book 32 = .ok (.aload_n 0, 1) := by decide +kernel
theorem dX11_book_33 : decode cX11_book 33 = .ok (.getfield 10, 3) := by decide +kernel
theorem dX11_book_36 : decode cX11_book 36 = .ok (.getfield 131, 3) := by decide +kernel
theorem dX11_book_39 : decode cX11_book 39 = .ok (.ifCond .eq 14, 3) := by decide +kernel
theorem dX11_book_42 : decode cX11_book 42 = .ok (.bipush (-2), 2) := by decide +kernel
theorem dX11_book_44 : decode cX11_book 44 = .ok (.aload_n 0, 1) := by decide +kernel
theorem dX11_book_45 : decode cX11_book 45 = .ok (.getfield 10, 3) := by decide +kernel
theorem dX11_book_48 : decode cX11_book 48 = .ok (.getfield 134, 3) := by decide +kernel
theorem dX11_book_51 : decode cX11_book 51 = .ok (.isub, 1) := by decide +kernel
theorem dX11_book_52 : decode cX11_book 52 = .ok (.ireturn, 1) := by decide +kernel
theorem dX11_book_53 : decode cX11_book 53 = .ok (.aload_n 0, 1) := by decide +kernel
theorem dX11_book_54 : decode cX11_book 54 = .ok (.getfield 30, 3) := by decide +kernel
theorem dX11_book_57 : decode cX11_book 57 = .ok (.aload_n 0, 1) := by decide +kernel
theorem dX11_book_58 : decode cX11_book 58 = .ok (.getfield 26, 3) := by decide +kernel
theorem dX11_book_61 : decode cX11_book 61 = .ok (.invokevirtual 246, 3) := by decide +kernel
theorem dX11_book_64 : decode cX11_book 64 = .ok (.aload_n 0, 1) := by decide +kernel
theorem dX11_book_65 : decode cX11_book 65 = .ok (.getfield 79, 3) := by decide +kernel
theorem dX11_book_68 : decode cX11_book 68 = .ok (.aload_n 0, 1) := by decide +kernel
theorem dX11_book_69 : decode cX11_book 69 = .ok (.getfield 19, 3) := by decide +kernel
theorem dX11_book_72 : decode cX11_book 72 = .ok (.aload_n 0, 1) := by decide +kernel
theorem dX11_book_73 : decode cX11_book 73 = .ok (.getfield 30, 3) := by decide +kernel
theorem dX11_book_76 : decode cX11_book 76 = .ok (.invokevirtual 320, 3) := by decide +kernel
theorem dX11_book_79 : decode cX11_book 79 = .ok (.istore_n 2, 1) := by decide +kernel
theorem dX11_book_80 : decode cX11_book 80 = .ok (.aload_n 0, 1) := by decide +kernel
theorem dX11_book_81 : decode cX11_book 81 = .ok (.iload_n 2, 1) := by decide +kernel
theorem dX11_book_82 : decode cX11_book 82 = .ok (.invokevirtual 323, 3) := by decide +kernel
theorem dX11_book_85 : decode cX11_book 85 = .ok (.iload_n 1, 1) := by decide +kernel
theorem dX11_book_86 : decode cX11_book 86 = .ok (.iconst 1, 1) := by decide +kernel
theorem dX11_book_87 : decode cX11_book 87 = .ok (.if_icmp .ne 32, 3) := by decide +kernel
theorem dX11_book_90 : decode cX11_book 90 = .ok (.aload_n 0, 1) := by decide +kernel
theorem dX11_book_91 : decode cX11_book 91 = .ok (.getfield 79, 3) := by decide +kernel
theorem dX11_book_94 : decode cX11_book 94 = .ok (.getfield 326, 3) := by decide +kernel
theorem dX11_book_97 : decode cX11_book 97 = .ok (.ifCond .le 22, 3) := by decide +kernel
theorem dX11_book_100 : decode cX11_book 100 = .ok (.aload_n 0, 1) := by decide +kernel
theorem dX11_book_101 : decode cX11_book 101 = .ok (.aload_n 0, 1) := by decide +kernel
theorem dX11_book_102 : decode cX11_book 102 = .ok (.getfield 26, 3) := by decide +kernel
theorem dX11_book_105 : decode cX11_book 105 = .ok (.invokevirtual 253, 3) := by decide +kernel
theorem dX11_book_108 : decode cX11_book 108 = .ok (.aload_n 0, 1) := by decide +kernel
theorem dX11_book_109 : decode cX11_book 109 = .ok (.getfield 26, 3) := by decide +kernel
theorem dX11_book_112 : decode cX11_book 112 = .ok (.aload_n 0, 1) := by decide +kernel
theorem dX11_book_113 : decode cX11_book 113 = .ok (.getfield 30, 3) := by decide +kernel
theorem dX11_book_116 : decode cX11_book 116 = .ok (.invokevirtual 246, 3) := by decide +kernel
theorem dX11_book_119 : decode cX11_book 119 = .ok (.iload_n 2, 1) := by decide +kernel
theorem dX11_book_120 : decode cX11_book 120 = .ok (.ifCond .ne 7, 3) := by decide +kernel
theorem dX11_book_123 : decode cX11_book 123 = .ok (.iconst (-1), 1) := by decide +kernel
theorem dX11_book_124 : decode cX11_book 124 = .ok (.goto 10, 3) := by decide +kernel
theorem dX11_book_127 : decode cX11_book 127 = .ok (.aload_n 0, 1) := by decide +kernel
theorem dX11_book_128 : decode cX11_book 128 = .ok (.getfield 79, 3) := by decide +kernel
theorem dX11_book_131 : decode cX11_book 131 = .ok (.getfield 326, 3) := by decide +kernel
theorem dX11_book_134 : decode cX11_book 134 = .ok (.ireturn, 1) := by decide +kernel
theorem dX11_tellBook_0 : decode cX11_tellBook 0 = .ok (.aload_n 0, 1) := by decide +kernel
theorem dX11_tellBook_1 : decode cX11_tellBook 1 = .ok (.getfield 117, 3) := by decide +kernel
theorem dX11_tellBook_4 : decode cX11_tellBook 4 = .ok (.invokevirtual 195, 3) := by decide +kernel
theorem dX11_tellBook_7 : decode cX11_tellBook 7 = .ok (.aload_n 0, 1) := by decide +kernel
theorem dX11_tellBook_8 : decode cX11_tellBook 8 = .ok (.getfield 117, 3) := by decide +kernel
theorem dX11_tellBook_11 : decode cX11_tellBook 11 = .ok (.lconst 0, 1) := by decide +kernel
theorem dX11_tellBook_12 : decode cX11_tellBook 12 = .ok (.invokevirtual 196, 3) := by decide +kernel
theorem dX11_tellBook_15 : decode cX11_tellBook 15 = .ok (.istore_n 2, 1) := by decide +kernel
theorem dX11_tellBook_16 : decode cX11_tellBook 16 = .ok (.aload_n 0, 1) := by decide +kernel
theorem dX11_tellBook_17 : decode cX11_tellBook 17 = .ok (.getfield 117, 3) := by decide +kernel
theorem dX11_tellBook_20 : decode cX11_tellBook 20 = .ok (.iload_n 2, 1) := by decide +kernel
theorem dX11_tellBook_21 : decode cX11_tellBook 21 = .ok (.iconst 0, 1) := by decide +kernel
theorem dX11_tellBook_22 : decode cX11_tellBook 22 = .ok (.iload_n 1, 1) := by decide +kernel
theorem dX11_tellBook_23 : decode cX11_tellBook 23 = .ok (.invokevirtual 200, 3) := by decide +kernel
theorem dX11_tellBook_26 : decode cX11_tellBook 26 = .ok (.aload_n 0, 1) := by decide +kernel
theorem dX11_tellBook_27 : decode cX11_tellBook 27 = .ok (.getfield 117, 3) := by decide +kernel
theorem dX11_tellBook_30 : decode cX11_tellBook 30 = .ok (.iload_n 2, 1) := by decide +kernel
theorem dX11_tellBook_31 : decode cX11_tellBook 31 = .ok (.iconst 1, 1) := by decide +kernel
theorem dX11_tellBook_32 : decode cX11_tellBook 32 = .ok (.aload_n 0, 1) := by decide +kernel
theorem dX11_tellBook_33 : decode cX11_tellBook 33 = .ok (.getfield 79, 3) := by decide +kernel
theorem dX11_tellBook_36 : decode cX11_tellBook 36 = .ok (.getfield 326, 3) := by decide +kernel
theorem dX11_tellBook_39 : decode cX11_tellBook 39 = .ok (.invokevirtual 200, 3) := by decide +kernel
theorem dX11_tellBook_42 : decode cX11_tellBook 42 = .ok (.aload_n 0, 1) := by decide +kernel
theorem dX11_tellBook_43 : decode cX11_tellBook 43 = .ok (.getfield 117, 3) := by decide +kernel
theorem dX11_tellBook_46 : decode cX11_tellBook 46 = .ok (.iload_n 2, 1) := by decide +kernel
theorem dX11_tellBook_47 : decode cX11_tellBook 47 = .ok (.iconst 2, 1) := by decide +kernel
theorem dX11_tellBook_48 : decode cX11_tellBook 48 = .ok (.aload_n 0, 1) := by decide +kernel
theorem dX11_tellBook_49 : decode cX11_tellBook 49 = .ok (.getfield 30, 3) := by decide +kernel
theorem dX11_tellBook_52 : decode cX11_tellBook 52 = .ok (.getfield 218, 3) := by decide +kernel
theorem dX11_tellBook_55 : decode cX11_tellBook 55 = .ok (.invokevirtual 200, 3) := by decide +kernel
theorem dX11_tellBook_58 : decode cX11_tellBook 58 = .ok (.aload_n 0, 1) := by decide +kernel
theorem dX11_tellBook_59 : decode cX11_tellBook 59 = .ok (.getfield 117, 3) := by decide +kernel
theorem dX11_tellBook_62 : decode cX11_tellBook 62 = .ok (.iload_n 2, 1) := by decide +kernel
theorem dX11_tellBook_63 : decode cX11_tellBook 63 = .ok (.iconst 3, 1) := by decide +kernel
theorem dX11_tellBook_64 : decode cX11_tellBook 64 = .ok (.aload_n 0, 1) := by decide +kernel
theorem dX11_tellBook_65 : decode cX11_tellBook 65 = .ok (.getfield 44, 3) := by decide +kernel
theorem dX11_tellBook_68 : decode cX11_tellBook 68 = .ok (.aload_n 0, 1) := by decide +kernel
theorem dX11_tellBook_69 : decode cX11_tellBook 69 = .ok (.getfield 19, 3) := by decide +kernel
theorem dX11_tellBook_72 : decode cX11_tellBook 72 = .ok (.aload_n 0, 1) := by decide +kernel
theorem dX11_tellBook_73 : decode cX11_tellBook 73 = .ok (.getfield 30, 3) := by decide +kernel
theorem dX11_tellBook_76 : decode cX11_tellBook 76 = .ok (.invokevirtual 224, 3) := by decide +kernel
theorem dX11_tellBook_79 : decode cX11_tellBook 79 = .ok (.invokevirtual 200, 3) := by decide +kernel
theorem dX11_tellBook_82 : decode cX11_tellBook 82 = .ok (.return_, 1) := by decide +kernel
theorem dX11_told_0 : decode cX11_told 0 = .ok (.aload_n 0, 1) := by decide +kernel
theorem dX11_told_1 : decode cX11_told 1 = .ok (.getfield 117, 3) := by decide +kernel
theorem dX11_told_4 : decode cX11_told 4 = .ok (.iconst 0, 1) := by decide +kernel
theorem dX11_told_5 : decode cX11_told 5 = .ok (.iload_n 1, 1) := by decide +kernel
theorem dX11_told_6 : decode cX11_told 6 = .ok (.invokevirtual 157, 3) := by decide +kernel
theorem dX11_told_9 : decode cX11_told 9 = .ok (.ireturn, 1) := by decide +kernel
theorem dX11_sentence_0 : decode cX11_sentence 0 = .ok (.aload_n 0, 1) := by decide +kernel
theorem dX11_sentence_1 : decode cX11_sentence 1 = .ok (.getfield 72, 3) := by decide +kernel
theorem dX11_sentence_4 : decode cX11_sentence 4 = .ok (.aload_n 0, 1) := by decide +kernel
theorem dX11_sentence_5 : decode cX11_sentence 5 = .ok (.getfield 10, 3) := by decide +kernel
theorem dX11_sentence_8 : decode cX11_sentence 8 = .ok (.aload_n 0, 1) := by decide +kernel
theorem dX11_sentence_9 : decode cX11_sentence 9 = .ok (.getfield 19, 3) := by decide +kernel
theorem dX11_sentence_12 : decode cX11_sentence 12 = .ok (.invokevirtual 329, 3) := by decide +kernel
theorem dX11_sentence_15 : decode cX11_sentence 15 = .ok (.istore_n 1, 1) := by decide +kernel
theorem dX11_sentence_16 : decode cX11_sentence 16 = .ok (.aload_n 0, 1) := by decide +kernel
theorem dX11_sentence_17 : decode cX11_sentence 17 = .ok (.getfield 10, 3) := by decide +kernel
theorem dX11_sentence_20 : decode cX11_sentence 20 = .ok (.iconst 0, 1) := by decide +kernel
theorem dX11_sentence_21 : decode cX11_sentence 21 = .ok (.putfield 120, 3) := by decide +kernel
theorem dX11_sentence_24 : decode cX11_sentence 24 = .ok (.aload_n 0, 1) := by decide +kernel
theorem dX11_sentence_25 : decode cX11_sentence 25 = .ok (.getfield 10, 3) := by decide +kernel
theorem dX11_sentence_28 : decode cX11_sentence 28 = .ok (.getfield 131, 3) := by decide +kernel
theorem dX11_sentence_31 : decode cX11_sentence 31 = .ok (.ifCond .eq 13, 3) := by decide +kernel
theorem dX11_sentence_34 : decode cX11_sentence 34 = .ok (.iconst (-1), 1) := by decide +kernel
theorem dX11_sentence_35 : decode cX11_sentence 35 = .ok (.aload_n 0, 1) := by decide +kernel
theorem dX11_sentence_36 : decode cX11_sentence 36 = .ok (.getfield 10, 3) := by decide +kernel
theorem dX11_sentence_39 : decode cX11_sentence 39 = .ok (.getfield 134, 3) := by decide +kernel
theorem dX11_sentence_42 : decode cX11_sentence 42 = .ok (.isub, 1) := by decide +kernel
theorem dX11_sentence_43 : decode cX11_sentence 43 = .ok (.ireturn, 1) := by decide +kernel
theorem dX11_sentence_44 : decode cX11_sentence 44 = .ok (.aload_n 0, 1) := by decide +kernel
theorem dX11_sentence_45 : decode cX11_sentence 45 = .ok (.getfield 58, 3) := by decide +kernel
theorem dX11_sentence_48 : decode cX11_sentence 48 = .ok (.aload_n 0, 1) := by decide +kernel
theorem dX11_sentence_49 : decode cX11_sentence 49 = .ok (.getfield 72, 3) := by decide +kernel
theorem dX11_sentence_52 : decode cX11_sentence 52 = .ok (.getfield 333, 3) := by decide +kernel
theorem dX11_sentence_55 : decode cX11_sentence 55 = .ok (.invokevirtual 335, 3) := by decide +kernel
theorem dX11_sentence_58 : decode cX11_sentence 58 = .ok (.iload_n 1, 1) := by decide +kernel
theorem dX11_sentence_59 : decode cX11_sentence 59 = .ok (.ireturn, 1) := by decide +kernel
theorem dX11_said_0 : decode cX11_said 0 = .ok (.aload_n 0, 1) := by decide +kernel
theorem dX11_said_1 : decode cX11_said 1 = .ok (.getfield 58, 3) := by decide +kernel
theorem dX11_said_4 : decode cX11_said 4 = .ok (.getfield 338, 3) := by decide +kernel
theorem dX11_said_7 : decode cX11_said 7 = .ok (.ifCond .ne 5, 3) := by decide +kernel
theorem dX11_said_10 : decode cX11_said 10 = .ok (.iconst (-1), 1) := by decide +kernel
theorem dX11_said_11 : decode cX11_said 11 = .ok (.ireturn, 1) := by decide +kernel
theorem dX11_said_12 : decode cX11_said 12 = .ok (.iconst 0, 1) := by decide +kernel
theorem dX11_said_13 : decode cX11_said 13 = .ok (.istore_n 2, 1) := by decide +kernel
theorem dX11_said_14 : decode cX11_said 14 = .ok (.iconst 0, 1) := by decide +kernel
theorem dX11_said_15 : decode cX11_said 15 = .ok (.istore_n 3, 1) := by decide +kernel
theorem dX11_said_16 : decode cX11_said 16 = .ok (.iload_n 3, 1) := by decide +kernel
theorem dX11_said_17 : decode cX11_said 17 = .ok (.aload_n 0, 1) := by decide +kernel
theorem dX11_said_18 : decode cX11_said 18 = .ok (.getfield 19, 3) := by decide +kernel
theorem dX11_said_21 : decode cX11_said 21 = .ok (.getfield 174, 3) := by decide +kernel
theorem dX11_said_24 : decode cX11_said 24 = .ok (.getfield 189, 3) := by decide +kernel
theorem dX11_said_27 : decode cX11_said 27 = .ok (.if_icmp .ge 42, 3) := by decide +kernel
theorem dX11_said_30 : decode cX11_said 30 = .ok (.aload_n 0, 1) := by decide +kernel
theorem dX11_said_31 : decode cX11_said 31 = .ok (.getfield 58, 3) := by decide +kernel
theorem dX11_said_34 : decode cX11_said 34 = .ok (.aload_n 0, 1) := by decide +kernel
theorem dX11_said_35 : decode cX11_said 35 = .ok (.getfield 19, 3) := by decide +kernel
theorem dX11_said_38 : decode cX11_said 38 = .ok (.aload_n 0, 1) := by decide +kernel
theorem dX11_said_39 : decode cX11_said 39 = .ok (.getfield 26, 3) := by decide +kernel
theorem dX11_said_42 : decode cX11_said 42 = .ok (.aload_n 0, 1) := by decide +kernel
theorem dX11_said_43 : decode cX11_said 43 = .ok (.getfield 44, 3) := by decide +kernel
theorem dX11_said_46 : decode cX11_said 46 = .ok (.iload_n 3, 1) := by decide +kernel
theorem dX11_said_47 : decode cX11_said 47 = .ok (.invokevirtual 339, 3) := by decide +kernel
theorem dX11_said_50 : decode cX11_said 50 = .ok (.ifCond .eq 13, 3) := by decide +kernel
theorem dX11_said_53 : decode cX11_said 53 = .ok (.iload_n 2, 1) := by decide +kernel
theorem dX11_said_54 : decode cX11_said 54 = .ok (.iload_n 1, 1) := by decide +kernel
theorem dX11_said_55 : decode cX11_said 55 = .ok (.if_icmp .ne 5, 3) := by decide +kernel
theorem dX11_said_58 : decode cX11_said 58 = .ok (.iload_n 3, 1) := by decide +kernel
theorem dX11_said_59 : decode cX11_said 59 = .ok (.ireturn, 1) := by decide +kernel
theorem dX11_said_60 : decode cX11_said 60 = .ok (.iinc 2 1, 3) := by decide +kernel
theorem dX11_said_63 : decode cX11_said 63 = .ok (.iinc 3 1, 3) := by decide +kernel
theorem dX11_said_66 : decode cX11_said 66 = .ok (.goto (-50), 3) := by decide +kernel
theorem dX11_said_69 : decode cX11_said 69 = .ok (.iload_n 1, 1) := by decide +kernel
theorem dX11_said_70 : decode cX11_said 70 = .ok (.iconst (-1), 1) := by decide +kernel
theorem dX11_said_71 : decode cX11_said 71 = .ok (.if_icmp .ne 7, 3) := by decide +kernel
theorem dX11_said_74 : decode cX11_said 74 = .ok (.iload_n 2, 1) := by decide +kernel
theorem dX11_said_75 : decode cX11_said 75 = .ok (.goto 4, 3) := by decide +kernel
theorem dX11_said_78 : decode cX11_said 78 = .ok (.iconst (-1), 1) := by decide +kernel
theorem dX11_said_79 : decode cX11_said 79 = .ok (.ireturn, 1) := by decide +kernel
theorem dX11_image_0 : decode cX11_image 0 = .ok (.iload_n 1, 1) := by decide +kernel
theorem dX11_image_1 : decode cX11_image 1 = .ok (.iconst 0, 1) := by decide +kernel
theorem dX11_image_2 : decode cX11_image 2 = .ok (.aload_n 0, 1) := by decide +kernel
theorem dX11_image_3 : decode cX11_image 3 = .ok (.getfield 101, 3) := by decide +kernel
theorem dX11_image_6 : decode cX11_image 6 = .ok (.arraylength, 1) := by decide +kernel
theorem dX11_image_7 : decode cX11_image 7 = .ok (.iconst 1, 1) := by decide +kernel
theorem dX11_image_8 : decode cX11_image 8 = .ok (.isub, 1) := by decide +kernel
theorem dX11_image_9 : decode cX11_image 9 = .ok (.invokestatic 237, 3) := by decide +kernel
theorem dX11_image_12 : decode cX11_image 12 = .ok (.ifCond .ne 5, 3) := by decide +kernel
theorem dX11_image_15 : decode cX11_image 15 = .ok (.iconst 0, 1) := by decide +kernel
theorem dX11_image_16 : decode cX11_image 16 = .ok (.ireturn, 1) := by decide +kernel
theorem dX11_image_17 : decode cX11_image 17 = .ok (.aload_n 0, 1) := by decide +kernel
theorem dX11_image_18 : decode cX11_image 18 = .ok (.getfield 90, 3) := by decide +kernel
theorem dX11_image_21 : decode cX11_image 21 = .ok (.iload_n 1, 1) := by decide +kernel
theorem dX11_image_22 : decode cX11_image 22 = .ok (.aaload, 1) := by decide +kernel
theorem dX11_image_23 : decode cX11_image 23 = .ok (.aload_n 0, 1) := by decide +kernel
theorem dX11_image_24 : decode cX11_image 24 = .ok (.getfield 19, 3) := by decide +kernel
theorem dX11_image_27 : decode cX11_image 27 = .ok (.invokevirtual 140, 3) := by decide +kernel
theorem dX11_image_30 : decode cX11_image 30 = .ok (.aload_n 0, 1) := by decide +kernel
theorem dX11_image_31 : decode cX11_image 31 = .ok (.getfield 94, 3) := by decide +kernel
theorem dX11_image_34 : decode cX11_image 34 = .ok (.iload_n 1, 1) := by decide +kernel
theorem dX11_image_35 : decode cX11_image 35 = .ok (.aaload, 1) := by decide +kernel
theorem dX11_image_36 : decode cX11_image 36 = .ok (.aload_n 0, 1) := by decide +kernel
theorem dX11_image_37 : decode cX11_image 37 = .ok (.getfield 26, 3) := by decide +kernel
theorem dX11_image_40 : decode cX11_image 40 = .ok (.invokevirtual 246, 3) := by decide +kernel
theorem dX11_image_43 : decode cX11_image 43 = .ok (.aload_n 0, 1) := by decide +kernel
theorem dX11_image_44 : decode cX11_image 44 = .ok (.getfield 97, 3) := by decide +kernel
theorem dX11_image_47 : decode cX11_image 47 = .ok (.iload_n 1, 1) := by decide +kernel
theorem dX11_image_48 : decode cX11_image 48 = .ok (.aaload, 1) := by decide +kernel
theorem dX11_image_49 : decode cX11_image 49 = .ok (.aload_n 0, 1) := by decide +kernel
theorem dX11_image_50 : decode cX11_image 50 = .ok (.getfield 58, 3) := by decide +kernel
theorem dX11_image_53 : decode cX11_image 53 = .ok (.invokevirtual 335, 3) := by decide +kernel
theorem dX11_image_56 : decode cX11_image 56 = .ok (.aload_n 0, 1) := by decide +kernel
theorem dX11_image_57 : decode cX11_image 57 = .ok (.getfield 101, 3) := by decide +kernel
theorem dX11_image_60 : decode cX11_image 60 = .ok (.iload_n 1, 1) := by decide +kernel
theorem dX11_image_61 : decode cX11_image 61 = .ok (.iconst 1, 1) := by decide +kernel
theorem dX11_image_62 : decode cX11_image 62 = .ok (.bastore, 1) := by decide +kernel
theorem dX11_image_63 : decode cX11_image 63 = .ok (.iconst 1, 1) := by decide +kernel
theorem dX11_image_64 : decode cX11_image 64 = .ok (.ireturn, 1) := by decide +kernel
theorem dX11_restore_0 : decode cX11_restore 0 = .ok (.iload_n 1, 1) := by decide +kernel
theorem dX11_restore_1 : decode cX11_restore 1 = .ok (.iconst 0, 1) := by decide +kernel
theorem dX11_restore_2 : decode cX11_restore 2 = .ok (.aload_n 0, 1) := by decide +kernel
theorem dX11_restore_3 : decode cX11_restore 3 = .ok (.getfield 101, 3) := by decide +kernel
theorem dX11_restore_6 : decode cX11_restore 6 = .ok (.arraylength, 1) := by decide +kernel
theorem dX11_restore_7 : decode cX11_restore 7 = .ok (.iconst 1, 1) := by decide +kernel
theorem dX11_restore_8 : decode cX11_restore 8 = .ok (.isub, 1) := by decide +kernel
theorem dX11_restore_9 : decode cX11_restore 9 = .ok (.invokestatic 237, 3) := by decide +kernel
theorem dX11_restore_12 : decode cX11_restore 12 = .ok (.ifCond .eq 12, 3) := by decide +kernel
theorem dX11_restore_15 : decode cX11_restore 15 = .ok (.aload_n 0, 1) := by decide +kernel
theorem dX11_restore_16 : decode cX11_restore 16 = .ok (.getfield 101, 3) := by decide +kernel
theorem dX11_restore_19 : decode cX11_restore 19 = .ok (.iload_n 1, 1) := by decide +kernel
theorem dX11_restore_20 : decode cX11_restore 20 = .ok (.baload, 1) := by decide +kernel
theorem dX11_restore_21 : decode cX11_restore 21 = .ok (.ifCond .ne 5, 3) := by decide +kernel
theorem dX11_restore_24 : decode cX11_restore 24 = .ok (.iconst 0, 1) := by decide +kernel
theorem dX11_restore_25 : decode cX11_restore 25 = .ok (.ireturn, 1) := by decide +kernel
theorem dX11_restore_26 : decode cX11_restore 26 = .ok (.aload_n 0, 1) := by decide +kernel
theorem dX11_restore_27 : decode cX11_restore 27 = .ok (.getfield 19, 3) := by decide +kernel
theorem dX11_restore_30 : decode cX11_restore 30 = .ok (.aload_n 0, 1) := by decide +kernel
theorem dX11_restore_31 : decode cX11_restore 31 = .ok (.getfield 90, 3) := by decide +kernel
theorem dX11_restore_34 : decode cX11_restore 34 = .ok (.iload_n 1, 1) := by decide +kernel
theorem dX11_restore_35 : decode cX11_restore 35 = .ok (.aaload, 1) := by decide +kernel
theorem dX11_restore_36 : decode cX11_restore 36 = .ok (.invokevirtual 140, 3) := by decide +kernel
theorem dX11_restore_39 : decode cX11_restore 39 = .ok (.aload_n 0, 1) := by decide +kernel
theorem dX11_restore_40 : decode cX11_restore 40 = .ok (.getfield 26, 3) := by decide +kernel
theorem dX11_restore_43 : decode cX11_restore 43 = .ok (.aload_n 0, 1) := by decide +kernel
theorem dX11_restore_44 : decode cX11_restore 44 = .ok (.getfield 94, 3) := by decide +kernel
theorem dX11_restore_47 : decode cX11_restore 47 = .ok (.iload_n 1, 1) := by decide +kernel
theorem dX11_restore_48 : decode cX11_restore 48 = .ok (.aaload, 1) := by decide +kernel
theorem dX11_restore_49 : decode cX11_restore 49 = .ok (.invokevirtual 246, 3) := by decide +kernel
theorem dX11_restore_52 : decode cX11_restore 52 = .ok (.aload_n 0, 1) := by decide +kernel
theorem dX11_restore_53 : decode cX11_restore 53 = .ok (.getfield 58, 3) := by decide +kernel
theorem dX11_restore_56 : decode cX11_restore 56 = .ok (.aload_n 0, 1) := by decide +kernel
theorem dX11_restore_57 : decode cX11_restore 57 = .ok (.getfield 97, 3) := by decide +kernel
theorem dX11_restore_60 : decode cX11_restore 60 = .ok (.iload_n 1, 1) := by decide +kernel
theorem dX11_restore_61 : decode cX11_restore 61 = .ok (.aaload, 1) := by decide +kernel
theorem dX11_restore_62 : decode cX11_restore 62 = .ok (.invokevirtual 335, 3) := by decide +kernel
theorem dX11_restore_65 : decode cX11_restore 65 = .ok (.aload_n 0, 1) := by decide +kernel
theorem dX11_restore_66 : decode cX11_restore 66 = .ok (.iconst 0, 1) := by decide +kernel
theorem dX11_restore_67 : decode cX11_restore 67 = .ok (.putfield 37, 3) := by decide +kernel
theorem dX11_restore_70 : decode cX11_restore 70 = .ok (.iconst 1, 1) := by decide +kernel
theorem dX11_restore_71 : decode cX11_restore 71 = .ok (.ireturn, 1) := by decide +kernel
theorem dX11_count_0 : decode cX11_count 0 = .ok (.iload_n 1, 1) := by decide +kernel
theorem dX11_count_1 : decode cX11_count 1 = .ok (.tableswitch 114 0 6 #[43, 51, 62, 73, 84, 95, 106], 43) := by decide +kernel
theorem dX11_count_44 : decode cX11_count 44 = .ok (.aload_n 0, 1) := by decide +kernel
theorem dX11_count_45 : decode cX11_count 45 = .ok (.getfield 19, 3) := by decide +kernel
theorem dX11_count_48 : decode cX11_count 48 = .ok (.getfield 343, 3) := by decide +kernel
theorem dX11_count_51 : decode cX11_count 51 = .ok (.ireturn, 1) := by decide +kernel
theorem dX11_count_52 : decode cX11_count 52 = .ok (.aload_n 0, 1) := by decide +kernel
theorem dX11_count_53 : decode cX11_count 53 = .ok (.getfield 19, 3) := by decide +kernel
theorem dX11_count_56 : decode cX11_count 56 = .ok (.getfield 150, 3) := by decide +kernel
theorem dX11_count_59 : decode cX11_count 59 = .ok (.getfield 189, 3) := by decide +kernel
theorem dX11_count_62 : decode cX11_count 62 = .ok (.ireturn, 1) := by decide +kernel
theorem dX11_count_63 : decode cX11_count 63 = .ok (.aload_n 0, 1) := by decide +kernel
theorem dX11_count_64 : decode cX11_count 64 = .ok (.getfield 19, 3) := by decide +kernel
theorem dX11_count_67 : decode cX11_count 67 = .ok (.getfield 165, 3) := by decide +kernel
theorem dX11_count_70 : decode cX11_count 70 = .ok (.getfield 189, 3) := by decide +kernel
theorem dX11_count_73 : decode cX11_count 73 = .ok (.ireturn, 1) := by decide +kernel
theorem dX11_count_74 : decode cX11_count 74 = .ok (.aload_n 0, 1) := by decide +kernel
theorem dX11_count_75 : decode cX11_count 75 = .ok (.getfield 19, 3) := by decide +kernel
theorem dX11_count_78 : decode cX11_count 78 = .ok (.getfield 180, 3) := by decide +kernel
theorem dX11_count_81 : decode cX11_count 81 = .ok (.getfield 189, 3) := by decide +kernel
theorem dX11_count_84 : decode cX11_count 84 = .ok (.ireturn, 1) := by decide +kernel
theorem dX11_count_85 : decode cX11_count 85 = .ok (.aload_n 0, 1) := by decide +kernel
theorem dX11_count_86 : decode cX11_count 86 = .ok (.getfield 19, 3) := by decide +kernel
theorem dX11_count_89 : decode cX11_count 89 = .ok (.getfield 174, 3) := by decide +kernel
theorem dX11_count_92 : decode cX11_count 92 = .ok (.getfield 189, 3) := by decide +kernel
theorem dX11_count_95 : decode cX11_count 95 = .ok (.ireturn, 1) := by decide +kernel
theorem dX11_count_96 : decode cX11_count 96 = .ok (.aload_n 0, 1) := by decide +kernel
theorem dX11_count_97 : decode cX11_count 97 = .ok (.getfield 19, 3) := by decide +kernel
theorem dX11_count_100 : decode cX11_count 100 = .ok (.getfield 346, 3) := by decide +kernel
theorem dX11_count_103 : decode cX11_count 103 = .ok (.getfield 189, 3) := by decide +kernel
theorem dX11_count_106 : decode cX11_count 106 = .ok (.ireturn, 1) := by decide +kernel
theorem dX11_count_107 : decode cX11_count 107 = .ok (.aload_n 0, 1) := by decide +kernel
theorem dX11_count_108 : decode cX11_count 108 = .ok (.getfield 10, 3) := by decide +kernel
theorem dX11_count_111 : decode cX11_count 111 = .ok (.getfield 120, 3) := by decide +kernel
theorem dX11_count_114 : decode cX11_count 114 = .ok (.ireturn, 1) := by decide +kernel
theorem dX11_count_115 : decode cX11_count 115 = .ok (.iconst (-1), 1) := by decide +kernel
theorem dX11_count_116 : decode cX11_count 116 = .ok (.ireturn, 1) := by decide +kernel
theorem dX12_thrown_0 : decode cX12_thrown 0 = .ok (.aload_n 0, 1) := by decide +kernel
theorem dX12_thrown_1 : decode cX12_thrown 1 = .ok (.getfield 1, 3) := by decide +kernel
theorem dX12_thrown_4 : decode cX12_thrown 4 = .ok (.ireturn, 1) := by decide +kernel
theorem dX12_refuse_0 : decode cX12_refuse 0 = .ok (.aload_n 0, 1) := by decide +kernel
theorem dX12_refuse_1 : decode cX12_refuse 1 = .ok (.iconst 1, 1) := by decide +kernel
theorem dX12_refuse_2 : decode cX12_refuse 2 = .ok (.putfield 1, 3) := by decide +kernel
theorem dX12_refuse_5 : decode cX12_refuse 5 = .ok (.iconst 0, 1) := by decide +kernel
theorem dX12_refuse_6 : decode cX12_refuse 6 = .ok (.ireturn, 1) := by decide +kernel
theorem dX12_come_0 : decode cX12_come 0 = .ok (.bipush 24, 2) := by decide +kernel
theorem dX12_come_2 : decode cX12_come 2 = .ok (.istore_n 2, 1) := by decide +kernel
theorem dX12_come_3 : decode cX12_come 3 = .ok (.iload_n 2, 1) := by decide +kernel
theorem dX12_come_4 : decode cX12_come 4 = .ok (.ifCond .lt 35, 3) := by decide +kernel
theorem dX12_come_7 : decode cX12_come 7 = .ok (.aload_n 0, 1) := by decide +kernel
theorem dX12_come_8 : decode cX12_come 8 = .ok (.getfield 7, 3) := by decide +kernel
theorem dX12_come_11 : decode cX12_come 11 = .ok (.aload_n 0, 1) := by decide +kernel
theorem dX12_come_12 : decode cX12_come 12 = .ok (.getfield 11, 3) := by decide +kernel
theorem dX12_come_15 : decode cX12_come 15 = .ok (.iload_n 1, 1) := by decide +kernel
theorem dX12_come_16 : decode cX12_come 16 = .ok (.iload_n 2, 1) := by decide +kernel
theorem dX12_come_17 : decode cX12_come 17 = .ok (.iushr, 1) := by decide +kernel
theorem dX12_come_18 : decode cX12_come 18 = .ok (.sipush 255, 3) := by decide +kernel
theorem dX12_come_21 : decode cX12_come 21 = .ok (.iand, 1) := by decide +kernel
theorem dX12_come_22 : decode cX12_come 22 = .ok (.iastore, 1) := by decide +kernel
theorem dX12_come_23 : decode cX12_come 23 = .ok (.aload_n 0, 1) := by decide +kernel
theorem dX12_come_24 : decode cX12_come 24 = .ok (.dup, 1) := by decide +kernel
theorem dX12_come_25 : decode cX12_come 25 = .ok (.getfield 11, 3) := by decide +kernel
theorem dX12_come_28 : decode cX12_come 28 = .ok (.iconst 1, 1) := by decide +kernel
theorem dX12_come_29 : decode cX12_come 29 = .ok (.iadd, 1) := by decide +kernel
theorem dX12_come_30 : decode cX12_come 30 = .ok (.putfield 11, 3) := by decide +kernel
theorem dX12_come_33 : decode cX12_come 33 = .ok (.iinc 2 (-8), 3) := by decide +kernel
theorem dX12_come_36 : decode cX12_come 36 = .ok (.goto (-33), 3) := by decide +kernel
theorem dX12_come_39 : decode cX12_come 39 = .ok (.return_, 1) := by decide +kernel
theorem dX12_feed_0 : decode cX12_feed 0 = .ok (.aload_n 0, 1) := by decide +kernel
theorem dX12_feed_1 : decode cX12_feed 1 = .ok (.iconst 0, 1) := by decide +kernel
theorem dX12_feed_2 : decode cX12_feed 2 = .ok (.putfield 1, 3) := by decide +kernel
theorem dX12_feed_5 : decode cX12_feed 5 = .ok (.aload_n 0, 1) := by decide +kernel
theorem dX12_feed_6 : decode cX12_feed 6 = .ok (.getfield 11, 3) := by decide +kernel
theorem dX12_feed_9 : decode cX12_feed 9 = .ok (.bipush 20, 2) := by decide +kernel
theorem dX12_feed_11 : decode cX12_feed 11 = .ok (.iadd, 1) := by decide +kernel
theorem dX12_feed_12 : decode cX12_feed 12 = .ok (.sipush 940, 3) := by decide +kernel
theorem dX12_feed_15 : decode cX12_feed 15 = .ok (.if_icmp .le 5, 3) := by decide +kernel
theorem dX12_feed_18 : decode cX12_feed 18 = .ok (.iconst (-1), 1) := by decide +kernel
theorem dX12_feed_19 : decode cX12_feed 19 = .ok (.ireturn, 1) := by decide +kernel
theorem dX12_feed_20 : decode cX12_feed 20 = .ok (.aload_n 0, 1) := by decide +kernel
theorem dX12_feed_21 : decode cX12_feed 21 = .ok (.iload_n 1, 1) := by decide +kernel
theorem dX12_feed_22 : decode cX12_feed 22 = .ok (.invokevirtual 14, 3) := by decide +kernel
theorem dX12_feed_25 : decode cX12_feed 25 = .ok (.aload_n 0, 1) := by decide +kernel
theorem dX12_feed_26 : decode cX12_feed 26 = .ok (.iload_n 2, 1) := by decide +kernel
theorem dX12_feed_27 : decode cX12_feed 27 = .ok (.invokevirtual 14, 3) := by decide +kernel
theorem dX12_feed_30 : decode cX12_feed 30 = .ok (.aload_n 0, 1) := by decide +kernel
theorem dX12_feed_31 : decode cX12_feed 31 = .ok (.iload_n 3, 1) := by decide +kernel
theorem dX12_feed_32 : decode cX12_feed 32 = .ok (.invokevirtual 14, 3) := by decide +kernel
theorem dX12_feed_35 : decode cX12_feed 35 = .ok (.aload_n 0, 1) := by decide +kernel
theorem dX12_feed_36 : decode cX12_feed 36 = .ok (.iload 4, 2) := by decide +kernel
theorem dX12_feed_38 : decode cX12_feed 38 = .ok (.invokevirtual 14, 3) := by decide +kernel
theorem dX12_feed_41 : decode cX12_feed 41 = .ok (.aload_n 0, 1) := by decide +kernel
theorem dX12_feed_42 : decode cX12_feed 42 = .ok (.iload 5, 2) := by decide +kernel
theorem dX12_feed_44 : decode cX12_feed 44 = .ok (.invokevirtual 14, 3) := by decide +kernel
theorem dX12_feed_47 : decode cX12_feed 47 = .ok (.aload_n 0, 1) := by decide +kernel
theorem dX12_feed_48 : decode cX12_feed 48 = .ok (.getfield 11, 3) := by decide +kernel
theorem dX12_feed_51 : decode cX12_feed 51 = .ok (.ireturn, 1) := by decide +kernel
theorem dX12_end_0 : decode cX12_end 0 = .ok (.aload_n 0, 1) := by decide +kernel
theorem dX12_end_1 : decode cX12_end 1 = .ok (.iconst 0, 1) := by decide +kernel
theorem dX12_end_2 : decode cX12_end 2 = .ok (.putfield 1, 3) := by decide +kernel
theorem dX12_end_5 : decode cX12_end 5 = .ok (.iload_n 1, 1) := by decide +kernel
theorem dX12_end_6 : decode cX12_end 6 = .ok (.ifCond .lt 11, 3) := by decide +kernel
theorem dX12_end_9 : decode cX12_end 9 = .ok (.iload_n 1, 1) := by decide +kernel
theorem dX12_end_10 : decode cX12_end 10 = .ok (.aload_n 0, 1) := by decide +kernel
theorem dX12_end_11 : decode cX12_end 11 = .ok (.getfield 11, 3) := by decide +kernel
theorem dX12_end_14 : decode cX12_end 14 = .ok (.if_icmp .le 5, 3) := by decide +kernel
theorem dX12_end_17 : decode cX12_end 17 = .ok (.iconst 0, 1) := by decide +kernel
theorem dX12_end_18 : decode cX12_end 18 = .ok (.ireturn, 1) := by decide +kernel
theorem dX12_end_19 : decode cX12_end 19 = .ok (.aload_n 0, 1) := by decide +kernel
theorem dX12_end_20 : decode cX12_end 20 = .ok (.iload_n 1, 1) := by decide +kernel
theorem dX12_end_21 : decode cX12_end 21 = .ok (.putfield 11, 3) := by decide +kernel
theorem dX12_end_24 : decode cX12_end 24 = .ok (.iconst 1, 1) := by decide +kernel
theorem dX12_end_25 : decode cX12_end 25 = .ok (.ireturn, 1) := by decide +kernel
theorem dX12_take_0 : decode cX12_take 0 = .ok (.aload_n 0, 1) := by decide +kernel
theorem dX12_take_1 : decode cX12_take 1 = .ok (.getfield 11, 3) := by decide +kernel
theorem dX12_take_4 : decode cX12_take 4 = .ok (.istore_n 1, 1) := by decide +kernel
theorem dX12_take_5 : decode cX12_take 5 = .ok (.aload_n 0, 1) := by decide +kernel
theorem dX12_take_6 : decode cX12_take 6 = .ok (.iconst 0, 1) := by decide +kernel
theorem dX12_take_7 : decode cX12_take 7 = .ok (.putfield 11, 3) := by decide +kernel
theorem dX12_take_10 : decode cX12_take 10 = .ok (.iload_n 1, 1) := by decide +kernel
theorem dX12_take_11 : decode cX12_take 11 = .ok (.ireturn, 1) := by decide +kernel
theorem dX12_isIn_0 : decode cX12_isIn 0 = .ok (.iload_n 0, 1) := by decide +kernel
theorem dX12_isIn_1 : decode cX12_isIn 1 = .ok (.iload_n 1, 1) := by decide +kernel
theorem dX12_isIn_2 : decode cX12_isIn 2 = .ok (.if_icmp .lt 12, 3) := by decide +kernel
theorem dX12_isIn_5 : decode cX12_isIn 5 = .ok (.iload_n 0, 1) := by decide +kernel
theorem dX12_isIn_6 : decode cX12_isIn 6 = .ok (.iload_n 2, 1) := by decide +kernel
theorem dX12_isIn_7 : decode cX12_isIn 7 = .ok (.if_icmp .gt 7, 3) := by decide +kernel
theorem dX12_isIn_10 : decode cX12_isIn 10 = .ok (.iconst 1, 1) := by decide +kernel
theorem dX12_isIn_11 : decode cX12_isIn 11 = .ok (.goto 4, 3) := by decide +kernel
theorem dX12_isIn_14 : decode cX12_isIn 14 = .ok (.iconst 0, 1) := by decide +kernel
theorem dX12_isIn_15 : decode cX12_isIn 15 = .ok (.ireturn, 1) := by decide +kernel
theorem dX12_has_0 : decode cX12_has 0 = .ok (.iload_n 0, 1) := by decide +kernel
theorem dX12_has_1 : decode cX12_has 1 = .ok (.iload_n 1, 1) := by decide +kernel
theorem dX12_has_2 : decode cX12_has 2 = .ok (.ishr, 1) := by decide +kernel
theorem dX12_has_3 : decode cX12_has 3 = .ok (.iconst 1, 1) := by decide +kernel
theorem dX12_has_4 : decode cX12_has 4 = .ok (.iand, 1) := by decide +kernel
theorem dX12_has_5 : decode cX12_has 5 = .ok (.iconst 1, 1) := by decide +kernel
theorem dX12_has_6 : decode cX12_has 6 = .ok (.if_icmp .ne 7, 3) := by decide +kernel
theorem dX12_has_9 : decode cX12_has 9 = .ok (.iconst 1, 1) := by decide +kernel
theorem dX12_has_10 : decode cX12_has 10 = .ok (.goto 4, 3) := by decide +kernel
theorem dX12_has_13 : decode cX12_has 13 = .ok (.iconst 0, 1) := by decide +kernel
theorem dX12_has_14 : decode cX12_has 14 = .ok (.ireturn, 1) := by decide +kernel
theorem dX12_size_0 : decode cX12_size 0 = .ok (.iload_n 0, 1) := by decide +kernel
theorem dX12_size_1 : decode cX12_size 1 = .ok (.ifCond .ge 8, 3) := by decide +kernel
theorem dX12_size_4 : decode cX12_size 4 = .ok (.iload_n 0, 1) := by decide +kernel
theorem dX12_size_5 : decode cX12_size 5 = .ok (.ineg, 1) := by decide +kernel
theorem dX12_size_6 : decode cX12_size 6 = .ok (.goto 4, 3) := by decide +kernel
theorem dX12_size_9 : decode cX12_size 9 = .ok (.iload_n 0, 1) := by decide +kernel
theorem dX12_size_10 : decode cX12_size 10 = .ok (.ireturn, 1) := by decide +kernel
theorem dX12_common_0 : decode cX12_common 0 = .ok (.iload_n 0, 1) := by decide +kernel
theorem dX12_common_1 : decode cX12_common 1 = .ok (.istore_n 2, 1) := by decide +kernel
theorem dX12_common_2 : decode cX12_common 2 = .ok (.iload_n 1, 1) := by decide +kernel
theorem dX12_common_3 : decode cX12_common 3 = .ok (.istore_n 3, 1) := by decide +kernel
theorem dX12_common_4 : decode cX12_common 4 = .ok (.iload_n 3, 1) := by decide +kernel
theorem dX12_common_5 : decode cX12_common 5 = .ok (.ifCond .eq 16, 3) := by decide +kernel
theorem dX12_common_8 : decode cX12_common 8 = .ok (.iload_n 2, 1) := by decide +kernel
theorem dX12_common_9 : decode cX12_common 9 = .ok (.iload_n 3, 1) := by decide +kernel
theorem dX12_common_10 : decode cX12_common 10 = .ok (.irem, 1) := by decide +kernel
theorem dX12_common_11 : decode cX12_common 11 = .ok (.istore 4, 2) := by decide +kernel
theorem dX12_common_13 : decode cX12_common 13 = .ok (.iload_n 3, 1) := by decide +kernel
theorem dX12_common_14 : decode cX12_common 14 = .ok (.istore_n 2, 1) := by decide +kernel
theorem dX12_common_15 : decode cX12_common 15 = .ok (.iload 4, 2) := by decide +kernel
theorem dX12_common_17 : decode cX12_common 17 = .ok (.istore_n 3, 1) := by decide +kernel
theorem dX12_common_18 : decode cX12_common 18 = .ok (.goto (-14), 3) := by decide +kernel
theorem dX12_common_21 : decode cX12_common 21 = .ok (.iload_n 2, 1) := by decide +kernel
theorem dX12_common_22 : decode cX12_common 22 = .ok (.ireturn, 1) := by decide +kernel
theorem dX12_tapeAt_0 : decode cX12_tapeAt 0 = .ok (.iload_n 1, 1) := by decide +kernel
theorem dX12_tapeAt_1 : decode cX12_tapeAt 1 = .ok (.aload_n 0, 1) := by decide +kernel
theorem dX12_tapeAt_2 : decode cX12_tapeAt 2 = .ok (.getfield 18, 3) := by decide +kernel
theorem dX12_tapeAt_5 : decode cX12_tapeAt 5 = .ok (.if_icmp .ge 12, 3) := by decide +kernel
theorem dX12_tapeAt_8 : decode cX12_tapeAt 8 = .ok (.aload_n 0, 1) := by decide +kernel
theorem dX12_tapeAt_9 : decode cX12_tapeAt 9 = .ok (.getfield 7, 3) := by decide +kernel
theorem dX12_tapeAt_12 : decode cX12_tapeAt 12 = .ok (.iload_n 1, 1) := by decide +kernel
theorem dX12_tapeAt_13 : decode cX12_tapeAt 13 = .ok (.iaload, 1) := by decide +kernel
theorem dX12_tapeAt_14 : decode cX12_tapeAt 14 = .ok (.goto 4, 3) := by decide +kernel
theorem dX12_tapeAt_17 : decode cX12_tapeAt 17 = .ok (.iconst 0, 1) := by decide +kernel
theorem dX12_tapeAt_18 : decode cX12_tapeAt 18 = .ok (.ireturn, 1) := by decide +kernel
theorem dX12_isDigit_0 : decode cX12_isDigit 0 = .ok (.iload_n 0, 1) := by decide +kernel
theorem dX12_isDigit_1 : decode cX12_isDigit 1 = .ok (.bipush 48, 2) := by decide +kernel
theorem dX12_isDigit_3 : decode cX12_isDigit 3 = .ok (.if_icmp .lt 13, 3) := by decide +kernel
theorem dX12_isDigit_6 : decode cX12_isDigit 6 = .ok (.iload_n 0, 1) := by decide +kernel
theorem dX12_isDigit_7 : decode cX12_isDigit 7 = .ok (.bipush 57, 2) := by decide +kernel
theorem dX12_isDigit_9 : decode cX12_isDigit 9 = .ok (.if_icmp .gt 7, 3) := by decide +kernel
theorem dX12_isDigit_12 : decode cX12_isDigit 12 = .ok (.iconst 1, 1) := by decide +kernel
theorem dX12_isDigit_13 : decode cX12_isDigit 13 = .ok (.goto 4, 3) := by decide +kernel
theorem dX12_isDigit_16 : decode cX12_isDigit 16 = .ok (.iconst 0, 1) := by decide +kernel
theorem dX12_isDigit_17 : decode cX12_isDigit 17 = .ok (.ireturn, 1) := by decide +kernel
theorem dX12_isLetter_0 : decode cX12_isLetter 0 = .ok (.iload_n 0, 1) := by decide +kernel
theorem dX12_isLetter_1 : decode cX12_isLetter 1 = .ok (.bipush 97, 2) := by decide +kernel
theorem dX12_isLetter_3 : decode cX12_isLetter 3 = .ok (.if_icmp .lt 13, 3) := by decide +kernel
theorem dX12_isLetter_6 : decode cX12_isLetter 6 = .ok (.iload_n 0, 1) := by decide +kernel
theorem dX12_isLetter_7 : decode cX12_isLetter 7 = .ok (.bipush 122, 2) := by decide +kernel
theorem dX12_isLetter_9 : decode cX12_isLetter 9 = .ok (.if_icmp .gt 7, 3) := by decide +kernel
theorem dX12_isLetter_12 : decode cX12_isLetter 12 = .ok (.iconst 1, 1) := by decide +kernel
theorem dX12_isLetter_13 : decode cX12_isLetter 13 = .ok (.goto 4, 3) := by decide +kernel
theorem dX12_isLetter_16 : decode cX12_isLetter 16 = .ok (.iconst 0, 1) := by decide +kernel
theorem dX12_isLetter_17 : decode cX12_isLetter 17 = .ok (.ireturn, 1) := by decide +kernel
theorem dX12_go_0 : decode cX12_go 0 = .ok (.aload_n 0, 1) := by decide +kernel
theorem dX12_go_1 : decode cX12_go 1 = .ok (.getfield 21, 3) := by decide +kernel
theorem dX12_go_4 : decode cX12_go 4 = .ok (.aload_n 0, 1) := by decide +kernel
theorem dX12_go_5 : decode cX12_go 5 = .ok (.getfield 18, 3) := by decide +kernel
theorem dX12_go_8 : decode cX12_go 8 = .ok (.if_icmp .ge 44, 3) := by decide +kernel
theorem dX12_go_11 : decode cX12_go 11 = .ok (.aload_n 0, 1) := by decide +kernel
theorem dX12_go_12 : decode cX12_go 12 = .ok (.getfield 7, 3) := by decide +kernel
theorem dX12_go_15 : decode cX12_go 15 = .ok (.aload_n 0, 1) := by decide +kernel
theorem dX12_go_16 : decode cX12_go 16 = .ok (.getfield 21, 3) := by decide +kernel
theorem dX12_go_19 : decode cX12_go 19 = .ok (.iaload, 1) := by decide +kernel
theorem dX12_go_20 : decode cX12_go 20 = .ok (.bipush 32, 2) := by decide +kernel
theorem dX12_go_22 : decode cX12_go 22 = .ok (.if_icmp .eq 17, 3) := by decide +kernel
theorem dX12_go_25 : decode cX12_go 25 = .ok (.aload_n 0, 1) := by decide +kernel
theorem dX12_go_26 : decode cX12_go 26 = .ok (.getfield 7, 3) := by decide +kernel
theorem dX12_go_29 : decode cX12_go 29 = .ok (.aload_n 0, 1) := by decide +kernel
theorem dX12_go_30 : decode cX12_go 30 = .ok (.getfield 21, 3) := by decide +kernel
theorem dX12_go_33 : decode cX12_go 33 = .ok (.iaload, 1) := by decide +kernel
theorem dX12_go_34 : decode cX12_go 34 = .ok (.bipush 10, 2) := by decide +kernel
theorem dX12_go_36 : decode cX12_go 36 = .ok (.if_icmp .ne 16, 3) := by decide +kernel
theorem dX12_go_39 : decode cX12_go 39 = .ok (.aload_n 0, 1) := by decide +kernel
theorem dX12_go_40 : decode cX12_go 40 = .ok (.dup, 1) := by decide +kernel
theorem dX12_go_41 : decode cX12_go 41 = .ok (.getfield 21, 3) := by decide +kernel
theorem dX12_go_44 : decode cX12_go 44 = .ok (.iconst 1, 1) := by decide +kernel
theorem dX12_go_45 : decode cX12_go 45 = .ok (.iadd, 1) := by decide +kernel
theorem dX12_go_46 : decode cX12_go 46 = .ok (.putfield 21, 3) := by decide +kernel
theorem dX12_go_49 : decode cX12_go 49 = .ok (.goto (-49), 3) := by decide +kernel
theorem dX12_go_52 : decode cX12_go 52 = .ok (.aload_n 0, 1) := by decide +kernel
theorem dX12_go_53 : decode cX12_go 53 = .ok (.aload_n 0, 1) := by decide +kernel
theorem dX12_go_54 : decode cX12_go 54 = .ok (.getfield 21, 3) := by decide +kernel
theorem dX12_go_57 : decode cX12_go 57 = .ok (.putfield 24, 3) := by decide +kernel
theorem dX12_go_60 : decode cX12_go 60 = .ok (.aload_n 0, 1) := by decide +kernel
theorem dX12_go_61 : decode cX12_go 61 = .ok (.getfield 18, 3) := by decide +kernel
theorem dX12_go_64 : decode cX12_go 64 = .ok (.aload_n 0, 1) := by decide +kernel
theorem dX12_go_65 : decode cX12_go 65 = .ok (.getfield 27, 3) := by decide +kernel
theorem dX12_go_68 : decode cX12_go 68 = .ok (.if_icmp .le 28, 3) := by decide +kernel
theorem dX12_go_71 : decode cX12_go 71 = .ok (.aload_n 0, 1) := by decide +kernel
theorem dX12_go_72 : decode cX12_go 72 = .ok (.getfield 24, 3) := by decide +kernel
theorem dX12_go_75 : decode cX12_go 75 = .ok (.aload_n 0, 1) := by decide +kernel
theorem dX12_go_76 : decode cX12_go 76 = .ok (.getfield 27, 3) := by decide +kernel
theorem dX12_go_79 : decode cX12_go 79 = .ok (.if_icmp .lt 17, 3) := by decide +kernel
theorem dX12_go_82 : decode cX12_go 82 = .ok (.aload_n 0, 1) := by decide +kernel
theorem dX12_go_83 : decode cX12_go 83 = .ok (.aload_n 0, 1) := by decide +kernel
theorem dX12_go_84 : decode cX12_go 84 = .ok (.getfield 27, 3) := by decide +kernel
theorem dX12_go_87 : decode cX12_go 87 = .ok (.putfield 24, 3) := by decide +kernel
theorem dX12_go_90 : decode cX12_go 90 = .ok (.aload_n 0, 1) := by decide +kernel
theorem dX12_go_91 : decode cX12_go 91 = .ok (.iconst 1, 1) := by decide +kernel
theorem dX12_go_92 : decode cX12_go 92 = .ok (.putfield 30, 3) := by decide +kernel
theorem dX12_go_95 : decode cX12_go 95 = .ok (.return_, 1) := by decide +kernel
theorem dX12_go_96 : decode cX12_go 96 = .ok (.aload_n 0, 1) := by decide +kernel
theorem dX12_go_97 : decode cX12_go 97 = .ok (.getfield 21, 3) := by decide +kernel
theorem dX12_go_100 : decode cX12_go 100 = .ok (.aload_n 0, 1) := by decide +kernel
theorem dX12_go_101 : decode cX12_go 101 = .ok (.getfield 18, 3) := by decide +kernel
theorem dX12_go_104 : decode cX12_go 104 = .ok (.if_icmp .lt 9, 3) := by decide +kernel
theorem dX12_go_107 : decode cX12_go 107 = .ok (.aload_n 0, 1) := by decide +kernel
theorem dX12_go_108 : decode cX12_go 108 = .ok (.iconst 0, 1) := by decide +kernel
theorem dX12_go_109 : decode cX12_go 109 = .ok (.putfield 30, 3) := by decide +kernel
theorem dX12_go_112 : decode cX12_go 112 = .ok (.return_, 1) := by decide +kernel
theorem dX12_go_113 : decode cX12_go 113 = .ok (.aload_n 0, 1) := by decide +kernel
theorem dX12_go_114 : decode cX12_go 114 = .ok (.getfield 7, 3) := by decide +kernel
theorem dX12_go_117 : decode cX12_go 117 = .ok (.aload_n 0, 1) := by decide +kernel
theorem dX12_go_118 : decode cX12_go 118 = .ok (.getfield 21, 3) := by decide +kernel
theorem dX12_go_121 : decode cX12_go 121 = .ok (.iaload, 1) := by decide +kernel
theorem dX12_go_122 : decode cX12_go 122 = .ok (.istore_n 1, 1) := by decide +kernel
theorem dX12_go_123 : decode cX12_go 123 = .ok (.iload_n 1, 1) := by decide +kernel
theorem dX12_go_124 : decode cX12_go 124 = .ok (.invokestatic 33, 3) := by decide +kernel
theorem dX12_go_127 : decode cX12_go 127 = .ok (.ifCond .ne 71, 3) := by decide +kernel
theorem dX12_go_130 : decode cX12_go 130 = .ok (.iload_n 1, 1) := by decide +kernel
theorem dX12_go_131 : decode cX12_go 131 = .ok (.invokestatic 37, 3) := by decide +kernel
theorem dX12_go_134 : decode cX12_go 134 = .ok (.ifCond .ne 64, 3) := by decide +kernel
theorem dX12_go_137 : decode cX12_go 137 = .ok (.aload_n 0, 1) := by decide +kernel
theorem dX12_go_138 : decode cX12_go 138 = .ok (.iload_n 1, 1) := by decide +kernel
theorem dX12_go_139 : decode cX12_go 139 = .ok (.bipush 59, 2) := by decide +kernel
theorem dX12_go_141 : decode cX12_go 141 = .ok (.if_icmp .eq 33, 3) := by decide +kernel
theorem dX12_go_144 : decode cX12_go 144 = .ok (.iload_n 1, 1) := by decide +kernel
theorem dX12_go_145 : decode cX12_go 145 = .ok (.bipush 60, 2) := by decide +kernel
theorem dX12_go_147 : decode cX12_go 147 = .ok (.if_icmp .eq 27, 3) := by decide +kernel
theorem dX12_go_150 : decode cX12_go 150 = .ok (.iload_n 1, 1) := by decide +kernel
theorem dX12_go_151 : decode cX12_go 151 = .ok (.bipush 61, 2) := by decide +kernel
theorem dX12_go_153 : decode cX12_go 153 = .ok (.if_icmp .eq 21, 3) := by decide +kernel
theorem dX12_go_156 : decode cX12_go 156 = .ok (.iload_n 1, 1) := by decide +kernel
theorem dX12_go_157 : decode cX12_go 157 = .ok (.bipush 62, 2) := by decide +kernel
theorem dX12_go_159 : decode cX12_go 159 = .ok (.if_icmp .eq 15, 3) := by decide +kernel
theorem dX12_go_162 : decode cX12_go 162 = .ok (.iload_n 1, 1) := by decide +kernel
theorem dX12_go_163 : decode cX12_go 163 = .ok (.bipush 40, 2) := by decide +kernel
theorem dX12_go_165 : decode cX12_go 165 = .ok (.if_icmp .eq 9, 3) := by decide +kernel
theorem dX12_go_168 : decode cX12_go 168 = .ok (.iload_n 1, 1) := by decide +kernel
theorem dX12_go_169 : decode cX12_go 169 = .ok (.bipush 41, 2) := by decide +kernel
theorem dX12_go_171 : decode cX12_go 171 = .ok (.if_icmp .ne 7, 3) := by decide +kernel
theorem dX12_go_174 : decode cX12_go 174 = .ok (.iconst 4, 1) := by decide +kernel
theorem dX12_go_175 : decode cX12_go 175 = .ok (.goto 4, 3) := by decide +kernel
theorem dX12_go_178 : decode cX12_go 178 = .ok (.iconst 1, 1) := by decide +kernel
theorem dX12_go_179 : decode cX12_go 179 = .ok (.putfield 30, 3) := by decide +kernel
theorem dX12_go_182 : decode cX12_go 182 = .ok (.aload_n 0, 1) := by decide +kernel
theorem dX12_go_183 : decode cX12_go 183 = .ok (.iload_n 1, 1) := by decide +kernel
theorem dX12_go_184 : decode cX12_go 184 = .ok (.putfield 40, 3) := by decide +kernel
theorem dX12_go_187 : decode cX12_go 187 = .ok (.aload_n 0, 1) := by decide +kernel
theorem dX12_go_188 : decode cX12_go 188 = .ok (.dup, 1) := by decide +kernel
theorem dX12_go_189 : decode cX12_go 189 = .ok (.getfield 21, 3) := by decide +kernel
theorem dX12_go_192 : decode cX12_go 192 = .ok (.iconst 1, 1) := by decide +kernel
theorem dX12_go_193 : decode cX12_go 193 = .ok (.iadd, 1) := by decide +kernel
theorem dX12_go_194 : decode cX12_go 194 = .ok (.putfield 21, 3) := by decide +kernel
theorem dX12_go_197 : decode cX12_go 197 = .ok (.return_, 1) := by decide +kernel
theorem dX12_go_198 : decode cX12_go 198 = .ok (.iload_n 1, 1) := by decide +kernel
theorem dX12_go_199 : decode cX12_go 199 = .ok (.invokestatic 33, 3) := by decide +kernel
theorem dX12_go_202 : decode cX12_go 202 = .ok (.istore_n 2, 1) := by decide +kernel
theorem dX12_go_203 : decode cX12_go 203 = .ok (.iconst 1, 1) := by decide +kernel
theorem dX12_go_204 : decode cX12_go 204 = .ok (.istore_n 3, 1) := by decide +kernel
theorem dX12_go_205 : decode cX12_go 205 = .ok (.aload_n 0, 1) := by decide +kernel
theorem dX12_go_206 : decode cX12_go 206 = .ok (.lconst 0, 1) := by decide +kernel
theorem dX12_go_207 : decode cX12_go 207 = .ok (.putfield 43, 3) := by decide +kernel
theorem dX12_go_210 : decode cX12_go 210 = .ok (.aload_n 0, 1) := by decide +kernel
theorem dX12_go_211 : decode cX12_go 211 = .ok (.iconst 0, 1) := by decide +kernel
theorem dX12_go_212 : decode cX12_go 212 = .ok (.putfield 47, 3) := by decide +kernel
theorem dX12_go_215 : decode cX12_go 215 = .ok (.aload_n 0, 1) := by decide +kernel
theorem dX12_go_216 : decode cX12_go 216 = .ok (.aload_n 0, 1) := by decide +kernel
theorem dX12_go_217 : decode cX12_go 217 = .ok (.getfield 21, 3) := by decide +kernel
theorem dX12_go_220 : decode cX12_go 220 = .ok (.invokevirtual 50, 3) := by decide +kernel
theorem dX12_go_223 : decode cX12_go 223 = .ok (.invokestatic 33, 3) := by decide +kernel
theorem dX12_go_226 : decode cX12_go 226 = .ok (.ifCond .ne 17, 3) := by decide +kernel
theorem dX12_go_229 : decode cX12_go 229 = .ok (.aload_n 0, 1) := by decide +kernel
theorem dX12_go_230 : decode cX12_go 230 = .ok (.aload_n 0, 1) := by decide +kernel
theorem dX12_go_231 : decode cX12_go 231 = .ok (.getfield 21, 3) := by decide +kernel
theorem dX12_go_234 : decode cX12_go 234 = .ok (.invokevirtual 50, 3) := by decide +kernel
theorem dX12_go_237 : decode cX12_go 237 = .ok (.invokestatic 37, 3) := by decide +kernel
theorem dX12_go_240 : decode cX12_go 240 = .ok (.ifCond .eq 110, 3) := by decide +kernel
theorem dX12_go_243 : decode cX12_go 243 = .ok (.aload_n 0, 1) := by decide +kernel
theorem dX12_go_244 : decode cX12_go 244 = .ok (.getfield 7, 3) := by decide +kernel
theorem dX12_go_247 : decode cX12_go 247 = .ok (.aload_n 0, 1) := by decide +kernel
theorem dX12_go_248 : decode cX12_go 248 = .ok (.getfield 21, 3) := by decide +kernel
theorem dX12_go_251 : decode cX12_go 251 = .ok (.iaload, 1) := by decide +kernel
theorem dX12_go_252 : decode cX12_go 252 = .ok (.istore 4, 2) := by decide +kernel
theorem dX12_go_254 : decode cX12_go 254 = .ok (.iload_n 3, 1) := by decide +kernel
theorem dX12_go_255 : decode cX12_go 255 = .ok (.ifCond .eq 16, 3) := by decide +kernel
theorem dX12_go_258 : decode cX12_go 258 = .ok (.iload 4, 2) := by decide +kernel
theorem dX12_go_260 : decode cX12_go 260 = .ok (.invokestatic 33, 3) := by decide +kernel
theorem dX12_go_263 : decode cX12_go 263 = .ok (.iload_n 2, 1) := by decide +kernel
theorem dX12_go_264 : decode cX12_go 264 = .ok (.if_icmp .ne 7, 3) := by decide +kernel
theorem dX12_go_267 : decode cX12_go 267 = .ok (.iconst 1, 1) := by decide +kernel
theorem dX12_go_268 : decode cX12_go 268 = .ok (.goto 4, 3) := by decide +kernel
theorem dX12_go_271 : decode cX12_go 271 = .ok (.iconst 0, 1) := by decide +kernel
theorem dX12_go_272 : decode cX12_go 272 = .ok (.istore_n 3, 1) := by decide +kernel
theorem dX12_go_273 : decode cX12_go 273 = .ok (.aload_n 0, 1) := by decide +kernel
theorem dX12_go_274 : decode cX12_go 274 = .ok (.getfield 21, 3) := by decide +kernel
theorem dX12_go_277 : decode cX12_go 277 = .ok (.aload_n 0, 1) := by decide +kernel
theorem dX12_go_278 : decode cX12_go 278 = .ok (.getfield 24, 3) := by decide +kernel
theorem dX12_go_281 : decode cX12_go 281 = .ok (.isub, 1) := by decide +kernel
theorem dX12_go_282 : decode cX12_go 282 = .ok (.bipush 7, 2) := by decide +kernel
theorem dX12_go_284 : decode cX12_go 284 = .ok (.if_icmp .ge 23, 3) := by decide +kernel
theorem dX12_go_287 : decode cX12_go 287 = .ok (.aload_n 0, 1) := by decide +kernel
theorem dX12_go_288 : decode cX12_go 288 = .ok (.ldc2_w 54, 3) := by decide +kernel
theorem dX12_go_291 : decode cX12_go 291 = .ok (.aload_n 0, 1) := by decide +kernel
theorem dX12_go_292 : decode cX12_go 292 = .ok (.getfield 43, 3) := by decide +kernel
theorem dX12_go_295 : decode cX12_go 295 = .ok (.lmul, 1) := by decide +kernel
theorem dX12_go_296 : decode cX12_go 296 = .ok (.iload 4, 2) := by decide +kernel
theorem dX12_go_298 : decode cX12_go 298 = .ok (.i2l, 1) := by decide +kernel
theorem dX12_go_299 : decode cX12_go 299 = .ok (.ladd, 1) := by decide +kernel
theorem dX12_go_300 : decode cX12_go 300 = .ok (.ldc2_w 56, 3) := by decide +kernel
theorem dX12_go_303 : decode cX12_go 303 = .ok (.lsub, 1) := by decide +kernel
theorem dX12_go_304 : decode cX12_go 304 = .ok (.putfield 43, 3) := by decide +kernel
theorem dX12_go_307 : decode cX12_go 307 = .ok (.aload_n 0, 1) := by decide +kernel
theorem dX12_go_308 : decode cX12_go 308 = .ok (.getfield 21, 3) := by decide +kernel
theorem dX12_go_311 : decode cX12_go 311 = .ok (.aload_n 0, 1) := by decide +kernel
theorem dX12_go_312 : decode cX12_go 312 = .ok (.getfield 24, 3) := by decide +kernel
theorem dX12_go_315 : decode cX12_go 315 = .ok (.isub, 1) := by decide +kernel
theorem dX12_go_316 : decode cX12_go 316 = .ok (.iconst 3, 1) := by decide +kernel
theorem dX12_go_317 : decode cX12_go 317 = .ok (.if_icmp .ge 20, 3) := by decide +kernel
theorem dX12_go_320 : decode cX12_go 320 = .ok (.aload_n 0, 1) := by decide +kernel
theorem dX12_go_321 : decode cX12_go 321 = .ok (.bipush 10, 2) := by decide +kernel
theorem dX12_go_323 : decode cX12_go 323 = .ok (.aload_n 0, 1) := by decide +kernel
theorem dX12_go_324 : decode cX12_go 324 = .ok (.getfield 47, 3) := by decide +kernel
theorem dX12_go_327 : decode cX12_go 327 = .ok (.imul, 1) := by decide +kernel
theorem dX12_go_328 : decode cX12_go 328 = .ok (.iload 4, 2) := by decide +kernel
theorem dX12_go_330 : decode cX12_go 330 = .ok (.iadd, 1) := by decide +kernel
theorem dX12_go_331 : decode cX12_go 331 = .ok (.bipush 48, 2) := by decide +kernel
theorem dX12_go_333 : decode cX12_go 333 = .ok (.isub, 1) := by decide +kernel
theorem dX12_go_334 : decode cX12_go 334 = .ok (.putfield 47, 3) := by decide +kernel
theorem dX12_go_337 : decode cX12_go 337 = .ok (.aload_n 0, 1) := by decide +kernel
theorem dX12_go_338 : decode cX12_go 338 = .ok (.dup, 1) := by decide +kernel
theorem dX12_go_339 : decode cX12_go 339 = .ok (.getfield 21, 3) := by decide +kernel
theorem dX12_go_342 : decode cX12_go 342 = .ok (.iconst 1, 1) := by decide +kernel
theorem dX12_go_343 : decode cX12_go 343 = .ok (.iadd, 1) := by decide +kernel
theorem dX12_go_344 : decode cX12_go 344 = .ok (.putfield 21, 3) := by decide +kernel
theorem dX12_go_347 : decode cX12_go 347 = .ok (.goto (-132), 3) := by decide +kernel
theorem dX12_go_350 : decode cX12_go 350 = .ok (.aload_n 0, 1) := by decide +kernel
theorem dX12_go_351 : decode cX12_go 351 = .ok (.iload_n 3, 1) := by decide +kernel
theorem dX12_go_352 : decode cX12_go 352 = .ok (.ifCond .eq 25, 3) := by decide +kernel
theorem dX12_go_355 : decode cX12_go 355 = .ok (.aload_n 0, 1) := by decide +kernel
theorem dX12_go_356 : decode cX12_go 356 = .ok (.getfield 21, 3) := by decide +kernel
theorem dX12_go_359 : decode cX12_go 359 = .ok (.aload_n 0, 1) := by decide +kernel
theorem dX12_go_360 : decode cX12_go 360 = .ok (.getfield 24, 3) := by decide +kernel
theorem dX12_go_363 : decode cX12_go 363 = .ok (.isub, 1) := by decide +kernel
theorem dX12_go_364 : decode cX12_go 364 = .ok (.iload_n 2, 1) := by decide +kernel
theorem dX12_go_365 : decode cX12_go 365 = .ok (.ifCond .eq 8, 3) := by decide +kernel
theorem dX12_go_368 : decode cX12_go 368 = .ok (.bipush 7, 2) := by decide +kernel
theorem dX12_go_370 : decode cX12_go 370 = .ok (.goto 4, 3) := by decide +kernel
theorem dX12_go_373 : decode cX12_go 373 = .ok (.iconst 3, 1) := by decide +kernel
theorem dX12_go_374 : decode cX12_go 374 = .ok (.if_icmp .le 7, 3) := by decide +kernel
theorem dX12_go_377 : decode cX12_go 377 = .ok (.iconst 1, 1) := by decide +kernel
theorem dX12_go_378 : decode cX12_go 378 = .ok (.goto 12, 3) := by decide +kernel
theorem dX12_go_381 : decode cX12_go 381 = .ok (.iload_n 2, 1) := by decide +kernel
theorem dX12_go_382 : decode cX12_go 382 = .ok (.ifCond .eq 7, 3) := by decide +kernel
theorem dX12_go_385 : decode cX12_go 385 = .ok (.iconst 2, 1) := by decide +kernel
theorem dX12_go_386 : decode cX12_go 386 = .ok (.goto 4, 3) := by decide +kernel
theorem dX12_go_389 : decode cX12_go 389 = .ok (.iconst 3, 1) := by decide +kernel
theorem dX12_go_390 : decode cX12_go 390 = .ok (.putfield 30, 3) := by decide +kernel
theorem dX12_go_393 : decode cX12_go 393 = .ok (.return_, 1) := by decide +kernel
theorem dX12_spelt_0 : decode cX12_spelt 0 = .ok (.ldc2_w 54, 3) := by decide +kernel
theorem dX12_spelt_3 : decode cX12_spelt 3 = .ok (.iload_n 0, 1) := by decide +kernel
theorem dX12_spelt_4 : decode cX12_spelt 4 = .ok (.i2l, 1) := by decide +kernel
theorem dX12_spelt_5 : decode cX12_spelt 5 = .ok (.ldc2_w 56, 3) := by decide +kernel
theorem dX12_spelt_8 : decode cX12_spelt 8 = .ok (.lsub, 1) := by decide +kernel
theorem dX12_spelt_9 : decode cX12_spelt 9 = .ok (.lmul, 1) := by decide +kernel
theorem dX12_spelt_10 : decode cX12_spelt 10 = .ok (.iload_n 1, 1) := by decide +kernel
theorem dX12_spelt_11 : decode cX12_spelt 11 = .ok (.i2l, 1) := by decide +kernel
theorem dX12_spelt_12 : decode cX12_spelt 12 = .ok (.ladd, 1) := by decide +kernel
theorem dX12_spelt_13 : decode cX12_spelt 13 = .ok (.ldc2_w 56, 3) := by decide +kernel
theorem dX12_spelt_16 : decode cX12_spelt 16 = .ok (.lsub, 1) := by decide +kernel
theorem dX12_spelt_17 : decode cX12_spelt 17 = .ok (.lstore 6, 2) := by decide +kernel
theorem dX12_spelt_19 : decode cX12_spelt 19 = .ok (.iload_n 2, 1) := by decide +kernel
theorem dX12_spelt_20 : decode cX12_spelt 20 = .ok (.ifCond .le 18, 3) := by decide +kernel
theorem dX12_spelt_23 : decode cX12_spelt 23 = .ok (.ldc2_w 54, 3) := by decide +kernel
theorem dX12_spelt_26 : decode cX12_spelt 26 = .ok (.lload 6, 2) := by decide +kernel
theorem dX12_spelt_28 : decode cX12_spelt 28 = .ok (.lmul, 1) := by decide +kernel
theorem dX12_spelt_29 : decode cX12_spelt 29 = .ok (.iload_n 2, 1) := by decide +kernel
theorem dX12_spelt_30 : decode cX12_spelt 30 = .ok (.i2l, 1) := by decide +kernel
theorem dX12_spelt_31 : decode cX12_spelt 31 = .ok (.ladd, 1) := by decide +kernel
theorem dX12_spelt_32 : decode cX12_spelt 32 = .ok (.ldc2_w 56, 3) := by decide +kernel
theorem dX12_spelt_35 : decode cX12_spelt 35 = .ok (.lsub, 1) := by decide +kernel
theorem dX12_spelt_36 : decode cX12_spelt 36 = .ok (.lstore 6, 2) := by decide +kernel
theorem dX12_spelt_38 : decode cX12_spelt 38 = .ok (.iload_n 3, 1) := by decide +kernel
theorem dX12_spelt_39 : decode cX12_spelt 39 = .ok (.ifCond .le 18, 3) := by decide +kernel
theorem dX12_spelt_42 : decode cX12_spelt 42 = .ok (.ldc2_w 54, 3) := by decide +kernel
theorem dX12_spelt_45 : decode cX12_spelt 45 = .ok (.lload 6, 2) := by decide +kernel
theorem dX12_spelt_47 : decode cX12_spelt 47 = .ok (.lmul, 1) := by decide +kernel
theorem dX12_spelt_48 : decode cX12_spelt 48 = .ok (.iload_n 3, 1) := by decide +kernel
theorem dX12_spelt_49 : decode cX12_spelt 49 = .ok (.i2l, 1) := by decide +kernel
theorem dX12_spelt_50 : decode cX12_spelt 50 = .ok (.ladd, 1) := by decide +kernel
theorem dX12_spelt_51 : decode cX12_spelt 51 = .ok (.ldc2_w 56, 3) := by decide +kernel
theorem dX12_spelt_54 : decode cX12_spelt 54 = .ok (.lsub, 1) := by decide +kernel
theorem dX12_spelt_55 : decode cX12_spelt 55 = .ok (.lstore 6, 2) := by decide +kernel
theorem dX12_spelt_57 : decode cX12_spelt 57 = .ok (.iload 4, 2) := by decide +kernel
theorem dX12_spelt_59 : decode cX12_spelt 59 = .ok (.ifCond .le 19, 3) := by decide +kernel
theorem dX12_spelt_62 : decode cX12_spelt 62 = .ok (.ldc2_w 54, 3) := by decide +kernel
theorem dX12_spelt_65 : decode cX12_spelt 65 = .ok (.lload 6, 2) := by decide +kernel
theorem dX12_spelt_67 : decode cX12_spelt 67 = .ok (.lmul, 1) := by decide +kernel
theorem dX12_spelt_68 : decode cX12_spelt 68 = .ok (.iload 4, 2) := by decide +kernel
theorem dX12_spelt_70 : decode cX12_spelt 70 = .ok (.i2l, 1) := by decide +kernel
theorem dX12_spelt_71 : decode cX12_spelt 71 = .ok (.ladd, 1) := by decide +kernel
theorem dX12_spelt_72 : decode cX12_spelt 72 = .ok (.ldc2_w 56, 3) := by decide +kernel
theorem dX12_spelt_75 : decode cX12_spelt 75 = .ok (.lsub, 1) := by decide +kernel
theorem dX12_spelt_76 : decode cX12_spelt 76 = .ok (.lstore 6, 2) := by decide +kernel
theorem dX12_spelt_78 : decode cX12_spelt 78 = .ok (.iload 5, 2) := by decide +kernel
theorem dX12_spelt_80 : decode cX12_spelt 80 = .ok (.ifCond .le 19, 3) := by decide +kernel
theorem dX12_spelt_83 : decode cX12_spelt 83 = .ok (.ldc2_w 54, 3) := by decide +kernel
theorem dX12_spelt_86 : decode cX12_spelt 86 = .ok (.lload 6, 2) := by decide +kernel
theorem dX12_spelt_88 : decode cX12_spelt 88 = .ok (.lmul, 1) := by decide +kernel
theorem dX12_spelt_89 : decode cX12_spelt 89 = .ok (.iload 5, 2) := by decide +kernel
theorem dX12_spelt_91 : decode cX12_spelt 91 = .ok (.i2l, 1) := by decide +kernel
theorem dX12_spelt_92 : decode cX12_spelt 92 = .ok (.ladd, 1) := by decide +kernel
theorem dX12_spelt_93 : decode cX12_spelt 93 = .ok (.ldc2_w 56, 3) := by decide +kernel
theorem dX12_spelt_96 : decode cX12_spelt 96 = .ok (.lsub, 1) := by decide +kernel
theorem dX12_spelt_97 : decode cX12_spelt 97 = .ok (.lstore 6, 2) := by decide +kernel
theorem dX12_spelt_99 : decode cX12_spelt 99 = .ok (.lload 6, 2) := by decide +kernel
theorem dX12_spelt_101 : decode cX12_spelt 101 = .ok (.lreturn, 1) := by decide +kernel
theorem dX12_wordOf_0 : decode cX12_wordOf 0 = .ok (.iload_n 0, 1) := by decide +kernel
theorem dX12_wordOf_1 : decode cX12_wordOf 1 = .ok (.tableswitch 611 0 32 #[147, 161, 174, 189, 203, 218, 231, 246, 258, 271, 285, 300, 315, 329, 342, 356, 369, 383, 395, 409, 424, 438, 453, 466, 478, 491, 504, 519, 534, 550, 566, 580, 596], 147) := by decide +kernel
theorem dX12_wordOf_148 : decode cX12_wordOf 148 = .ok (.bipush 115, 2) := by decide +kernel
theorem dX12_wordOf_150 : decode cX12_wordOf 150 = .ok (.bipush 105, 2) := by decide +kernel
theorem dX12_wordOf_152 : decode cX12_wordOf 152 = .ok (.bipush 122, 2) := by decide +kernel
theorem dX12_wordOf_154 : decode cX12_wordOf 154 = .ok (.bipush 101, 2) := by decide +kernel
theorem dX12_wordOf_156 : decode cX12_wordOf 156 = .ok (.iconst 0, 1) := by decide +kernel
theorem dX12_wordOf_157 : decode cX12_wordOf 157 = .ok (.iconst 0, 1) := by decide +kernel
theorem dX12_wordOf_158 : decode cX12_wordOf 158 = .ok (.invokestatic 58, 3) := by decide +kernel
theorem dX12_wordOf_161 : decode cX12_wordOf 161 = .ok (.lreturn, 1) := by decide +kernel
theorem dX12_wordOf_162 : decode cX12_wordOf 162 = .ok (.bipush 114, 2) := by decide +kernel
theorem dX12_wordOf_164 : decode cX12_wordOf 164 = .ok (.bipush 111, 2) := by decide +kernel
theorem dX12_wordOf_166 : decode cX12_wordOf 166 = .ok (.bipush 119, 2) := by decide +kernel
theorem dX12_wordOf_168 : decode cX12_wordOf 168 = .ok (.iconst 0, 1) := by decide +kernel
theorem dX12_wordOf_169 : decode cX12_wordOf 169 = .ok (.iconst 0, 1) := by decide +kernel
theorem dX12_wordOf_170 : decode cX12_wordOf 170 = .ok (.iconst 0, 1) := by decide +kernel
theorem dX12_wordOf_171 : decode cX12_wordOf 171 = .ok (.invokestatic 58, 3) := by decide +kernel
theorem dX12_wordOf_174 : decode cX12_wordOf 174 = .ok (.lreturn, 1) := by decide +kernel
theorem dX12_wordOf_175 : decode cX12_wordOf 175 = .ok (.bipush 115, 2) := by decide +kernel
theorem dX12_wordOf_177 : decode cX12_wordOf 177 = .ok (.bipush 99, 2) := by decide +kernel
theorem dX12_wordOf_179 : decode cX12_wordOf 179 = .ok (.bipush 111, 2) := by decide +kernel
theorem dX12_wordOf_181 : decode cX12_wordOf 181 = .ok (.bipush 112, 2) := by decide +kernel
theorem dX12_wordOf_183 : decode cX12_wordOf 183 = .ok (.bipush 101, 2) := by decide +kernel
theorem dX12_wordOf_185 : decode cX12_wordOf 185 = .ok (.iconst 0, 1) := by decide +kernel
theorem dX12_wordOf_186 : decode cX12_wordOf 186 = .ok (.invokestatic 58, 3) := by decide +kernel
theorem dX12_wordOf_189 : decode cX12_wordOf 189 = .ok (.lreturn, 1) := by decide +kernel
theorem dX12_wordOf_190 : decode cX12_wordOf 190 = .ok (.bipush 116, 2) := by decide +kernel
theorem dX12_wordOf_192 : decode cX12_wordOf 192 = .ok (.bipush 121, 2) := by decide +kernel
theorem dX12_wordOf_194 : decode cX12_wordOf 194 = .ok (.bipush 112, 2) := by decide +kernel
theorem dX12_wordOf_196 : decode cX12_wordOf 196 = .ok (.bipush 101, 2) := by decide +kernel
theorem dX12_wordOf_198 : decode cX12_wordOf 198 = .ok (.iconst 0, 1) := by decide +kernel
theorem dX12_wordOf_199 : decode cX12_wordOf 199 = .ok (.iconst 0, 1) := by decide +kernel
theorem dX12_wordOf_200 : decode cX12_wordOf 200 = .ok (.invokestatic 58, 3) := by decide +kernel
theorem dX12_wordOf_203 : decode cX12_wordOf 203 = .ok (.lreturn, 1) := by decide +kernel
theorem dX12_wordOf_204 : decode cX12_wordOf 204 = .ok (.bipush 112, 2) := by decide +kernel
theorem dX12_wordOf_206 : decode cX12_wordOf 206 = .ok (.bipush 108, 2) := by decide +kernel
theorem dX12_wordOf_208 : decode cX12_wordOf 208 = .ok (.bipush 97, 2) := by decide +kernel
theorem dX12_wordOf_210 : decode cX12_wordOf 210 = .ok (.bipush 105, 2) := by decide +kernel
theorem dX12_wordOf_212 : decode cX12_wordOf 212 = .ok (.bipush 110, 2) := by decide +kernel
theorem dX12_wordOf_214 : decode cX12_wordOf 214 = .ok (.iconst 0, 1) := by decide +kernel
theorem dX12_wordOf_215 : decode cX12_wordOf 215 = .ok (.invokestatic 58, 3) := by decide +kernel
theorem dX12_wordOf_218 : decode cX12_wordOf 218 = .ok (.lreturn, 1) := by decide +kernel
theorem dX12_wordOf_219 : decode cX12_wordOf 219 = .ok (.bipush 118, 2) := by decide +kernel
theorem dX12_wordOf_221 : decode cX12_wordOf 221 = .ok (.bipush 97, 2) := by decide +kernel
theorem dX12_wordOf_223 : decode cX12_wordOf 223 = .ok (.bipush 114, 2) := by decide +kernel
theorem dX12_wordOf_225 : decode cX12_wordOf 225 = .ok (.iconst 0, 1) := by decide +kernel
theorem dX12_wordOf_226 : decode cX12_wordOf 226 = .ok (.iconst 0, 1) := by decide +kernel
theorem dX12_wordOf_227 : decode cX12_wordOf 227 = .ok (.iconst 0, 1) := by decide +kernel
theorem dX12_wordOf_228 : decode cX12_wordOf 228 = .ok (.invokestatic 58, 3) := by decide +kernel
theorem dX12_wordOf_231 : decode cX12_wordOf 231 = .ok (.lreturn, 1) := by decide +kernel
theorem dX12_wordOf_232 : decode cX12_wordOf 232 = .ok (.bipush 119, 2) := by decide +kernel
theorem dX12_wordOf_234 : decode cX12_wordOf 234 = .ok (.bipush 104, 2) := by decide +kernel
theorem dX12_wordOf_236 : decode cX12_wordOf 236 = .ok (.bipush 101, 2) := by decide +kernel
theorem dX12_wordOf_238 : decode cX12_wordOf 238 = .ok (.bipush 114, 2) := by decide +kernel
theorem dX12_wordOf_240 : decode cX12_wordOf 240 = .ok (.bipush 101, 2) := by decide +kernel
theorem dX12_wordOf_242 : decode cX12_wordOf 242 = .ok (.iconst 0, 1) := by decide +kernel
theorem dX12_wordOf_243 : decode cX12_wordOf 243 = .ok (.invokestatic 58, 3) := by decide +kernel
theorem dX12_wordOf_246 : decode cX12_wordOf 246 = .ok (.lreturn, 1) := by decide +kernel
theorem dX12_wordOf_247 : decode cX12_wordOf 247 = .ok (.bipush 105, 2) := by decide +kernel
theorem dX12_wordOf_249 : decode cX12_wordOf 249 = .ok (.bipush 110, 2) := by decide +kernel
theorem dX12_wordOf_251 : decode cX12_wordOf 251 = .ok (.iconst 0, 1) := by decide +kernel
theorem dX12_wordOf_252 : decode cX12_wordOf 252 = .ok (.iconst 0, 1) := by decide +kernel
theorem dX12_wordOf_253 : decode cX12_wordOf 253 = .ok (.iconst 0, 1) := by decide +kernel
theorem dX12_wordOf_254 : decode cX12_wordOf 254 = .ok (.iconst 0, 1) := by decide +kernel
theorem dX12_wordOf_255 : decode cX12_wordOf 255 = .ok (.invokestatic 58, 3) := by decide +kernel
theorem dX12_wordOf_258 : decode cX12_wordOf 258 = .ok (.lreturn, 1) := by decide +kernel
theorem dX12_wordOf_259 : decode cX12_wordOf 259 = .ok (.bipush 114, 2) := by decide +kernel
theorem dX12_wordOf_261 : decode cX12_wordOf 261 = .ok (.bipush 101, 2) := by decide +kernel
theorem dX12_wordOf_263 : decode cX12_wordOf 263 = .ok (.bipush 103, 2) := by decide +kernel
theorem dX12_wordOf_265 : decode cX12_wordOf 265 = .ok (.iconst 0, 1) := by decide +kernel
theorem dX12_wordOf_266 : decode cX12_wordOf 266 = .ok (.iconst 0, 1) := by decide +kernel
theorem dX12_wordOf_267 : decode cX12_wordOf 267 = .ok (.iconst 0, 1) := by decide +kernel
theorem dX12_wordOf_268 : decode cX12_wordOf 268 = .ok (.invokestatic 58, 3) := by decide +kernel
theorem dX12_wordOf_271 : decode cX12_wordOf 271 = .ok (.lreturn, 1) := by decide +kernel
theorem dX12_wordOf_272 : decode cX12_wordOf 272 = .ok (.bipush 112, 2) := by decide +kernel
theorem dX12_wordOf_274 : decode cX12_wordOf 274 = .ok (.bipush 108, 2) := by decide +kernel
theorem dX12_wordOf_276 : decode cX12_wordOf 276 = .ok (.bipush 117, 2) := by decide +kernel
theorem dX12_wordOf_278 : decode cX12_wordOf 278 = .ok (.bipush 115, 2) := by decide +kernel
theorem dX12_wordOf_280 : decode cX12_wordOf 280 = .ok (.iconst 0, 1) := by decide +kernel
theorem dX12_wordOf_281 : decode cX12_wordOf 281 = .ok (.iconst 0, 1) := by decide +kernel
theorem dX12_wordOf_282 : decode cX12_wordOf 282 = .ok (.invokestatic 58, 3) := by decide +kernel
theorem dX12_wordOf_285 : decode cX12_wordOf 285 = .ok (.lreturn, 1) := by decide +kernel
theorem dX12_wordOf_286 : decode cX12_wordOf 286 = .ok (.bipush 109, 2) := by decide +kernel
theorem dX12_wordOf_288 : decode cX12_wordOf 288 = .ok (.bipush 105, 2) := by decide +kernel
theorem dX12_wordOf_290 : decode cX12_wordOf 290 = .ok (.bipush 110, 2) := by decide +kernel
theorem dX12_wordOf_292 : decode cX12_wordOf 292 = .ok (.bipush 117, 2) := by decide +kernel
theorem dX12_wordOf_294 : decode cX12_wordOf 294 = .ok (.bipush 115, 2) := by decide +kernel
theorem dX12_wordOf_296 : decode cX12_wordOf 296 = .ok (.iconst 0, 1) := by decide +kernel
theorem dX12_wordOf_297 : decode cX12_wordOf 297 = .ok (.invokestatic 58, 3) := by decide +kernel
theorem dX12_wordOf_300 : decode cX12_wordOf 300 = .ok (.lreturn, 1) := by decide +kernel
theorem dX12_wordOf_301 : decode cX12_wordOf 301 = .ok (.bipush 116, 2) := by decide +kernel
theorem dX12_wordOf_303 : decode cX12_wordOf 303 = .ok (.bipush 105, 2) := by decide +kernel
theorem dX12_wordOf_305 : decode cX12_wordOf 305 = .ok (.bipush 109, 2) := by decide +kernel
theorem dX12_wordOf_307 : decode cX12_wordOf 307 = .ok (.bipush 101, 2) := by decide +kernel
theorem dX12_wordOf_309 : decode cX12_wordOf 309 = .ok (.bipush 115, 2) := by decide +kernel
theorem dX12_wordOf_311 : decode cX12_wordOf 311 = .ok (.iconst 0, 1) := by decide +kernel
theorem dX12_wordOf_312 : decode cX12_wordOf 312 = .ok (.invokestatic 58, 3) := by decide +kernel
theorem dX12_wordOf_315 : decode cX12_wordOf 315 = .ok (.lreturn, 1) := by decide +kernel
theorem dX12_wordOf_316 : decode cX12_wordOf 316 = .ok (.bipush 108, 2) := by decide +kernel
theorem dX12_wordOf_318 : decode cX12_wordOf 318 = .ok (.bipush 111, 2) := by decide +kernel
theorem dX12_wordOf_320 : decode cX12_wordOf 320 = .ok (.bipush 97, 2) := by decide +kernel
theorem dX12_wordOf_322 : decode cX12_wordOf 322 = .ok (.bipush 100, 2) := by decide +kernel
theorem dX12_wordOf_324 : decode cX12_wordOf 324 = .ok (.iconst 0, 1) := by decide +kernel
theorem dX12_wordOf_325 : decode cX12_wordOf 325 = .ok (.iconst 0, 1) := by decide +kernel
theorem dX12_wordOf_326 : decode cX12_wordOf 326 = .ok (.invokestatic 58, 3) := by decide +kernel
theorem dX12_wordOf_329 : decode cX12_wordOf 329 = .ok (.lreturn, 1) := by decide +kernel
theorem dX12_wordOf_330 : decode cX12_wordOf 330 = .ok (.bipush 100, 2) := by decide +kernel
theorem dX12_wordOf_332 : decode cX12_wordOf 332 = .ok (.bipush 117, 2) := by decide +kernel
theorem dX12_wordOf_334 : decode cX12_wordOf 334 = .ok (.bipush 112, 2) := by decide +kernel
theorem dX12_wordOf_336 : decode cX12_wordOf 336 = .ok (.iconst 0, 1) := by decide +kernel
theorem dX12_wordOf_337 : decode cX12_wordOf 337 = .ok (.iconst 0, 1) := by decide +kernel
theorem dX12_wordOf_338 : decode cX12_wordOf 338 = .ok (.iconst 0, 1) := by decide +kernel
theorem dX12_wordOf_339 : decode cX12_wordOf 339 = .ok (.invokestatic 58, 3) := by decide +kernel
theorem dX12_wordOf_342 : decode cX12_wordOf 342 = .ok (.lreturn, 1) := by decide +kernel
theorem dX12_wordOf_343 : decode cX12_wordOf 343 = .ok (.bipush 115, 2) := by decide +kernel
theorem dX12_wordOf_345 : decode cX12_wordOf 345 = .ok (.bipush 119, 2) := by decide +kernel
theorem dX12_wordOf_347 : decode cX12_wordOf 347 = .ok (.bipush 97, 2) := by decide +kernel
theorem dX12_wordOf_349 : decode cX12_wordOf 349 = .ok (.bipush 112, 2) := by decide +kernel
theorem dX12_wordOf_351 : decode cX12_wordOf 351 = .ok (.iconst 0, 1) := by decide +kernel
theorem dX12_wordOf_352 : decode cX12_wordOf 352 = .ok (.iconst 0, 1) := by decide +kernel
theorem dX12_wordOf_353 : decode cX12_wordOf 353 = .ok (.invokestatic 58, 3) := by decide +kernel
theorem dX12_wordOf_356 : decode cX12_wordOf 356 = .ok (.lreturn, 1) := by decide +kernel
theorem dX12_wordOf_357 : decode cX12_wordOf 357 = .ok (.bipush 115, 2) := by decide +kernel
theorem dX12_wordOf_359 : decode cX12_wordOf 359 = .ok (.bipush 101, 2) := by decide +kernel
theorem dX12_wordOf_361 : decode cX12_wordOf 361 = .ok (.bipush 116, 2) := by decide +kernel
theorem dX12_wordOf_363 : decode cX12_wordOf 363 = .ok (.iconst 0, 1) := by decide +kernel
theorem dX12_wordOf_364 : decode cX12_wordOf 364 = .ok (.iconst 0, 1) := by decide +kernel
theorem dX12_wordOf_365 : decode cX12_wordOf 365 = .ok (.iconst 0, 1) := by decide +kernel
theorem dX12_wordOf_366 : decode cX12_wordOf 366 = .ok (.invokestatic 58, 3) := by decide +kernel
theorem dX12_wordOf_369 : decode cX12_wordOf 369 = .ok (.lreturn, 1) := by decide +kernel
theorem dX12_wordOf_370 : decode cX12_wordOf 370 = .ok (.bipush 112, 2) := by decide +kernel
theorem dX12_wordOf_372 : decode cX12_wordOf 372 = .ok (.bipush 111, 2) := by decide +kernel
theorem dX12_wordOf_374 : decode cX12_wordOf 374 = .ok (.bipush 107, 2) := by decide +kernel
theorem dX12_wordOf_376 : decode cX12_wordOf 376 = .ok (.bipush 101, 2) := by decide +kernel
theorem dX12_wordOf_378 : decode cX12_wordOf 378 = .ok (.iconst 0, 1) := by decide +kernel
theorem dX12_wordOf_379 : decode cX12_wordOf 379 = .ok (.iconst 0, 1) := by decide +kernel
theorem dX12_wordOf_380 : decode cX12_wordOf 380 = .ok (.invokestatic 58, 3) := by decide +kernel
theorem dX12_wordOf_383 : decode cX12_wordOf 383 = .ok (.lreturn, 1) := by decide +kernel
theorem dX12_wordOf_384 : decode cX12_wordOf 384 = .ok (.bipush 103, 2) := by decide +kernel
theorem dX12_wordOf_386 : decode cX12_wordOf 386 = .ok (.bipush 111, 2) := by decide +kernel
theorem dX12_wordOf_388 : decode cX12_wordOf 388 = .ok (.iconst 0, 1) := by decide +kernel
theorem dX12_wordOf_389 : decode cX12_wordOf 389 = .ok (.iconst 0, 1) := by decide +kernel
theorem dX12_wordOf_390 : decode cX12_wordOf 390 = .ok (.iconst 0, 1) := by decide +kernel
theorem dX12_wordOf_391 : decode cX12_wordOf 391 = .ok (.iconst 0, 1) := by decide +kernel
theorem dX12_wordOf_392 : decode cX12_wordOf 392 = .ok (.invokestatic 58, 3) := by decide +kernel
theorem dX12_wordOf_395 : decode cX12_wordOf 395 = .ok (.lreturn, 1) := by decide +kernel
theorem dX12_wordOf_396 : decode cX12_wordOf 396 = .ok (.bipush 115, 2) := by decide +kernel
theorem dX12_wordOf_398 : decode cX12_wordOf 398 = .ok (.bipush 116, 2) := by decide +kernel
theorem dX12_wordOf_400 : decode cX12_wordOf 400 = .ok (.bipush 111, 2) := by decide +kernel
theorem dX12_wordOf_402 : decode cX12_wordOf 402 = .ok (.bipush 112, 2) := by decide +kernel
theorem dX12_wordOf_404 : decode cX12_wordOf 404 = .ok (.iconst 0, 1) := by decide +kernel
theorem dX12_wordOf_405 : decode cX12_wordOf 405 = .ok (.iconst 0, 1) := by decide +kernel
theorem dX12_wordOf_406 : decode cX12_wordOf 406 = .ok (.invokestatic 58, 3) := by decide +kernel
theorem dX12_wordOf_409 : decode cX12_wordOf 409 = .ok (.lreturn, 1) := by decide +kernel
theorem dX12_wordOf_410 : decode cX12_wordOf 410 = .ok (.bipush 99, 2) := by decide +kernel
theorem dX12_wordOf_412 : decode cX12_wordOf 412 = .ok (.bipush 108, 2) := by decide +kernel
theorem dX12_wordOf_414 : decode cX12_wordOf 414 = .ok (.bipush 101, 2) := by decide +kernel
theorem dX12_wordOf_416 : decode cX12_wordOf 416 = .ok (.bipush 97, 2) := by decide +kernel
theorem dX12_wordOf_418 : decode cX12_wordOf 418 = .ok (.bipush 114, 2) := by decide +kernel
theorem dX12_wordOf_420 : decode cX12_wordOf 420 = .ok (.iconst 0, 1) := by decide +kernel
theorem dX12_wordOf_421 : decode cX12_wordOf 421 = .ok (.invokestatic 58, 3) := by decide +kernel
theorem dX12_wordOf_424 : decode cX12_wordOf 424 = .ok (.lreturn, 1) := by decide +kernel
theorem dX12_wordOf_425 : decode cX12_wordOf 425 = .ok (.bipush 115, 2) := by decide +kernel
theorem dX12_wordOf_427 : decode cX12_wordOf 427 = .ok (.bipush 116, 2) := by decide +kernel
theorem dX12_wordOf_429 : decode cX12_wordOf 429 = .ok (.bipush 101, 2) := by decide +kernel
theorem dX12_wordOf_431 : decode cX12_wordOf 431 = .ok (.bipush 112, 2) := by decide +kernel
theorem dX12_wordOf_433 : decode cX12_wordOf 433 = .ok (.iconst 0, 1) := by decide +kernel
theorem dX12_wordOf_434 : decode cX12_wordOf 434 = .ok (.iconst 0, 1) := by decide +kernel
theorem dX12_wordOf_435 : decode cX12_wordOf 435 = .ok (.invokestatic 58, 3) := by decide +kernel
theorem dX12_wordOf_438 : decode cX12_wordOf 438 = .ok (.lreturn, 1) := by decide +kernel
theorem dX12_wordOf_439 : decode cX12_wordOf 439 = .ok (.bipush 108, 2) := by decide +kernel
theorem dX12_wordOf_441 : decode cX12_wordOf 441 = .ok (.bipush 101, 2) := by decide +kernel
theorem dX12_wordOf_443 : decode cX12_wordOf 443 = .ok (.bipush 97, 2) := by decide +kernel
theorem dX12_wordOf_445 : decode cX12_wordOf 445 = .ok (.bipush 118, 2) := by decide +kernel
theorem dX12_wordOf_447 : decode cX12_wordOf 447 = .ok (.bipush 101, 2) := by decide +kernel
theorem dX12_wordOf_449 : decode cX12_wordOf 449 = .ok (.iconst 0, 1) := by decide +kernel
theorem dX12_wordOf_450 : decode cX12_wordOf 450 = .ok (.invokestatic 58, 3) := by decide +kernel
theorem dX12_wordOf_453 : decode cX12_wordOf 453 = .ok (.lreturn, 1) := by decide +kernel
theorem dX12_wordOf_454 : decode cX12_wordOf 454 = .ok (.bipush 114, 2) := by decide +kernel
theorem dX12_wordOf_456 : decode cX12_wordOf 456 = .ok (.bipush 117, 2) := by decide +kernel
theorem dX12_wordOf_458 : decode cX12_wordOf 458 = .ok (.bipush 110, 2) := by decide +kernel
theorem dX12_wordOf_460 : decode cX12_wordOf 460 = .ok (.iconst 0, 1) := by decide +kernel
theorem dX12_wordOf_461 : decode cX12_wordOf 461 = .ok (.iconst 0, 1) := by decide +kernel
theorem dX12_wordOf_462 : decode cX12_wordOf 462 = .ok (.iconst 0, 1) := by decide +kernel
theorem dX12_wordOf_463 : decode cX12_wordOf 463 = .ok (.invokestatic 58, 3) := by decide +kernel
theorem dX12_wordOf_466 : decode cX12_wordOf 466 = .ok (.lreturn, 1) := by decide +kernel
theorem dX12_wordOf_467 : decode cX12_wordOf 467 = .ok (.bipush 111, 2) := by decide +kernel
theorem dX12_wordOf_469 : decode cX12_wordOf 469 = .ok (.bipush 114, 2) := by decide +kernel
theorem dX12_wordOf_471 : decode cX12_wordOf 471 = .ok (.iconst 0, 1) := by decide +kernel
theorem dX12_wordOf_472 : decode cX12_wordOf 472 = .ok (.iconst 0, 1) := by decide +kernel
theorem dX12_wordOf_473 : decode cX12_wordOf 473 = .ok (.iconst 0, 1) := by decide +kernel
theorem dX12_wordOf_474 : decode cX12_wordOf 474 = .ok (.iconst 0, 1) := by decide +kernel
theorem dX12_wordOf_475 : decode cX12_wordOf 475 = .ok (.invokestatic 58, 3) := by decide +kernel
theorem dX12_wordOf_478 : decode cX12_wordOf 478 = .ok (.lreturn, 1) := by decide +kernel
theorem dX12_wordOf_479 : decode cX12_wordOf 479 = .ok (.bipush 97, 2) := by decide +kernel
theorem dX12_wordOf_481 : decode cX12_wordOf 481 = .ok (.bipush 110, 2) := by decide +kernel
theorem dX12_wordOf_483 : decode cX12_wordOf 483 = .ok (.bipush 100, 2) := by decide +kernel
theorem dX12_wordOf_485 : decode cX12_wordOf 485 = .ok (.iconst 0, 1) := by decide +kernel
theorem dX12_wordOf_486 : decode cX12_wordOf 486 = .ok (.iconst 0, 1) := by decide +kernel
theorem dX12_wordOf_487 : decode cX12_wordOf 487 = .ok (.iconst 0, 1) := by decide +kernel
theorem dX12_wordOf_488 : decode cX12_wordOf 488 = .ok (.invokestatic 58, 3) := by decide +kernel
theorem dX12_wordOf_491 : decode cX12_wordOf 491 = .ok (.lreturn, 1) := by decide +kernel
theorem dX12_wordOf_492 : decode cX12_wordOf 492 = .ok (.bipush 110, 2) := by decide +kernel
theorem dX12_wordOf_494 : decode cX12_wordOf 494 = .ok (.bipush 111, 2) := by decide +kernel
theorem dX12_wordOf_496 : decode cX12_wordOf 496 = .ok (.bipush 116, 2) := by decide +kernel
theorem dX12_wordOf_498 : decode cX12_wordOf 498 = .ok (.iconst 0, 1) := by decide +kernel
theorem dX12_wordOf_499 : decode cX12_wordOf 499 = .ok (.iconst 0, 1) := by decide +kernel
theorem dX12_wordOf_500 : decode cX12_wordOf 500 = .ok (.iconst 0, 1) := by decide +kernel
theorem dX12_wordOf_501 : decode cX12_wordOf 501 = .ok (.invokestatic 58, 3) := by decide +kernel
theorem dX12_wordOf_504 : decode cX12_wordOf 504 = .ok (.lreturn, 1) := by decide +kernel
theorem dX12_wordOf_505 : decode cX12_wordOf 505 = .ok (.bipush 116, 2) := by decide +kernel
theorem dX12_wordOf_507 : decode cX12_wordOf 507 = .ok (.bipush 104, 2) := by decide +kernel
theorem dX12_wordOf_509 : decode cX12_wordOf 509 = .ok (.bipush 101, 2) := by decide +kernel
theorem dX12_wordOf_511 : decode cX12_wordOf 511 = .ok (.bipush 114, 2) := by decide +kernel
theorem dX12_wordOf_513 : decode cX12_wordOf 513 = .ok (.bipush 101, 2) := by decide +kernel
theorem dX12_wordOf_515 : decode cX12_wordOf 515 = .ok (.iconst 0, 1) := by decide +kernel
theorem dX12_wordOf_516 : decode cX12_wordOf 516 = .ok (.invokestatic 58, 3) := by decide +kernel
theorem dX12_wordOf_519 : decode cX12_wordOf 519 = .ok (.lreturn, 1) := by decide +kernel
theorem dX12_wordOf_520 : decode cX12_wordOf 520 = .ok (.bipush 108, 2) := by decide +kernel
theorem dX12_wordOf_522 : decode cX12_wordOf 522 = .ok (.bipush 111, 2) := by decide +kernel
theorem dX12_wordOf_524 : decode cX12_wordOf 524 = .ok (.bipush 99, 2) := by decide +kernel
theorem dX12_wordOf_526 : decode cX12_wordOf 526 = .ok (.bipush 97, 2) := by decide +kernel
theorem dX12_wordOf_528 : decode cX12_wordOf 528 = .ok (.bipush 108, 2) := by decide +kernel
theorem dX12_wordOf_530 : decode cX12_wordOf 530 = .ok (.iconst 0, 1) := by decide +kernel
theorem dX12_wordOf_531 : decode cX12_wordOf 531 = .ok (.invokestatic 58, 3) := by decide +kernel
theorem dX12_wordOf_534 : decode cX12_wordOf 534 = .ok (.lreturn, 1) := by decide +kernel
theorem dX12_wordOf_535 : decode cX12_wordOf 535 = .ok (.bipush 115, 2) := by decide +kernel
theorem dX12_wordOf_537 : decode cX12_wordOf 537 = .ok (.bipush 105, 2) := by decide +kernel
theorem dX12_wordOf_539 : decode cX12_wordOf 539 = .ok (.bipush 103, 2) := by decide +kernel
theorem dX12_wordOf_541 : decode cX12_wordOf 541 = .ok (.bipush 110, 2) := by decide +kernel
theorem dX12_wordOf_543 : decode cX12_wordOf 543 = .ok (.bipush 101, 2) := by decide +kernel
theorem dX12_wordOf_545 : decode cX12_wordOf 545 = .ok (.bipush 100, 2) := by decide +kernel
theorem dX12_wordOf_547 : decode cX12_wordOf 547 = .ok (.invokestatic 58, 3) := by decide +kernel
theorem dX12_wordOf_550 : decode cX12_wordOf 550 = .ok (.lreturn, 1) := by decide +kernel
theorem dX12_wordOf_551 : decode cX12_wordOf 551 = .ok (.bipush 119, 2) := by decide +kernel
theorem dX12_wordOf_553 : decode cX12_wordOf 553 = .ok (.bipush 105, 2) := by decide +kernel
theorem dX12_wordOf_555 : decode cX12_wordOf 555 = .ok (.bipush 116, 2) := by decide +kernel
theorem dX12_wordOf_557 : decode cX12_wordOf 557 = .ok (.bipush 104, 2) := by decide +kernel
theorem dX12_wordOf_559 : decode cX12_wordOf 559 = .ok (.bipush 105, 2) := by decide +kernel
theorem dX12_wordOf_561 : decode cX12_wordOf 561 = .ok (.bipush 110, 2) := by decide +kernel
theorem dX12_wordOf_563 : decode cX12_wordOf 563 = .ok (.invokestatic 58, 3) := by decide +kernel
theorem dX12_wordOf_566 : decode cX12_wordOf 566 = .ok (.lreturn, 1) := by decide +kernel
theorem dX12_wordOf_567 : decode cX12_wordOf 567 = .ok (.bipush 98, 2) := by decide +kernel
theorem dX12_wordOf_569 : decode cX12_wordOf 569 = .ok (.bipush 105, 2) := by decide +kernel
theorem dX12_wordOf_571 : decode cX12_wordOf 571 = .ok (.bipush 116, 2) := by decide +kernel
theorem dX12_wordOf_573 : decode cX12_wordOf 573 = .ok (.bipush 115, 2) := by decide +kernel
theorem dX12_wordOf_575 : decode cX12_wordOf 575 = .ok (.iconst 0, 1) := by decide +kernel
theorem dX12_wordOf_576 : decode cX12_wordOf 576 = .ok (.iconst 0, 1) := by decide +kernel
theorem dX12_wordOf_577 : decode cX12_wordOf 577 = .ok (.invokestatic 58, 3) := by decide +kernel
theorem dX12_wordOf_580 : decode cX12_wordOf 580 = .ok (.lreturn, 1) := by decide +kernel
theorem dX12_wordOf_581 : decode cX12_wordOf 581 = .ok (.bipush 112, 2) := by decide +kernel
theorem dX12_wordOf_583 : decode cX12_wordOf 583 = .ok (.bipush 108, 2) := by decide +kernel
theorem dX12_wordOf_585 : decode cX12_wordOf 585 = .ok (.bipush 97, 2) := by decide +kernel
theorem dX12_wordOf_587 : decode cX12_wordOf 587 = .ok (.bipush 99, 2) := by decide +kernel
theorem dX12_wordOf_589 : decode cX12_wordOf 589 = .ok (.bipush 101, 2) := by decide +kernel
theorem dX12_wordOf_591 : decode cX12_wordOf 591 = .ok (.bipush 115, 2) := by decide +kernel
theorem dX12_wordOf_593 : decode cX12_wordOf 593 = .ok (.invokestatic 58, 3) := by decide +kernel
theorem dX12_wordOf_596 : decode cX12_wordOf 596 = .ok (.lreturn, 1) := by decide +kernel
theorem dX12_wordOf_597 : decode cX12_wordOf 597 = .ok (.bipush 118, 2) := by decide +kernel
theorem dX12_wordOf_599 : decode cX12_wordOf 599 = .ok (.bipush 97, 2) := by decide +kernel
theorem dX12_wordOf_601 : decode cX12_wordOf 601 = .ok (.bipush 108, 2) := by decide +kernel
theorem dX12_wordOf_603 : decode cX12_wordOf 603 = .ok (.bipush 117, 2) := by decide +kernel
theorem dX12_wordOf_605 : decode cX12_wordOf 605 = .ok (.bipush 101, 2) := by decide +kernel
theorem dX12_wordOf_607 : decode cX12_wordOf 607 = .ok (.iconst 0, 1) := by decide +kernel
theorem dX12_wordOf_608 : decode cX12_wordOf 608 = .ok (.invokestatic 58, 3) := by decide +kernel
theorem dX12_wordOf_611 : decode cX12_wordOf 611 = .ok (.lreturn, 1) := by decide +kernel
theorem dX12_wordOf_612 : decode cX12_wordOf 612 = .ok (.bipush 110, 2) := by decide +kernel
theorem dX12_wordOf_614 : decode cX12_wordOf 614 = .ok (.bipush 117, 2) := by decide +kernel
theorem dX12_wordOf_616 : decode cX12_wordOf 616 = .ok (.bipush 109, 2) := by decide +kernel
theorem dX12_wordOf_618 : decode cX12_wordOf 618 = .ok (.bipush 98, 2) := by decide +kernel
theorem dX12_wordOf_620 : decode cX12_wordOf 620 = .ok (.bipush 101, 2) := by decide +kernel
theorem dX12_wordOf_622 : decode cX12_wordOf 622 = .ok (.bipush 114, 2) := by decide +kernel
theorem dX12_wordOf_624 : decode cX12_wordOf 624 = .ok (.invokestatic 58, 3) := by decide +kernel
theorem dX12_wordOf_627 : decode cX12_wordOf 627 = .ok (.lreturn, 1) := by decide +kernel
theorem dX12_isWord_0 : decode cX12_isWord 0 = .ok (.aload_n 0, 1) := by decide +kernel
theorem dX12_isWord_1 : decode cX12_isWord 1 = .ok (.getfield 30, 3) := by decide +kernel
theorem dX12_isWord_4 : decode cX12_isWord 4 = .ok (.iconst 2, 1) := by decide +kernel
theorem dX12_isWord_5 : decode cX12_isWord 5 = .ok (.if_icmp .ne 19, 3) := by decide +kernel
theorem dX12_isWord_8 : decode cX12_isWord 8 = .ok (.aload_n 0, 1) := by decide +kernel
theorem dX12_isWord_9 : decode cX12_isWord 9 = .ok (.getfield 43, 3) := by decide +kernel
theorem dX12_isWord_12 : decode cX12_isWord 12 = .ok (.iload_n 1, 1) := by decide +kernel
theorem dX12_isWord_13 : decode cX12_isWord 13 = .ok (.invokestatic 62, 3) := by decide +kernel
theorem dX12_isWord_16 : decode cX12_isWord 16 = .ok (.lcmp, 1) := by decide +kernel
theorem dX12_isWord_17 : decode cX12_isWord 17 = .ok (.ifCond .ne 7, 3) := by decide +kernel
theorem dX12_isWord_20 : decode cX12_isWord 20 = .ok (.iconst 1, 1) := by decide +kernel
theorem dX12_isWord_21 : decode cX12_isWord 21 = .ok (.goto 4, 3) := by decide +kernel
theorem dX12_isWord_24 : decode cX12_isWord 24 = .ok (.iconst 0, 1) := by decide +kernel
theorem dX12_isWord_25 : decode cX12_isWord 25 = .ok (.ireturn, 1) := by decide +kernel
theorem dX12_isSign_0 : decode cX12_isSign 0 = .ok (.aload_n 0, 1) := by decide +kernel
theorem dX12_isSign_1 : decode cX12_isSign 1 = .ok (.getfield 30, 3) := by decide +kernel
theorem dX12_isSign_4 : decode cX12_isSign 4 = .ok (.iconst 4, 1) := by decide +kernel
theorem dX12_isSign_5 : decode cX12_isSign 5 = .ok (.if_icmp .ne 15, 3) := by decide +kernel
theorem dX12_isSign_8 : decode cX12_isSign 8 = .ok (.aload_n 0, 1) := by decide +kernel
theorem dX12_isSign_9 : decode cX12_isSign 9 = .ok (.getfield 40, 3) := by decide +kernel
theorem dX12_isSign_12 : decode cX12_isSign 12 = .ok (.iload_n 1, 1) := by decide +kernel
theorem dX12_isSign_13 : decode cX12_isSign 13 = .ok (.if_icmp .ne 7, 3) := by decide +kernel
theorem dX12_isSign_16 : decode cX12_isSign 16 = .ok (.iconst 1, 1) := by decide +kernel
theorem dX12_isSign_17 : decode cX12_isSign 17 = .ok (.goto 4, 3) := by decide +kernel
theorem dX12_isSign_20 : decode cX12_isSign 20 = .ok (.iconst 0, 1) := by decide +kernel
theorem dX12_isSign_21 : decode cX12_isSign 21 = .ok (.ireturn, 1) := by decide +kernel
theorem dX12_isName_0 : decode cX12_isName 0 = .ok (.aload_n 0, 1) := by decide +kernel
theorem dX12_isName_1 : decode cX12_isName 1 = .ok (.getfield 30, 3) := by decide +kernel
theorem dX12_isName_4 : decode cX12_isName 4 = .ok (.iconst 2, 1) := by decide +kernel
theorem dX12_isName_5 : decode cX12_isName 5 = .ok (.if_icmp .eq 5, 3) := by decide +kernel
theorem dX12_isName_8 : decode cX12_isName 8 = .ok (.iconst 0, 1) := by decide +kernel
theorem dX12_isName_9 : decode cX12_isName 9 = .ok (.ireturn, 1) := by decide +kernel
theorem dX12_isName_10 : decode cX12_isName 10 = .ok (.iconst 0, 1) := by decide +kernel
theorem dX12_isName_11 : decode cX12_isName 11 = .ok (.istore_n 1, 1) := by decide +kernel
theorem dX12_isName_12 : decode cX12_isName 12 = .ok (.iload_n 1, 1) := by decide +kernel
theorem dX12_isName_13 : decode cX12_isName 13 = .ok (.bipush 33, 2) := by decide +kernel
theorem dX12_isName_15 : decode cX12_isName 15 = .ok (.if_icmp .gt 23, 3) := by decide +kernel
theorem dX12_isName_18 : decode cX12_isName 18 = .ok (.aload_n 0, 1) := by decide +kernel
theorem dX12_isName_19 : decode cX12_isName 19 = .ok (.getfield 43, 3) := by decide +kernel
theorem dX12_isName_22 : decode cX12_isName 22 = .ok (.iload_n 1, 1) := by decide +kernel
theorem dX12_isName_23 : decode cX12_isName 23 = .ok (.invokestatic 62, 3) := by decide +kernel
theorem dX12_isName_26 : decode cX12_isName 26 = .ok (.lcmp, 1) := by decide +kernel
theorem dX12_isName_27 : decode cX12_isName 27 = .ok (.ifCond .ne 5, 3) := by decide +kernel
theorem dX12_isName_30 : decode cX12_isName 30 = .ok (.iconst 0, 1) := by decide +kernel
theorem dX12_isName_31 : decode cX12_isName 31 = .ok (.ireturn, 1) := by decide +kernel
theorem dX12_isName_32 : decode cX12_isName 32 = .ok (.iinc 1 1, 3) := by decide +kernel
theorem dX12_isName_35 : decode cX12_isName 35 = .ok (.goto (-23), 3) := by decide +kernel
theorem dX12_isName_38 : decode cX12_isName 38 = .ok (.iconst 1, 1) := by decide +kernel
theorem dX12_isName_39 : decode cX12_isName 39 = .ok (.ireturn, 1) := by decide +kernel
theorem dX12_bad_0 : decode cX12_bad 0 = .ok (.aload_n 0, 1) := by decide +kernel
theorem dX12_bad_1 : decode cX12_bad 1 = .ok (.aload_n 0, 1) := by decide +kernel
theorem dX12_bad_2 : decode cX12_bad 2 = .ok (.getfield 30, 3) := by decide +kernel
theorem dX12_bad_5 : decode cX12_bad 5 = .ok (.iconst 1, 1) := by decide +kernel
theorem dX12_bad_6 : decode cX12_bad 6 = .ok (.if_icmp .ne 7, 3) := by decide +kernel
theorem dX12_bad_9 : decode cX12_bad 9 = .ok (.iconst 1, 1) := by decide +kernel
theorem dX12_bad_10 : decode cX12_bad 10 = .ok (.goto 4, 3) := by decide +kernel
theorem dX12_bad_13 : decode cX12_bad 13 = .ok (.iload_n 1, 1) := by decide +kernel
theorem dX12_bad_14 : decode cX12_bad 14 = .ok (.putfield 66, 3) := by decide +kernel
theorem dX12_bad_17 : decode cX12_bad 17 = .ok (.aload_n 0, 1) := by decide +kernel
theorem dX12_bad_18 : decode cX12_bad 18 = .ok (.aload_n 0, 1) := by decide +kernel
theorem dX12_bad_19 : decode cX12_bad 19 = .ok (.getfield 24, 3) := by decide +kernel
theorem dX12_bad_22 : decode cX12_bad 22 = .ok (.putfield 69, 3) := by decide +kernel
theorem dX12_bad_25 : decode cX12_bad 25 = .ok (.iconst 0, 1) := by decide +kernel
theorem dX12_bad_26 : decode cX12_bad 26 = .ok (.ireturn, 1) := by decide +kernel
theorem dX12_readNumber_0 : decode cX12_readNumber 0 = .ok (.aload_n 0, 1) := by decide +kernel
theorem dX12_readNumber_1 : decode cX12_readNumber 1 = .ok (.getfield 30, 3) := by decide +kernel
theorem dX12_readNumber_4 : decode cX12_readNumber 4 = .ok (.iconst 3, 1) := by decide +kernel
theorem dX12_readNumber_5 : decode cX12_readNumber 5 = .ok (.if_icmp .eq 9, 3) := by decide +kernel
theorem dX12_readNumber_8 : decode cX12_readNumber 8 = .ok (.aload_n 0, 1) := by decide +kernel
theorem dX12_readNumber_9 : decode cX12_readNumber 9 = .ok (.iconst 1, 1) := by decide +kernel
theorem dX12_readNumber_10 : decode cX12_readNumber 10 = .ok (.invokevirtual 72, 3) := by decide +kernel
theorem dX12_readNumber_13 : decode cX12_readNumber 13 = .ok (.ireturn, 1) := by decide +kernel
theorem dX12_readNumber_14 : decode cX12_readNumber 14 = .ok (.aload_n 0, 1) := by decide +kernel
theorem dX12_readNumber_15 : decode cX12_readNumber 15 = .ok (.getfield 47, 3) := by decide +kernel
theorem dX12_readNumber_18 : decode cX12_readNumber 18 = .ok (.iload_n 1, 1) := by decide +kernel
theorem dX12_readNumber_19 : decode cX12_readNumber 19 = .ok (.iload_n 2, 1) := by decide +kernel
theorem dX12_readNumber_20 : decode cX12_readNumber 20 = .ok (.invokestatic 75, 3) := by decide +kernel
theorem dX12_readNumber_23 : decode cX12_readNumber 23 = .ok (.ifCond .ne 9, 3) := by decide +kernel
theorem dX12_readNumber_26 : decode cX12_readNumber 26 = .ok (.aload_n 0, 1) := by decide +kernel
theorem dX12_readNumber_27 : decode cX12_readNumber 27 = .ok (.iconst 2, 1) := by decide +kernel
theorem dX12_readNumber_28 : decode cX12_readNumber 28 = .ok (.invokevirtual 72, 3) := by decide +kernel
theorem dX12_readNumber_31 : decode cX12_readNumber 31 = .ok (.ireturn, 1) := by decide +kernel
theorem dX12_readNumber_32 : decode cX12_readNumber 32 = .ok (.aload_n 0, 1) := by decide +kernel
theorem dX12_readNumber_33 : decode cX12_readNumber 33 = .ok (.aload_n 0, 1) := by decide +kernel
theorem dX12_readNumber_34 : decode cX12_readNumber 34 = .ok (.getfield 47, 3) := by decide +kernel
theorem dX12_readNumber_37 : decode cX12_readNumber 37 = .ok (.putfield 79, 3) := by decide +kernel
theorem dX12_readNumber_40 : decode cX12_readNumber 40 = .ok (.aload_n 0, 1) := by decide +kernel
theorem dX12_readNumber_41 : decode cX12_readNumber 41 = .ok (.invokevirtual 82, 3) := by decide +kernel
theorem dX12_readNumber_44 : decode cX12_readNumber 44 = .ok (.iconst 1, 1) := by decide +kernel
theorem dX12_readNumber_45 : decode cX12_readNumber 45 = .ok (.ireturn, 1) := by decide +kernel
theorem dX12_readEnd_0 : decode cX12_readEnd 0 = .ok (.aload_n 0, 1) := by decide +kernel
theorem dX12_readEnd_1 : decode cX12_readEnd 1 = .ok (.bipush 59, 2) := by decide +kernel
theorem dX12_readEnd_3 : decode cX12_readEnd 3 = .ok (.invokevirtual 86, 3) := by decide +kernel
theorem dX12_readEnd_6 : decode cX12_readEnd 6 = .ok (.ifCond .ne 9, 3) := by decide +kernel
theorem dX12_readEnd_9 : decode cX12_readEnd 9 = .ok (.aload_n 0, 1) := by decide +kernel
theorem dX12_readEnd_10 : decode cX12_readEnd 10 = .ok (.iconst 1, 1) := by decide +kernel
theorem dX12_readEnd_11 : decode cX12_readEnd 11 = .ok (.invokevirtual 72, 3) := by decide +kernel
theorem dX12_readEnd_14 : decode cX12_readEnd 14 = .ok (.ireturn, 1) := by decide +kernel
theorem dX12_readEnd_15 : decode cX12_readEnd 15 = .ok (.aload_n 0, 1) := by decide +kernel
theorem dX12_readEnd_16 : decode cX12_readEnd 16 = .ok (.invokevirtual 82, 3) := by decide +kernel
theorem dX12_readEnd_19 : decode cX12_readEnd 19 = .ok (.iconst 1, 1) := by decide +kernel
theorem dX12_readEnd_20 : decode cX12_readEnd 20 = .ok (.ireturn, 1) := by decide +kernel
theorem dX12_begin_0 : decode cX12_begin 0 = .ok (.aload_n 0, 1) := by decide +kernel
theorem dX12_begin_1 : decode cX12_begin 1 = .ok (.iconst 0, 1) := by decide +kernel
theorem dX12_begin_2 : decode cX12_begin 2 = .ok (.putfield 1, 3) := by decide +kernel
theorem dX12_begin_5 : decode cX12_begin 5 = .ok (.aload_n 0, 1) := by decide +kernel
theorem dX12_begin_6 : decode cX12_begin 6 = .ok (.aload_n 0, 1) := by decide +kernel
theorem dX12_begin_7 : decode cX12_begin 7 = .ok (.invokevirtual 89, 3) := by decide +kernel
theorem dX12_begin_10 : decode cX12_begin 10 = .ok (.putfield 18, 3) := by decide +kernel
theorem dX12_begin_13 : decode cX12_begin 13 = .ok (.aload_n 0, 1) := by decide +kernel
theorem dX12_begin_14 : decode cX12_begin 14 = .ok (.iload_n 1, 1) := by decide +kernel
theorem dX12_begin_15 : decode cX12_begin 15 = .ok (.putfield 27, 3) := by decide +kernel
theorem dX12_begin_18 : decode cX12_begin 18 = .ok (.aload_n 0, 1) := by decide +kernel
theorem dX12_begin_19 : decode cX12_begin 19 = .ok (.iconst 0, 1) := by decide +kernel
theorem dX12_begin_20 : decode cX12_begin 20 = .ok (.putfield 66, 3) := by decide +kernel
theorem dX12_begin_23 : decode cX12_begin 23 = .ok (.aload_n 0, 1) := by decide +kernel
theorem dX12_begin_24 : decode cX12_begin 24 = .ok (.iconst 0, 1) := by decide +kernel
theorem dX12_begin_25 : decode cX12_begin 25 = .ok (.putfield 21, 3) := by decide +kernel
theorem dX12_begin_28 : decode cX12_begin 28 = .ok (.aload_n 0, 1) := by decide +kernel
theorem dX12_begin_29 : decode cX12_begin 29 = .ok (.invokevirtual 82, 3) := by decide +kernel
theorem dX12_begin_32 : decode cX12_begin 32 = .ok (.return_, 1) := by decide +kernel
theorem dX12_init_0 : decode cX12_init 0 = .ok (.aload_n 0, 1) := by decide +kernel
theorem dX12_init_1 : decode cX12_init 1 = .ok (.invokespecial 93, 3) := by decide +kernel
theorem dX12_init_4 : decode cX12_init 4 = .ok (.aload_n 0, 1) := by decide +kernel
theorem dX12_init_5 : decode cX12_init 5 = .ok (.sipush 940, 3) := by decide +kernel
theorem dX12_init_8 : decode cX12_init 8 = .ok (.newarray .int, 2) := by decide +kernel
theorem dX12_init_10 : decode cX12_init 10 = .ok (.putfield 7, 3) := by decide +kernel
theorem dX12_init_13 : decode cX12_init 13 = .ok (.aload_n 0, 1) := by decide +kernel
theorem dX12_init_14 : decode cX12_init 14 = .ok (.sipush 667, 3) := by decide +kernel
theorem dX12_init_17 : decode cX12_init 17 = .ok (.newarray .int, 2) := by decide +kernel
theorem dX12_init_19 : decode cX12_init 19 = .ok (.putfield 98, 3) := by decide +kernel
theorem dX12_init_22 : decode cX12_init 22 = .ok (.aload_n 0, 1) := by decide +kernel
theorem dX12_init_23 : decode cX12_init 23 = .ok (.sipush 342, 3) := by decide +kernel
theorem dX12_init_26 : decode cX12_init 26 = .ok (.newarray .int, 2) := by decide +kernel
theorem dX12_init_28 : decode cX12_init 28 = .ok (.putfield 101, 3) := by decide +kernel
theorem dX12_init_31 : decode cX12_init 31 = .ok (.aload_n 0, 1) := by decide +kernel
theorem dX12_init_32 : decode cX12_init 32 = .ok (.sipush 1334, 3) := by decide +kernel
theorem dX12_init_35 : decode cX12_init 35 = .ok (.newarray .int, 2) := by decide +kernel
theorem dX12_init_37 : decode cX12_init 37 = .ok (.putfield 104, 3) := by decide +kernel
theorem dX12_init_40 : decode cX12_init 40 = .ok (.aload_n 0, 1) := by decide +kernel
theorem dX12_init_41 : decode cX12_init 41 = .ok (.sipush 664, 3) := by decide +kernel
theorem dX12_init_44 : decode cX12_init 44 = .ok (.newarray .int, 2) := by decide +kernel
theorem dX12_init_46 : decode cX12_init 46 = .ok (.putfield 107, 3) := by decide +kernel
theorem dX12_init_49 : decode cX12_init 49 = .ok (.aload_n 0, 1) := by decide +kernel
theorem dX12_init_50 : decode cX12_init 50 = .ok (.bipush 83, 2) := by decide +kernel
theorem dX12_init_52 : decode cX12_init 52 = .ok (.newarray .int, 2) := by decide +kernel
theorem dX12_init_54 : decode cX12_init 54 = .ok (.putfield 110, 3) := by decide +kernel
theorem dX12_init_57 : decode cX12_init 57 = .ok (.aload_n 0, 1) := by decide +kernel
theorem dX12_init_58 : decode cX12_init 58 = .ok (.bipush 83, 2) := by decide +kernel
theorem dX12_init_60 : decode cX12_init 60 = .ok (.newarray .int, 2) := by decide +kernel
theorem dX12_init_62 : decode cX12_init 62 = .ok (.putfield 113, 3) := by decide +kernel
theorem dX12_init_65 : decode cX12_init 65 = .ok (.aload_n 0, 1) := by decide +kernel
theorem dX12_init_66 : decode cX12_init 66 = .ok (.bipush 26, 2) := by decide +kernel
theorem dX12_init_68 : decode cX12_init 68 = .ok (.newarray .long, 2) := by decide +kernel
theorem dX12_init_70 : decode cX12_init 70 = .ok (.putfield 116, 3) := by decide +kernel
theorem dX12_init_73 : decode cX12_init 73 = .ok (.aload_n 0, 1) := by decide +kernel
theorem dX12_init_74 : decode cX12_init 74 = .ok (.bipush 26, 2) := by decide +kernel
theorem dX12_init_76 : decode cX12_init 76 = .ok (.newarray .long, 2) := by decide +kernel
theorem dX12_init_78 : decode cX12_init 78 = .ok (.putfield 120, 3) := by decide +kernel
theorem dX12_init_81 : decode cX12_init 81 = .ok (.aload_n 0, 1) := by decide +kernel
theorem dX12_init_82 : decode cX12_init 82 = .ok (.bipush 52, 2) := by decide +kernel
theorem dX12_init_84 : decode cX12_init 84 = .ok (.newarray .long, 2) := by decide +kernel
theorem dX12_init_86 : decode cX12_init 86 = .ok (.putfield 123, 3) := by decide +kernel
theorem dX12_init_89 : decode cX12_init 89 = .ok (.aload_n 0, 1) := by decide +kernel
theorem dX12_init_90 : decode cX12_init 90 = .ok (.iconst 2, 1) := by decide +kernel
theorem dX12_init_91 : decode cX12_init 91 = .ok (.newarray .boolean, 2) := by decide +kernel
theorem dX12_init_93 : decode cX12_init 93 = .ok (.putfield 126, 3) := by decide +kernel
theorem dX12_init_96 : decode cX12_init 96 = .ok (.aload_n 0, 1) := by decide +kernel
theorem dX12_init_97 : decode cX12_init 97 = .ok (.bipush 10, 2) := by decide +kernel
theorem dX12_init_99 : decode cX12_init 99 = .ok (.newarray .int, 2) := by decide +kernel
theorem dX12_init_101 : decode cX12_init 101 = .ok (.putfield 130, 3) := by decide +kernel
theorem dX12_init_104 : decode cX12_init 104 = .ok (.aload_n 0, 1) := by decide +kernel
theorem dX12_init_105 : decode cX12_init 105 = .ok (.bipush 10, 2) := by decide +kernel
theorem dX12_init_107 : decode cX12_init 107 = .ok (.newarray .int, 2) := by decide +kernel
theorem dX12_init_109 : decode cX12_init 109 = .ok (.putfield 133, 3) := by decide +kernel
theorem dX12_init_112 : decode cX12_init 112 = .ok (.aload_n 0, 1) := by decide +kernel
theorem dX12_init_113 : decode cX12_init 113 = .ok (.bipush 9, 2) := by decide +kernel
theorem dX12_init_115 : decode cX12_init 115 = .ok (.newarray .int, 2) := by decide +kernel
theorem dX12_init_117 : decode cX12_init 117 = .ok (.putfield 136, 3) := by decide +kernel
theorem dX12_init_120 : decode cX12_init 120 = .ok (.aload_n 0, 1) := by decide +kernel
theorem dX12_init_121 : decode cX12_init 121 = .ok (.sipush 256, 3) := by decide +kernel
theorem dX12_init_124 : decode cX12_init 124 = .ok (.newarray .int, 2) := by decide +kernel
theorem dX12_init_126 : decode cX12_init 126 = .ok (.putfield 139, 3) := by decide +kernel
theorem dX12_init_129 : decode cX12_init 129 = .ok (.aload_n 0, 1) := by decide +kernel
theorem dX12_init_130 : decode cX12_init 130 = .ok (.bipush 24, 2) := by decide +kernel
theorem dX12_init_132 : decode cX12_init 132 = .ok (.newarray .int, 2) := by decide +kernel
theorem dX12_init_134 : decode cX12_init 134 = .ok (.putfield 142, 3) := by decide +kernel
theorem dX12_init_137 : decode cX12_init 137 = .ok (.aload_n 0, 1) := by decide +kernel
theorem dX12_init_138 : decode cX12_init 138 = .ok (.bipush 24, 2) := by decide +kernel
theorem dX12_init_140 : decode cX12_init 140 = .ok (.newarray .int, 2) := by decide +kernel
theorem dX12_init_142 : decode cX12_init 142 = .ok (.putfield 145, 3) := by decide +kernel
theorem dX12_init_145 : decode cX12_init 145 = .ok (.aload_n 0, 1) := by decide +kernel
theorem dX12_init_146 : decode cX12_init 146 = .ok (.bipush 30, 2) := by decide +kernel
theorem dX12_init_148 : decode cX12_init 148 = .ok (.newarray .int, 2) := by decide +kernel
theorem dX12_init_150 : decode cX12_init 150 = .ok (.putfield 148, 3) := by decide +kernel
theorem dX12_init_153 : decode cX12_init 153 = .ok (.aload_n 0, 1) := by decide +kernel
theorem dX12_init_154 : decode cX12_init 154 = .ok (.bipush 30, 2) := by decide +kernel
theorem dX12_init_156 : decode cX12_init 156 = .ok (.newarray .int, 2) := by decide +kernel
theorem dX12_init_158 : decode cX12_init 158 = .ok (.putfield 151, 3) := by decide +kernel
theorem dX12_init_161 : decode cX12_init 161 = .ok (.aload_n 0, 1) := by decide +kernel
theorem dX12_init_162 : decode cX12_init 162 = .ok (.bipush 30, 2) := by decide +kernel
theorem dX12_init_164 : decode cX12_init 164 = .ok (.newarray .int, 2) := by decide +kernel
theorem dX12_init_166 : decode cX12_init 166 = .ok (.putfield 154, 3) := by decide +kernel
theorem dX12_init_169 : decode cX12_init 169 = .ok (.aload_n 0, 1) := by decide +kernel
theorem dX12_init_170 : decode cX12_init 170 = .ok (.bipush 30, 2) := by decide +kernel
theorem dX12_init_172 : decode cX12_init 172 = .ok (.newarray .int, 2) := by decide +kernel
theorem dX12_init_174 : decode cX12_init 174 = .ok (.putfield 157, 3) := by decide +kernel
theorem dX12_init_177 : decode cX12_init 177 = .ok (.aload_n 0, 1) := by decide +kernel
theorem dX12_init_178 : decode cX12_init 178 = .ok (.bipush 48, 2) := by decide +kernel
theorem dX12_init_180 : decode cX12_init 180 = .ok (.newarray .int, 2) := by decide +kernel
theorem dX12_init_182 : decode cX12_init 182 = .ok (.putfield 160, 3) := by decide +kernel
theorem dX12_init_185 : decode cX12_init 185 = .ok (.aload_n 0, 1) := by decide +kernel
theorem dX12_init_186 : decode cX12_init 186 = .ok (.bipush 120, 2) := by decide +kernel
theorem dX12_init_188 : decode cX12_init 188 = .ok (.newarray .int, 2) := by decide +kernel
theorem dX12_init_190 : decode cX12_init 190 = .ok (.putfield 163, 3) := by decide +kernel
theorem dX12_init_193 : decode cX12_init 193 = .ok (.aload_n 0, 1) := by decide +kernel
theorem dX12_init_194 : decode cX12_init 194 = .ok (.iconst 4, 1) := by decide +kernel
theorem dX12_init_195 : decode cX12_init 195 = .ok (.newarray .int, 2) := by decide +kernel
theorem dX12_init_197 : decode cX12_init 197 = .ok (.putfield 166, 3) := by decide +kernel
theorem dX12_init_200 : decode cX12_init 200 = .ok (.aload_n 0, 1) := by decide +kernel
theorem dX12_init_201 : decode cX12_init 201 = .ok (.sipush 240, 3) := by decide +kernel
theorem dX12_init_204 : decode cX12_init 204 = .ok (.newarray .int, 2) := by decide +kernel
theorem dX12_init_206 : decode cX12_init 206 = .ok (.putfield 169, 3) := by decide +kernel
theorem dX12_init_209 : decode cX12_init 209 = .ok (.aload_n 0, 1) := by decide +kernel
theorem dX12_init_210 : decode cX12_init 210 = .ok (.getfield 98, 3) := by decide +kernel
theorem dX12_init_213 : decode cX12_init 213 = .ok (.iconst 0, 1) := by decide +kernel
theorem dX12_init_214 : decode cX12_init 214 = .ok (.sipush 256, 3) := by decide +kernel
theorem dX12_init_217 : decode cX12_init 217 = .ok (.iastore, 1) := by decide +kernel
theorem dX12_init_218 : decode cX12_init 218 = .ok (.return_, 1) := by decide +kernel
theorem dX12_startSo_0 : decode cX12_startSo 0 = .ok (.sipush 342, 3) := by decide +kernel
theorem dX12_startSo_3 : decode cX12_startSo 3 = .ok (.istore_n 1, 1) := by decide +kernel
theorem dX12_startSo_4 : decode cX12_startSo 4 = .ok (.iload_n 1, 1) := by decide +kernel
theorem dX12_startSo_5 : decode cX12_startSo 5 = .ok (.sipush 667, 3) := by decide +kernel
theorem dX12_startSo_8 : decode cX12_startSo 8 = .ok (.if_icmp .ge 16, 3) := by decide +kernel
theorem dX12_startSo_11 : decode cX12_startSo 11 = .ok (.aload_n 0, 1) := by decide +kernel
theorem dX12_startSo_12 : decode cX12_startSo 12 = .ok (.getfield 98, 3) := by decide +kernel
theorem dX12_startSo_15 : decode cX12_startSo 15 = .ok (.iload_n 1, 1) := by decide +kernel
theorem dX12_startSo_16 : decode cX12_startSo 16 = .ok (.iconst 0, 1) := by decide +kernel
theorem dX12_startSo_17 : decode cX12_startSo 17 = .ok (.iastore, 1) := by decide +kernel
theorem dX12_startSo_18 : decode cX12_startSo 18 = .ok (.iinc 1 1, 3) := by decide +kernel
theorem dX12_startSo_21 : decode cX12_startSo 21 = .ok (.goto (-17), 3) := by decide +kernel
theorem dX12_startSo_24 : decode cX12_startSo 24 = .ok (.return_, 1) := by decide +kernel
theorem dX12_findIn_0 : decode cX12_findIn 0 = .ok (.iconst 0, 1) := by decide +kernel
theorem dX12_findIn_1 : decode cX12_findIn 1 = .ok (.istore 5, 2) := by decide +kernel
theorem dX12_findIn_3 : decode cX12_findIn 3 = .ok (.iload 5, 2) := by decide +kernel
theorem dX12_findIn_5 : decode cX12_findIn 5 = .ok (.iload_n 2, 1) := by decide +kernel
theorem dX12_findIn_6 : decode cX12_findIn 6 = .ok (.if_icmp .ge 23, 3) := by decide +kernel
theorem dX12_findIn_9 : decode cX12_findIn 9 = .ok (.aload_n 0, 1) := by decide +kernel
theorem dX12_findIn_10 : decode cX12_findIn 10 = .ok (.iload_n 1, 1) := by decide +kernel
theorem dX12_findIn_11 : decode cX12_findIn 11 = .ok (.iload 5, 2) := by decide +kernel
theorem dX12_findIn_13 : decode cX12_findIn 13 = .ok (.iadd, 1) := by decide +kernel
theorem dX12_findIn_14 : decode cX12_findIn 14 = .ok (.laload, 1) := by decide +kernel
theorem dX12_findIn_15 : decode cX12_findIn 15 = .ok (.lload_n 3, 1) := by decide +kernel
theorem dX12_findIn_16 : decode cX12_findIn 16 = .ok (.lcmp, 1) := by decide +kernel
theorem dX12_findIn_17 : decode cX12_findIn 17 = .ok (.ifCond .ne 6, 3) := by decide +kernel
theorem dX12_findIn_20 : decode cX12_findIn 20 = .ok (.iload 5, 2) := by decide +kernel
theorem dX12_findIn_22 : decode cX12_findIn 22 = .ok (.ireturn, 1) := by decide +kernel
theorem dX12_findIn_23 : decode cX12_findIn 23 = .ok (.iinc 5 1, 3) := by decide +kernel
theorem dX12_findIn_26 : decode cX12_findIn 26 = .ok (.goto (-23), 3) := by decide +kernel
theorem dX12_findIn_29 : decode cX12_findIn 29 = .ok (.iconst (-1), 1) := by decide +kernel
theorem dX12_findIn_30 : decode cX12_findIn 30 = .ok (.ireturn, 1) := by decide +kernel
theorem dX12_readNew_0 : decode cX12_readNew 0 = .ok (.aload_n 0, 1) := by decide +kernel
theorem dX12_readNew_1 : decode cX12_readNew 1 = .ok (.invokevirtual 172, 3) := by decide +kernel
theorem dX12_readNew_4 : decode cX12_readNew 4 = .ok (.ifCond .ne 9, 3) := by decide +kernel
theorem dX12_readNew_7 : decode cX12_readNew 7 = .ok (.aload_n 0, 1) := by decide +kernel
theorem dX12_readNew_8 : decode cX12_readNew 8 = .ok (.iconst 1, 1) := by decide +kernel
theorem dX12_readNew_9 : decode cX12_readNew 9 = .ok (.invokevirtual 72, 3) := by decide +kernel
theorem dX12_readNew_12 : decode cX12_readNew 12 = .ok (.ireturn, 1) := by decide +kernel
theorem dX12_readNew_13 : decode cX12_readNew 13 = .ok (.aload_n 0, 1) := by decide +kernel
theorem dX12_readNew_14 : decode cX12_readNew 14 = .ok (.getfield 120, 3) := by decide +kernel
theorem dX12_readNew_17 : decode cX12_readNew 17 = .ok (.iconst 0, 1) := by decide +kernel
theorem dX12_readNew_18 : decode cX12_readNew 18 = .ok (.aload_n 0, 1) := by decide +kernel
theorem dX12_readNew_19 : decode cX12_readNew 19 = .ok (.getfield 101, 3) := by decide +kernel
theorem dX12_readNew_22 : decode cX12_readNew 22 = .ok (.iconst 2, 1) := by decide +kernel
theorem dX12_readNew_23 : decode cX12_readNew 23 = .ok (.iaload, 1) := by decide +kernel
theorem dX12_readNew_24 : decode cX12_readNew 24 = .ok (.aload_n 0, 1) := by decide +kernel
theorem dX12_readNew_25 : decode cX12_readNew 25 = .ok (.getfield 43, 3) := by decide +kernel
theorem dX12_readNew_28 : decode cX12_readNew 28 = .ok (.invokestatic 176, 3) := by decide +kernel
theorem dX12_readNew_31 : decode cX12_readNew 31 = .ok (.iconst (-1), 1) := by decide +kernel
theorem dX12_readNew_32 : decode cX12_readNew 32 = .ok (.if_icmp .ne 26, 3) := by decide +kernel
theorem dX12_readNew_35 : decode cX12_readNew 35 = .ok (.aload_n 0, 1) := by decide +kernel
theorem dX12_readNew_36 : decode cX12_readNew 36 = .ok (.getfield 120, 3) := by decide +kernel
theorem dX12_readNew_39 : decode cX12_readNew 39 = .ok (.bipush 10, 2) := by decide +kernel
theorem dX12_readNew_41 : decode cX12_readNew 41 = .ok (.aload_n 0, 1) := by decide +kernel
theorem dX12_readNew_42 : decode cX12_readNew 42 = .ok (.getfield 101, 3) := by decide +kernel
theorem dX12_readNew_45 : decode cX12_readNew 45 = .ok (.iconst 3, 1) := by decide +kernel
theorem dX12_readNew_46 : decode cX12_readNew 46 = .ok (.iaload, 1) := by decide +kernel
theorem dX12_readNew_47 : decode cX12_readNew 47 = .ok (.aload_n 0, 1) := by decide +kernel
theorem dX12_readNew_48 : decode cX12_readNew 48 = .ok (.getfield 43, 3) := by decide +kernel
theorem dX12_readNew_51 : decode cX12_readNew 51 = .ok (.invokestatic 176, 3) := by decide +kernel
theorem dX12_readNew_54 : decode cX12_readNew 54 = .ok (.iconst (-1), 1) := by decide +kernel
theorem dX12_readNew_55 : decode cX12_readNew 55 = .ok (.if_icmp .eq 7, 3) := by decide +kernel
theorem dX12_readNew_58 : decode cX12_readNew 58 = .ok (.iconst 1, 1) := by decide +kernel
theorem dX12_readNew_59 : decode cX12_readNew 59 = .ok (.goto 4, 3) := by decide +kernel
theorem dX12_readNew_62 : decode cX12_readNew 62 = .ok (.iconst 0, 1) := by decide +kernel
theorem dX12_readNew_63 : decode cX12_readNew 63 = .ok (.istore_n 2, 1) := by decide +kernel
theorem dX12_readNew_64 : decode cX12_readNew 64 = .ok (.iload_n 2, 1) := by decide +kernel
theorem dX12_readNew_65 : decode cX12_readNew 65 = .ok (.ifCond .ne 26, 3) := by decide +kernel
theorem dX12_readNew_68 : decode cX12_readNew 68 = .ok (.aload_n 0, 1) := by decide +kernel
theorem dX12_readNew_69 : decode cX12_readNew 69 = .ok (.getfield 120, 3) := by decide +kernel
theorem dX12_readNew_72 : decode cX12_readNew 72 = .ok (.bipush 16, 2) := by decide +kernel
theorem dX12_readNew_74 : decode cX12_readNew 74 = .ok (.aload_n 0, 1) := by decide +kernel
theorem dX12_readNew_75 : decode cX12_readNew 75 = .ok (.getfield 101, 3) := by decide +kernel
theorem dX12_readNew_78 : decode cX12_readNew 78 = .ok (.iconst 4, 1) := by decide +kernel
theorem dX12_readNew_79 : decode cX12_readNew 79 = .ok (.iaload, 1) := by decide +kernel
theorem dX12_readNew_80 : decode cX12_readNew 80 = .ok (.aload_n 0, 1) := by decide +kernel
theorem dX12_readNew_81 : decode cX12_readNew 81 = .ok (.getfield 43, 3) := by decide +kernel
theorem dX12_readNew_84 : decode cX12_readNew 84 = .ok (.invokestatic 176, 3) := by decide +kernel
theorem dX12_readNew_87 : decode cX12_readNew 87 = .ok (.iconst (-1), 1) := by decide +kernel
theorem dX12_readNew_88 : decode cX12_readNew 88 = .ok (.if_icmp .eq 9, 3) := by decide +kernel
theorem dX12_readNew_91 : decode cX12_readNew 91 = .ok (.aload_n 0, 1) := by decide +kernel
theorem dX12_readNew_92 : decode cX12_readNew 92 = .ok (.iconst 3, 1) := by decide +kernel
theorem dX12_readNew_93 : decode cX12_readNew 93 = .ok (.invokevirtual 72, 3) := by decide +kernel
theorem dX12_readNew_96 : decode cX12_readNew 96 = .ok (.ireturn, 1) := by decide +kernel
theorem dX12_readNew_97 : decode cX12_readNew 97 = .ok (.aload_n 0, 1) := by decide +kernel
theorem dX12_readNew_98 : decode cX12_readNew 98 = .ok (.getfield 120, 3) := by decide +kernel
theorem dX12_readNew_101 : decode cX12_readNew 101 = .ok (.iload_n 1, 1) := by decide +kernel
theorem dX12_readNew_102 : decode cX12_readNew 102 = .ok (.aload_n 0, 1) := by decide +kernel
theorem dX12_readNew_103 : decode cX12_readNew 103 = .ok (.getfield 43, 3) := by decide +kernel
theorem dX12_readNew_106 : decode cX12_readNew 106 = .ok (.lastore, 1) := by decide +kernel
theorem dX12_readNew_107 : decode cX12_readNew 107 = .ok (.aload_n 0, 1) := by decide +kernel
theorem dX12_readNew_108 : decode cX12_readNew 108 = .ok (.invokevirtual 82, 3) := by decide +kernel
theorem dX12_readNew_111 : decode cX12_readNew 111 = .ok (.iconst 1, 1) := by decide +kernel
theorem dX12_readNew_112 : decode cX12_readNew 112 = .ok (.ireturn, 1) := by decide +kernel
theorem dX12_readFirst_0 : decode cX12_readFirst 0 = .ok (.aload_n 0, 1) := by decide +kernel
theorem dX12_readFirst_1 : decode cX12_readFirst 1 = .ok (.getfield 101, 3) := by decide +kernel
theorem dX12_readFirst_4 : decode cX12_readFirst 4 = .ok (.iload_n 1, 1) := by decide +kernel
theorem dX12_readFirst_5 : decode cX12_readFirst 5 = .ok (.iaload, 1) := by decide +kernel
theorem dX12_readFirst_6 : decode cX12_readFirst 6 = .ok (.iload_n 2, 1) := by decide +kernel
theorem dX12_readFirst_7 : decode cX12_readFirst 7 = .ok (.if_icmp .ne 9, 3) := by decide +kernel
theorem dX12_readFirst_10 : decode cX12_readFirst 10 = .ok (.aload_n 0, 1) := by decide +kernel
theorem dX12_readFirst_11 : decode cX12_readFirst 11 = .ok (.iconst 4, 1) := by decide +kernel
theorem dX12_readFirst_12 : decode cX12_readFirst 12 = .ok (.invokevirtual 72, 3) := by decide +kernel
theorem dX12_readFirst_15 : decode cX12_readFirst 15 = .ok (.ireturn, 1) := by decide +kernel
theorem dX12_readFirst_16 : decode cX12_readFirst 16 = .ok (.aload_n 0, 1) := by decide +kernel
theorem dX12_readFirst_17 : decode cX12_readFirst 17 = .ok (.invokevirtual 82, 3) := by decide +kernel
theorem dX12_readFirst_20 : decode cX12_readFirst 20 = .ok (.iconst 1, 1) := by decide +kernel
theorem dX12_readFirst_21 : decode cX12_readFirst 21 = .ok (.ireturn, 1) := by decide +kernel
theorem dX12_put_0 : decode cX12_put 0 = .ok (.iload_n 2, 1) := by decide +kernel
theorem dX12_put_1 : decode cX12_put 1 = .ok (.ifCond .eq 13, 3) := by decide +kernel
theorem dX12_put_4 : decode cX12_put 4 = .ok (.aload_n 0, 1) := by decide +kernel
theorem dX12_put_5 : decode cX12_put 5 = .ok (.getfield 101, 3) := by decide +kernel
theorem dX12_put_8 : decode cX12_put 8 = .ok (.iload_n 1, 1) := by decide +kernel
theorem dX12_put_9 : decode cX12_put 9 = .ok (.aload_n 0, 1) := by decide +kernel
theorem dX12_put_10 : decode cX12_put 10 = .ok (.getfield 79, 3) := by decide +kernel
theorem dX12_put_13 : decode cX12_put 13 = .ok (.iastore, 1) := by decide +kernel
theorem dX12_put_14 : decode cX12_put 14 = .ok (.iload_n 2, 1) := by decide +kernel
theorem dX12_put_15 : decode cX12_put 15 = .ok (.ireturn, 1) := by decide +kernel
theorem dX12_readTold_0 : decode cX12_readTold 0 = .ok (.aload_n 0, 1) := by decide +kernel
theorem dX12_readTold_1 : decode cX12_readTold 1 = .ok (.invokevirtual 172, 3) := by decide +kernel
theorem dX12_readTold_4 : decode cX12_readTold 4 = .ok (.ifCond .ne 9, 3) := by decide +kernel
theorem dX12_readTold_7 : decode cX12_readTold 7 = .ok (.aload_n 0, 1) := by decide +kernel
theorem dX12_readTold_8 : decode cX12_readTold 8 = .ok (.iconst 1, 1) := by decide +kernel
theorem dX12_readTold_9 : decode cX12_readTold 9 = .ok (.invokevirtual 72, 3) := by decide +kernel
theorem dX12_readTold_12 : decode cX12_readTold 12 = .ok (.ireturn, 1) := by decide +kernel
theorem dX12_readTold_13 : decode cX12_readTold 13 = .ok (.aload_n 0, 1) := by decide +kernel
theorem dX12_readTold_14 : decode cX12_readTold 14 = .ok (.aload_n 0, 1) := by decide +kernel
theorem dX12_readTold_15 : decode cX12_readTold 15 = .ok (.getfield 120, 3) := by decide +kernel
theorem dX12_readTold_18 : decode cX12_readTold 18 = .ok (.iload_n 1, 1) := by decide +kernel
theorem dX12_readTold_19 : decode cX12_readTold 19 = .ok (.iload_n 2, 1) := by decide +kernel
theorem dX12_readTold_20 : decode cX12_readTold 20 = .ok (.aload_n 0, 1) := by decide +kernel
theorem dX12_readTold_21 : decode cX12_readTold 21 = .ok (.getfield 43, 3) := by decide +kernel
theorem dX12_readTold_24 : decode cX12_readTold 24 = .ok (.invokestatic 176, 3) := by decide +kernel
theorem dX12_readTold_27 : decode cX12_readTold 27 = .ok (.putfield 79, 3) := by decide +kernel
theorem dX12_readTold_30 : decode cX12_readTold 30 = .ok (.aload_n 0, 1) := by decide +kernel
theorem dX12_readTold_31 : decode cX12_readTold 31 = .ok (.getfield 79, 3) := by decide +kernel
theorem dX12_readTold_34 : decode cX12_readTold 34 = .ok (.iconst (-1), 1) := by decide +kernel
theorem dX12_readTold_35 : decode cX12_readTold 35 = .ok (.if_icmp .ne 9, 3) := by decide +kernel
theorem dX12_readTold_38 : decode cX12_readTold 38 = .ok (.aload_n 0, 1) := by decide +kernel
theorem dX12_readTold_39 : decode cX12_readTold 39 = .ok (.iconst 3, 1) := by decide +kernel
theorem dX12_readTold_40 : decode cX12_readTold 40 = .ok (.invokevirtual 72, 3) := by decide +kernel
theorem dX12_readTold_43 : decode cX12_readTold 43 = .ok (.ireturn, 1) := by decide +kernel
theorem dX12_readTold_44 : decode cX12_readTold 44 = .ok (.aload_n 0, 1) := by decide +kernel
theorem dX12_readTold_45 : decode cX12_readTold 45 = .ok (.invokevirtual 82, 3) := by decide +kernel
theorem dX12_readTold_48 : decode cX12_readTold 48 = .ok (.iconst 1, 1) := by decide +kernel
theorem dX12_readTold_49 : decode cX12_readTold 49 = .ok (.ireturn, 1) := by decide +kernel
theorem dX12_isNumber_0 : decode cX12_isNumber 0 = .ok (.aload_n 0, 1) := by decide +kernel
theorem dX12_isNumber_1 : decode cX12_isNumber 1 = .ok (.getfield 30, 3) := by decide +kernel
theorem dX12_isNumber_4 : decode cX12_isNumber 4 = .ok (.iconst 3, 1) := by decide +kernel
theorem dX12_isNumber_5 : decode cX12_isNumber 5 = .ok (.if_icmp .eq 9, 3) := by decide +kernel
theorem dX12_isNumber_8 : decode cX12_isNumber 8 = .ok (.aload_n 0, 1) := by decide +kernel
theorem dX12_isNumber_9 : decode cX12_isNumber 9 = .ok (.iconst 1, 1) := by decide +kernel
theorem dX12_isNumber_10 : decode cX12_isNumber 10 = .ok (.invokevirtual 72, 3) := by decide +kernel
theorem dX12_isNumber_13 : decode cX12_isNumber 13 = .ok (.ireturn, 1) := by decide +kernel
theorem dX12_isNumber_14 : decode cX12_isNumber 14 = .ok (.aload_n 0, 1) := by decide +kernel
theorem dX12_isNumber_15 : decode cX12_isNumber 15 = .ok (.getfield 47, 3) := by decide +kernel
theorem dX12_isNumber_18 : decode cX12_isNumber 18 = .ok (.iload_n 1, 1) := by decide +kernel
theorem dX12_isNumber_19 : decode cX12_isNumber 19 = .ok (.iload_n 2, 1) := by decide +kernel
theorem dX12_isNumber_20 : decode cX12_isNumber 20 = .ok (.invokestatic 75, 3) := by decide +kernel
theorem dX12_isNumber_23 : decode cX12_isNumber 23 = .ok (.ifCond .ne 11, 3) := by decide +kernel
theorem dX12_isNumber_26 : decode cX12_isNumber 26 = .ok (.aload_n 0, 1) := by decide +kernel
theorem dX12_isNumber_27 : decode cX12_isNumber 27 = .ok (.iconst 2, 1) := by decide +kernel
theorem dX12_isNumber_28 : decode cX12_isNumber 28 = .ok (.invokevirtual 72, 3) := by decide +kernel
theorem dX12_isNumber_31 : decode cX12_isNumber 31 = .ok (.ifCond .eq 7, 3) := by decide +kernel
theorem dX12_isNumber_34 : decode cX12_isNumber 34 = .ok (.iconst 1, 1) := by decide +kernel
theorem dX12_isNumber_35 : decode cX12_isNumber 35 = .ok (.goto 4, 3) := by decide +kernel
theorem dX12_isNumber_38 : decode cX12_isNumber 38 = .ok (.iconst 0, 1) := by decide +kernel
theorem dX12_isNumber_39 : decode cX12_isNumber 39 = .ok (.ireturn, 1) := by decide +kernel
theorem dX12_readRow_0 : decode cX12_readRow 0 = .ok (.aload_n 0, 1) := by decide +kernel
theorem dX12_readRow_1 : decode cX12_readRow 1 = .ok (.iconst 1, 1) := by decide +kernel
theorem dX12_readRow_2 : decode cX12_readRow 2 = .ok (.bipush 30, 2) := by decide +kernel
theorem dX12_readRow_4 : decode cX12_readRow 4 = .ok (.invokevirtual 180, 3) := by decide +kernel
theorem dX12_readRow_7 : decode cX12_readRow 7 = .ok (.ifCond .eq 19, 3) := by decide +kernel
theorem dX12_readRow_10 : decode cX12_readRow 10 = .ok (.aload_n 0, 1) := by decide +kernel
theorem dX12_readRow_11 : decode cX12_readRow 11 = .ok (.iconst 0, 1) := by decide +kernel
theorem dX12_readRow_12 : decode cX12_readRow 12 = .ok (.aload_n 0, 1) := by decide +kernel
theorem dX12_readRow_13 : decode cX12_readRow 13 = .ok (.getfield 101, 3) := by decide +kernel
theorem dX12_readRow_16 : decode cX12_readRow 16 = .ok (.iconst 0, 1) := by decide +kernel
theorem dX12_readRow_17 : decode cX12_readRow 17 = .ok (.iaload, 1) := by decide +kernel
theorem dX12_readRow_18 : decode cX12_readRow 18 = .ok (.iconst 1, 1) := by decide +kernel
theorem dX12_readRow_19 : decode cX12_readRow 19 = .ok (.isub, 1) := by decide +kernel
theorem dX12_readRow_20 : decode cX12_readRow 20 = .ok (.invokevirtual 184, 3) := by decide +kernel
theorem dX12_readRow_23 : decode cX12_readRow 23 = .ok (.ifCond .ne 5, 3) := by decide +kernel
theorem dX12_readRow_26 : decode cX12_readRow 26 = .ok (.iconst 0, 1) := by decide +kernel
theorem dX12_readRow_27 : decode cX12_readRow 27 = .ok (.ireturn, 1) := by decide +kernel
theorem dX12_readRow_28 : decode cX12_readRow 28 = .ok (.iconst 0, 1) := by decide +kernel
theorem dX12_readRow_29 : decode cX12_readRow 29 = .ok (.istore_n 1, 1) := by decide +kernel
theorem dX12_readRow_30 : decode cX12_readRow 30 = .ok (.iload_n 1, 1) := by decide +kernel
theorem dX12_readRow_31 : decode cX12_readRow 31 = .ok (.aload_n 0, 1) := by decide +kernel
theorem dX12_readRow_32 : decode cX12_readRow 32 = .ok (.getfield 101, 3) := by decide +kernel
theorem dX12_readRow_35 : decode cX12_readRow 35 = .ok (.iconst 1, 1) := by decide +kernel
theorem dX12_readRow_36 : decode cX12_readRow 36 = .ok (.iaload, 1) := by decide +kernel
theorem dX12_readRow_37 : decode cX12_readRow 37 = .ok (.if_icmp .ge 25, 3) := by decide +kernel
theorem dX12_readRow_40 : decode cX12_readRow 40 = .ok (.aload_n 0, 1) := by decide +kernel
theorem dX12_readRow_41 : decode cX12_readRow 41 = .ok (.getfield 101, 3) := by decide +kernel
theorem dX12_readRow_44 : decode cX12_readRow 44 = .ok (.bipush 6, 2) := by decide +kernel
theorem dX12_readRow_46 : decode cX12_readRow 46 = .ok (.iload_n 1, 1) := by decide +kernel
theorem dX12_readRow_47 : decode cX12_readRow 47 = .ok (.iadd, 1) := by decide +kernel
theorem dX12_readRow_48 : decode cX12_readRow 48 = .ok (.iaload, 1) := by decide +kernel
theorem dX12_readRow_49 : decode cX12_readRow 49 = .ok (.aload_n 0, 1) := by decide +kernel
theorem dX12_readRow_50 : decode cX12_readRow 50 = .ok (.getfield 47, 3) := by decide +kernel
theorem dX12_readRow_53 : decode cX12_readRow 53 = .ok (.if_icmp .ge 9, 3) := by decide +kernel
theorem dX12_readRow_56 : decode cX12_readRow 56 = .ok (.iinc 1 1, 3) := by decide +kernel
theorem dX12_readRow_59 : decode cX12_readRow 59 = .ok (.goto (-29), 3) := by decide +kernel
theorem dX12_readRow_62 : decode cX12_readRow 62 = .ok (.iload_n 1, 1) := by decide +kernel
theorem dX12_readRow_63 : decode cX12_readRow 63 = .ok (.aload_n 0, 1) := by decide +kernel
theorem dX12_readRow_64 : decode cX12_readRow 64 = .ok (.getfield 101, 3) := by decide +kernel
theorem dX12_readRow_67 : decode cX12_readRow 67 = .ok (.iconst 1, 1) := by decide +kernel
theorem dX12_readRow_68 : decode cX12_readRow 68 = .ok (.iaload, 1) := by decide +kernel
theorem dX12_readRow_69 : decode cX12_readRow 69 = .ok (.if_icmp .ge 25, 3) := by decide +kernel
theorem dX12_readRow_72 : decode cX12_readRow 72 = .ok (.aload_n 0, 1) := by decide +kernel
theorem dX12_readRow_73 : decode cX12_readRow 73 = .ok (.getfield 101, 3) := by decide +kernel
theorem dX12_readRow_76 : decode cX12_readRow 76 = .ok (.bipush 6, 2) := by decide +kernel
theorem dX12_readRow_78 : decode cX12_readRow 78 = .ok (.iload_n 1, 1) := by decide +kernel
theorem dX12_readRow_79 : decode cX12_readRow 79 = .ok (.iadd, 1) := by decide +kernel
theorem dX12_readRow_80 : decode cX12_readRow 80 = .ok (.iaload, 1) := by decide +kernel
theorem dX12_readRow_81 : decode cX12_readRow 81 = .ok (.aload_n 0, 1) := by decide +kernel
theorem dX12_readRow_82 : decode cX12_readRow 82 = .ok (.getfield 47, 3) := by decide +kernel
theorem dX12_readRow_85 : decode cX12_readRow 85 = .ok (.if_icmp .ne 9, 3) := by decide +kernel
theorem dX12_readRow_88 : decode cX12_readRow 88 = .ok (.aload_n 0, 1) := by decide +kernel
theorem dX12_readRow_89 : decode cX12_readRow 89 = .ok (.iconst 3, 1) := by decide +kernel
theorem dX12_readRow_90 : decode cX12_readRow 90 = .ok (.invokevirtual 72, 3) := by decide +kernel
theorem dX12_readRow_93 : decode cX12_readRow 93 = .ok (.ireturn, 1) := by decide +kernel
theorem dX12_readRow_94 : decode cX12_readRow 94 = .ok (.aload_n 0, 1) := by decide +kernel
theorem dX12_readRow_95 : decode cX12_readRow 95 = .ok (.getfield 47, 3) := by decide +kernel
theorem dX12_readRow_98 : decode cX12_readRow 98 = .ok (.istore_n 2, 1) := by decide +kernel
theorem dX12_readRow_99 : decode cX12_readRow 99 = .ok (.aload_n 0, 1) := by decide +kernel
theorem dX12_readRow_100 : decode cX12_readRow 100 = .ok (.invokevirtual 82, 3) := by decide +kernel
theorem dX12_readRow_103 : decode cX12_readRow 103 = .ok (.aload_n 0, 1) := by decide +kernel
theorem dX12_readRow_104 : decode cX12_readRow 104 = .ok (.iconst 1, 1) := by decide +kernel
theorem dX12_readRow_105 : decode cX12_readRow 105 = .ok (.sipush 250, 3) := by decide +kernel
theorem dX12_readRow_108 : decode cX12_readRow 108 = .ok (.invokevirtual 187, 3) := by decide +kernel
theorem dX12_readRow_111 : decode cX12_readRow 111 = .ok (.ifCond .ne 5, 3) := by decide +kernel
theorem dX12_readRow_114 : decode cX12_readRow 114 = .ok (.iconst 0, 1) := by decide +kernel
theorem dX12_readRow_115 : decode cX12_readRow 115 = .ok (.ireturn, 1) := by decide +kernel
theorem dX12_readRow_116 : decode cX12_readRow 116 = .ok (.aload_n 0, 1) := by decide +kernel
theorem dX12_readRow_117 : decode cX12_readRow 117 = .ok (.getfield 101, 3) := by decide +kernel
theorem dX12_readRow_120 : decode cX12_readRow 120 = .ok (.iconst 1, 1) := by decide +kernel
theorem dX12_readRow_121 : decode cX12_readRow 121 = .ok (.iaload, 1) := by decide +kernel
theorem dX12_readRow_122 : decode cX12_readRow 122 = .ok (.istore_n 3, 1) := by decide +kernel
theorem dX12_readRow_123 : decode cX12_readRow 123 = .ok (.iload_n 3, 1) := by decide +kernel
theorem dX12_readRow_124 : decode cX12_readRow 124 = .ok (.iload_n 1, 1) := by decide +kernel
theorem dX12_readRow_125 : decode cX12_readRow 125 = .ok (.if_icmp .le 49, 3) := by decide +kernel
theorem dX12_readRow_128 : decode cX12_readRow 128 = .ok (.aload_n 0, 1) := by decide +kernel
theorem dX12_readRow_129 : decode cX12_readRow 129 = .ok (.getfield 101, 3) := by decide +kernel
theorem dX12_readRow_132 : decode cX12_readRow 132 = .ok (.bipush 6, 2) := by decide +kernel
theorem dX12_readRow_134 : decode cX12_readRow 134 = .ok (.iload_n 3, 1) := by decide +kernel
theorem dX12_readRow_135 : decode cX12_readRow 135 = .ok (.iadd, 1) := by decide +kernel
theorem dX12_readRow_136 : decode cX12_readRow 136 = .ok (.aload_n 0, 1) := by decide +kernel
theorem dX12_readRow_137 : decode cX12_readRow 137 = .ok (.getfield 101, 3) := by decide +kernel
theorem dX12_readRow_140 : decode cX12_readRow 140 = .ok (.bipush 6, 2) := by decide +kernel
theorem dX12_readRow_142 : decode cX12_readRow 142 = .ok (.iload_n 3, 1) := by decide +kernel
theorem dX12_readRow_143 : decode cX12_readRow 143 = .ok (.iadd, 1) := by decide +kernel
theorem dX12_readRow_144 : decode cX12_readRow 144 = .ok (.iconst 1, 1) := by decide +kernel
theorem dX12_readRow_145 : decode cX12_readRow 145 = .ok (.isub, 1) := by decide +kernel
theorem dX12_readRow_146 : decode cX12_readRow 146 = .ok (.iaload, 1) := by decide +kernel
theorem dX12_readRow_147 : decode cX12_readRow 147 = .ok (.iastore, 1) := by decide +kernel
theorem dX12_readRow_148 : decode cX12_readRow 148 = .ok (.aload_n 0, 1) := by decide +kernel
theorem dX12_readRow_149 : decode cX12_readRow 149 = .ok (.getfield 101, 3) := by decide +kernel
theorem dX12_readRow_152 : decode cX12_readRow 152 = .ok (.bipush 36, 2) := by decide +kernel
theorem dX12_readRow_154 : decode cX12_readRow 154 = .ok (.iload_n 3, 1) := by decide +kernel
theorem dX12_readRow_155 : decode cX12_readRow 155 = .ok (.iadd, 1) := by decide +kernel
theorem dX12_readRow_156 : decode cX12_readRow 156 = .ok (.aload_n 0, 1) := by decide +kernel
theorem dX12_readRow_157 : decode cX12_readRow 157 = .ok (.getfield 101, 3) := by decide +kernel
theorem dX12_readRow_160 : decode cX12_readRow 160 = .ok (.bipush 36, 2) := by decide +kernel
theorem dX12_readRow_162 : decode cX12_readRow 162 = .ok (.iload_n 3, 1) := by decide +kernel
theorem dX12_readRow_163 : decode cX12_readRow 163 = .ok (.iadd, 1) := by decide +kernel
theorem dX12_readRow_164 : decode cX12_readRow 164 = .ok (.iconst 1, 1) := by decide +kernel
theorem dX12_readRow_165 : decode cX12_readRow 165 = .ok (.isub, 1) := by decide +kernel
theorem dX12_readRow_166 : decode cX12_readRow 166 = .ok (.iaload, 1) := by decide +kernel
theorem dX12_readRow_167 : decode cX12_readRow 167 = .ok (.iastore, 1) := by decide +kernel
theorem dX12_readRow_168 : decode cX12_readRow 168 = .ok (.iinc 3 (-1), 3) := by decide +kernel
theorem dX12_readRow_171 : decode cX12_readRow 171 = .ok (.goto (-48), 3) := by decide +kernel
theorem dX12_readRow_174 : decode cX12_readRow 174 = .ok (.aload_n 0, 1) := by decide +kernel
theorem dX12_readRow_175 : decode cX12_readRow 175 = .ok (.getfield 101, 3) := by decide +kernel
theorem dX12_readRow_178 : decode cX12_readRow 178 = .ok (.bipush 6, 2) := by decide +kernel
theorem dX12_readRow_180 : decode cX12_readRow 180 = .ok (.iload_n 1, 1) := by decide +kernel
theorem dX12_readRow_181 : decode cX12_readRow 181 = .ok (.iadd, 1) := by decide +kernel
theorem dX12_readRow_182 : decode cX12_readRow 182 = .ok (.iload_n 2, 1) := by decide +kernel
theorem dX12_readRow_183 : decode cX12_readRow 183 = .ok (.iastore, 1) := by decide +kernel
theorem dX12_readRow_184 : decode cX12_readRow 184 = .ok (.aload_n 0, 1) := by decide +kernel
theorem dX12_readRow_185 : decode cX12_readRow 185 = .ok (.getfield 101, 3) := by decide +kernel
theorem dX12_readRow_188 : decode cX12_readRow 188 = .ok (.bipush 36, 2) := by decide +kernel
theorem dX12_readRow_190 : decode cX12_readRow 190 = .ok (.iload_n 1, 1) := by decide +kernel
theorem dX12_readRow_191 : decode cX12_readRow 191 = .ok (.iadd, 1) := by decide +kernel
theorem dX12_readRow_192 : decode cX12_readRow 192 = .ok (.aload_n 0, 1) := by decide +kernel
theorem dX12_readRow_193 : decode cX12_readRow 193 = .ok (.getfield 79, 3) := by decide +kernel
theorem dX12_readRow_196 : decode cX12_readRow 196 = .ok (.iastore, 1) := by decide +kernel
theorem dX12_readRow_197 : decode cX12_readRow 197 = .ok (.aload_n 0, 1) := by decide +kernel
theorem dX12_readRow_198 : decode cX12_readRow 198 = .ok (.getfield 101, 3) := by decide +kernel
theorem dX12_readRow_201 : decode cX12_readRow 201 = .ok (.iconst 1, 1) := by decide +kernel
theorem dX12_readRow_202 : decode cX12_readRow 202 = .ok (.dup2, 1) := by decide +kernel
theorem dX12_readRow_203 : decode cX12_readRow 203 = .ok (.iaload, 1) := by decide +kernel
theorem dX12_readRow_204 : decode cX12_readRow 204 = .ok (.iconst 1, 1) := by decide +kernel
theorem dX12_readRow_205 : decode cX12_readRow 205 = .ok (.iadd, 1) := by decide +kernel
theorem dX12_readRow_206 : decode cX12_readRow 206 = .ok (.iastore, 1) := by decide +kernel
theorem dX12_readRow_207 : decode cX12_readRow 207 = .ok (.iconst 1, 1) := by decide +kernel
theorem dX12_readRow_208 : decode cX12_readRow 208 = .ok (.ireturn, 1) := by decide +kernel
theorem dX12_isWithin_0 : decode cX12_isWithin 0 = .ok (.iload_n 0, 1) := by decide +kernel
theorem dX12_isWithin_1 : decode cX12_isWithin 1 = .ok (.iload_n 2, 1) := by decide +kernel
theorem dX12_isWithin_2 : decode cX12_isWithin 2 = .ok (.if_icmp .lt 12, 3) := by decide +kernel
theorem dX12_isWithin_5 : decode cX12_isWithin 5 = .ok (.iload_n 1, 1) := by decide +kernel
theorem dX12_isWithin_6 : decode cX12_isWithin 6 = .ok (.iload_n 3, 1) := by decide +kernel
theorem dX12_isWithin_7 : decode cX12_isWithin 7 = .ok (.if_icmp .gt 7, 3) := by decide +kernel
theorem dX12_isWithin_10 : decode cX12_isWithin 10 = .ok (.iconst 1, 1) := by decide +kernel
theorem dX12_isWithin_11 : decode cX12_isWithin 11 = .ok (.goto 4, 3) := by decide +kernel
theorem dX12_isWithin_14 : decode cX12_isWithin 14 = .ok (.iconst 0, 1) := by decide +kernel
theorem dX12_isWithin_15 : decode cX12_isWithin 15 = .ok (.ireturn, 1) := by decide +kernel
theorem dX12_areApart_0 : decode cX12_areApart 0 = .ok (.iload_n 1, 1) := by decide +kernel
theorem dX12_areApart_1 : decode cX12_areApart 1 = .ok (.iload_n 2, 1) := by decide +kernel
theorem dX12_areApart_2 : decode cX12_areApart 2 = .ok (.if_icmp .le 8, 3) := by decide +kernel
theorem dX12_areApart_5 : decode cX12_areApart 5 = .ok (.iload_n 3, 1) := by decide +kernel
theorem dX12_areApart_6 : decode cX12_areApart 6 = .ok (.iload_n 0, 1) := by decide +kernel
theorem dX12_areApart_7 : decode cX12_areApart 7 = .ok (.if_icmp .gt 7, 3) := by decide +kernel
theorem dX12_areApart_10 : decode cX12_areApart 10 = .ok (.iconst 1, 1) := by decide +kernel
theorem dX12_areApart_11 : decode cX12_areApart 11 = .ok (.goto 4, 3) := by decide +kernel
theorem dX12_areApart_14 : decode cX12_areApart 14 = .ok (.iconst 0, 1) := by decide +kernel
theorem dX12_areApart_15 : decode cX12_areApart 15 = .ok (.ireturn, 1) := by decide +kernel
theorem dX12_cutsScope_0 : decode cX12_cutsScope 0 = .ok (.iconst 0, 1) := by decide +kernel
theorem dX12_cutsScope_1 : decode cX12_cutsScope 1 = .ok (.istore_n 3, 1) := by decide +kernel
theorem dX12_cutsScope_2 : decode cX12_cutsScope 2 = .ok (.iload_n 3, 1) := by decide +kernel
theorem dX12_cutsScope_3 : decode cX12_cutsScope 3 = .ok (.aload_n 0, 1) := by decide +kernel
theorem dX12_cutsScope_4 : decode cX12_cutsScope 4 = .ok (.getfield 101, 3) := by decide +kernel
theorem dX12_cutsScope_7 : decode cX12_cutsScope 7 = .ok (.iconst 2, 1) := by decide +kernel
theorem dX12_cutsScope_8 : decode cX12_cutsScope 8 = .ok (.iaload, 1) := by decide +kernel
theorem dX12_cutsScope_9 : decode cX12_cutsScope 9 = .ok (.if_icmp .ge 69, 3) := by decide +kernel
theorem dX12_cutsScope_12 : decode cX12_cutsScope 12 = .ok (.aload_n 0, 1) := by decide +kernel
theorem dX12_cutsScope_13 : decode cX12_cutsScope 13 = .ok (.getfield 101, 3) := by decide +kernel
theorem dX12_cutsScope_16 : decode cX12_cutsScope 16 = .ok (.bipush 66, 2) := by decide +kernel
theorem dX12_cutsScope_18 : decode cX12_cutsScope 18 = .ok (.iload_n 3, 1) := by decide +kernel
theorem dX12_cutsScope_19 : decode cX12_cutsScope 19 = .ok (.iadd, 1) := by decide +kernel
theorem dX12_cutsScope_20 : decode cX12_cutsScope 20 = .ok (.iaload, 1) := by decide +kernel
theorem dX12_cutsScope_21 : decode cX12_cutsScope 21 = .ok (.istore 4, 2) := by decide +kernel
theorem dX12_cutsScope_23 : decode cX12_cutsScope 23 = .ok (.aload_n 0, 1) := by decide +kernel
theorem dX12_cutsScope_24 : decode cX12_cutsScope 24 = .ok (.getfield 101, 3) := by decide +kernel
theorem dX12_cutsScope_27 : decode cX12_cutsScope 27 = .ok (.bipush 76, 2) := by decide +kernel
theorem dX12_cutsScope_29 : decode cX12_cutsScope 29 = .ok (.iload_n 3, 1) := by decide +kernel
theorem dX12_cutsScope_30 : decode cX12_cutsScope 30 = .ok (.iadd, 1) := by decide +kernel
theorem dX12_cutsScope_31 : decode cX12_cutsScope 31 = .ok (.iaload, 1) := by decide +kernel
theorem dX12_cutsScope_32 : decode cX12_cutsScope 32 = .ok (.istore 5, 2) := by decide +kernel
theorem dX12_cutsScope_34 : decode cX12_cutsScope 34 = .ok (.iload_n 1, 1) := by decide +kernel
theorem dX12_cutsScope_35 : decode cX12_cutsScope 35 = .ok (.iload_n 2, 1) := by decide +kernel
theorem dX12_cutsScope_36 : decode cX12_cutsScope 36 = .ok (.iload 4, 2) := by decide +kernel
theorem dX12_cutsScope_38 : decode cX12_cutsScope 38 = .ok (.iload 5, 2) := by decide +kernel
theorem dX12_cutsScope_40 : decode cX12_cutsScope 40 = .ok (.invokestatic 190, 3) := by decide +kernel
theorem dX12_cutsScope_43 : decode cX12_cutsScope 43 = .ok (.ifCond .ne 29, 3) := by decide +kernel
theorem dX12_cutsScope_46 : decode cX12_cutsScope 46 = .ok (.iload 4, 2) := by decide +kernel
theorem dX12_cutsScope_48 : decode cX12_cutsScope 48 = .ok (.iload 5, 2) := by decide +kernel
theorem dX12_cutsScope_50 : decode cX12_cutsScope 50 = .ok (.iload_n 1, 1) := by decide +kernel
theorem dX12_cutsScope_51 : decode cX12_cutsScope 51 = .ok (.iload_n 2, 1) := by decide +kernel
theorem dX12_cutsScope_52 : decode cX12_cutsScope 52 = .ok (.invokestatic 190, 3) := by decide +kernel
theorem dX12_cutsScope_55 : decode cX12_cutsScope 55 = .ok (.ifCond .ne 17, 3) := by decide +kernel
theorem dX12_cutsScope_58 : decode cX12_cutsScope 58 = .ok (.iload_n 1, 1) := by decide +kernel
theorem dX12_cutsScope_59 : decode cX12_cutsScope 59 = .ok (.iload_n 2, 1) := by decide +kernel
theorem dX12_cutsScope_60 : decode cX12_cutsScope 60 = .ok (.iload 4, 2) := by decide +kernel
theorem dX12_cutsScope_62 : decode cX12_cutsScope 62 = .ok (.iload 5, 2) := by decide +kernel
theorem dX12_cutsScope_64 : decode cX12_cutsScope 64 = .ok (.invokestatic 194, 3) := by decide +kernel
theorem dX12_cutsScope_67 : decode cX12_cutsScope 67 = .ok (.ifCond .ne 5, 3) := by decide +kernel
theorem dX12_cutsScope_70 : decode cX12_cutsScope 70 = .ok (.iconst 1, 1) := by decide +kernel
theorem dX12_cutsScope_71 : decode cX12_cutsScope 71 = .ok (.ireturn, 1) := by decide +kernel
theorem dX12_cutsScope_72 : decode cX12_cutsScope 72 = .ok (.iinc 3 1, 3) := by decide +kernel
theorem dX12_cutsScope_75 : decode cX12_cutsScope 75 = .ok (.goto (-73), 3) := by decide +kernel
theorem dX12_cutsScope_78 : decode cX12_cutsScope 78 = .ok (.iconst 0, 1) := by decide +kernel
theorem dX12_cutsScope_79 : decode cX12_cutsScope 79 = .ok (.ireturn, 1) := by decide +kernel
theorem dX12_readScope_0 : decode cX12_readScope 0 = .ok (.aload_n 0, 1) := by decide +kernel
theorem dX12_readScope_1 : decode cX12_readScope 1 = .ok (.iconst 2, 1) := by decide +kernel
theorem dX12_readScope_2 : decode cX12_readScope 2 = .ok (.bipush 10, 2) := by decide +kernel
theorem dX12_readScope_4 : decode cX12_readScope 4 = .ok (.invokevirtual 180, 3) := by decide +kernel
theorem dX12_readScope_7 : decode cX12_readScope 7 = .ok (.ifCond .ne 5, 3) := by decide +kernel
theorem dX12_readScope_10 : decode cX12_readScope 10 = .ok (.iconst 0, 1) := by decide +kernel
theorem dX12_readScope_11 : decode cX12_readScope 11 = .ok (.ireturn, 1) := by decide +kernel
theorem dX12_readScope_12 : decode cX12_readScope 12 = .ok (.aload_n 0, 1) := by decide +kernel
theorem dX12_readScope_13 : decode cX12_readScope 13 = .ok (.getfield 101, 3) := by decide +kernel
theorem dX12_readScope_16 : decode cX12_readScope 16 = .ok (.iconst 2, 1) := by decide +kernel
theorem dX12_readScope_17 : decode cX12_readScope 17 = .ok (.iaload, 1) := by decide +kernel
theorem dX12_readScope_18 : decode cX12_readScope 18 = .ok (.istore_n 1, 1) := by decide +kernel
theorem dX12_readScope_19 : decode cX12_readScope 19 = .ok (.aload_n 0, 1) := by decide +kernel
theorem dX12_readScope_20 : decode cX12_readScope 20 = .ok (.iload_n 1, 1) := by decide +kernel
theorem dX12_readScope_21 : decode cX12_readScope 21 = .ok (.invokevirtual 197, 3) := by decide +kernel
theorem dX12_readScope_24 : decode cX12_readScope 24 = .ok (.ifCond .eq 51, 3) := by decide +kernel
theorem dX12_readScope_27 : decode cX12_readScope 27 = .ok (.aload_n 0, 1) := by decide +kernel
theorem dX12_readScope_28 : decode cX12_readScope 28 = .ok (.bipush 66, 2) := by decide +kernel
theorem dX12_readScope_30 : decode cX12_readScope 30 = .ok (.iload_n 1, 1) := by decide +kernel
theorem dX12_readScope_31 : decode cX12_readScope 31 = .ok (.iadd, 1) := by decide +kernel
theorem dX12_readScope_32 : decode cX12_readScope 32 = .ok (.aload_n 0, 1) := by decide +kernel
theorem dX12_readScope_33 : decode cX12_readScope 33 = .ok (.iconst 0, 1) := by decide +kernel
theorem dX12_readScope_34 : decode cX12_readScope 34 = .ok (.aload_n 0, 1) := by decide +kernel
theorem dX12_readScope_35 : decode cX12_readScope 35 = .ok (.getfield 101, 3) := by decide +kernel
theorem dX12_readScope_38 : decode cX12_readScope 38 = .ok (.iconst 0, 1) := by decide +kernel
theorem dX12_readScope_39 : decode cX12_readScope 39 = .ok (.iaload, 1) := by decide +kernel
theorem dX12_readScope_40 : decode cX12_readScope 40 = .ok (.iconst 1, 1) := by decide +kernel
theorem dX12_readScope_41 : decode cX12_readScope 41 = .ok (.isub, 1) := by decide +kernel
theorem dX12_readScope_42 : decode cX12_readScope 42 = .ok (.invokevirtual 187, 3) := by decide +kernel
theorem dX12_readScope_45 : decode cX12_readScope 45 = .ok (.invokevirtual 200, 3) := by decide +kernel
theorem dX12_readScope_48 : decode cX12_readScope 48 = .ok (.ifCond .eq 27, 3) := by decide +kernel
theorem dX12_readScope_51 : decode cX12_readScope 51 = .ok (.aload_n 0, 1) := by decide +kernel
theorem dX12_readScope_52 : decode cX12_readScope 52 = .ok (.aload_n 0, 1) := by decide +kernel
theorem dX12_readScope_53 : decode cX12_readScope 53 = .ok (.getfield 101, 3) := by decide +kernel
theorem dX12_readScope_56 : decode cX12_readScope 56 = .ok (.bipush 66, 2) := by decide +kernel
theorem dX12_readScope_58 : decode cX12_readScope 58 = .ok (.iload_n 1, 1) := by decide +kernel
theorem dX12_readScope_59 : decode cX12_readScope 59 = .ok (.iadd, 1) := by decide +kernel
theorem dX12_readScope_60 : decode cX12_readScope 60 = .ok (.iaload, 1) := by decide +kernel
theorem dX12_readScope_61 : decode cX12_readScope 61 = .ok (.iconst 1, 1) := by decide +kernel
theorem dX12_readScope_62 : decode cX12_readScope 62 = .ok (.iadd, 1) := by decide +kernel
theorem dX12_readScope_63 : decode cX12_readScope 63 = .ok (.aload_n 0, 1) := by decide +kernel
theorem dX12_readScope_64 : decode cX12_readScope 64 = .ok (.getfield 101, 3) := by decide +kernel
theorem dX12_readScope_67 : decode cX12_readScope 67 = .ok (.iconst 0, 1) := by decide +kernel
theorem dX12_readScope_68 : decode cX12_readScope 68 = .ok (.iaload, 1) := by decide +kernel
theorem dX12_readScope_69 : decode cX12_readScope 69 = .ok (.invokevirtual 184, 3) := by decide +kernel
theorem dX12_readScope_72 : decode cX12_readScope 72 = .ok (.ifCond .ne 5, 3) := by decide +kernel
theorem dX12_readScope_75 : decode cX12_readScope 75 = .ok (.iconst 0, 1) := by decide +kernel
theorem dX12_readScope_76 : decode cX12_readScope 76 = .ok (.ireturn, 1) := by decide +kernel
theorem dX12_readScope_77 : decode cX12_readScope 77 = .ok (.aload_n 0, 1) := by decide +kernel
theorem dX12_readScope_78 : decode cX12_readScope 78 = .ok (.aload_n 0, 1) := by decide +kernel
theorem dX12_readScope_79 : decode cX12_readScope 79 = .ok (.getfield 101, 3) := by decide +kernel
theorem dX12_readScope_82 : decode cX12_readScope 82 = .ok (.bipush 66, 2) := by decide +kernel
theorem dX12_readScope_84 : decode cX12_readScope 84 = .ok (.iload_n 1, 1) := by decide +kernel
theorem dX12_readScope_85 : decode cX12_readScope 85 = .ok (.iadd, 1) := by decide +kernel
theorem dX12_readScope_86 : decode cX12_readScope 86 = .ok (.iaload, 1) := by decide +kernel
theorem dX12_readScope_87 : decode cX12_readScope 87 = .ok (.aload_n 0, 1) := by decide +kernel
theorem dX12_readScope_88 : decode cX12_readScope 88 = .ok (.getfield 47, 3) := by decide +kernel
theorem dX12_readScope_91 : decode cX12_readScope 91 = .ok (.invokevirtual 204, 3) := by decide +kernel
theorem dX12_readScope_94 : decode cX12_readScope 94 = .ok (.ifCond .eq 9, 3) := by decide +kernel
theorem dX12_readScope_97 : decode cX12_readScope 97 = .ok (.aload_n 0, 1) := by decide +kernel
theorem dX12_readScope_98 : decode cX12_readScope 98 = .ok (.iconst 3, 1) := by decide +kernel
theorem dX12_readScope_99 : decode cX12_readScope 99 = .ok (.invokevirtual 72, 3) := by decide +kernel
theorem dX12_readScope_102 : decode cX12_readScope 102 = .ok (.ireturn, 1) := by decide +kernel
theorem dX12_readScope_103 : decode cX12_readScope 103 = .ok (.aload_n 0, 1) := by decide +kernel
theorem dX12_readScope_104 : decode cX12_readScope 104 = .ok (.getfield 101, 3) := by decide +kernel
theorem dX12_readScope_107 : decode cX12_readScope 107 = .ok (.bipush 76, 2) := by decide +kernel
theorem dX12_readScope_109 : decode cX12_readScope 109 = .ok (.iload_n 1, 1) := by decide +kernel
theorem dX12_readScope_110 : decode cX12_readScope 110 = .ok (.iadd, 1) := by decide +kernel
theorem dX12_readScope_111 : decode cX12_readScope 111 = .ok (.aload_n 0, 1) := by decide +kernel
theorem dX12_readScope_112 : decode cX12_readScope 112 = .ok (.getfield 47, 3) := by decide +kernel
theorem dX12_readScope_115 : decode cX12_readScope 115 = .ok (.iastore, 1) := by decide +kernel
theorem dX12_readScope_116 : decode cX12_readScope 116 = .ok (.aload_n 0, 1) := by decide +kernel
theorem dX12_readScope_117 : decode cX12_readScope 117 = .ok (.invokevirtual 82, 3) := by decide +kernel
theorem dX12_readScope_120 : decode cX12_readScope 120 = .ok (.aload_n 0, 1) := by decide +kernel
theorem dX12_readScope_121 : decode cX12_readScope 121 = .ok (.bipush 86, 2) := by decide +kernel
theorem dX12_readScope_123 : decode cX12_readScope 123 = .ok (.iload_n 1, 1) := by decide +kernel
theorem dX12_readScope_124 : decode cX12_readScope 124 = .ok (.iadd, 1) := by decide +kernel
theorem dX12_readScope_125 : decode cX12_readScope 125 = .ok (.aload_n 0, 1) := by decide +kernel
theorem dX12_readScope_126 : decode cX12_readScope 126 = .ok (.iconst 0, 1) := by decide +kernel
theorem dX12_readScope_127 : decode cX12_readScope 127 = .ok (.sipush 250, 3) := by decide +kernel
theorem dX12_readScope_130 : decode cX12_readScope 130 = .ok (.invokevirtual 187, 3) := by decide +kernel
theorem dX12_readScope_133 : decode cX12_readScope 133 = .ok (.invokevirtual 200, 3) := by decide +kernel
theorem dX12_readScope_136 : decode cX12_readScope 136 = .ok (.ifCond .ne 5, 3) := by decide +kernel
theorem dX12_readScope_139 : decode cX12_readScope 139 = .ok (.iconst 0, 1) := by decide +kernel
theorem dX12_readScope_140 : decode cX12_readScope 140 = .ok (.ireturn, 1) := by decide +kernel
theorem dX12_readScope_141 : decode cX12_readScope 141 = .ok (.aload_n 0, 1) := by decide +kernel
theorem dX12_readScope_142 : decode cX12_readScope 142 = .ok (.getfield 101, 3) := by decide +kernel
theorem dX12_readScope_145 : decode cX12_readScope 145 = .ok (.iconst 2, 1) := by decide +kernel
theorem dX12_readScope_146 : decode cX12_readScope 146 = .ok (.dup2, 1) := by decide +kernel
theorem dX12_readScope_147 : decode cX12_readScope 147 = .ok (.iaload, 1) := by decide +kernel
theorem dX12_readScope_148 : decode cX12_readScope 148 = .ok (.iconst 1, 1) := by decide +kernel
theorem dX12_readScope_149 : decode cX12_readScope 149 = .ok (.iadd, 1) := by decide +kernel
theorem dX12_readScope_150 : decode cX12_readScope 150 = .ok (.iastore, 1) := by decide +kernel
theorem dX12_readScope_151 : decode cX12_readScope 151 = .ok (.iconst 1, 1) := by decide +kernel
theorem dX12_readScope_152 : decode cX12_readScope 152 = .ok (.ireturn, 1) := by decide +kernel
theorem dX12_readType_0 : decode cX12_readType 0 = .ok (.aload_n 0, 1) := by decide +kernel
theorem dX12_readType_1 : decode cX12_readType 1 = .ok (.iconst 3, 1) := by decide +kernel
theorem dX12_readType_2 : decode cX12_readType 2 = .ok (.bipush 6, 2) := by decide +kernel
theorem dX12_readType_4 : decode cX12_readType 4 = .ok (.invokevirtual 180, 3) := by decide +kernel
theorem dX12_readType_7 : decode cX12_readType 7 = .ok (.ifCond .ne 5, 3) := by decide +kernel
theorem dX12_readType_10 : decode cX12_readType 10 = .ok (.iconst 0, 1) := by decide +kernel
theorem dX12_readType_11 : decode cX12_readType 11 = .ok (.ireturn, 1) := by decide +kernel
theorem dX12_readType_12 : decode cX12_readType 12 = .ok (.aload_n 0, 1) := by decide +kernel
theorem dX12_readType_13 : decode cX12_readType 13 = .ok (.getfield 101, 3) := by decide +kernel
theorem dX12_readType_16 : decode cX12_readType 16 = .ok (.iconst 3, 1) := by decide +kernel
theorem dX12_readType_17 : decode cX12_readType 17 = .ok (.iaload, 1) := by decide +kernel
theorem dX12_readType_18 : decode cX12_readType 18 = .ok (.istore_n 1, 1) := by decide +kernel
theorem dX12_readType_19 : decode cX12_readType 19 = .ok (.aload_n 0, 1) := by decide +kernel
theorem dX12_readType_20 : decode cX12_readType 20 = .ok (.bipush 10, 2) := by decide +kernel
theorem dX12_readType_22 : decode cX12_readType 22 = .ok (.iload_n 1, 1) := by decide +kernel
theorem dX12_readType_23 : decode cX12_readType 23 = .ok (.iadd, 1) := by decide +kernel
theorem dX12_readType_24 : decode cX12_readType 24 = .ok (.invokevirtual 197, 3) := by decide +kernel
theorem dX12_readType_27 : decode cX12_readType 27 = .ok (.ifCond .eq 49, 3) := by decide +kernel
theorem dX12_readType_30 : decode cX12_readType 30 = .ok (.aload_n 0, 1) := by decide +kernel
theorem dX12_readType_31 : decode cX12_readType 31 = .ok (.bipush 96, 2) := by decide +kernel
theorem dX12_readType_33 : decode cX12_readType 33 = .ok (.iload_n 1, 1) := by decide +kernel
theorem dX12_readType_34 : decode cX12_readType 34 = .ok (.iadd, 1) := by decide +kernel
theorem dX12_readType_35 : decode cX12_readType 35 = .ok (.aload_n 0, 1) := by decide +kernel
theorem dX12_readType_36 : decode cX12_readType 36 = .ok (.iconst 0, 1) := by decide +kernel
theorem dX12_readType_37 : decode cX12_readType 37 = .ok (.bipush 15, 2) := by decide +kernel
theorem dX12_readType_39 : decode cX12_readType 39 = .ok (.invokevirtual 187, 3) := by decide +kernel
theorem dX12_readType_42 : decode cX12_readType 42 = .ok (.invokevirtual 200, 3) := by decide +kernel
theorem dX12_readType_45 : decode cX12_readType 45 = .ok (.ifCond .eq 31, 3) := by decide +kernel
theorem dX12_readType_48 : decode cX12_readType 48 = .ok (.aload_n 0, 1) := by decide +kernel
theorem dX12_readType_49 : decode cX12_readType 49 = .ok (.bipush 102, 2) := by decide +kernel
theorem dX12_readType_51 : decode cX12_readType 51 = .ok (.iload_n 1, 1) := by decide +kernel
theorem dX12_readType_52 : decode cX12_readType 52 = .ok (.iadd, 1) := by decide +kernel
theorem dX12_readType_53 : decode cX12_readType 53 = .ok (.aload_n 0, 1) := by decide +kernel
theorem dX12_readType_54 : decode cX12_readType 54 = .ok (.iconst 1, 1) := by decide +kernel
theorem dX12_readType_55 : decode cX12_readType 55 = .ok (.bipush 16, 2) := by decide +kernel
theorem dX12_readType_57 : decode cX12_readType 57 = .ok (.aload_n 0, 1) := by decide +kernel
theorem dX12_readType_58 : decode cX12_readType 58 = .ok (.getfield 101, 3) := by decide +kernel
theorem dX12_readType_61 : decode cX12_readType 61 = .ok (.bipush 96, 2) := by decide +kernel
theorem dX12_readType_63 : decode cX12_readType 63 = .ok (.iload_n 1, 1) := by decide +kernel
theorem dX12_readType_64 : decode cX12_readType 64 = .ok (.iadd, 1) := by decide +kernel
theorem dX12_readType_65 : decode cX12_readType 65 = .ok (.iaload, 1) := by decide +kernel
theorem dX12_readType_66 : decode cX12_readType 66 = .ok (.isub, 1) := by decide +kernel
theorem dX12_readType_67 : decode cX12_readType 67 = .ok (.invokevirtual 187, 3) := by decide +kernel
theorem dX12_readType_70 : decode cX12_readType 70 = .ok (.invokevirtual 200, 3) := by decide +kernel
theorem dX12_readType_73 : decode cX12_readType 73 = .ok (.ifCond .ne 5, 3) := by decide +kernel
theorem dX12_readType_76 : decode cX12_readType 76 = .ok (.iconst 0, 1) := by decide +kernel
theorem dX12_readType_77 : decode cX12_readType 77 = .ok (.ireturn, 1) := by decide +kernel
theorem dX12_readType_78 : decode cX12_readType 78 = .ok (.aload_n 0, 1) := by decide +kernel
theorem dX12_readType_79 : decode cX12_readType 79 = .ok (.iconst 4, 1) := by decide +kernel
theorem dX12_readType_80 : decode cX12_readType 80 = .ok (.invokevirtual 207, 3) := by decide +kernel
theorem dX12_readType_83 : decode cX12_readType 83 = .ok (.ifCond .ne 18, 3) := by decide +kernel
theorem dX12_readType_86 : decode cX12_readType 86 = .ok (.aload_n 0, 1) := by decide +kernel
theorem dX12_readType_87 : decode cX12_readType 87 = .ok (.bipush 28, 2) := by decide +kernel
theorem dX12_readType_89 : decode cX12_readType 89 = .ok (.invokevirtual 207, 3) := by decide +kernel
theorem dX12_readType_92 : decode cX12_readType 92 = .ok (.ifCond .ne 9, 3) := by decide +kernel
theorem dX12_readType_95 : decode cX12_readType 95 = .ok (.aload_n 0, 1) := by decide +kernel
theorem dX12_readType_96 : decode cX12_readType 96 = .ok (.iconst 1, 1) := by decide +kernel
theorem dX12_readType_97 : decode cX12_readType 97 = .ok (.invokevirtual 72, 3) := by decide +kernel
theorem dX12_readType_100 : decode cX12_readType 100 = .ok (.ireturn, 1) := by decide +kernel
theorem dX12_readType_101 : decode cX12_readType 101 = .ok (.aload_n 0, 1) := by decide +kernel
theorem dX12_readType_102 : decode cX12_readType 102 = .ok (.getfield 101, 3) := by decide +kernel
theorem dX12_readType_105 : decode cX12_readType 105 = .ok (.bipush 108, 2) := by decide +kernel
theorem dX12_readType_107 : decode cX12_readType 107 = .ok (.iload_n 1, 1) := by decide +kernel
theorem dX12_readType_108 : decode cX12_readType 108 = .ok (.iadd, 1) := by decide +kernel
theorem dX12_readType_109 : decode cX12_readType 109 = .ok (.aload_n 0, 1) := by decide +kernel
theorem dX12_readType_110 : decode cX12_readType 110 = .ok (.bipush 28, 2) := by decide +kernel
theorem dX12_readType_112 : decode cX12_readType 112 = .ok (.invokevirtual 207, 3) := by decide +kernel
theorem dX12_readType_115 : decode cX12_readType 115 = .ok (.ifCond .eq 7, 3) := by decide +kernel
theorem dX12_readType_118 : decode cX12_readType 118 = .ok (.iconst 1, 1) := by decide +kernel
theorem dX12_readType_119 : decode cX12_readType 119 = .ok (.goto 4, 3) := by decide +kernel
theorem dX12_readType_122 : decode cX12_readType 122 = .ok (.iconst 0, 1) := by decide +kernel
theorem dX12_readType_123 : decode cX12_readType 123 = .ok (.iastore, 1) := by decide +kernel
theorem dX12_readType_124 : decode cX12_readType 124 = .ok (.aload_n 0, 1) := by decide +kernel
theorem dX12_readType_125 : decode cX12_readType 125 = .ok (.invokevirtual 82, 3) := by decide +kernel
theorem dX12_readType_128 : decode cX12_readType 128 = .ok (.aload_n 0, 1) := by decide +kernel
theorem dX12_readType_129 : decode cX12_readType 129 = .ok (.getfield 101, 3) := by decide +kernel
theorem dX12_readType_132 : decode cX12_readType 132 = .ok (.iconst 3, 1) := by decide +kernel
theorem dX12_readType_133 : decode cX12_readType 133 = .ok (.dup2, 1) := by decide +kernel
theorem dX12_readType_134 : decode cX12_readType 134 = .ok (.iaload, 1) := by decide +kernel
theorem dX12_readType_135 : decode cX12_readType 135 = .ok (.iconst 1, 1) := by decide +kernel
theorem dX12_readType_136 : decode cX12_readType 136 = .ok (.iadd, 1) := by decide +kernel
theorem dX12_readType_137 : decode cX12_readType 137 = .ok (.iastore, 1) := by decide +kernel
theorem dX12_readType_138 : decode cX12_readType 138 = .ok (.iconst 1, 1) := by decide +kernel
theorem dX12_readType_139 : decode cX12_readType 139 = .ok (.ireturn, 1) := by decide +kernel
theorem dX12_readVar_0 : decode cX12_readVar 0 = .ok (.aload_n 0, 1) := by decide +kernel
theorem dX12_readVar_1 : decode cX12_readVar 1 = .ok (.iconst 4, 1) := by decide +kernel
theorem dX12_readVar_2 : decode cX12_readVar 2 = .ok (.bipush 10, 2) := by decide +kernel
theorem dX12_readVar_4 : decode cX12_readVar 4 = .ok (.invokevirtual 180, 3) := by decide +kernel
theorem dX12_readVar_7 : decode cX12_readVar 7 = .ok (.ifCond .ne 5, 3) := by decide +kernel
theorem dX12_readVar_10 : decode cX12_readVar 10 = .ok (.iconst 0, 1) := by decide +kernel
theorem dX12_readVar_11 : decode cX12_readVar 11 = .ok (.ireturn, 1) := by decide +kernel
theorem dX12_readVar_12 : decode cX12_readVar 12 = .ok (.aload_n 0, 1) := by decide +kernel
theorem dX12_readVar_13 : decode cX12_readVar 13 = .ok (.getfield 101, 3) := by decide +kernel
theorem dX12_readVar_16 : decode cX12_readVar 16 = .ok (.iconst 4, 1) := by decide +kernel
theorem dX12_readVar_17 : decode cX12_readVar 17 = .ok (.iaload, 1) := by decide +kernel
theorem dX12_readVar_18 : decode cX12_readVar 18 = .ok (.istore_n 1, 1) := by decide +kernel
theorem dX12_readVar_19 : decode cX12_readVar 19 = .ok (.aload_n 0, 1) := by decide +kernel
theorem dX12_readVar_20 : decode cX12_readVar 20 = .ok (.bipush 16, 2) := by decide +kernel
theorem dX12_readVar_22 : decode cX12_readVar 22 = .ok (.iload_n 1, 1) := by decide +kernel
theorem dX12_readVar_23 : decode cX12_readVar 23 = .ok (.iadd, 1) := by decide +kernel
theorem dX12_readVar_24 : decode cX12_readVar 24 = .ok (.invokevirtual 197, 3) := by decide +kernel
theorem dX12_readVar_27 : decode cX12_readVar 27 = .ok (.ifCond .eq 48, 3) := by decide +kernel
theorem dX12_readVar_30 : decode cX12_readVar 30 = .ok (.aload_n 0, 1) := by decide +kernel
theorem dX12_readVar_31 : decode cX12_readVar 31 = .ok (.bipush 114, 2) := by decide +kernel
theorem dX12_readVar_33 : decode cX12_readVar 33 = .ok (.iload_n 1, 1) := by decide +kernel
theorem dX12_readVar_34 : decode cX12_readVar 34 = .ok (.iadd, 1) := by decide +kernel
theorem dX12_readVar_35 : decode cX12_readVar 35 = .ok (.aload_n 0, 1) := by decide +kernel
theorem dX12_readVar_36 : decode cX12_readVar 36 = .ok (.iconst 0, 1) := by decide +kernel
theorem dX12_readVar_37 : decode cX12_readVar 37 = .ok (.aload_n 0, 1) := by decide +kernel
theorem dX12_readVar_38 : decode cX12_readVar 38 = .ok (.getfield 101, 3) := by decide +kernel
theorem dX12_readVar_41 : decode cX12_readVar 41 = .ok (.iconst 2, 1) := by decide +kernel
theorem dX12_readVar_42 : decode cX12_readVar 42 = .ok (.iaload, 1) := by decide +kernel
theorem dX12_readVar_43 : decode cX12_readVar 43 = .ok (.invokevirtual 210, 3) := by decide +kernel
theorem dX12_readVar_46 : decode cX12_readVar 46 = .ok (.invokevirtual 200, 3) := by decide +kernel
theorem dX12_readVar_49 : decode cX12_readVar 49 = .ok (.ifCond .eq 26, 3) := by decide +kernel
theorem dX12_readVar_52 : decode cX12_readVar 52 = .ok (.aload_n 0, 1) := by decide +kernel
theorem dX12_readVar_53 : decode cX12_readVar 53 = .ok (.bipush 124, 2) := by decide +kernel
theorem dX12_readVar_55 : decode cX12_readVar 55 = .ok (.iload_n 1, 1) := by decide +kernel
theorem dX12_readVar_56 : decode cX12_readVar 56 = .ok (.iadd, 1) := by decide +kernel
theorem dX12_readVar_57 : decode cX12_readVar 57 = .ok (.aload_n 0, 1) := by decide +kernel
theorem dX12_readVar_58 : decode cX12_readVar 58 = .ok (.bipush 10, 2) := by decide +kernel
theorem dX12_readVar_60 : decode cX12_readVar 60 = .ok (.aload_n 0, 1) := by decide +kernel
theorem dX12_readVar_61 : decode cX12_readVar 61 = .ok (.getfield 101, 3) := by decide +kernel
theorem dX12_readVar_64 : decode cX12_readVar 64 = .ok (.iconst 3, 1) := by decide +kernel
theorem dX12_readVar_65 : decode cX12_readVar 65 = .ok (.iaload, 1) := by decide +kernel
theorem dX12_readVar_66 : decode cX12_readVar 66 = .ok (.invokevirtual 210, 3) := by decide +kernel
theorem dX12_readVar_69 : decode cX12_readVar 69 = .ok (.invokevirtual 200, 3) := by decide +kernel
theorem dX12_readVar_72 : decode cX12_readVar 72 = .ok (.ifCond .ne 5, 3) := by decide +kernel
theorem dX12_readVar_75 : decode cX12_readVar 75 = .ok (.iconst 0, 1) := by decide +kernel
theorem dX12_readVar_76 : decode cX12_readVar 76 = .ok (.ireturn, 1) := by decide +kernel
theorem dX12_readVar_77 : decode cX12_readVar 77 = .ok (.aload_n 0, 1) := by decide +kernel
theorem dX12_readVar_78 : decode cX12_readVar 78 = .ok (.getfield 101, 3) := by decide +kernel
theorem dX12_readVar_81 : decode cX12_readVar 81 = .ok (.iconst 4, 1) := by decide +kernel
theorem dX12_readVar_82 : decode cX12_readVar 82 = .ok (.dup2, 1) := by decide +kernel
theorem dX12_readVar_83 : decode cX12_readVar 83 = .ok (.iaload, 1) := by decide +kernel
theorem dX12_readVar_84 : decode cX12_readVar 84 = .ok (.iconst 1, 1) := by decide +kernel
theorem dX12_readVar_85 : decode cX12_readVar 85 = .ok (.iadd, 1) := by decide +kernel
theorem dX12_readVar_86 : decode cX12_readVar 86 = .ok (.iastore, 1) := by decide +kernel
theorem dX12_readVar_87 : decode cX12_readVar 87 = .ok (.iconst 1, 1) := by decide +kernel
theorem dX12_readVar_88 : decode cX12_readVar 88 = .ok (.ireturn, 1) := by decide +kernel
theorem dX12_isRange_0 : decode cX12_isRange 0 = .ok (.aload_n 0, 1) := by decide +kernel
theorem dX12_isRange_1 : decode cX12_isRange 1 = .ok (.getfield 101, 3) := by decide +kernel
theorem dX12_isRange_4 : decode cX12_isRange 4 = .ok (.bipush 114, 2) := by decide +kernel
theorem dX12_isRange_6 : decode cX12_isRange 6 = .ok (.iload_n 1, 1) := by decide +kernel
theorem dX12_isRange_7 : decode cX12_isRange 7 = .ok (.iadd, 1) := by decide +kernel
theorem dX12_isRange_8 : decode cX12_isRange 8 = .ok (.iaload, 1) := by decide +kernel
theorem dX12_isRange_9 : decode cX12_isRange 9 = .ok (.istore 4, 2) := by decide +kernel
theorem dX12_isRange_11 : decode cX12_isRange 11 = .ok (.iconst 0, 1) := by decide +kernel
theorem dX12_isRange_12 : decode cX12_isRange 12 = .ok (.istore 5, 2) := by decide +kernel
theorem dX12_isRange_14 : decode cX12_isRange 14 = .ok (.iload 5, 2) := by decide +kernel
theorem dX12_isRange_16 : decode cX12_isRange 16 = .ok (.aload_n 0, 1) := by decide +kernel
theorem dX12_isRange_17 : decode cX12_isRange 17 = .ok (.getfield 101, 3) := by decide +kernel
theorem dX12_isRange_20 : decode cX12_isRange 20 = .ok (.iconst 5, 1) := by decide +kernel
theorem dX12_isRange_21 : decode cX12_isRange 21 = .ok (.iaload, 1) := by decide +kernel
theorem dX12_isRange_22 : decode cX12_isRange 22 = .ok (.if_icmp .ge 56, 3) := by decide +kernel
theorem dX12_isRange_25 : decode cX12_isRange 25 = .ok (.aload_n 0, 1) := by decide +kernel
theorem dX12_isRange_26 : decode cX12_isRange 26 = .ok (.getfield 101, 3) := by decide +kernel
theorem dX12_isRange_29 : decode cX12_isRange 29 = .ok (.sipush 134, 3) := by decide +kernel
theorem dX12_isRange_32 : decode cX12_isRange 32 = .ok (.iload 5, 2) := by decide +kernel
theorem dX12_isRange_34 : decode cX12_isRange 34 = .ok (.iadd, 1) := by decide +kernel
theorem dX12_isRange_35 : decode cX12_isRange 35 = .ok (.iaload, 1) := by decide +kernel
theorem dX12_isRange_36 : decode cX12_isRange 36 = .ok (.iload_n 1, 1) := by decide +kernel
theorem dX12_isRange_37 : decode cX12_isRange 37 = .ok (.if_icmp .ne 35, 3) := by decide +kernel
theorem dX12_isRange_40 : decode cX12_isRange 40 = .ok (.iload_n 2, 1) := by decide +kernel
theorem dX12_isRange_41 : decode cX12_isRange 41 = .ok (.iload_n 3, 1) := by decide +kernel
theorem dX12_isRange_42 : decode cX12_isRange 42 = .ok (.aload_n 0, 1) := by decide +kernel
theorem dX12_isRange_43 : decode cX12_isRange 43 = .ok (.getfield 101, 3) := by decide +kernel
theorem dX12_isRange_46 : decode cX12_isRange 46 = .ok (.sipush 150, 3) := by decide +kernel
theorem dX12_isRange_49 : decode cX12_isRange 49 = .ok (.iload 5, 2) := by decide +kernel
theorem dX12_isRange_51 : decode cX12_isRange 51 = .ok (.iadd, 1) := by decide +kernel
theorem dX12_isRange_52 : decode cX12_isRange 52 = .ok (.iaload, 1) := by decide +kernel
theorem dX12_isRange_53 : decode cX12_isRange 53 = .ok (.aload_n 0, 1) := by decide +kernel
theorem dX12_isRange_54 : decode cX12_isRange 54 = .ok (.getfield 101, 3) := by decide +kernel
theorem dX12_isRange_57 : decode cX12_isRange 57 = .ok (.sipush 166, 3) := by decide +kernel
theorem dX12_isRange_60 : decode cX12_isRange 60 = .ok (.iload 5, 2) := by decide +kernel
theorem dX12_isRange_62 : decode cX12_isRange 62 = .ok (.iadd, 1) := by decide +kernel
theorem dX12_isRange_63 : decode cX12_isRange 63 = .ok (.iaload, 1) := by decide +kernel
theorem dX12_isRange_64 : decode cX12_isRange 64 = .ok (.invokestatic 194, 3) := by decide +kernel
theorem dX12_isRange_67 : decode cX12_isRange 67 = .ok (.ifCond .ne 5, 3) := by decide +kernel
theorem dX12_isRange_70 : decode cX12_isRange 70 = .ok (.iconst 0, 1) := by decide +kernel
theorem dX12_isRange_71 : decode cX12_isRange 71 = .ok (.ireturn, 1) := by decide +kernel
theorem dX12_isRange_72 : decode cX12_isRange 72 = .ok (.iinc 5 1, 3) := by decide +kernel
theorem dX12_isRange_75 : decode cX12_isRange 75 = .ok (.goto (-61), 3) := by decide +kernel
theorem dX12_isRange_78 : decode cX12_isRange 78 = .ok (.iload_n 2, 1) := by decide +kernel
theorem dX12_isRange_79 : decode cX12_isRange 79 = .ok (.iload_n 3, 1) := by decide +kernel
theorem dX12_isRange_80 : decode cX12_isRange 80 = .ok (.aload_n 0, 1) := by decide +kernel
theorem dX12_isRange_81 : decode cX12_isRange 81 = .ok (.getfield 101, 3) := by decide +kernel
theorem dX12_isRange_84 : decode cX12_isRange 84 = .ok (.bipush 66, 2) := by decide +kernel
theorem dX12_isRange_86 : decode cX12_isRange 86 = .ok (.iload 4, 2) := by decide +kernel
theorem dX12_isRange_88 : decode cX12_isRange 88 = .ok (.iadd, 1) := by decide +kernel
theorem dX12_isRange_89 : decode cX12_isRange 89 = .ok (.iaload, 1) := by decide +kernel
theorem dX12_isRange_90 : decode cX12_isRange 90 = .ok (.aload_n 0, 1) := by decide +kernel
theorem dX12_isRange_91 : decode cX12_isRange 91 = .ok (.getfield 101, 3) := by decide +kernel
theorem dX12_isRange_94 : decode cX12_isRange 94 = .ok (.bipush 76, 2) := by decide +kernel
theorem dX12_isRange_96 : decode cX12_isRange 96 = .ok (.iload 4, 2) := by decide +kernel
theorem dX12_isRange_98 : decode cX12_isRange 98 = .ok (.iadd, 1) := by decide +kernel
theorem dX12_isRange_99 : decode cX12_isRange 99 = .ok (.iaload, 1) := by decide +kernel
theorem dX12_isRange_100 : decode cX12_isRange 100 = .ok (.invokestatic 190, 3) := by decide +kernel
theorem dX12_isRange_103 : decode cX12_isRange 103 = .ok (.ireturn, 1) := by decide +kernel
theorem dX12_readWhere_0 : decode cX12_readWhere 0 = .ok (.aload_n 0, 1) := by decide +kernel
theorem dX12_readWhere_1 : decode cX12_readWhere 1 = .ok (.iconst 5, 1) := by decide +kernel
theorem dX12_readWhere_2 : decode cX12_readWhere 2 = .ok (.bipush 16, 2) := by decide +kernel
theorem dX12_readWhere_4 : decode cX12_readWhere 4 = .ok (.invokevirtual 180, 3) := by decide +kernel
theorem dX12_readWhere_7 : decode cX12_readWhere 7 = .ok (.ifCond .ne 5, 3) := by decide +kernel
theorem dX12_readWhere_10 : decode cX12_readWhere 10 = .ok (.iconst 0, 1) := by decide +kernel
theorem dX12_readWhere_11 : decode cX12_readWhere 11 = .ok (.ireturn, 1) := by decide +kernel
theorem dX12_readWhere_12 : decode cX12_readWhere 12 = .ok (.aload_n 0, 1) := by decide +kernel
theorem dX12_readWhere_13 : decode cX12_readWhere 13 = .ok (.getfield 101, 3) := by decide +kernel
theorem dX12_readWhere_16 : decode cX12_readWhere 16 = .ok (.iconst 5, 1) := by decide +kernel
theorem dX12_readWhere_17 : decode cX12_readWhere 17 = .ok (.iaload, 1) := by decide +kernel
theorem dX12_readWhere_18 : decode cX12_readWhere 18 = .ok (.istore_n 1, 1) := by decide +kernel
theorem dX12_readWhere_19 : decode cX12_readWhere 19 = .ok (.aload_n 0, 1) := by decide +kernel
theorem dX12_readWhere_20 : decode cX12_readWhere 20 = .ok (.sipush 134, 3) := by decide +kernel
theorem dX12_readWhere_23 : decode cX12_readWhere 23 = .ok (.iload_n 1, 1) := by decide +kernel
theorem dX12_readWhere_24 : decode cX12_readWhere 24 = .ok (.iadd, 1) := by decide +kernel
theorem dX12_readWhere_25 : decode cX12_readWhere 25 = .ok (.aload_n 0, 1) := by decide +kernel
theorem dX12_readWhere_26 : decode cX12_readWhere 26 = .ok (.bipush 16, 2) := by decide +kernel
theorem dX12_readWhere_28 : decode cX12_readWhere 28 = .ok (.aload_n 0, 1) := by decide +kernel
theorem dX12_readWhere_29 : decode cX12_readWhere 29 = .ok (.getfield 101, 3) := by decide +kernel
theorem dX12_readWhere_32 : decode cX12_readWhere 32 = .ok (.iconst 4, 1) := by decide +kernel
theorem dX12_readWhere_33 : decode cX12_readWhere 33 = .ok (.iaload, 1) := by decide +kernel
theorem dX12_readWhere_34 : decode cX12_readWhere 34 = .ok (.invokevirtual 210, 3) := by decide +kernel
theorem dX12_readWhere_37 : decode cX12_readWhere 37 = .ok (.invokevirtual 200, 3) := by decide +kernel
theorem dX12_readWhere_40 : decode cX12_readWhere 40 = .ok (.ifCond .eq 53, 3) := by decide +kernel
theorem dX12_readWhere_43 : decode cX12_readWhere 43 = .ok (.aload_n 0, 1) := by decide +kernel
theorem dX12_readWhere_44 : decode cX12_readWhere 44 = .ok (.sipush 150, 3) := by decide +kernel
theorem dX12_readWhere_47 : decode cX12_readWhere 47 = .ok (.iload_n 1, 1) := by decide +kernel
theorem dX12_readWhere_48 : decode cX12_readWhere 48 = .ok (.iadd, 1) := by decide +kernel
theorem dX12_readWhere_49 : decode cX12_readWhere 49 = .ok (.aload_n 0, 1) := by decide +kernel
theorem dX12_readWhere_50 : decode cX12_readWhere 50 = .ok (.iconst 0, 1) := by decide +kernel
theorem dX12_readWhere_51 : decode cX12_readWhere 51 = .ok (.aload_n 0, 1) := by decide +kernel
theorem dX12_readWhere_52 : decode cX12_readWhere 52 = .ok (.getfield 101, 3) := by decide +kernel
theorem dX12_readWhere_55 : decode cX12_readWhere 55 = .ok (.iconst 0, 1) := by decide +kernel
theorem dX12_readWhere_56 : decode cX12_readWhere 56 = .ok (.iaload, 1) := by decide +kernel
theorem dX12_readWhere_57 : decode cX12_readWhere 57 = .ok (.iconst 1, 1) := by decide +kernel
theorem dX12_readWhere_58 : decode cX12_readWhere 58 = .ok (.isub, 1) := by decide +kernel
theorem dX12_readWhere_59 : decode cX12_readWhere 59 = .ok (.invokevirtual 187, 3) := by decide +kernel
theorem dX12_readWhere_62 : decode cX12_readWhere 62 = .ok (.invokevirtual 200, 3) := by decide +kernel
theorem dX12_readWhere_65 : decode cX12_readWhere 65 = .ok (.ifCond .eq 28, 3) := by decide +kernel
theorem dX12_readWhere_68 : decode cX12_readWhere 68 = .ok (.aload_n 0, 1) := by decide +kernel
theorem dX12_readWhere_69 : decode cX12_readWhere 69 = .ok (.aload_n 0, 1) := by decide +kernel
theorem dX12_readWhere_70 : decode cX12_readWhere 70 = .ok (.getfield 101, 3) := by decide +kernel
theorem dX12_readWhere_73 : decode cX12_readWhere 73 = .ok (.sipush 150, 3) := by decide +kernel
theorem dX12_readWhere_76 : decode cX12_readWhere 76 = .ok (.iload_n 1, 1) := by decide +kernel
theorem dX12_readWhere_77 : decode cX12_readWhere 77 = .ok (.iadd, 1) := by decide +kernel
theorem dX12_readWhere_78 : decode cX12_readWhere 78 = .ok (.iaload, 1) := by decide +kernel
theorem dX12_readWhere_79 : decode cX12_readWhere 79 = .ok (.iconst 1, 1) := by decide +kernel
theorem dX12_readWhere_80 : decode cX12_readWhere 80 = .ok (.iadd, 1) := by decide +kernel
theorem dX12_readWhere_81 : decode cX12_readWhere 81 = .ok (.aload_n 0, 1) := by decide +kernel
theorem dX12_readWhere_82 : decode cX12_readWhere 82 = .ok (.getfield 101, 3) := by decide +kernel
theorem dX12_readWhere_85 : decode cX12_readWhere 85 = .ok (.iconst 0, 1) := by decide +kernel
theorem dX12_readWhere_86 : decode cX12_readWhere 86 = .ok (.iaload, 1) := by decide +kernel
theorem dX12_readWhere_87 : decode cX12_readWhere 87 = .ok (.invokevirtual 184, 3) := by decide +kernel
theorem dX12_readWhere_90 : decode cX12_readWhere 90 = .ok (.ifCond .ne 5, 3) := by decide +kernel
theorem dX12_readWhere_93 : decode cX12_readWhere 93 = .ok (.iconst 0, 1) := by decide +kernel
theorem dX12_readWhere_94 : decode cX12_readWhere 94 = .ok (.ireturn, 1) := by decide +kernel
theorem dX12_readWhere_95 : decode cX12_readWhere 95 = .ok (.aload_n 0, 1) := by decide +kernel
theorem dX12_readWhere_96 : decode cX12_readWhere 96 = .ok (.aload_n 0, 1) := by decide +kernel
theorem dX12_readWhere_97 : decode cX12_readWhere 97 = .ok (.getfield 101, 3) := by decide +kernel
theorem dX12_readWhere_100 : decode cX12_readWhere 100 = .ok (.sipush 134, 3) := by decide +kernel
theorem dX12_readWhere_103 : decode cX12_readWhere 103 = .ok (.iload_n 1, 1) := by decide +kernel
theorem dX12_readWhere_104 : decode cX12_readWhere 104 = .ok (.iadd, 1) := by decide +kernel
theorem dX12_readWhere_105 : decode cX12_readWhere 105 = .ok (.iaload, 1) := by decide +kernel
theorem dX12_readWhere_106 : decode cX12_readWhere 106 = .ok (.aload_n 0, 1) := by decide +kernel
theorem dX12_readWhere_107 : decode cX12_readWhere 107 = .ok (.getfield 101, 3) := by decide +kernel
theorem dX12_readWhere_110 : decode cX12_readWhere 110 = .ok (.sipush 150, 3) := by decide +kernel
theorem dX12_readWhere_113 : decode cX12_readWhere 113 = .ok (.iload_n 1, 1) := by decide +kernel
theorem dX12_readWhere_114 : decode cX12_readWhere 114 = .ok (.iadd, 1) := by decide +kernel
theorem dX12_readWhere_115 : decode cX12_readWhere 115 = .ok (.iaload, 1) := by decide +kernel
theorem dX12_readWhere_116 : decode cX12_readWhere 116 = .ok (.aload_n 0, 1) := by decide +kernel
theorem dX12_readWhere_117 : decode cX12_readWhere 117 = .ok (.getfield 47, 3) := by decide +kernel
theorem dX12_readWhere_120 : decode cX12_readWhere 120 = .ok (.invokevirtual 213, 3) := by decide +kernel
theorem dX12_readWhere_123 : decode cX12_readWhere 123 = .ok (.ifCond .ne 9, 3) := by decide +kernel
theorem dX12_readWhere_126 : decode cX12_readWhere 126 = .ok (.aload_n 0, 1) := by decide +kernel
theorem dX12_readWhere_127 : decode cX12_readWhere 127 = .ok (.iconst 3, 1) := by decide +kernel
theorem dX12_readWhere_128 : decode cX12_readWhere 128 = .ok (.invokevirtual 72, 3) := by decide +kernel
theorem dX12_readWhere_131 : decode cX12_readWhere 131 = .ok (.ireturn, 1) := by decide +kernel
theorem dX12_readWhere_132 : decode cX12_readWhere 132 = .ok (.aload_n 0, 1) := by decide +kernel
theorem dX12_readWhere_133 : decode cX12_readWhere 133 = .ok (.getfield 101, 3) := by decide +kernel
theorem dX12_readWhere_136 : decode cX12_readWhere 136 = .ok (.sipush 166, 3) := by decide +kernel
theorem dX12_readWhere_139 : decode cX12_readWhere 139 = .ok (.iload_n 1, 1) := by decide +kernel
theorem dX12_readWhere_140 : decode cX12_readWhere 140 = .ok (.iadd, 1) := by decide +kernel
theorem dX12_readWhere_141 : decode cX12_readWhere 141 = .ok (.aload_n 0, 1) := by decide +kernel
theorem dX12_readWhere_142 : decode cX12_readWhere 142 = .ok (.getfield 47, 3) := by decide +kernel
theorem dX12_readWhere_145 : decode cX12_readWhere 145 = .ok (.iastore, 1) := by decide +kernel
theorem dX12_readWhere_146 : decode cX12_readWhere 146 = .ok (.aload_n 0, 1) := by decide +kernel
theorem dX12_readWhere_147 : decode cX12_readWhere 147 = .ok (.invokevirtual 82, 3) := by decide +kernel
theorem dX12_readWhere_150 : decode cX12_readWhere 150 = .ok (.aload_n 0, 1) := by decide +kernel
theorem dX12_readWhere_151 : decode cX12_readWhere 151 = .ok (.iload_n 1, 1) := by decide +kernel
theorem dX12_readWhere_152 : decode cX12_readWhere 152 = .ok (.invokevirtual 216, 3) := by decide +kernel
theorem dX12_readWhere_155 : decode cX12_readWhere 155 = .ok (.ifCond .ne 5, 3) := by decide +kernel
theorem dX12_readWhere_158 : decode cX12_readWhere 158 = .ok (.iconst 0, 1) := by decide +kernel
theorem dX12_readWhere_159 : decode cX12_readWhere 159 = .ok (.ireturn, 1) := by decide +kernel
theorem dX12_readWhere_160 : decode cX12_readWhere 160 = .ok (.aload_n 0, 1) := by decide +kernel
theorem dX12_readWhere_161 : decode cX12_readWhere 161 = .ok (.getfield 101, 3) := by decide +kernel
theorem dX12_readWhere_164 : decode cX12_readWhere 164 = .ok (.iconst 5, 1) := by decide +kernel
theorem dX12_readWhere_165 : decode cX12_readWhere 165 = .ok (.dup2, 1) := by decide +kernel
theorem dX12_readWhere_166 : decode cX12_readWhere 166 = .ok (.iaload, 1) := by decide +kernel
theorem dX12_readWhere_167 : decode cX12_readWhere 167 = .ok (.iconst 1, 1) := by decide +kernel
theorem dX12_readWhere_168 : decode cX12_readWhere 168 = .ok (.iadd, 1) := by decide +kernel
theorem dX12_readWhere_169 : decode cX12_readWhere 169 = .ok (.iastore, 1) := by decide +kernel
theorem dX12_readWhere_170 : decode cX12_readWhere 170 = .ok (.iconst 1, 1) := by decide +kernel
theorem dX12_readWhere_171 : decode cX12_readWhere 171 = .ok (.ireturn, 1) := by decide +kernel
theorem dX12_isOp_0 : decode cX12_isOp 0 = .ok (.aload_n 0, 1) := by decide +kernel
theorem dX12_isOp_1 : decode cX12_isOp 1 = .ok (.getfield 30, 3) := by decide +kernel
theorem dX12_isOp_4 : decode cX12_isOp 4 = .ok (.iconst 3, 1) := by decide +kernel
theorem dX12_isOp_5 : decode cX12_isOp 5 = .ok (.if_icmp .eq 12, 3) := by decide +kernel
theorem dX12_isOp_8 : decode cX12_isOp 8 = .ok (.aload_n 0, 1) := by decide +kernel
theorem dX12_isOp_9 : decode cX12_isOp 9 = .ok (.bipush 8, 2) := by decide +kernel
theorem dX12_isOp_11 : decode cX12_isOp 11 = .ok (.invokevirtual 207, 3) := by decide +kernel
theorem dX12_isOp_14 : decode cX12_isOp 14 = .ok (.ifCond .eq 5, 3) := by decide +kernel
theorem dX12_isOp_17 : decode cX12_isOp 17 = .ok (.iconst 1, 1) := by decide +kernel
theorem dX12_isOp_18 : decode cX12_isOp 18 = .ok (.ireturn, 1) := by decide +kernel
theorem dX12_isOp_19 : decode cX12_isOp 19 = .ok (.bipush 9, 2) := by decide +kernel
theorem dX12_isOp_21 : decode cX12_isOp 21 = .ok (.istore_n 1, 1) := by decide +kernel
theorem dX12_isOp_22 : decode cX12_isOp 22 = .ok (.iload_n 1, 1) := by decide +kernel
theorem dX12_isOp_23 : decode cX12_isOp 23 = .ok (.bipush 14, 2) := by decide +kernel
theorem dX12_isOp_25 : decode cX12_isOp 25 = .ok (.if_icmp .gt 19, 3) := by decide +kernel
theorem dX12_isOp_28 : decode cX12_isOp 28 = .ok (.aload_n 0, 1) := by decide +kernel
theorem dX12_isOp_29 : decode cX12_isOp 29 = .ok (.iload_n 1, 1) := by decide +kernel
theorem dX12_isOp_30 : decode cX12_isOp 30 = .ok (.invokevirtual 207, 3) := by decide +kernel
theorem dX12_isOp_33 : decode cX12_isOp 33 = .ok (.ifCond .eq 5, 3) := by decide +kernel
theorem dX12_isOp_36 : decode cX12_isOp 36 = .ok (.iconst 1, 1) := by decide +kernel
theorem dX12_isOp_37 : decode cX12_isOp 37 = .ok (.ireturn, 1) := by decide +kernel
theorem dX12_isOp_38 : decode cX12_isOp 38 = .ok (.iinc 1 1, 3) := by decide +kernel
theorem dX12_isOp_41 : decode cX12_isOp 41 = .ok (.goto (-19), 3) := by decide +kernel
theorem dX12_isOp_44 : decode cX12_isOp 44 = .ok (.iconst 0, 1) := by decide +kernel
theorem dX12_isOp_45 : decode cX12_isOp 45 = .ok (.ireturn, 1) := by decide +kernel
theorem dX12_readOp_0 : decode cX12_readOp 0 = .ok (.aload_n 0, 1) := by decide +kernel
theorem dX12_readOp_1 : decode cX12_readOp 1 = .ok (.getfield 30, 3) := by decide +kernel
theorem dX12_readOp_4 : decode cX12_readOp 4 = .ok (.iconst 3, 1) := by decide +kernel
theorem dX12_readOp_5 : decode cX12_readOp 5 = .ok (.if_icmp .ne 29, 3) := by decide +kernel
theorem dX12_readOp_8 : decode cX12_readOp 8 = .ok (.aload_n 0, 1) := by decide +kernel
theorem dX12_readOp_9 : decode cX12_readOp 9 = .ok (.getfield 101, 3) := by decide +kernel
theorem dX12_readOp_12 : decode cX12_readOp 12 = .ok (.iload_n 1, 1) := by decide +kernel
theorem dX12_readOp_13 : decode cX12_readOp 13 = .ok (.aload_n 0, 1) := by decide +kernel
theorem dX12_readOp_14 : decode cX12_readOp 14 = .ok (.getfield 47, 3) := by decide +kernel
theorem dX12_readOp_17 : decode cX12_readOp 17 = .ok (.iastore, 1) := by decide +kernel
theorem dX12_readOp_18 : decode cX12_readOp 18 = .ok (.aload_n 0, 1) := by decide +kernel
theorem dX12_readOp_19 : decode cX12_readOp 19 = .ok (.dup, 1) := by decide +kernel
theorem dX12_readOp_20 : decode cX12_readOp 20 = .ok (.getfield 219, 3) := by decide +kernel
theorem dX12_readOp_23 : decode cX12_readOp 23 = .ok (.iconst 1, 1) := by decide +kernel
theorem dX12_readOp_24 : decode cX12_readOp 24 = .ok (.iadd, 1) := by decide +kernel
theorem dX12_readOp_25 : decode cX12_readOp 25 = .ok (.putfield 219, 3) := by decide +kernel
theorem dX12_readOp_28 : decode cX12_readOp 28 = .ok (.aload_n 0, 1) := by decide +kernel
theorem dX12_readOp_29 : decode cX12_readOp 29 = .ok (.invokevirtual 82, 3) := by decide +kernel
theorem dX12_readOp_32 : decode cX12_readOp 32 = .ok (.iconst 1, 1) := by decide +kernel
theorem dX12_readOp_33 : decode cX12_readOp 33 = .ok (.ireturn, 1) := by decide +kernel
theorem dX12_readOp_34 : decode cX12_readOp 34 = .ok (.aload_n 0, 1) := by decide +kernel
theorem dX12_readOp_35 : decode cX12_readOp 35 = .ok (.bipush 8, 2) := by decide +kernel
theorem dX12_readOp_37 : decode cX12_readOp 37 = .ok (.invokevirtual 207, 3) := by decide +kernel
theorem dX12_readOp_40 : decode cX12_readOp 40 = .ok (.ifCond .eq 45, 3) := by decide +kernel
theorem dX12_readOp_43 : decode cX12_readOp 43 = .ok (.aload_n 0, 1) := by decide +kernel
theorem dX12_readOp_44 : decode cX12_readOp 44 = .ok (.invokevirtual 82, 3) := by decide +kernel
theorem dX12_readOp_47 : decode cX12_readOp 47 = .ok (.aload_n 0, 1) := by decide +kernel
theorem dX12_readOp_48 : decode cX12_readOp 48 = .ok (.dup, 1) := by decide +kernel
theorem dX12_readOp_49 : decode cX12_readOp 49 = .ok (.getfield 219, 3) := by decide +kernel
theorem dX12_readOp_52 : decode cX12_readOp 52 = .ok (.iconst 1, 1) := by decide +kernel
theorem dX12_readOp_53 : decode cX12_readOp 53 = .ok (.iadd, 1) := by decide +kernel
theorem dX12_readOp_54 : decode cX12_readOp 54 = .ok (.putfield 219, 3) := by decide +kernel
theorem dX12_readOp_57 : decode cX12_readOp 57 = .ok (.aload_n 0, 1) := by decide +kernel
theorem dX12_readOp_58 : decode cX12_readOp 58 = .ok (.iconst 0, 1) := by decide +kernel
theorem dX12_readOp_59 : decode cX12_readOp 59 = .ok (.bipush 7, 2) := by decide +kernel
theorem dX12_readOp_61 : decode cX12_readOp 61 = .ok (.invokevirtual 187, 3) := by decide +kernel
theorem dX12_readOp_64 : decode cX12_readOp 64 = .ok (.ifCond .ne 5, 3) := by decide +kernel
theorem dX12_readOp_67 : decode cX12_readOp 67 = .ok (.iconst 0, 1) := by decide +kernel
theorem dX12_readOp_68 : decode cX12_readOp 68 = .ok (.ireturn, 1) := by decide +kernel
theorem dX12_readOp_69 : decode cX12_readOp 69 = .ok (.aload_n 0, 1) := by decide +kernel
theorem dX12_readOp_70 : decode cX12_readOp 70 = .ok (.getfield 101, 3) := by decide +kernel
theorem dX12_readOp_73 : decode cX12_readOp 73 = .ok (.iload_n 1, 1) := by decide +kernel
theorem dX12_readOp_74 : decode cX12_readOp 74 = .ok (.sipush 1000, 3) := by decide +kernel
theorem dX12_readOp_77 : decode cX12_readOp 77 = .ok (.aload_n 0, 1) := by decide +kernel
theorem dX12_readOp_78 : decode cX12_readOp 78 = .ok (.getfield 79, 3) := by decide +kernel
theorem dX12_readOp_81 : decode cX12_readOp 81 = .ok (.iadd, 1) := by decide +kernel
theorem dX12_readOp_82 : decode cX12_readOp 82 = .ok (.iastore, 1) := by decide +kernel
theorem dX12_readOp_83 : decode cX12_readOp 83 = .ok (.iconst 1, 1) := by decide +kernel
theorem dX12_readOp_84 : decode cX12_readOp 84 = .ok (.ireturn, 1) := by decide +kernel
theorem dX12_readOp_85 : decode cX12_readOp 85 = .ok (.sipush 1010, 3) := by decide +kernel
theorem dX12_readOp_88 : decode cX12_readOp 88 = .ok (.istore_n 2, 1) := by decide +kernel
theorem dX12_readOp_89 : decode cX12_readOp 89 = .ok (.aload_n 0, 1) := by decide +kernel
theorem dX12_readOp_90 : decode cX12_readOp 90 = .ok (.bipush 9, 2) := by decide +kernel
theorem dX12_readOp_92 : decode cX12_readOp 92 = .ok (.iload_n 2, 1) := by decide +kernel
theorem dX12_readOp_93 : decode cX12_readOp 93 = .ok (.iadd, 1) := by decide +kernel
theorem dX12_readOp_94 : decode cX12_readOp 94 = .ok (.sipush 1010, 3) := by decide +kernel
theorem dX12_readOp_97 : decode cX12_readOp 97 = .ok (.isub, 1) := by decide +kernel
theorem dX12_readOp_98 : decode cX12_readOp 98 = .ok (.invokevirtual 207, 3) := by decide +kernel
theorem dX12_readOp_101 : decode cX12_readOp 101 = .ok (.ifCond .ne 9, 3) := by decide +kernel
theorem dX12_readOp_104 : decode cX12_readOp 104 = .ok (.iinc 2 1, 3) := by decide +kernel
theorem dX12_readOp_107 : decode cX12_readOp 107 = .ok (.goto (-18), 3) := by decide +kernel
theorem dX12_readOp_110 : decode cX12_readOp 110 = .ok (.iload_n 2, 1) := by decide +kernel
theorem dX12_readOp_111 : decode cX12_readOp 111 = .ok (.sipush 1013, 3) := by decide +kernel
theorem dX12_readOp_114 : decode cX12_readOp 114 = .ok (.if_icmp .eq 10, 3) := by decide +kernel
theorem dX12_readOp_117 : decode cX12_readOp 117 = .ok (.iload_n 2, 1) := by decide +kernel
theorem dX12_readOp_118 : decode cX12_readOp 118 = .ok (.sipush 1014, 3) := by decide +kernel
theorem dX12_readOp_121 : decode cX12_readOp 121 = .ok (.if_icmp .ne 7, 3) := by decide +kernel
theorem dX12_readOp_124 : decode cX12_readOp 124 = .ok (.iconst 1, 1) := by decide +kernel
theorem dX12_readOp_125 : decode cX12_readOp 125 = .ok (.goto 4, 3) := by decide +kernel
theorem dX12_readOp_128 : decode cX12_readOp 128 = .ok (.iconst 0, 1) := by decide +kernel
theorem dX12_readOp_129 : decode cX12_readOp 129 = .ok (.istore_n 3, 1) := by decide +kernel
theorem dX12_readOp_130 : decode cX12_readOp 130 = .ok (.aload_n 0, 1) := by decide +kernel
theorem dX12_readOp_131 : decode cX12_readOp 131 = .ok (.getfield 219, 3) := by decide +kernel
theorem dX12_readOp_134 : decode cX12_readOp 134 = .ok (.iload_n 3, 1) := by decide +kernel
theorem dX12_readOp_135 : decode cX12_readOp 135 = .ok (.ifCond .eq 7, 3) := by decide +kernel
theorem dX12_readOp_138 : decode cX12_readOp 138 = .ok (.iconst 1, 1) := by decide +kernel
theorem dX12_readOp_139 : decode cX12_readOp 139 = .ok (.goto 4, 3) := by decide +kernel
theorem dX12_readOp_142 : decode cX12_readOp 142 = .ok (.iconst 2, 1) := by decide +kernel
theorem dX12_readOp_143 : decode cX12_readOp 143 = .ok (.if_icmp .ge 9, 3) := by decide +kernel
theorem dX12_readOp_146 : decode cX12_readOp 146 = .ok (.aload_n 0, 1) := by decide +kernel
theorem dX12_readOp_147 : decode cX12_readOp 147 = .ok (.iconst 5, 1) := by decide +kernel
theorem dX12_readOp_148 : decode cX12_readOp 148 = .ok (.invokevirtual 72, 3) := by decide +kernel
theorem dX12_readOp_151 : decode cX12_readOp 151 = .ok (.ireturn, 1) := by decide +kernel
theorem dX12_readOp_152 : decode cX12_readOp 152 = .ok (.iload_n 2, 1) := by decide +kernel
theorem dX12_readOp_153 : decode cX12_readOp 153 = .ok (.sipush 1012, 3) := by decide +kernel
theorem dX12_readOp_156 : decode cX12_readOp 156 = .ok (.if_icmp .gt 13, 3) := by decide +kernel
theorem dX12_readOp_159 : decode cX12_readOp 159 = .ok (.aload_n 0, 1) := by decide +kernel
theorem dX12_readOp_160 : decode cX12_readOp 160 = .ok (.dup, 1) := by decide +kernel
theorem dX12_readOp_161 : decode cX12_readOp 161 = .ok (.getfield 219, 3) := by decide +kernel
theorem dX12_readOp_164 : decode cX12_readOp 164 = .ok (.iconst 1, 1) := by decide +kernel
theorem dX12_readOp_165 : decode cX12_readOp 165 = .ok (.isub, 1) := by decide +kernel
theorem dX12_readOp_166 : decode cX12_readOp 166 = .ok (.putfield 219, 3) := by decide +kernel
theorem dX12_readOp_169 : decode cX12_readOp 169 = .ok (.iload_n 2, 1) := by decide +kernel
theorem dX12_readOp_170 : decode cX12_readOp 170 = .ok (.sipush 1014, 3) := by decide +kernel
theorem dX12_readOp_173 : decode cX12_readOp 173 = .ok (.if_icmp .ne 13, 3) := by decide +kernel
theorem dX12_readOp_176 : decode cX12_readOp 176 = .ok (.aload_n 0, 1) := by decide +kernel
theorem dX12_readOp_177 : decode cX12_readOp 177 = .ok (.dup, 1) := by decide +kernel
theorem dX12_readOp_178 : decode cX12_readOp 178 = .ok (.getfield 219, 3) := by decide +kernel
theorem dX12_readOp_181 : decode cX12_readOp 181 = .ok (.iconst 1, 1) := by decide +kernel
theorem dX12_readOp_182 : decode cX12_readOp 182 = .ok (.iadd, 1) := by decide +kernel
theorem dX12_readOp_183 : decode cX12_readOp 183 = .ok (.putfield 219, 3) := by decide +kernel
theorem dX12_readOp_186 : decode cX12_readOp 186 = .ok (.aload_n 0, 1) := by decide +kernel
theorem dX12_readOp_187 : decode cX12_readOp 187 = .ok (.getfield 101, 3) := by decide +kernel
theorem dX12_readOp_190 : decode cX12_readOp 190 = .ok (.iload_n 1, 1) := by decide +kernel
theorem dX12_readOp_191 : decode cX12_readOp 191 = .ok (.iload_n 2, 1) := by decide +kernel
theorem dX12_readOp_192 : decode cX12_readOp 192 = .ok (.iastore, 1) := by decide +kernel
theorem dX12_readOp_193 : decode cX12_readOp 193 = .ok (.aload_n 0, 1) := by decide +kernel
theorem dX12_readOp_194 : decode cX12_readOp 194 = .ok (.invokevirtual 82, 3) := by decide +kernel
theorem dX12_readOp_197 : decode cX12_readOp 197 = .ok (.iconst 1, 1) := by decide +kernel
theorem dX12_readOp_198 : decode cX12_readOp 198 = .ok (.ireturn, 1) := by decide +kernel
theorem dX12_readExpr_0 : decode cX12_readExpr 0 = .ok (.aload_n 0, 1) := by decide +kernel
theorem dX12_readExpr_1 : decode cX12_readExpr 1 = .ok (.iconst 0, 1) := by decide +kernel
theorem dX12_readExpr_2 : decode cX12_readExpr 2 = .ok (.putfield 219, 3) := by decide +kernel
theorem dX12_readExpr_5 : decode cX12_readExpr 5 = .ok (.aload_n 0, 1) := by decide +kernel
theorem dX12_readExpr_6 : decode cX12_readExpr 6 = .ok (.getfield 101, 3) := by decide +kernel
theorem dX12_readExpr_9 : decode cX12_readExpr 9 = .ok (.sipush 198, 3) := by decide +kernel
theorem dX12_readExpr_12 : decode cX12_readExpr 12 = .ok (.iload_n 1, 1) := by decide +kernel
theorem dX12_readExpr_13 : decode cX12_readExpr 13 = .ok (.iadd, 1) := by decide +kernel
theorem dX12_readExpr_14 : decode cX12_readExpr 14 = .ok (.iconst 0, 1) := by decide +kernel
theorem dX12_readExpr_15 : decode cX12_readExpr 15 = .ok (.iastore, 1) := by decide +kernel
theorem dX12_readExpr_16 : decode cX12_readExpr 16 = .ok (.aload_n 0, 1) := by decide +kernel
theorem dX12_readExpr_17 : decode cX12_readExpr 17 = .ok (.bipush 7, 2) := by decide +kernel
theorem dX12_readExpr_19 : decode cX12_readExpr 19 = .ok (.invokevirtual 207, 3) := by decide +kernel
theorem dX12_readExpr_22 : decode cX12_readExpr 22 = .ok (.ifCond .eq 35, 3) := by decide +kernel
theorem dX12_readExpr_25 : decode cX12_readExpr 25 = .ok (.aload_n 0, 1) := by decide +kernel
theorem dX12_readExpr_26 : decode cX12_readExpr 26 = .ok (.invokevirtual 82, 3) := by decide +kernel
theorem dX12_readExpr_29 : decode cX12_readExpr 29 = .ok (.aload_n 0, 1) := by decide +kernel
theorem dX12_readExpr_30 : decode cX12_readExpr 30 = .ok (.getfield 101, 3) := by decide +kernel
theorem dX12_readExpr_33 : decode cX12_readExpr 33 = .ok (.sipush 182, 3) := by decide +kernel
theorem dX12_readExpr_36 : decode cX12_readExpr 36 = .ok (.iload_n 1, 1) := by decide +kernel
theorem dX12_readExpr_37 : decode cX12_readExpr 37 = .ok (.iadd, 1) := by decide +kernel
theorem dX12_readExpr_38 : decode cX12_readExpr 38 = .ok (.iconst 2, 1) := by decide +kernel
theorem dX12_readExpr_39 : decode cX12_readExpr 39 = .ok (.iastore, 1) := by decide +kernel
theorem dX12_readExpr_40 : decode cX12_readExpr 40 = .ok (.aload_n 0, 1) := by decide +kernel
theorem dX12_readExpr_41 : decode cX12_readExpr 41 = .ok (.sipush 198, 3) := by decide +kernel
theorem dX12_readExpr_44 : decode cX12_readExpr 44 = .ok (.iload_n 1, 1) := by decide +kernel
theorem dX12_readExpr_45 : decode cX12_readExpr 45 = .ok (.iadd, 1) := by decide +kernel
theorem dX12_readExpr_46 : decode cX12_readExpr 46 = .ok (.aload_n 0, 1) := by decide +kernel
theorem dX12_readExpr_47 : decode cX12_readExpr 47 = .ok (.iconst 0, 1) := by decide +kernel
theorem dX12_readExpr_48 : decode cX12_readExpr 48 = .ok (.bipush 7, 2) := by decide +kernel
theorem dX12_readExpr_50 : decode cX12_readExpr 50 = .ok (.invokevirtual 187, 3) := by decide +kernel
theorem dX12_readExpr_53 : decode cX12_readExpr 53 = .ok (.invokevirtual 200, 3) := by decide +kernel
theorem dX12_readExpr_56 : decode cX12_readExpr 56 = .ok (.ireturn, 1) := by decide +kernel
theorem dX12_readExpr_57 : decode cX12_readExpr 57 = .ok (.aload_n 0, 1) := by decide +kernel
theorem dX12_readExpr_58 : decode cX12_readExpr 58 = .ok (.getfield 101, 3) := by decide +kernel
theorem dX12_readExpr_61 : decode cX12_readExpr 61 = .ok (.sipush 182, 3) := by decide +kernel
theorem dX12_readExpr_64 : decode cX12_readExpr 64 = .ok (.iload_n 1, 1) := by decide +kernel
theorem dX12_readExpr_65 : decode cX12_readExpr 65 = .ok (.iadd, 1) := by decide +kernel
theorem dX12_readExpr_66 : decode cX12_readExpr 66 = .ok (.iconst 0, 1) := by decide +kernel
theorem dX12_readExpr_67 : decode cX12_readExpr 67 = .ok (.iastore, 1) := by decide +kernel
theorem dX12_readExpr_68 : decode cX12_readExpr 68 = .ok (.aload_n 0, 1) := by decide +kernel
theorem dX12_readExpr_69 : decode cX12_readExpr 69 = .ok (.invokevirtual 222, 3) := by decide +kernel
theorem dX12_readExpr_72 : decode cX12_readExpr 72 = .ok (.ifCond .ne 9, 3) := by decide +kernel
theorem dX12_readExpr_75 : decode cX12_readExpr 75 = .ok (.aload_n 0, 1) := by decide +kernel
theorem dX12_readExpr_76 : decode cX12_readExpr 76 = .ok (.iconst 1, 1) := by decide +kernel
theorem dX12_readExpr_77 : decode cX12_readExpr 77 = .ok (.invokevirtual 72, 3) := by decide +kernel
theorem dX12_readExpr_80 : decode cX12_readExpr 80 = .ok (.ireturn, 1) := by decide +kernel
theorem dX12_readExpr_81 : decode cX12_readExpr 81 = .ok (.aload_n 0, 1) := by decide +kernel
theorem dX12_readExpr_82 : decode cX12_readExpr 82 = .ok (.invokevirtual 222, 3) := by decide +kernel
theorem dX12_readExpr_85 : decode cX12_readExpr 85 = .ok (.ifCond .eq 69, 3) := by decide +kernel
theorem dX12_readExpr_88 : decode cX12_readExpr 88 = .ok (.aload_n 0, 1) := by decide +kernel
theorem dX12_readExpr_89 : decode cX12_readExpr 89 = .ok (.getfield 101, 3) := by decide +kernel
theorem dX12_readExpr_92 : decode cX12_readExpr 92 = .ok (.sipush 198, 3) := by decide +kernel
theorem dX12_readExpr_95 : decode cX12_readExpr 95 = .ok (.iload_n 1, 1) := by decide +kernel
theorem dX12_readExpr_96 : decode cX12_readExpr 96 = .ok (.iadd, 1) := by decide +kernel
theorem dX12_readExpr_97 : decode cX12_readExpr 97 = .ok (.iaload, 1) := by decide +kernel
theorem dX12_readExpr_98 : decode cX12_readExpr 98 = .ok (.bipush 8, 2) := by decide +kernel
theorem dX12_readExpr_100 : decode cX12_readExpr 100 = .ok (.if_icmp .ne 9, 3) := by decide +kernel
theorem dX12_readExpr_103 : decode cX12_readExpr 103 = .ok (.aload_n 0, 1) := by decide +kernel
theorem dX12_readExpr_104 : decode cX12_readExpr 104 = .ok (.iconst 4, 1) := by decide +kernel
theorem dX12_readExpr_105 : decode cX12_readExpr 105 = .ok (.invokevirtual 72, 3) := by decide +kernel
theorem dX12_readExpr_108 : decode cX12_readExpr 108 = .ok (.ireturn, 1) := by decide +kernel
theorem dX12_readExpr_109 : decode cX12_readExpr 109 = .ok (.aload_n 0, 1) := by decide +kernel
theorem dX12_readExpr_110 : decode cX12_readExpr 110 = .ok (.sipush 214, 3) := by decide +kernel
theorem dX12_readExpr_113 : decode cX12_readExpr 113 = .ok (.bipush 8, 2) := by decide +kernel
theorem dX12_readExpr_115 : decode cX12_readExpr 115 = .ok (.iload_n 1, 1) := by decide +kernel
theorem dX12_readExpr_116 : decode cX12_readExpr 116 = .ok (.imul, 1) := by decide +kernel
theorem dX12_readExpr_117 : decode cX12_readExpr 117 = .ok (.iadd, 1) := by decide +kernel
theorem dX12_readExpr_118 : decode cX12_readExpr 118 = .ok (.aload_n 0, 1) := by decide +kernel
theorem dX12_readExpr_119 : decode cX12_readExpr 119 = .ok (.getfield 101, 3) := by decide +kernel
theorem dX12_readExpr_122 : decode cX12_readExpr 122 = .ok (.sipush 198, 3) := by decide +kernel
theorem dX12_readExpr_125 : decode cX12_readExpr 125 = .ok (.iload_n 1, 1) := by decide +kernel
theorem dX12_readExpr_126 : decode cX12_readExpr 126 = .ok (.iadd, 1) := by decide +kernel
theorem dX12_readExpr_127 : decode cX12_readExpr 127 = .ok (.iaload, 1) := by decide +kernel
theorem dX12_readExpr_128 : decode cX12_readExpr 128 = .ok (.iadd, 1) := by decide +kernel
theorem dX12_readExpr_129 : decode cX12_readExpr 129 = .ok (.invokevirtual 225, 3) := by decide +kernel
theorem dX12_readExpr_132 : decode cX12_readExpr 132 = .ok (.ifCond .ne 5, 3) := by decide +kernel
theorem dX12_readExpr_135 : decode cX12_readExpr 135 = .ok (.iconst 0, 1) := by decide +kernel
theorem dX12_readExpr_136 : decode cX12_readExpr 136 = .ok (.ireturn, 1) := by decide +kernel
theorem dX12_readExpr_137 : decode cX12_readExpr 137 = .ok (.aload_n 0, 1) := by decide +kernel
theorem dX12_readExpr_138 : decode cX12_readExpr 138 = .ok (.getfield 101, 3) := by decide +kernel
theorem dX12_readExpr_141 : decode cX12_readExpr 141 = .ok (.sipush 198, 3) := by decide +kernel
theorem dX12_readExpr_144 : decode cX12_readExpr 144 = .ok (.iload_n 1, 1) := by decide +kernel
theorem dX12_readExpr_145 : decode cX12_readExpr 145 = .ok (.iadd, 1) := by decide +kernel
theorem dX12_readExpr_146 : decode cX12_readExpr 146 = .ok (.dup2, 1) := by decide +kernel
theorem dX12_readExpr_147 : decode cX12_readExpr 147 = .ok (.iaload, 1) := by decide +kernel
theorem dX12_readExpr_148 : decode cX12_readExpr 148 = .ok (.iconst 1, 1) := by decide +kernel
theorem dX12_readExpr_149 : decode cX12_readExpr 149 = .ok (.iadd, 1) := by decide +kernel
theorem dX12_readExpr_150 : decode cX12_readExpr 150 = .ok (.iastore, 1) := by decide +kernel
theorem dX12_readExpr_151 : decode cX12_readExpr 151 = .ok (.goto (-70), 3) := by decide +kernel
theorem dX12_readExpr_154 : decode cX12_readExpr 154 = .ok (.aload_n 0, 1) := by decide +kernel
theorem dX12_readExpr_155 : decode cX12_readExpr 155 = .ok (.bipush 32, 2) := by decide +kernel
theorem dX12_readExpr_157 : decode cX12_readExpr 157 = .ok (.invokevirtual 207, 3) := by decide +kernel
theorem dX12_readExpr_160 : decode cX12_readExpr 160 = .ok (.ifCond .ne 5, 3) := by decide +kernel
theorem dX12_readExpr_163 : decode cX12_readExpr 163 = .ok (.iconst 1, 1) := by decide +kernel
theorem dX12_readExpr_164 : decode cX12_readExpr 164 = .ok (.ireturn, 1) := by decide +kernel
theorem dX12_readExpr_165 : decode cX12_readExpr 165 = .ok (.aload_n 0, 1) := by decide +kernel
theorem dX12_readExpr_166 : decode cX12_readExpr 166 = .ok (.getfield 101, 3) := by decide +kernel
theorem dX12_readExpr_169 : decode cX12_readExpr 169 = .ok (.sipush 182, 3) := by decide +kernel
theorem dX12_readExpr_172 : decode cX12_readExpr 172 = .ok (.iload_n 1, 1) := by decide +kernel
theorem dX12_readExpr_173 : decode cX12_readExpr 173 = .ok (.iadd, 1) := by decide +kernel
theorem dX12_readExpr_174 : decode cX12_readExpr 174 = .ok (.iconst 1, 1) := by decide +kernel
theorem dX12_readExpr_175 : decode cX12_readExpr 175 = .ok (.iastore, 1) := by decide +kernel
theorem dX12_readExpr_176 : decode cX12_readExpr 176 = .ok (.aload_n 0, 1) := by decide +kernel
theorem dX12_readExpr_177 : decode cX12_readExpr 177 = .ok (.invokevirtual 82, 3) := by decide +kernel
theorem dX12_readExpr_180 : decode cX12_readExpr 180 = .ok (.iconst 1, 1) := by decide +kernel
theorem dX12_readExpr_181 : decode cX12_readExpr 181 = .ok (.ireturn, 1) := by decide +kernel
theorem dX12_readSize_0 : decode cX12_readSize 0 = .ok (.iload_n 1, 1) := by decide +kernel
theorem dX12_readSize_1 : decode cX12_readSize 1 = .ok (.ifCond .le 9, 3) := by decide +kernel
theorem dX12_readSize_4 : decode cX12_readSize 4 = .ok (.aload_n 0, 1) := by decide +kernel
theorem dX12_readSize_5 : decode cX12_readSize 5 = .ok (.iconst 3, 1) := by decide +kernel
theorem dX12_readSize_6 : decode cX12_readSize 6 = .ok (.invokevirtual 72, 3) := by decide +kernel
theorem dX12_readSize_9 : decode cX12_readSize 9 = .ok (.ireturn, 1) := by decide +kernel
theorem dX12_readSize_10 : decode cX12_readSize 10 = .ok (.aload_n 0, 1) := by decide +kernel
theorem dX12_readSize_11 : decode cX12_readSize 11 = .ok (.invokevirtual 82, 3) := by decide +kernel
theorem dX12_readSize_14 : decode cX12_readSize 14 = .ok (.aload_n 0, 1) := by decide +kernel
theorem dX12_readSize_15 : decode cX12_readSize 15 = .ok (.iconst 0, 1) := by decide +kernel
theorem dX12_readSize_16 : decode cX12_readSize 16 = .ok (.aload_n 0, 1) := by decide +kernel
theorem dX12_readSize_17 : decode cX12_readSize 17 = .ok (.iconst 1, 1) := by decide +kernel
theorem dX12_readSize_18 : decode cX12_readSize 18 = .ok (.sipush 256, 3) := by decide +kernel
theorem dX12_readSize_21 : decode cX12_readSize 21 = .ok (.invokevirtual 187, 3) := by decide +kernel
theorem dX12_readSize_24 : decode cX12_readSize 24 = .ok (.invokevirtual 200, 3) := by decide +kernel
theorem dX12_readSize_27 : decode cX12_readSize 27 = .ok (.ireturn, 1) := by decide +kernel
theorem dX12_readLine_0 : decode cX12_readLine 0 = .ok (.aload_n 0, 1) := by decide +kernel
theorem dX12_readLine_1 : decode cX12_readLine 1 = .ok (.iconst 0, 1) := by decide +kernel
theorem dX12_readLine_2 : decode cX12_readLine 2 = .ok (.invokevirtual 207, 3) := by decide +kernel
theorem dX12_readLine_5 : decode cX12_readLine 5 = .ok (.ifCond .eq 9, 3) := by decide +kernel
theorem dX12_readLine_8 : decode cX12_readLine 8 = .ok (.aload_n 0, 1) := by decide +kernel
theorem dX12_readLine_9 : decode cX12_readLine 9 = .ok (.iload_n 1, 1) := by decide +kernel
theorem dX12_readLine_10 : decode cX12_readLine 10 = .ok (.invokevirtual 228, 3) := by decide +kernel
theorem dX12_readLine_13 : decode cX12_readLine 13 = .ok (.ireturn, 1) := by decide +kernel
theorem dX12_readLine_14 : decode cX12_readLine 14 = .ok (.aload_n 0, 1) := by decide +kernel
theorem dX12_readLine_15 : decode cX12_readLine 15 = .ok (.iconst 1, 1) := by decide +kernel
theorem dX12_readLine_16 : decode cX12_readLine 16 = .ok (.invokevirtual 207, 3) := by decide +kernel
theorem dX12_readLine_19 : decode cX12_readLine 19 = .ok (.ifCond .eq 8, 3) := by decide +kernel
theorem dX12_readLine_22 : decode cX12_readLine 22 = .ok (.aload_n 0, 1) := by decide +kernel
theorem dX12_readLine_23 : decode cX12_readLine 23 = .ok (.invokevirtual 231, 3) := by decide +kernel
theorem dX12_readLine_26 : decode cX12_readLine 26 = .ok (.ireturn, 1) := by decide +kernel
theorem dX12_readLine_27 : decode cX12_readLine 27 = .ok (.aload_n 0, 1) := by decide +kernel
theorem dX12_readLine_28 : decode cX12_readLine 28 = .ok (.iconst 2, 1) := by decide +kernel
theorem dX12_readLine_29 : decode cX12_readLine 29 = .ok (.invokevirtual 207, 3) := by decide +kernel
theorem dX12_readLine_32 : decode cX12_readLine 32 = .ok (.ifCond .eq 8, 3) := by decide +kernel
theorem dX12_readLine_35 : decode cX12_readLine 35 = .ok (.aload_n 0, 1) := by decide +kernel
theorem dX12_readLine_36 : decode cX12_readLine 36 = .ok (.invokevirtual 234, 3) := by decide +kernel
theorem dX12_readLine_39 : decode cX12_readLine 39 = .ok (.ireturn, 1) := by decide +kernel
theorem dX12_readLine_40 : decode cX12_readLine 40 = .ok (.aload_n 0, 1) := by decide +kernel
theorem dX12_readLine_41 : decode cX12_readLine 41 = .ok (.iconst 3, 1) := by decide +kernel
theorem dX12_readLine_42 : decode cX12_readLine 42 = .ok (.invokevirtual 207, 3) := by decide +kernel
theorem dX12_readLine_45 : decode cX12_readLine 45 = .ok (.ifCond .eq 8, 3) := by decide +kernel
theorem dX12_readLine_48 : decode cX12_readLine 48 = .ok (.aload_n 0, 1) := by decide +kernel
theorem dX12_readLine_49 : decode cX12_readLine 49 = .ok (.invokevirtual 237, 3) := by decide +kernel
theorem dX12_readLine_52 : decode cX12_readLine 52 = .ok (.ireturn, 1) := by decide +kernel
theorem dX12_readLine_53 : decode cX12_readLine 53 = .ok (.aload_n 0, 1) := by decide +kernel
theorem dX12_readLine_54 : decode cX12_readLine 54 = .ok (.iconst 5, 1) := by decide +kernel
theorem dX12_readLine_55 : decode cX12_readLine 55 = .ok (.invokevirtual 207, 3) := by decide +kernel
theorem dX12_readLine_58 : decode cX12_readLine 58 = .ok (.ifCond .eq 8, 3) := by decide +kernel
theorem dX12_readLine_61 : decode cX12_readLine 61 = .ok (.aload_n 0, 1) := by decide +kernel
theorem dX12_readLine_62 : decode cX12_readLine 62 = .ok (.invokevirtual 240, 3) := by decide +kernel
theorem dX12_readLine_65 : decode cX12_readLine 65 = .ok (.ireturn, 1) := by decide +kernel
theorem dX12_readLine_66 : decode cX12_readLine 66 = .ok (.aload_n 0, 1) := by decide +kernel
theorem dX12_readLine_67 : decode cX12_readLine 67 = .ok (.bipush 6, 2) := by decide +kernel
theorem dX12_readLine_69 : decode cX12_readLine 69 = .ok (.invokevirtual 207, 3) := by decide +kernel
theorem dX12_readLine_72 : decode cX12_readLine 72 = .ok (.ifCond .eq 10, 3) := by decide +kernel
theorem dX12_readLine_75 : decode cX12_readLine 75 = .ok (.aload_n 0, 1) := by decide +kernel
theorem dX12_readLine_76 : decode cX12_readLine 76 = .ok (.invokevirtual 243, 3) := by decide +kernel
theorem dX12_readLine_79 : decode cX12_readLine 79 = .ok (.goto 8, 3) := by decide +kernel
theorem dX12_readLine_82 : decode cX12_readLine 82 = .ok (.aload_n 0, 1) := by decide +kernel
theorem dX12_readLine_83 : decode cX12_readLine 83 = .ok (.iconst 1, 1) := by decide +kernel
theorem dX12_readLine_84 : decode cX12_readLine 84 = .ok (.invokevirtual 72, 3) := by decide +kernel
theorem dX12_readLine_87 : decode cX12_readLine 87 = .ok (.ireturn, 1) := by decide +kernel
theorem dX12_unit_0 : decode cX12_unit 0 = .ok (.aload_n 0, 1) := by decide +kernel
theorem dX12_unit_1 : decode cX12_unit 1 = .ok (.sipush 900, 3) := by decide +kernel
theorem dX12_unit_4 : decode cX12_unit 4 = .ok (.invokevirtual 246, 3) := by decide +kernel
theorem dX12_unit_7 : decode cX12_unit 7 = .ok (.iconst 0, 1) := by decide +kernel
theorem dX12_unit_8 : decode cX12_unit 8 = .ok (.istore_n 1, 1) := by decide +kernel
theorem dX12_unit_9 : decode cX12_unit 9 = .ok (.iload_n 1, 1) := by decide +kernel
theorem dX12_unit_10 : decode cX12_unit 10 = .ok (.sipush 342, 3) := by decide +kernel
theorem dX12_unit_13 : decode cX12_unit 13 = .ok (.if_icmp .ge 16, 3) := by decide +kernel
theorem dX12_unit_16 : decode cX12_unit 16 = .ok (.aload_n 0, 1) := by decide +kernel
theorem dX12_unit_17 : decode cX12_unit 17 = .ok (.getfield 101, 3) := by decide +kernel
theorem dX12_unit_20 : decode cX12_unit 20 = .ok (.iload_n 1, 1) := by decide +kernel
theorem dX12_unit_21 : decode cX12_unit 21 = .ok (.iconst 0, 1) := by decide +kernel
theorem dX12_unit_22 : decode cX12_unit 22 = .ok (.iastore, 1) := by decide +kernel
theorem dX12_unit_23 : decode cX12_unit 23 = .ok (.iinc 1 1, 3) := by decide +kernel
theorem dX12_unit_26 : decode cX12_unit 26 = .ok (.goto (-17), 3) := by decide +kernel
theorem dX12_unit_29 : decode cX12_unit 29 = .ok (.aload_n 0, 1) := by decide +kernel
theorem dX12_unit_30 : decode cX12_unit 30 = .ok (.getfield 101, 3) := by decide +kernel
theorem dX12_unit_33 : decode cX12_unit 33 = .ok (.iconst 0, 1) := by decide +kernel
theorem dX12_unit_34 : decode cX12_unit 34 = .ok (.sipush 256, 3) := by decide +kernel
theorem dX12_unit_37 : decode cX12_unit 37 = .ok (.iastore, 1) := by decide +kernel
theorem dX12_unit_38 : decode cX12_unit 38 = .ok (.iconst 0, 1) := by decide +kernel
theorem dX12_unit_39 : decode cX12_unit 39 = .ok (.istore_n 1, 1) := by decide +kernel
theorem dX12_unit_40 : decode cX12_unit 40 = .ok (.aload_n 0, 1) := by decide +kernel
theorem dX12_unit_41 : decode cX12_unit 41 = .ok (.getfield 30, 3) := by decide +kernel
theorem dX12_unit_44 : decode cX12_unit 44 = .ok (.ifCond .eq 31, 3) := by decide +kernel
theorem dX12_unit_47 : decode cX12_unit 47 = .ok (.aload_n 0, 1) := by decide +kernel
theorem dX12_unit_48 : decode cX12_unit 48 = .ok (.iload_n 1, 1) := by decide +kernel
theorem dX12_unit_49 : decode cX12_unit 49 = .ok (.invokevirtual 249, 3) := by decide +kernel
theorem dX12_unit_52 : decode cX12_unit 52 = .ok (.ifCond .eq 10, 3) := by decide +kernel
theorem dX12_unit_55 : decode cX12_unit 55 = .ok (.aload_n 0, 1) := by decide +kernel
theorem dX12_unit_56 : decode cX12_unit 56 = .ok (.invokevirtual 252, 3) := by decide +kernel
theorem dX12_unit_59 : decode cX12_unit 59 = .ok (.ifCond .ne 10, 3) := by decide +kernel
theorem dX12_unit_62 : decode cX12_unit 62 = .ok (.iconst (-1), 1) := by decide +kernel
theorem dX12_unit_63 : decode cX12_unit 63 = .ok (.aload_n 0, 1) := by decide +kernel
theorem dX12_unit_64 : decode cX12_unit 64 = .ok (.getfield 69, 3) := by decide +kernel
theorem dX12_unit_67 : decode cX12_unit 67 = .ok (.isub, 1) := by decide +kernel
theorem dX12_unit_68 : decode cX12_unit 68 = .ok (.ireturn, 1) := by decide +kernel
theorem dX12_unit_69 : decode cX12_unit 69 = .ok (.iinc 1 1, 3) := by decide +kernel
theorem dX12_unit_72 : decode cX12_unit 72 = .ok (.goto (-32), 3) := by decide +kernel
theorem dX12_unit_75 : decode cX12_unit 75 = .ok (.iconst 0, 1) := by decide +kernel
theorem dX12_unit_76 : decode cX12_unit 76 = .ok (.istore_n 2, 1) := by decide +kernel
theorem dX12_unit_77 : decode cX12_unit 77 = .ok (.iload_n 2, 1) := by decide +kernel
theorem dX12_unit_78 : decode cX12_unit 78 = .ok (.sipush 342, 3) := by decide +kernel
theorem dX12_unit_81 : decode cX12_unit 81 = .ok (.if_icmp .ge 21, 3) := by decide +kernel
theorem dX12_unit_84 : decode cX12_unit 84 = .ok (.aload_n 0, 1) := by decide +kernel
theorem dX12_unit_85 : decode cX12_unit 85 = .ok (.getfield 98, 3) := by decide +kernel
theorem dX12_unit_88 : decode cX12_unit 88 = .ok (.iload_n 2, 1) := by decide +kernel
theorem dX12_unit_89 : decode cX12_unit 89 = .ok (.aload_n 0, 1) := by decide +kernel
theorem dX12_unit_90 : decode cX12_unit 90 = .ok (.getfield 101, 3) := by decide +kernel
theorem dX12_unit_93 : decode cX12_unit 93 = .ok (.iload_n 2, 1) := by decide +kernel
theorem dX12_unit_94 : decode cX12_unit 94 = .ok (.iaload, 1) := by decide +kernel
theorem dX12_unit_95 : decode cX12_unit 95 = .ok (.iastore, 1) := by decide +kernel
theorem dX12_unit_96 : decode cX12_unit 96 = .ok (.iinc 2 1, 3) := by decide +kernel
theorem dX12_unit_99 : decode cX12_unit 99 = .ok (.goto (-22), 3) := by decide +kernel
theorem dX12_unit_102 : decode cX12_unit 102 = .ok (.iconst 0, 1) := by decide +kernel
theorem dX12_unit_103 : decode cX12_unit 103 = .ok (.istore_n 2, 1) := by decide +kernel
theorem dX12_unit_104 : decode cX12_unit 104 = .ok (.iload_n 2, 1) := by decide +kernel
theorem dX12_unit_105 : decode cX12_unit 105 = .ok (.bipush 26, 2) := by decide +kernel
theorem dX12_unit_107 : decode cX12_unit 107 = .ok (.if_icmp .ge 21, 3) := by decide +kernel
theorem dX12_unit_110 : decode cX12_unit 110 = .ok (.aload_n 0, 1) := by decide +kernel
theorem dX12_unit_111 : decode cX12_unit 111 = .ok (.getfield 116, 3) := by decide +kernel
theorem dX12_unit_114 : decode cX12_unit 114 = .ok (.iload_n 2, 1) := by decide +kernel
theorem dX12_unit_115 : decode cX12_unit 115 = .ok (.aload_n 0, 1) := by decide +kernel
theorem dX12_unit_116 : decode cX12_unit 116 = .ok (.getfield 120, 3) := by decide +kernel
theorem dX12_unit_119 : decode cX12_unit 119 = .ok (.iload_n 2, 1) := by decide +kernel
theorem dX12_unit_120 : decode cX12_unit 120 = .ok (.laload, 1) := by decide +kernel
theorem dX12_unit_121 : decode cX12_unit 121 = .ok (.lastore, 1) := by decide +kernel
theorem dX12_unit_122 : decode cX12_unit 122 = .ok (.iinc 2 1, 3) := by decide +kernel
theorem dX12_unit_125 : decode cX12_unit 125 = .ok (.goto (-21), 3) := by decide +kernel
theorem dX12_unit_128 : decode cX12_unit 128 = .ok (.aload_n 0, 1) := by decide +kernel
theorem dX12_unit_129 : decode cX12_unit 129 = .ok (.invokevirtual 255, 3) := by decide +kernel
theorem dX12_unit_132 : decode cX12_unit 132 = .ok (.aload_n 0, 1) := by decide +kernel
theorem dX12_unit_133 : decode cX12_unit 133 = .ok (.iconst 0, 1) := by decide +kernel
theorem dX12_unit_134 : decode cX12_unit 134 = .ok (.putfield 258, 3) := by decide +kernel
theorem dX12_unit_137 : decode cX12_unit 137 = .ok (.iload_n 1, 1) := by decide +kernel
theorem dX12_unit_138 : decode cX12_unit 138 = .ok (.ireturn, 1) := by decide +kernel
theorem dX12_fault_0 : decode cX12_fault 0 = .ok (.aload_n 0, 1) := by decide +kernel
theorem dX12_fault_1 : decode cX12_fault 1 = .ok (.iconst 0, 1) := by decide +kernel
theorem dX12_fault_2 : decode cX12_fault 2 = .ok (.putfield 1, 3) := by decide +kernel
theorem dX12_fault_5 : decode cX12_fault 5 = .ok (.aload_n 0, 1) := by decide +kernel
theorem dX12_fault_6 : decode cX12_fault 6 = .ok (.getfield 66, 3) := by decide +kernel
theorem dX12_fault_9 : decode cX12_fault 9 = .ok (.ireturn, 1) := by decide +kernel
theorem dX12_isAddress_0 : decode cX12_isAddress 0 = .ok (.iload_n 1, 1) := by decide +kernel
theorem dX12_isAddress_1 : decode cX12_isAddress 1 = .ok (.iconst 0, 1) := by decide +kernel
theorem dX12_isAddress_2 : decode cX12_isAddress 2 = .ok (.aload_n 0, 1) := by decide +kernel
theorem dX12_isAddress_3 : decode cX12_isAddress 3 = .ok (.getfield 98, 3) := by decide +kernel
theorem dX12_isAddress_6 : decode cX12_isAddress 6 = .ok (.iconst 0, 1) := by decide +kernel
theorem dX12_isAddress_7 : decode cX12_isAddress 7 = .ok (.iaload, 1) := by decide +kernel
theorem dX12_isAddress_8 : decode cX12_isAddress 8 = .ok (.iconst 1, 1) := by decide +kernel
theorem dX12_isAddress_9 : decode cX12_isAddress 9 = .ok (.isub, 1) := by decide +kernel
theorem dX12_isAddress_10 : decode cX12_isAddress 10 = .ok (.invokestatic 75, 3) := by decide +kernel
