theorem dX8_wordOf_44 : decode cX8_wordOf 44 = .ok (.i2l, 1) := by decide +kernel
theorem dX8_wordOf_45 : decode cX8_wordOf 45 = .ok (.ladd, 1) := by decide +kernel
theorem dX8_wordOf_46 : decode cX8_wordOf 46 = .ok (.lstore_n 2, 1) := by decide +kernel
theorem dX8_wordOf_47 : decode cX8_wordOf 47 = .ok (.goto 17, 3) := by decide +kernel
theorem dX8_wordOf_50 : decode cX8_wordOf 50 = .ok (.lload_n 2, 1) := by decide +kernel
theorem dX8_wordOf_51 : decode cX8_wordOf 51 = .ok (.lload_n 0, 1) := by decide +kernel
theorem dX8_wordOf_52 : decode cX8_wordOf 52 = .ok (.lcmp, 1) := by decide +kernel
theorem dX8_wordOf_53 : decode cX8_wordOf 53 = .ok (.ifCond .ne 6, 3) := by decide +kernel
theorem dX8_wordOf_56 : decode cX8_wordOf 56 = .ok (.iload 4, 2) := by decide +kernel
theorem dX8_wordOf_58 : decode cX8_wordOf 58 = .ok (.ireturn, 1) := by decide +kernel
theorem dX8_wordOf_59 : decode cX8_wordOf 59 = .ok (.lconst 0, 1) := by decide +kernel
theorem dX8_wordOf_60 : decode cX8_wordOf 60 = .ok (.lstore_n 2, 1) := by decide +kernel
theorem dX8_wordOf_61 : decode cX8_wordOf 61 = .ok (.iinc 4 1, 3) := by decide +kernel
theorem dX8_wordOf_64 : decode cX8_wordOf 64 = .ok (.iinc 5 1, 3) := by decide +kernel
theorem dX8_wordOf_67 : decode cX8_wordOf 67 = .ok (.goto (-59), 3) := by decide +kernel
theorem dX8_wordOf_70 : decode cX8_wordOf 70 = .ok (.iconst (-1), 1) := by decide +kernel
theorem dX8_wordOf_71 : decode cX8_wordOf 71 = .ok (.ireturn, 1) := by decide +kernel
theorem dX8_fail_0 : decode cX8_fail 0 = .ok (.aload_n 0, 1) := by decide +kernel
theorem dX8_fail_1 : decode cX8_fail 1 = .ok (.iload_n 1, 1) := by decide +kernel
theorem dX8_fail_2 : decode cX8_fail 2 = .ok (.putfield 44, 3) := by decide +kernel
theorem dX8_fail_5 : decode cX8_fail 5 = .ok (.aload_n 0, 1) := by decide +kernel
theorem dX8_fail_6 : decode cX8_fail 6 = .ok (.aload_n 0, 1) := by decide +kernel
theorem dX8_fail_7 : decode cX8_fail 7 = .ok (.getfield 28, 3) := by decide +kernel
theorem dX8_fail_10 : decode cX8_fail 10 = .ok (.putfield 47, 3) := by decide +kernel
theorem dX8_fail_13 : decode cX8_fail 13 = .ok (.iconst 0, 1) := by decide +kernel
theorem dX8_fail_14 : decode cX8_fail 14 = .ok (.ireturn, 1) := by decide +kernel
theorem dX8_wordHere_0 : decode cX8_wordHere 0 = .ok (.aload_n 0, 1) := by decide +kernel
theorem dX8_wordHere_1 : decode cX8_wordHere 1 = .ok (.getfield 25, 3) := by decide +kernel
theorem dX8_wordHere_4 : decode cX8_wordHere 4 = .ok (.iconst 1, 1) := by decide +kernel
theorem dX8_wordHere_5 : decode cX8_wordHere 5 = .ok (.if_icmp .ne 10, 3) := by decide +kernel
theorem dX8_wordHere_8 : decode cX8_wordHere 8 = .ok (.aload_n 0, 1) := by decide +kernel
theorem dX8_wordHere_9 : decode cX8_wordHere 9 = .ok (.getfield 35, 3) := by decide +kernel
theorem dX8_wordHere_12 : decode cX8_wordHere 12 = .ok (.goto 4, 3) := by decide +kernel
theorem dX8_wordHere_15 : decode cX8_wordHere 15 = .ok (.iconst (-1), 1) := by decide +kernel
theorem dX8_wordHere_16 : decode cX8_wordHere 16 = .ok (.ireturn, 1) := by decide +kernel
theorem dX8_isSign_0 : decode cX8_isSign 0 = .ok (.aload_n 0, 1) := by decide +kernel
theorem dX8_isSign_1 : decode cX8_isSign 1 = .ok (.getfield 25, 3) := by decide +kernel
theorem dX8_isSign_4 : decode cX8_isSign 4 = .ok (.iconst 3, 1) := by decide +kernel
theorem dX8_isSign_5 : decode cX8_isSign 5 = .ok (.if_icmp .ne 15, 3) := by decide +kernel
theorem dX8_isSign_8 : decode cX8_isSign 8 = .ok (.aload_n 0, 1) := by decide +kernel
theorem dX8_isSign_9 : decode cX8_isSign 9 = .ok (.getfield 41, 3) := by decide +kernel
theorem dX8_isSign_12 : decode cX8_isSign 12 = .ok (.iload_n 1, 1) := by decide +kernel
theorem dX8_isSign_13 : decode cX8_isSign 13 = .ok (.if_icmp .ne 7, 3) := by decide +kernel
theorem dX8_isSign_16 : decode cX8_isSign 16 = .ok (.iconst 1, 1) := by decide +kernel
theorem dX8_isSign_17 : decode cX8_isSign 17 = .ok (.goto 4, 3) := by decide +kernel
theorem dX8_isSign_20 : decode cX8_isSign 20 = .ok (.iconst 0, 1) := by decide +kernel
theorem dX8_isSign_21 : decode cX8_isSign 21 = .ok (.ireturn, 1) := by decide +kernel
theorem dX8_needsNumber_0 : decode cX8_needsNumber 0 = .ok (.aload_n 0, 1) := by decide +kernel
theorem dX8_needsNumber_1 : decode cX8_needsNumber 1 = .ok (.getfield 25, 3) := by decide +kernel
theorem dX8_needsNumber_4 : decode cX8_needsNumber 4 = .ok (.iconst 2, 1) := by decide +kernel
theorem dX8_needsNumber_5 : decode cX8_needsNumber 5 = .ok (.if_icmp .eq 9, 3) := by decide +kernel
theorem dX8_needsNumber_8 : decode cX8_needsNumber 8 = .ok (.aload_n 0, 1) := by decide +kernel
theorem dX8_needsNumber_9 : decode cX8_needsNumber 9 = .ok (.iconst 1, 1) := by decide +kernel
theorem dX8_needsNumber_10 : decode cX8_needsNumber 10 = .ok (.invokevirtual 87, 3) := by decide +kernel
theorem dX8_needsNumber_13 : decode cX8_needsNumber 13 = .ok (.ireturn, 1) := by decide +kernel
theorem dX8_needsNumber_14 : decode cX8_needsNumber 14 = .ok (.aload_n 0, 1) := by decide +kernel
theorem dX8_needsNumber_15 : decode cX8_needsNumber 15 = .ok (.getfield 38, 3) := by decide +kernel
theorem dX8_needsNumber_18 : decode cX8_needsNumber 18 = .ok (.iload_n 1, 1) := by decide +kernel
theorem dX8_needsNumber_19 : decode cX8_needsNumber 19 = .ok (.if_icmp .lt 11, 3) := by decide +kernel
theorem dX8_needsNumber_22 : decode cX8_needsNumber 22 = .ok (.aload_n 0, 1) := by decide +kernel
theorem dX8_needsNumber_23 : decode cX8_needsNumber 23 = .ok (.getfield 38, 3) := by decide +kernel
theorem dX8_needsNumber_26 : decode cX8_needsNumber 26 = .ok (.iload_n 2, 1) := by decide +kernel
theorem dX8_needsNumber_27 : decode cX8_needsNumber 27 = .ok (.if_icmp .le 9, 3) := by decide +kernel
theorem dX8_needsNumber_30 : decode cX8_needsNumber 30 = .ok (.aload_n 0, 1) := by decide +kernel
theorem dX8_needsNumber_31 : decode cX8_needsNumber 31 = .ok (.iconst 2, 1) := by decide +kernel
theorem dX8_needsNumber_32 : decode cX8_needsNumber 32 = .ok (.invokevirtual 87, 3) := by decide +kernel
theorem dX8_needsNumber_35 : decode cX8_needsNumber 35 = .ok (.ireturn, 1) := by decide +kernel
theorem dX8_needsNumber_36 : decode cX8_needsNumber 36 = .ok (.iconst 1, 1) := by decide +kernel
theorem dX8_needsNumber_37 : decode cX8_needsNumber 37 = .ok (.ireturn, 1) := by decide +kernel
theorem dX8_needsName_0 : decode cX8_needsName 0 = .ok (.aload_n 0, 1) := by decide +kernel
theorem dX8_needsName_1 : decode cX8_needsName 1 = .ok (.getfield 25, 3) := by decide +kernel
theorem dX8_needsName_4 : decode cX8_needsName 4 = .ok (.iconst 1, 1) := by decide +kernel
theorem dX8_needsName_5 : decode cX8_needsName 5 = .ok (.if_icmp .ne 11, 3) := by decide +kernel
theorem dX8_needsName_8 : decode cX8_needsName 8 = .ok (.aload_n 0, 1) := by decide +kernel
theorem dX8_needsName_9 : decode cX8_needsName 9 = .ok (.getfield 35, 3) := by decide +kernel
theorem dX8_needsName_12 : decode cX8_needsName 12 = .ok (.iconst (-1), 1) := by decide +kernel
theorem dX8_needsName_13 : decode cX8_needsName 13 = .ok (.if_icmp .eq 9, 3) := by decide +kernel
theorem dX8_needsName_16 : decode cX8_needsName 16 = .ok (.aload_n 0, 1) := by decide +kernel
theorem dX8_needsName_17 : decode cX8_needsName 17 = .ok (.iconst 1, 1) := by decide +kernel
theorem dX8_needsName_18 : decode cX8_needsName 18 = .ok (.invokevirtual 87, 3) := by decide +kernel
theorem dX8_needsName_21 : decode cX8_needsName 21 = .ok (.ireturn, 1) := by decide +kernel
theorem dX8_needsName_22 : decode cX8_needsName 22 = .ok (.iconst 1, 1) := by decide +kernel
theorem dX8_needsName_23 : decode cX8_needsName 23 = .ok (.ireturn, 1) := by decide +kernel
theorem dX8_passSign_0 : decode cX8_passSign 0 = .ok (.aload_n 0, 1) := by decide +kernel
theorem dX8_passSign_1 : decode cX8_passSign 1 = .ok (.iload_n 1, 1) := by decide +kernel
theorem dX8_passSign_2 : decode cX8_passSign 2 = .ok (.invokevirtual 90, 3) := by decide +kernel
theorem dX8_passSign_5 : decode cX8_passSign 5 = .ok (.ifCond .ne 9, 3) := by decide +kernel
theorem dX8_passSign_8 : decode cX8_passSign 8 = .ok (.aload_n 0, 1) := by decide +kernel
theorem dX8_passSign_9 : decode cX8_passSign 9 = .ok (.iconst 1, 1) := by decide +kernel
theorem dX8_passSign_10 : decode cX8_passSign 10 = .ok (.invokevirtual 87, 3) := by decide +kernel
theorem dX8_passSign_13 : decode cX8_passSign 13 = .ok (.ireturn, 1) := by decide +kernel
theorem dX8_passSign_14 : decode cX8_passSign 14 = .ok (.aload_n 0, 1) := by decide +kernel
theorem dX8_passSign_15 : decode cX8_passSign 15 = .ok (.invokevirtual 50, 3) := by decide +kernel
theorem dX8_passSign_18 : decode cX8_passSign 18 = .ok (.iconst 1, 1) := by decide +kernel
theorem dX8_passSign_19 : decode cX8_passSign 19 = .ok (.ireturn, 1) := by decide +kernel
theorem dX9_init_0 : decode cX9_init 0 = .ok (.aload_n 0, 1) := by decide +kernel
theorem dX9_init_1 : decode cX9_init 1 = .ok (.invokespecial 3, 3) := by decide +kernel
theorem dX9_init_4 : decode cX9_init 4 = .ok (.aload_n 0, 1) := by decide +kernel
theorem dX9_init_5 : decode cX9_init 5 = .ok (.sipush 256, 3) := by decide +kernel
theorem dX9_init_8 : decode cX9_init 8 = .ok (.putfield 11, 3) := by decide +kernel
theorem dX9_init_11 : decode cX9_init 11 = .ok (.aload_n 0, 1) := by decide +kernel
theorem dX9_init_12 : decode cX9_init 12 = .ok (.new 15, 3) := by decide +kernel
theorem dX9_init_15 : decode cX9_init 15 = .ok (.dup, 1) := by decide +kernel
theorem dX9_init_16 : decode cX9_init 16 = .ok (.bipush 30, 2) := by decide +kernel
theorem dX9_init_18 : decode cX9_init 18 = .ok (.iconst 2, 1) := by decide +kernel
theorem dX9_init_19 : decode cX9_init 19 = .ok (.invokespecial 17, 3) := by decide +kernel
theorem dX9_init_22 : decode cX9_init 22 = .ok (.putfield 20, 3) := by decide +kernel
theorem dX9_init_25 : decode cX9_init 25 = .ok (.aload_n 0, 1) := by decide +kernel
theorem dX9_init_26 : decode cX9_init 26 = .ok (.new 15, 3) := by decide +kernel
theorem dX9_init_29 : decode cX9_init 29 = .ok (.dup, 1) := by decide +kernel
theorem dX9_init_30 : decode cX9_init 30 = .ok (.bipush 10, 2) := by decide +kernel
theorem dX9_init_32 : decode cX9_init 32 = .ok (.iconst 4, 1) := by decide +kernel
theorem dX9_init_33 : decode cX9_init 33 = .ok (.invokespecial 17, 3) := by decide +kernel
theorem dX9_init_36 : decode cX9_init 36 = .ok (.putfield 24, 3) := by decide +kernel
theorem dX9_init_39 : decode cX9_init 39 = .ok (.aload_n 0, 1) := by decide +kernel
theorem dX9_init_40 : decode cX9_init 40 = .ok (.new 15, 3) := by decide +kernel
theorem dX9_init_43 : decode cX9_init 43 = .ok (.dup, 1) := by decide +kernel
theorem dX9_init_44 : decode cX9_init 44 = .ok (.bipush 6, 2) := by decide +kernel
theorem dX9_init_46 : decode cX9_init 46 = .ok (.iconst 3, 1) := by decide +kernel
theorem dX9_init_47 : decode cX9_init 47 = .ok (.invokespecial 17, 3) := by decide +kernel
theorem dX9_init_50 : decode cX9_init 50 = .ok (.putfield 27, 3) := by decide +kernel
theorem dX9_init_53 : decode cX9_init 53 = .ok (.aload_n 0, 1) := by decide +kernel
theorem dX9_init_54 : decode cX9_init 54 = .ok (.new 15, 3) := by decide +kernel
theorem dX9_init_57 : decode cX9_init 57 = .ok (.dup, 1) := by decide +kernel
theorem dX9_init_58 : decode cX9_init 58 = .ok (.bipush 10, 2) := by decide +kernel
theorem dX9_init_60 : decode cX9_init 60 = .ok (.iconst 2, 1) := by decide +kernel
theorem dX9_init_61 : decode cX9_init 61 = .ok (.invokespecial 17, 3) := by decide +kernel
theorem dX9_init_64 : decode cX9_init 64 = .ok (.putfield 30, 3) := by decide +kernel
theorem dX9_init_67 : decode cX9_init 67 = .ok (.aload_n 0, 1) := by decide +kernel
theorem dX9_init_68 : decode cX9_init 68 = .ok (.new 15, 3) := by decide +kernel
theorem dX9_init_71 : decode cX9_init 71 = .ok (.dup, 1) := by decide +kernel
theorem dX9_init_72 : decode cX9_init 72 = .ok (.bipush 16, 2) := by decide +kernel
theorem dX9_init_74 : decode cX9_init 74 = .ok (.bipush 21, 2) := by decide +kernel
theorem dX9_init_76 : decode cX9_init 76 = .ok (.invokespecial 17, 3) := by decide +kernel
theorem dX9_init_79 : decode cX9_init 79 = .ok (.putfield 33, 3) := by decide +kernel
theorem dX9_init_82 : decode cX9_init 82 = .ok (.return_, 1) := by decide +kernel
theorem dX9_makeEmpty_0 : decode cX9_makeEmpty 0 = .ok (.aload_n 0, 1) := by decide +kernel
theorem dX9_makeEmpty_1 : decode cX9_makeEmpty 1 = .ok (.sipush 256, 3) := by decide +kernel
theorem dX9_makeEmpty_4 : decode cX9_makeEmpty 4 = .ok (.putfield 11, 3) := by decide +kernel
theorem dX9_makeEmpty_7 : decode cX9_makeEmpty 7 = .ok (.aload_n 0, 1) := by decide +kernel
theorem dX9_makeEmpty_8 : decode cX9_makeEmpty 8 = .ok (.getfield 20, 3) := by decide +kernel
theorem dX9_makeEmpty_11 : decode cX9_makeEmpty 11 = .ok (.invokevirtual 36, 3) := by decide +kernel
theorem dX9_makeEmpty_14 : decode cX9_makeEmpty 14 = .ok (.aload_n 0, 1) := by decide +kernel
theorem dX9_makeEmpty_15 : decode cX9_makeEmpty 15 = .ok (.getfield 24, 3) := by decide +kernel
theorem dX9_makeEmpty_18 : decode cX9_makeEmpty 18 = .ok (.invokevirtual 36, 3) := by decide +kernel
theorem dX9_makeEmpty_21 : decode cX9_makeEmpty 21 = .ok (.aload_n 0, 1) := by decide +kernel
theorem dX9_makeEmpty_22 : decode cX9_makeEmpty 22 = .ok (.getfield 27, 3) := by decide +kernel
theorem dX9_makeEmpty_25 : decode cX9_makeEmpty 25 = .ok (.invokevirtual 36, 3) := by decide +kernel
theorem dX9_makeEmpty_28 : decode cX9_makeEmpty 28 = .ok (.aload_n 0, 1) := by decide +kernel
theorem dX9_makeEmpty_29 : decode cX9_makeEmpty 29 = .ok (.getfield 30, 3) := by decide +kernel
theorem dX9_makeEmpty_32 : decode cX9_makeEmpty 32 = .ok (.invokevirtual 36, 3) := by decide +kernel
theorem dX9_makeEmpty_35 : decode cX9_makeEmpty 35 = .ok (.aload_n 0, 1) := by decide +kernel
theorem dX9_makeEmpty_36 : decode cX9_makeEmpty 36 = .ok (.getfield 33, 3) := by decide +kernel
theorem dX9_makeEmpty_39 : decode cX9_makeEmpty 39 = .ok (.invokevirtual 36, 3) := by decide +kernel
theorem dX9_makeEmpty_42 : decode cX9_makeEmpty 42 = .ok (.return_, 1) := by decide +kernel
theorem dX9_copyFrom_0 : decode cX9_copyFrom 0 = .ok (.aload_n 0, 1) := by decide +kernel
theorem dX9_copyFrom_1 : decode cX9_copyFrom 1 = .ok (.aload_n 1, 1) := by decide +kernel
theorem dX9_copyFrom_2 : decode cX9_copyFrom 2 = .ok (.getfield 11, 3) := by decide +kernel
theorem dX9_copyFrom_5 : decode cX9_copyFrom 5 = .ok (.putfield 11, 3) := by decide +kernel
theorem dX9_copyFrom_8 : decode cX9_copyFrom 8 = .ok (.aload_n 0, 1) := by decide +kernel
theorem dX9_copyFrom_9 : decode cX9_copyFrom 9 = .ok (.getfield 20, 3) := by decide +kernel
theorem dX9_copyFrom_12 : decode cX9_copyFrom 12 = .ok (.aload_n 1, 1) := by decide +kernel
theorem dX9_copyFrom_13 : decode cX9_copyFrom 13 = .ok (.getfield 20, 3) := by decide +kernel
theorem dX9_copyFrom_16 : decode cX9_copyFrom 16 = .ok (.invokevirtual 39, 3) := by decide +kernel
theorem dX9_copyFrom_19 : decode cX9_copyFrom 19 = .ok (.aload_n 0, 1) := by decide +kernel
theorem dX9_copyFrom_20 : decode cX9_copyFrom 20 = .ok (.getfield 24, 3) := by decide +kernel
theorem dX9_copyFrom_23 : decode cX9_copyFrom 23 = .ok (.aload_n 1, 1) := by decide +kernel
theorem dX9_copyFrom_24 : decode cX9_copyFrom 24 = .ok (.getfield 24, 3) := by decide +kernel
theorem dX9_copyFrom_27 : decode cX9_copyFrom 27 = .ok (.invokevirtual 39, 3) := by decide +kernel
theorem dX9_copyFrom_30 : decode cX9_copyFrom 30 = .ok (.aload_n 0, 1) := by decide +kernel
theorem dX9_copyFrom_31 : decode cX9_copyFrom 31 = .ok (.getfield 27, 3) := by decide +kernel
theorem dX9_copyFrom_34 : decode cX9_copyFrom 34 = .ok (.aload_n 1, 1) := by decide +kernel
theorem dX9_copyFrom_35 : decode cX9_copyFrom 35 = .ok (.getfield 27, 3) := by decide +kernel
theorem dX9_copyFrom_38 : decode cX9_copyFrom 38 = .ok (.invokevirtual 39, 3) := by decide +kernel
theorem dX9_copyFrom_41 : decode cX9_copyFrom 41 = .ok (.aload_n 0, 1) := by decide +kernel
theorem dX9_copyFrom_42 : decode cX9_copyFrom 42 = .ok (.getfield 30, 3) := by decide +kernel
theorem dX9_copyFrom_45 : decode cX9_copyFrom 45 = .ok (.aload_n 1, 1) := by decide +kernel
theorem dX9_copyFrom_46 : decode cX9_copyFrom 46 = .ok (.getfield 30, 3) := by decide +kernel
theorem dX9_copyFrom_49 : decode cX9_copyFrom 49 = .ok (.invokevirtual 39, 3) := by decide +kernel
theorem dX9_copyFrom_52 : decode cX9_copyFrom 52 = .ok (.aload_n 0, 1) := by decide +kernel
theorem dX9_copyFrom_53 : decode cX9_copyFrom 53 = .ok (.getfield 33, 3) := by decide +kernel
theorem dX9_copyFrom_56 : decode cX9_copyFrom 56 = .ok (.aload_n 1, 1) := by decide +kernel
theorem dX9_copyFrom_57 : decode cX9_copyFrom 57 = .ok (.getfield 33, 3) := by decide +kernel
theorem dX9_copyFrom_60 : decode cX9_copyFrom 60 = .ok (.invokevirtual 39, 3) := by decide +kernel
theorem dX9_copyFrom_63 : decode cX9_copyFrom 63 = .ok (.return_, 1) := by decide +kernel
theorem dX9_hasAddress_0 : decode cX9_hasAddress 0 = .ok (.iload_n 1, 1) := by decide +kernel
theorem dX9_hasAddress_1 : decode cX9_hasAddress 1 = .ok (.ifCond .lt 15, 3) := by decide +kernel
theorem dX9_hasAddress_4 : decode cX9_hasAddress 4 = .ok (.iload_n 1, 1) := by decide +kernel
theorem dX9_hasAddress_5 : decode cX9_hasAddress 5 = .ok (.aload_n 0, 1) := by decide +kernel
theorem dX9_hasAddress_6 : decode cX9_hasAddress 6 = .ok (.getfield 11, 3) := by decide +kernel
theorem dX9_hasAddress_9 : decode cX9_hasAddress 9 = .ok (.if_icmp .ge 7, 3) := by decide +kernel
theorem dX9_hasAddress_12 : decode cX9_hasAddress 12 = .ok (.iconst 1, 1) := by decide +kernel
theorem dX9_hasAddress_13 : decode cX9_hasAddress 13 = .ok (.goto 4, 3) := by decide +kernel
theorem dX9_hasAddress_16 : decode cX9_hasAddress 16 = .ok (.iconst 0, 1) := by decide +kernel
theorem dX9_hasAddress_17 : decode cX9_hasAddress 17 = .ok (.ireturn, 1) := by decide +kernel
theorem dX9_isNameTold_0 : decode cX9_isNameTold 0 = .ok (.aload_n 0, 1) := by decide +kernel
theorem dX9_isNameTold_1 : decode cX9_isNameTold 1 = .ok (.getfield 24, 3) := by decide +kernel
theorem dX9_isNameTold_4 : decode cX9_isNameTold 4 = .ok (.lload_n 1, 1) := by decide +kernel
theorem dX9_isNameTold_5 : decode cX9_isNameTold 5 = .ok (.invokevirtual 43, 3) := by decide +kernel
theorem dX9_isNameTold_8 : decode cX9_isNameTold 8 = .ok (.iconst (-1), 1) := by decide +kernel
theorem dX9_isNameTold_9 : decode cX9_isNameTold 9 = .ok (.if_icmp .ne 27, 3) := by decide +kernel
theorem dX9_isNameTold_12 : decode cX9_isNameTold 12 = .ok (.aload_n 0, 1) := by decide +kernel
theorem dX9_isNameTold_13 : decode cX9_isNameTold 13 = .ok (.getfield 27, 3) := by decide +kernel
theorem dX9_isNameTold_16 : decode cX9_isNameTold 16 = .ok (.lload_n 1, 1) := by decide +kernel
theorem dX9_isNameTold_17 : decode cX9_isNameTold 17 = .ok (.invokevirtual 43, 3) := by decide +kernel
theorem dX9_isNameTold_20 : decode cX9_isNameTold 20 = .ok (.iconst (-1), 1) := by decide +kernel
theorem dX9_isNameTold_21 : decode cX9_isNameTold 21 = .ok (.if_icmp .ne 15, 3) := by decide +kernel
theorem dX9_isNameTold_24 : decode cX9_isNameTold 24 = .ok (.aload_n 0, 1) := by decide +kernel
theorem dX9_isNameTold_25 : decode cX9_isNameTold 25 = .ok (.getfield 30, 3) := by decide +kernel
theorem dX9_isNameTold_28 : decode cX9_isNameTold 28 = .ok (.lload_n 1, 1) := by decide +kernel
theorem dX9_isNameTold_29 : decode cX9_isNameTold 29 = .ok (.invokevirtual 43, 3) := by decide +kernel
theorem dX9_isNameTold_32 : decode cX9_isNameTold 32 = .ok (.iconst (-1), 1) := by decide +kernel
theorem dX9_isNameTold_33 : decode cX9_isNameTold 33 = .ok (.if_icmp .eq 7, 3) := by decide +kernel
theorem dX9_isNameTold_36 : decode cX9_isNameTold 36 = .ok (.iconst 1, 1) := by decide +kernel
theorem dX9_isNameTold_37 : decode cX9_isNameTold 37 = .ok (.goto 4, 3) := by decide +kernel
theorem dX9_isNameTold_40 : decode cX9_isNameTold 40 = .ok (.iconst 0, 1) := by decide +kernel
theorem dX9_isNameTold_41 : decode cX9_isNameTold 41 = .ok (.ireturn, 1) := by decide +kernel
theorem dX9_addRow_0 : decode cX9_addRow 0 = .ok (.aload_n 0, 1) := by decide +kernel
theorem dX9_addRow_1 : decode cX9_addRow 1 = .ok (.getfield 20, 3) := by decide +kernel
theorem dX9_addRow_4 : decode cX9_addRow 4 = .ok (.lconst 0, 1) := by decide +kernel
theorem dX9_addRow_5 : decode cX9_addRow 5 = .ok (.invokevirtual 47, 3) := by decide +kernel
theorem dX9_addRow_8 : decode cX9_addRow 8 = .ok (.istore_n 3, 1) := by decide +kernel
theorem dX9_addRow_9 : decode cX9_addRow 9 = .ok (.iconst 0, 1) := by decide +kernel
theorem dX9_addRow_10 : decode cX9_addRow 10 = .ok (.istore 4, 2) := by decide +kernel
theorem dX9_addRow_12 : decode cX9_addRow 12 = .ok (.iload 4, 2) := by decide +kernel
theorem dX9_addRow_14 : decode cX9_addRow 14 = .ok (.aload_n 0, 1) := by decide +kernel
theorem dX9_addRow_15 : decode cX9_addRow 15 = .ok (.getfield 20, 3) := by decide +kernel
theorem dX9_addRow_18 : decode cX9_addRow 18 = .ok (.getfield 50, 3) := by decide +kernel
theorem dX9_addRow_21 : decode cX9_addRow 21 = .ok (.if_icmp .ge 71, 3) := by decide +kernel
theorem dX9_addRow_24 : decode cX9_addRow 24 = .ok (.iload_n 3, 1) := by decide +kernel
theorem dX9_addRow_25 : decode cX9_addRow 25 = .ok (.ifCond .le 67, 3) := by decide +kernel
theorem dX9_addRow_28 : decode cX9_addRow 28 = .ok (.aload_n 0, 1) := by decide +kernel
theorem dX9_addRow_29 : decode cX9_addRow 29 = .ok (.getfield 20, 3) := by decide +kernel
theorem dX9_addRow_32 : decode cX9_addRow 32 = .ok (.iload_n 3, 1) := by decide +kernel
theorem dX9_addRow_33 : decode cX9_addRow 33 = .ok (.iconst 1, 1) := by decide +kernel
theorem dX9_addRow_34 : decode cX9_addRow 34 = .ok (.isub, 1) := by decide +kernel
theorem dX9_addRow_35 : decode cX9_addRow 35 = .ok (.iconst 0, 1) := by decide +kernel
theorem dX9_addRow_36 : decode cX9_addRow 36 = .ok (.invokevirtual 53, 3) := by decide +kernel
theorem dX9_addRow_39 : decode cX9_addRow 39 = .ok (.iload_n 1, 1) := by decide +kernel
theorem dX9_addRow_40 : decode cX9_addRow 40 = .ok (.if_icmp .le 52, 3) := by decide +kernel
theorem dX9_addRow_43 : decode cX9_addRow 43 = .ok (.aload_n 0, 1) := by decide +kernel
theorem dX9_addRow_44 : decode cX9_addRow 44 = .ok (.getfield 20, 3) := by decide +kernel
theorem dX9_addRow_47 : decode cX9_addRow 47 = .ok (.iload_n 3, 1) := by decide +kernel
theorem dX9_addRow_48 : decode cX9_addRow 48 = .ok (.iconst 0, 1) := by decide +kernel
theorem dX9_addRow_49 : decode cX9_addRow 49 = .ok (.aload_n 0, 1) := by decide +kernel
theorem dX9_addRow_50 : decode cX9_addRow 50 = .ok (.getfield 20, 3) := by decide +kernel
theorem dX9_addRow_53 : decode cX9_addRow 53 = .ok (.iload_n 3, 1) := by decide +kernel
theorem dX9_addRow_54 : decode cX9_addRow 54 = .ok (.iconst 1, 1) := by decide +kernel
theorem dX9_addRow_55 : decode cX9_addRow 55 = .ok (.isub, 1) := by decide +kernel
theorem dX9_addRow_56 : decode cX9_addRow 56 = .ok (.iconst 0, 1) := by decide +kernel
theorem dX9_addRow_57 : decode cX9_addRow 57 = .ok (.invokevirtual 53, 3) := by decide +kernel
theorem dX9_addRow_60 : decode cX9_addRow 60 = .ok (.invokevirtual 57, 3) := by decide +kernel
theorem dX9_addRow_63 : decode cX9_addRow 63 = .ok (.aload_n 0, 1) := by decide +kernel
theorem dX9_addRow_64 : decode cX9_addRow 64 = .ok (.getfield 20, 3) := by decide +kernel
theorem dX9_addRow_67 : decode cX9_addRow 67 = .ok (.iload_n 3, 1) := by decide +kernel
theorem dX9_addRow_68 : decode cX9_addRow 68 = .ok (.iconst 1, 1) := by decide +kernel
theorem dX9_addRow_69 : decode cX9_addRow 69 = .ok (.aload_n 0, 1) := by decide +kernel
theorem dX9_addRow_70 : decode cX9_addRow 70 = .ok (.getfield 20, 3) := by decide +kernel
theorem dX9_addRow_73 : decode cX9_addRow 73 = .ok (.iload_n 3, 1) := by decide +kernel
theorem dX9_addRow_74 : decode cX9_addRow 74 = .ok (.iconst 1, 1) := by decide +kernel
theorem dX9_addRow_75 : decode cX9_addRow 75 = .ok (.isub, 1) := by decide +kernel
theorem dX9_addRow_76 : decode cX9_addRow 76 = .ok (.iconst 1, 1) := by decide +kernel
theorem dX9_addRow_77 : decode cX9_addRow 77 = .ok (.invokevirtual 53, 3) := by decide +kernel
theorem dX9_addRow_80 : decode cX9_addRow 80 = .ok (.invokevirtual 57, 3) := by decide +kernel
theorem dX9_addRow_83 : decode cX9_addRow 83 = .ok (.iinc 3 (-1), 3) := by decide +kernel
theorem dX9_addRow_86 : decode cX9_addRow 86 = .ok (.iinc 4 1, 3) := by decide +kernel
theorem dX9_addRow_89 : decode cX9_addRow 89 = .ok (.goto (-77), 3) := by decide +kernel
theorem dX9_addRow_92 : decode cX9_addRow 92 = .ok (.aload_n 0, 1) := by decide +kernel
theorem dX9_addRow_93 : decode cX9_addRow 93 = .ok (.getfield 20, 3) := by decide +kernel
theorem dX9_addRow_96 : decode cX9_addRow 96 = .ok (.iload_n 3, 1) := by decide +kernel
theorem dX9_addRow_97 : decode cX9_addRow 97 = .ok (.iconst 0, 1) := by decide +kernel
theorem dX9_addRow_98 : decode cX9_addRow 98 = .ok (.iload_n 1, 1) := by decide +kernel
theorem dX9_addRow_99 : decode cX9_addRow 99 = .ok (.invokevirtual 57, 3) := by decide +kernel
theorem dX9_addRow_102 : decode cX9_addRow 102 = .ok (.aload_n 0, 1) := by decide +kernel
theorem dX9_addRow_103 : decode cX9_addRow 103 = .ok (.getfield 20, 3) := by decide +kernel
theorem dX9_addRow_106 : decode cX9_addRow 106 = .ok (.iload_n 3, 1) := by decide +kernel
theorem dX9_addRow_107 : decode cX9_addRow 107 = .ok (.iconst 1, 1) := by decide +kernel
theorem dX9_addRow_108 : decode cX9_addRow 108 = .ok (.iload_n 2, 1) := by decide +kernel
theorem dX9_addRow_109 : decode cX9_addRow 109 = .ok (.invokevirtual 57, 3) := by decide +kernel
theorem dX9_addRow_112 : decode cX9_addRow 112 = .ok (.return_, 1) := by decide +kernel
theorem dX9_rowOf_0 : decode cX9_rowOf 0 = .ok (.iconst (-1), 1) := by decide +kernel
theorem dX9_rowOf_1 : decode cX9_rowOf 1 = .ok (.istore_n 2, 1) := by decide +kernel
theorem dX9_rowOf_2 : decode cX9_rowOf 2 = .ok (.iconst 0, 1) := by decide +kernel
theorem dX9_rowOf_3 : decode cX9_rowOf 3 = .ok (.istore_n 3, 1) := by decide +kernel
theorem dX9_rowOf_4 : decode cX9_rowOf 4 = .ok (.iload_n 3, 1) := by decide +kernel
theorem dX9_rowOf_5 : decode cX9_rowOf 5 = .ok (.aload_n 0, 1) := by decide +kernel
theorem dX9_rowOf_6 : decode cX9_rowOf 6 = .ok (.getfield 20, 3) := by decide +kernel
theorem dX9_rowOf_9 : decode cX9_rowOf 9 = .ok (.getfield 50, 3) := by decide +kernel
theorem dX9_rowOf_12 : decode cX9_rowOf 12 = .ok (.if_icmp .ge 24, 3) := by decide +kernel
theorem dX9_rowOf_15 : decode cX9_rowOf 15 = .ok (.aload_n 0, 1) := by decide +kernel
theorem dX9_rowOf_16 : decode cX9_rowOf 16 = .ok (.getfield 20, 3) := by decide +kernel
theorem dX9_rowOf_19 : decode cX9_rowOf 19 = .ok (.iload_n 3, 1) := by decide +kernel
theorem dX9_rowOf_20 : decode cX9_rowOf 20 = .ok (.iconst 0, 1) := by decide +kernel
theorem dX9_rowOf_21 : decode cX9_rowOf 21 = .ok (.invokevirtual 53, 3) := by decide +kernel
theorem dX9_rowOf_24 : decode cX9_rowOf 24 = .ok (.iload_n 1, 1) := by decide +kernel
theorem dX9_rowOf_25 : decode cX9_rowOf 25 = .ok (.if_icmp .gt 11, 3) := by decide +kernel
theorem dX9_rowOf_28 : decode cX9_rowOf 28 = .ok (.iload_n 3, 1) := by decide +kernel
theorem dX9_rowOf_29 : decode cX9_rowOf 29 = .ok (.istore_n 2, 1) := by decide +kernel
theorem dX9_rowOf_30 : decode cX9_rowOf 30 = .ok (.iinc 3 1, 3) := by decide +kernel
theorem dX9_rowOf_33 : decode cX9_rowOf 33 = .ok (.goto (-29), 3) := by decide +kernel
theorem dX9_rowOf_36 : decode cX9_rowOf 36 = .ok (.iload_n 2, 1) := by decide +kernel
theorem dX9_rowOf_37 : decode cX9_rowOf 37 = .ok (.ireturn, 1) := by decide +kernel
theorem dX9_lineOf_0 : decode cX9_lineOf 0 = .ok (.aload_n 0, 1) := by decide +kernel
theorem dX9_lineOf_1 : decode cX9_lineOf 1 = .ok (.iload_n 1, 1) := by decide +kernel
theorem dX9_lineOf_2 : decode cX9_lineOf 2 = .ok (.invokevirtual 61, 3) := by decide +kernel
theorem dX9_lineOf_5 : decode cX9_lineOf 5 = .ok (.ifCond .eq 19, 3) := by decide +kernel
theorem dX9_lineOf_8 : decode cX9_lineOf 8 = .ok (.aload_n 0, 1) := by decide +kernel
theorem dX9_lineOf_9 : decode cX9_lineOf 9 = .ok (.getfield 20, 3) := by decide +kernel
theorem dX9_lineOf_12 : decode cX9_lineOf 12 = .ok (.aload_n 0, 1) := by decide +kernel
theorem dX9_lineOf_13 : decode cX9_lineOf 13 = .ok (.iload_n 1, 1) := by decide +kernel
theorem dX9_lineOf_14 : decode cX9_lineOf 14 = .ok (.invokevirtual 65, 3) := by decide +kernel
theorem dX9_lineOf_17 : decode cX9_lineOf 17 = .ok (.iconst 1, 1) := by decide +kernel
theorem dX9_lineOf_18 : decode cX9_lineOf 18 = .ok (.invokevirtual 53, 3) := by decide +kernel
theorem dX9_lineOf_21 : decode cX9_lineOf 21 = .ok (.goto 4, 3) := by decide +kernel
theorem dX9_lineOf_24 : decode cX9_lineOf 24 = .ok (.iconst (-1), 1) := by decide +kernel
theorem dX9_lineOf_25 : decode cX9_lineOf 25 = .ok (.ireturn, 1) := by decide +kernel
theorem dX9_rowLength_0 : decode cX9_rowLength 0 = .ok (.aload_n 0, 1) := by decide +kernel
theorem dX9_rowLength_1 : decode cX9_rowLength 1 = .ok (.getfield 20, 3) := by decide +kernel
theorem dX9_rowLength_4 : decode cX9_rowLength 4 = .ok (.iload_n 1, 1) := by decide +kernel
theorem dX9_rowLength_5 : decode cX9_rowLength 5 = .ok (.iconst 1, 1) := by decide +kernel
theorem dX9_rowLength_6 : decode cX9_rowLength 6 = .ok (.iadd, 1) := by decide +kernel
theorem dX9_rowLength_7 : decode cX9_rowLength 7 = .ok (.invokevirtual 69, 3) := by decide +kernel
theorem dX9_rowLength_10 : decode cX9_rowLength 10 = .ok (.ifCond .eq 17, 3) := by decide +kernel
theorem dX9_rowLength_13 : decode cX9_rowLength 13 = .ok (.aload_n 0, 1) := by decide +kernel
theorem dX9_rowLength_14 : decode cX9_rowLength 14 = .ok (.getfield 20, 3) := by decide +kernel
theorem dX9_rowLength_17 : decode cX9_rowLength 17 = .ok (.iload_n 1, 1) := by decide +kernel
theorem dX9_rowLength_18 : decode cX9_rowLength 18 = .ok (.iconst 1, 1) := by decide +kernel
theorem dX9_rowLength_19 : decode cX9_rowLength 19 = .ok (.iadd, 1) := by decide +kernel
theorem dX9_rowLength_20 : decode cX9_rowLength 20 = .ok (.iconst 0, 1) := by decide +kernel
theorem dX9_rowLength_21 : decode cX9_rowLength 21 = .ok (.invokevirtual 53, 3) := by decide +kernel
theorem dX9_rowLength_24 : decode cX9_rowLength 24 = .ok (.goto 7, 3) := by decide +kernel
theorem dX9_rowLength_27 : decode cX9_rowLength 27 = .ok (.aload_n 0, 1) := by decide +kernel
theorem dX9_rowLength_28 : decode cX9_rowLength 28 = .ok (.getfield 11, 3) := by decide +kernel
theorem dX9_rowLength_31 : decode cX9_rowLength 31 = .ok (.istore_n 2, 1) := by decide +kernel
theorem dX9_rowLength_32 : decode cX9_rowLength 32 = .ok (.iload_n 2, 1) := by decide +kernel
theorem dX9_rowLength_33 : decode cX9_rowLength 33 = .ok (.aload_n 0, 1) := by decide +kernel
theorem dX9_rowLength_34 : decode cX9_rowLength 34 = .ok (.getfield 20, 3) := by decide +kernel
theorem dX9_rowLength_37 : decode cX9_rowLength 37 = .ok (.iload_n 1, 1) := by decide +kernel
theorem dX9_rowLength_38 : decode cX9_rowLength 38 = .ok (.iconst 0, 1) := by decide +kernel
theorem dX9_rowLength_39 : decode cX9_rowLength 39 = .ok (.invokevirtual 53, 3) := by decide +kernel
theorem dX9_rowLength_42 : decode cX9_rowLength 42 = .ok (.isub, 1) := by decide +kernel
theorem dX9_rowLength_43 : decode cX9_rowLength 43 = .ok (.ireturn, 1) := by decide +kernel
theorem dX9_lineLength_0 : decode cX9_lineLength 0 = .ok (.iconst 0, 1) := by decide +kernel
theorem dX9_lineLength_1 : decode cX9_lineLength 1 = .ok (.istore_n 2, 1) := by decide +kernel
theorem dX9_lineLength_2 : decode cX9_lineLength 2 = .ok (.iconst 0, 1) := by decide +kernel
theorem dX9_lineLength_3 : decode cX9_lineLength 3 = .ok (.istore_n 3, 1) := by decide +kernel
theorem dX9_lineLength_4 : decode cX9_lineLength 4 = .ok (.iload_n 3, 1) := by decide +kernel
theorem dX9_lineLength_5 : decode cX9_lineLength 5 = .ok (.aload_n 0, 1) := by decide +kernel
theorem dX9_lineLength_6 : decode cX9_lineLength 6 = .ok (.getfield 20, 3) := by decide +kernel
theorem dX9_lineLength_9 : decode cX9_lineLength 9 = .ok (.getfield 50, 3) := by decide +kernel
theorem dX9_lineLength_12 : decode cX9_lineLength 12 = .ok (.if_icmp .ge 30, 3) := by decide +kernel
theorem dX9_lineLength_15 : decode cX9_lineLength 15 = .ok (.aload_n 0, 1) := by decide +kernel
theorem dX9_lineLength_16 : decode cX9_lineLength 16 = .ok (.getfield 20, 3) := by decide +kernel
theorem dX9_lineLength_19 : decode cX9_lineLength 19 = .ok (.iload_n 3, 1) := by decide +kernel
theorem dX9_lineLength_20 : decode cX9_lineLength 20 = .ok (.iconst 1, 1) := by decide +kernel
theorem dX9_lineLength_21 : decode cX9_lineLength 21 = .ok (.invokevirtual 53, 3) := by decide +kernel
theorem dX9_lineLength_24 : decode cX9_lineLength 24 = .ok (.iload_n 1, 1) := by decide +kernel
theorem dX9_lineLength_25 : decode cX9_lineLength 25 = .ok (.if_icmp .ne 11, 3) := by decide +kernel
theorem dX9_lineLength_28 : decode cX9_lineLength 28 = .ok (.iload_n 2, 1) := by decide +kernel
theorem dX9_lineLength_29 : decode cX9_lineLength 29 = .ok (.aload_n 0, 1) := by decide +kernel
theorem dX9_lineLength_30 : decode cX9_lineLength 30 = .ok (.iload_n 3, 1) := by decide +kernel
theorem dX9_lineLength_31 : decode cX9_lineLength 31 = .ok (.invokevirtual 72, 3) := by decide +kernel
theorem dX9_lineLength_34 : decode cX9_lineLength 34 = .ok (.iadd, 1) := by decide +kernel
theorem dX9_lineLength_35 : decode cX9_lineLength 35 = .ok (.istore_n 2, 1) := by decide +kernel
theorem dX9_lineLength_36 : decode cX9_lineLength 36 = .ok (.iinc 3 1, 3) := by decide +kernel
theorem dX9_lineLength_39 : decode cX9_lineLength 39 = .ok (.goto (-35), 3) := by decide +kernel
theorem dX9_lineLength_42 : decode cX9_lineLength 42 = .ok (.iload_n 2, 1) := by decide +kernel
theorem dX9_lineLength_43 : decode cX9_lineLength 43 = .ok (.ireturn, 1) := by decide +kernel
theorem dX9_scopeHas_0 : decode cX9_scopeHas 0 = .ok (.aload_n 0, 1) := by decide +kernel
theorem dX9_scopeHas_1 : decode cX9_scopeHas 1 = .ok (.getfield 24, 3) := by decide +kernel
theorem dX9_scopeHas_4 : decode cX9_scopeHas 4 = .ok (.iload_n 1, 1) := by decide +kernel
theorem dX9_scopeHas_5 : decode cX9_scopeHas 5 = .ok (.iconst 0, 1) := by decide +kernel
theorem dX9_scopeHas_6 : decode cX9_scopeHas 6 = .ok (.invokevirtual 53, 3) := by decide +kernel
theorem dX9_scopeHas_9 : decode cX9_scopeHas 9 = .ok (.iload_n 2, 1) := by decide +kernel
theorem dX9_scopeHas_10 : decode cX9_scopeHas 10 = .ok (.if_icmp .gt 20, 3) := by decide +kernel
theorem dX9_scopeHas_13 : decode cX9_scopeHas 13 = .ok (.iload_n 2, 1) := by decide +kernel
theorem dX9_scopeHas_14 : decode cX9_scopeHas 14 = .ok (.aload_n 0, 1) := by decide +kernel
theorem dX9_scopeHas_15 : decode cX9_scopeHas 15 = .ok (.getfield 24, 3) := by decide +kernel
theorem dX9_scopeHas_18 : decode cX9_scopeHas 18 = .ok (.iload_n 1, 1) := by decide +kernel
theorem dX9_scopeHas_19 : decode cX9_scopeHas 19 = .ok (.iconst 1, 1) := by decide +kernel
theorem dX9_scopeHas_20 : decode cX9_scopeHas 20 = .ok (.invokevirtual 53, 3) := by decide +kernel
theorem dX9_scopeHas_23 : decode cX9_scopeHas 23 = .ok (.if_icmp .ge 7, 3) := by decide +kernel
theorem dX9_scopeHas_26 : decode cX9_scopeHas 26 = .ok (.iconst 1, 1) := by decide +kernel
theorem dX9_scopeHas_27 : decode cX9_scopeHas 27 = .ok (.goto 4, 3) := by decide +kernel
theorem dX9_scopeHas_30 : decode cX9_scopeHas 30 = .ok (.iconst 0, 1) := by decide +kernel
theorem dX9_scopeHas_31 : decode cX9_scopeHas 31 = .ok (.ireturn, 1) := by decide +kernel
theorem dX9_scopeLength_0 : decode cX9_scopeLength 0 = .ok (.aload_n 0, 1) := by decide +kernel
theorem dX9_scopeLength_1 : decode cX9_scopeLength 1 = .ok (.getfield 24, 3) := by decide +kernel
theorem dX9_scopeLength_4 : decode cX9_scopeLength 4 = .ok (.iload_n 1, 1) := by decide +kernel
theorem dX9_scopeLength_5 : decode cX9_scopeLength 5 = .ok (.iconst 1, 1) := by decide +kernel
theorem dX9_scopeLength_6 : decode cX9_scopeLength 6 = .ok (.invokevirtual 53, 3) := by decide +kernel
theorem dX9_scopeLength_9 : decode cX9_scopeLength 9 = .ok (.aload_n 0, 1) := by decide +kernel
theorem dX9_scopeLength_10 : decode cX9_scopeLength 10 = .ok (.getfield 24, 3) := by decide +kernel
theorem dX9_scopeLength_13 : decode cX9_scopeLength 13 = .ok (.iload_n 1, 1) := by decide +kernel
theorem dX9_scopeLength_14 : decode cX9_scopeLength 14 = .ok (.iconst 0, 1) := by decide +kernel
theorem dX9_scopeLength_15 : decode cX9_scopeLength 15 = .ok (.invokevirtual 53, 3) := by decide +kernel
theorem dX9_scopeLength_18 : decode cX9_scopeLength 18 = .ok (.isub, 1) := by decide +kernel
theorem dX9_scopeLength_19 : decode cX9_scopeLength 19 = .ok (.ireturn, 1) := by decide +kernel
theorem dX9_scopeBehind_0 : decode cX9_scopeBehind 0 = .ok (.iconst (-1), 1) := by decide +kernel
theorem dX9_scopeBehind_1 : decode cX9_scopeBehind 1 = .ok (.istore_n 3, 1) := by decide +kernel
theorem dX9_scopeBehind_2 : decode cX9_scopeBehind 2 = .ok (.aload_n 0, 1) := by decide +kernel
theorem dX9_scopeBehind_3 : decode cX9_scopeBehind 3 = .ok (.getfield 24, 3) := by decide +kernel
theorem dX9_scopeBehind_6 : decode cX9_scopeBehind 6 = .ok (.iload_n 2, 1) := by decide +kernel
theorem dX9_scopeBehind_7 : decode cX9_scopeBehind 7 = .ok (.iconst 3, 1) := by decide +kernel
theorem dX9_scopeBehind_8 : decode cX9_scopeBehind 8 = .ok (.invokevirtual 53, 3) := by decide +kernel
theorem dX9_scopeBehind_11 : decode cX9_scopeBehind 11 = .ok (.istore 4, 2) := by decide +kernel
theorem dX9_scopeBehind_13 : decode cX9_scopeBehind 13 = .ok (.iconst 0, 1) := by decide +kernel
theorem dX9_scopeBehind_14 : decode cX9_scopeBehind 14 = .ok (.istore 5, 2) := by decide +kernel
theorem dX9_scopeBehind_16 : decode cX9_scopeBehind 16 = .ok (.iload 5, 2) := by decide +kernel
theorem dX9_scopeBehind_18 : decode cX9_scopeBehind 18 = .ok (.aload_n 0, 1) := by decide +kernel
theorem dX9_scopeBehind_19 : decode cX9_scopeBehind 19 = .ok (.getfield 24, 3) := by decide +kernel
theorem dX9_scopeBehind_22 : decode cX9_scopeBehind 22 = .ok (.getfield 50, 3) := by decide +kernel
theorem dX9_scopeBehind_25 : decode cX9_scopeBehind 25 = .ok (.if_icmp .ge 72, 3) := by decide +kernel
theorem dX9_scopeBehind_28 : decode cX9_scopeBehind 28 = .ok (.aload_n 0, 1) := by decide +kernel
theorem dX9_scopeBehind_29 : decode cX9_scopeBehind 29 = .ok (.getfield 24, 3) := by decide +kernel
theorem dX9_scopeBehind_32 : decode cX9_scopeBehind 32 = .ok (.iload 5, 2) := by decide +kernel
theorem dX9_scopeBehind_34 : decode cX9_scopeBehind 34 = .ok (.iconst 3, 1) := by decide +kernel
theorem dX9_scopeBehind_35 : decode cX9_scopeBehind 35 = .ok (.invokevirtual 53, 3) := by decide +kernel
theorem dX9_scopeBehind_38 : decode cX9_scopeBehind 38 = .ok (.istore 6, 2) := by decide +kernel
theorem dX9_scopeBehind_40 : decode cX9_scopeBehind 40 = .ok (.iload_n 3, 1) := by decide +kernel
theorem dX9_scopeBehind_41 : decode cX9_scopeBehind 41 = .ok (.iconst (-1), 1) := by decide +kernel
theorem dX9_scopeBehind_42 : decode cX9_scopeBehind 42 = .ok (.if_icmp .eq 17, 3) := by decide +kernel
theorem dX9_scopeBehind_45 : decode cX9_scopeBehind 45 = .ok (.iload 6, 2) := by decide +kernel
theorem dX9_scopeBehind_47 : decode cX9_scopeBehind 47 = .ok (.aload_n 0, 1) := by decide +kernel
theorem dX9_scopeBehind_48 : decode cX9_scopeBehind 48 = .ok (.getfield 24, 3) := by decide +kernel
theorem dX9_scopeBehind_51 : decode cX9_scopeBehind 51 = .ok (.iload_n 3, 1) := by decide +kernel
theorem dX9_scopeBehind_52 : decode cX9_scopeBehind 52 = .ok (.iconst 3, 1) := by decide +kernel
theorem dX9_scopeBehind_53 : decode cX9_scopeBehind 53 = .ok (.invokevirtual 53, 3) := by decide +kernel
theorem dX9_scopeBehind_56 : decode cX9_scopeBehind 56 = .ok (.if_icmp .ge 7, 3) := by decide +kernel
theorem dX9_scopeBehind_59 : decode cX9_scopeBehind 59 = .ok (.iconst 1, 1) := by decide +kernel
theorem dX9_scopeBehind_60 : decode cX9_scopeBehind 60 = .ok (.goto 4, 3) := by decide +kernel
theorem dX9_scopeBehind_63 : decode cX9_scopeBehind 63 = .ok (.iconst 0, 1) := by decide +kernel
theorem dX9_scopeBehind_64 : decode cX9_scopeBehind 64 = .ok (.istore 7, 2) := by decide +kernel
theorem dX9_scopeBehind_66 : decode cX9_scopeBehind 66 = .ok (.aload_n 0, 1) := by decide +kernel
theorem dX9_scopeBehind_67 : decode cX9_scopeBehind 67 = .ok (.iload 5, 2) := by decide +kernel
theorem dX9_scopeBehind_69 : decode cX9_scopeBehind 69 = .ok (.iload_n 1, 1) := by decide +kernel
theorem dX9_scopeBehind_70 : decode cX9_scopeBehind 70 = .ok (.invokevirtual 75, 3) := by decide +kernel
theorem dX9_scopeBehind_73 : decode cX9_scopeBehind 73 = .ok (.ifCond .eq 18, 3) := by decide +kernel
theorem dX9_scopeBehind_76 : decode cX9_scopeBehind 76 = .ok (.iload 6, 2) := by decide +kernel
theorem dX9_scopeBehind_78 : decode cX9_scopeBehind 78 = .ok (.iload 4, 2) := by decide +kernel
theorem dX9_scopeBehind_80 : decode cX9_scopeBehind 80 = .ok (.if_icmp .le 11, 3) := by decide +kernel
theorem dX9_scopeBehind_83 : decode cX9_scopeBehind 83 = .ok (.iload 7, 2) := by decide +kernel
theorem dX9_scopeBehind_85 : decode cX9_scopeBehind 85 = .ok (.ifCond .eq 6, 3) := by decide +kernel
theorem dX9_scopeBehind_88 : decode cX9_scopeBehind 88 = .ok (.iload 5, 2) := by decide +kernel
theorem dX9_scopeBehind_90 : decode cX9_scopeBehind 90 = .ok (.istore_n 3, 1) := by decide +kernel
theorem dX9_scopeBehind_91 : decode cX9_scopeBehind 91 = .ok (.iinc 5 1, 3) := by decide +kernel
theorem dX9_scopeBehind_94 : decode cX9_scopeBehind 94 = .ok (.goto (-78), 3) := by decide +kernel
theorem dX9_scopeBehind_97 : decode cX9_scopeBehind 97 = .ok (.iload_n 3, 1) := by decide +kernel
theorem dX9_scopeBehind_98 : decode cX9_scopeBehind 98 = .ok (.ireturn, 1) := by decide +kernel
theorem dX9_rankScope_0 : decode cX9_rankScope 0 = .ok (.aload_n 0, 1) := by decide +kernel
theorem dX9_rankScope_1 : decode cX9_rankScope 1 = .ok (.getfield 24, 3) := by decide +kernel
theorem dX9_rankScope_4 : decode cX9_rankScope 4 = .ok (.iload_n 1, 1) := by decide +kernel
theorem dX9_rankScope_5 : decode cX9_rankScope 5 = .ok (.iconst 1, 1) := by decide +kernel
theorem dX9_rankScope_6 : decode cX9_rankScope 6 = .ok (.invokevirtual 53, 3) := by decide +kernel
theorem dX9_rankScope_9 : decode cX9_rankScope 9 = .ok (.aload_n 0, 1) := by decide +kernel
theorem dX9_rankScope_10 : decode cX9_rankScope 10 = .ok (.getfield 24, 3) := by decide +kernel
theorem dX9_rankScope_13 : decode cX9_rankScope 13 = .ok (.iload_n 1, 1) := by decide +kernel
theorem dX9_rankScope_14 : decode cX9_rankScope 14 = .ok (.iconst 0, 1) := by decide +kernel
theorem dX9_rankScope_15 : decode cX9_rankScope 15 = .ok (.invokevirtual 53, 3) := by decide +kernel
theorem dX9_rankScope_18 : decode cX9_rankScope 18 = .ok (.isub, 1) := by decide +kernel
theorem dX9_rankScope_19 : decode cX9_rankScope 19 = .ok (.istore_n 2, 1) := by decide +kernel
theorem dX9_rankScope_20 : decode cX9_rankScope 20 = .ok (.aload_n 0, 1) := by decide +kernel
theorem dX9_rankScope_21 : decode cX9_rankScope 21 = .ok (.getfield 24, 3) := by decide +kernel
theorem dX9_rankScope_24 : decode cX9_rankScope 24 = .ok (.iload_n 1, 1) := by decide +kernel
theorem dX9_rankScope_25 : decode cX9_rankScope 25 = .ok (.iconst 3, 1) := by decide +kernel
theorem dX9_rankScope_26 : decode cX9_rankScope 26 = .ok (.iload_n 2, 1) := by decide +kernel
theorem dX9_rankScope_27 : decode cX9_rankScope 27 = .ok (.iconst 1, 1) := by decide +kernel
theorem dX9_rankScope_28 : decode cX9_rankScope 28 = .ok (.iadd, 1) := by decide +kernel
theorem dX9_rankScope_29 : decode cX9_rankScope 29 = .ok (.bipush 10, 2) := by decide +kernel
theorem dX9_rankScope_31 : decode cX9_rankScope 31 = .ok (.imul, 1) := by decide +kernel
theorem dX9_rankScope_32 : decode cX9_rankScope 32 = .ok (.iload_n 1, 1) := by decide +kernel
theorem dX9_rankScope_33 : decode cX9_rankScope 33 = .ok (.isub, 1) := by decide +kernel
theorem dX9_rankScope_34 : decode cX9_rankScope 34 = .ok (.invokevirtual 57, 3) := by decide +kernel
theorem dX9_rankScope_37 : decode cX9_rankScope 37 = .ok (.return_, 1) := by decide +kernel
theorem dX9_isWithin_0 : decode cX9_isWithin 0 = .ok (.iload_n 1, 1) := by decide +kernel
theorem dX9_isWithin_1 : decode cX9_isWithin 1 = .ok (.istore_n 3, 1) := by decide +kernel
theorem dX9_isWithin_2 : decode cX9_isWithin 2 = .ok (.iconst 0, 1) := by decide +kernel
theorem dX9_isWithin_3 : decode cX9_isWithin 3 = .ok (.istore 4, 2) := by decide +kernel
theorem dX9_isWithin_5 : decode cX9_isWithin 5 = .ok (.iload 4, 2) := by decide +kernel
theorem dX9_isWithin_7 : decode cX9_isWithin 7 = .ok (.bipush 10, 2) := by decide +kernel
theorem dX9_isWithin_9 : decode cX9_isWithin 9 = .ok (.if_icmp .ge 36, 3) := by decide +kernel
theorem dX9_isWithin_12 : decode cX9_isWithin 12 = .ok (.iload_n 3, 1) := by decide +kernel
theorem dX9_isWithin_13 : decode cX9_isWithin 13 = .ok (.iconst (-1), 1) := by decide +kernel
theorem dX9_isWithin_14 : decode cX9_isWithin 14 = .ok (.if_icmp .eq 31, 3) := by decide +kernel
theorem dX9_isWithin_17 : decode cX9_isWithin 17 = .ok (.iload_n 3, 1) := by decide +kernel
theorem dX9_isWithin_18 : decode cX9_isWithin 18 = .ok (.iload_n 2, 1) := by decide +kernel
theorem dX9_isWithin_19 : decode cX9_isWithin 19 = .ok (.if_icmp .ne 5, 3) := by decide +kernel
theorem dX9_isWithin_22 : decode cX9_isWithin 22 = .ok (.iconst 1, 1) := by decide +kernel
theorem dX9_isWithin_23 : decode cX9_isWithin 23 = .ok (.ireturn, 1) := by decide +kernel
theorem dX9_isWithin_24 : decode cX9_isWithin 24 = .ok (.aload_n 0, 1) := by decide +kernel
theorem dX9_isWithin_25 : decode cX9_isWithin 25 = .ok (.aload_n 0, 1) := by decide +kernel
theorem dX9_isWithin_26 : decode cX9_isWithin 26 = .ok (.getfield 24, 3) := by decide +kernel
theorem dX9_isWithin_29 : decode cX9_isWithin 29 = .ok (.iload_n 1, 1) := by decide +kernel
theorem dX9_isWithin_30 : decode cX9_isWithin 30 = .ok (.iconst 0, 1) := by decide +kernel
theorem dX9_isWithin_31 : decode cX9_isWithin 31 = .ok (.invokevirtual 53, 3) := by decide +kernel
theorem dX9_isWithin_34 : decode cX9_isWithin 34 = .ok (.iload_n 3, 1) := by decide +kernel
theorem dX9_isWithin_35 : decode cX9_isWithin 35 = .ok (.invokevirtual 79, 3) := by decide +kernel
theorem dX9_isWithin_38 : decode cX9_isWithin 38 = .ok (.istore_n 3, 1) := by decide +kernel
theorem dX9_isWithin_39 : decode cX9_isWithin 39 = .ok (.iinc 4 1, 3) := by decide +kernel
theorem dX9_isWithin_42 : decode cX9_isWithin 42 = .ok (.goto (-37), 3) := by decide +kernel
theorem dX9_isWithin_45 : decode cX9_isWithin 45 = .ok (.iconst 0, 1) := by decide +kernel
theorem dX9_isWithin_46 : decode cX9_isWithin 46 = .ok (.ireturn, 1) := by decide +kernel
theorem dX9_cutsScope_0 : decode cX9_cutsScope 0 = .ok (.iconst 0, 1) := by decide +kernel
theorem dX9_cutsScope_1 : decode cX9_cutsScope 1 = .ok (.istore_n 3, 1) := by decide +kernel
theorem dX9_cutsScope_2 : decode cX9_cutsScope 2 = .ok (.iload_n 3, 1) := by decide +kernel
theorem dX9_cutsScope_3 : decode cX9_cutsScope 3 = .ok (.aload_n 0, 1) := by decide +kernel
theorem dX9_cutsScope_4 : decode cX9_cutsScope 4 = .ok (.getfield 24, 3) := by decide +kernel
theorem dX9_cutsScope_7 : decode cX9_cutsScope 7 = .ok (.getfield 50, 3) := by decide +kernel
theorem dX9_cutsScope_10 : decode cX9_cutsScope 10 = .ok (.if_icmp .ge 93, 3) := by decide +kernel
theorem dX9_cutsScope_13 : decode cX9_cutsScope 13 = .ok (.aload_n 0, 1) := by decide +kernel
theorem dX9_cutsScope_14 : decode cX9_cutsScope 14 = .ok (.getfield 24, 3) := by decide +kernel
theorem dX9_cutsScope_17 : decode cX9_cutsScope 17 = .ok (.iload_n 3, 1) := by decide +kernel
theorem dX9_cutsScope_18 : decode cX9_cutsScope 18 = .ok (.iconst 0, 1) := by decide +kernel
theorem dX9_cutsScope_19 : decode cX9_cutsScope 19 = .ok (.invokevirtual 53, 3) := by decide +kernel
theorem dX9_cutsScope_22 : decode cX9_cutsScope 22 = .ok (.istore 4, 2) := by decide +kernel
theorem dX9_cutsScope_24 : decode cX9_cutsScope 24 = .ok (.aload_n 0, 1) := by decide +kernel
theorem dX9_cutsScope_25 : decode cX9_cutsScope 25 = .ok (.getfield 24, 3) := by decide +kernel
theorem dX9_cutsScope_28 : decode cX9_cutsScope 28 = .ok (.iload_n 3, 1) := by decide +kernel
theorem dX9_cutsScope_29 : decode cX9_cutsScope 29 = .ok (.iconst 1, 1) := by decide +kernel
theorem dX9_cutsScope_30 : decode cX9_cutsScope 30 = .ok (.invokevirtual 53, 3) := by decide +kernel
theorem dX9_cutsScope_33 : decode cX9_cutsScope 33 = .ok (.istore 5, 2) := by decide +kernel
theorem dX9_cutsScope_35 : decode cX9_cutsScope 35 = .ok (.iload_n 2, 1) := by decide +kernel
theorem dX9_cutsScope_36 : decode cX9_cutsScope 36 = .ok (.iload 4, 2) := by decide +kernel
theorem dX9_cutsScope_38 : decode cX9_cutsScope 38 = .ok (.if_icmp .le 9, 3) := by decide +kernel
theorem dX9_cutsScope_41 : decode cX9_cutsScope 41 = .ok (.iload 5, 2) := by decide +kernel
theorem dX9_cutsScope_43 : decode cX9_cutsScope 43 = .ok (.iload_n 1, 1) := by decide +kernel
theorem dX9_cutsScope_44 : decode cX9_cutsScope 44 = .ok (.if_icmp .gt 7, 3) := by decide +kernel
theorem dX9_cutsScope_47 : decode cX9_cutsScope 47 = .ok (.iconst 1, 1) := by decide +kernel
theorem dX9_cutsScope_48 : decode cX9_cutsScope 48 = .ok (.goto 4, 3) := by decide +kernel
theorem dX9_cutsScope_51 : decode cX9_cutsScope 51 = .ok (.iconst 0, 1) := by decide +kernel
theorem dX9_cutsScope_52 : decode cX9_cutsScope 52 = .ok (.istore 6, 2) := by decide +kernel
theorem dX9_cutsScope_54 : decode cX9_cutsScope 54 = .ok (.iload 4, 2) := by decide +kernel
theorem dX9_cutsScope_56 : decode cX9_cutsScope 56 = .ok (.iload_n 1, 1) := by decide +kernel
theorem dX9_cutsScope_57 : decode cX9_cutsScope 57 = .ok (.if_icmp .gt 9, 3) := by decide +kernel
theorem dX9_cutsScope_60 : decode cX9_cutsScope 60 = .ok (.iload_n 2, 1) := by decide +kernel
theorem dX9_cutsScope_61 : decode cX9_cutsScope 61 = .ok (.iload 5, 2) := by decide +kernel
theorem dX9_cutsScope_63 : decode cX9_cutsScope 63 = .ok (.if_icmp .le 15, 3) := by decide +kernel
theorem dX9_cutsScope_66 : decode cX9_cutsScope 66 = .ok (.iload_n 1, 1) := by decide +kernel
theorem dX9_cutsScope_67 : decode cX9_cutsScope 67 = .ok (.iload 4, 2) := by decide +kernel
theorem dX9_cutsScope_69 : decode cX9_cutsScope 69 = .ok (.if_icmp .gt 13, 3) := by decide +kernel
theorem dX9_cutsScope_72 : decode cX9_cutsScope 72 = .ok (.iload 5, 2) := by decide +kernel
theorem dX9_cutsScope_74 : decode cX9_cutsScope 74 = .ok (.iload_n 2, 1) := by decide +kernel
theorem dX9_cutsScope_75 : decode cX9_cutsScope 75 = .ok (.if_icmp .gt 7, 3) := by decide +kernel
theorem dX9_cutsScope_78 : decode cX9_cutsScope 78 = .ok (.iconst 1, 1) := by decide +kernel
theorem dX9_cutsScope_79 : decode cX9_cutsScope 79 = .ok (.goto 4, 3) := by decide +kernel
theorem dX9_cutsScope_82 : decode cX9_cutsScope 82 = .ok (.iconst 0, 1) := by decide +kernel
theorem dX9_cutsScope_83 : decode cX9_cutsScope 83 = .ok (.istore 7, 2) := by decide +kernel
theorem dX9_cutsScope_85 : decode cX9_cutsScope 85 = .ok (.iload 6, 2) := by decide +kernel
theorem dX9_cutsScope_87 : decode cX9_cutsScope 87 = .ok (.ifCond .ne 10, 3) := by decide +kernel
theorem dX9_cutsScope_90 : decode cX9_cutsScope 90 = .ok (.iload 7, 2) := by decide +kernel
theorem dX9_cutsScope_92 : decode cX9_cutsScope 92 = .ok (.ifCond .ne 5, 3) := by decide +kernel
theorem dX9_cutsScope_95 : decode cX9_cutsScope 95 = .ok (.iconst 1, 1) := by decide +kernel
theorem dX9_cutsScope_96 : decode cX9_cutsScope 96 = .ok (.ireturn, 1) := by decide +kernel
theorem dX9_cutsScope_97 : decode cX9_cutsScope 97 = .ok (.iinc 3 1, 3) := by decide +kernel
theorem dX9_cutsScope_100 : decode cX9_cutsScope 100 = .ok (.goto (-98), 3) := by decide +kernel
theorem dX9_cutsScope_103 : decode cX9_cutsScope 103 = .ok (.iconst 0, 1) := by decide +kernel
theorem dX9_cutsScope_104 : decode cX9_cutsScope 104 = .ok (.ireturn, 1) := by decide +kernel
theorem dX9_varsOf_0 : decode cX9_varsOf 0 = .ok (.iconst 0, 1) := by decide +kernel
theorem dX9_varsOf_1 : decode cX9_varsOf 1 = .ok (.istore_n 2, 1) := by decide +kernel
theorem dX9_varsOf_2 : decode cX9_varsOf 2 = .ok (.iconst 0, 1) := by decide +kernel
theorem dX9_varsOf_3 : decode cX9_varsOf 3 = .ok (.istore_n 3, 1) := by decide +kernel
theorem dX9_varsOf_4 : decode cX9_varsOf 4 = .ok (.iload_n 3, 1) := by decide +kernel
theorem dX9_varsOf_5 : decode cX9_varsOf 5 = .ok (.aload_n 0, 1) := by decide +kernel
theorem dX9_varsOf_6 : decode cX9_varsOf 6 = .ok (.getfield 30, 3) := by decide +kernel
theorem dX9_varsOf_9 : decode cX9_varsOf 9 = .ok (.getfield 50, 3) := by decide +kernel
theorem dX9_varsOf_12 : decode cX9_varsOf 12 = .ok (.if_icmp .ge 28, 3) := by decide +kernel
theorem dX9_varsOf_15 : decode cX9_varsOf 15 = .ok (.aload_n 0, 1) := by decide +kernel
theorem dX9_varsOf_16 : decode cX9_varsOf 16 = .ok (.getfield 30, 3) := by decide +kernel
theorem dX9_varsOf_19 : decode cX9_varsOf 19 = .ok (.iload_n 3, 1) := by decide +kernel
theorem dX9_varsOf_20 : decode cX9_varsOf 20 = .ok (.iconst 0, 1) := by decide +kernel
theorem dX9_varsOf_21 : decode cX9_varsOf 21 = .ok (.invokevirtual 53, 3) := by decide +kernel
theorem dX9_varsOf_24 : decode cX9_varsOf 24 = .ok (.iload_n 1, 1) := by decide +kernel
theorem dX9_varsOf_25 : decode cX9_varsOf 25 = .ok (.if_icmp .ne 9, 3) := by decide +kernel
theorem dX9_varsOf_28 : decode cX9_varsOf 28 = .ok (.iload_n 2, 1) := by decide +kernel
theorem dX9_varsOf_29 : decode cX9_varsOf 29 = .ok (.iconst 1, 1) := by decide +kernel
theorem dX9_varsOf_30 : decode cX9_varsOf 30 = .ok (.iload_n 3, 1) := by decide +kernel
theorem dX9_varsOf_31 : decode cX9_varsOf 31 = .ok (.ishl, 1) := by decide +kernel
theorem dX9_varsOf_32 : decode cX9_varsOf 32 = .ok (.ior, 1) := by decide +kernel
theorem dX9_varsOf_33 : decode cX9_varsOf 33 = .ok (.istore_n 2, 1) := by decide +kernel
theorem dX9_varsOf_34 : decode cX9_varsOf 34 = .ok (.iinc 3 1, 3) := by decide +kernel
theorem dX9_varsOf_37 : decode cX9_varsOf 37 = .ok (.goto (-33), 3) := by decide +kernel
theorem dX9_varsOf_40 : decode cX9_varsOf 40 = .ok (.iload_n 2, 1) := by decide +kernel
theorem dX9_varsOf_41 : decode cX9_varsOf 41 = .ok (.ireturn, 1) := by decide +kernel
theorem dX9_placesOf_0 : decode cX9_placesOf 0 = .ok (.iconst 0, 1) := by decide +kernel
theorem dX9_placesOf_1 : decode cX9_placesOf 1 = .ok (.istore_n 2, 1) := by decide +kernel
theorem dX9_placesOf_2 : decode cX9_placesOf 2 = .ok (.iconst 0, 1) := by decide +kernel
theorem dX9_placesOf_3 : decode cX9_placesOf 3 = .ok (.istore_n 3, 1) := by decide +kernel
theorem dX9_placesOf_4 : decode cX9_placesOf 4 = .ok (.iload_n 3, 1) := by decide +kernel
theorem dX9_placesOf_5 : decode cX9_placesOf 5 = .ok (.aload_n 0, 1) := by decide +kernel
theorem dX9_placesOf_6 : decode cX9_placesOf 6 = .ok (.getfield 33, 3) := by decide +kernel
theorem dX9_placesOf_9 : decode cX9_placesOf 9 = .ok (.getfield 50, 3) := by decide +kernel
theorem dX9_placesOf_12 : decode cX9_placesOf 12 = .ok (.if_icmp .ge 25, 3) := by decide +kernel
theorem dX9_placesOf_15 : decode cX9_placesOf 15 = .ok (.aload_n 0, 1) := by decide +kernel
theorem dX9_placesOf_16 : decode cX9_placesOf 16 = .ok (.getfield 33, 3) := by decide +kernel
theorem dX9_placesOf_19 : decode cX9_placesOf 19 = .ok (.iload_n 3, 1) := by decide +kernel
theorem dX9_placesOf_20 : decode cX9_placesOf 20 = .ok (.iconst 2, 1) := by decide +kernel
theorem dX9_placesOf_21 : decode cX9_placesOf 21 = .ok (.invokevirtual 53, 3) := by decide +kernel
theorem dX9_placesOf_24 : decode cX9_placesOf 24 = .ok (.iload_n 1, 1) := by decide +kernel
theorem dX9_placesOf_25 : decode cX9_placesOf 25 = .ok (.if_icmp .ne 6, 3) := by decide +kernel
theorem dX9_placesOf_28 : decode cX9_placesOf 28 = .ok (.iinc 2 1, 3) := by decide +kernel
theorem dX9_placesOf_31 : decode cX9_placesOf 31 = .ok (.iinc 3 1, 3) := by decide +kernel
theorem dX9_placesOf_34 : decode cX9_placesOf 34 = .ok (.goto (-30), 3) := by decide +kernel
theorem dX9_placesOf_37 : decode cX9_placesOf 37 = .ok (.iload_n 2, 1) := by decide +kernel
theorem dX9_placesOf_38 : decode cX9_placesOf 38 = .ok (.ireturn, 1) := by decide +kernel
theorem dX9_placeAt_0 : decode cX9_placeAt 0 = .ok (.iconst 0, 1) := by decide +kernel
theorem dX9_placeAt_1 : decode cX9_placeAt 1 = .ok (.istore_n 3, 1) := by decide +kernel
theorem dX9_placeAt_2 : decode cX9_placeAt 2 = .ok (.iload_n 3, 1) := by decide +kernel
theorem dX9_placeAt_3 : decode cX9_placeAt 3 = .ok (.aload_n 0, 1) := by decide +kernel
theorem dX9_placeAt_4 : decode cX9_placeAt 4 = .ok (.getfield 33, 3) := by decide +kernel
theorem dX9_placeAt_7 : decode cX9_placeAt 7 = .ok (.getfield 50, 3) := by decide +kernel
theorem dX9_placeAt_10 : decode cX9_placeAt 10 = .ok (.if_icmp .ge 50, 3) := by decide +kernel
theorem dX9_placeAt_13 : decode cX9_placeAt 13 = .ok (.aload_n 0, 1) := by decide +kernel
theorem dX9_placeAt_14 : decode cX9_placeAt 14 = .ok (.getfield 33, 3) := by decide +kernel
theorem dX9_placeAt_17 : decode cX9_placeAt 17 = .ok (.iload_n 3, 1) := by decide +kernel
theorem dX9_placeAt_18 : decode cX9_placeAt 18 = .ok (.iconst 2, 1) := by decide +kernel
theorem dX9_placeAt_19 : decode cX9_placeAt 19 = .ok (.invokevirtual 53, 3) := by decide +kernel
theorem dX9_placeAt_22 : decode cX9_placeAt 22 = .ok (.iload_n 1, 1) := by decide +kernel
theorem dX9_placeAt_23 : decode cX9_placeAt 23 = .ok (.if_icmp .ne 31, 3) := by decide +kernel
theorem dX9_placeAt_26 : decode cX9_placeAt 26 = .ok (.aload_n 0, 1) := by decide +kernel
theorem dX9_placeAt_27 : decode cX9_placeAt 27 = .ok (.getfield 33, 3) := by decide +kernel
theorem dX9_placeAt_30 : decode cX9_placeAt 30 = .ok (.iload_n 3, 1) := by decide +kernel
theorem dX9_placeAt_31 : decode cX9_placeAt 31 = .ok (.iconst 0, 1) := by decide +kernel
theorem dX9_placeAt_32 : decode cX9_placeAt 32 = .ok (.invokevirtual 53, 3) := by decide +kernel
theorem dX9_placeAt_35 : decode cX9_placeAt 35 = .ok (.iload_n 2, 1) := by decide +kernel
theorem dX9_placeAt_36 : decode cX9_placeAt 36 = .ok (.if_icmp .gt 18, 3) := by decide +kernel
theorem dX9_placeAt_39 : decode cX9_placeAt 39 = .ok (.iload_n 2, 1) := by decide +kernel
theorem dX9_placeAt_40 : decode cX9_placeAt 40 = .ok (.aload_n 0, 1) := by decide +kernel
theorem dX9_placeAt_41 : decode cX9_placeAt 41 = .ok (.getfield 33, 3) := by decide +kernel
theorem dX9_placeAt_44 : decode cX9_placeAt 44 = .ok (.iload_n 3, 1) := by decide +kernel
theorem dX9_placeAt_45 : decode cX9_placeAt 45 = .ok (.iconst 1, 1) := by decide +kernel
theorem dX9_placeAt_46 : decode cX9_placeAt 46 = .ok (.invokevirtual 53, 3) := by decide +kernel
theorem dX9_placeAt_49 : decode cX9_placeAt 49 = .ok (.if_icmp .ge 5, 3) := by decide +kernel
theorem dX9_placeAt_52 : decode cX9_placeAt 52 = .ok (.iload_n 3, 1) := by decide +kernel
theorem dX9_placeAt_53 : decode cX9_placeAt 53 = .ok (.ireturn, 1) := by decide +kernel
theorem dX9_placeAt_54 : decode cX9_placeAt 54 = .ok (.iinc 3 1, 3) := by decide +kernel
theorem dX9_placeAt_57 : decode cX9_placeAt 57 = .ok (.goto (-55), 3) := by decide +kernel
theorem dX9_placeAt_60 : decode cX9_placeAt 60 = .ok (.iconst (-1), 1) := by decide +kernel
theorem dX9_placeAt_61 : decode cX9_placeAt 61 = .ok (.ireturn, 1) := by decide +kernel
theorem dX9_isPlaceTaken_0 : decode cX9_isPlaceTaken 0 = .ok (.aload_n 0, 1) := by decide +kernel
theorem dX9_isPlaceTaken_1 : decode cX9_isPlaceTaken 1 = .ok (.getfield 30, 3) := by decide +kernel
theorem dX9_isPlaceTaken_4 : decode cX9_isPlaceTaken 4 = .ok (.iload_n 1, 1) := by decide +kernel
theorem dX9_isPlaceTaken_5 : decode cX9_isPlaceTaken 5 = .ok (.iconst 0, 1) := by decide +kernel
theorem dX9_isPlaceTaken_6 : decode cX9_isPlaceTaken 6 = .ok (.invokevirtual 53, 3) := by decide +kernel
theorem dX9_isPlaceTaken_9 : decode cX9_isPlaceTaken 9 = .ok (.istore 4, 2) := by decide +kernel
theorem dX9_isPlaceTaken_11 : decode cX9_isPlaceTaken 11 = .ok (.iload_n 2, 1) := by decide +kernel
theorem dX9_isPlaceTaken_12 : decode cX9_isPlaceTaken 12 = .ok (.aload_n 0, 1) := by decide +kernel
theorem dX9_isPlaceTaken_13 : decode cX9_isPlaceTaken 13 = .ok (.getfield 24, 3) := by decide +kernel
theorem dX9_isPlaceTaken_16 : decode cX9_isPlaceTaken 16 = .ok (.iload 4, 2) := by decide +kernel
theorem dX9_isPlaceTaken_18 : decode cX9_isPlaceTaken 18 = .ok (.iconst 0, 1) := by decide +kernel
theorem dX9_isPlaceTaken_19 : decode cX9_isPlaceTaken 19 = .ok (.invokevirtual 53, 3) := by decide +kernel
theorem dX9_isPlaceTaken_22 : decode cX9_isPlaceTaken 22 = .ok (.if_icmp .lt 17, 3) := by decide +kernel
theorem dX9_isPlaceTaken_25 : decode cX9_isPlaceTaken 25 = .ok (.iload_n 3, 1) := by decide +kernel
theorem dX9_isPlaceTaken_26 : decode cX9_isPlaceTaken 26 = .ok (.aload_n 0, 1) := by decide +kernel
theorem dX9_isPlaceTaken_27 : decode cX9_isPlaceTaken 27 = .ok (.getfield 24, 3) := by decide +kernel
theorem dX9_isPlaceTaken_30 : decode cX9_isPlaceTaken 30 = .ok (.iload 4, 2) := by decide +kernel
theorem dX9_isPlaceTaken_32 : decode cX9_isPlaceTaken 32 = .ok (.iconst 1, 1) := by decide +kernel
theorem dX9_isPlaceTaken_33 : decode cX9_isPlaceTaken 33 = .ok (.invokevirtual 53, 3) := by decide +kernel
theorem dX9_isPlaceTaken_36 : decode cX9_isPlaceTaken 36 = .ok (.if_icmp .le 5, 3) := by decide +kernel
theorem dX9_isPlaceTaken_39 : decode cX9_isPlaceTaken 39 = .ok (.iconst 1, 1) := by decide +kernel
theorem dX9_isPlaceTaken_40 : decode cX9_isPlaceTaken 40 = .ok (.ireturn, 1) := by decide +kernel
theorem dX9_isPlaceTaken_41 : decode cX9_isPlaceTaken 41 = .ok (.iconst 0, 1) := by decide +kernel
theorem dX9_isPlaceTaken_42 : decode cX9_isPlaceTaken 42 = .ok (.istore 5, 2) := by decide +kernel
theorem dX9_isPlaceTaken_44 : decode cX9_isPlaceTaken 44 = .ok (.iload 5, 2) := by decide +kernel
theorem dX9_isPlaceTaken_46 : decode cX9_isPlaceTaken 46 = .ok (.aload_n 0, 1) := by decide +kernel
theorem dX9_isPlaceTaken_47 : decode cX9_isPlaceTaken 47 = .ok (.getfield 33, 3) := by decide +kernel
theorem dX9_isPlaceTaken_50 : decode cX9_isPlaceTaken 50 = .ok (.getfield 50, 3) := by decide +kernel
theorem dX9_isPlaceTaken_53 : decode cX9_isPlaceTaken 53 = .ok (.if_icmp .ge 65, 3) := by decide +kernel
theorem dX9_isPlaceTaken_56 : decode cX9_isPlaceTaken 56 = .ok (.iload_n 3, 1) := by decide +kernel
theorem dX9_isPlaceTaken_57 : decode cX9_isPlaceTaken 57 = .ok (.aload_n 0, 1) := by decide +kernel
theorem dX9_isPlaceTaken_58 : decode cX9_isPlaceTaken 58 = .ok (.getfield 33, 3) := by decide +kernel
theorem dX9_isPlaceTaken_61 : decode cX9_isPlaceTaken 61 = .ok (.iload 5, 2) := by decide +kernel
theorem dX9_isPlaceTaken_63 : decode cX9_isPlaceTaken 63 = .ok (.iconst 0, 1) := by decide +kernel
theorem dX9_isPlaceTaken_64 : decode cX9_isPlaceTaken 64 = .ok (.invokevirtual 53, 3) := by decide +kernel
theorem dX9_isPlaceTaken_67 : decode cX9_isPlaceTaken 67 = .ok (.if_icmp .le 17, 3) := by decide +kernel
theorem dX9_isPlaceTaken_70 : decode cX9_isPlaceTaken 70 = .ok (.aload_n 0, 1) := by decide +kernel
theorem dX9_isPlaceTaken_71 : decode cX9_isPlaceTaken 71 = .ok (.getfield 33, 3) := by decide +kernel
theorem dX9_isPlaceTaken_74 : decode cX9_isPlaceTaken 74 = .ok (.iload 5, 2) := by decide +kernel
theorem dX9_isPlaceTaken_76 : decode cX9_isPlaceTaken 76 = .ok (.iconst 1, 1) := by decide +kernel
theorem dX9_isPlaceTaken_77 : decode cX9_isPlaceTaken 77 = .ok (.invokevirtual 53, 3) := by decide +kernel
theorem dX9_isPlaceTaken_80 : decode cX9_isPlaceTaken 80 = .ok (.iload_n 2, 1) := by decide +kernel
theorem dX9_isPlaceTaken_81 : decode cX9_isPlaceTaken 81 = .ok (.if_icmp .gt 7, 3) := by decide +kernel
theorem dX9_isPlaceTaken_84 : decode cX9_isPlaceTaken 84 = .ok (.iconst 1, 1) := by decide +kernel
theorem dX9_isPlaceTaken_85 : decode cX9_isPlaceTaken 85 = .ok (.goto 4, 3) := by decide +kernel
theorem dX9_isPlaceTaken_88 : decode cX9_isPlaceTaken 88 = .ok (.iconst 0, 1) := by decide +kernel
theorem dX9_isPlaceTaken_89 : decode cX9_isPlaceTaken 89 = .ok (.istore 6, 2) := by decide +kernel
theorem dX9_isPlaceTaken_91 : decode cX9_isPlaceTaken 91 = .ok (.aload_n 0, 1) := by decide +kernel
theorem dX9_isPlaceTaken_92 : decode cX9_isPlaceTaken 92 = .ok (.getfield 33, 3) := by decide +kernel
theorem dX9_isPlaceTaken_95 : decode cX9_isPlaceTaken 95 = .ok (.iload 5, 2) := by decide +kernel
theorem dX9_isPlaceTaken_97 : decode cX9_isPlaceTaken 97 = .ok (.iconst 2, 1) := by decide +kernel
theorem dX9_isPlaceTaken_98 : decode cX9_isPlaceTaken 98 = .ok (.invokevirtual 53, 3) := by decide +kernel
theorem dX9_isPlaceTaken_101 : decode cX9_isPlaceTaken 101 = .ok (.iload_n 1, 1) := by decide +kernel
theorem dX9_isPlaceTaken_102 : decode cX9_isPlaceTaken 102 = .ok (.if_icmp .ne 10, 3) := by decide +kernel
theorem dX9_isPlaceTaken_105 : decode cX9_isPlaceTaken 105 = .ok (.iload 6, 2) := by decide +kernel
theorem dX9_isPlaceTaken_107 : decode cX9_isPlaceTaken 107 = .ok (.ifCond .ne 5, 3) := by decide +kernel
theorem dX9_isPlaceTaken_110 : decode cX9_isPlaceTaken 110 = .ok (.iconst 1, 1) := by decide +kernel
theorem dX9_isPlaceTaken_111 : decode cX9_isPlaceTaken 111 = .ok (.ireturn, 1) := by decide +kernel
theorem dX9_isPlaceTaken_112 : decode cX9_isPlaceTaken 112 = .ok (.iinc 5 1, 3) := by decide +kernel
theorem dX9_isPlaceTaken_115 : decode cX9_isPlaceTaken 115 = .ok (.goto (-71), 3) := by decide +kernel
theorem dX9_isPlaceTaken_118 : decode cX9_isPlaceTaken 118 = .ok (.iconst 0, 1) := by decide +kernel
theorem dX9_isPlaceTaken_119 : decode cX9_isPlaceTaken 119 = .ok (.ireturn, 1) := by decide +kernel
theorem dX9_covered_0 : decode cX9_covered 0 = .ok (.iconst 0, 1) := by decide +kernel
theorem dX9_covered_1 : decode cX9_covered 1 = .ok (.istore_n 2, 1) := by decide +kernel
theorem dX9_covered_2 : decode cX9_covered 2 = .ok (.iconst 0, 1) := by decide +kernel
theorem dX9_covered_3 : decode cX9_covered 3 = .ok (.istore_n 3, 1) := by decide +kernel
theorem dX9_covered_4 : decode cX9_covered 4 = .ok (.iload_n 3, 1) := by decide +kernel
theorem dX9_covered_5 : decode cX9_covered 5 = .ok (.aload_n 0, 1) := by decide +kernel
theorem dX9_covered_6 : decode cX9_covered 6 = .ok (.getfield 33, 3) := by decide +kernel
theorem dX9_covered_9 : decode cX9_covered 9 = .ok (.getfield 50, 3) := by decide +kernel
theorem dX9_covered_12 : decode cX9_covered 12 = .ok (.if_icmp .ge 44, 3) := by decide +kernel
theorem dX9_covered_15 : decode cX9_covered 15 = .ok (.aload_n 0, 1) := by decide +kernel
theorem dX9_covered_16 : decode cX9_covered 16 = .ok (.getfield 33, 3) := by decide +kernel
theorem dX9_covered_19 : decode cX9_covered 19 = .ok (.iload_n 3, 1) := by decide +kernel
theorem dX9_covered_20 : decode cX9_covered 20 = .ok (.iconst 2, 1) := by decide +kernel
theorem dX9_covered_21 : decode cX9_covered 21 = .ok (.invokevirtual 53, 3) := by decide +kernel
theorem dX9_covered_24 : decode cX9_covered 24 = .ok (.iload_n 1, 1) := by decide +kernel
theorem dX9_covered_25 : decode cX9_covered 25 = .ok (.if_icmp .ne 25, 3) := by decide +kernel
theorem dX9_covered_28 : decode cX9_covered 28 = .ok (.iload_n 2, 1) := by decide +kernel
theorem dX9_covered_29 : decode cX9_covered 29 = .ok (.aload_n 0, 1) := by decide +kernel
theorem dX9_covered_30 : decode cX9_covered 30 = .ok (.getfield 33, 3) := by decide +kernel
theorem dX9_covered_33 : decode cX9_covered 33 = .ok (.iload_n 3, 1) := by decide +kernel
theorem dX9_covered_34 : decode cX9_covered 34 = .ok (.iconst 1, 1) := by decide +kernel
theorem dX9_covered_35 : decode cX9_covered 35 = .ok (.invokevirtual 53, 3) := by decide +kernel
theorem dX9_covered_38 : decode cX9_covered 38 = .ok (.aload_n 0, 1) := by decide +kernel
theorem dX9_covered_39 : decode cX9_covered 39 = .ok (.getfield 33, 3) := by decide +kernel
theorem dX9_covered_42 : decode cX9_covered 42 = .ok (.iload_n 3, 1) := by decide +kernel
theorem dX9_covered_43 : decode cX9_covered 43 = .ok (.iconst 0, 1) := by decide +kernel
theorem dX9_covered_44 : decode cX9_covered 44 = .ok (.invokevirtual 53, 3) := by decide +kernel
theorem dX9_covered_47 : decode cX9_covered 47 = .ok (.isub, 1) := by decide +kernel
theorem dX9_covered_48 : decode cX9_covered 48 = .ok (.iadd, 1) := by decide +kernel
theorem dX9_covered_49 : decode cX9_covered 49 = .ok (.istore_n 2, 1) := by decide +kernel
theorem dX9_covered_50 : decode cX9_covered 50 = .ok (.iinc 3 1, 3) := by decide +kernel
theorem dX9_covered_53 : decode cX9_covered 53 = .ok (.goto (-49), 3) := by decide +kernel
theorem dX9_covered_56 : decode cX9_covered 56 = .ok (.iload_n 2, 1) := by decide +kernel
theorem dX9_covered_57 : decode cX9_covered 57 = .ok (.ireturn, 1) := by decide +kernel
theorem dX9_bitsOf_0 : decode cX9_bitsOf 0 = .ok (.aload_n 0, 1) := by decide +kernel
theorem dX9_bitsOf_1 : decode cX9_bitsOf 1 = .ok (.getfield 30, 3) := by decide +kernel
theorem dX9_bitsOf_4 : decode cX9_bitsOf 4 = .ok (.iload_n 1, 1) := by decide +kernel
theorem dX9_bitsOf_5 : decode cX9_bitsOf 5 = .ok (.iconst 1, 1) := by decide +kernel
theorem dX9_bitsOf_6 : decode cX9_bitsOf 6 = .ok (.invokevirtual 53, 3) := by decide +kernel
theorem dX9_bitsOf_9 : decode cX9_bitsOf 9 = .ok (.istore_n 3, 1) := by decide +kernel
theorem dX9_bitsOf_10 : decode cX9_bitsOf 10 = .ok (.aload_n 0, 1) := by decide +kernel
theorem dX9_bitsOf_11 : decode cX9_bitsOf 11 = .ok (.getfield 27, 3) := by decide +kernel
theorem dX9_bitsOf_14 : decode cX9_bitsOf 14 = .ok (.iload_n 3, 1) := by decide +kernel
theorem dX9_bitsOf_15 : decode cX9_bitsOf 15 = .ok (.iconst 1, 1) := by decide +kernel
theorem dX9_bitsOf_16 : decode cX9_bitsOf 16 = .ok (.invokevirtual 53, 3) := by decide +kernel
theorem dX9_bitsOf_19 : decode cX9_bitsOf 19 = .ok (.istore 4, 2) := by decide +kernel
theorem dX9_bitsOf_21 : decode cX9_bitsOf 21 = .ok (.iload_n 2, 1) := by decide +kernel
theorem dX9_bitsOf_22 : decode cX9_bitsOf 22 = .ok (.aload_n 0, 1) := by decide +kernel
theorem dX9_bitsOf_23 : decode cX9_bitsOf 23 = .ok (.getfield 27, 3) := by decide +kernel
theorem dX9_bitsOf_26 : decode cX9_bitsOf 26 = .ok (.iload_n 3, 1) := by decide +kernel
theorem dX9_bitsOf_27 : decode cX9_bitsOf 27 = .ok (.iconst 0, 1) := by decide +kernel
theorem dX9_bitsOf_28 : decode cX9_bitsOf 28 = .ok (.invokevirtual 53, 3) := by decide +kernel
theorem dX9_bitsOf_31 : decode cX9_bitsOf 31 = .ok (.iushr, 1) := by decide +kernel
theorem dX9_bitsOf_32 : decode cX9_bitsOf 32 = .ok (.iconst 1, 1) := by decide +kernel
theorem dX9_bitsOf_33 : decode cX9_bitsOf 33 = .ok (.iload 4, 2) := by decide +kernel
theorem dX9_bitsOf_35 : decode cX9_bitsOf 35 = .ok (.ishl, 1) := by decide +kernel
theorem dX9_bitsOf_36 : decode cX9_bitsOf 36 = .ok (.iconst 1, 1) := by decide +kernel
theorem dX9_bitsOf_37 : decode cX9_bitsOf 37 = .ok (.isub, 1) := by decide +kernel
theorem dX9_bitsOf_38 : decode cX9_bitsOf 38 = .ok (.iand, 1) := by decide +kernel
theorem dX9_bitsOf_39 : decode cX9_bitsOf 39 = .ok (.istore 5, 2) := by decide +kernel
theorem dX9_bitsOf_41 : decode cX9_bitsOf 41 = .ok (.aload_n 0, 1) := by decide +kernel
theorem dX9_bitsOf_42 : decode cX9_bitsOf 42 = .ok (.getfield 27, 3) := by decide +kernel
theorem dX9_bitsOf_45 : decode cX9_bitsOf 45 = .ok (.iload_n 3, 1) := by decide +kernel
theorem dX9_bitsOf_46 : decode cX9_bitsOf 46 = .ok (.iconst 2, 1) := by decide +kernel
theorem dX9_bitsOf_47 : decode cX9_bitsOf 47 = .ok (.invokevirtual 53, 3) := by decide +kernel
theorem dX9_bitsOf_50 : decode cX9_bitsOf 50 = .ok (.iconst 1, 1) := by decide +kernel
theorem dX9_bitsOf_51 : decode cX9_bitsOf 51 = .ok (.if_icmp .ne 20, 3) := by decide +kernel
theorem dX9_bitsOf_54 : decode cX9_bitsOf 54 = .ok (.iload 5, 2) := by decide +kernel
theorem dX9_bitsOf_56 : decode cX9_bitsOf 56 = .ok (.iload 4, 2) := by decide +kernel
theorem dX9_bitsOf_58 : decode cX9_bitsOf 58 = .ok (.iconst 1, 1) := by decide +kernel
theorem dX9_bitsOf_59 : decode cX9_bitsOf 59 = .ok (.isub, 1) := by decide +kernel
theorem dX9_bitsOf_60 : decode cX9_bitsOf 60 = .ok (.iushr, 1) := by decide +kernel
theorem dX9_bitsOf_61 : decode cX9_bitsOf 61 = .ok (.iconst 1, 1) := by decide +kernel
theorem dX9_bitsOf_62 : decode cX9_bitsOf 62 = .ok (.iand, 1) := by decide +kernel
theorem dX9_bitsOf_63 : decode cX9_bitsOf 63 = .ok (.iconst 1, 1) := by decide +kernel
theorem dX9_bitsOf_64 : decode cX9_bitsOf 64 = .ok (.if_icmp .ne 7, 3) := by decide +kernel
theorem dX9_bitsOf_67 : decode cX9_bitsOf 67 = .ok (.iconst 1, 1) := by decide +kernel
theorem dX9_bitsOf_68 : decode cX9_bitsOf 68 = .ok (.goto 4, 3) := by decide +kernel
theorem dX9_bitsOf_71 : decode cX9_bitsOf 71 = .ok (.iconst 0, 1) := by decide +kernel
theorem dX9_bitsOf_72 : decode cX9_bitsOf 72 = .ok (.istore 6, 2) := by decide +kernel
theorem dX9_bitsOf_74 : decode cX9_bitsOf 74 = .ok (.iload 6, 2) := by decide +kernel
theorem dX9_bitsOf_76 : decode cX9_bitsOf 76 = .ok (.ifCond .eq 13, 3) := by decide +kernel
theorem dX9_bitsOf_79 : decode cX9_bitsOf 79 = .ok (.iload 5, 2) := by decide +kernel
theorem dX9_bitsOf_81 : decode cX9_bitsOf 81 = .ok (.iconst 1, 1) := by decide +kernel
theorem dX9_bitsOf_82 : decode cX9_bitsOf 82 = .ok (.iload 4, 2) := by decide +kernel
theorem dX9_bitsOf_84 : decode cX9_bitsOf 84 = .ok (.ishl, 1) := by decide +kernel
theorem dX9_bitsOf_85 : decode cX9_bitsOf 85 = .ok (.isub, 1) := by decide +kernel
theorem dX9_bitsOf_86 : decode cX9_bitsOf 86 = .ok (.goto 5, 3) := by decide +kernel
theorem dX9_bitsOf_89 : decode cX9_bitsOf 89 = .ok (.iload 5, 2) := by decide +kernel
theorem dX9_bitsOf_91 : decode cX9_bitsOf 91 = .ok (.ireturn, 1) := by decide +kernel
theorem dX9_stepTo_0 : decode cX9_stepTo 0 = .ok (.aload_n 0, 1) := by decide +kernel
theorem dX9_stepTo_1 : decode cX9_stepTo 1 = .ok (.iload_n 1, 1) := by decide +kernel
theorem dX9_stepTo_2 : decode cX9_stepTo 2 = .ok (.invokevirtual 65, 3) := by decide +kernel
theorem dX9_stepTo_5 : decode cX9_stepTo 5 = .ok (.istore_n 2, 1) := by decide +kernel
theorem dX9_stepTo_6 : decode cX9_stepTo 6 = .ok (.aload_n 0, 1) := by decide +kernel
theorem dX9_stepTo_7 : decode cX9_stepTo 7 = .ok (.getfield 20, 3) := by decide +kernel
theorem dX9_stepTo_10 : decode cX9_stepTo 10 = .ok (.iload_n 2, 1) := by decide +kernel
theorem dX9_stepTo_11 : decode cX9_stepTo 11 = .ok (.iconst 1, 1) := by decide +kernel
theorem dX9_stepTo_12 : decode cX9_stepTo 12 = .ok (.invokevirtual 53, 3) := by decide +kernel
theorem dX9_stepTo_15 : decode cX9_stepTo 15 = .ok (.istore_n 3, 1) := by decide +kernel
theorem dX9_stepTo_16 : decode cX9_stepTo 16 = .ok (.aload_n 0, 1) := by decide +kernel
theorem dX9_stepTo_17 : decode cX9_stepTo 17 = .ok (.iload_n 1, 1) := by decide +kernel
theorem dX9_stepTo_18 : decode cX9_stepTo 18 = .ok (.iconst (-1), 1) := by decide +kernel
theorem dX9_stepTo_19 : decode cX9_stepTo 19 = .ok (.invokevirtual 79, 3) := by decide +kernel
theorem dX9_stepTo_22 : decode cX9_stepTo 22 = .ok (.istore 4, 2) := by decide +kernel
theorem dX9_stepTo_24 : decode cX9_stepTo 24 = .ok (.iload_n 2, 1) := by decide +kernel
theorem dX9_stepTo_25 : decode cX9_stepTo 25 = .ok (.iconst 1, 1) := by decide +kernel
theorem dX9_stepTo_26 : decode cX9_stepTo 26 = .ok (.iadd, 1) := by decide +kernel
theorem dX9_stepTo_27 : decode cX9_stepTo 27 = .ok (.istore 5, 2) := by decide +kernel
theorem dX9_stepTo_29 : decode cX9_stepTo 29 = .ok (.iload 5, 2) := by decide +kernel
theorem dX9_stepTo_31 : decode cX9_stepTo 31 = .ok (.aload_n 0, 1) := by decide +kernel
theorem dX9_stepTo_32 : decode cX9_stepTo 32 = .ok (.getfield 20, 3) := by decide +kernel
theorem dX9_stepTo_35 : decode cX9_stepTo 35 = .ok (.getfield 50, 3) := by decide +kernel
theorem dX9_stepTo_38 : decode cX9_stepTo 38 = .ok (.if_icmp .ge 71, 3) := by decide +kernel
theorem dX9_stepTo_41 : decode cX9_stepTo 41 = .ok (.iload 4, 2) := by decide +kernel
theorem dX9_stepTo_43 : decode cX9_stepTo 43 = .ok (.iconst (-1), 1) := by decide +kernel
theorem dX9_stepTo_44 : decode cX9_stepTo 44 = .ok (.if_icmp .eq 26, 3) := by decide +kernel
theorem dX9_stepTo_47 : decode cX9_stepTo 47 = .ok (.aload_n 0, 1) := by decide +kernel
theorem dX9_stepTo_48 : decode cX9_stepTo 48 = .ok (.iload 4, 2) := by decide +kernel
theorem dX9_stepTo_50 : decode cX9_stepTo 50 = .ok (.aload_n 0, 1) := by decide +kernel
theorem dX9_stepTo_51 : decode cX9_stepTo 51 = .ok (.getfield 20, 3) := by decide +kernel
theorem dX9_stepTo_54 : decode cX9_stepTo 54 = .ok (.iload 5, 2) := by decide +kernel
theorem dX9_stepTo_56 : decode cX9_stepTo 56 = .ok (.iconst 0, 1) := by decide +kernel
theorem dX9_stepTo_57 : decode cX9_stepTo 57 = .ok (.invokevirtual 53, 3) := by decide +kernel
theorem dX9_stepTo_60 : decode cX9_stepTo 60 = .ok (.invokevirtual 75, 3) := by decide +kernel
theorem dX9_stepTo_63 : decode cX9_stepTo 63 = .ok (.ifCond .ne 7, 3) := by decide +kernel
theorem dX9_stepTo_66 : decode cX9_stepTo 66 = .ok (.iconst 1, 1) := by decide +kernel
theorem dX9_stepTo_67 : decode cX9_stepTo 67 = .ok (.goto 4, 3) := by decide +kernel
theorem dX9_stepTo_70 : decode cX9_stepTo 70 = .ok (.iconst 0, 1) := by decide +kernel
theorem dX9_stepTo_71 : decode cX9_stepTo 71 = .ok (.istore 6, 2) := by decide +kernel
theorem dX9_stepTo_73 : decode cX9_stepTo 73 = .ok (.aload_n 0, 1) := by decide +kernel
theorem dX9_stepTo_74 : decode cX9_stepTo 74 = .ok (.getfield 20, 3) := by decide +kernel
theorem dX9_stepTo_77 : decode cX9_stepTo 77 = .ok (.iload 5, 2) := by decide +kernel
theorem dX9_stepTo_79 : decode cX9_stepTo 79 = .ok (.iconst 1, 1) := by decide +kernel
theorem dX9_stepTo_80 : decode cX9_stepTo 80 = .ok (.invokevirtual 53, 3) := by decide +kernel
theorem dX9_stepTo_83 : decode cX9_stepTo 83 = .ok (.iload_n 3, 1) := by decide +kernel
theorem dX9_stepTo_84 : decode cX9_stepTo 84 = .ok (.if_icmp .ne 8, 3) := by decide +kernel
theorem dX9_stepTo_87 : decode cX9_stepTo 87 = .ok (.iload 6, 2) := by decide +kernel
theorem dX9_stepTo_89 : decode cX9_stepTo 89 = .ok (.ifCond .eq 14, 3) := by decide +kernel
theorem dX9_stepTo_92 : decode cX9_stepTo 92 = .ok (.aload_n 0, 1) := by decide +kernel
theorem dX9_stepTo_93 : decode cX9_stepTo 93 = .ok (.getfield 20, 3) := by decide +kernel
theorem dX9_stepTo_96 : decode cX9_stepTo 96 = .ok (.iload 5, 2) := by decide +kernel
theorem dX9_stepTo_98 : decode cX9_stepTo 98 = .ok (.iconst 0, 1) := by decide +kernel
theorem dX9_stepTo_99 : decode cX9_stepTo 99 = .ok (.invokevirtual 53, 3) := by decide +kernel
theorem dX9_stepTo_102 : decode cX9_stepTo 102 = .ok (.ireturn, 1) := by decide +kernel
theorem dX9_stepTo_103 : decode cX9_stepTo 103 = .ok (.iinc 5 1, 3) := by decide +kernel
theorem dX9_stepTo_106 : decode cX9_stepTo 106 = .ok (.goto (-77), 3) := by decide +kernel
theorem dX9_stepTo_109 : decode cX9_stepTo 109 = .ok (.iconst (-1), 1) := by decide +kernel
theorem dX9_stepTo_110 : decode cX9_stepTo 110 = .ok (.ireturn, 1) := by decide +kernel
theorem dX10_init_0 : decode cX10_init 0 = .ok (.aload_n 0, 1) := by decide +kernel
theorem dX10_init_1 : decode cX10_init 1 = .ok (.invokespecial 3, 3) := by decide +kernel
theorem dX10_init_4 : decode cX10_init 4 = .ok (.aload_n 0, 1) := by decide +kernel
theorem dX10_init_5 : decode cX10_init 5 = .ok (.new 9, 3) := by decide +kernel
theorem dX10_init_8 : decode cX10_init 8 = .ok (.dup, 1) := by decide +kernel
theorem dX10_init_9 : decode cX10_init 9 = .ok (.invokespecial 11, 3) := by decide +kernel
theorem dX10_init_12 : decode cX10_init 12 = .ok (.putfield 12, 3) := by decide +kernel
theorem dX10_init_15 : decode cX10_init 15 = .ok (.aload_n 0, 1) := by decide +kernel
theorem dX10_init_16 : decode cX10_init 16 = .ok (.iconst 0, 1) := by decide +kernel
theorem dX10_init_17 : decode cX10_init 17 = .ok (.putfield 18, 3) := by decide +kernel
theorem dX10_init_20 : decode cX10_init 20 = .ok (.aload_n 0, 1) := by decide +kernel
theorem dX10_init_21 : decode cX10_init 21 = .ok (.iconst 0, 1) := by decide +kernel
theorem dX10_init_22 : decode cX10_init 22 = .ok (.putfield 22, 3) := by decide +kernel
theorem dX10_init_25 : decode cX10_init 25 = .ok (.return_, 1) := by decide +kernel
theorem dX10_readUnit_0 : decode cX10_readUnit 0 = .ok (.aload_n 0, 1) := by decide +kernel
theorem dX10_readUnit_1 : decode cX10_readUnit 1 = .ok (.getfield 12, 3) := by decide +kernel
theorem dX10_readUnit_4 : decode cX10_readUnit 4 = .ok (.invokevirtual 25, 3) := by decide +kernel
theorem dX10_readUnit_7 : decode cX10_readUnit 7 = .ok (.aload_n 0, 1) := by decide +kernel
theorem dX10_readUnit_8 : decode cX10_readUnit 8 = .ok (.iconst 0, 1) := by decide +kernel
theorem dX10_readUnit_9 : decode cX10_readUnit 9 = .ok (.putfield 18, 3) := by decide +kernel
theorem dX10_readUnit_12 : decode cX10_readUnit 12 = .ok (.aload_n 1, 1) := by decide +kernel
theorem dX10_readUnit_13 : decode cX10_readUnit 13 = .ok (.sipush 900, 3) := by decide +kernel
theorem dX10_readUnit_16 : decode cX10_readUnit 16 = .ok (.invokevirtual 28, 3) := by decide +kernel
theorem dX10_readUnit_19 : decode cX10_readUnit 19 = .ok (.iconst 0, 1) := by decide +kernel
theorem dX10_readUnit_20 : decode cX10_readUnit 20 = .ok (.istore_n 2, 1) := by decide +kernel
theorem dX10_readUnit_21 : decode cX10_readUnit 21 = .ok (.iload_n 2, 1) := by decide +kernel
theorem dX10_readUnit_22 : decode cX10_readUnit 22 = .ok (.sipush 900, 3) := by decide +kernel
theorem dX10_readUnit_25 : decode cX10_readUnit 25 = .ok (.if_icmp .ge 145, 3) := by decide +kernel
theorem dX10_readUnit_28 : decode cX10_readUnit 28 = .ok (.aload_n 1, 1) := by decide +kernel
theorem dX10_readUnit_29 : decode cX10_readUnit 29 = .ok (.getfield 34, 3) := by decide +kernel
theorem dX10_readUnit_32 : decode cX10_readUnit 32 = .ok (.ifCond .eq 138, 3) := by decide +kernel
theorem dX10_readUnit_35 : decode cX10_readUnit 35 = .ok (.aload_n 1, 1) := by decide +kernel
theorem dX10_readUnit_36 : decode cX10_readUnit 36 = .ok (.invokevirtual 37, 3) := by decide +kernel
theorem dX10_readUnit_39 : decode cX10_readUnit 39 = .ok (.tableswitch 91 0 5 #[37, 46, 55, 64, 73, 82], 37) := by decide +kernel
theorem dX10_readUnit_76 : decode cX10_readUnit 76 = .ok (.aload_n 0, 1) := by decide +kernel
theorem dX10_readUnit_77 : decode cX10_readUnit 77 = .ok (.aload_n 1, 1) := by decide +kernel
theorem dX10_readUnit_78 : decode cX10_readUnit 78 = .ok (.invokevirtual 41, 3) := by decide +kernel
theorem dX10_readUnit_81 : decode cX10_readUnit 81 = .ok (.istore_n 3, 1) := by decide +kernel
theorem dX10_readUnit_82 : decode cX10_readUnit 82 = .ok (.goto 54, 3) := by decide +kernel
theorem dX10_readUnit_85 : decode cX10_readUnit 85 = .ok (.aload_n 0, 1) := by decide +kernel
theorem dX10_readUnit_86 : decode cX10_readUnit 86 = .ok (.aload_n 1, 1) := by decide +kernel
theorem dX10_readUnit_87 : decode cX10_readUnit 87 = .ok (.invokevirtual 45, 3) := by decide +kernel
theorem dX10_readUnit_90 : decode cX10_readUnit 90 = .ok (.istore_n 3, 1) := by decide +kernel
theorem dX10_readUnit_91 : decode cX10_readUnit 91 = .ok (.goto 45, 3) := by decide +kernel
theorem dX10_readUnit_94 : decode cX10_readUnit 94 = .ok (.aload_n 0, 1) := by decide +kernel
theorem dX10_readUnit_95 : decode cX10_readUnit 95 = .ok (.aload_n 1, 1) := by decide +kernel
theorem dX10_readUnit_96 : decode cX10_readUnit 96 = .ok (.invokevirtual 48, 3) := by decide +kernel
theorem dX10_readUnit_99 : decode cX10_readUnit 99 = .ok (.istore_n 3, 1) := by decide +kernel
theorem dX10_readUnit_100 : decode cX10_readUnit 100 = .ok (.goto 36, 3) := by decide +kernel
theorem dX10_readUnit_103 : decode cX10_readUnit 103 = .ok (.aload_n 0, 1) := by decide +kernel
theorem dX10_readUnit_104 : decode cX10_readUnit 104 = .ok (.aload_n 1, 1) := by decide +kernel
theorem dX10_readUnit_105 : decode cX10_readUnit 105 = .ok (.invokevirtual 51, 3) := by decide +kernel
theorem dX10_readUnit_108 : decode cX10_readUnit 108 = .ok (.istore_n 3, 1) := by decide +kernel
theorem dX10_readUnit_109 : decode cX10_readUnit 109 = .ok (.goto 27, 3) := by decide +kernel
theorem dX10_readUnit_112 : decode cX10_readUnit 112 = .ok (.aload_n 0, 1) := by decide +kernel
theorem dX10_readUnit_113 : decode cX10_readUnit 113 = .ok (.aload_n 1, 1) := by decide +kernel
theorem dX10_readUnit_114 : decode cX10_readUnit 114 = .ok (.invokevirtual 54, 3) := by decide +kernel
theorem dX10_readUnit_117 : decode cX10_readUnit 117 = .ok (.istore_n 3, 1) := by decide +kernel
theorem dX10_readUnit_118 : decode cX10_readUnit 118 = .ok (.goto 18, 3) := by decide +kernel
theorem dX10_readUnit_121 : decode cX10_readUnit 121 = .ok (.aload_n 0, 1) := by decide +kernel
theorem dX10_readUnit_122 : decode cX10_readUnit 122 = .ok (.aload_n 1, 1) := by decide +kernel
theorem dX10_readUnit_123 : decode cX10_readUnit 123 = .ok (.invokevirtual 57, 3) := by decide +kernel
theorem dX10_readUnit_126 : decode cX10_readUnit 126 = .ok (.istore_n 3, 1) := by decide +kernel
theorem dX10_readUnit_127 : decode cX10_readUnit 127 = .ok (.goto 9, 3) := by decide +kernel
theorem dX10_readUnit_130 : decode cX10_readUnit 130 = .ok (.aload_n 1, 1) := by decide +kernel
theorem dX10_readUnit_131 : decode cX10_readUnit 131 = .ok (.iconst 1, 1) := by decide +kernel
theorem dX10_readUnit_132 : decode cX10_readUnit 132 = .ok (.invokevirtual 60, 3) := by decide +kernel
theorem dX10_readUnit_135 : decode cX10_readUnit 135 = .ok (.istore_n 3, 1) := by decide +kernel
theorem dX10_readUnit_136 : decode cX10_readUnit 136 = .ok (.iload_n 3, 1) := by decide +kernel
theorem dX10_readUnit_137 : decode cX10_readUnit 137 = .ok (.ifCond .eq 12, 3) := by decide +kernel
theorem dX10_readUnit_140 : decode cX10_readUnit 140 = .ok (.aload_n 1, 1) := by decide +kernel
theorem dX10_readUnit_141 : decode cX10_readUnit 141 = .ok (.bipush 59, 2) := by decide +kernel
theorem dX10_readUnit_143 : decode cX10_readUnit 143 = .ok (.invokevirtual 64, 3) := by decide +kernel
theorem dX10_readUnit_146 : decode cX10_readUnit 146 = .ok (.ifCond .ne 8, 3) := by decide +kernel
theorem dX10_readUnit_149 : decode cX10_readUnit 149 = .ok (.aload_n 0, 1) := by decide +kernel
theorem dX10_readUnit_150 : decode cX10_readUnit 150 = .ok (.getfield 18, 3) := by decide +kernel
theorem dX10_readUnit_153 : decode cX10_readUnit 153 = .ok (.ireturn, 1) := by decide +kernel
theorem dX10_readUnit_154 : decode cX10_readUnit 154 = .ok (.aload_n 0, 1) := by decide +kernel
theorem dX10_readUnit_155 : decode cX10_readUnit 155 = .ok (.dup, 1) := by decide +kernel
theorem dX10_readUnit_156 : decode cX10_readUnit 156 = .ok (.getfield 18, 3) := by decide +kernel
theorem dX10_readUnit_159 : decode cX10_readUnit 159 = .ok (.iconst 1, 1) := by decide +kernel
theorem dX10_readUnit_160 : decode cX10_readUnit 160 = .ok (.iadd, 1) := by decide +kernel
theorem dX10_readUnit_161 : decode cX10_readUnit 161 = .ok (.putfield 18, 3) := by decide +kernel
theorem dX10_readUnit_164 : decode cX10_readUnit 164 = .ok (.iinc 2 1, 3) := by decide +kernel
theorem dX10_readUnit_167 : decode cX10_readUnit 167 = .ok (.goto (-146), 3) := by decide +kernel
theorem dX10_readUnit_170 : decode cX10_readUnit 170 = .ok (.aload_n 0, 1) := by decide +kernel
theorem dX10_readUnit_171 : decode cX10_readUnit 171 = .ok (.getfield 18, 3) := by decide +kernel
theorem dX10_readUnit_174 : decode cX10_readUnit 174 = .ok (.ireturn, 1) := by decide +kernel
theorem dX10_readSize_0 : decode cX10_readSize 0 = .ok (.aload_n 0, 1) := by decide +kernel
theorem dX10_readSize_1 : decode cX10_readSize 1 = .ok (.getfield 18, 3) := by decide +kernel
theorem dX10_readSize_4 : decode cX10_readSize 4 = .ok (.ifCond .le 9, 3) := by decide +kernel
theorem dX10_readSize_7 : decode cX10_readSize 7 = .ok (.aload_n 1, 1) := by decide +kernel
theorem dX10_readSize_8 : decode cX10_readSize 8 = .ok (.iconst 3, 1) := by decide +kernel
theorem dX10_readSize_9 : decode cX10_readSize 9 = .ok (.invokevirtual 60, 3) := by decide +kernel
theorem dX10_readSize_12 : decode cX10_readSize 12 = .ok (.ireturn, 1) := by decide +kernel
theorem dX10_readSize_13 : decode cX10_readSize 13 = .ok (.aload_n 1, 1) := by decide +kernel
theorem dX10_readSize_14 : decode cX10_readSize 14 = .ok (.invokevirtual 68, 3) := by decide +kernel
theorem dX10_readSize_17 : decode cX10_readSize 17 = .ok (.aload_n 1, 1) := by decide +kernel
theorem dX10_readSize_18 : decode cX10_readSize 18 = .ok (.iconst 1, 1) := by decide +kernel
theorem dX10_readSize_19 : decode cX10_readSize 19 = .ok (.sipush 256, 3) := by decide +kernel
theorem dX10_readSize_22 : decode cX10_readSize 22 = .ok (.invokevirtual 71, 3) := by decide +kernel
theorem dX10_readSize_25 : decode cX10_readSize 25 = .ok (.ifCond .ne 5, 3) := by decide +kernel
theorem dX10_readSize_28 : decode cX10_readSize 28 = .ok (.iconst 0, 1) := by decide +kernel
theorem dX10_readSize_29 : decode cX10_readSize 29 = .ok (.ireturn, 1) := by decide +kernel
theorem dX10_readSize_30 : decode cX10_readSize 30 = .ok (.aload_n 0, 1) := by decide +kernel
theorem dX10_readSize_31 : decode cX10_readSize 31 = .ok (.getfield 12, 3) := by decide +kernel
theorem dX10_readSize_34 : decode cX10_readSize 34 = .ok (.aload_n 1, 1) := by decide +kernel
theorem dX10_readSize_35 : decode cX10_readSize 35 = .ok (.getfield 75, 3) := by decide +kernel
theorem dX10_readSize_38 : decode cX10_readSize 38 = .ok (.putfield 78, 3) := by decide +kernel
theorem dX10_readSize_41 : decode cX10_readSize 41 = .ok (.aload_n 1, 1) := by decide +kernel
theorem dX10_readSize_42 : decode cX10_readSize 42 = .ok (.invokevirtual 68, 3) := by decide +kernel
theorem dX10_readSize_45 : decode cX10_readSize 45 = .ok (.iconst 1, 1) := by decide +kernel
theorem dX10_readSize_46 : decode cX10_readSize 46 = .ok (.ireturn, 1) := by decide +kernel
theorem dX10_beginSort_0 : decode cX10_beginSort 0 = .ok (.aload_n 2, 1) := by decide +kernel
theorem dX10_beginSort_1 : decode cX10_beginSort 1 = .ok (.invokevirtual 81, 3) := by decide +kernel
theorem dX10_beginSort_4 : decode cX10_beginSort 4 = .ok (.ifCond .eq 9, 3) := by decide +kernel
theorem dX10_beginSort_7 : decode cX10_beginSort 7 = .ok (.aload_n 1, 1) := by decide +kernel
theorem dX10_beginSort_8 : decode cX10_beginSort 8 = .ok (.iconst 4, 1) := by decide +kernel
theorem dX10_beginSort_9 : decode cX10_beginSort 9 = .ok (.invokevirtual 60, 3) := by decide +kernel
theorem dX10_beginSort_12 : decode cX10_beginSort 12 = .ok (.ireturn, 1) := by decide +kernel
theorem dX10_beginSort_13 : decode cX10_beginSort 13 = .ok (.aload_n 1, 1) := by decide +kernel
theorem dX10_beginSort_14 : decode cX10_beginSort 14 = .ok (.invokevirtual 68, 3) := by decide +kernel
theorem dX10_beginSort_17 : decode cX10_beginSort 17 = .ok (.iconst 1, 1) := by decide +kernel
theorem dX10_beginSort_18 : decode cX10_beginSort 18 = .ok (.ireturn, 1) := by decide +kernel
theorem dX10_readRow_0 : decode cX10_readRow 0 = .ok (.aload_n 0, 1) := by decide +kernel
theorem dX10_readRow_1 : decode cX10_readRow 1 = .ok (.aload_n 1, 1) := by decide +kernel
theorem dX10_readRow_2 : decode cX10_readRow 2 = .ok (.aload_n 0, 1) := by decide +kernel
theorem dX10_readRow_3 : decode cX10_readRow 3 = .ok (.getfield 12, 3) := by decide +kernel
theorem dX10_readRow_6 : decode cX10_readRow 6 = .ok (.getfield 87, 3) := by decide +kernel
theorem dX10_readRow_9 : decode cX10_readRow 9 = .ok (.invokevirtual 91, 3) := by decide +kernel
theorem dX10_readRow_12 : decode cX10_readRow 12 = .ok (.ifCond .eq 20, 3) := by decide +kernel
theorem dX10_readRow_15 : decode cX10_readRow 15 = .ok (.aload_n 1, 1) := by decide +kernel
theorem dX10_readRow_16 : decode cX10_readRow 16 = .ok (.iconst 0, 1) := by decide +kernel
theorem dX10_readRow_17 : decode cX10_readRow 17 = .ok (.aload_n 0, 1) := by decide +kernel
theorem dX10_readRow_18 : decode cX10_readRow 18 = .ok (.getfield 12, 3) := by decide +kernel
theorem dX10_readRow_21 : decode cX10_readRow 21 = .ok (.getfield 78, 3) := by decide +kernel
theorem dX10_readRow_24 : decode cX10_readRow 24 = .ok (.iconst 1, 1) := by decide +kernel
theorem dX10_readRow_25 : decode cX10_readRow 25 = .ok (.isub, 1) := by decide +kernel
theorem dX10_readRow_26 : decode cX10_readRow 26 = .ok (.invokevirtual 71, 3) := by decide +kernel
theorem dX10_readRow_29 : decode cX10_readRow 29 = .ok (.ifCond .ne 5, 3) := by decide +kernel
theorem dX10_readRow_32 : decode cX10_readRow 32 = .ok (.iconst 0, 1) := by decide +kernel
theorem dX10_readRow_33 : decode cX10_readRow 33 = .ok (.ireturn, 1) := by decide +kernel
theorem dX10_readRow_34 : decode cX10_readRow 34 = .ok (.aload_n 1, 1) := by decide +kernel
theorem dX10_readRow_35 : decode cX10_readRow 35 = .ok (.getfield 75, 3) := by decide +kernel
theorem dX10_readRow_38 : decode cX10_readRow 38 = .ok (.istore_n 2, 1) := by decide +kernel
theorem dX10_readRow_39 : decode cX10_readRow 39 = .ok (.aload_n 0, 1) := by decide +kernel
theorem dX10_readRow_40 : decode cX10_readRow 40 = .ok (.getfield 12, 3) := by decide +kernel
theorem dX10_readRow_43 : decode cX10_readRow 43 = .ok (.getfield 87, 3) := by decide +kernel
theorem dX10_readRow_46 : decode cX10_readRow 46 = .ok (.aload_n 0, 1) := by decide +kernel
theorem dX10_readRow_47 : decode cX10_readRow 47 = .ok (.getfield 12, 3) := by decide +kernel
theorem dX10_readRow_50 : decode cX10_readRow 50 = .ok (.iload_n 2, 1) := by decide +kernel
theorem dX10_readRow_51 : decode cX10_readRow 51 = .ok (.invokevirtual 95, 3) := by decide +kernel
theorem dX10_readRow_54 : decode cX10_readRow 54 = .ok (.iconst 0, 1) := by decide +kernel
theorem dX10_readRow_55 : decode cX10_readRow 55 = .ok (.invokevirtual 99, 3) := by decide +kernel
theorem dX10_readRow_58 : decode cX10_readRow 58 = .ok (.iload_n 2, 1) := by decide +kernel
theorem dX10_readRow_59 : decode cX10_readRow 59 = .ok (.if_icmp .ne 9, 3) := by decide +kernel
theorem dX10_readRow_62 : decode cX10_readRow 62 = .ok (.aload_n 1, 1) := by decide +kernel
theorem dX10_readRow_63 : decode cX10_readRow 63 = .ok (.iconst 3, 1) := by decide +kernel
theorem dX10_readRow_64 : decode cX10_readRow 64 = .ok (.invokevirtual 60, 3) := by decide +kernel
theorem dX10_readRow_67 : decode cX10_readRow 67 = .ok (.ireturn, 1) := by decide +kernel
theorem dX10_readRow_68 : decode cX10_readRow 68 = .ok (.aload_n 1, 1) := by decide +kernel
theorem dX10_readRow_69 : decode cX10_readRow 69 = .ok (.invokevirtual 68, 3) := by decide +kernel
theorem dX10_readRow_72 : decode cX10_readRow 72 = .ok (.aload_n 1, 1) := by decide +kernel
theorem dX10_readRow_73 : decode cX10_readRow 73 = .ok (.iconst 1, 1) := by decide +kernel
theorem dX10_readRow_74 : decode cX10_readRow 74 = .ok (.sipush 250, 3) := by decide +kernel
theorem dX10_readRow_77 : decode cX10_readRow 77 = .ok (.invokevirtual 71, 3) := by decide +kernel
theorem dX10_readRow_80 : decode cX10_readRow 80 = .ok (.ifCond .ne 5, 3) := by decide +kernel
theorem dX10_readRow_83 : decode cX10_readRow 83 = .ok (.iconst 0, 1) := by decide +kernel
theorem dX10_readRow_84 : decode cX10_readRow 84 = .ok (.ireturn, 1) := by decide +kernel
theorem dX10_readRow_85 : decode cX10_readRow 85 = .ok (.aload_n 0, 1) := by decide +kernel
theorem dX10_readRow_86 : decode cX10_readRow 86 = .ok (.getfield 12, 3) := by decide +kernel
theorem dX10_readRow_89 : decode cX10_readRow 89 = .ok (.iload_n 2, 1) := by decide +kernel
theorem dX10_readRow_90 : decode cX10_readRow 90 = .ok (.aload_n 1, 1) := by decide +kernel
theorem dX10_readRow_91 : decode cX10_readRow 91 = .ok (.getfield 75, 3) := by decide +kernel
theorem dX10_readRow_94 : decode cX10_readRow 94 = .ok (.invokevirtual 103, 3) := by decide +kernel
theorem dX10_readRow_97 : decode cX10_readRow 97 = .ok (.aload_n 1, 1) := by decide +kernel
theorem dX10_readRow_98 : decode cX10_readRow 98 = .ok (.invokevirtual 68, 3) := by decide +kernel
theorem dX10_readRow_101 : decode cX10_readRow 101 = .ok (.iconst 1, 1) := by decide +kernel
theorem dX10_readRow_102 : decode cX10_readRow 102 = .ok (.ireturn, 1) := by decide +kernel
theorem dX10_readNewName_0 : decode cX10_readNewName 0 = .ok (.aload_n 1, 1) := by decide +kernel
theorem dX10_readNewName_1 : decode cX10_readNewName 1 = .ok (.invokevirtual 107, 3) := by decide +kernel
theorem dX10_readNewName_4 : decode cX10_readNewName 4 = .ok (.ifCond .ne 5, 3) := by decide +kernel
theorem dX10_readNewName_7 : decode cX10_readNewName 7 = .ok (.iconst 0, 1) := by decide +kernel
theorem dX10_readNewName_8 : decode cX10_readNewName 8 = .ok (.ireturn, 1) := by decide +kernel
theorem dX10_readNewName_9 : decode cX10_readNewName 9 = .ok (.aload_n 0, 1) := by decide +kernel
theorem dX10_readNewName_10 : decode cX10_readNewName 10 = .ok (.getfield 12, 3) := by decide +kernel
theorem dX10_readNewName_13 : decode cX10_readNewName 13 = .ok (.aload_n 1, 1) := by decide +kernel
theorem dX10_readNewName_14 : decode cX10_readNewName 14 = .ok (.getfield 110, 3) := by decide +kernel
theorem dX10_readNewName_17 : decode cX10_readNewName 17 = .ok (.invokevirtual 114, 3) := by decide +kernel
theorem dX10_readNewName_20 : decode cX10_readNewName 20 = .ok (.ifCond .eq 9, 3) := by decide +kernel
theorem dX10_readNewName_23 : decode cX10_readNewName 23 = .ok (.aload_n 1, 1) := by decide +kernel
theorem dX10_readNewName_24 : decode cX10_readNewName 24 = .ok (.iconst 3, 1) := by decide +kernel
theorem dX10_readNewName_25 : decode cX10_readNewName 25 = .ok (.invokevirtual 60, 3) := by decide +kernel
theorem dX10_readNewName_28 : decode cX10_readNewName 28 = .ok (.ireturn, 1) := by decide +kernel
theorem dX10_readNewName_29 : decode cX10_readNewName 29 = .ok (.aload_n 2, 1) := by decide +kernel
theorem dX10_readNewName_30 : decode cX10_readNewName 30 = .ok (.aload_n 1, 1) := by decide +kernel
theorem dX10_readNewName_31 : decode cX10_readNewName 31 = .ok (.getfield 110, 3) := by decide +kernel
theorem dX10_readNewName_34 : decode cX10_readNewName 34 = .ok (.invokevirtual 118, 3) := by decide +kernel
theorem dX10_readNewName_37 : decode cX10_readNewName 37 = .ok (.pop, 1) := by decide +kernel
theorem dX10_readNewName_38 : decode cX10_readNewName 38 = .ok (.aload_n 1, 1) := by decide +kernel
theorem dX10_readNewName_39 : decode cX10_readNewName 39 = .ok (.invokevirtual 68, 3) := by decide +kernel
theorem dX10_readNewName_42 : decode cX10_readNewName 42 = .ok (.iconst 1, 1) := by decide +kernel
theorem dX10_readNewName_43 : decode cX10_readNewName 43 = .ok (.ireturn, 1) := by decide +kernel
theorem dX10_readToldName_0 : decode cX10_readToldName 0 = .ok (.aload_n 1, 1) := by decide +kernel
theorem dX10_readToldName_1 : decode cX10_readToldName 1 = .ok (.invokevirtual 107, 3) := by decide +kernel
theorem dX10_readToldName_4 : decode cX10_readToldName 4 = .ok (.ifCond .ne 5, 3) := by decide +kernel
theorem dX10_readToldName_7 : decode cX10_readToldName 7 = .ok (.iconst (-1), 1) := by decide +kernel
theorem dX10_readToldName_8 : decode cX10_readToldName 8 = .ok (.ireturn, 1) := by decide +kernel
theorem dX10_readToldName_9 : decode cX10_readToldName 9 = .ok (.aload_n 2, 1) := by decide +kernel
theorem dX10_readToldName_10 : decode cX10_readToldName 10 = .ok (.aload_n 1, 1) := by decide +kernel
theorem dX10_readToldName_11 : decode cX10_readToldName 11 = .ok (.getfield 110, 3) := by decide +kernel
theorem dX10_readToldName_14 : decode cX10_readToldName 14 = .ok (.invokevirtual 122, 3) := by decide +kernel
theorem dX10_readToldName_17 : decode cX10_readToldName 17 = .ok (.istore_n 3, 1) := by decide +kernel
theorem dX10_readToldName_18 : decode cX10_readToldName 18 = .ok (.iload_n 3, 1) := by decide +kernel
theorem dX10_readToldName_19 : decode cX10_readToldName 19 = .ok (.iconst (-1), 1) := by decide +kernel
theorem dX10_readToldName_20 : decode cX10_readToldName 20 = .ok (.if_icmp .ne 12, 3) := by decide +kernel
theorem dX10_readToldName_23 : decode cX10_readToldName 23 = .ok (.aload_n 1, 1) := by decide +kernel
theorem dX10_readToldName_24 : decode cX10_readToldName 24 = .ok (.iconst 3, 1) := by decide +kernel
theorem dX10_readToldName_25 : decode cX10_readToldName 25 = .ok (.invokevirtual 60, 3) := by decide +kernel
theorem dX10_readToldName_28 : decode cX10_readToldName 28 = .ok (.pop, 1) := by decide +kernel
theorem dX10_readToldName_29 : decode cX10_readToldName 29 = .ok (.goto 7, 3) := by decide +kernel
theorem dX10_readToldName_32 : decode cX10_readToldName 32 = .ok (.aload_n 1, 1) := by decide +kernel
theorem dX10_readToldName_33 : decode cX10_readToldName 33 = .ok (.invokevirtual 68, 3) := by decide +kernel
theorem dX10_readToldName_36 : decode cX10_readToldName 36 = .ok (.iload_n 3, 1) := by decide +kernel
theorem dX10_readToldName_37 : decode cX10_readToldName 37 = .ok (.ireturn, 1) := by decide +kernel
theorem dX10_readRange_0 : decode cX10_readRange 0 = .ok (.aload_n 1, 1) := by decide +kernel
theorem dX10_readRange_1 : decode cX10_readRange 1 = .ok (.iconst 0, 1) := by decide +kernel
theorem dX10_readRange_2 : decode cX10_readRange 2 = .ok (.aload_n 0, 1) := by decide +kernel
theorem dX10_readRange_3 : decode cX10_readRange 3 = .ok (.getfield 12, 3) := by decide +kernel
theorem dX10_readRange_6 : decode cX10_readRange 6 = .ok (.getfield 78, 3) := by decide +kernel
theorem dX10_readRange_9 : decode cX10_readRange 9 = .ok (.iconst 1, 1) := by decide +kernel
theorem dX10_readRange_10 : decode cX10_readRange 10 = .ok (.isub, 1) := by decide +kernel
theorem dX10_readRange_11 : decode cX10_readRange 11 = .ok (.invokevirtual 71, 3) := by decide +kernel
theorem dX10_readRange_14 : decode cX10_readRange 14 = .ok (.ifCond .ne 5, 3) := by decide +kernel
theorem dX10_readRange_17 : decode cX10_readRange 17 = .ok (.iconst 0, 1) := by decide +kernel
theorem dX10_readRange_18 : decode cX10_readRange 18 = .ok (.ireturn, 1) := by decide +kernel
theorem dX10_readRange_19 : decode cX10_readRange 19 = .ok (.aload_n 1, 1) := by decide +kernel
theorem dX10_readRange_20 : decode cX10_readRange 20 = .ok (.getfield 75, 3) := by decide +kernel
theorem dX10_readRange_23 : decode cX10_readRange 23 = .ok (.istore 4, 2) := by decide +kernel
theorem dX10_readRange_25 : decode cX10_readRange 25 = .ok (.aload_n 1, 1) := by decide +kernel
theorem dX10_readRange_26 : decode cX10_readRange 26 = .ok (.invokevirtual 68, 3) := by decide +kernel
theorem dX10_readRange_29 : decode cX10_readRange 29 = .ok (.aload_n 1, 1) := by decide +kernel
theorem dX10_readRange_30 : decode cX10_readRange 30 = .ok (.iload 4, 2) := by decide +kernel
theorem dX10_readRange_32 : decode cX10_readRange 32 = .ok (.iconst 1, 1) := by decide +kernel
theorem dX10_readRange_33 : decode cX10_readRange 33 = .ok (.iadd, 1) := by decide +kernel
theorem dX10_readRange_34 : decode cX10_readRange 34 = .ok (.aload_n 0, 1) := by decide +kernel
theorem dX10_readRange_35 : decode cX10_readRange 35 = .ok (.getfield 12, 3) := by decide +kernel
theorem dX10_readRange_38 : decode cX10_readRange 38 = .ok (.getfield 78, 3) := by decide +kernel
theorem dX10_readRange_41 : decode cX10_readRange 41 = .ok (.invokevirtual 71, 3) := by decide +kernel
theorem dX10_readRange_44 : decode cX10_readRange 44 = .ok (.ifCond .ne 5, 3) := by decide +kernel
theorem dX10_readRange_47 : decode cX10_readRange 47 = .ok (.iconst 0, 1) := by decide +kernel
theorem dX10_readRange_48 : decode cX10_readRange 48 = .ok (.ireturn, 1) := by decide +kernel
theorem dX10_readRange_49 : decode cX10_readRange 49 = .ok (.aload_n 2, 1) := by decide +kernel
theorem dX10_readRange_50 : decode cX10_readRange 50 = .ok (.iload_n 3, 1) := by decide +kernel
theorem dX10_readRange_51 : decode cX10_readRange 51 = .ok (.iconst 0, 1) := by decide +kernel
theorem dX10_readRange_52 : decode cX10_readRange 52 = .ok (.iload 4, 2) := by decide +kernel
theorem dX10_readRange_54 : decode cX10_readRange 54 = .ok (.invokevirtual 125, 3) := by decide +kernel
theorem dX10_readRange_57 : decode cX10_readRange 57 = .ok (.aload_n 2, 1) := by decide +kernel
theorem dX10_readRange_58 : decode cX10_readRange 58 = .ok (.iload_n 3, 1) := by decide +kernel
theorem dX10_readRange_59 : decode cX10_readRange 59 = .ok (.iconst 1, 1) := by decide +kernel
theorem dX10_readRange_60 : decode cX10_readRange 60 = .ok (.aload_n 1, 1) := by decide +kernel
theorem dX10_readRange_61 : decode cX10_readRange 61 = .ok (.getfield 75, 3) := by decide +kernel
theorem dX10_readRange_64 : decode cX10_readRange 64 = .ok (.invokevirtual 125, 3) := by decide +kernel
theorem dX10_readRange_67 : decode cX10_readRange 67 = .ok (.iconst 1, 1) := by decide +kernel
theorem dX10_readRange_68 : decode cX10_readRange 68 = .ok (.ireturn, 1) := by decide +kernel
theorem dX10_readScope_0 : decode cX10_readScope 0 = .ok (.aload_n 0, 1) := by decide +kernel
theorem dX10_readScope_1 : decode cX10_readScope 1 = .ok (.getfield 12, 3) := by decide +kernel
theorem dX10_readScope_4 : decode cX10_readScope 4 = .ok (.getfield 129, 3) := by decide +kernel
theorem dX10_readScope_7 : decode cX10_readScope 7 = .ok (.getfield 132, 3) := by decide +kernel
theorem dX10_readScope_10 : decode cX10_readScope 10 = .ok (.istore_n 2, 1) := by decide +kernel
theorem dX10_readScope_11 : decode cX10_readScope 11 = .ok (.aload_n 0, 1) := by decide +kernel
theorem dX10_readScope_12 : decode cX10_readScope 12 = .ok (.aload_n 1, 1) := by decide +kernel
theorem dX10_readScope_13 : decode cX10_readScope 13 = .ok (.aload_n 0, 1) := by decide +kernel
theorem dX10_readScope_14 : decode cX10_readScope 14 = .ok (.getfield 12, 3) := by decide +kernel
theorem dX10_readScope_17 : decode cX10_readScope 17 = .ok (.getfield 129, 3) := by decide +kernel
theorem dX10_readScope_20 : decode cX10_readScope 20 = .ok (.invokevirtual 91, 3) := by decide +kernel
theorem dX10_readScope_23 : decode cX10_readScope 23 = .ok (.ifCond .eq 34, 3) := by decide +kernel
theorem dX10_readScope_26 : decode cX10_readScope 26 = .ok (.aload_n 0, 1) := by decide +kernel
theorem dX10_readScope_27 : decode cX10_readScope 27 = .ok (.aload_n 1, 1) := by decide +kernel
theorem dX10_readScope_28 : decode cX10_readScope 28 = .ok (.aload_n 0, 1) := by decide +kernel
theorem dX10_readScope_29 : decode cX10_readScope 29 = .ok (.getfield 12, 3) := by decide +kernel
theorem dX10_readScope_32 : decode cX10_readScope 32 = .ok (.getfield 129, 3) := by decide +kernel
theorem dX10_readScope_35 : decode cX10_readScope 35 = .ok (.invokevirtual 135, 3) := by decide +kernel
theorem dX10_readScope_38 : decode cX10_readScope 38 = .ok (.ifCond .eq 19, 3) := by decide +kernel
theorem dX10_readScope_41 : decode cX10_readScope 41 = .ok (.aload_n 0, 1) := by decide +kernel
theorem dX10_readScope_42 : decode cX10_readScope 42 = .ok (.aload_n 1, 1) := by decide +kernel
theorem dX10_readScope_43 : decode cX10_readScope 43 = .ok (.aload_n 0, 1) := by decide +kernel
theorem dX10_readScope_44 : decode cX10_readScope 44 = .ok (.getfield 12, 3) := by decide +kernel
theorem dX10_readScope_47 : decode cX10_readScope 47 = .ok (.getfield 129, 3) := by decide +kernel
theorem dX10_readScope_50 : decode cX10_readScope 50 = .ok (.iload_n 2, 1) := by decide +kernel
theorem dX10_readScope_51 : decode cX10_readScope 51 = .ok (.invokevirtual 138, 3) := by decide +kernel
theorem dX10_readScope_54 : decode cX10_readScope 54 = .ok (.ifCond .ne 5, 3) := by decide +kernel
theorem dX10_readScope_57 : decode cX10_readScope 57 = .ok (.iconst 0, 1) := by decide +kernel
theorem dX10_readScope_58 : decode cX10_readScope 58 = .ok (.ireturn, 1) := by decide +kernel
theorem dX10_readScope_59 : decode cX10_readScope 59 = .ok (.aload_n 0, 1) := by decide +kernel
theorem dX10_readScope_60 : decode cX10_readScope 60 = .ok (.getfield 12, 3) := by decide +kernel
theorem dX10_readScope_63 : decode cX10_readScope 63 = .ok (.aload_n 0, 1) := by decide +kernel
theorem dX10_readScope_64 : decode cX10_readScope 64 = .ok (.getfield 12, 3) := by decide +kernel
theorem dX10_readScope_67 : decode cX10_readScope 67 = .ok (.getfield 129, 3) := by decide +kernel
theorem dX10_readScope_70 : decode cX10_readScope 70 = .ok (.iload_n 2, 1) := by decide +kernel
theorem dX10_readScope_71 : decode cX10_readScope 71 = .ok (.iconst 0, 1) := by decide +kernel
theorem dX10_readScope_72 : decode cX10_readScope 72 = .ok (.invokevirtual 99, 3) := by decide +kernel
theorem dX10_readScope_75 : decode cX10_readScope 75 = .ok (.aload_n 0, 1) := by decide +kernel
theorem dX10_readScope_76 : decode cX10_readScope 76 = .ok (.getfield 12, 3) := by decide +kernel
theorem dX10_readScope_79 : decode cX10_readScope 79 = .ok (.getfield 129, 3) := by decide +kernel
theorem dX10_readScope_82 : decode cX10_readScope 82 = .ok (.iload_n 2, 1) := by decide +kernel
theorem dX10_readScope_83 : decode cX10_readScope 83 = .ok (.iconst 1, 1) := by decide +kernel
theorem dX10_readScope_84 : decode cX10_readScope 84 = .ok (.invokevirtual 99, 3) := by decide +kernel
theorem dX10_readScope_87 : decode cX10_readScope 87 = .ok (.invokevirtual 142, 3) := by decide +kernel
theorem dX10_readScope_90 : decode cX10_readScope 90 = .ok (.ifCond .eq 9, 3) := by decide +kernel
theorem dX10_readScope_93 : decode cX10_readScope 93 = .ok (.aload_n 1, 1) := by decide +kernel
theorem dX10_readScope_94 : decode cX10_readScope 94 = .ok (.iconst 3, 1) := by decide +kernel
theorem dX10_readScope_95 : decode cX10_readScope 95 = .ok (.invokevirtual 60, 3) := by decide +kernel
theorem dX10_readScope_98 : decode cX10_readScope 98 = .ok (.ireturn, 1) := by decide +kernel
theorem dX10_readScope_99 : decode cX10_readScope 99 = .ok (.aload_n 1, 1) := by decide +kernel
theorem dX10_readScope_100 : decode cX10_readScope 100 = .ok (.invokevirtual 68, 3) := by decide +kernel
theorem dX10_readScope_103 : decode cX10_readScope 103 = .ok (.aload_n 1, 1) := by decide +kernel
theorem dX10_readScope_104 : decode cX10_readScope 104 = .ok (.iconst 0, 1) := by decide +kernel
theorem dX10_readScope_105 : decode cX10_readScope 105 = .ok (.sipush 250, 3) := by decide +kernel
theorem dX10_readScope_108 : decode cX10_readScope 108 = .ok (.invokevirtual 71, 3) := by decide +kernel
theorem dX10_readScope_111 : decode cX10_readScope 111 = .ok (.ifCond .ne 5, 3) := by decide +kernel
theorem dX10_readScope_114 : decode cX10_readScope 114 = .ok (.iconst 0, 1) := by decide +kernel
theorem dX10_readScope_115 : decode cX10_readScope 115 = .ok (.ireturn, 1) := by decide +kernel
theorem dX10_readScope_116 : decode cX10_readScope 116 = .ok (.aload_n 0, 1) := by decide +kernel
theorem dX10_readScope_117 : decode cX10_readScope 117 = .ok (.getfield 12, 3) := by decide +kernel
theorem dX10_readScope_120 : decode cX10_readScope 120 = .ok (.getfield 129, 3) := by decide +kernel
theorem dX10_readScope_123 : decode cX10_readScope 123 = .ok (.iload_n 2, 1) := by decide +kernel
theorem dX10_readScope_124 : decode cX10_readScope 124 = .ok (.iconst 2, 1) := by decide +kernel
theorem dX10_readScope_125 : decode cX10_readScope 125 = .ok (.aload_n 1, 1) := by decide +kernel
theorem dX10_readScope_126 : decode cX10_readScope 126 = .ok (.getfield 75, 3) := by decide +kernel
theorem dX10_readScope_129 : decode cX10_readScope 129 = .ok (.invokevirtual 125, 3) := by decide +kernel
theorem dX10_readScope_132 : decode cX10_readScope 132 = .ok (.aload_n 0, 1) := by decide +kernel
theorem dX10_readScope_133 : decode cX10_readScope 133 = .ok (.getfield 12, 3) := by decide +kernel
theorem dX10_readScope_136 : decode cX10_readScope 136 = .ok (.iload_n 2, 1) := by decide +kernel
theorem dX10_readScope_137 : decode cX10_readScope 137 = .ok (.invokevirtual 145, 3) := by decide +kernel
theorem dX10_readScope_140 : decode cX10_readScope 140 = .ok (.aload_n 1, 1) := by decide +kernel
theorem dX10_readScope_141 : decode cX10_readScope 141 = .ok (.invokevirtual 68, 3) := by decide +kernel
theorem dX10_readScope_144 : decode cX10_readScope 144 = .ok (.iconst 1, 1) := by decide +kernel
theorem dX10_readScope_145 : decode cX10_readScope 145 = .ok (.ireturn, 1) := by decide +kernel
theorem dX10_readType_0 : decode cX10_readType 0 = .ok (.aload_n 0, 1) := by decide +kernel
theorem dX10_readType_1 : decode cX10_readType 1 = .ok (.getfield 12, 3) := by decide +kernel
theorem dX10_readType_4 : decode cX10_readType 4 = .ok (.getfield 148, 3) := by decide +kernel
theorem dX10_readType_7 : decode cX10_readType 7 = .ok (.getfield 132, 3) := by decide +kernel
theorem dX10_readType_10 : decode cX10_readType 10 = .ok (.istore_n 2, 1) := by decide +kernel
theorem dX10_readType_11 : decode cX10_readType 11 = .ok (.aload_n 0, 1) := by decide +kernel
theorem dX10_readType_12 : decode cX10_readType 12 = .ok (.aload_n 1, 1) := by decide +kernel
theorem dX10_readType_13 : decode cX10_readType 13 = .ok (.aload_n 0, 1) := by decide +kernel
theorem dX10_readType_14 : decode cX10_readType 14 = .ok (.getfield 12, 3) := by decide +kernel
theorem dX10_readType_17 : decode cX10_readType 17 = .ok (.getfield 148, 3) := by decide +kernel
theorem dX10_readType_20 : decode cX10_readType 20 = .ok (.invokevirtual 91, 3) := by decide +kernel
theorem dX10_readType_23 : decode cX10_readType 23 = .ok (.ifCond .eq 28, 3) := by decide +kernel
theorem dX10_readType_26 : decode cX10_readType 26 = .ok (.aload_n 0, 1) := by decide +kernel
theorem dX10_readType_27 : decode cX10_readType 27 = .ok (.aload_n 1, 1) := by decide +kernel
theorem dX10_readType_28 : decode cX10_readType 28 = .ok (.aload_n 0, 1) := by decide +kernel
theorem dX10_readType_29 : decode cX10_readType 29 = .ok (.getfield 12, 3) := by decide +kernel
theorem dX10_readType_32 : decode cX10_readType 32 = .ok (.getfield 148, 3) := by decide +kernel
theorem dX10_readType_35 : decode cX10_readType 35 = .ok (.invokevirtual 135, 3) := by decide +kernel
theorem dX10_readType_38 : decode cX10_readType 38 = .ok (.ifCond .eq 13, 3) := by decide +kernel
theorem dX10_readType_41 : decode cX10_readType 41 = .ok (.aload_n 1, 1) := by decide +kernel
theorem dX10_readType_42 : decode cX10_readType 42 = .ok (.iconst 0, 1) := by decide +kernel
theorem dX10_readType_43 : decode cX10_readType 43 = .ok (.bipush 15, 2) := by decide +kernel
theorem dX10_readType_45 : decode cX10_readType 45 = .ok (.invokevirtual 71, 3) := by decide +kernel
theorem dX10_readType_48 : decode cX10_readType 48 = .ok (.ifCond .ne 5, 3) := by decide +kernel
theorem dX10_readType_51 : decode cX10_readType 51 = .ok (.iconst 0, 1) := by decide +kernel
theorem dX10_readType_52 : decode cX10_readType 52 = .ok (.ireturn, 1) := by decide +kernel
theorem dX10_readType_53 : decode cX10_readType 53 = .ok (.aload_n 1, 1) := by decide +kernel
theorem dX10_readType_54 : decode cX10_readType 54 = .ok (.getfield 75, 3) := by decide +kernel
theorem dX10_readType_57 : decode cX10_readType 57 = .ok (.istore_n 3, 1) := by decide +kernel
theorem dX10_readType_58 : decode cX10_readType 58 = .ok (.aload_n 1, 1) := by decide +kernel
theorem dX10_readType_59 : decode cX10_readType 59 = .ok (.invokevirtual 68, 3) := by decide +kernel
theorem dX10_readType_62 : decode cX10_readType 62 = .ok (.aload_n 1, 1) := by decide +kernel
theorem dX10_readType_63 : decode cX10_readType 63 = .ok (.iconst 1, 1) := by decide +kernel
theorem dX10_readType_64 : decode cX10_readType 64 = .ok (.bipush 16, 2) := by decide +kernel
theorem dX10_readType_66 : decode cX10_readType 66 = .ok (.iload_n 3, 1) := by decide +kernel
theorem dX10_readType_67 : decode cX10_readType 67 = .ok (.isub, 1) := by decide +kernel
theorem dX10_readType_68 : decode cX10_readType 68 = .ok (.invokevirtual 71, 3) := by decide +kernel
theorem dX10_readType_71 : decode cX10_readType 71 = .ok (.ifCond .ne 5, 3) := by decide +kernel
theorem dX10_readType_74 : decode cX10_readType 74 = .ok (.iconst 0, 1) := by decide +kernel
theorem dX10_readType_75 : decode cX10_readType 75 = .ok (.ireturn, 1) := by decide +kernel
theorem dX10_readType_76 : decode cX10_readType 76 = .ok (.aload_n 0, 1) := by decide +kernel
theorem dX10_readType_77 : decode cX10_readType 77 = .ok (.getfield 12, 3) := by decide +kernel
theorem dX10_readType_80 : decode cX10_readType 80 = .ok (.getfield 148, 3) := by decide +kernel
theorem dX10_readType_83 : decode cX10_readType 83 = .ok (.iload_n 2, 1) := by decide +kernel
theorem dX10_readType_84 : decode cX10_readType 84 = .ok (.iconst 0, 1) := by decide +kernel
theorem dX10_readType_85 : decode cX10_readType 85 = .ok (.iload_n 3, 1) := by decide +kernel
theorem dX10_readType_86 : decode cX10_readType 86 = .ok (.invokevirtual 125, 3) := by decide +kernel
theorem dX10_readType_89 : decode cX10_readType 89 = .ok (.aload_n 0, 1) := by decide +kernel
theorem dX10_readType_90 : decode cX10_readType 90 = .ok (.getfield 12, 3) := by decide +kernel
theorem dX10_readType_93 : decode cX10_readType 93 = .ok (.getfield 148, 3) := by decide +kernel
theorem dX10_readType_96 : decode cX10_readType 96 = .ok (.iload_n 2, 1) := by decide +kernel
theorem dX10_readType_97 : decode cX10_readType 97 = .ok (.iconst 1, 1) := by decide +kernel
theorem dX10_readType_98 : decode cX10_readType 98 = .ok (.aload_n 1, 1) := by decide +kernel
theorem dX10_readType_99 : decode cX10_readType 99 = .ok (.getfield 75, 3) := by decide +kernel
theorem dX10_readType_102 : decode cX10_readType 102 = .ok (.invokevirtual 125, 3) := by decide +kernel
theorem dX10_readType_105 : decode cX10_readType 105 = .ok (.aload_n 1, 1) := by decide +kernel
theorem dX10_readType_106 : decode cX10_readType 106 = .ok (.invokevirtual 68, 3) := by decide +kernel
theorem dX10_readType_109 : decode cX10_readType 109 = .ok (.aload_n 1, 1) := by decide +kernel
theorem dX10_readType_110 : decode cX10_readType 110 = .ok (.invokevirtual 37, 3) := by decide +kernel
theorem dX10_readType_113 : decode cX10_readType 113 = .ok (.istore 4, 2) := by decide +kernel
theorem dX10_readType_115 : decode cX10_readType 115 = .ok (.iload 4, 2) := by decide +kernel
theorem dX10_readType_117 : decode cX10_readType 117 = .ok (.bipush 6, 2) := by decide +kernel
theorem dX10_readType_119 : decode cX10_readType 119 = .ok (.if_icmp .eq 16, 3) := by decide +kernel
theorem dX10_readType_122 : decode cX10_readType 122 = .ok (.iload 4, 2) := by decide +kernel
theorem dX10_readType_124 : decode cX10_readType 124 = .ok (.bipush 7, 2) := by decide +kernel
theorem dX10_readType_126 : decode cX10_readType 126 = .ok (.if_icmp .eq 9, 3) := by decide +kernel
theorem dX10_readType_129 : decode cX10_readType 129 = .ok (.aload_n 1, 1) := by decide +kernel
theorem dX10_readType_130 : decode cX10_readType 130 = .ok (.iconst 1, 1) := by decide +kernel
theorem dX10_readType_131 : decode cX10_readType 131 = .ok (.invokevirtual 60, 3) := by decide +kernel
theorem dX10_readType_134 : decode cX10_readType 134 = .ok (.ireturn, 1) := by decide +kernel
theorem dX10_readType_135 : decode cX10_readType 135 = .ok (.aload_n 0, 1) := by decide +kernel
theorem dX10_readType_136 : decode cX10_readType 136 = .ok (.getfield 12, 3) := by decide +kernel
theorem dX10_readType_139 : decode cX10_readType 139 = .ok (.getfield 148, 3) := by decide +kernel
theorem dX10_readType_142 : decode cX10_readType 142 = .ok (.iload_n 2, 1) := by decide +kernel
theorem dX10_readType_143 : decode cX10_readType 143 = .ok (.iconst 2, 1) := by decide +kernel
theorem dX10_readType_144 : decode cX10_readType 144 = .ok (.iload 4, 2) := by decide +kernel
theorem dX10_readType_146 : decode cX10_readType 146 = .ok (.bipush 7, 2) := by decide +kernel
theorem dX10_readType_148 : decode cX10_readType 148 = .ok (.if_icmp .ne 7, 3) := by decide +kernel
theorem dX10_readType_151 : decode cX10_readType 151 = .ok (.iconst 1, 1) := by decide +kernel
theorem dX10_readType_152 : decode cX10_readType 152 = .ok (.goto 4, 3) := by decide +kernel
theorem dX10_readType_155 : decode cX10_readType 155 = .ok (.iconst 0, 1) := by decide +kernel
theorem dX10_readType_156 : decode cX10_readType 156 = .ok (.invokevirtual 125, 3) := by decide +kernel
theorem dX10_readType_159 : decode cX10_readType 159 = .ok (.aload_n 1, 1) := by decide +kernel
theorem dX10_readType_160 : decode cX10_readType 160 = .ok (.invokevirtual 68, 3) := by decide +kernel
theorem dX10_readType_163 : decode cX10_readType 163 = .ok (.iconst 1, 1) := by decide +kernel
theorem dX10_readType_164 : decode cX10_readType 164 = .ok (.ireturn, 1) := by decide +kernel
theorem dX10_readVar_0 : decode cX10_readVar 0 = .ok (.aload_n 0, 1) := by decide +kernel
theorem dX10_readVar_1 : decode cX10_readVar 1 = .ok (.getfield 12, 3) := by decide +kernel
theorem dX10_readVar_4 : decode cX10_readVar 4 = .ok (.getfield 151, 3) := by decide +kernel
theorem dX10_readVar_7 : decode cX10_readVar 7 = .ok (.getfield 132, 3) := by decide +kernel
theorem dX10_readVar_10 : decode cX10_readVar 10 = .ok (.istore_n 2, 1) := by decide +kernel
theorem dX10_readVar_11 : decode cX10_readVar 11 = .ok (.aload_n 0, 1) := by decide +kernel
theorem dX10_readVar_12 : decode cX10_readVar 12 = .ok (.aload_n 1, 1) := by decide +kernel
theorem dX10_readVar_13 : decode cX10_readVar 13 = .ok (.aload_n 0, 1) := by decide +kernel
theorem dX10_readVar_14 : decode cX10_readVar 14 = .ok (.getfield 12, 3) := by decide +kernel
theorem dX10_readVar_17 : decode cX10_readVar 17 = .ok (.getfield 151, 3) := by decide +kernel
theorem dX10_readVar_20 : decode cX10_readVar 20 = .ok (.invokevirtual 91, 3) := by decide +kernel
theorem dX10_readVar_23 : decode cX10_readVar 23 = .ok (.ifCond .eq 18, 3) := by decide +kernel
theorem dX10_readVar_26 : decode cX10_readVar 26 = .ok (.aload_n 0, 1) := by decide +kernel
theorem dX10_readVar_27 : decode cX10_readVar 27 = .ok (.aload_n 1, 1) := by decide +kernel
theorem dX10_readVar_28 : decode cX10_readVar 28 = .ok (.aload_n 0, 1) := by decide +kernel
theorem dX10_readVar_29 : decode cX10_readVar 29 = .ok (.getfield 12, 3) := by decide +kernel
theorem dX10_readVar_32 : decode cX10_readVar 32 = .ok (.getfield 151, 3) := by decide +kernel
theorem dX10_readVar_35 : decode cX10_readVar 35 = .ok (.invokevirtual 135, 3) := by decide +kernel
theorem dX10_readVar_38 : decode cX10_readVar 38 = .ok (.ifCond .ne 5, 3) := by decide +kernel
theorem dX10_readVar_41 : decode cX10_readVar 41 = .ok (.iconst 0, 1) := by decide +kernel
theorem dX10_readVar_42 : decode cX10_readVar 42 = .ok (.ireturn, 1) := by decide +kernel
theorem dX10_readVar_43 : decode cX10_readVar 43 = .ok (.aload_n 0, 1) := by decide +kernel
theorem dX10_readVar_44 : decode cX10_readVar 44 = .ok (.aload_n 1, 1) := by decide +kernel
theorem dX10_readVar_45 : decode cX10_readVar 45 = .ok (.aload_n 0, 1) := by decide +kernel
theorem dX10_readVar_46 : decode cX10_readVar 46 = .ok (.getfield 12, 3) := by decide +kernel
theorem dX10_readVar_49 : decode cX10_readVar 49 = .ok (.getfield 129, 3) := by decide +kernel
theorem dX10_readVar_52 : decode cX10_readVar 52 = .ok (.invokevirtual 154, 3) := by decide +kernel
theorem dX10_readVar_55 : decode cX10_readVar 55 = .ok (.istore_n 3, 1) := by decide +kernel
theorem dX10_readVar_56 : decode cX10_readVar 56 = .ok (.iload_n 3, 1) := by decide +kernel
theorem dX10_readVar_57 : decode cX10_readVar 57 = .ok (.iconst (-1), 1) := by decide +kernel
theorem dX10_readVar_58 : decode cX10_readVar 58 = .ok (.if_icmp .ne 5, 3) := by decide +kernel
theorem dX10_readVar_61 : decode cX10_readVar 61 = .ok (.iconst 0, 1) := by decide +kernel
theorem dX10_readVar_62 : decode cX10_readVar 62 = .ok (.ireturn, 1) := by decide +kernel
theorem dX10_readVar_63 : decode cX10_readVar 63 = .ok (.aload_n 0, 1) := by decide +kernel
theorem dX10_readVar_64 : decode cX10_readVar 64 = .ok (.aload_n 1, 1) := by decide +kernel
theorem dX10_readVar_65 : decode cX10_readVar 65 = .ok (.aload_n 0, 1) := by decide +kernel
theorem dX10_readVar_66 : decode cX10_readVar 66 = .ok (.getfield 12, 3) := by decide +kernel
theorem dX10_readVar_69 : decode cX10_readVar 69 = .ok (.getfield 148, 3) := by decide +kernel
theorem dX10_readVar_72 : decode cX10_readVar 72 = .ok (.invokevirtual 154, 3) := by decide +kernel
theorem dX10_readVar_75 : decode cX10_readVar 75 = .ok (.istore 4, 2) := by decide +kernel
theorem dX10_readVar_77 : decode cX10_readVar 77 = .ok (.aload_n 0, 1) := by decide +kernel
theorem dX10_readVar_78 : decode cX10_readVar 78 = .ok (.getfield 12, 3) := by decide +kernel
theorem dX10_readVar_81 : decode cX10_readVar 81 = .ok (.getfield 151, 3) := by decide +kernel
theorem dX10_readVar_84 : decode cX10_readVar 84 = .ok (.iload_n 2, 1) := by decide +kernel
theorem dX10_readVar_85 : decode cX10_readVar 85 = .ok (.iconst 0, 1) := by decide +kernel
theorem dX10_readVar_86 : decode cX10_readVar 86 = .ok (.iload_n 3, 1) := by decide +kernel
theorem dX10_readVar_87 : decode cX10_readVar 87 = .ok (.invokevirtual 125, 3) := by decide +kernel
theorem dX10_readVar_90 : decode cX10_readVar 90 = .ok (.aload_n 0, 1) := by decide +kernel
theorem dX10_readVar_91 : decode cX10_readVar 91 = .ok (.getfield 12, 3) := by decide +kernel
theorem dX10_readVar_94 : decode cX10_readVar 94 = .ok (.getfield 151, 3) := by decide +kernel
theorem dX10_readVar_97 : decode cX10_readVar 97 = .ok (.iload_n 2, 1) := by decide +kernel
theorem dX10_readVar_98 : decode cX10_readVar 98 = .ok (.iconst 1, 1) := by decide +kernel
theorem dX10_readVar_99 : decode cX10_readVar 99 = .ok (.iload 4, 2) := by decide +kernel
theorem dX10_readVar_101 : decode cX10_readVar 101 = .ok (.invokevirtual 125, 3) := by decide +kernel
theorem dX10_readVar_104 : decode cX10_readVar 104 = .ok (.iload 4, 2) := by decide +kernel
theorem dX10_readVar_106 : decode cX10_readVar 106 = .ok (.iconst (-1), 1) := by decide +kernel
theorem dX10_readVar_107 : decode cX10_readVar 107 = .ok (.if_icmp .eq 7, 3) := by decide +kernel
theorem dX10_readVar_110 : decode cX10_readVar 110 = .ok (.iconst 1, 1) := by decide +kernel
theorem dX10_readVar_111 : decode cX10_readVar 111 = .ok (.goto 4, 3) := by decide +kernel
theorem dX10_readVar_114 : decode cX10_readVar 114 = .ok (.iconst 0, 1) := by decide +kernel
theorem dX10_readVar_115 : decode cX10_readVar 115 = .ok (.ireturn, 1) := by decide +kernel
theorem dX10_readPlace_0 : decode cX10_readPlace 0 = .ok (.aload_n 0, 1) := by decide +kernel
theorem dX10_readPlace_1 : decode cX10_readPlace 1 = .ok (.aload_n 1, 1) := by decide +kernel
theorem dX10_readPlace_2 : decode cX10_readPlace 2 = .ok (.aload_n 0, 1) := by decide +kernel
theorem dX10_readPlace_3 : decode cX10_readPlace 3 = .ok (.getfield 12, 3) := by decide +kernel
theorem dX10_readPlace_6 : decode cX10_readPlace 6 = .ok (.getfield 158, 3) := by decide +kernel
theorem dX10_readPlace_9 : decode cX10_readPlace 9 = .ok (.invokevirtual 91, 3) := by decide +kernel
theorem dX10_readPlace_12 : decode cX10_readPlace 12 = .ok (.ifCond .ne 5, 3) := by decide +kernel
theorem dX10_readPlace_15 : decode cX10_readPlace 15 = .ok (.iconst 0, 1) := by decide +kernel
theorem dX10_readPlace_16 : decode cX10_readPlace 16 = .ok (.ireturn, 1) := by decide +kernel
theorem dX10_readPlace_17 : decode cX10_readPlace 17 = .ok (.aload_n 0, 1) := by decide +kernel
theorem dX10_readPlace_18 : decode cX10_readPlace 18 = .ok (.aload_n 1, 1) := by decide +kernel
theorem dX10_readPlace_19 : decode cX10_readPlace 19 = .ok (.aload_n 0, 1) := by decide +kernel
theorem dX10_readPlace_20 : decode cX10_readPlace 20 = .ok (.getfield 12, 3) := by decide +kernel
theorem dX10_readPlace_23 : decode cX10_readPlace 23 = .ok (.getfield 151, 3) := by decide +kernel
theorem dX10_readPlace_26 : decode cX10_readPlace 26 = .ok (.invokevirtual 154, 3) := by decide +kernel
theorem dX10_readPlace_29 : decode cX10_readPlace 29 = .ok (.istore_n 2, 1) := by decide +kernel
theorem dX10_readPlace_30 : decode cX10_readPlace 30 = .ok (.iload_n 2, 1) := by decide +kernel
theorem dX10_readPlace_31 : decode cX10_readPlace 31 = .ok (.iconst (-1), 1) := by decide +kernel
theorem dX10_readPlace_32 : decode cX10_readPlace 32 = .ok (.if_icmp .ne 5, 3) := by decide +kernel
theorem dX10_readPlace_35 : decode cX10_readPlace 35 = .ok (.iconst 0, 1) := by decide +kernel
theorem dX10_readPlace_36 : decode cX10_readPlace 36 = .ok (.ireturn, 1) := by decide +kernel
theorem dX10_readPlace_37 : decode cX10_readPlace 37 = .ok (.aload_n 0, 1) := by decide +kernel
theorem dX10_readPlace_38 : decode cX10_readPlace 38 = .ok (.getfield 12, 3) := by decide +kernel
theorem dX10_readPlace_41 : decode cX10_readPlace 41 = .ok (.getfield 158, 3) := by decide +kernel
theorem dX10_readPlace_44 : decode cX10_readPlace 44 = .ok (.lconst 0, 1) := by decide +kernel
theorem dX10_readPlace_45 : decode cX10_readPlace 45 = .ok (.invokevirtual 118, 3) := by decide +kernel
theorem dX10_readPlace_48 : decode cX10_readPlace 48 = .ok (.istore_n 3, 1) := by decide +kernel
theorem dX10_readPlace_49 : decode cX10_readPlace 49 = .ok (.aload_n 0, 1) := by decide +kernel
theorem dX10_readPlace_50 : decode cX10_readPlace 50 = .ok (.getfield 12, 3) := by decide +kernel
theorem dX10_readPlace_53 : decode cX10_readPlace 53 = .ok (.getfield 158, 3) := by decide +kernel
theorem dX10_readPlace_56 : decode cX10_readPlace 56 = .ok (.iload_n 3, 1) := by decide +kernel
theorem dX10_readPlace_57 : decode cX10_readPlace 57 = .ok (.iconst 2, 1) := by decide +kernel
theorem dX10_readPlace_58 : decode cX10_readPlace 58 = .ok (.iconst (-1), 1) := by decide +kernel
theorem dX10_readPlace_59 : decode cX10_readPlace 59 = .ok (.invokevirtual 125, 3) := by decide +kernel
theorem dX10_readPlace_62 : decode cX10_readPlace 62 = .ok (.aload_n 0, 1) := by decide +kernel
theorem dX10_readPlace_63 : decode cX10_readPlace 63 = .ok (.aload_n 1, 1) := by decide +kernel
theorem dX10_readPlace_64 : decode cX10_readPlace 64 = .ok (.aload_n 0, 1) := by decide +kernel
theorem dX10_readPlace_65 : decode cX10_readPlace 65 = .ok (.getfield 12, 3) := by decide +kernel
theorem dX10_readPlace_68 : decode cX10_readPlace 68 = .ok (.getfield 158, 3) := by decide +kernel
theorem dX10_readPlace_71 : decode cX10_readPlace 71 = .ok (.iload_n 3, 1) := by decide +kernel
theorem dX10_readPlace_72 : decode cX10_readPlace 72 = .ok (.invokevirtual 138, 3) := by decide +kernel
theorem dX10_readPlace_75 : decode cX10_readPlace 75 = .ok (.ifCond .ne 5, 3) := by decide +kernel
theorem dX10_readPlace_78 : decode cX10_readPlace 78 = .ok (.iconst 0, 1) := by decide +kernel
theorem dX10_readPlace_79 : decode cX10_readPlace 79 = .ok (.ireturn, 1) := by decide +kernel
theorem dX10_readPlace_80 : decode cX10_readPlace 80 = .ok (.aload_n 0, 1) := by decide +kernel
theorem dX10_readPlace_81 : decode cX10_readPlace 81 = .ok (.getfield 12, 3) := by decide +kernel
theorem dX10_readPlace_84 : decode cX10_readPlace 84 = .ok (.iload_n 2, 1) := by decide +kernel
theorem dX10_readPlace_85 : decode cX10_readPlace 85 = .ok (.aload_n 0, 1) := by decide +kernel
theorem dX10_readPlace_86 : decode cX10_readPlace 86 = .ok (.getfield 12, 3) := by decide +kernel
theorem dX10_readPlace_89 : decode cX10_readPlace 89 = .ok (.getfield 158, 3) := by decide +kernel
theorem dX10_readPlace_92 : decode cX10_readPlace 92 = .ok (.iload_n 3, 1) := by decide +kernel
theorem dX10_readPlace_93 : decode cX10_readPlace 93 = .ok (.iconst 0, 1) := by decide +kernel
theorem dX10_readPlace_94 : decode cX10_readPlace 94 = .ok (.invokevirtual 99, 3) := by decide +kernel
theorem dX10_readPlace_97 : decode cX10_readPlace 97 = .ok (.aload_n 0, 1) := by decide +kernel
theorem dX10_readPlace_98 : decode cX10_readPlace 98 = .ok (.getfield 12, 3) := by decide +kernel
theorem dX10_readPlace_101 : decode cX10_readPlace 101 = .ok (.getfield 158, 3) := by decide +kernel
theorem dX10_readPlace_104 : decode cX10_readPlace 104 = .ok (.iload_n 3, 1) := by decide +kernel
theorem dX10_readPlace_105 : decode cX10_readPlace 105 = .ok (.iconst 1, 1) := by decide +kernel
theorem dX10_readPlace_106 : decode cX10_readPlace 106 = .ok (.invokevirtual 99, 3) := by decide +kernel
theorem dX10_readPlace_109 : decode cX10_readPlace 109 = .ok (.invokevirtual 161, 3) := by decide +kernel
theorem dX10_readPlace_112 : decode cX10_readPlace 112 = .ok (.ifCond .eq 9, 3) := by decide +kernel
theorem dX10_readPlace_115 : decode cX10_readPlace 115 = .ok (.aload_n 1, 1) := by decide +kernel
theorem dX10_readPlace_116 : decode cX10_readPlace 116 = .ok (.iconst 3, 1) := by decide +kernel
theorem dX10_readPlace_117 : decode cX10_readPlace 117 = .ok (.invokevirtual 60, 3) := by decide +kernel
theorem dX10_readPlace_120 : decode cX10_readPlace 120 = .ok (.ireturn, 1) := by decide +kernel
theorem dX10_readPlace_121 : decode cX10_readPlace 121 = .ok (.aload_n 0, 1) := by decide +kernel
theorem dX10_readPlace_122 : decode cX10_readPlace 122 = .ok (.getfield 12, 3) := by decide +kernel
theorem dX10_readPlace_125 : decode cX10_readPlace 125 = .ok (.getfield 158, 3) := by decide +kernel
theorem dX10_readPlace_128 : decode cX10_readPlace 128 = .ok (.iload_n 3, 1) := by decide +kernel
theorem dX10_readPlace_129 : decode cX10_readPlace 129 = .ok (.iconst 2, 1) := by decide +kernel
theorem dX10_readPlace_130 : decode cX10_readPlace 130 = .ok (.iload_n 2, 1) := by decide +kernel
theorem dX10_readPlace_131 : decode cX10_readPlace 131 = .ok (.invokevirtual 125, 3) := by decide +kernel
theorem dX10_readPlace_134 : decode cX10_readPlace 134 = .ok (.aload_n 0, 1) := by decide +kernel
theorem dX10_readPlace_135 : decode cX10_readPlace 135 = .ok (.getfield 12, 3) := by decide +kernel
theorem dX10_readPlace_138 : decode cX10_readPlace 138 = .ok (.getfield 158, 3) := by decide +kernel
theorem dX10_readPlace_141 : decode cX10_readPlace 141 = .ok (.iload_n 3, 1) := by decide +kernel
theorem dX10_readPlace_142 : decode cX10_readPlace 142 = .ok (.iconst 4, 1) := by decide +kernel
theorem dX10_readPlace_143 : decode cX10_readPlace 143 = .ok (.iconst 0, 1) := by decide +kernel
theorem dX10_readPlace_144 : decode cX10_readPlace 144 = .ok (.invokevirtual 125, 3) := by decide +kernel
theorem dX10_readPlace_147 : decode cX10_readPlace 147 = .ok (.aload_n 1, 1) := by decide +kernel
theorem dX10_readPlace_148 : decode cX10_readPlace 148 = .ok (.invokevirtual 68, 3) := by decide +kernel
theorem dX10_readPlace_151 : decode cX10_readPlace 151 = .ok (.aload_n 1, 1) := by decide +kernel
theorem dX10_readPlace_152 : decode cX10_readPlace 152 = .ok (.invokevirtual 37, 3) := by decide +kernel
theorem dX10_readPlace_155 : decode cX10_readPlace 155 = .ok (.bipush 8, 2) := by decide +kernel
theorem dX10_readPlace_157 : decode cX10_readPlace 157 = .ok (.if_icmp .ne 12, 3) := by decide +kernel
theorem dX10_readPlace_160 : decode cX10_readPlace 160 = .ok (.aload_n 0, 1) := by decide +kernel
theorem dX10_readPlace_161 : decode cX10_readPlace 161 = .ok (.aload_n 1, 1) := by decide +kernel
theorem dX10_readPlace_162 : decode cX10_readPlace 162 = .ok (.iload_n 3, 1) := by decide +kernel
theorem dX10_readPlace_163 : decode cX10_readPlace 163 = .ok (.invokevirtual 165, 3) := by decide +kernel
theorem dX10_readPlace_166 : decode cX10_readPlace 166 = .ok (.goto 9, 3) := by decide +kernel
theorem dX10_readPlace_169 : decode cX10_readPlace 169 = .ok (.aload_n 0, 1) := by decide +kernel
theorem dX10_readPlace_170 : decode cX10_readPlace 170 = .ok (.aload_n 1, 1) := by decide +kernel
theorem dX10_readPlace_171 : decode cX10_readPlace 171 = .ok (.iload_n 3, 1) := by decide +kernel
theorem dX10_readPlace_172 : decode cX10_readPlace 172 = .ok (.invokevirtual 169, 3) := by decide +kernel
theorem dX10_readPlace_175 : decode cX10_readPlace 175 = .ok (.ireturn, 1) := by decide +kernel
theorem dX10_readRegister_0 : decode cX10_readRegister 0 = .ok (.aload_n 1, 1) := by decide +kernel
theorem dX10_readRegister_1 : decode cX10_readRegister 1 = .ok (.invokevirtual 68, 3) := by decide +kernel
theorem dX10_readRegister_4 : decode cX10_readRegister 4 = .ok (.aload_n 1, 1) := by decide +kernel
theorem dX10_readRegister_5 : decode cX10_readRegister 5 = .ok (.iconst 0, 1) := by decide +kernel
theorem dX10_readRegister_6 : decode cX10_readRegister 6 = .ok (.bipush 7, 2) := by decide +kernel
theorem dX10_readRegister_8 : decode cX10_readRegister 8 = .ok (.invokevirtual 71, 3) := by decide +kernel
theorem dX10_readRegister_11 : decode cX10_readRegister 11 = .ok (.ifCond .ne 5, 3) := by decide +kernel
theorem dX10_readRegister_14 : decode cX10_readRegister 14 = .ok (.iconst 0, 1) := by decide +kernel
theorem dX10_readRegister_15 : decode cX10_readRegister 15 = .ok (.ireturn, 1) := by decide +kernel
theorem dX10_readRegister_16 : decode cX10_readRegister 16 = .ok (.aload_n 0, 1) := by decide +kernel
theorem dX10_readRegister_17 : decode cX10_readRegister 17 = .ok (.iload_n 2, 1) := by decide +kernel
theorem dX10_readRegister_18 : decode cX10_readRegister 18 = .ok (.bipush 10, 2) := by decide +kernel
theorem dX10_readRegister_20 : decode cX10_readRegister 20 = .ok (.aload_n 1, 1) := by decide +kernel
theorem dX10_readRegister_21 : decode cX10_readRegister 21 = .ok (.getfield 75, 3) := by decide +kernel
theorem dX10_readRegister_24 : decode cX10_readRegister 24 = .ok (.invokevirtual 174, 3) := by decide +kernel
theorem dX10_readRegister_27 : decode cX10_readRegister 27 = .ok (.aload_n 0, 1) := by decide +kernel
theorem dX10_readRegister_28 : decode cX10_readRegister 28 = .ok (.getfield 12, 3) := by decide +kernel
theorem dX10_readRegister_31 : decode cX10_readRegister 31 = .ok (.getfield 158, 3) := by decide +kernel
theorem dX10_readRegister_34 : decode cX10_readRegister 34 = .ok (.iload_n 2, 1) := by decide +kernel
theorem dX10_readRegister_35 : decode cX10_readRegister 35 = .ok (.iconst 3, 1) := by decide +kernel
theorem dX10_readRegister_36 : decode cX10_readRegister 36 = .ok (.iconst 1, 1) := by decide +kernel
theorem dX10_readRegister_37 : decode cX10_readRegister 37 = .ok (.invokevirtual 125, 3) := by decide +kernel
theorem dX10_readRegister_40 : decode cX10_readRegister 40 = .ok (.aload_n 1, 1) := by decide +kernel
theorem dX10_readRegister_41 : decode cX10_readRegister 41 = .ok (.invokevirtual 68, 3) := by decide +kernel
theorem dX10_readRegister_44 : decode cX10_readRegister 44 = .ok (.iconst 1, 1) := by decide +kernel
theorem dX10_readRegister_45 : decode cX10_readRegister 45 = .ok (.ireturn, 1) := by decide +kernel
theorem dX10_readOps_0 : decode cX10_readOps 0 = .ok (.aload_n 0, 1) := by decide +kernel
theorem dX10_readOps_1 : decode cX10_readOps 1 = .ok (.iconst 0, 1) := by decide +kernel
theorem dX10_readOps_2 : decode cX10_readOps 2 = .ok (.putfield 22, 3) := by decide +kernel
theorem dX10_readOps_5 : decode cX10_readOps 5 = .ok (.aload_n 0, 1) := by decide +kernel
theorem dX10_readOps_6 : decode cX10_readOps 6 = .ok (.getfield 12, 3) := by decide +kernel
theorem dX10_readOps_9 : decode cX10_readOps 9 = .ok (.getfield 158, 3) := by decide +kernel
theorem dX10_readOps_12 : decode cX10_readOps 12 = .ok (.iload_n 2, 1) := by decide +kernel
theorem dX10_readOps_13 : decode cX10_readOps 13 = .ok (.iconst 3, 1) := by decide +kernel
theorem dX10_readOps_14 : decode cX10_readOps 14 = .ok (.iconst 0, 1) := by decide +kernel
theorem dX10_readOps_15 : decode cX10_readOps 15 = .ok (.invokevirtual 125, 3) := by decide +kernel
theorem dX10_readOps_18 : decode cX10_readOps 18 = .ok (.aload_n 0, 1) := by decide +kernel
theorem dX10_readOps_19 : decode cX10_readOps 19 = .ok (.aload_n 1, 1) := by decide +kernel
theorem dX10_readOps_20 : decode cX10_readOps 20 = .ok (.iload_n 2, 1) := by decide +kernel
theorem dX10_readOps_21 : decode cX10_readOps 21 = .ok (.invokevirtual 177, 3) := by decide +kernel
theorem dX10_readOps_24 : decode cX10_readOps 24 = .ok (.ifCond .ne 5, 3) := by decide +kernel
theorem dX10_readOps_27 : decode cX10_readOps 27 = .ok (.iconst 0, 1) := by decide +kernel
theorem dX10_readOps_28 : decode cX10_readOps 28 = .ok (.ireturn, 1) := by decide +kernel
theorem dX10_readOps_29 : decode cX10_readOps 29 = .ok (.iconst 0, 1) := by decide +kernel
theorem dX10_readOps_30 : decode cX10_readOps 30 = .ok (.istore_n 3, 1) := by decide +kernel
theorem dX10_readOps_31 : decode cX10_readOps 31 = .ok (.iload_n 3, 1) := by decide +kernel
theorem dX10_readOps_32 : decode cX10_readOps 32 = .ok (.bipush 8, 2) := by decide +kernel
theorem dX10_readOps_34 : decode cX10_readOps 34 = .ok (.if_icmp .gt 57, 3) := by decide +kernel
theorem dX10_readOps_37 : decode cX10_readOps 37 = .ok (.aload_n 1, 1) := by decide +kernel
theorem dX10_readOps_38 : decode cX10_readOps 38 = .ok (.bipush 59, 2) := by decide +kernel
theorem dX10_readOps_40 : decode cX10_readOps 40 = .ok (.invokevirtual 180, 3) := by decide +kernel
theorem dX10_readOps_43 : decode cX10_readOps 43 = .ok (.ifCond .ne 48, 3) := by decide +kernel
theorem dX10_readOps_46 : decode cX10_readOps 46 = .ok (.aload_n 1, 1) := by decide +kernel
theorem dX10_readOps_47 : decode cX10_readOps 47 = .ok (.invokevirtual 37, 3) := by decide +kernel
theorem dX10_readOps_50 : decode cX10_readOps 50 = .ok (.bipush 9, 2) := by decide +kernel
theorem dX10_readOps_52 : decode cX10_readOps 52 = .ok (.if_icmp .ne 22, 3) := by decide +kernel
theorem dX10_readOps_55 : decode cX10_readOps 55 = .ok (.aload_n 0, 1) := by decide +kernel
theorem dX10_readOps_56 : decode cX10_readOps 56 = .ok (.getfield 12, 3) := by decide +kernel
theorem dX10_readOps_59 : decode cX10_readOps 59 = .ok (.getfield 158, 3) := by decide +kernel
theorem dX10_readOps_62 : decode cX10_readOps 62 = .ok (.iload_n 2, 1) := by decide +kernel
theorem dX10_readOps_63 : decode cX10_readOps 63 = .ok (.iconst 3, 1) := by decide +kernel
theorem dX10_readOps_64 : decode cX10_readOps 64 = .ok (.iconst 1, 1) := by decide +kernel
theorem dX10_readOps_65 : decode cX10_readOps 65 = .ok (.invokevirtual 125, 3) := by decide +kernel
theorem dX10_readOps_68 : decode cX10_readOps 68 = .ok (.aload_n 1, 1) := by decide +kernel
theorem dX10_readOps_69 : decode cX10_readOps 69 = .ok (.invokevirtual 68, 3) := by decide +kernel
theorem dX10_readOps_72 : decode cX10_readOps 72 = .ok (.iconst 1, 1) := by decide +kernel
theorem dX10_readOps_73 : decode cX10_readOps 73 = .ok (.ireturn, 1) := by decide +kernel
theorem dX10_readOps_74 : decode cX10_readOps 74 = .ok (.aload_n 0, 1) := by decide +kernel
theorem dX10_readOps_75 : decode cX10_readOps 75 = .ok (.aload_n 1, 1) := by decide +kernel
theorem dX10_readOps_76 : decode cX10_readOps 76 = .ok (.iload_n 2, 1) := by decide +kernel
theorem dX10_readOps_77 : decode cX10_readOps 77 = .ok (.invokevirtual 177, 3) := by decide +kernel
theorem dX10_readOps_80 : decode cX10_readOps 80 = .ok (.ifCond .ne 5, 3) := by decide +kernel
theorem dX10_readOps_83 : decode cX10_readOps 83 = .ok (.iconst 0, 1) := by decide +kernel
theorem dX10_readOps_84 : decode cX10_readOps 84 = .ok (.ireturn, 1) := by decide +kernel
theorem dX10_readOps_85 : decode cX10_readOps 85 = .ok (.iinc 3 1, 3) := by decide +kernel
theorem dX10_readOps_88 : decode cX10_readOps 88 = .ok (.goto (-57), 3) := by decide +kernel
theorem dX10_readOps_91 : decode cX10_readOps 91 = .ok (.iconst 1, 1) := by decide +kernel
theorem dX10_readOps_92 : decode cX10_readOps 92 = .ok (.ireturn, 1) := by decide +kernel
theorem dX10_readOp_0 : decode cX10_readOp 0 = .ok (.aload_n 1, 1) := by decide +kernel
theorem dX10_readOp_1 : decode cX10_readOp 1 = .ok (.getfield 34, 3) := by decide +kernel
theorem dX10_readOp_4 : decode cX10_readOp 4 = .ok (.iconst 2, 1) := by decide +kernel
theorem dX10_readOp_5 : decode cX10_readOp 5 = .ok (.if_icmp .ne 8, 3) := by decide +kernel
theorem dX10_readOp_8 : decode cX10_readOp 8 = .ok (.bipush 100, 2) := by decide +kernel
theorem dX10_readOp_10 : decode cX10_readOp 10 = .ok (.goto 7, 3) := by decide +kernel
theorem dX10_readOp_13 : decode cX10_readOp 13 = .ok (.aload_n 1, 1) := by decide +kernel
theorem dX10_readOp_14 : decode cX10_readOp 14 = .ok (.invokevirtual 37, 3) := by decide +kernel
theorem dX10_readOp_17 : decode cX10_readOp 17 = .ok (.istore_n 3, 1) := by decide +kernel
theorem dX10_readOp_18 : decode cX10_readOp 18 = .ok (.iload_n 3, 1) := by decide +kernel
theorem dX10_readOp_19 : decode cX10_readOp 19 = .ok (.invokestatic 183, 3) := by decide +kernel
theorem dX10_readOp_22 : decode cX10_readOp 22 = .ok (.istore 4, 2) := by decide +kernel
theorem dX10_readOp_24 : decode cX10_readOp 24 = .ok (.iload 4, 2) := by decide +kernel
theorem dX10_readOp_26 : decode cX10_readOp 26 = .ok (.iconst (-1), 1) := by decide +kernel
theorem dX10_readOp_27 : decode cX10_readOp 27 = .ok (.if_icmp .ne 9, 3) := by decide +kernel
theorem dX10_readOp_30 : decode cX10_readOp 30 = .ok (.aload_n 1, 1) := by decide +kernel
theorem dX10_readOp_31 : decode cX10_readOp 31 = .ok (.iconst 1, 1) := by decide +kernel
theorem dX10_readOp_32 : decode cX10_readOp 32 = .ok (.invokevirtual 60, 3) := by decide +kernel
theorem dX10_readOp_35 : decode cX10_readOp 35 = .ok (.ireturn, 1) := by decide +kernel
theorem dX10_readOp_36 : decode cX10_readOp 36 = .ok (.aload_n 0, 1) := by decide +kernel
theorem dX10_readOp_37 : decode cX10_readOp 37 = .ok (.getfield 12, 3) := by decide +kernel
theorem dX10_readOp_40 : decode cX10_readOp 40 = .ok (.getfield 158, 3) := by decide +kernel
theorem dX10_readOp_43 : decode cX10_readOp 43 = .ok (.iload_n 2, 1) := by decide +kernel
theorem dX10_readOp_44 : decode cX10_readOp 44 = .ok (.iconst 4, 1) := by decide +kernel
theorem dX10_readOp_45 : decode cX10_readOp 45 = .ok (.invokevirtual 99, 3) := by decide +kernel
theorem dX10_readOp_48 : decode cX10_readOp 48 = .ok (.bipush 8, 2) := by decide +kernel
theorem dX10_readOp_50 : decode cX10_readOp 50 = .ok (.if_icmp .lt 9, 3) := by decide +kernel
theorem dX10_readOp_53 : decode cX10_readOp 53 = .ok (.aload_n 1, 1) := by decide +kernel
theorem dX10_readOp_54 : decode cX10_readOp 54 = .ok (.iconst 4, 1) := by decide +kernel
theorem dX10_readOp_55 : decode cX10_readOp 55 = .ok (.invokevirtual 60, 3) := by decide +kernel
theorem dX10_readOp_58 : decode cX10_readOp 58 = .ok (.ireturn, 1) := by decide +kernel
theorem dX10_readOp_59 : decode cX10_readOp 59 = .ok (.aload_n 0, 1) := by decide +kernel
theorem dX10_readOp_60 : decode cX10_readOp 60 = .ok (.getfield 22, 3) := by decide +kernel
theorem dX10_readOp_63 : decode cX10_readOp 63 = .ok (.iload 4, 2) := by decide +kernel
theorem dX10_readOp_65 : decode cX10_readOp 65 = .ok (.if_icmp .ge 9, 3) := by decide +kernel
theorem dX10_readOp_68 : decode cX10_readOp 68 = .ok (.aload_n 1, 1) := by decide +kernel
theorem dX10_readOp_69 : decode cX10_readOp 69 = .ok (.iconst 5, 1) := by decide +kernel
theorem dX10_readOp_70 : decode cX10_readOp 70 = .ok (.invokevirtual 60, 3) := by decide +kernel
theorem dX10_readOp_73 : decode cX10_readOp 73 = .ok (.ireturn, 1) := by decide +kernel
theorem dX10_readOp_74 : decode cX10_readOp 74 = .ok (.iload_n 3, 1) := by decide +kernel
theorem dX10_readOp_75 : decode cX10_readOp 75 = .ok (.bipush 10, 2) := by decide +kernel
theorem dX10_readOp_77 : decode cX10_readOp 77 = .ok (.if_icmp .ne 19, 3) := by decide +kernel
theorem dX10_readOp_80 : decode cX10_readOp 80 = .ok (.aload_n 1, 1) := by decide +kernel
theorem dX10_readOp_81 : decode cX10_readOp 81 = .ok (.invokevirtual 68, 3) := by decide +kernel
theorem dX10_readOp_84 : decode cX10_readOp 84 = .ok (.aload_n 1, 1) := by decide +kernel
theorem dX10_readOp_85 : decode cX10_readOp 85 = .ok (.iconst 0, 1) := by decide +kernel
theorem dX10_readOp_86 : decode cX10_readOp 86 = .ok (.bipush 7, 2) := by decide +kernel
theorem dX10_readOp_88 : decode cX10_readOp 88 = .ok (.invokevirtual 71, 3) := by decide +kernel
theorem dX10_readOp_91 : decode cX10_readOp 91 = .ok (.ifCond .ne 5, 3) := by decide +kernel
theorem dX10_readOp_94 : decode cX10_readOp 94 = .ok (.iconst 0, 1) := by decide +kernel
theorem dX10_readOp_95 : decode cX10_readOp 95 = .ok (.ireturn, 1) := by decide +kernel
theorem dX10_readOp_96 : decode cX10_readOp 96 = .ok (.aload_n 0, 1) := by decide +kernel
theorem dX10_readOp_97 : decode cX10_readOp 97 = .ok (.iload_n 2, 1) := by decide +kernel
theorem dX10_readOp_98 : decode cX10_readOp 98 = .ok (.iload_n 3, 1) := by decide +kernel
theorem dX10_readOp_99 : decode cX10_readOp 99 = .ok (.aload_n 1, 1) := by decide +kernel
theorem dX10_readOp_100 : decode cX10_readOp 100 = .ok (.getfield 75, 3) := by decide +kernel
theorem dX10_readOp_103 : decode cX10_readOp 103 = .ok (.invokevirtual 174, 3) := by decide +kernel
theorem dX10_readOp_106 : decode cX10_readOp 106 = .ok (.aload_n 0, 1) := by decide +kernel
theorem dX10_readOp_107 : decode cX10_readOp 107 = .ok (.dup, 1) := by decide +kernel
theorem dX10_readOp_108 : decode cX10_readOp 108 = .ok (.getfield 22, 3) := by decide +kernel
theorem dX10_readOp_111 : decode cX10_readOp 111 = .ok (.iload_n 3, 1) := by decide +kernel
theorem dX10_readOp_112 : decode cX10_readOp 112 = .ok (.invokestatic 186, 3) := by decide +kernel
theorem dX10_readOp_115 : decode cX10_readOp 115 = .ok (.iadd, 1) := by decide +kernel
theorem dX10_readOp_116 : decode cX10_readOp 116 = .ok (.putfield 22, 3) := by decide +kernel
theorem dX10_readOp_119 : decode cX10_readOp 119 = .ok (.aload_n 1, 1) := by decide +kernel
theorem dX10_readOp_120 : decode cX10_readOp 120 = .ok (.invokevirtual 68, 3) := by decide +kernel
theorem dX10_readOp_123 : decode cX10_readOp 123 = .ok (.iconst 1, 1) := by decide +kernel
theorem dX10_readOp_124 : decode cX10_readOp 124 = .ok (.ireturn, 1) := by decide +kernel
theorem dX10_addOp_0 : decode cX10_addOp 0 = .ok (.aload_n 0, 1) := by decide +kernel
theorem dX10_addOp_1 : decode cX10_addOp 1 = .ok (.getfield 12, 3) := by decide +kernel
theorem dX10_addOp_4 : decode cX10_addOp 4 = .ok (.getfield 158, 3) := by decide +kernel
theorem dX10_addOp_7 : decode cX10_addOp 7 = .ok (.iload_n 1, 1) := by decide +kernel
theorem dX10_addOp_8 : decode cX10_addOp 8 = .ok (.iconst 4, 1) := by decide +kernel
theorem dX10_addOp_9 : decode cX10_addOp 9 = .ok (.invokevirtual 99, 3) := by decide +kernel
theorem dX10_addOp_12 : decode cX10_addOp 12 = .ok (.istore 4, 2) := by decide +kernel
theorem dX10_addOp_14 : decode cX10_addOp 14 = .ok (.aload_n 0, 1) := by decide +kernel
theorem dX10_addOp_15 : decode cX10_addOp 15 = .ok (.getfield 12, 3) := by decide +kernel
theorem dX10_addOp_18 : decode cX10_addOp 18 = .ok (.getfield 158, 3) := by decide +kernel
theorem dX10_addOp_21 : decode cX10_addOp 21 = .ok (.iload_n 1, 1) := by decide +kernel
theorem dX10_addOp_22 : decode cX10_addOp 22 = .ok (.iconst 5, 1) := by decide +kernel
theorem dX10_addOp_23 : decode cX10_addOp 23 = .ok (.iconst 2, 1) := by decide +kernel
theorem dX10_addOp_24 : decode cX10_addOp 24 = .ok (.iload 4, 2) := by decide +kernel
theorem dX10_addOp_26 : decode cX10_addOp 26 = .ok (.imul, 1) := by decide +kernel
theorem dX10_addOp_27 : decode cX10_addOp 27 = .ok (.iadd, 1) := by decide +kernel
theorem dX10_addOp_28 : decode cX10_addOp 28 = .ok (.iload_n 2, 1) := by decide +kernel
theorem dX10_addOp_29 : decode cX10_addOp 29 = .ok (.invokevirtual 125, 3) := by decide +kernel
theorem dX10_addOp_32 : decode cX10_addOp 32 = .ok (.aload_n 0, 1) := by decide +kernel
theorem dX10_addOp_33 : decode cX10_addOp 33 = .ok (.getfield 12, 3) := by decide +kernel
theorem dX10_addOp_36 : decode cX10_addOp 36 = .ok (.getfield 158, 3) := by decide +kernel
theorem dX10_addOp_39 : decode cX10_addOp 39 = .ok (.iload_n 1, 1) := by decide +kernel
theorem dX10_addOp_40 : decode cX10_addOp 40 = .ok (.iconst 5, 1) := by decide +kernel
theorem dX10_addOp_41 : decode cX10_addOp 41 = .ok (.iconst 2, 1) := by decide +kernel
theorem dX10_addOp_42 : decode cX10_addOp 42 = .ok (.iload 4, 2) := by decide +kernel
theorem dX10_addOp_44 : decode cX10_addOp 44 = .ok (.imul, 1) := by decide +kernel
theorem dX10_addOp_45 : decode cX10_addOp 45 = .ok (.iadd, 1) := by decide +kernel
theorem dX10_addOp_46 : decode cX10_addOp 46 = .ok (.iconst 1, 1) := by decide +kernel
theorem dX10_addOp_47 : decode cX10_addOp 47 = .ok (.iadd, 1) := by decide +kernel
theorem dX10_addOp_48 : decode cX10_addOp 48 = .ok (.iload_n 3, 1) := by decide +kernel
theorem dX10_addOp_49 : decode cX10_addOp 49 = .ok (.invokevirtual 125, 3) := by decide +kernel
theorem dX10_addOp_52 : decode cX10_addOp 52 = .ok (.aload_n 0, 1) := by decide +kernel
theorem dX10_addOp_53 : decode cX10_addOp 53 = .ok (.getfield 12, 3) := by decide +kernel
theorem dX10_addOp_56 : decode cX10_addOp 56 = .ok (.getfield 158, 3) := by decide +kernel
theorem dX10_addOp_59 : decode cX10_addOp 59 = .ok (.iload_n 1, 1) := by decide +kernel
theorem dX10_addOp_60 : decode cX10_addOp 60 = .ok (.iconst 4, 1) := by decide +kernel
theorem dX10_addOp_61 : decode cX10_addOp 61 = .ok (.iload 4, 2) := by decide +kernel
theorem dX10_addOp_63 : decode cX10_addOp 63 = .ok (.iconst 1, 1) := by decide +kernel
theorem dX10_addOp_64 : decode cX10_addOp 64 = .ok (.iadd, 1) := by decide +kernel
theorem dX10_addOp_65 : decode cX10_addOp 65 = .ok (.invokevirtual 125, 3) := by decide +kernel
theorem dX10_addOp_68 : decode cX10_addOp 68 = .ok (.return_, 1) := by decide +kernel
theorem dX10_needsOf_0 : decode cX10_needsOf 0 = .ok (.iload_n 0, 1) := by decide +kernel
theorem dX10_needsOf_1 : decode cX10_needsOf 1 = .ok (.lookupswitch 81 #[(10, 75), (11, 79), (12, 79), (13, 79), (14, 77), (15, 77), (16, 79), (100, 75)], 75) := by decide +kernel
theorem dX10_needsOf_76 : decode cX10_needsOf 76 = .ok (.iconst 0, 1) := by decide +kernel
theorem dX10_needsOf_77 : decode cX10_needsOf 77 = .ok (.ireturn, 1) := by decide +kernel
theorem dX10_needsOf_78 : decode cX10_needsOf 78 = .ok (.iconst 1, 1) := by decide +kernel
theorem dX10_needsOf_79 : decode cX10_needsOf 79 = .ok (.ireturn, 1) := by decide +kernel
theorem dX10_needsOf_80 : decode cX10_needsOf 80 = .ok (.iconst 2, 1) := by decide +kernel
theorem dX10_needsOf_81 : decode cX10_needsOf 81 = .ok (.ireturn, 1) := by decide +kernel
theorem dX10_needsOf_82 : decode cX10_needsOf 82 = .ok (.iconst (-1), 1) := by decide +kernel
theorem dX10_needsOf_83 : decode cX10_needsOf 83 = .ok (.ireturn, 1) := by decide +kernel
theorem dX10_growthOf_0 : decode cX10_growthOf 0 = .ok (.iload_n 0, 1) := by decide +kernel
theorem dX10_growthOf_1 : decode cX10_growthOf 1 = .ok (.lookupswitch 55 #[(10, 51), (14, 53), (15, 51), (16, 53), (100, 51)], 51) := by decide +kernel
theorem dX10_growthOf_52 : decode cX10_growthOf 52 = .ok (.iconst 1, 1) := by decide +kernel
theorem dX10_growthOf_53 : decode cX10_growthOf 53 = .ok (.ireturn, 1) := by decide +kernel
theorem dX10_growthOf_54 : decode cX10_growthOf 54 = .ok (.iconst 0, 1) := by decide +kernel
theorem dX10_growthOf_55 : decode cX10_growthOf 55 = .ok (.ireturn, 1) := by decide +kernel
theorem dX10_growthOf_56 : decode cX10_growthOf 56 = .ok (.iconst (-1), 1) := by decide +kernel
theorem dX10_growthOf_57 : decode cX10_growthOf 57 = .ok (.ireturn, 1) := by decide +kernel
theorem dX11_init_0 : decode cX11_init 0 = .ok (.aload_n 0, 1) := by decide +kernel
theorem dX11_init_1 : decode cX11_init 1 = .ok (.invokespecial 1, 3) := by decide +kernel
theorem dX11_init_4 : decode cX11_init 4 = .ok (.aload_n 0, 1) := by decide +kernel
theorem dX11_init_5 : decode cX11_init 5 = .ok (.new 7, 3) := by decide +kernel
theorem dX11_init_8 : decode cX11_init 8 = .ok (.dup, 1) := by decide +kernel
theorem dX11_init_9 : decode cX11_init 9 = .ok (.invokespecial 9, 3) := by decide +kernel
theorem dX11_init_12 : decode cX11_init 12 = .ok (.putfield 10, 3) := by decide +kernel
theorem dX11_init_15 : decode cX11_init 15 = .ok (.aload_n 0, 1) := by decide +kernel
theorem dX11_init_16 : decode cX11_init 16 = .ok (.new 16, 3) := by decide +kernel
theorem dX11_init_19 : decode cX11_init 19 = .ok (.dup, 1) := by decide +kernel
theorem dX11_init_20 : decode cX11_init 20 = .ok (.invokespecial 18, 3) := by decide +kernel
theorem dX11_init_23 : decode cX11_init 23 = .ok (.putfield 19, 3) := by decide +kernel
theorem dX11_init_26 : decode cX11_init 26 = .ok (.aload_n 0, 1) := by decide +kernel
theorem dX11_init_27 : decode cX11_init 27 = .ok (.new 23, 3) := by decide +kernel
theorem dX11_init_30 : decode cX11_init 30 = .ok (.dup, 1) := by decide +kernel
theorem dX11_init_31 : decode cX11_init 31 = .ok (.invokespecial 25, 3) := by decide +kernel
theorem dX11_init_34 : decode cX11_init 34 = .ok (.putfield 26, 3) := by decide +kernel
theorem dX11_init_37 : decode cX11_init 37 = .ok (.aload_n 0, 1) := by decide +kernel
theorem dX11_init_38 : decode cX11_init 38 = .ok (.new 23, 3) := by decide +kernel
theorem dX11_init_41 : decode cX11_init 41 = .ok (.dup, 1) := by decide +kernel
theorem dX11_init_42 : decode cX11_init 42 = .ok (.invokespecial 25, 3) := by decide +kernel
theorem dX11_init_45 : decode cX11_init 45 = .ok (.putfield 30, 3) := by decide +kernel
theorem dX11_init_48 : decode cX11_init 48 = .ok (.aload_n 0, 1) := by decide +kernel
theorem dX11_init_49 : decode cX11_init 49 = .ok (.bipush 8, 2) := by decide +kernel
theorem dX11_init_51 : decode cX11_init 51 = .ok (.anewarray 23, 3) := by decide +kernel
theorem dX11_init_54 : decode cX11_init 54 = .ok (.putfield 33, 3) := by decide +kernel
theorem dX11_init_57 : decode cX11_init 57 = .ok (.aload_n 0, 1) := by decide +kernel
theorem dX11_init_58 : decode cX11_init 58 = .ok (.iconst 0, 1) := by decide +kernel
theorem dX11_init_59 : decode cX11_init 59 = .ok (.putfield 37, 3) := by decide +kernel
theorem dX11_init_62 : decode cX11_init 62 = .ok (.aload_n 0, 1) := by decide +kernel
theorem dX11_init_63 : decode cX11_init 63 = .ok (.new 41, 3) := by decide +kernel
theorem dX11_init_66 : decode cX11_init 66 = .ok (.dup, 1) := by decide +kernel
theorem dX11_init_67 : decode cX11_init 67 = .ok (.invokespecial 43, 3) := by decide +kernel
theorem dX11_init_70 : decode cX11_init 70 = .ok (.putfield 44, 3) := by decide +kernel
theorem dX11_init_73 : decode cX11_init 73 = .ok (.aload_n 0, 1) := by decide +kernel
theorem dX11_init_74 : decode cX11_init 74 = .ok (.new 48, 3) := by decide +kernel
theorem dX11_init_77 : decode cX11_init 77 = .ok (.dup, 1) := by decide +kernel
theorem dX11_init_78 : decode cX11_init 78 = .ok (.invokespecial 50, 3) := by decide +kernel
theorem dX11_init_81 : decode cX11_init 81 = .ok (.putfield 51, 3) := by decide +kernel
theorem dX11_init_84 : decode cX11_init 84 = .ok (.aload_n 0, 1) := by decide +kernel
theorem dX11_init_85 : decode cX11_init 85 = .ok (.new 55, 3) := by decide +kernel
theorem dX11_init_88 : decode cX11_init 88 = .ok (.dup, 1) := by decide +kernel
theorem dX11_init_89 : decode cX11_init 89 = .ok (.invokespecial 57, 3) := by decide +kernel
theorem dX11_init_92 : decode cX11_init 92 = .ok (.putfield 58, 3) := by decide +kernel
theorem dX11_init_95 : decode cX11_init 95 = .ok (.aload_n 0, 1) := by decide +kernel
theorem dX11_init_96 : decode cX11_init 96 = .ok (.new 62, 3) := by decide +kernel
theorem dX11_init_99 : decode cX11_init 99 = .ok (.dup, 1) := by decide +kernel
theorem dX11_init_100 : decode cX11_init 100 = .ok (.invokespecial 64, 3) := by decide +kernel
theorem dX11_init_103 : decode cX11_init 103 = .ok (.putfield 65, 3) := by decide +kernel
theorem dX11_init_106 : decode cX11_init 106 = .ok (.aload_n 0, 1) := by decide +kernel
theorem dX11_init_107 : decode cX11_init 107 = .ok (.new 69, 3) := by decide +kernel
theorem dX11_init_110 : decode cX11_init 110 = .ok (.dup, 1) := by decide +kernel
theorem dX11_init_111 : decode cX11_init 111 = .ok (.invokespecial 71, 3) := by decide +kernel
theorem dX11_init_114 : decode cX11_init 114 = .ok (.putfield 72, 3) := by decide +kernel
theorem dX11_init_117 : decode cX11_init 117 = .ok (.aload_n 0, 1) := by decide +kernel
theorem dX11_init_118 : decode cX11_init 118 = .ok (.new 76, 3) := by decide +kernel
theorem dX11_init_121 : decode cX11_init 121 = .ok (.dup, 1) := by decide +kernel
theorem dX11_init_122 : decode cX11_init 122 = .ok (.invokespecial 78, 3) := by decide +kernel
theorem dX11_init_125 : decode cX11_init 125 = .ok (.putfield 79, 3) := by decide +kernel
theorem dX11_init_128 : decode cX11_init 128 = .ok (.aload_n 0, 1) := by decide +kernel
theorem dX11_init_129 : decode cX11_init 129 = .ok (.new 83, 3) := by decide +kernel
theorem dX11_init_132 : decode cX11_init 132 = .ok (.dup, 1) := by decide +kernel
theorem dX11_init_133 : decode cX11_init 133 = .ok (.invokespecial 85, 3) := by decide +kernel
theorem dX11_init_136 : decode cX11_init 136 = .ok (.putfield 86, 3) := by decide +kernel
theorem dX11_init_139 : decode cX11_init 139 = .ok (.aload_n 0, 1) := by decide +kernel
theorem dX11_init_140 : decode cX11_init 140 = .ok (.iconst 2, 1) := by decide +kernel
theorem dX11_init_141 : decode cX11_init 141 = .ok (.anewarray 16, 3) := by decide +kernel
theorem dX11_init_144 : decode cX11_init 144 = .ok (.putfield 90, 3) := by decide +kernel
theorem dX11_init_147 : decode cX11_init 147 = .ok (.aload_n 0, 1) := by decide +kernel
theorem dX11_init_148 : decode cX11_init 148 = .ok (.iconst 2, 1) := by decide +kernel
theorem dX11_init_149 : decode cX11_init 149 = .ok (.anewarray 23, 3) := by decide +kernel
theorem dX11_init_152 : decode cX11_init 152 = .ok (.putfield 94, 3) := by decide +kernel
theorem dX11_init_155 : decode cX11_init 155 = .ok (.aload_n 0, 1) := by decide +kernel
theorem dX11_init_156 : decode cX11_init 156 = .ok (.iconst 2, 1) := by decide +kernel
theorem dX11_init_157 : decode cX11_init 157 = .ok (.anewarray 55, 3) := by decide +kernel
theorem dX11_init_160 : decode cX11_init 160 = .ok (.putfield 97, 3) := by decide +kernel
theorem dX11_init_163 : decode cX11_init 163 = .ok (.aload_n 0, 1) := by decide +kernel
theorem dX11_init_164 : decode cX11_init 164 = .ok (.iconst 2, 1) := by decide +kernel
theorem dX11_init_165 : decode cX11_init 165 = .ok (.newarray .boolean, 2) := by decide +kernel
theorem dX11_init_167 : decode cX11_init 167 = .ok (.putfield 101, 3) := by decide +kernel
theorem dX11_init_170 : decode cX11_init 170 = .ok (.aload_n 0, 1) := by decide +kernel
theorem dX11_init_171 : decode cX11_init 171 = .ok (.new 105, 3) := by decide +kernel
theorem dX11_init_174 : decode cX11_init 174 = .ok (.dup, 1) := by decide +kernel
theorem dX11_init_175 : decode cX11_init 175 = .ok (.bipush 10, 2) := by decide +kernel
theorem dX11_init_177 : decode cX11_init 177 = .ok (.iconst 2, 1) := by decide +kernel
theorem dX11_init_178 : decode cX11_init 178 = .ok (.invokespecial 107, 3) := by decide +kernel
theorem dX11_init_181 : decode cX11_init 181 = .ok (.putfield 110, 3) := by decide +kernel
theorem dX11_init_184 : decode cX11_init 184 = .ok (.aload_n 0, 1) := by decide +kernel
theorem dX11_init_185 : decode cX11_init 185 = .ok (.new 105, 3) := by decide +kernel
theorem dX11_init_188 : decode cX11_init 188 = .ok (.dup, 1) := by decide +kernel
theorem dX11_init_189 : decode cX11_init 189 = .ok (.bipush 40, 2) := by decide +kernel
theorem dX11_init_191 : decode cX11_init 191 = .ok (.iconst 1, 1) := by decide +kernel
theorem dX11_init_192 : decode cX11_init 192 = .ok (.invokespecial 107, 3) := by decide +kernel
theorem dX11_init_195 : decode cX11_init 195 = .ok (.putfield 114, 3) := by decide +kernel
theorem dX11_init_198 : decode cX11_init 198 = .ok (.aload_n 0, 1) := by decide +kernel
theorem dX11_init_199 : decode cX11_init 199 = .ok (.new 105, 3) := by decide +kernel
theorem dX11_init_202 : decode cX11_init 202 = .ok (.dup, 1) := by decide +kernel
theorem dX11_init_203 : decode cX11_init 203 = .ok (.iconst 1, 1) := by decide +kernel
theorem dX11_init_204 : decode cX11_init 204 = .ok (.iconst 4, 1) := by decide +kernel
theorem dX11_init_205 : decode cX11_init 205 = .ok (.invokespecial 107, 3) := by decide +kernel
theorem dX11_init_208 : decode cX11_init 208 = .ok (.putfield 117, 3) := by decide +kernel
theorem dX11_init_211 : decode cX11_init 211 = .ok (.iconst 0, 1) := by decide +kernel
theorem dX11_init_212 : decode cX11_init 212 = .ok (.istore_n 1, 1) := by decide +kernel
theorem dX11_init_213 : decode cX11_init 213 = .ok (.iload_n 1, 1) := by decide +kernel
theorem dX11_init_214 : decode cX11_init 214 = .ok (.aload_n 0, 1) := by decide +kernel
theorem dX11_init_215 : decode cX11_init 215 = .ok (.getfield 33, 3) := by decide +kernel
theorem dX11_init_218 : decode cX11_init 218 = .ok (.arraylength, 1) := by decide +kernel
theorem dX11_init_219 : decode cX11_init 219 = .ok (.if_icmp .ge 22, 3) := by decide +kernel
theorem dX11_init_222 : decode cX11_init 222 = .ok (.aload_n 0, 1) := by decide +kernel
theorem dX11_init_223 : decode cX11_init 223 = .ok (.getfield 33, 3) := by decide +kernel
theorem dX11_init_226 : decode cX11_init 226 = .ok (.iload_n 1, 1) := by decide +kernel
theorem dX11_init_227 : decode cX11_init 227 = .ok (.new 23, 3) := by decide +kernel
theorem dX11_init_230 : decode cX11_init 230 = .ok (.dup, 1) := by decide +kernel
theorem dX11_init_231 : decode cX11_init 231 = .ok (.invokespecial 25, 3) := by decide +kernel
theorem dX11_init_234 : decode cX11_init 234 = .ok (.aastore, 1) := by decide +kernel
theorem dX11_init_235 : decode cX11_init 235 = .ok (.iinc 1 1, 3) := by decide +kernel
theorem dX11_init_238 : decode cX11_init 238 = .ok (.goto (-25), 3) := by decide +kernel
theorem dX11_init_241 : decode cX11_init 241 = .ok (.iconst 0, 1) := by decide +kernel
theorem dX11_init_242 : decode cX11_init 242 = .ok (.istore_n 1, 1) := by decide +kernel
theorem dX11_init_243 : decode cX11_init 243 = .ok (.iload_n 1, 1) := by decide +kernel
theorem dX11_init_244 : decode cX11_init 244 = .ok (.aload_n 0, 1) := by decide +kernel
theorem dX11_init_245 : decode cX11_init 245 = .ok (.getfield 101, 3) := by decide +kernel
theorem dX11_init_248 : decode cX11_init 248 = .ok (.arraylength, 1) := by decide +kernel
theorem dX11_init_249 : decode cX11_init 249 = .ok (.if_icmp .ge 48, 3) := by decide +kernel
theorem dX11_init_252 : decode cX11_init 252 = .ok (.aload_n 0, 1) := by decide +kernel
theorem dX11_init_253 : decode cX11_init 253 = .ok (.getfield 90, 3) := by decide +kernel
theorem dX11_init_256 : decode cX11_init 256 = .ok (.iload_n 1, 1) := by decide +kernel
theorem dX11_init_257 : decode cX11_init 257 = .ok (.new 16, 3) := by decide +kernel
theorem dX11_init_260 : decode cX11_init 260 = .ok (.dup, 1) := by decide +kernel
theorem dX11_init_261 : decode cX11_init 261 = .ok (.invokespecial 18, 3) := by decide +kernel
theorem dX11_init_264 : decode cX11_init 264 = .ok (.aastore, 1) := by decide +kernel
theorem dX11_init_265 : decode cX11_init 265 = .ok (.aload_n 0, 1) := by decide +kernel
theorem dX11_init_266 : decode cX11_init 266 = .ok (.getfield 94, 3) := by decide +kernel
theorem dX11_init_269 : decode cX11_init 269 = .ok (.iload_n 1, 1) := by decide +kernel
theorem dX11_init_270 : decode cX11_init 270 = .ok (.new 23, 3) := by decide +kernel
theorem dX11_init_273 : decode cX11_init 273 = .ok (.dup, 1) := by decide +kernel
theorem dX11_init_274 : decode cX11_init 274 = .ok (.invokespecial 25, 3) := by decide +kernel
theorem dX11_init_277 : decode cX11_init 277 = .ok (.aastore, 1) := by decide +kernel
theorem dX11_init_278 : decode cX11_init 278 = .ok (.aload_n 0, 1) := by decide +kernel
theorem dX11_init_279 : decode cX11_init 279 = .ok (.getfield 97, 3) := by decide +kernel
theorem dX11_init_282 : decode cX11_init 282 = .ok (.iload_n 1, 1) := by decide +kernel
theorem dX11_init_283 : decode cX11_init 283 = .ok (.new 55, 3) := by decide +kernel
theorem dX11_init_286 : decode cX11_init 286 = .ok (.dup, 1) := by decide +kernel
theorem dX11_init_287 : decode cX11_init 287 = .ok (.invokespecial 57, 3) := by decide +kernel
theorem dX11_init_290 : decode cX11_init 290 = .ok (.aastore, 1) := by decide +kernel
theorem dX11_init_291 : decode cX11_init 291 = .ok (.iinc 1 1, 3) := by decide +kernel
theorem dX11_init_294 : decode cX11_init 294 = .ok (.goto (-51), 3) := by decide +kernel
theorem dX11_init_297 : decode cX11_init 297 = .ok (.return_, 1) := by decide +kernel
theorem dX11_feed_0 : decode cX11_feed 0 = .ok (.aload_n 0, 1) := by decide +kernel
theorem dX11_feed_1 : decode cX11_feed 1 = .ok (.getfield 10, 3) := by decide +kernel
theorem dX11_feed_4 : decode cX11_feed 4 = .ok (.getfield 120, 3) := by decide +kernel
theorem dX11_feed_7 : decode cX11_feed 7 = .ok (.bipush 20, 2) := by decide +kernel
theorem dX11_feed_9 : decode cX11_feed 9 = .ok (.iadd, 1) := by decide +kernel
theorem dX11_feed_10 : decode cX11_feed 10 = .ok (.sipush 940, 3) := by decide +kernel
theorem dX11_feed_13 : decode cX11_feed 13 = .ok (.if_icmp .le 5, 3) := by decide +kernel
theorem dX11_feed_16 : decode cX11_feed 16 = .ok (.iconst (-1), 1) := by decide +kernel
theorem dX11_feed_17 : decode cX11_feed 17 = .ok (.ireturn, 1) := by decide +kernel
theorem dX11_feed_18 : decode cX11_feed 18 = .ok (.aload_n 0, 1) := by decide +kernel
theorem dX11_feed_19 : decode cX11_feed 19 = .ok (.getfield 10, 3) := by decide +kernel
theorem dX11_feed_22 : decode cX11_feed 22 = .ok (.iload_n 1, 1) := by decide +kernel
theorem dX11_feed_23 : decode cX11_feed 23 = .ok (.invokevirtual 123, 3) := by decide +kernel
theorem dX11_feed_26 : decode cX11_feed 26 = .ok (.aload_n 0, 1) := by decide +kernel
theorem dX11_feed_27 : decode cX11_feed 27 = .ok (.getfield 10, 3) := by decide +kernel
theorem dX11_feed_30 : decode cX11_feed 30 = .ok (.iload_n 2, 1) := by decide +kernel
theorem dX11_feed_31 : decode cX11_feed 31 = .ok (.invokevirtual 123, 3) := by decide +kernel
theorem dX11_feed_34 : decode cX11_feed 34 = .ok (.aload_n 0, 1) := by decide +kernel
theorem dX11_feed_35 : decode cX11_feed 35 = .ok (.getfield 10, 3) := by decide +kernel
theorem dX11_feed_38 : decode cX11_feed 38 = .ok (.iload_n 3, 1) := by decide +kernel
theorem dX11_feed_39 : decode cX11_feed 39 = .ok (.invokevirtual 123, 3) := by decide +kernel
theorem dX11_feed_42 : decode cX11_feed 42 = .ok (.aload_n 0, 1) := by decide +kernel
theorem dX11_feed_43 : decode cX11_feed 43 = .ok (.getfield 10, 3) := by decide +kernel
theorem dX11_feed_46 : decode cX11_feed 46 = .ok (.iload 4, 2) := by decide +kernel
theorem dX11_feed_48 : decode cX11_feed 48 = .ok (.invokevirtual 123, 3) := by decide +kernel
theorem dX11_feed_51 : decode cX11_feed 51 = .ok (.aload_n 0, 1) := by decide +kernel
theorem dX11_feed_52 : decode cX11_feed 52 = .ok (.getfield 10, 3) := by decide +kernel
theorem dX11_feed_55 : decode cX11_feed 55 = .ok (.iload 5, 2) := by decide +kernel
theorem dX11_feed_57 : decode cX11_feed 57 = .ok (.invokevirtual 123, 3) := by decide +kernel
theorem dX11_feed_60 : decode cX11_feed 60 = .ok (.aload_n 0, 1) := by decide +kernel
theorem dX11_feed_61 : decode cX11_feed 61 = .ok (.getfield 10, 3) := by decide +kernel
theorem dX11_feed_64 : decode cX11_feed 64 = .ok (.getfield 120, 3) := by decide +kernel
theorem dX11_feed_67 : decode cX11_feed 67 = .ok (.ireturn, 1) := by decide +kernel
theorem dX11_end_0 : decode cX11_end 0 = .ok (.iload_n 1, 1) := by decide +kernel
theorem dX11_end_1 : decode cX11_end 1 = .ok (.ifCond .lt 14, 3) := by decide +kernel
theorem dX11_end_4 : decode cX11_end 4 = .ok (.iload_n 1, 1) := by decide +kernel
theorem dX11_end_5 : decode cX11_end 5 = .ok (.aload_n 0, 1) := by decide +kernel
theorem dX11_end_6 : decode cX11_end 6 = .ok (.getfield 10, 3) := by decide +kernel
theorem dX11_end_9 : decode cX11_end 9 = .ok (.getfield 120, 3) := by decide +kernel
theorem dX11_end_12 : decode cX11_end 12 = .ok (.if_icmp .le 5, 3) := by decide +kernel
theorem dX11_end_15 : decode cX11_end 15 = .ok (.iconst 0, 1) := by decide +kernel
theorem dX11_end_16 : decode cX11_end 16 = .ok (.ireturn, 1) := by decide +kernel
theorem dX11_end_17 : decode cX11_end 17 = .ok (.aload_n 0, 1) := by decide +kernel
theorem dX11_end_18 : decode cX11_end 18 = .ok (.getfield 10, 3) := by decide +kernel
theorem dX11_end_21 : decode cX11_end 21 = .ok (.iload_n 1, 1) := by decide +kernel
theorem dX11_end_22 : decode cX11_end 22 = .ok (.putfield 120, 3) := by decide +kernel
theorem dX11_end_25 : decode cX11_end 25 = .ok (.iconst 1, 1) := by decide +kernel
theorem dX11_end_26 : decode cX11_end 26 = .ok (.ireturn, 1) := by decide +kernel
theorem dX11_unit_0 : decode cX11_unit 0 = .ok (.aload_n 0, 1) := by decide +kernel
theorem dX11_unit_1 : decode cX11_unit 1 = .ok (.getfield 65, 3) := by decide +kernel
theorem dX11_unit_4 : decode cX11_unit 4 = .ok (.aload_n 0, 1) := by decide +kernel
theorem dX11_unit_5 : decode cX11_unit 5 = .ok (.getfield 10, 3) := by decide +kernel
theorem dX11_unit_8 : decode cX11_unit 8 = .ok (.invokevirtual 127, 3) := by decide +kernel
theorem dX11_unit_11 : decode cX11_unit 11 = .ok (.istore_n 1, 1) := by decide +kernel
theorem dX11_unit_12 : decode cX11_unit 12 = .ok (.aload_n 0, 1) := by decide +kernel
theorem dX11_unit_13 : decode cX11_unit 13 = .ok (.getfield 10, 3) := by decide +kernel
theorem dX11_unit_16 : decode cX11_unit 16 = .ok (.iconst 0, 1) := by decide +kernel
theorem dX11_unit_17 : decode cX11_unit 17 = .ok (.putfield 120, 3) := by decide +kernel
theorem dX11_unit_20 : decode cX11_unit 20 = .ok (.aload_n 0, 1) := by decide +kernel
theorem dX11_unit_21 : decode cX11_unit 21 = .ok (.getfield 10, 3) := by decide +kernel
theorem dX11_unit_24 : decode cX11_unit 24 = .ok (.getfield 131, 3) := by decide +kernel
theorem dX11_unit_27 : decode cX11_unit 27 = .ok (.ifCond .eq 13, 3) := by decide +kernel
theorem dX11_unit_30 : decode cX11_unit 30 = .ok (.iconst (-1), 1) := by decide +kernel
theorem dX11_unit_31 : decode cX11_unit 31 = .ok (.aload_n 0, 1) := by decide +kernel
theorem dX11_unit_32 : decode cX11_unit 32 = .ok (.getfield 10, 3) := by decide +kernel
theorem dX11_unit_35 : decode cX11_unit 35 = .ok (.getfield 134, 3) := by decide +kernel
theorem dX11_unit_38 : decode cX11_unit 38 = .ok (.isub, 1) := by decide +kernel
theorem dX11_unit_39 : decode cX11_unit 39 = .ok (.ireturn, 1) := by decide +kernel
theorem dX11_unit_40 : decode cX11_unit 40 = .ok (.aload_n 0, 1) := by decide +kernel
theorem dX11_unit_41 : decode cX11_unit 41 = .ok (.getfield 19, 3) := by decide +kernel
theorem dX11_unit_44 : decode cX11_unit 44 = .ok (.aload_n 0, 1) := by decide +kernel
theorem dX11_unit_45 : decode cX11_unit 45 = .ok (.getfield 65, 3) := by decide +kernel
theorem dX11_unit_48 : decode cX11_unit 48 = .ok (.getfield 137, 3) := by decide +kernel
theorem dX11_unit_51 : decode cX11_unit 51 = .ok (.invokevirtual 140, 3) := by decide +kernel
theorem dX11_unit_54 : decode cX11_unit 54 = .ok (.aload_n 0, 1) := by decide +kernel
theorem dX11_unit_55 : decode cX11_unit 55 = .ok (.getfield 26, 3) := by decide +kernel
theorem dX11_unit_58 : decode cX11_unit 58 = .ok (.invokevirtual 144, 3) := by decide +kernel
theorem dX11_unit_61 : decode cX11_unit 61 = .ok (.aload_n 0, 1) := by decide +kernel
theorem dX11_unit_62 : decode cX11_unit 62 = .ok (.getfield 58, 3) := by decide +kernel
theorem dX11_unit_65 : decode cX11_unit 65 = .ok (.invokevirtual 147, 3) := by decide +kernel
theorem dX11_unit_68 : decode cX11_unit 68 = .ok (.aload_n 0, 1) := by decide +kernel
theorem dX11_unit_69 : decode cX11_unit 69 = .ok (.iconst 0, 1) := by decide +kernel
theorem dX11_unit_70 : decode cX11_unit 70 = .ok (.putfield 37, 3) := by decide +kernel
theorem dX11_unit_73 : decode cX11_unit 73 = .ok (.iload_n 1, 1) := by decide +kernel
theorem dX11_unit_74 : decode cX11_unit 74 = .ok (.ireturn, 1) := by decide +kernel
theorem dX11_fault_0 : decode cX11_fault 0 = .ok (.aload_n 0, 1) := by decide +kernel
theorem dX11_fault_1 : decode cX11_fault 1 = .ok (.getfield 10, 3) := by decide +kernel
theorem dX11_fault_4 : decode cX11_fault 4 = .ok (.getfield 131, 3) := by decide +kernel
theorem dX11_fault_7 : decode cX11_fault 7 = .ok (.ireturn, 1) := by decide +kernel
theorem dX11_row_0 : decode cX11_row 0 = .ok (.aload_n 0, 1) := by decide +kernel
theorem dX11_row_1 : decode cX11_row 1 = .ok (.getfield 19, 3) := by decide +kernel
theorem dX11_row_4 : decode cX11_row 4 = .ok (.getfield 150, 3) := by decide +kernel
theorem dX11_row_7 : decode cX11_row 7 = .ok (.iload_n 1, 1) := by decide +kernel
theorem dX11_row_8 : decode cX11_row 8 = .ok (.invokevirtual 153, 3) := by decide +kernel
theorem dX11_row_11 : decode cX11_row 11 = .ok (.ifCond .ne 5, 3) := by decide +kernel
theorem dX11_row_14 : decode cX11_row 14 = .ok (.iconst (-1), 1) := by decide +kernel
theorem dX11_row_15 : decode cX11_row 15 = .ok (.ireturn, 1) := by decide +kernel
theorem dX11_row_16 : decode cX11_row 16 = .ok (.iload_n 2, 1) := by decide +kernel
theorem dX11_row_17 : decode cX11_row 17 = .ok (.tableswitch 62 0 2 #[27, 40, 53], 27) := by decide +kernel
theorem dX11_row_44 : decode cX11_row 44 = .ok (.aload_n 0, 1) := by decide +kernel
theorem dX11_row_45 : decode cX11_row 45 = .ok (.getfield 19, 3) := by decide +kernel
theorem dX11_row_48 : decode cX11_row 48 = .ok (.getfield 150, 3) := by decide +kernel
theorem dX11_row_51 : decode cX11_row 51 = .ok (.iload_n 1, 1) := by decide +kernel
theorem dX11_row_52 : decode cX11_row 52 = .ok (.iconst 0, 1) := by decide +kernel
theorem dX11_row_53 : decode cX11_row 53 = .ok (.invokevirtual 157, 3) := by decide +kernel
theorem dX11_row_56 : decode cX11_row 56 = .ok (.ireturn, 1) := by decide +kernel
theorem dX11_row_57 : decode cX11_row 57 = .ok (.aload_n 0, 1) := by decide +kernel
theorem dX11_row_58 : decode cX11_row 58 = .ok (.getfield 19, 3) := by decide +kernel
theorem dX11_row_61 : decode cX11_row 61 = .ok (.getfield 150, 3) := by decide +kernel
theorem dX11_row_64 : decode cX11_row 64 = .ok (.iload_n 1, 1) := by decide +kernel
theorem dX11_row_65 : decode cX11_row 65 = .ok (.iconst 1, 1) := by decide +kernel
theorem dX11_row_66 : decode cX11_row 66 = .ok (.invokevirtual 157, 3) := by decide +kernel
theorem dX11_row_69 : decode cX11_row 69 = .ok (.ireturn, 1) := by decide +kernel
theorem dX11_row_70 : decode cX11_row 70 = .ok (.aload_n 0, 1) := by decide +kernel
theorem dX11_row_71 : decode cX11_row 71 = .ok (.getfield 19, 3) := by decide +kernel
theorem dX11_row_74 : decode cX11_row 74 = .ok (.iload_n 1, 1) := by decide +kernel
theorem dX11_row_75 : decode cX11_row 75 = .ok (.invokevirtual 161, 3) := by decide +kernel
theorem dX11_row_78 : decode cX11_row 78 = .ok (.ireturn, 1) := by decide +kernel
theorem dX11_row_79 : decode cX11_row 79 = .ok (.iconst (-1), 1) := by decide +kernel
theorem dX11_row_80 : decode cX11_row 80 = .ok (.ireturn, 1) := by decide +kernel
theorem dX11_scope_0 : decode cX11_scope 0 = .ok (.aload_n 0, 1) := by decide +kernel
theorem dX11_scope_1 : decode cX11_scope 1 = .ok (.getfield 19, 3) := by decide +kernel
theorem dX11_scope_4 : decode cX11_scope 4 = .ok (.getfield 165, 3) := by decide +kernel
theorem dX11_scope_7 : decode cX11_scope 7 = .ok (.iload_n 1, 1) := by decide +kernel
theorem dX11_scope_8 : decode cX11_scope 8 = .ok (.invokevirtual 153, 3) := by decide +kernel
theorem dX11_scope_11 : decode cX11_scope 11 = .ok (.ifCond .ne 5, 3) := by decide +kernel
theorem dX11_scope_14 : decode cX11_scope 14 = .ok (.iconst (-1), 1) := by decide +kernel
theorem dX11_scope_15 : decode cX11_scope 15 = .ok (.ireturn, 1) := by decide +kernel
theorem dX11_scope_16 : decode cX11_scope 16 = .ok (.iload_n 2, 1) := by decide +kernel
theorem dX11_scope_17 : decode cX11_scope 17 = .ok (.tableswitch 104 0 4 #[35, 48, 61, 74, 95], 35) := by decide +kernel
theorem dX11_scope_52 : decode cX11_scope 52 = .ok (.aload_n 0, 1) := by decide +kernel
theorem dX11_scope_53 : decode cX11_scope 53 = .ok (.getfield 19, 3) := by decide +kernel
theorem dX11_scope_56 : decode cX11_scope 56 = .ok (.getfield 165, 3) := by decide +kernel
theorem dX11_scope_59 : decode cX11_scope 59 = .ok (.iload_n 1, 1) := by decide +kernel
theorem dX11_scope_60 : decode cX11_scope 60 = .ok (.iconst 0, 1) := by decide +kernel
theorem dX11_scope_61 : decode cX11_scope 61 = .ok (.invokevirtual 157, 3) := by decide +kernel
theorem dX11_scope_64 : decode cX11_scope 64 = .ok (.ireturn, 1) := by decide +kernel
theorem dX11_scope_65 : decode cX11_scope 65 = .ok (.aload_n 0, 1) := by decide +kernel
theorem dX11_scope_66 : decode cX11_scope 66 = .ok (.getfield 19, 3) := by decide +kernel
theorem dX11_scope_69 : decode cX11_scope 69 = .ok (.getfield 165, 3) := by decide +kernel
theorem dX11_scope_72 : decode cX11_scope 72 = .ok (.iload_n 1, 1) := by decide +kernel
theorem dX11_scope_73 : decode cX11_scope 73 = .ok (.iconst 1, 1) := by decide +kernel
theorem dX11_scope_74 : decode cX11_scope 74 = .ok (.invokevirtual 157, 3) := by decide +kernel
theorem dX11_scope_77 : decode cX11_scope 77 = .ok (.ireturn, 1) := by decide +kernel
theorem dX11_scope_78 : decode cX11_scope 78 = .ok (.aload_n 0, 1) := by decide +kernel
theorem dX11_scope_79 : decode cX11_scope 79 = .ok (.getfield 19, 3) := by decide +kernel
theorem dX11_scope_82 : decode cX11_scope 82 = .ok (.getfield 165, 3) := by decide +kernel
theorem dX11_scope_85 : decode cX11_scope 85 = .ok (.iload_n 1, 1) := by decide +kernel
theorem dX11_scope_86 : decode cX11_scope 86 = .ok (.iconst 2, 1) := by decide +kernel
theorem dX11_scope_87 : decode cX11_scope 87 = .ok (.invokevirtual 157, 3) := by decide +kernel
theorem dX11_scope_90 : decode cX11_scope 90 = .ok (.ireturn, 1) := by decide +kernel
theorem dX11_scope_91 : decode cX11_scope 91 = .ok (.aload_n 0, 1) := by decide +kernel
theorem dX11_scope_92 : decode cX11_scope 92 = .ok (.getfield 19, 3) := by decide +kernel
theorem dX11_scope_95 : decode cX11_scope 95 = .ok (.aload_n 0, 1) := by decide +kernel
theorem dX11_scope_96 : decode cX11_scope 96 = .ok (.getfield 19, 3) := by decide +kernel
theorem dX11_scope_99 : decode cX11_scope 99 = .ok (.getfield 165, 3) := by decide +kernel
theorem dX11_scope_102 : decode cX11_scope 102 = .ok (.iload_n 1, 1) := by decide +kernel
theorem dX11_scope_103 : decode cX11_scope 103 = .ok (.iconst 0, 1) := by decide +kernel
theorem dX11_scope_104 : decode cX11_scope 104 = .ok (.invokevirtual 157, 3) := by decide +kernel
theorem dX11_scope_107 : decode cX11_scope 107 = .ok (.iload_n 1, 1) := by decide +kernel
theorem dX11_scope_108 : decode cX11_scope 108 = .ok (.invokevirtual 168, 3) := by decide +kernel
theorem dX11_scope_111 : decode cX11_scope 111 = .ok (.ireturn, 1) := by decide +kernel
theorem dX11_scope_112 : decode cX11_scope 112 = .ok (.aload_n 0, 1) := by decide +kernel
theorem dX11_scope_113 : decode cX11_scope 113 = .ok (.getfield 19, 3) := by decide +kernel
theorem dX11_scope_116 : decode cX11_scope 116 = .ok (.iload_n 1, 1) := by decide +kernel
theorem dX11_scope_117 : decode cX11_scope 117 = .ok (.invokevirtual 171, 3) := by decide +kernel
theorem dX11_scope_120 : decode cX11_scope 120 = .ok (.ireturn, 1) := by decide +kernel
theorem dX11_scope_121 : decode cX11_scope 121 = .ok (.iconst (-1), 1) := by decide +kernel
theorem dX11_scope_122 : decode cX11_scope 122 = .ok (.ireturn, 1) := by decide +kernel
theorem dX11_var_0 : decode cX11_var 0 = .ok (.aload_n 0, 1) := by decide +kernel
theorem dX11_var_1 : decode cX11_var 1 = .ok (.getfield 19, 3) := by decide +kernel
theorem dX11_var_4 : decode cX11_var 4 = .ok (.getfield 174, 3) := by decide +kernel
theorem dX11_var_7 : decode cX11_var 7 = .ok (.iload_n 1, 1) := by decide +kernel
theorem dX11_var_8 : decode cX11_var 8 = .ok (.invokevirtual 153, 3) := by decide +kernel
theorem dX11_var_11 : decode cX11_var 11 = .ok (.ifCond .ne 5, 3) := by decide +kernel
theorem dX11_var_14 : decode cX11_var 14 = .ok (.iconst (-1), 1) := by decide +kernel
theorem dX11_var_15 : decode cX11_var 15 = .ok (.ireturn, 1) := by decide +kernel
theorem dX11_var_16 : decode cX11_var 16 = .ok (.aload_n 0, 1) := by decide +kernel
theorem dX11_var_17 : decode cX11_var 17 = .ok (.getfield 19, 3) := by decide +kernel
theorem dX11_var_20 : decode cX11_var 20 = .ok (.getfield 174, 3) := by decide +kernel
theorem dX11_var_23 : decode cX11_var 23 = .ok (.iload_n 1, 1) := by decide +kernel
theorem dX11_var_24 : decode cX11_var 24 = .ok (.iconst 1, 1) := by decide +kernel
theorem dX11_var_25 : decode cX11_var 25 = .ok (.invokevirtual 157, 3) := by decide +kernel
theorem dX11_var_28 : decode cX11_var 28 = .ok (.istore_n 3, 1) := by decide +kernel
theorem dX11_var_29 : decode cX11_var 29 = .ok (.iload_n 2, 1) := by decide +kernel
theorem dX11_var_30 : decode cX11_var 30 = .ok (.tableswitch 101 0 5 #[38, 51, 53, 62, 75, 88], 38) := by decide +kernel
theorem dX11_var_68 : decode cX11_var 68 = .ok (.aload_n 0, 1) := by decide +kernel
theorem dX11_var_69 : decode cX11_var 69 = .ok (.getfield 19, 3) := by decide +kernel
theorem dX11_var_72 : decode cX11_var 72 = .ok (.getfield 174, 3) := by decide +kernel
theorem dX11_var_75 : decode cX11_var 75 = .ok (.iload_n 1, 1) := by decide +kernel
theorem dX11_var_76 : decode cX11_var 76 = .ok (.iconst 0, 1) := by decide +kernel
theorem dX11_var_77 : decode cX11_var 77 = .ok (.invokevirtual 157, 3) := by decide +kernel
theorem dX11_var_80 : decode cX11_var 80 = .ok (.ireturn, 1) := by decide +kernel
theorem dX11_var_81 : decode cX11_var 81 = .ok (.iload_n 3, 1) := by decide +kernel
theorem dX11_var_82 : decode cX11_var 82 = .ok (.ireturn, 1) := by decide +kernel
theorem dX11_var_83 : decode cX11_var 83 = .ok (.aload_n 0, 1) := by decide +kernel
theorem dX11_var_84 : decode cX11_var 84 = .ok (.getfield 19, 3) := by decide +kernel
theorem dX11_var_87 : decode cX11_var 87 = .ok (.iload_n 1, 1) := by decide +kernel
theorem dX11_var_88 : decode cX11_var 88 = .ok (.invokevirtual 177, 3) := by decide +kernel
theorem dX11_var_91 : decode cX11_var 91 = .ok (.ireturn, 1) := by decide +kernel
theorem dX11_var_92 : decode cX11_var 92 = .ok (.aload_n 0, 1) := by decide +kernel
theorem dX11_var_93 : decode cX11_var 93 = .ok (.getfield 19, 3) := by decide +kernel
theorem dX11_var_96 : decode cX11_var 96 = .ok (.getfield 180, 3) := by decide +kernel
theorem dX11_var_99 : decode cX11_var 99 = .ok (.iload_n 3, 1) := by decide +kernel
theorem dX11_var_100 : decode cX11_var 100 = .ok (.iconst 0, 1) := by decide +kernel
theorem dX11_var_101 : decode cX11_var 101 = .ok (.invokevirtual 157, 3) := by decide +kernel
theorem dX11_var_104 : decode cX11_var 104 = .ok (.ireturn, 1) := by decide +kernel
theorem dX11_var_105 : decode cX11_var 105 = .ok (.aload_n 0, 1) := by decide +kernel
theorem dX11_var_106 : decode cX11_var 106 = .ok (.getfield 19, 3) := by decide +kernel
theorem dX11_var_109 : decode cX11_var 109 = .ok (.getfield 180, 3) := by decide +kernel
theorem dX11_var_112 : decode cX11_var 112 = .ok (.iload_n 3, 1) := by decide +kernel
theorem dX11_var_113 : decode cX11_var 113 = .ok (.iconst 1, 1) := by decide +kernel
theorem dX11_var_114 : decode cX11_var 114 = .ok (.invokevirtual 157, 3) := by decide +kernel
theorem dX11_var_117 : decode cX11_var 117 = .ok (.ireturn, 1) := by decide +kernel
theorem dX11_var_118 : decode cX11_var 118 = .ok (.aload_n 0, 1) := by decide +kernel
theorem dX11_var_119 : decode cX11_var 119 = .ok (.getfield 19, 3) := by decide +kernel
theorem dX11_var_122 : decode cX11_var 122 = .ok (.getfield 180, 3) := by decide +kernel
theorem dX11_var_125 : decode cX11_var 125 = .ok (.iload_n 3, 1) := by decide +kernel
theorem dX11_var_126 : decode cX11_var 126 = .ok (.iconst 2, 1) := by decide +kernel
theorem dX11_var_127 : decode cX11_var 127 = .ok (.invokevirtual 157, 3) := by decide +kernel
theorem dX11_var_130 : decode cX11_var 130 = .ok (.ireturn, 1) := by decide +kernel
theorem dX11_var_131 : decode cX11_var 131 = .ok (.iconst (-1), 1) := by decide +kernel
theorem dX11_var_132 : decode cX11_var 132 = .ok (.ireturn, 1) := by decide +kernel
theorem dX11_placeOf_0 : decode cX11_placeOf 0 = .ok (.aload_n 0, 1) := by decide +kernel
theorem dX11_placeOf_1 : decode cX11_placeOf 1 = .ok (.getfield 19, 3) := by decide +kernel
theorem dX11_placeOf_4 : decode cX11_placeOf 4 = .ok (.iload_n 1, 1) := by decide +kernel
theorem dX11_placeOf_5 : decode cX11_placeOf 5 = .ok (.iload_n 2, 1) := by decide +kernel
theorem dX11_placeOf_6 : decode cX11_placeOf 6 = .ok (.invokevirtual 183, 3) := by decide +kernel
theorem dX11_placeOf_9 : decode cX11_placeOf 9 = .ok (.ireturn, 1) := by decide +kernel
theorem dX11_lineAt_0 : decode cX11_lineAt 0 = .ok (.aload_n 0, 1) := by decide +kernel
theorem dX11_lineAt_1 : decode cX11_lineAt 1 = .ok (.getfield 19, 3) := by decide +kernel
theorem dX11_lineAt_4 : decode cX11_lineAt 4 = .ok (.iload_n 1, 1) := by decide +kernel
theorem dX11_lineAt_5 : decode cX11_lineAt 5 = .ok (.invokevirtual 186, 3) := by decide +kernel
theorem dX11_lineAt_8 : decode cX11_lineAt 8 = .ok (.ireturn, 1) := by decide +kernel
theorem dX11_addressOf_0 : decode cX11_addressOf 0 = .ok (.iload_n 2, 1) := by decide +kernel
theorem dX11_addressOf_1 : decode cX11_addressOf 1 = .ok (.istore_n 3, 1) := by decide +kernel
theorem dX11_addressOf_2 : decode cX11_addressOf 2 = .ok (.iconst 0, 1) := by decide +kernel
theorem dX11_addressOf_3 : decode cX11_addressOf 3 = .ok (.istore 4, 2) := by decide +kernel
theorem dX11_addressOf_5 : decode cX11_addressOf 5 = .ok (.iload 4, 2) := by decide +kernel
theorem dX11_addressOf_7 : decode cX11_addressOf 7 = .ok (.aload_n 0, 1) := by decide +kernel
theorem dX11_addressOf_8 : decode cX11_addressOf 8 = .ok (.getfield 19, 3) := by decide +kernel
theorem dX11_addressOf_11 : decode cX11_addressOf 11 = .ok (.getfield 150, 3) := by decide +kernel
theorem dX11_addressOf_14 : decode cX11_addressOf 14 = .ok (.getfield 189, 3) := by decide +kernel
theorem dX11_addressOf_17 : decode cX11_addressOf 17 = .ok (.if_icmp .ge 51, 3) := by decide +kernel
theorem dX11_addressOf_20 : decode cX11_addressOf 20 = .ok (.iload_n 3, 1) := by decide +kernel
theorem dX11_addressOf_21 : decode cX11_addressOf 21 = .ok (.ifCond .lt 47, 3) := by decide +kernel
theorem dX11_addressOf_24 : decode cX11_addressOf 24 = .ok (.aload_n 0, 1) := by decide +kernel
theorem dX11_addressOf_25 : decode cX11_addressOf 25 = .ok (.getfield 19, 3) := by decide +kernel
theorem dX11_addressOf_28 : decode cX11_addressOf 28 = .ok (.getfield 150, 3) := by decide +kernel
theorem dX11_addressOf_31 : decode cX11_addressOf 31 = .ok (.iload 4, 2) := by decide +kernel
theorem dX11_addressOf_33 : decode cX11_addressOf 33 = .ok (.iconst 1, 1) := by decide +kernel
theorem dX11_addressOf_34 : decode cX11_addressOf 34 = .ok (.invokevirtual 157, 3) := by decide +kernel
theorem dX11_addressOf_37 : decode cX11_addressOf 37 = .ok (.iload_n 1, 1) := by decide +kernel
theorem dX11_addressOf_38 : decode cX11_addressOf 38 = .ok (.if_icmp .ne 24, 3) := by decide +kernel
theorem dX11_addressOf_41 : decode cX11_addressOf 41 = .ok (.iload_n 3, 1) := by decide +kernel
theorem dX11_addressOf_42 : decode cX11_addressOf 42 = .ok (.ifCond .ne 17, 3) := by decide +kernel
theorem dX11_addressOf_45 : decode cX11_addressOf 45 = .ok (.aload_n 0, 1) := by decide +kernel
theorem dX11_addressOf_46 : decode cX11_addressOf 46 = .ok (.getfield 19, 3) := by decide +kernel
theorem dX11_addressOf_49 : decode cX11_addressOf 49 = .ok (.getfield 150, 3) := by decide +kernel
theorem dX11_addressOf_52 : decode cX11_addressOf 52 = .ok (.iload 4, 2) := by decide +kernel
theorem dX11_addressOf_54 : decode cX11_addressOf 54 = .ok (.iconst 0, 1) := by decide +kernel
theorem dX11_addressOf_55 : decode cX11_addressOf 55 = .ok (.invokevirtual 157, 3) := by decide +kernel
theorem dX11_addressOf_58 : decode cX11_addressOf 58 = .ok (.ireturn, 1) := by decide +kernel
theorem dX11_addressOf_59 : decode cX11_addressOf 59 = .ok (.iinc 3 (-1), 3) := by decide +kernel
theorem dX11_addressOf_62 : decode cX11_addressOf 62 = .ok (.iinc 4 1, 3) := by decide +kernel
theorem dX11_addressOf_65 : decode cX11_addressOf 65 = .ok (.goto (-60), 3) := by decide +kernel
theorem dX11_addressOf_68 : decode cX11_addressOf 68 = .ok (.iconst (-1), 1) := by decide +kernel
theorem dX11_addressOf_69 : decode cX11_addressOf 69 = .ok (.ireturn, 1) := by decide +kernel
theorem dX11_chain_0 : decode cX11_chain 0 = .ok (.aload_n 0, 1) := by decide +kernel
theorem dX11_chain_1 : decode cX11_chain 1 = .ok (.getfield 19, 3) := by decide +kernel
theorem dX11_chain_4 : decode cX11_chain 4 = .ok (.iload_n 1, 1) := by decide +kernel
theorem dX11_chain_5 : decode cX11_chain 5 = .ok (.invokevirtual 192, 3) := by decide +kernel
theorem dX11_chain_8 : decode cX11_chain 8 = .ok (.ifCond .ne 5, 3) := by decide +kernel
theorem dX11_chain_11 : decode cX11_chain 11 = .ok (.iconst (-1), 1) := by decide +kernel
theorem dX11_chain_12 : decode cX11_chain 12 = .ok (.ireturn, 1) := by decide +kernel
theorem dX11_chain_13 : decode cX11_chain 13 = .ok (.aload_n 0, 1) := by decide +kernel
theorem dX11_chain_14 : decode cX11_chain 14 = .ok (.getfield 110, 3) := by decide +kernel
theorem dX11_chain_17 : decode cX11_chain 17 = .ok (.invokevirtual 195, 3) := by decide +kernel
theorem dX11_chain_20 : decode cX11_chain 20 = .ok (.aload_n 0, 1) := by decide +kernel
theorem dX11_chain_21 : decode cX11_chain 21 = .ok (.getfield 19, 3) := by decide +kernel
theorem dX11_chain_24 : decode cX11_chain 24 = .ok (.iload_n 1, 1) := by decide +kernel
theorem dX11_chain_25 : decode cX11_chain 25 = .ok (.invokevirtual 186, 3) := by decide +kernel
theorem dX11_chain_28 : decode cX11_chain 28 = .ok (.istore_n 2, 1) := by decide +kernel
theorem dX11_chain_29 : decode cX11_chain 29 = .ok (.aload_n 0, 1) := by decide +kernel
theorem dX11_chain_30 : decode cX11_chain 30 = .ok (.getfield 19, 3) := by decide +kernel
theorem dX11_chain_33 : decode cX11_chain 33 = .ok (.iload_n 1, 1) := by decide +kernel
theorem dX11_chain_34 : decode cX11_chain 34 = .ok (.iconst (-1), 1) := by decide +kernel
theorem dX11_chain_35 : decode cX11_chain 35 = .ok (.invokevirtual 168, 3) := by decide +kernel
theorem dX11_chain_38 : decode cX11_chain 38 = .ok (.istore_n 3, 1) := by decide +kernel
theorem dX11_chain_39 : decode cX11_chain 39 = .ok (.iconst 0, 1) := by decide +kernel
theorem dX11_chain_40 : decode cX11_chain 40 = .ok (.istore 4, 2) := by decide +kernel
theorem dX11_chain_42 : decode cX11_chain 42 = .ok (.iload 4, 2) := by decide +kernel
theorem dX11_chain_44 : decode cX11_chain 44 = .ok (.bipush 10, 2) := by decide +kernel
theorem dX11_chain_46 : decode cX11_chain 46 = .ok (.if_icmp .ge 69, 3) := by decide +kernel
theorem dX11_chain_49 : decode cX11_chain 49 = .ok (.iload_n 3, 1) := by decide +kernel
theorem dX11_chain_50 : decode cX11_chain 50 = .ok (.iconst (-1), 1) := by decide +kernel
theorem dX11_chain_51 : decode cX11_chain 51 = .ok (.if_icmp .eq 64, 3) := by decide +kernel
theorem dX11_chain_54 : decode cX11_chain 54 = .ok (.aload_n 0, 1) := by decide +kernel
theorem dX11_chain_55 : decode cX11_chain 55 = .ok (.getfield 110, 3) := by decide +kernel
theorem dX11_chain_58 : decode cX11_chain 58 = .ok (.lconst 0, 1) := by decide +kernel
theorem dX11_chain_59 : decode cX11_chain 59 = .ok (.invokevirtual 196, 3) := by decide +kernel
theorem dX11_chain_62 : decode cX11_chain 62 = .ok (.istore 5, 2) := by decide +kernel
theorem dX11_chain_64 : decode cX11_chain 64 = .ok (.aload_n 0, 1) := by decide +kernel
theorem dX11_chain_65 : decode cX11_chain 65 = .ok (.getfield 110, 3) := by decide +kernel
theorem dX11_chain_68 : decode cX11_chain 68 = .ok (.iload 5, 2) := by decide +kernel
theorem dX11_chain_70 : decode cX11_chain 70 = .ok (.iconst 0, 1) := by decide +kernel
theorem dX11_chain_71 : decode cX11_chain 71 = .ok (.iload_n 3, 1) := by decide +kernel
theorem dX11_chain_72 : decode cX11_chain 72 = .ok (.invokevirtual 200, 3) := by decide +kernel
theorem dX11_chain_75 : decode cX11_chain 75 = .ok (.aload_n 0, 1) := by decide +kernel
theorem dX11_chain_76 : decode cX11_chain 76 = .ok (.getfield 110, 3) := by decide +kernel
theorem dX11_chain_79 : decode cX11_chain 79 = .ok (.iload 5, 2) := by decide +kernel
theorem dX11_chain_81 : decode cX11_chain 81 = .ok (.iconst 1, 1) := by decide +kernel
theorem dX11_chain_82 : decode cX11_chain 82 = .ok (.iload_n 2, 1) := by decide +kernel
theorem dX11_chain_83 : decode cX11_chain 83 = .ok (.invokevirtual 200, 3) := by decide +kernel
theorem dX11_chain_86 : decode cX11_chain 86 = .ok (.aload_n 0, 1) := by decide +kernel
theorem dX11_chain_87 : decode cX11_chain 87 = .ok (.getfield 19, 3) := by decide +kernel
theorem dX11_chain_90 : decode cX11_chain 90 = .ok (.getfield 165, 3) := by decide +kernel
theorem dX11_chain_93 : decode cX11_chain 93 = .ok (.iload_n 3, 1) := by decide +kernel
theorem dX11_chain_94 : decode cX11_chain 94 = .ok (.iconst 2, 1) := by decide +kernel
theorem dX11_chain_95 : decode cX11_chain 95 = .ok (.invokevirtual 157, 3) := by decide +kernel
theorem dX11_chain_98 : decode cX11_chain 98 = .ok (.istore_n 2, 1) := by decide +kernel
theorem dX11_chain_99 : decode cX11_chain 99 = .ok (.aload_n 0, 1) := by decide +kernel
theorem dX11_chain_100 : decode cX11_chain 100 = .ok (.getfield 19, 3) := by decide +kernel
theorem dX11_chain_103 : decode cX11_chain 103 = .ok (.iload_n 1, 1) := by decide +kernel
theorem dX11_chain_104 : decode cX11_chain 104 = .ok (.iload_n 3, 1) := by decide +kernel
theorem dX11_chain_105 : decode cX11_chain 105 = .ok (.invokevirtual 168, 3) := by decide +kernel
theorem dX11_chain_108 : decode cX11_chain 108 = .ok (.istore_n 3, 1) := by decide +kernel
theorem dX11_chain_109 : decode cX11_chain 109 = .ok (.iinc 4 1, 3) := by decide +kernel
theorem dX11_chain_112 : decode cX11_chain 112 = .ok (.goto (-70), 3) := by decide +kernel
theorem dX11_chain_115 : decode cX11_chain 115 = .ok (.aload_n 0, 1) := by decide +kernel
theorem dX11_chain_116 : decode cX11_chain 116 = .ok (.getfield 110, 3) := by decide +kernel
theorem dX11_chain_119 : decode cX11_chain 119 = .ok (.getfield 189, 3) := by decide +kernel
theorem dX11_chain_122 : decode cX11_chain 122 = .ok (.ireturn, 1) := by decide +kernel
theorem dX11_chainAt_0 : decode cX11_chainAt 0 = .ok (.aload_n 0, 1) := by decide +kernel
theorem dX11_chainAt_1 : decode cX11_chainAt 1 = .ok (.getfield 110, 3) := by decide +kernel
theorem dX11_chainAt_4 : decode cX11_chainAt 4 = .ok (.iload_n 1, 1) := by decide +kernel
theorem dX11_chainAt_5 : decode cX11_chainAt 5 = .ok (.iconst 0, 1) := by decide +kernel
theorem dX11_chainAt_6 : decode cX11_chainAt 6 = .ok (.invokevirtual 157, 3) := by decide +kernel
theorem dX11_chainAt_9 : decode cX11_chainAt 9 = .ok (.ireturn, 1) := by decide +kernel
theorem dX11_chainLine_0 : decode cX11_chainLine 0 = .ok (.aload_n 0, 1) := by decide +kernel
theorem dX11_chainLine_1 : decode cX11_chainLine 1 = .ok (.getfield 110, 3) := by decide +kernel
theorem dX11_chainLine_4 : decode cX11_chainLine 4 = .ok (.iload_n 1, 1) := by decide +kernel
theorem dX11_chainLine_5 : decode cX11_chainLine 5 = .ok (.iconst 1, 1) := by decide +kernel
theorem dX11_chainLine_6 : decode cX11_chainLine 6 = .ok (.invokevirtual 157, 3) := by decide +kernel
theorem dX11_chainLine_9 : decode cX11_chainLine 9 = .ok (.ireturn, 1) := by decide +kernel
theorem dX11_value_0 : decode cX11_value 0 = .ok (.aload_n 0, 1) := by decide +kernel
theorem dX11_value_1 : decode cX11_value 1 = .ok (.getfield 19, 3) := by decide +kernel
theorem dX11_value_4 : decode cX11_value 4 = .ok (.getfield 174, 3) := by decide +kernel
theorem dX11_value_7 : decode cX11_value 7 = .ok (.iload_n 1, 1) := by decide +kernel
theorem dX11_value_8 : decode cX11_value 8 = .ok (.invokevirtual 153, 3) := by decide +kernel
theorem dX11_value_11 : decode cX11_value 11 = .ok (.ifCond .eq 23, 3) := by decide +kernel
theorem dX11_value_14 : decode cX11_value 14 = .ok (.aload_n 0, 1) := by decide +kernel
theorem dX11_value_15 : decode cX11_value 15 = .ok (.getfield 44, 3) := by decide +kernel
theorem dX11_value_18 : decode cX11_value 18 = .ok (.aload_n 0, 1) := by decide +kernel
theorem dX11_value_19 : decode cX11_value 19 = .ok (.getfield 19, 3) := by decide +kernel
theorem dX11_value_22 : decode cX11_value 22 = .ok (.aload_n 0, 1) := by decide +kernel
theorem dX11_value_23 : decode cX11_value 23 = .ok (.getfield 26, 3) := by decide +kernel
theorem dX11_value_26 : decode cX11_value 26 = .ok (.iload_n 1, 1) := by decide +kernel
theorem dX11_value_27 : decode cX11_value 27 = .ok (.iload_n 2, 1) := by decide +kernel
theorem dX11_value_28 : decode cX11_value 28 = .ok (.invokevirtual 204, 3) := by decide +kernel
theorem dX11_value_31 : decode cX11_value 31 = .ok (.ifCond .eq 13, 3) := by decide +kernel
theorem dX11_value_34 : decode cX11_value 34 = .ok (.new 208, 3) := by decide +kernel
theorem dX11_value_37 : decode cX11_value 37 = .ok (.dup, 1) := by decide +kernel
theorem dX11_value_38 : decode cX11_value 38 = .ok (.ldc 210, 2) := by decide +kernel
theorem dX11_value_40 : decode cX11_value 40 = .ok (.invokespecial 212, 3) := by decide +kernel
theorem dX11_value_43 : decode cX11_value 43 = .ok (.athrow, 1) := by decide +kernel
theorem dX11_value_44 : decode cX11_value 44 = .ok (.aload_n 0, 1) := by decide +kernel
theorem dX11_value_45 : decode cX11_value 45 = .ok (.getfield 44, 3) := by decide +kernel
theorem dX11_value_48 : decode cX11_value 48 = .ok (.getfield 215, 3) := by decide +kernel
theorem dX11_value_51 : decode cX11_value 51 = .ok (.ireturn, 1) := by decide +kernel
theorem dX11_why_0 : decode cX11_why 0 = .ok (.aload_n 0, 1) := by decide +kernel
theorem dX11_why_1 : decode cX11_why 1 = .ok (.getfield 19, 3) := by decide +kernel
theorem dX11_why_4 : decode cX11_why 4 = .ok (.getfield 174, 3) := by decide +kernel
theorem dX11_why_7 : decode cX11_why 7 = .ok (.iload_n 1, 1) := by decide +kernel
theorem dX11_why_8 : decode cX11_why 8 = .ok (.invokevirtual 153, 3) := by decide +kernel
theorem dX11_why_11 : decode cX11_why 11 = .ok (.ifCond .eq 14, 3) := by decide +kernel
theorem dX11_why_14 : decode cX11_why 14 = .ok (.aload_n 0, 1) := by decide +kernel
theorem dX11_why_15 : decode cX11_why 15 = .ok (.getfield 19, 3) := by decide +kernel
theorem dX11_why_18 : decode cX11_why 18 = .ok (.iload_n 2, 1) := by decide +kernel
theorem dX11_why_19 : decode cX11_why 19 = .ok (.invokevirtual 192, 3) := by decide +kernel
theorem dX11_why_22 : decode cX11_why 22 = .ok (.ifCond .ne 5, 3) := by decide +kernel
theorem dX11_why_25 : decode cX11_why 25 = .ok (.iconst (-1), 1) := by decide +kernel
theorem dX11_why_26 : decode cX11_why 26 = .ok (.ireturn, 1) := by decide +kernel
theorem dX11_why_27 : decode cX11_why 27 = .ok (.aload_n 0, 1) := by decide +kernel
theorem dX11_why_28 : decode cX11_why 28 = .ok (.getfield 44, 3) := by decide +kernel
theorem dX11_why_31 : decode cX11_why 31 = .ok (.aload_n 0, 1) := by decide +kernel
theorem dX11_why_32 : decode cX11_why 32 = .ok (.getfield 19, 3) := by decide +kernel
theorem dX11_why_35 : decode cX11_why 35 = .ok (.aload_n 0, 1) := by decide +kernel
theorem dX11_why_36 : decode cX11_why 36 = .ok (.getfield 26, 3) := by decide +kernel
theorem dX11_why_39 : decode cX11_why 39 = .ok (.iload_n 1, 1) := by decide +kernel
theorem dX11_why_40 : decode cX11_why 40 = .ok (.iload_n 2, 1) := by decide +kernel
theorem dX11_why_41 : decode cX11_why 41 = .ok (.invokevirtual 204, 3) := by decide +kernel
theorem dX11_why_44 : decode cX11_why 44 = .ok (.ireturn, 1) := by decide +kernel
theorem dX11_now_0 : decode cX11_now 0 = .ok (.iload_n 1, 1) := by decide +kernel
theorem dX11_now_1 : decode cX11_now 1 = .ok (.tableswitch 110 0 5 #[39, 47, 62, 70, 86, 102], 39) := by decide +kernel
theorem dX11_now_40 : decode cX11_now 40 = .ok (.aload_n 0, 1) := by decide +kernel
theorem dX11_now_41 : decode cX11_now 41 = .ok (.getfield 26, 3) := by decide +kernel
theorem dX11_now_44 : decode cX11_now 44 = .ok (.getfield 218, 3) := by decide +kernel
theorem dX11_now_47 : decode cX11_now 47 = .ok (.ireturn, 1) := by decide +kernel
theorem dX11_now_48 : decode cX11_now 48 = .ok (.aload_n 0, 1) := by decide +kernel
theorem dX11_now_49 : decode cX11_now 49 = .ok (.getfield 19, 3) := by decide +kernel
theorem dX11_now_52 : decode cX11_now 52 = .ok (.aload_n 0, 1) := by decide +kernel
theorem dX11_now_53 : decode cX11_now 53 = .ok (.getfield 26, 3) := by decide +kernel
theorem dX11_now_56 : decode cX11_now 56 = .ok (.getfield 218, 3) := by decide +kernel
theorem dX11_now_59 : decode cX11_now 59 = .ok (.invokevirtual 186, 3) := by decide +kernel
theorem dX11_now_62 : decode cX11_now 62 = .ok (.ireturn, 1) := by decide +kernel
theorem dX11_now_63 : decode cX11_now 63 = .ok (.aload_n 0, 1) := by decide +kernel
theorem dX11_now_64 : decode cX11_now 64 = .ok (.getfield 26, 3) := by decide +kernel
theorem dX11_now_67 : decode cX11_now 67 = .ok (.getfield 221, 3) := by decide +kernel
theorem dX11_now_70 : decode cX11_now 70 = .ok (.ireturn, 1) := by decide +kernel
theorem dX11_now_71 : decode cX11_now 71 = .ok (.aload_n 0, 1) := by decide +kernel
theorem dX11_now_72 : decode cX11_now 72 = .ok (.getfield 19, 3) := by decide +kernel
theorem dX11_now_75 : decode cX11_now 75 = .ok (.aload_n 0, 1) := by decide +kernel
theorem dX11_now_76 : decode cX11_now 76 = .ok (.getfield 26, 3) := by decide +kernel
theorem dX11_now_79 : decode cX11_now 79 = .ok (.getfield 218, 3) := by decide +kernel
theorem dX11_now_82 : decode cX11_now 82 = .ok (.iconst (-1), 1) := by decide +kernel
theorem dX11_now_83 : decode cX11_now 83 = .ok (.invokevirtual 168, 3) := by decide +kernel
theorem dX11_now_86 : decode cX11_now 86 = .ok (.ireturn, 1) := by decide +kernel
theorem dX11_now_87 : decode cX11_now 87 = .ok (.aload_n 0, 1) := by decide +kernel
theorem dX11_now_88 : decode cX11_now 88 = .ok (.getfield 44, 3) := by decide +kernel
theorem dX11_now_91 : decode cX11_now 91 = .ok (.aload_n 0, 1) := by decide +kernel
theorem dX11_now_92 : decode cX11_now 92 = .ok (.getfield 19, 3) := by decide +kernel
theorem dX11_now_95 : decode cX11_now 95 = .ok (.aload_n 0, 1) := by decide +kernel
theorem dX11_now_96 : decode cX11_now 96 = .ok (.getfield 26, 3) := by decide +kernel
theorem dX11_now_99 : decode cX11_now 99 = .ok (.invokevirtual 224, 3) := by decide +kernel
theorem dX11_now_102 : decode cX11_now 102 = .ok (.ireturn, 1) := by decide +kernel
theorem dX11_now_103 : decode cX11_now 103 = .ok (.aload_n 0, 1) := by decide +kernel
theorem dX11_now_104 : decode cX11_now 104 = .ok (.getfield 26, 3) := by decide +kernel
theorem dX11_now_107 : decode cX11_now 107 = .ok (.getfield 228, 3) := by decide +kernel
theorem dX11_now_110 : decode cX11_now 110 = .ok (.ireturn, 1) := by decide +kernel
theorem dX11_now_111 : decode cX11_now 111 = .ok (.iconst (-1), 1) := by decide +kernel
theorem dX11_now_112 : decode cX11_now 112 = .ok (.ireturn, 1) := by decide +kernel
theorem dX11_register_0 : decode cX11_register 0 = .ok (.aload_n 0, 1) := by decide +kernel
theorem dX11_register_1 : decode cX11_register 1 = .ok (.getfield 26, 3) := by decide +kernel
theorem dX11_register_4 : decode cX11_register 4 = .ok (.iload_n 1, 1) := by decide +kernel
theorem dX11_register_5 : decode cX11_register 5 = .ok (.invokevirtual 231, 3) := by decide +kernel
theorem dX11_register_8 : decode cX11_register 8 = .ok (.ireturn, 1) := by decide +kernel
theorem dX11_memory_0 : decode cX11_memory 0 = .ok (.aload_n 0, 1) := by decide +kernel
theorem dX11_memory_1 : decode cX11_memory 1 = .ok (.getfield 26, 3) := by decide +kernel
theorem dX11_memory_4 : decode cX11_memory 4 = .ok (.iload_n 1, 1) := by decide +kernel
theorem dX11_memory_5 : decode cX11_memory 5 = .ok (.invokevirtual 234, 3) := by decide +kernel
theorem dX11_memory_8 : decode cX11_memory 8 = .ok (.ireturn, 1) := by decide +kernel
theorem dX11_set_0 : decode cX11_set 0 = .ok (.iload_n 1, 1) := by decide +kernel
theorem dX11_set_1 : decode cX11_set 1 = .ok (.iconst 0, 1) := by decide +kernel
theorem dX11_set_2 : decode cX11_set 2 = .ok (.bipush 7, 2) := by decide +kernel
theorem dX11_set_4 : decode cX11_set 4 = .ok (.invokestatic 237, 3) := by decide +kernel
theorem dX11_set_7 : decode cX11_set 7 = .ok (.ifCond .eq 24, 3) := by decide +kernel
theorem dX11_set_10 : decode cX11_set 10 = .ok (.iload_n 2, 1) := by decide +kernel
theorem dX11_set_11 : decode cX11_set 11 = .ok (.iconst 0, 1) := by decide +kernel
theorem dX11_set_12 : decode cX11_set 12 = .ok (.ldc 241, 2) := by decide +kernel
theorem dX11_set_14 : decode cX11_set 14 = .ok (.invokestatic 237, 3) := by decide +kernel
theorem dX11_set_17 : decode cX11_set 17 = .ok (.ifCond .eq 14, 3) := by decide +kernel
theorem dX11_set_20 : decode cX11_set 20 = .ok (.aload_n 0, 1) := by decide +kernel
theorem dX11_set_21 : decode cX11_set 21 = .ok (.bipush 17, 2) := by decide +kernel
theorem dX11_set_23 : decode cX11_set 23 = .ok (.iload_n 1, 1) := by decide +kernel
theorem dX11_set_24 : decode cX11_set 24 = .ok (.iload_n 2, 1) := by decide +kernel
theorem dX11_set_25 : decode cX11_set 25 = .ok (.invokevirtual 242, 3) := by decide +kernel
theorem dX11_set_28 : decode cX11_set 28 = .ok (.goto 4, 3) := by decide +kernel
theorem dX11_set_31 : decode cX11_set 31 = .ok (.iconst (-1), 1) := by decide +kernel
theorem dX11_set_32 : decode cX11_set 32 = .ok (.ireturn, 1) := by decide +kernel
theorem dX11_poke_0 : decode cX11_poke 0 = .ok (.iload_n 1, 1) := by decide +kernel
theorem dX11_poke_1 : decode cX11_poke 1 = .ok (.iconst 0, 1) := by decide +kernel
theorem dX11_poke_2 : decode cX11_poke 2 = .ok (.bipush 63, 2) := by decide +kernel
theorem dX11_poke_4 : decode cX11_poke 4 = .ok (.invokestatic 237, 3) := by decide +kernel
theorem dX11_poke_7 : decode cX11_poke 7 = .ok (.ifCond .eq 24, 3) := by decide +kernel
theorem dX11_poke_10 : decode cX11_poke 10 = .ok (.iload_n 2, 1) := by decide +kernel
theorem dX11_poke_11 : decode cX11_poke 11 = .ok (.iconst 0, 1) := by decide +kernel
theorem dX11_poke_12 : decode cX11_poke 12 = .ok (.ldc 241, 2) := by decide +kernel
theorem dX11_poke_14 : decode cX11_poke 14 = .ok (.invokestatic 237, 3) := by decide +kernel
theorem dX11_poke_17 : decode cX11_poke 17 = .ok (.ifCond .eq 14, 3) := by decide +kernel
theorem dX11_poke_20 : decode cX11_poke 20 = .ok (.aload_n 0, 1) := by decide +kernel
theorem dX11_poke_21 : decode cX11_poke 21 = .ok (.bipush 18, 2) := by decide +kernel
theorem dX11_poke_23 : decode cX11_poke 23 = .ok (.iload_n 1, 1) := by decide +kernel
theorem dX11_poke_24 : decode cX11_poke 24 = .ok (.iload_n 2, 1) := by decide +kernel
theorem dX11_poke_25 : decode cX11_poke 25 = .ok (.invokevirtual 242, 3) := by decide +kernel
theorem dX11_poke_28 : decode cX11_poke 28 = .ok (.goto 4, 3) := by decide +kernel
theorem dX11_poke_31 : decode cX11_poke 31 = .ok (.iconst (-1), 1) := by decide +kernel
theorem dX11_poke_32 : decode cX11_poke 32 = .ok (.ireturn, 1) := by decide +kernel
theorem dX11_go_0 : decode cX11_go 0 = .ok (.aload_n 0, 1) := by decide +kernel
theorem dX11_go_1 : decode cX11_go 1 = .ok (.getfield 19, 3) := by decide +kernel
theorem dX11_go_4 : decode cX11_go 4 = .ok (.iload_n 1, 1) := by decide +kernel
theorem dX11_go_5 : decode cX11_go 5 = .ok (.invokevirtual 192, 3) := by decide +kernel
theorem dX11_go_8 : decode cX11_go 8 = .ok (.ifCond .eq 14, 3) := by decide +kernel
theorem dX11_go_11 : decode cX11_go 11 = .ok (.aload_n 0, 1) := by decide +kernel
theorem dX11_go_12 : decode cX11_go 12 = .ok (.bipush 19, 2) := by decide +kernel
theorem dX11_go_14 : decode cX11_go 14 = .ok (.iload_n 1, 1) := by decide +kernel
theorem dX11_go_15 : decode cX11_go 15 = .ok (.iconst 0, 1) := by decide +kernel
theorem dX11_go_16 : decode cX11_go 16 = .ok (.invokevirtual 242, 3) := by decide +kernel
theorem dX11_go_19 : decode cX11_go 19 = .ok (.goto 4, 3) := by decide +kernel
theorem dX11_go_22 : decode cX11_go 22 = .ok (.iconst (-1), 1) := by decide +kernel
theorem dX11_go_23 : decode cX11_go 23 = .ok (.ireturn, 1) := by decide +kernel
theorem dX11_stop_0 : decode cX11_stop 0 = .ok (.iload_n 1, 1) := by decide +kernel
theorem dX11_stop_1 : decode cX11_stop 1 = .ok (.iconst 1, 1) := by decide +kernel
theorem dX11_stop_2 : decode cX11_stop 2 = .ok (.sipush 250, 3) := by decide +kernel
theorem dX11_stop_5 : decode cX11_stop 5 = .ok (.invokestatic 237, 3) := by decide +kernel
theorem dX11_stop_8 : decode cX11_stop 8 = .ok (.ifCond .eq 14, 3) := by decide +kernel
theorem dX11_stop_11 : decode cX11_stop 11 = .ok (.aload_n 0, 1) := by decide +kernel
theorem dX11_stop_12 : decode cX11_stop 12 = .ok (.bipush 20, 2) := by decide +kernel
theorem dX11_stop_14 : decode cX11_stop 14 = .ok (.iload_n 1, 1) := by decide +kernel
theorem dX11_stop_15 : decode cX11_stop 15 = .ok (.iconst 0, 1) := by decide +kernel
theorem dX11_stop_16 : decode cX11_stop 16 = .ok (.invokevirtual 242, 3) := by decide +kernel
theorem dX11_stop_19 : decode cX11_stop 19 = .ok (.goto 4, 3) := by decide +kernel
theorem dX11_stop_22 : decode cX11_stop 22 = .ok (.iconst (-1), 1) := by decide +kernel
theorem dX11_stop_23 : decode cX11_stop 23 = .ok (.ireturn, 1) := by decide +kernel
theorem dX11_clear_0 : decode cX11_clear 0 = .ok (.iload_n 1, 1) := by decide +kernel
theorem dX11_clear_1 : decode cX11_clear 1 = .ok (.iconst 1, 1) := by decide +kernel
theorem dX11_clear_2 : decode cX11_clear 2 = .ok (.sipush 250, 3) := by decide +kernel
theorem dX11_clear_5 : decode cX11_clear 5 = .ok (.invokestatic 237, 3) := by decide +kernel
theorem dX11_clear_8 : decode cX11_clear 8 = .ok (.ifCond .eq 14, 3) := by decide +kernel
theorem dX11_clear_11 : decode cX11_clear 11 = .ok (.aload_n 0, 1) := by decide +kernel
theorem dX11_clear_12 : decode cX11_clear 12 = .ok (.bipush 21, 2) := by decide +kernel
theorem dX11_clear_14 : decode cX11_clear 14 = .ok (.iload_n 1, 1) := by decide +kernel
theorem dX11_clear_15 : decode cX11_clear 15 = .ok (.iconst 0, 1) := by decide +kernel
theorem dX11_clear_16 : decode cX11_clear 16 = .ok (.invokevirtual 242, 3) := by decide +kernel
theorem dX11_clear_19 : decode cX11_clear 19 = .ok (.goto 4, 3) := by decide +kernel
theorem dX11_clear_22 : decode cX11_clear 22 = .ok (.iconst (-1), 1) := by decide +kernel
theorem dX11_clear_23 : decode cX11_clear 23 = .ok (.ireturn, 1) := by decide +kernel
theorem dX11_step_0 : decode cX11_step 0 = .ok (.aload_n 0, 1) := by decide +kernel
theorem dX11_step_1 : decode cX11_step 1 = .ok (.bipush 22, 2) := by decide +kernel
theorem dX11_step_3 : decode cX11_step 3 = .ok (.iconst 0, 1) := by decide +kernel
theorem dX11_step_4 : decode cX11_step 4 = .ok (.iconst 0, 1) := by decide +kernel
theorem dX11_step_5 : decode cX11_step 5 = .ok (.invokevirtual 242, 3) := by decide +kernel
theorem dX11_step_8 : decode cX11_step 8 = .ok (.ireturn, 1) := by decide +kernel
theorem dX11_leave_0 : decode cX11_leave 0 = .ok (.aload_n 0, 1) := by decide +kernel
theorem dX11_leave_1 : decode cX11_leave 1 = .ok (.bipush 23, 2) := by decide +kernel
theorem dX11_leave_3 : decode cX11_leave 3 = .ok (.iconst 0, 1) := by decide +kernel
theorem dX11_leave_4 : decode cX11_leave 4 = .ok (.iconst 0, 1) := by decide +kernel
theorem dX11_leave_5 : decode cX11_leave 5 = .ok (.invokevirtual 242, 3) := by decide +kernel
theorem dX11_leave_8 : decode cX11_leave 8 = .ok (.ireturn, 1) := by decide +kernel
theorem dX11_run_0 : decode cX11_run 0 = .ok (.aload_n 0, 1) := by decide +kernel
theorem dX11_run_1 : decode cX11_run 1 = .ok (.bipush 24, 2) := by decide +kernel
theorem dX11_run_3 : decode cX11_run 3 = .ok (.iconst 0, 1) := by decide +kernel
theorem dX11_run_4 : decode cX11_run 4 = .ok (.iconst 0, 1) := by decide +kernel
theorem dX11_run_5 : decode cX11_run 5 = .ok (.invokevirtual 242, 3) := by decide +kernel
theorem dX11_run_8 : decode cX11_run 8 = .ok (.ireturn, 1) := by decide +kernel
theorem dX11_undo_0 : decode cX11_undo 0 = .ok (.aload_n 0, 1) := by decide +kernel
theorem dX11_undo_1 : decode cX11_undo 1 = .ok (.getfield 37, 3) := by decide +kernel
theorem dX11_undo_4 : decode cX11_undo 4 = .ok (.ifCond .gt 5, 3) := by decide +kernel
theorem dX11_undo_7 : decode cX11_undo 7 = .ok (.iconst (-1), 1) := by decide +kernel
theorem dX11_undo_8 : decode cX11_undo 8 = .ok (.ireturn, 1) := by decide +kernel
theorem dX11_undo_9 : decode cX11_undo 9 = .ok (.aload_n 0, 1) := by decide +kernel
theorem dX11_undo_10 : decode cX11_undo 10 = .ok (.dup, 1) := by decide +kernel
theorem dX11_undo_11 : decode cX11_undo 11 = .ok (.getfield 37, 3) := by decide +kernel
theorem dX11_undo_14 : decode cX11_undo 14 = .ok (.iconst 1, 1) := by decide +kernel
theorem dX11_undo_15 : decode cX11_undo 15 = .ok (.isub, 1) := by decide +kernel
theorem dX11_undo_16 : decode cX11_undo 16 = .ok (.putfield 37, 3) := by decide +kernel
theorem dX11_undo_19 : decode cX11_undo 19 = .ok (.aload_n 0, 1) := by decide +kernel
theorem dX11_undo_20 : decode cX11_undo 20 = .ok (.getfield 26, 3) := by decide +kernel
theorem dX11_undo_23 : decode cX11_undo 23 = .ok (.aload_n 0, 1) := by decide +kernel
theorem dX11_undo_24 : decode cX11_undo 24 = .ok (.getfield 33, 3) := by decide +kernel
theorem dX11_undo_27 : decode cX11_undo 27 = .ok (.aload_n 0, 1) := by decide +kernel
theorem dX11_undo_28 : decode cX11_undo 28 = .ok (.getfield 37, 3) := by decide +kernel
theorem dX11_undo_31 : decode cX11_undo 31 = .ok (.aaload, 1) := by decide +kernel
theorem dX11_undo_32 : decode cX11_undo 32 = .ok (.invokevirtual 246, 3) := by decide +kernel
theorem dX11_undo_35 : decode cX11_undo 35 = .ok (.aload_n 0, 1) := by decide +kernel
theorem dX11_undo_36 : decode cX11_undo 36 = .ok (.getfield 37, 3) := by decide +kernel
theorem dX11_undo_39 : decode cX11_undo 39 = .ok (.ireturn, 1) := by decide +kernel
theorem dX11_isIn_0 : decode cX11_isIn 0 = .ok (.iload_n 0, 1) := by decide +kernel
theorem dX11_isIn_1 : decode cX11_isIn 1 = .ok (.iload_n 1, 1) := by decide +kernel
theorem dX11_isIn_2 : decode cX11_isIn 2 = .ok (.if_icmp .lt 12, 3) := by decide +kernel
theorem dX11_isIn_5 : decode cX11_isIn 5 = .ok (.iload_n 0, 1) := by decide +kernel
theorem dX11_isIn_6 : decode cX11_isIn 6 = .ok (.iload_n 2, 1) := by decide +kernel
theorem dX11_isIn_7 : decode cX11_isIn 7 = .ok (.if_icmp .gt 7, 3) := by decide +kernel
theorem dX11_isIn_10 : decode cX11_isIn 10 = .ok (.iconst 1, 1) := by decide +kernel
theorem dX11_isIn_11 : decode cX11_isIn 11 = .ok (.goto 4, 3) := by decide +kernel
theorem dX11_isIn_14 : decode cX11_isIn 14 = .ok (.iconst 0, 1) := by decide +kernel
theorem dX11_isIn_15 : decode cX11_isIn 15 = .ok (.ireturn, 1) := by decide +kernel
theorem dX11_act_0 : decode cX11_act 0 = .ok (.aload_n 0, 1) := by decide +kernel
theorem dX11_act_1 : decode cX11_act 1 = .ok (.getfield 30, 3) := by decide +kernel
theorem dX11_act_4 : decode cX11_act 4 = .ok (.aload_n 0, 1) := by decide +kernel
theorem dX11_act_5 : decode cX11_act 5 = .ok (.getfield 26, 3) := by decide +kernel
theorem dX11_act_8 : decode cX11_act 8 = .ok (.invokevirtual 246, 3) := by decide +kernel
theorem dX11_act_11 : decode cX11_act 11 = .ok (.aload_n 0, 1) := by decide +kernel
theorem dX11_act_12 : decode cX11_act 12 = .ok (.getfield 26, 3) := by decide +kernel
theorem dX11_act_15 : decode cX11_act 15 = .ok (.aload_n 0, 1) := by decide +kernel
theorem dX11_act_16 : decode cX11_act 16 = .ok (.getfield 19, 3) := by decide +kernel
theorem dX11_act_19 : decode cX11_act 19 = .ok (.iload_n 1, 1) := by decide +kernel
theorem dX11_act_20 : decode cX11_act 20 = .ok (.iload_n 2, 1) := by decide +kernel
theorem dX11_act_21 : decode cX11_act 21 = .ok (.iload_n 3, 1) := by decide +kernel
theorem dX11_act_22 : decode cX11_act 22 = .ok (.invokevirtual 249, 3) := by decide +kernel
theorem dX11_act_25 : decode cX11_act 25 = .ok (.istore 4, 2) := by decide +kernel
theorem dX11_act_27 : decode cX11_act 27 = .ok (.iload 4, 2) := by decide +kernel
theorem dX11_act_29 : decode cX11_act 29 = .ok (.ifCond .ne 11, 3) := by decide +kernel
theorem dX11_act_32 : decode cX11_act 32 = .ok (.aload_n 0, 1) := by decide +kernel
theorem dX11_act_33 : decode cX11_act 33 = .ok (.aload_n 0, 1) := by decide +kernel
theorem dX11_act_34 : decode cX11_act 34 = .ok (.getfield 30, 3) := by decide +kernel
theorem dX11_act_37 : decode cX11_act 37 = .ok (.invokevirtual 253, 3) := by decide +kernel
theorem dX11_act_40 : decode cX11_act 40 = .ok (.iload 4, 2) := by decide +kernel
theorem dX11_act_42 : decode cX11_act 42 = .ok (.ireturn, 1) := by decide +kernel
theorem dX11_remember_0 : decode cX11_remember 0 = .ok (.aload_n 0, 1) := by decide +kernel
theorem dX11_remember_1 : decode cX11_remember 1 = .ok (.getfield 37, 3) := by decide +kernel
theorem dX11_remember_4 : decode cX11_remember 4 = .ok (.aload_n 0, 1) := by decide +kernel
theorem dX11_remember_5 : decode cX11_remember 5 = .ok (.getfield 33, 3) := by decide +kernel
theorem dX11_remember_8 : decode cX11_remember 8 = .ok (.arraylength, 1) := by decide +kernel
theorem dX11_remember_9 : decode cX11_remember 9 = .ok (.if_icmp .lt 64, 3) := by decide +kernel
theorem dX11_remember_12 : decode cX11_remember 12 = .ok (.aload_n 0, 1) := by decide +kernel
theorem dX11_remember_13 : decode cX11_remember 13 = .ok (.getfield 33, 3) := by decide +kernel
theorem dX11_remember_16 : decode cX11_remember 16 = .ok (.iconst 0, 1) := by decide +kernel
theorem dX11_remember_17 : decode cX11_remember 17 = .ok (.aaload, 1) := by decide +kernel
theorem dX11_remember_18 : decode cX11_remember 18 = .ok (.astore_n 2, 1) := by decide +kernel
theorem dX11_remember_19 : decode cX11_remember 19 = .ok (.iconst 1, 1) := by decide +kernel
theorem dX11_remember_20 : decode cX11_remember 20 = .ok (.istore_n 3, 1) := by decide +kernel
theorem dX11_remember_21 : decode cX11_remember 21 = .ok (.iload_n 3, 1) := by decide +kernel
theorem dX11_remember_22 : decode cX11_remember 22 = .ok (.aload_n 0, 1) := by decide +kernel
theorem dX11_remember_23 : decode cX11_remember 23 = .ok (.getfield 33, 3) := by decide +kernel
theorem dX11_remember_26 : decode cX11_remember 26 = .ok (.arraylength, 1) := by decide +kernel
theorem dX11_remember_27 : decode cX11_remember 27 = .ok (.if_icmp .ge 23, 3) := by decide +kernel
theorem dX11_remember_30 : decode cX11_remember 30 = .ok (.aload_n 0, 1) := by decide +kernel
theorem dX11_remember_31 : decode cX11_remember 31 = .ok (.getfield 33, 3) := by decide +kernel
theorem dX11_remember_34 : decode cX11_remember 34 = .ok (.iload_n 3, 1) := by decide +kernel
theorem dX11_remember_35 : decode cX11_remember 35 = .ok (.iconst 1, 1) := by decide +kernel
theorem dX11_remember_36 : decode cX11_remember 36 = .ok (.isub, 1) := by decide +kernel
theorem dX11_remember_37 : decode cX11_remember 37 = .ok (.aload_n 0, 1) := by decide +kernel
theorem dX11_remember_38 : decode cX11_remember 38 = .ok (.getfield 33, 3) := by decide +kernel
theorem dX11_remember_41 : decode cX11_remember 41 = .ok (.iload_n 3, 1) := by decide +kernel
theorem dX11_remember_42 : decode cX11_remember 42 = .ok (.aaload, 1) := by decide +kernel
theorem dX11_remember_43 : decode cX11_remember 43 = .ok (.aastore, 1) := by decide +kernel
theorem dX11_remember_44 : decode cX11_remember 44 = .ok (.iinc 3 1, 3) := by decide +kernel
theorem dX11_remember_47 : decode cX11_remember 47 = .ok (.goto (-26), 3) := by decide +kernel
theorem dX11_remember_50 : decode cX11_remember 50 = .ok (.aload_n 0, 1) := by decide +kernel
theorem dX11_remember_51 : decode cX11_remember 51 = .ok (.getfield 33, 3) := by decide +kernel
theorem dX11_remember_54 : decode cX11_remember 54 = .ok (.aload_n 0, 1) := by decide +kernel
theorem dX11_remember_55 : decode cX11_remember 55 = .ok (.getfield 33, 3) := by decide +kernel
theorem dX11_remember_58 : decode cX11_remember 58 = .ok (.arraylength, 1) := by decide +kernel
theorem dX11_remember_59 : decode cX11_remember 59 = .ok (.iconst 1, 1) := by decide +kernel
theorem dX11_remember_60 : decode cX11_remember 60 = .ok (.isub, 1) := by decide +kernel
theorem dX11_remember_61 : decode cX11_remember 61 = .ok (.aload_n 2, 1) := by decide +kernel
theorem dX11_remember_62 : decode cX11_remember 62 = .ok (.aastore, 1) := by decide +kernel
theorem dX11_remember_63 : decode cX11_remember 63 = .ok (.aload_n 0, 1) := by decide +kernel
theorem dX11_remember_64 : decode cX11_remember 64 = .ok (.dup, 1) := by decide +kernel
theorem dX11_remember_65 : decode cX11_remember 65 = .ok (.getfield 37, 3) := by decide +kernel
theorem dX11_remember_68 : decode cX11_remember 68 = .ok (.iconst 1, 1) := by decide +kernel
theorem dX11_remember_69 : decode cX11_remember 69 = .ok (.isub, 1) := by decide +kernel
theorem dX11_remember_70 : decode cX11_remember 70 = .ok (.putfield 37, 3) := by decide +kernel
theorem dX11_remember_73 : decode cX11_remember 73 = .ok (.aload_n 0, 1) := by decide +kernel
theorem dX11_remember_74 : decode cX11_remember 74 = .ok (.getfield 33, 3) := by decide +kernel
theorem dX11_remember_77 : decode cX11_remember 77 = .ok (.aload_n 0, 1) := by decide +kernel
theorem dX11_remember_78 : decode cX11_remember 78 = .ok (.getfield 37, 3) := by decide +kernel
theorem dX11_remember_81 : decode cX11_remember 81 = .ok (.aaload, 1) := by decide +kernel
theorem dX11_remember_82 : decode cX11_remember 82 = .ok (.aload_n 1, 1) := by decide +kernel
theorem dX11_remember_83 : decode cX11_remember 83 = .ok (.invokevirtual 246, 3) := by decide +kernel
theorem dX11_remember_86 : decode cX11_remember 86 = .ok (.aload_n 0, 1) := by decide +kernel
theorem dX11_remember_87 : decode cX11_remember 87 = .ok (.dup, 1) := by decide +kernel
theorem dX11_remember_88 : decode cX11_remember 88 = .ok (.getfield 37, 3) := by decide +kernel
theorem dX11_remember_91 : decode cX11_remember 91 = .ok (.iconst 1, 1) := by decide +kernel
theorem dX11_remember_92 : decode cX11_remember 92 = .ok (.iadd, 1) := by decide +kernel
theorem dX11_remember_93 : decode cX11_remember 93 = .ok (.putfield 37, 3) := by decide +kernel
theorem dX11_remember_96 : decode cX11_remember 96 = .ok (.return_, 1) := by decide +kernel
theorem dX11_packed_0 : decode cX11_packed 0 = .ok (.aload_n 0, 1) := by decide +kernel
theorem dX11_packed_1 : decode cX11_packed 1 = .ok (.getfield 86, 3) := by decide +kernel
theorem dX11_packed_4 : decode cX11_packed 4 = .ok (.aload_n 0, 1) := by decide +kernel
theorem dX11_packed_5 : decode cX11_packed 5 = .ok (.getfield 19, 3) := by decide +kernel
theorem dX11_packed_8 : decode cX11_packed 8 = .ok (.getfield 150, 3) := by decide +kernel
theorem dX11_packed_11 : decode cX11_packed 11 = .ok (.invokevirtual 256, 3) := by decide +kernel
theorem dX11_packed_14 : decode cX11_packed 14 = .ok (.aload_n 0, 1) := by decide +kernel
theorem dX11_packed_15 : decode cX11_packed 15 = .ok (.getfield 86, 3) := by decide +kernel
theorem dX11_packed_18 : decode cX11_packed 18 = .ok (.getfield 260, 3) := by decide +kernel
theorem dX11_packed_21 : decode cX11_packed 21 = .ok (.getfield 189, 3) := by decide +kernel
theorem dX11_packed_24 : decode cX11_packed 24 = .ok (.ireturn, 1) := by decide +kernel
theorem dX11_packedAt_0 : decode cX11_packedAt 0 = .ok (.aload_n 0, 1) := by decide +kernel
theorem dX11_packedAt_1 : decode cX11_packedAt 1 = .ok (.getfield 86, 3) := by decide +kernel
theorem dX11_packedAt_4 : decode cX11_packedAt 4 = .ok (.getfield 260, 3) := by decide +kernel
theorem dX11_packedAt_7 : decode cX11_packedAt 7 = .ok (.iload_n 1, 1) := by decide +kernel
theorem dX11_packedAt_8 : decode cX11_packedAt 8 = .ok (.iconst 0, 1) := by decide +kernel
theorem dX11_packedAt_9 : decode cX11_packedAt 9 = .ok (.invokevirtual 157, 3) := by decide +kernel
theorem dX11_packedAt_12 : decode cX11_packedAt 12 = .ok (.ireturn, 1) := by decide +kernel
theorem dX11_unpacked_0 : decode cX11_unpacked 0 = .ok (.aload_n 0, 1) := by decide +kernel
theorem dX11_unpacked_1 : decode cX11_unpacked 1 = .ok (.getfield 86, 3) := by decide +kernel
theorem dX11_unpacked_4 : decode cX11_unpacked 4 = .ok (.aload_n 0, 1) := by decide +kernel
theorem dX11_unpacked_5 : decode cX11_unpacked 5 = .ok (.getfield 10, 3) := by decide +kernel
theorem dX11_unpacked_8 : decode cX11_unpacked 8 = .ok (.invokevirtual 263, 3) := by decide +kernel
theorem dX11_unpacked_11 : decode cX11_unpacked 11 = .ok (.istore_n 1, 1) := by decide +kernel
theorem dX11_unpacked_12 : decode cX11_unpacked 12 = .ok (.aload_n 0, 1) := by decide +kernel
theorem dX11_unpacked_13 : decode cX11_unpacked 13 = .ok (.getfield 10, 3) := by decide +kernel
theorem dX11_unpacked_16 : decode cX11_unpacked 16 = .ok (.iconst 0, 1) := by decide +kernel
theorem dX11_unpacked_17 : decode cX11_unpacked 17 = .ok (.putfield 120, 3) := by decide +kernel
theorem dX11_unpacked_20 : decode cX11_unpacked 20 = .ok (.iload_n 1, 1) := by decide +kernel
theorem dX11_unpacked_21 : decode cX11_unpacked 21 = .ok (.iconst (-1), 1) := by decide +kernel
theorem dX11_unpacked_22 : decode cX11_unpacked 22 = .ok (.if_icmp .ne 16, 3) := by decide +kernel
theorem dX11_unpacked_25 : decode cX11_unpacked 25 = .ok (.aload_n 0, 1) := by decide +kernel
theorem dX11_unpacked_26 : decode cX11_unpacked 26 = .ok (.getfield 86, 3) := by decide +kernel
theorem dX11_unpacked_29 : decode cX11_unpacked 29 = .ok (.getfield 266, 3) := by decide +kernel
theorem dX11_unpacked_32 : decode cX11_unpacked 32 = .ok (.getfield 189, 3) := by decide +kernel
theorem dX11_unpacked_35 : decode cX11_unpacked 35 = .ok (.goto 6, 3) := by decide +kernel
theorem dX11_unpacked_38 : decode cX11_unpacked 38 = .ok (.iconst (-1), 1) := by decide +kernel
theorem dX11_unpacked_39 : decode cX11_unpacked 39 = .ok (.iload_n 1, 1) := by decide +kernel
theorem dX11_unpacked_40 : decode cX11_unpacked 40 = .ok (.isub, 1) := by decide +kernel
theorem dX11_unpacked_41 : decode cX11_unpacked 41 = .ok (.ireturn, 1) := by decide +kernel
theorem dX11_unpackedAt_0 : decode cX11_unpackedAt 0 = .ok (.aload_n 0, 1) := by decide +kernel
theorem dX11_unpackedAt_1 : decode cX11_unpackedAt 1 = .ok (.getfield 86, 3) := by decide +kernel
theorem dX11_unpackedAt_4 : decode cX11_unpackedAt 4 = .ok (.getfield 266, 3) := by decide +kernel
theorem dX11_unpackedAt_7 : decode cX11_unpackedAt 7 = .ok (.iload_n 1, 1) := by decide +kernel
theorem dX11_unpackedAt_8 : decode cX11_unpackedAt 8 = .ok (.iload_n 2, 1) := by decide +kernel
theorem dX11_unpackedAt_9 : decode cX11_unpackedAt 9 = .ok (.invokevirtual 157, 3) := by decide +kernel
theorem dX11_unpackedAt_12 : decode cX11_unpackedAt 12 = .ok (.ireturn, 1) := by decide +kernel
theorem dX11_cover_0 : decode cX11_cover 0 = .ok (.aload_n 0, 1) := by decide +kernel
theorem dX11_cover_1 : decode cX11_cover 1 = .ok (.getfield 19, 3) := by decide +kernel
theorem dX11_cover_4 : decode cX11_cover 4 = .ok (.getfield 174, 3) := by decide +kernel
theorem dX11_cover_7 : decode cX11_cover 7 = .ok (.iload_n 1, 1) := by decide +kernel
theorem dX11_cover_8 : decode cX11_cover 8 = .ok (.invokevirtual 153, 3) := by decide +kernel
theorem dX11_cover_11 : decode cX11_cover 11 = .ok (.ifCond .eq 12, 3) := by decide +kernel
theorem dX11_cover_14 : decode cX11_cover 14 = .ok (.iload_n 2, 1) := by decide +kernel
theorem dX11_cover_15 : decode cX11_cover 15 = .ok (.ifCond .eq 19, 3) := by decide +kernel
theorem dX11_cover_18 : decode cX11_cover 18 = .ok (.iload_n 2, 1) := by decide +kernel
theorem dX11_cover_19 : decode cX11_cover 19 = .ok (.iconst 1, 1) := by decide +kernel
theorem dX11_cover_20 : decode cX11_cover 20 = .ok (.if_icmp .eq 14, 3) := by decide +kernel
theorem dX11_cover_23 : decode cX11_cover 23 = .ok (.new 208, 3) := by decide +kernel
theorem dX11_cover_26 : decode cX11_cover 26 = .ok (.dup, 1) := by decide +kernel
theorem dX11_cover_27 : decode cX11_cover 27 = .ok (.ldc_w 267, 3) := by decide +kernel
theorem dX11_cover_30 : decode cX11_cover 30 = .ok (.invokespecial 212, 3) := by decide +kernel
theorem dX11_cover_33 : decode cX11_cover 33 = .ok (.athrow, 1) := by decide +kernel
theorem dX11_cover_34 : decode cX11_cover 34 = .ok (.aload_n 0, 1) := by decide +kernel
theorem dX11_cover_35 : decode cX11_cover 35 = .ok (.getfield 19, 3) := by decide +kernel
theorem dX11_cover_38 : decode cX11_cover 38 = .ok (.iload_n 1, 1) := by decide +kernel
theorem dX11_cover_39 : decode cX11_cover 39 = .ok (.invokevirtual 269, 3) := by decide +kernel
theorem dX11_cover_42 : decode cX11_cover 42 = .ok (.istore_n 3, 1) := by decide +kernel
theorem dX11_cover_43 : decode cX11_cover 43 = .ok (.aload_n 0, 1) := by decide +kernel
theorem dX11_cover_44 : decode cX11_cover 44 = .ok (.getfield 19, 3) := by decide +kernel
theorem dX11_cover_47 : decode cX11_cover 47 = .ok (.aload_n 0, 1) := by decide +kernel
theorem dX11_cover_48 : decode cX11_cover 48 = .ok (.getfield 19, 3) := by decide +kernel
theorem dX11_cover_51 : decode cX11_cover 51 = .ok (.getfield 174, 3) := by decide +kernel
theorem dX11_cover_54 : decode cX11_cover 54 = .ok (.iload_n 1, 1) := by decide +kernel
theorem dX11_cover_55 : decode cX11_cover 55 = .ok (.iconst 0, 1) := by decide +kernel
theorem dX11_cover_56 : decode cX11_cover 56 = .ok (.invokevirtual 157, 3) := by decide +kernel
theorem dX11_cover_59 : decode cX11_cover 59 = .ok (.invokevirtual 272, 3) := by decide +kernel
theorem dX11_cover_62 : decode cX11_cover 62 = .ok (.istore 4, 2) := by decide +kernel
theorem dX11_cover_64 : decode cX11_cover 64 = .ok (.iload_n 3, 1) := by decide +kernel
theorem dX11_cover_65 : decode cX11_cover 65 = .ok (.iload 4, 2) := by decide +kernel
theorem dX11_cover_67 : decode cX11_cover 67 = .ok (.invokestatic 275, 3) := by decide +kernel
theorem dX11_cover_70 : decode cX11_cover 70 = .ok (.istore 5, 2) := by decide +kernel
theorem dX11_cover_72 : decode cX11_cover 72 = .ok (.iload_n 2, 1) := by decide +kernel
theorem dX11_cover_73 : decode cX11_cover 73 = .ok (.ifCond .ne 7, 3) := by decide +kernel
theorem dX11_cover_76 : decode cX11_cover 76 = .ok (.iload_n 3, 1) := by decide +kernel
theorem dX11_cover_77 : decode cX11_cover 77 = .ok (.goto 5, 3) := by decide +kernel
theorem dX11_cover_80 : decode cX11_cover 80 = .ok (.iload 4, 2) := by decide +kernel
theorem dX11_cover_82 : decode cX11_cover 82 = .ok (.istore 6, 2) := by decide +kernel
theorem dX11_cover_84 : decode cX11_cover 84 = .ok (.iload 5, 2) := by decide +kernel
theorem dX11_cover_86 : decode cX11_cover 86 = .ok (.ifCond .le 11, 3) := by decide +kernel
theorem dX11_cover_89 : decode cX11_cover 89 = .ok (.iload 6, 2) := by decide +kernel
theorem dX11_cover_91 : decode cX11_cover 91 = .ok (.iload 5, 2) := by decide +kernel
theorem dX11_cover_93 : decode cX11_cover 93 = .ok (.idiv, 1) := by decide +kernel
theorem dX11_cover_94 : decode cX11_cover 94 = .ok (.goto 5, 3) := by decide +kernel
theorem dX11_cover_97 : decode cX11_cover 97 = .ok (.iload 6, 2) := by decide +kernel
theorem dX11_cover_99 : decode cX11_cover 99 = .ok (.ireturn, 1) := by decide +kernel
theorem dX11_commonDivisor_0 : decode cX11_commonDivisor 0 = .ok (.iload_n 0, 1) := by decide +kernel
theorem dX11_commonDivisor_1 : decode cX11_commonDivisor 1 = .ok (.istore_n 2, 1) := by decide +kernel
theorem dX11_commonDivisor_2 : decode cX11_commonDivisor 2 = .ok (.iload_n 1, 1) := by decide +kernel
theorem dX11_commonDivisor_3 : decode cX11_commonDivisor 3 = .ok (.istore_n 3, 1) := by decide +kernel
theorem dX11_commonDivisor_4 : decode cX11_commonDivisor 4 = .ok (.iconst 0, 1) := by decide +kernel
theorem dX11_commonDivisor_5 : decode cX11_commonDivisor 5 = .ok (.istore 4, 2) := by decide +kernel
theorem dX11_commonDivisor_7 : decode cX11_commonDivisor 7 = .ok (.iload 4, 2) := by decide +kernel
theorem dX11_commonDivisor_9 : decode cX11_commonDivisor 9 = .ok (.sipush 1000, 3) := by decide +kernel
theorem dX11_commonDivisor_12 : decode cX11_commonDivisor 12 = .ok (.if_icmp .ge 23, 3) := by decide +kernel
theorem dX11_commonDivisor_15 : decode cX11_commonDivisor 15 = .ok (.iload_n 3, 1) := by decide +kernel
theorem dX11_commonDivisor_16 : decode cX11_commonDivisor 16 = .ok (.ifCond .le 19, 3) := by decide +kernel
theorem dX11_commonDivisor_19 : decode cX11_commonDivisor 19 = .ok (.iload_n 2, 1) := by decide +kernel
theorem dX11_commonDivisor_20 : decode cX11_commonDivisor 20 = .ok (.iload_n 3, 1) := by decide +kernel
theorem dX11_commonDivisor_21 : decode cX11_commonDivisor 21 = .ok (.irem, 1) := by decide +kernel
theorem dX11_commonDivisor_22 : decode cX11_commonDivisor 22 = .ok (.istore 5, 2) := by decide +kernel
theorem dX11_commonDivisor_24 : decode cX11_commonDivisor 24 = .ok (.iload_n 3, 1) := by decide +kernel
theorem dX11_commonDivisor_25 : decode cX11_commonDivisor 25 = .ok (.istore_n 2, 1) := by decide +kernel
theorem dX11_commonDivisor_26 : decode cX11_commonDivisor 26 = .ok (.iload 5, 2) := by decide +kernel
theorem dX11_commonDivisor_28 : decode cX11_commonDivisor 28 = .ok (.istore_n 3, 1) := by decide +kernel
theorem dX11_commonDivisor_29 : decode cX11_commonDivisor 29 = .ok (.iinc 4 1, 3) := by decide +kernel
theorem dX11_commonDivisor_32 : decode cX11_commonDivisor 32 = .ok (.goto (-25), 3) := by decide +kernel
theorem dX11_commonDivisor_35 : decode cX11_commonDivisor 35 = .ok (.iload_n 2, 1) := by decide +kernel
theorem dX11_commonDivisor_36 : decode cX11_commonDivisor 36 = .ok (.ireturn, 1) := by decide +kernel
theorem dX11_longest_0 : decode cX11_longest 0 = .ok (.iconst (-1), 1) := by decide +kernel
theorem dX11_longest_1 : decode cX11_longest 1 = .ok (.istore_n 1, 1) := by decide +kernel
theorem dX11_longest_2 : decode cX11_longest 2 = .ok (.iconst 0, 1) := by decide +kernel
theorem dX11_longest_3 : decode cX11_longest 3 = .ok (.istore_n 2, 1) := by decide +kernel
theorem dX11_longest_4 : decode cX11_longest 4 = .ok (.iconst 1, 1) := by decide +kernel
theorem dX11_longest_5 : decode cX11_longest 5 = .ok (.istore_n 3, 1) := by decide +kernel
theorem dX11_longest_6 : decode cX11_longest 6 = .ok (.iload_n 3, 1) := by decide +kernel
theorem dX11_longest_7 : decode cX11_longest 7 = .ok (.sipush 250, 3) := by decide +kernel
theorem dX11_longest_10 : decode cX11_longest 10 = .ok (.if_icmp .gt 30, 3) := by decide +kernel
theorem dX11_longest_13 : decode cX11_longest 13 = .ok (.aload_n 0, 1) := by decide +kernel
theorem dX11_longest_14 : decode cX11_longest 14 = .ok (.getfield 19, 3) := by decide +kernel
theorem dX11_longest_17 : decode cX11_longest 17 = .ok (.iload_n 3, 1) := by decide +kernel
theorem dX11_longest_18 : decode cX11_longest 18 = .ok (.invokevirtual 278, 3) := by decide +kernel
theorem dX11_longest_21 : decode cX11_longest 21 = .ok (.istore 4, 2) := by decide +kernel
theorem dX11_longest_23 : decode cX11_longest 23 = .ok (.iload 4, 2) := by decide +kernel
theorem dX11_longest_25 : decode cX11_longest 25 = .ok (.iload_n 2, 1) := by decide +kernel
theorem dX11_longest_26 : decode cX11_longest 26 = .ok (.if_icmp .le 8, 3) := by decide +kernel
theorem dX11_longest_29 : decode cX11_longest 29 = .ok (.iload 4, 2) := by decide +kernel
theorem dX11_longest_31 : decode cX11_longest 31 = .ok (.istore_n 2, 1) := by decide +kernel
theorem dX11_longest_32 : decode cX11_longest 32 = .ok (.iload_n 3, 1) := by decide +kernel
theorem dX11_longest_33 : decode cX11_longest 33 = .ok (.istore_n 1, 1) := by decide +kernel
theorem dX11_longest_34 : decode cX11_longest 34 = .ok (.iinc 3 1, 3) := by decide +kernel
theorem dX11_longest_37 : decode cX11_longest 37 = .ok (.goto (-31), 3) := by decide +kernel
theorem dX11_longest_40 : decode cX11_longest 40 = .ok (.iload_n 1, 1) := by decide +kernel
theorem dX11_longest_41 : decode cX11_longest 41 = .ok (.ireturn, 1) := by decide +kernel
theorem dX11_tag_0 : decode cX11_tag 0 = .ok (.aload_n 0, 1) := by decide +kernel
theorem dX11_tag_1 : decode cX11_tag 1 = .ok (.getfield 19, 3) := by decide +kernel
theorem dX11_tag_4 : decode cX11_tag 4 = .ok (.getfield 174, 3) := by decide +kernel
theorem dX11_tag_7 : decode cX11_tag 7 = .ok (.iload_n 1, 1) := by decide +kernel
theorem dX11_tag_8 : decode cX11_tag 8 = .ok (.invokevirtual 153, 3) := by decide +kernel
theorem dX11_tag_11 : decode cX11_tag 11 = .ok (.ifCond .ne 5, 3) := by decide +kernel
theorem dX11_tag_14 : decode cX11_tag 14 = .ok (.iconst (-1), 1) := by decide +kernel
theorem dX11_tag_15 : decode cX11_tag 15 = .ok (.ireturn, 1) := by decide +kernel
theorem dX11_tag_16 : decode cX11_tag 16 = .ok (.aload_n 0, 1) := by decide +kernel
theorem dX11_tag_17 : decode cX11_tag 17 = .ok (.getfield 114, 3) := by decide +kernel
theorem dX11_tag_20 : decode cX11_tag 20 = .ok (.invokevirtual 195, 3) := by decide +kernel
theorem dX11_tag_23 : decode cX11_tag 23 = .ok (.aload_n 0, 1) := by decide +kernel
theorem dX11_tag_24 : decode cX11_tag 24 = .ok (.aload_n 0, 1) := by decide +kernel
theorem dX11_tag_25 : decode cX11_tag 25 = .ok (.getfield 19, 3) := by decide +kernel
theorem dX11_tag_28 : decode cX11_tag 28 = .ok (.getfield 174, 3) := by decide +kernel
theorem dX11_tag_31 : decode cX11_tag 31 = .ok (.iload_n 1, 1) := by decide +kernel
theorem dX11_tag_32 : decode cX11_tag 32 = .ok (.invokevirtual 281, 3) := by decide +kernel
theorem dX11_tag_35 : decode cX11_tag 35 = .ok (.invokevirtual 285, 3) := by decide +kernel
theorem dX11_tag_38 : decode cX11_tag 38 = .ok (.aload_n 0, 1) := by decide +kernel
theorem dX11_tag_39 : decode cX11_tag 39 = .ok (.getfield 44, 3) := by decide +kernel
theorem dX11_tag_42 : decode cX11_tag 42 = .ok (.aload_n 0, 1) := by decide +kernel
theorem dX11_tag_43 : decode cX11_tag 43 = .ok (.getfield 19, 3) := by decide +kernel
theorem dX11_tag_46 : decode cX11_tag 46 = .ok (.aload_n 0, 1) := by decide +kernel
theorem dX11_tag_47 : decode cX11_tag 47 = .ok (.getfield 26, 3) := by decide +kernel
theorem dX11_tag_50 : decode cX11_tag 50 = .ok (.iload_n 1, 1) := by decide +kernel
