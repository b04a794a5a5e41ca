theorem dX3_begin_0 : decode cX3_begin 0 = .ok (.aload_n 0, 1) := by decide +kernel
theorem dX3_begin_1 : decode cX3_begin 1 = .ok (.iload_n 1, 1) := by decide +kernel
theorem dX3_begin_2 : decode cX3_begin 2 = .ok (.aload_n 0, 1) := by decide +kernel
theorem dX3_begin_3 : decode cX3_begin 3 = .ok (.getfield 31, 3) := by decide +kernel
theorem dX3_begin_6 : decode cX3_begin 6 = .ok (.arraylength, 1) := by decide +kernel
theorem dX3_begin_7 : decode cX3_begin 7 = .ok (.invokestatic 35, 3) := by decide +kernel
theorem dX3_begin_10 : decode cX3_begin 10 = .ok (.putfield 9, 3) := by decide +kernel
theorem dX3_begin_13 : decode cX3_begin 13 = .ok (.aload_n 0, 1) := by decide +kernel
theorem dX3_begin_14 : decode cX3_begin 14 = .ok (.iconst 0, 1) := by decide +kernel
theorem dX3_begin_15 : decode cX3_begin 15 = .ok (.putfield 15, 3) := by decide +kernel
theorem dX3_begin_18 : decode cX3_begin 18 = .ok (.return_, 1) := by decide +kernel
theorem dX3_hasDotBehind_0 : decode cX3_hasDotBehind 0 = .ok (.aload_n 0, 1) := by decide +kernel
theorem dX3_hasDotBehind_1 : decode cX3_hasDotBehind 1 = .ok (.aload_n 0, 1) := by decide +kernel
theorem dX3_hasDotBehind_2 : decode cX3_hasDotBehind 2 = .ok (.getfield 15, 3) := by decide +kernel
theorem dX3_hasDotBehind_5 : decode cX3_hasDotBehind 5 = .ok (.invokevirtual 41, 3) := by decide +kernel
theorem dX3_hasDotBehind_8 : decode cX3_hasDotBehind 8 = .ok (.istore_n 1, 1) := by decide +kernel
theorem dX3_hasDotBehind_9 : decode cX3_hasDotBehind 9 = .ok (.iload_n 1, 1) := by decide +kernel
theorem dX3_hasDotBehind_10 : decode cX3_hasDotBehind 10 = .ok (.aload_n 0, 1) := by decide +kernel
theorem dX3_hasDotBehind_11 : decode cX3_hasDotBehind 11 = .ok (.getfield 9, 3) := by decide +kernel
theorem dX3_hasDotBehind_14 : decode cX3_hasDotBehind 14 = .ok (.if_icmp .ge 18, 3) := by decide +kernel
theorem dX3_hasDotBehind_17 : decode cX3_hasDotBehind 17 = .ok (.aload_n 0, 1) := by decide +kernel
theorem dX3_hasDotBehind_18 : decode cX3_hasDotBehind 18 = .ok (.getfield 31, 3) := by decide +kernel
theorem dX3_hasDotBehind_21 : decode cX3_hasDotBehind 21 = .ok (.iload_n 1, 1) := by decide +kernel
theorem dX3_hasDotBehind_22 : decode cX3_hasDotBehind 22 = .ok (.baload, 1) := by decide +kernel
theorem dX3_hasDotBehind_23 : decode cX3_hasDotBehind 23 = .ok (.bipush 46, 2) := by decide +kernel
theorem dX3_hasDotBehind_25 : decode cX3_hasDotBehind 25 = .ok (.if_icmp .ne 7, 3) := by decide +kernel
theorem dX3_hasDotBehind_28 : decode cX3_hasDotBehind 28 = .ok (.iconst 1, 1) := by decide +kernel
theorem dX3_hasDotBehind_29 : decode cX3_hasDotBehind 29 = .ok (.goto 4, 3) := by decide +kernel
theorem dX3_hasDotBehind_32 : decode cX3_hasDotBehind 32 = .ok (.iconst 0, 1) := by decide +kernel
theorem dX3_hasDotBehind_33 : decode cX3_hasDotBehind 33 = .ok (.ireturn, 1) := by decide +kernel
theorem dX3_init_0 : decode cX3_init 0 = .ok (.aload_n 0, 1) := by decide +kernel
theorem dX3_init_1 : decode cX3_init 1 = .ok (.invokespecial 3, 3) := by decide +kernel
theorem dX3_init_4 : decode cX3_init 4 = .ok (.aload_n 0, 1) := by decide +kernel
theorem dX3_init_5 : decode cX3_init 5 = .ok (.iconst 0, 1) := by decide +kernel
theorem dX3_init_6 : decode cX3_init 6 = .ok (.putfield 9, 3) := by decide +kernel
theorem dX3_init_9 : decode cX3_init 9 = .ok (.aload_n 0, 1) := by decide +kernel
theorem dX3_init_10 : decode cX3_init 10 = .ok (.iconst 0, 1) := by decide +kernel
theorem dX3_init_11 : decode cX3_init 11 = .ok (.putfield 15, 3) := by decide +kernel
theorem dX3_init_14 : decode cX3_init 14 = .ok (.aload_n 0, 1) := by decide +kernel
theorem dX3_init_15 : decode cX3_init 15 = .ok (.iconst (-1), 1) := by decide +kernel
theorem dX3_init_16 : decode cX3_init 16 = .ok (.putfield 18, 3) := by decide +kernel
theorem dX3_init_19 : decode cX3_init 19 = .ok (.aload_n 0, 1) := by decide +kernel
theorem dX3_init_20 : decode cX3_init 20 = .ok (.iconst 0, 1) := by decide +kernel
theorem dX3_init_21 : decode cX3_init 21 = .ok (.putfield 21, 3) := by decide +kernel
theorem dX3_init_24 : decode cX3_init 24 = .ok (.aload_n 0, 1) := by decide +kernel
theorem dX3_init_25 : decode cX3_init 25 = .ok (.lconst 0, 1) := by decide +kernel
theorem dX3_init_26 : decode cX3_init 26 = .ok (.putfield 24, 3) := by decide +kernel
theorem dX3_init_29 : decode cX3_init 29 = .ok (.aload_n 0, 1) := by decide +kernel
theorem dX3_init_30 : decode cX3_init 30 = .ok (.lconst 0, 1) := by decide +kernel
theorem dX3_init_31 : decode cX3_init 31 = .ok (.putfield 28, 3) := by decide +kernel
theorem dX3_init_34 : decode cX3_init 34 = .ok (.aload_n 0, 1) := by decide +kernel
theorem dX3_init_35 : decode cX3_init 35 = .ok (.aload_n 1, 1) := by decide +kernel
theorem dX3_init_36 : decode cX3_init 36 = .ok (.putfield 31, 3) := by decide +kernel
theorem dX3_init_39 : decode cX3_init 39 = .ok (.return_, 1) := by decide +kernel
theorem dX3_isDigit_0 : decode cX3_isDigit 0 = .ok (.iload_n 0, 1) := by decide +kernel
theorem dX3_isDigit_1 : decode cX3_isDigit 1 = .ok (.bipush 48, 2) := by decide +kernel
theorem dX3_isDigit_3 : decode cX3_isDigit 3 = .ok (.if_icmp .lt 13, 3) := by decide +kernel
theorem dX3_isDigit_6 : decode cX3_isDigit 6 = .ok (.iload_n 0, 1) := by decide +kernel
theorem dX3_isDigit_7 : decode cX3_isDigit 7 = .ok (.bipush 57, 2) := by decide +kernel
theorem dX3_isDigit_9 : decode cX3_isDigit 9 = .ok (.if_icmp .gt 7, 3) := by decide +kernel
theorem dX3_isDigit_12 : decode cX3_isDigit 12 = .ok (.iconst 1, 1) := by decide +kernel
theorem dX3_isDigit_13 : decode cX3_isDigit 13 = .ok (.goto 4, 3) := by decide +kernel
theorem dX3_isDigit_16 : decode cX3_isDigit 16 = .ok (.iconst 0, 1) := by decide +kernel
theorem dX3_isDigit_17 : decode cX3_isDigit 17 = .ok (.ireturn, 1) := by decide +kernel
theorem dX3_isLetter_0 : decode cX3_isLetter 0 = .ok (.iload_n 0, 1) := by decide +kernel
theorem dX3_isLetter_1 : decode cX3_isLetter 1 = .ok (.bipush 97, 2) := by decide +kernel
theorem dX3_isLetter_3 : decode cX3_isLetter 3 = .ok (.if_icmp .lt 9, 3) := by decide +kernel
theorem dX3_isLetter_6 : decode cX3_isLetter 6 = .ok (.iload_n 0, 1) := by decide +kernel
theorem dX3_isLetter_7 : decode cX3_isLetter 7 = .ok (.bipush 122, 2) := by decide +kernel
theorem dX3_isLetter_9 : decode cX3_isLetter 9 = .ok (.if_icmp .le 15, 3) := by decide +kernel
theorem dX3_isLetter_12 : decode cX3_isLetter 12 = .ok (.iload_n 0, 1) := by decide +kernel
theorem dX3_isLetter_13 : decode cX3_isLetter 13 = .ok (.bipush 65, 2) := by decide +kernel
theorem dX3_isLetter_15 : decode cX3_isLetter 15 = .ok (.if_icmp .lt 13, 3) := by decide +kernel
theorem dX3_isLetter_18 : decode cX3_isLetter 18 = .ok (.iload_n 0, 1) := by decide +kernel
theorem dX3_isLetter_19 : decode cX3_isLetter 19 = .ok (.bipush 90, 2) := by decide +kernel
theorem dX3_isLetter_21 : decode cX3_isLetter 21 = .ok (.if_icmp .gt 7, 3) := by decide +kernel
theorem dX3_isLetter_24 : decode cX3_isLetter 24 = .ok (.iconst 1, 1) := by decide +kernel
theorem dX3_isLetter_25 : decode cX3_isLetter 25 = .ok (.goto 4, 3) := by decide +kernel
theorem dX3_isLetter_28 : decode cX3_isLetter 28 = .ok (.iconst 0, 1) := by decide +kernel
theorem dX3_isLetter_29 : decode cX3_isLetter 29 = .ok (.ireturn, 1) := by decide +kernel
theorem dX3_isSign_0 : decode cX3_isSign 0 = .ok (.iload_n 0, 1) := by decide +kernel
theorem dX3_isSign_1 : decode cX3_isSign 1 = .ok (.tableswitch 117 37 61 #[115, 117, 117, 115, 115, 115, 115, 117, 115, 115, 115, 117, 117, 117, 117, 117, 117, 117, 117, 117, 117, 115, 115, 115, 115], 115) := by decide +kernel
theorem dX3_isSign_116 : decode cX3_isSign 116 = .ok (.iconst 1, 1) := by decide +kernel
theorem dX3_isSign_117 : decode cX3_isSign 117 = .ok (.ireturn, 1) := by decide +kernel
theorem dX3_isSign_118 : decode cX3_isSign 118 = .ok (.iconst 0, 1) := by decide +kernel
theorem dX3_isSign_119 : decode cX3_isSign 119 = .ok (.ireturn, 1) := by decide +kernel
theorem dX3_keywordOrName_0 : decode cX3_keywordOrName 0 = .ok (.iload_n 0, 1) := by decide +kernel
theorem dX3_keywordOrName_1 : decode cX3_keywordOrName 1 = .ok (.lookupswitch 107 #[(26982, 98), (6647396, 92), (6909544, 85), (7305070, 95), (7567725, 83), (7567726, 87), (1701606245, 104), (1920298085, 89), (1952998766, 101)], 83) := by decide +kernel
theorem dX3_keywordOrName_84 : decode cX3_keywordOrName 84 = .ok (.iconst 3, 1) := by decide +kernel
theorem dX3_keywordOrName_85 : decode cX3_keywordOrName 85 = .ok (.ireturn, 1) := by decide +kernel
theorem dX3_keywordOrName_86 : decode cX3_keywordOrName 86 = .ok (.iconst 4, 1) := by decide +kernel
theorem dX3_keywordOrName_87 : decode cX3_keywordOrName 87 = .ok (.ireturn, 1) := by decide +kernel
theorem dX3_keywordOrName_88 : decode cX3_keywordOrName 88 = .ok (.iconst 5, 1) := by decide +kernel
theorem dX3_keywordOrName_89 : decode cX3_keywordOrName 89 = .ok (.ireturn, 1) := by decide +kernel
theorem dX3_keywordOrName_90 : decode cX3_keywordOrName 90 = .ok (.bipush 6, 2) := by decide +kernel
theorem dX3_keywordOrName_92 : decode cX3_keywordOrName 92 = .ok (.ireturn, 1) := by decide +kernel
theorem dX3_keywordOrName_93 : decode cX3_keywordOrName 93 = .ok (.bipush 7, 2) := by decide +kernel
theorem dX3_keywordOrName_95 : decode cX3_keywordOrName 95 = .ok (.ireturn, 1) := by decide +kernel
theorem dX3_keywordOrName_96 : decode cX3_keywordOrName 96 = .ok (.bipush 8, 2) := by decide +kernel
theorem dX3_keywordOrName_98 : decode cX3_keywordOrName 98 = .ok (.ireturn, 1) := by decide +kernel
theorem dX3_keywordOrName_99 : decode cX3_keywordOrName 99 = .ok (.bipush 9, 2) := by decide +kernel
theorem dX3_keywordOrName_101 : decode cX3_keywordOrName 101 = .ok (.ireturn, 1) := by decide +kernel
theorem dX3_keywordOrName_102 : decode cX3_keywordOrName 102 = .ok (.bipush 10, 2) := by decide +kernel
theorem dX3_keywordOrName_104 : decode cX3_keywordOrName 104 = .ok (.ireturn, 1) := by decide +kernel
theorem dX3_keywordOrName_105 : decode cX3_keywordOrName 105 = .ok (.bipush 11, 2) := by decide +kernel
theorem dX3_keywordOrName_107 : decode cX3_keywordOrName 107 = .ok (.ireturn, 1) := by decide +kernel
theorem dX3_keywordOrName_108 : decode cX3_keywordOrName 108 = .ok (.iconst 1, 1) := by decide +kernel
theorem dX3_keywordOrName_109 : decode cX3_keywordOrName 109 = .ok (.ireturn, 1) := by decide +kernel
theorem dX3_next_0 : decode cX3_next 0 = .ok (.aload_n 0, 1) := by decide +kernel
theorem dX3_next_1 : decode cX3_next 1 = .ok (.aload_n 0, 1) := by decide +kernel
theorem dX3_next_2 : decode cX3_next 2 = .ok (.aload_n 0, 1) := by decide +kernel
theorem dX3_next_3 : decode cX3_next 3 = .ok (.getfield 15, 3) := by decide +kernel
theorem dX3_next_6 : decode cX3_next 6 = .ok (.invokevirtual 41, 3) := by decide +kernel
theorem dX3_next_9 : decode cX3_next 9 = .ok (.putfield 21, 3) := by decide +kernel
theorem dX3_next_12 : decode cX3_next 12 = .ok (.aload_n 0, 1) := by decide +kernel
theorem dX3_next_13 : decode cX3_next 13 = .ok (.getfield 21, 3) := by decide +kernel
theorem dX3_next_16 : decode cX3_next 16 = .ok (.aload_n 0, 1) := by decide +kernel
theorem dX3_next_17 : decode cX3_next 17 = .ok (.getfield 9, 3) := by decide +kernel
theorem dX3_next_20 : decode cX3_next 20 = .ok (.if_icmp .lt 17, 3) := by decide +kernel
theorem dX3_next_23 : decode cX3_next 23 = .ok (.aload_n 0, 1) := by decide +kernel
theorem dX3_next_24 : decode cX3_next 24 = .ok (.iconst 0, 1) := by decide +kernel
theorem dX3_next_25 : decode cX3_next 25 = .ok (.putfield 18, 3) := by decide +kernel
theorem dX3_next_28 : decode cX3_next 28 = .ok (.aload_n 0, 1) := by decide +kernel
theorem dX3_next_29 : decode cX3_next 29 = .ok (.aload_n 0, 1) := by decide +kernel
theorem dX3_next_30 : decode cX3_next 30 = .ok (.getfield 9, 3) := by decide +kernel
theorem dX3_next_33 : decode cX3_next 33 = .ok (.putfield 15, 3) := by decide +kernel
theorem dX3_next_36 : decode cX3_next 36 = .ok (.return_, 1) := by decide +kernel
theorem dX3_next_37 : decode cX3_next 37 = .ok (.aload_n 0, 1) := by decide +kernel
theorem dX3_next_38 : decode cX3_next 38 = .ok (.getfield 31, 3) := by decide +kernel
theorem dX3_next_41 : decode cX3_next 41 = .ok (.aload_n 0, 1) := by decide +kernel
theorem dX3_next_42 : decode cX3_next 42 = .ok (.getfield 21, 3) := by decide +kernel
theorem dX3_next_45 : decode cX3_next 45 = .ok (.baload, 1) := by decide +kernel
theorem dX3_next_46 : decode cX3_next 46 = .ok (.istore_n 1, 1) := by decide +kernel
theorem dX3_next_47 : decode cX3_next 47 = .ok (.iload_n 1, 1) := by decide +kernel
theorem dX3_next_48 : decode cX3_next 48 = .ok (.invokestatic 45, 3) := by decide +kernel
theorem dX3_next_51 : decode cX3_next 51 = .ok (.ifCond .eq 10, 3) := by decide +kernel
theorem dX3_next_54 : decode cX3_next 54 = .ok (.aload_n 0, 1) := by decide +kernel
theorem dX3_next_55 : decode cX3_next 55 = .ok (.invokevirtual 49, 3) := by decide +kernel
theorem dX3_next_58 : decode cX3_next 58 = .ok (.goto 43, 3) := by decide +kernel
theorem dX3_next_61 : decode cX3_next 61 = .ok (.iload_n 1, 1) := by decide +kernel
theorem dX3_next_62 : decode cX3_next 62 = .ok (.invokestatic 52, 3) := by decide +kernel
theorem dX3_next_65 : decode cX3_next 65 = .ok (.ifCond .eq 10, 3) := by decide +kernel
theorem dX3_next_68 : decode cX3_next 68 = .ok (.aload_n 0, 1) := by decide +kernel
theorem dX3_next_69 : decode cX3_next 69 = .ok (.invokevirtual 55, 3) := by decide +kernel
theorem dX3_next_72 : decode cX3_next 72 = .ok (.goto 29, 3) := by decide +kernel
theorem dX3_next_75 : decode cX3_next 75 = .ok (.aload_n 0, 1) := by decide +kernel
theorem dX3_next_76 : decode cX3_next 76 = .ok (.iload_n 1, 1) := by decide +kernel
theorem dX3_next_77 : decode cX3_next 77 = .ok (.invokestatic 58, 3) := by decide +kernel
theorem dX3_next_80 : decode cX3_next 80 = .ok (.ifCond .eq 7, 3) := by decide +kernel
theorem dX3_next_83 : decode cX3_next 83 = .ok (.iload_n 1, 1) := by decide +kernel
theorem dX3_next_84 : decode cX3_next 84 = .ok (.goto 4, 3) := by decide +kernel
theorem dX3_next_87 : decode cX3_next 87 = .ok (.iconst (-1), 1) := by decide +kernel
theorem dX3_next_88 : decode cX3_next 88 = .ok (.putfield 18, 3) := by decide +kernel
theorem dX3_next_91 : decode cX3_next 91 = .ok (.aload_n 0, 1) := by decide +kernel
theorem dX3_next_92 : decode cX3_next 92 = .ok (.aload_n 0, 1) := by decide +kernel
theorem dX3_next_93 : decode cX3_next 93 = .ok (.getfield 21, 3) := by decide +kernel
theorem dX3_next_96 : decode cX3_next 96 = .ok (.iconst 1, 1) := by decide +kernel
theorem dX3_next_97 : decode cX3_next 97 = .ok (.iadd, 1) := by decide +kernel
theorem dX3_next_98 : decode cX3_next 98 = .ok (.putfield 15, 3) := by decide +kernel
theorem dX3_next_101 : decode cX3_next 101 = .ok (.return_, 1) := by decide +kernel
theorem dX3_skipBlanks_0 : decode cX3_skipBlanks 0 = .ok (.iload_n 1, 1) := by decide +kernel
theorem dX3_skipBlanks_1 : decode cX3_skipBlanks 1 = .ok (.istore_n 2, 1) := by decide +kernel
theorem dX3_skipBlanks_2 : decode cX3_skipBlanks 2 = .ok (.iload_n 2, 1) := by decide +kernel
theorem dX3_skipBlanks_3 : decode cX3_skipBlanks 3 = .ok (.aload_n 0, 1) := by decide +kernel
theorem dX3_skipBlanks_4 : decode cX3_skipBlanks 4 = .ok (.getfield 9, 3) := by decide +kernel
theorem dX3_skipBlanks_7 : decode cX3_skipBlanks 7 = .ok (.if_icmp .ge 31, 3) := by decide +kernel
theorem dX3_skipBlanks_10 : decode cX3_skipBlanks 10 = .ok (.aload_n 0, 1) := by decide +kernel
theorem dX3_skipBlanks_11 : decode cX3_skipBlanks 11 = .ok (.getfield 31, 3) := by decide +kernel
theorem dX3_skipBlanks_14 : decode cX3_skipBlanks 14 = .ok (.iload_n 2, 1) := by decide +kernel
theorem dX3_skipBlanks_15 : decode cX3_skipBlanks 15 = .ok (.baload, 1) := by decide +kernel
theorem dX3_skipBlanks_16 : decode cX3_skipBlanks 16 = .ok (.bipush 32, 2) := by decide +kernel
theorem dX3_skipBlanks_18 : decode cX3_skipBlanks 18 = .ok (.if_icmp .eq 14, 3) := by decide +kernel
theorem dX3_skipBlanks_21 : decode cX3_skipBlanks 21 = .ok (.aload_n 0, 1) := by decide +kernel
theorem dX3_skipBlanks_22 : decode cX3_skipBlanks 22 = .ok (.getfield 31, 3) := by decide +kernel
theorem dX3_skipBlanks_25 : decode cX3_skipBlanks 25 = .ok (.iload_n 2, 1) := by decide +kernel
theorem dX3_skipBlanks_26 : decode cX3_skipBlanks 26 = .ok (.baload, 1) := by decide +kernel
theorem dX3_skipBlanks_27 : decode cX3_skipBlanks 27 = .ok (.bipush 10, 2) := by decide +kernel
theorem dX3_skipBlanks_29 : decode cX3_skipBlanks 29 = .ok (.if_icmp .ne 9, 3) := by decide +kernel
theorem dX3_skipBlanks_32 : decode cX3_skipBlanks 32 = .ok (.iinc 2 1, 3) := by decide +kernel
theorem dX3_skipBlanks_35 : decode cX3_skipBlanks 35 = .ok (.goto (-33), 3) := by decide +kernel
theorem dX3_skipBlanks_38 : decode cX3_skipBlanks 38 = .ok (.iload_n 2, 1) := by decide +kernel
theorem dX3_skipBlanks_39 : decode cX3_skipBlanks 39 = .ok (.ireturn, 1) := by decide +kernel
theorem dX3_takeDigits_0 : decode cX3_takeDigits 0 = .ok (.lconst 0, 1) := by decide +kernel
theorem dX3_takeDigits_1 : decode cX3_takeDigits 1 = .ok (.lstore_n 1, 1) := by decide +kernel
theorem dX3_takeDigits_2 : decode cX3_takeDigits 2 = .ok (.aload_n 0, 1) := by decide +kernel
theorem dX3_takeDigits_3 : decode cX3_takeDigits 3 = .ok (.getfield 21, 3) := by decide +kernel
theorem dX3_takeDigits_6 : decode cX3_takeDigits 6 = .ok (.istore_n 3, 1) := by decide +kernel
theorem dX3_takeDigits_7 : decode cX3_takeDigits 7 = .ok (.iload_n 3, 1) := by decide +kernel
theorem dX3_takeDigits_8 : decode cX3_takeDigits 8 = .ok (.aload_n 0, 1) := by decide +kernel
theorem dX3_takeDigits_9 : decode cX3_takeDigits 9 = .ok (.getfield 9, 3) := by decide +kernel
theorem dX3_takeDigits_12 : decode cX3_takeDigits 12 = .ok (.if_icmp .ge 46, 3) := by decide +kernel
theorem dX3_takeDigits_15 : decode cX3_takeDigits 15 = .ok (.aload_n 0, 1) := by decide +kernel
theorem dX3_takeDigits_16 : decode cX3_takeDigits 16 = .ok (.getfield 31, 3) := by decide +kernel
theorem dX3_takeDigits_19 : decode cX3_takeDigits 19 = .ok (.iload_n 3, 1) := by decide +kernel
theorem dX3_takeDigits_20 : decode cX3_takeDigits 20 = .ok (.baload, 1) := by decide +kernel
theorem dX3_takeDigits_21 : decode cX3_takeDigits 21 = .ok (.invokestatic 52, 3) := by decide +kernel
theorem dX3_takeDigits_24 : decode cX3_takeDigits 24 = .ok (.ifCond .eq 34, 3) := by decide +kernel
theorem dX3_takeDigits_27 : decode cX3_takeDigits 27 = .ok (.lload_n 1, 1) := by decide +kernel
theorem dX3_takeDigits_28 : decode cX3_takeDigits 28 = .ok (.ldc2_w 64, 3) := by decide +kernel
theorem dX3_takeDigits_31 : decode cX3_takeDigits 31 = .ok (.lcmp, 1) := by decide +kernel
theorem dX3_takeDigits_32 : decode cX3_takeDigits 32 = .ok (.ifCond .gt 20, 3) := by decide +kernel
theorem dX3_takeDigits_35 : decode cX3_takeDigits 35 = .ok (.lload_n 1, 1) := by decide +kernel
theorem dX3_takeDigits_36 : decode cX3_takeDigits 36 = .ok (.ldc2_w 66, 3) := by decide +kernel
theorem dX3_takeDigits_39 : decode cX3_takeDigits 39 = .ok (.lmul, 1) := by decide +kernel
theorem dX3_takeDigits_40 : decode cX3_takeDigits 40 = .ok (.aload_n 0, 1) := by decide +kernel
theorem dX3_takeDigits_41 : decode cX3_takeDigits 41 = .ok (.getfield 31, 3) := by decide +kernel
theorem dX3_takeDigits_44 : decode cX3_takeDigits 44 = .ok (.iload_n 3, 1) := by decide +kernel
theorem dX3_takeDigits_45 : decode cX3_takeDigits 45 = .ok (.baload, 1) := by decide +kernel
theorem dX3_takeDigits_46 : decode cX3_takeDigits 46 = .ok (.bipush 48, 2) := by decide +kernel
theorem dX3_takeDigits_48 : decode cX3_takeDigits 48 = .ok (.isub, 1) := by decide +kernel
theorem dX3_takeDigits_49 : decode cX3_takeDigits 49 = .ok (.i2l, 1) := by decide +kernel
theorem dX3_takeDigits_50 : decode cX3_takeDigits 50 = .ok (.ladd, 1) := by decide +kernel
theorem dX3_takeDigits_51 : decode cX3_takeDigits 51 = .ok (.lstore_n 1, 1) := by decide +kernel
theorem dX3_takeDigits_52 : decode cX3_takeDigits 52 = .ok (.iinc 3 1, 3) := by decide +kernel
theorem dX3_takeDigits_55 : decode cX3_takeDigits 55 = .ok (.goto (-48), 3) := by decide +kernel
theorem dX3_takeDigits_58 : decode cX3_takeDigits 58 = .ok (.aload_n 0, 1) := by decide +kernel
theorem dX3_takeDigits_59 : decode cX3_takeDigits 59 = .ok (.iload_n 3, 1) := by decide +kernel
theorem dX3_takeDigits_60 : decode cX3_takeDigits 60 = .ok (.putfield 15, 3) := by decide +kernel
theorem dX3_takeDigits_63 : decode cX3_takeDigits 63 = .ok (.aload_n 0, 1) := by decide +kernel
theorem dX3_takeDigits_64 : decode cX3_takeDigits 64 = .ok (.lload_n 1, 1) := by decide +kernel
theorem dX3_takeDigits_65 : decode cX3_takeDigits 65 = .ok (.putfield 28, 3) := by decide +kernel
theorem dX3_takeDigits_68 : decode cX3_takeDigits 68 = .ok (.aload_n 0, 1) := by decide +kernel
theorem dX3_takeDigits_69 : decode cX3_takeDigits 69 = .ok (.iconst 2, 1) := by decide +kernel
theorem dX3_takeDigits_70 : decode cX3_takeDigits 70 = .ok (.putfield 18, 3) := by decide +kernel
theorem dX3_takeDigits_73 : decode cX3_takeDigits 73 = .ok (.return_, 1) := by decide +kernel
theorem dX3_takeLetters_0 : decode cX3_takeLetters 0 = .ok (.lconst 0, 1) := by decide +kernel
theorem dX3_takeLetters_1 : decode cX3_takeLetters 1 = .ok (.lstore_n 1, 1) := by decide +kernel
theorem dX3_takeLetters_2 : decode cX3_takeLetters 2 = .ok (.aload_n 0, 1) := by decide +kernel
theorem dX3_takeLetters_3 : decode cX3_takeLetters 3 = .ok (.getfield 21, 3) := by decide +kernel
theorem dX3_takeLetters_6 : decode cX3_takeLetters 6 = .ok (.istore_n 3, 1) := by decide +kernel
theorem dX3_takeLetters_7 : decode cX3_takeLetters 7 = .ok (.iload_n 3, 1) := by decide +kernel
theorem dX3_takeLetters_8 : decode cX3_takeLetters 8 = .ok (.aload_n 0, 1) := by decide +kernel
theorem dX3_takeLetters_9 : decode cX3_takeLetters 9 = .ok (.getfield 9, 3) := by decide +kernel
theorem dX3_takeLetters_12 : decode cX3_takeLetters 12 = .ok (.if_icmp .ge 34, 3) := by decide +kernel
theorem dX3_takeLetters_15 : decode cX3_takeLetters 15 = .ok (.aload_n 0, 1) := by decide +kernel
theorem dX3_takeLetters_16 : decode cX3_takeLetters 16 = .ok (.getfield 31, 3) := by decide +kernel
theorem dX3_takeLetters_19 : decode cX3_takeLetters 19 = .ok (.iload_n 3, 1) := by decide +kernel
theorem dX3_takeLetters_20 : decode cX3_takeLetters 20 = .ok (.baload, 1) := by decide +kernel
theorem dX3_takeLetters_21 : decode cX3_takeLetters 21 = .ok (.invokestatic 45, 3) := by decide +kernel
theorem dX3_takeLetters_24 : decode cX3_takeLetters 24 = .ok (.ifCond .eq 22, 3) := by decide +kernel
theorem dX3_takeLetters_27 : decode cX3_takeLetters 27 = .ok (.lload_n 1, 1) := by decide +kernel
theorem dX3_takeLetters_28 : decode cX3_takeLetters 28 = .ok (.bipush 8, 2) := by decide +kernel
theorem dX3_takeLetters_30 : decode cX3_takeLetters 30 = .ok (.lshl, 1) := by decide +kernel
theorem dX3_takeLetters_31 : decode cX3_takeLetters 31 = .ok (.aload_n 0, 1) := by decide +kernel
theorem dX3_takeLetters_32 : decode cX3_takeLetters 32 = .ok (.getfield 31, 3) := by decide +kernel
theorem dX3_takeLetters_35 : decode cX3_takeLetters 35 = .ok (.iload_n 3, 1) := by decide +kernel
theorem dX3_takeLetters_36 : decode cX3_takeLetters 36 = .ok (.baload, 1) := by decide +kernel
theorem dX3_takeLetters_37 : decode cX3_takeLetters 37 = .ok (.i2l, 1) := by decide +kernel
theorem dX3_takeLetters_38 : decode cX3_takeLetters 38 = .ok (.lor, 1) := by decide +kernel
theorem dX3_takeLetters_39 : decode cX3_takeLetters 39 = .ok (.lstore_n 1, 1) := by decide +kernel
theorem dX3_takeLetters_40 : decode cX3_takeLetters 40 = .ok (.iinc 3 1, 3) := by decide +kernel
theorem dX3_takeLetters_43 : decode cX3_takeLetters 43 = .ok (.goto (-36), 3) := by decide +kernel
theorem dX3_takeLetters_46 : decode cX3_takeLetters 46 = .ok (.aload_n 0, 1) := by decide +kernel
theorem dX3_takeLetters_47 : decode cX3_takeLetters 47 = .ok (.iload_n 3, 1) := by decide +kernel
theorem dX3_takeLetters_48 : decode cX3_takeLetters 48 = .ok (.putfield 15, 3) := by decide +kernel
theorem dX3_takeLetters_51 : decode cX3_takeLetters 51 = .ok (.aload_n 0, 1) := by decide +kernel
theorem dX3_takeLetters_52 : decode cX3_takeLetters 52 = .ok (.lload_n 1, 1) := by decide +kernel
theorem dX3_takeLetters_53 : decode cX3_takeLetters 53 = .ok (.putfield 24, 3) := by decide +kernel
theorem dX3_takeLetters_56 : decode cX3_takeLetters 56 = .ok (.iload_n 3, 1) := by decide +kernel
theorem dX3_takeLetters_57 : decode cX3_takeLetters 57 = .ok (.aload_n 0, 1) := by decide +kernel
theorem dX3_takeLetters_58 : decode cX3_takeLetters 58 = .ok (.getfield 21, 3) := by decide +kernel
theorem dX3_takeLetters_61 : decode cX3_takeLetters 61 = .ok (.isub, 1) := by decide +kernel
theorem dX3_takeLetters_62 : decode cX3_takeLetters 62 = .ok (.istore 4, 2) := by decide +kernel
theorem dX3_takeLetters_64 : decode cX3_takeLetters 64 = .ok (.aload_n 0, 1) := by decide +kernel
theorem dX3_takeLetters_65 : decode cX3_takeLetters 65 = .ok (.iload 4, 2) := by decide +kernel
theorem dX3_takeLetters_67 : decode cX3_takeLetters 67 = .ok (.bipush 8, 2) := by decide +kernel
theorem dX3_takeLetters_69 : decode cX3_takeLetters 69 = .ok (.if_icmp .le 7, 3) := by decide +kernel
theorem dX3_takeLetters_72 : decode cX3_takeLetters 72 = .ok (.iconst (-1), 1) := by decide +kernel
theorem dX3_takeLetters_73 : decode cX3_takeLetters 73 = .ok (.goto 18, 3) := by decide +kernel
theorem dX3_takeLetters_76 : decode cX3_takeLetters 76 = .ok (.iload 4, 2) := by decide +kernel
theorem dX3_takeLetters_78 : decode cX3_takeLetters 78 = .ok (.iconst 4, 1) := by decide +kernel
theorem dX3_takeLetters_79 : decode cX3_takeLetters 79 = .ok (.if_icmp .le 7, 3) := by decide +kernel
theorem dX3_takeLetters_82 : decode cX3_takeLetters 82 = .ok (.iconst 1, 1) := by decide +kernel
theorem dX3_takeLetters_83 : decode cX3_takeLetters 83 = .ok (.goto 8, 3) := by decide +kernel
theorem dX3_takeLetters_86 : decode cX3_takeLetters 86 = .ok (.lload_n 1, 1) := by decide +kernel
theorem dX3_takeLetters_87 : decode cX3_takeLetters 87 = .ok (.l2i, 1) := by decide +kernel
theorem dX3_takeLetters_88 : decode cX3_takeLetters 88 = .ok (.invokestatic 61, 3) := by decide +kernel
theorem dX3_takeLetters_91 : decode cX3_takeLetters 91 = .ok (.putfield 18, 3) := by decide +kernel
theorem dX3_takeLetters_94 : decode cX3_takeLetters 94 = .ok (.return_, 1) := by decide +kernel
