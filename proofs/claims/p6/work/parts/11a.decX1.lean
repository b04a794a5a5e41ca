theorem dX1_addAttribute_0 : decode cX1_addAttribute 0 = .ok (.aload_n 0, 1) := by decide +kernel
theorem dX1_addAttribute_1 : decode cX1_addAttribute 1 = .ok (.getfield 19, 3) := by decide +kernel
theorem dX1_addAttribute_4 : decode cX1_addAttribute 4 = .ok (.iload_n 1, 1) := by decide +kernel
theorem dX1_addAttribute_5 : decode cX1_addAttribute 5 = .ok (.iaload, 1) := by decide +kernel
theorem dX1_addAttribute_6 : decode cX1_addAttribute 6 = .ok (.istore 5, 2) := by decide +kernel
theorem dX1_addAttribute_8 : decode cX1_addAttribute 8 = .ok (.iload 5, 2) := by decide +kernel
theorem dX1_addAttribute_10 : decode cX1_addAttribute 10 = .ok (.bipush 6, 2) := by decide +kernel
theorem dX1_addAttribute_12 : decode cX1_addAttribute 12 = .ok (.if_icmp .ge 88, 3) := by decide +kernel
theorem dX1_addAttribute_15 : decode cX1_addAttribute 15 = .ok (.iload_n 1, 1) := by decide +kernel
theorem dX1_addAttribute_16 : decode cX1_addAttribute 16 = .ok (.bipush 6, 2) := by decide +kernel
theorem dX1_addAttribute_18 : decode cX1_addAttribute 18 = .ok (.imul, 1) := by decide +kernel
theorem dX1_addAttribute_19 : decode cX1_addAttribute 19 = .ok (.iload 5, 2) := by decide +kernel
theorem dX1_addAttribute_21 : decode cX1_addAttribute 21 = .ok (.iadd, 1) := by decide +kernel
theorem dX1_addAttribute_22 : decode cX1_addAttribute 22 = .ok (.istore 6, 2) := by decide +kernel
theorem dX1_addAttribute_24 : decode cX1_addAttribute 24 = .ok (.aload_n 0, 1) := by decide +kernel
theorem dX1_addAttribute_25 : decode cX1_addAttribute 25 = .ok (.getfield 26, 3) := by decide +kernel
theorem dX1_addAttribute_28 : decode cX1_addAttribute 28 = .ok (.iload 6, 2) := by decide +kernel
theorem dX1_addAttribute_30 : decode cX1_addAttribute 30 = .ok (.lload_n 2, 1) := by decide +kernel
theorem dX1_addAttribute_31 : decode cX1_addAttribute 31 = .ok (.lastore, 1) := by decide +kernel
theorem dX1_addAttribute_32 : decode cX1_addAttribute 32 = .ok (.aload_n 0, 1) := by decide +kernel
theorem dX1_addAttribute_33 : decode cX1_addAttribute 33 = .ok (.getfield 29, 3) := by decide +kernel
theorem dX1_addAttribute_36 : decode cX1_addAttribute 36 = .ok (.iload 6, 2) := by decide +kernel
theorem dX1_addAttribute_38 : decode cX1_addAttribute 38 = .ok (.iload 4, 2) := by decide +kernel
theorem dX1_addAttribute_40 : decode cX1_addAttribute 40 = .ok (.bastore, 1) := by decide +kernel
theorem dX1_addAttribute_41 : decode cX1_addAttribute 41 = .ok (.aload_n 0, 1) := by decide +kernel
theorem dX1_addAttribute_42 : decode cX1_addAttribute 42 = .ok (.getfield 33, 3) := by decide +kernel
theorem dX1_addAttribute_45 : decode cX1_addAttribute 45 = .ok (.iload 6, 2) := by decide +kernel
theorem dX1_addAttribute_47 : decode cX1_addAttribute 47 = .ok (.iload 4, 2) := by decide +kernel
theorem dX1_addAttribute_49 : decode cX1_addAttribute 49 = .ok (.ifCond .eq 12, 3) := by decide +kernel
theorem dX1_addAttribute_52 : decode cX1_addAttribute 52 = .ok (.aload_n 0, 1) := by decide +kernel
theorem dX1_addAttribute_53 : decode cX1_addAttribute 53 = .ok (.getfield 23, 3) := by decide +kernel
theorem dX1_addAttribute_56 : decode cX1_addAttribute 56 = .ok (.iload_n 1, 1) := by decide +kernel
theorem dX1_addAttribute_57 : decode cX1_addAttribute 57 = .ok (.iaload, 1) := by decide +kernel
theorem dX1_addAttribute_58 : decode cX1_addAttribute 58 = .ok (.goto 12, 3) := by decide +kernel
theorem dX1_addAttribute_61 : decode cX1_addAttribute 61 = .ok (.iload 5, 2) := by decide +kernel
theorem dX1_addAttribute_63 : decode cX1_addAttribute 63 = .ok (.aload_n 0, 1) := by decide +kernel
theorem dX1_addAttribute_64 : decode cX1_addAttribute 64 = .ok (.getfield 23, 3) := by decide +kernel
theorem dX1_addAttribute_67 : decode cX1_addAttribute 67 = .ok (.iload_n 1, 1) := by decide +kernel
theorem dX1_addAttribute_68 : decode cX1_addAttribute 68 = .ok (.iaload, 1) := by decide +kernel
theorem dX1_addAttribute_69 : decode cX1_addAttribute 69 = .ok (.isub, 1) := by decide +kernel
theorem dX1_addAttribute_70 : decode cX1_addAttribute 70 = .ok (.iastore, 1) := by decide +kernel
theorem dX1_addAttribute_71 : decode cX1_addAttribute 71 = .ok (.aload_n 0, 1) := by decide +kernel
theorem dX1_addAttribute_72 : decode cX1_addAttribute 72 = .ok (.getfield 19, 3) := by decide +kernel
theorem dX1_addAttribute_75 : decode cX1_addAttribute 75 = .ok (.iload_n 1, 1) := by decide +kernel
theorem dX1_addAttribute_76 : decode cX1_addAttribute 76 = .ok (.iload 5, 2) := by decide +kernel
theorem dX1_addAttribute_78 : decode cX1_addAttribute 78 = .ok (.iconst 1, 1) := by decide +kernel
theorem dX1_addAttribute_79 : decode cX1_addAttribute 79 = .ok (.iadd, 1) := by decide +kernel
theorem dX1_addAttribute_80 : decode cX1_addAttribute 80 = .ok (.iastore, 1) := by decide +kernel
theorem dX1_addAttribute_81 : decode cX1_addAttribute 81 = .ok (.aload_n 0, 1) := by decide +kernel
theorem dX1_addAttribute_82 : decode cX1_addAttribute 82 = .ok (.getfield 23, 3) := by decide +kernel
theorem dX1_addAttribute_85 : decode cX1_addAttribute 85 = .ok (.iload_n 1, 1) := by decide +kernel
theorem dX1_addAttribute_86 : decode cX1_addAttribute 86 = .ok (.dup2, 1) := by decide +kernel
theorem dX1_addAttribute_87 : decode cX1_addAttribute 87 = .ok (.iaload, 1) := by decide +kernel
theorem dX1_addAttribute_88 : decode cX1_addAttribute 88 = .ok (.iload 4, 2) := by decide +kernel
theorem dX1_addAttribute_90 : decode cX1_addAttribute 90 = .ok (.ifCond .eq 7, 3) := by decide +kernel
theorem dX1_addAttribute_93 : decode cX1_addAttribute 93 = .ok (.iconst 1, 1) := by decide +kernel
theorem dX1_addAttribute_94 : decode cX1_addAttribute 94 = .ok (.goto 4, 3) := by decide +kernel
theorem dX1_addAttribute_97 : decode cX1_addAttribute 97 = .ok (.iconst 0, 1) := by decide +kernel
theorem dX1_addAttribute_98 : decode cX1_addAttribute 98 = .ok (.iadd, 1) := by decide +kernel
theorem dX1_addAttribute_99 : decode cX1_addAttribute 99 = .ok (.iastore, 1) := by decide +kernel
theorem dX1_addAttribute_100 : decode cX1_addAttribute 100 = .ok (.return_, 1) := by decide +kernel
theorem dX1_addCode_0 : decode cX1_addCode 0 = .ok (.aload_n 0, 1) := by decide +kernel
theorem dX1_addCode_1 : decode cX1_addCode 1 = .ok (.getfield 66, 3) := by decide +kernel
theorem dX1_addCode_4 : decode cX1_addCode 4 = .ok (.sipush 3000, 3) := by decide +kernel
theorem dX1_addCode_7 : decode cX1_addCode 7 = .ok (.if_icmp .ge 33, 3) := by decide +kernel
theorem dX1_addCode_10 : decode cX1_addCode 10 = .ok (.aload_n 0, 1) := by decide +kernel
theorem dX1_addCode_11 : decode cX1_addCode 11 = .ok (.getfield 60, 3) := by decide +kernel
theorem dX1_addCode_14 : decode cX1_addCode 14 = .ok (.aload_n 0, 1) := by decide +kernel
theorem dX1_addCode_15 : decode cX1_addCode 15 = .ok (.getfield 66, 3) := by decide +kernel
theorem dX1_addCode_18 : decode cX1_addCode 18 = .ok (.iload_n 1, 1) := by decide +kernel
theorem dX1_addCode_19 : decode cX1_addCode 19 = .ok (.iastore, 1) := by decide +kernel
theorem dX1_addCode_20 : decode cX1_addCode 20 = .ok (.aload_n 0, 1) := by decide +kernel
theorem dX1_addCode_21 : decode cX1_addCode 21 = .ok (.getfield 63, 3) := by decide +kernel
theorem dX1_addCode_24 : decode cX1_addCode 24 = .ok (.aload_n 0, 1) := by decide +kernel
theorem dX1_addCode_25 : decode cX1_addCode 25 = .ok (.getfield 66, 3) := by decide +kernel
theorem dX1_addCode_28 : decode cX1_addCode 28 = .ok (.iload_n 2, 1) := by decide +kernel
theorem dX1_addCode_29 : decode cX1_addCode 29 = .ok (.iastore, 1) := by decide +kernel
theorem dX1_addCode_30 : decode cX1_addCode 30 = .ok (.aload_n 0, 1) := by decide +kernel
theorem dX1_addCode_31 : decode cX1_addCode 31 = .ok (.dup, 1) := by decide +kernel
theorem dX1_addCode_32 : decode cX1_addCode 32 = .ok (.getfield 66, 3) := by decide +kernel
theorem dX1_addCode_35 : decode cX1_addCode 35 = .ok (.iconst 1, 1) := by decide +kernel
theorem dX1_addCode_36 : decode cX1_addCode 36 = .ok (.iadd, 1) := by decide +kernel
theorem dX1_addCode_37 : decode cX1_addCode 37 = .ok (.putfield 66, 3) := by decide +kernel
theorem dX1_addCode_40 : decode cX1_addCode 40 = .ok (.return_, 1) := by decide +kernel
theorem dX1_addRule_0 : decode cX1_addRule 0 = .ok (.aload_n 0, 1) := by decide +kernel
theorem dX1_addRule_1 : decode cX1_addRule 1 = .ok (.getfield 36, 3) := by decide +kernel
theorem dX1_addRule_4 : decode cX1_addRule 4 = .ok (.bipush 30, 2) := by decide +kernel
theorem dX1_addRule_6 : decode cX1_addRule 6 = .ok (.if_icmp .ge 91, 3) := by decide +kernel
theorem dX1_addRule_9 : decode cX1_addRule 9 = .ok (.aload_n 0, 1) := by decide +kernel
theorem dX1_addRule_10 : decode cX1_addRule 10 = .ok (.getfield 39, 3) := by decide +kernel
theorem dX1_addRule_13 : decode cX1_addRule 13 = .ok (.aload_n 0, 1) := by decide +kernel
theorem dX1_addRule_14 : decode cX1_addRule 14 = .ok (.getfield 36, 3) := by decide +kernel
theorem dX1_addRule_17 : decode cX1_addRule 17 = .ok (.lload_n 1, 1) := by decide +kernel
theorem dX1_addRule_18 : decode cX1_addRule 18 = .ok (.lastore, 1) := by decide +kernel
theorem dX1_addRule_19 : decode cX1_addRule 19 = .ok (.aload_n 0, 1) := by decide +kernel
theorem dX1_addRule_20 : decode cX1_addRule 20 = .ok (.getfield 45, 3) := by decide +kernel
theorem dX1_addRule_23 : decode cX1_addRule 23 = .ok (.aload_n 0, 1) := by decide +kernel
theorem dX1_addRule_24 : decode cX1_addRule 24 = .ok (.getfield 36, 3) := by decide +kernel
theorem dX1_addRule_27 : decode cX1_addRule 27 = .ok (.iconst 0, 1) := by decide +kernel
theorem dX1_addRule_28 : decode cX1_addRule 28 = .ok (.iastore, 1) := by decide +kernel
theorem dX1_addRule_29 : decode cX1_addRule 29 = .ok (.aload_n 0, 1) := by decide +kernel
theorem dX1_addRule_30 : decode cX1_addRule 30 = .ok (.getfield 48, 3) := by decide +kernel
theorem dX1_addRule_33 : decode cX1_addRule 33 = .ok (.aload_n 0, 1) := by decide +kernel
theorem dX1_addRule_34 : decode cX1_addRule 34 = .ok (.getfield 36, 3) := by decide +kernel
theorem dX1_addRule_37 : decode cX1_addRule 37 = .ok (.iconst 0, 1) := by decide +kernel
theorem dX1_addRule_38 : decode cX1_addRule 38 = .ok (.iastore, 1) := by decide +kernel
theorem dX1_addRule_39 : decode cX1_addRule 39 = .ok (.aload_n 0, 1) := by decide +kernel
theorem dX1_addRule_40 : decode cX1_addRule 40 = .ok (.getfield 36, 3) := by decide +kernel
theorem dX1_addRule_43 : decode cX1_addRule 43 = .ok (.bipush 24, 2) := by decide +kernel
theorem dX1_addRule_45 : decode cX1_addRule 45 = .ok (.imul, 1) := by decide +kernel
theorem dX1_addRule_46 : decode cX1_addRule 46 = .ok (.istore_n 3, 1) := by decide +kernel
theorem dX1_addRule_47 : decode cX1_addRule 47 = .ok (.iload_n 3, 1) := by decide +kernel
theorem dX1_addRule_48 : decode cX1_addRule 48 = .ok (.aload_n 0, 1) := by decide +kernel
theorem dX1_addRule_49 : decode cX1_addRule 49 = .ok (.getfield 36, 3) := by decide +kernel
theorem dX1_addRule_52 : decode cX1_addRule 52 = .ok (.iconst 1, 1) := by decide +kernel
theorem dX1_addRule_53 : decode cX1_addRule 53 = .ok (.iadd, 1) := by decide +kernel
theorem dX1_addRule_54 : decode cX1_addRule 54 = .ok (.bipush 24, 2) := by decide +kernel
theorem dX1_addRule_56 : decode cX1_addRule 56 = .ok (.imul, 1) := by decide +kernel
theorem dX1_addRule_57 : decode cX1_addRule 57 = .ok (.if_icmp .ge 30, 3) := by decide +kernel
theorem dX1_addRule_60 : decode cX1_addRule 60 = .ok (.aload_n 0, 1) := by decide +kernel
theorem dX1_addRule_61 : decode cX1_addRule 61 = .ok (.getfield 51, 3) := by decide +kernel
theorem dX1_addRule_64 : decode cX1_addRule 64 = .ok (.iload_n 3, 1) := by decide +kernel
theorem dX1_addRule_65 : decode cX1_addRule 65 = .ok (.iconst (-1), 1) := by decide +kernel
theorem dX1_addRule_66 : decode cX1_addRule 66 = .ok (.iastore, 1) := by decide +kernel
theorem dX1_addRule_67 : decode cX1_addRule 67 = .ok (.aload_n 0, 1) := by decide +kernel
theorem dX1_addRule_68 : decode cX1_addRule 68 = .ok (.getfield 54, 3) := by decide +kernel
theorem dX1_addRule_71 : decode cX1_addRule 71 = .ok (.iload_n 3, 1) := by decide +kernel
theorem dX1_addRule_72 : decode cX1_addRule 72 = .ok (.iconst (-1), 1) := by decide +kernel
theorem dX1_addRule_73 : decode cX1_addRule 73 = .ok (.iastore, 1) := by decide +kernel
theorem dX1_addRule_74 : decode cX1_addRule 74 = .ok (.aload_n 0, 1) := by decide +kernel
theorem dX1_addRule_75 : decode cX1_addRule 75 = .ok (.getfield 57, 3) := by decide +kernel
theorem dX1_addRule_78 : decode cX1_addRule 78 = .ok (.iload_n 3, 1) := by decide +kernel
theorem dX1_addRule_79 : decode cX1_addRule 79 = .ok (.iconst 0, 1) := by decide +kernel
theorem dX1_addRule_80 : decode cX1_addRule 80 = .ok (.iastore, 1) := by decide +kernel
theorem dX1_addRule_81 : decode cX1_addRule 81 = .ok (.iinc 3 1, 3) := by decide +kernel
theorem dX1_addRule_84 : decode cX1_addRule 84 = .ok (.goto (-37), 3) := by decide +kernel
theorem dX1_addRule_87 : decode cX1_addRule 87 = .ok (.aload_n 0, 1) := by decide +kernel
theorem dX1_addRule_88 : decode cX1_addRule 88 = .ok (.dup, 1) := by decide +kernel
theorem dX1_addRule_89 : decode cX1_addRule 89 = .ok (.getfield 36, 3) := by decide +kernel
theorem dX1_addRule_92 : decode cX1_addRule 92 = .ok (.iconst 1, 1) := by decide +kernel
theorem dX1_addRule_93 : decode cX1_addRule 93 = .ok (.iadd, 1) := by decide +kernel
theorem dX1_addRule_94 : decode cX1_addRule 94 = .ok (.putfield 36, 3) := by decide +kernel
theorem dX1_addRule_97 : decode cX1_addRule 97 = .ok (.return_, 1) := by decide +kernel
theorem dX1_addSymbol_0 : decode cX1_addSymbol 0 = .ok (.aload_n 0, 1) := by decide +kernel
theorem dX1_addSymbol_1 : decode cX1_addSymbol 1 = .ok (.getfield 9, 3) := by decide +kernel
theorem dX1_addSymbol_4 : decode cX1_addSymbol 4 = .ok (.bipush 12, 2) := by decide +kernel
theorem dX1_addSymbol_6 : decode cX1_addSymbol 6 = .ok (.if_icmp .ge 43, 3) := by decide +kernel
theorem dX1_addSymbol_9 : decode cX1_addSymbol 9 = .ok (.aload_n 0, 1) := by decide +kernel
theorem dX1_addSymbol_10 : decode cX1_addSymbol 10 = .ok (.getfield 15, 3) := by decide +kernel
theorem dX1_addSymbol_13 : decode cX1_addSymbol 13 = .ok (.aload_n 0, 1) := by decide +kernel
theorem dX1_addSymbol_14 : decode cX1_addSymbol 14 = .ok (.getfield 9, 3) := by decide +kernel
theorem dX1_addSymbol_17 : decode cX1_addSymbol 17 = .ok (.lload_n 1, 1) := by decide +kernel
theorem dX1_addSymbol_18 : decode cX1_addSymbol 18 = .ok (.lastore, 1) := by decide +kernel
theorem dX1_addSymbol_19 : decode cX1_addSymbol 19 = .ok (.aload_n 0, 1) := by decide +kernel
theorem dX1_addSymbol_20 : decode cX1_addSymbol 20 = .ok (.getfield 19, 3) := by decide +kernel
theorem dX1_addSymbol_23 : decode cX1_addSymbol 23 = .ok (.aload_n 0, 1) := by decide +kernel
theorem dX1_addSymbol_24 : decode cX1_addSymbol 24 = .ok (.getfield 9, 3) := by decide +kernel
theorem dX1_addSymbol_27 : decode cX1_addSymbol 27 = .ok (.iconst 0, 1) := by decide +kernel
theorem dX1_addSymbol_28 : decode cX1_addSymbol 28 = .ok (.iastore, 1) := by decide +kernel
theorem dX1_addSymbol_29 : decode cX1_addSymbol 29 = .ok (.aload_n 0, 1) := by decide +kernel
theorem dX1_addSymbol_30 : decode cX1_addSymbol 30 = .ok (.getfield 23, 3) := by decide +kernel
theorem dX1_addSymbol_33 : decode cX1_addSymbol 33 = .ok (.aload_n 0, 1) := by decide +kernel
theorem dX1_addSymbol_34 : decode cX1_addSymbol 34 = .ok (.getfield 9, 3) := by decide +kernel
theorem dX1_addSymbol_37 : decode cX1_addSymbol 37 = .ok (.iconst 0, 1) := by decide +kernel
theorem dX1_addSymbol_38 : decode cX1_addSymbol 38 = .ok (.iastore, 1) := by decide +kernel
theorem dX1_addSymbol_39 : decode cX1_addSymbol 39 = .ok (.aload_n 0, 1) := by decide +kernel
theorem dX1_addSymbol_40 : decode cX1_addSymbol 40 = .ok (.dup, 1) := by decide +kernel
theorem dX1_addSymbol_41 : decode cX1_addSymbol 41 = .ok (.getfield 9, 3) := by decide +kernel
theorem dX1_addSymbol_44 : decode cX1_addSymbol 44 = .ok (.iconst 1, 1) := by decide +kernel
theorem dX1_addSymbol_45 : decode cX1_addSymbol 45 = .ok (.iadd, 1) := by decide +kernel
theorem dX1_addSymbol_46 : decode cX1_addSymbol 46 = .ok (.putfield 9, 3) := by decide +kernel
theorem dX1_addSymbol_49 : decode cX1_addSymbol 49 = .ok (.return_, 1) := by decide +kernel
theorem dX1_clear_0 : decode cX1_clear 0 = .ok (.aload_n 0, 1) := by decide +kernel
theorem dX1_clear_1 : decode cX1_clear 1 = .ok (.iconst 0, 1) := by decide +kernel
theorem dX1_clear_2 : decode cX1_clear 2 = .ok (.putfield 9, 3) := by decide +kernel
theorem dX1_clear_5 : decode cX1_clear 5 = .ok (.aload_n 0, 1) := by decide +kernel
theorem dX1_clear_6 : decode cX1_clear 6 = .ok (.iconst 0, 1) := by decide +kernel
theorem dX1_clear_7 : decode cX1_clear 7 = .ok (.putfield 36, 3) := by decide +kernel
theorem dX1_clear_10 : decode cX1_clear 10 = .ok (.aload_n 0, 1) := by decide +kernel
theorem dX1_clear_11 : decode cX1_clear 11 = .ok (.iconst 0, 1) := by decide +kernel
theorem dX1_clear_12 : decode cX1_clear 12 = .ok (.putfield 66, 3) := by decide +kernel
theorem dX1_clear_15 : decode cX1_clear 15 = .ok (.return_, 1) := by decide +kernel
theorem dX1_findAttribute_0 : decode cX1_findAttribute 0 = .ok (.iconst 0, 1) := by decide +kernel
theorem dX1_findAttribute_1 : decode cX1_findAttribute 1 = .ok (.istore 4, 2) := by decide +kernel
theorem dX1_findAttribute_3 : decode cX1_findAttribute 3 = .ok (.iload 4, 2) := by decide +kernel
theorem dX1_findAttribute_5 : decode cX1_findAttribute 5 = .ok (.aload_n 0, 1) := by decide +kernel
theorem dX1_findAttribute_6 : decode cX1_findAttribute 6 = .ok (.getfield 19, 3) := by decide +kernel
theorem dX1_findAttribute_9 : decode cX1_findAttribute 9 = .ok (.iload_n 1, 1) := by decide +kernel
theorem dX1_findAttribute_10 : decode cX1_findAttribute 10 = .ok (.iaload, 1) := by decide +kernel
theorem dX1_findAttribute_11 : decode cX1_findAttribute 11 = .ok (.if_icmp .ge 29, 3) := by decide +kernel
theorem dX1_findAttribute_14 : decode cX1_findAttribute 14 = .ok (.aload_n 0, 1) := by decide +kernel
theorem dX1_findAttribute_15 : decode cX1_findAttribute 15 = .ok (.getfield 26, 3) := by decide +kernel
theorem dX1_findAttribute_18 : decode cX1_findAttribute 18 = .ok (.iload_n 1, 1) := by decide +kernel
theorem dX1_findAttribute_19 : decode cX1_findAttribute 19 = .ok (.bipush 6, 2) := by decide +kernel
theorem dX1_findAttribute_21 : decode cX1_findAttribute 21 = .ok (.imul, 1) := by decide +kernel
theorem dX1_findAttribute_22 : decode cX1_findAttribute 22 = .ok (.iload 4, 2) := by decide +kernel
theorem dX1_findAttribute_24 : decode cX1_findAttribute 24 = .ok (.iadd, 1) := by decide +kernel
theorem dX1_findAttribute_25 : decode cX1_findAttribute 25 = .ok (.laload, 1) := by decide +kernel
theorem dX1_findAttribute_26 : decode cX1_findAttribute 26 = .ok (.lload_n 2, 1) := by decide +kernel
theorem dX1_findAttribute_27 : decode cX1_findAttribute 27 = .ok (.lcmp, 1) := by decide +kernel
theorem dX1_findAttribute_28 : decode cX1_findAttribute 28 = .ok (.ifCond .ne 6, 3) := by decide +kernel
theorem dX1_findAttribute_31 : decode cX1_findAttribute 31 = .ok (.iload 4, 2) := by decide +kernel
theorem dX1_findAttribute_33 : decode cX1_findAttribute 33 = .ok (.ireturn, 1) := by decide +kernel
theorem dX1_findAttribute_34 : decode cX1_findAttribute 34 = .ok (.iinc 4 1, 3) := by decide +kernel
theorem dX1_findAttribute_37 : decode cX1_findAttribute 37 = .ok (.goto (-34), 3) := by decide +kernel
theorem dX1_findAttribute_40 : decode cX1_findAttribute 40 = .ok (.iconst (-1), 1) := by decide +kernel
theorem dX1_findAttribute_41 : decode cX1_findAttribute 41 = .ok (.ireturn, 1) := by decide +kernel
theorem dX1_findRule_0 : decode cX1_findRule 0 = .ok (.iconst 0, 1) := by decide +kernel
theorem dX1_findRule_1 : decode cX1_findRule 1 = .ok (.istore_n 3, 1) := by decide +kernel
theorem dX1_findRule_2 : decode cX1_findRule 2 = .ok (.iload_n 3, 1) := by decide +kernel
theorem dX1_findRule_3 : decode cX1_findRule 3 = .ok (.aload_n 0, 1) := by decide +kernel
theorem dX1_findRule_4 : decode cX1_findRule 4 = .ok (.getfield 36, 3) := by decide +kernel
theorem dX1_findRule_7 : decode cX1_findRule 7 = .ok (.if_icmp .ge 22, 3) := by decide +kernel
theorem dX1_findRule_10 : decode cX1_findRule 10 = .ok (.aload_n 0, 1) := by decide +kernel
theorem dX1_findRule_11 : decode cX1_findRule 11 = .ok (.getfield 39, 3) := by decide +kernel
theorem dX1_findRule_14 : decode cX1_findRule 14 = .ok (.iload_n 3, 1) := by decide +kernel
theorem dX1_findRule_15 : decode cX1_findRule 15 = .ok (.laload, 1) := by decide +kernel
theorem dX1_findRule_16 : decode cX1_findRule 16 = .ok (.lload_n 1, 1) := by decide +kernel
theorem dX1_findRule_17 : decode cX1_findRule 17 = .ok (.lcmp, 1) := by decide +kernel
theorem dX1_findRule_18 : decode cX1_findRule 18 = .ok (.ifCond .ne 5, 3) := by decide +kernel
theorem dX1_findRule_21 : decode cX1_findRule 21 = .ok (.iload_n 3, 1) := by decide +kernel
theorem dX1_findRule_22 : decode cX1_findRule 22 = .ok (.ireturn, 1) := by decide +kernel
theorem dX1_findRule_23 : decode cX1_findRule 23 = .ok (.iinc 3 1, 3) := by decide +kernel
theorem dX1_findRule_26 : decode cX1_findRule 26 = .ok (.goto (-24), 3) := by decide +kernel
theorem dX1_findRule_29 : decode cX1_findRule 29 = .ok (.iconst (-1), 1) := by decide +kernel
theorem dX1_findRule_30 : decode cX1_findRule 30 = .ok (.ireturn, 1) := by decide +kernel
theorem dX1_findSymbol_0 : decode cX1_findSymbol 0 = .ok (.iconst 0, 1) := by decide +kernel
theorem dX1_findSymbol_1 : decode cX1_findSymbol 1 = .ok (.istore_n 3, 1) := by decide +kernel
theorem dX1_findSymbol_2 : decode cX1_findSymbol 2 = .ok (.iload_n 3, 1) := by decide +kernel
theorem dX1_findSymbol_3 : decode cX1_findSymbol 3 = .ok (.aload_n 0, 1) := by decide +kernel
theorem dX1_findSymbol_4 : decode cX1_findSymbol 4 = .ok (.getfield 9, 3) := by decide +kernel
theorem dX1_findSymbol_7 : decode cX1_findSymbol 7 = .ok (.if_icmp .ge 22, 3) := by decide +kernel
theorem dX1_findSymbol_10 : decode cX1_findSymbol 10 = .ok (.aload_n 0, 1) := by decide +kernel
theorem dX1_findSymbol_11 : decode cX1_findSymbol 11 = .ok (.getfield 15, 3) := by decide +kernel
theorem dX1_findSymbol_14 : decode cX1_findSymbol 14 = .ok (.iload_n 3, 1) := by decide +kernel
theorem dX1_findSymbol_15 : decode cX1_findSymbol 15 = .ok (.laload, 1) := by decide +kernel
theorem dX1_findSymbol_16 : decode cX1_findSymbol 16 = .ok (.lload_n 1, 1) := by decide +kernel
theorem dX1_findSymbol_17 : decode cX1_findSymbol 17 = .ok (.lcmp, 1) := by decide +kernel
theorem dX1_findSymbol_18 : decode cX1_findSymbol 18 = .ok (.ifCond .ne 5, 3) := by decide +kernel
theorem dX1_findSymbol_21 : decode cX1_findSymbol 21 = .ok (.iload_n 3, 1) := by decide +kernel
theorem dX1_findSymbol_22 : decode cX1_findSymbol 22 = .ok (.ireturn, 1) := by decide +kernel
theorem dX1_findSymbol_23 : decode cX1_findSymbol 23 = .ok (.iinc 3 1, 3) := by decide +kernel
theorem dX1_findSymbol_26 : decode cX1_findSymbol 26 = .ok (.goto (-24), 3) := by decide +kernel
theorem dX1_findSymbol_29 : decode cX1_findSymbol 29 = .ok (.iconst (-1), 1) := by decide +kernel
theorem dX1_findSymbol_30 : decode cX1_findSymbol 30 = .ok (.ireturn, 1) := by decide +kernel
theorem dX1_graphBit_0 : decode cX1_graphBit 0 = .ok (.iload_n 1, 1) := by decide +kernel
theorem dX1_graphBit_1 : decode cX1_graphBit 1 = .ok (.bipush 6, 2) := by decide +kernel
theorem dX1_graphBit_3 : decode cX1_graphBit 3 = .ok (.imul, 1) := by decide +kernel
theorem dX1_graphBit_4 : decode cX1_graphBit 4 = .ok (.istore 4, 2) := by decide +kernel
theorem dX1_graphBit_6 : decode cX1_graphBit 6 = .ok (.aload_n 0, 1) := by decide +kernel
theorem dX1_graphBit_7 : decode cX1_graphBit 7 = .ok (.getfield 29, 3) := by decide +kernel
theorem dX1_graphBit_10 : decode cX1_graphBit 10 = .ok (.iload 4, 2) := by decide +kernel
theorem dX1_graphBit_12 : decode cX1_graphBit 12 = .ok (.iload_n 2, 1) := by decide +kernel
theorem dX1_graphBit_13 : decode cX1_graphBit 13 = .ok (.iadd, 1) := by decide +kernel
theorem dX1_graphBit_14 : decode cX1_graphBit 14 = .ok (.baload, 1) := by decide +kernel
theorem dX1_graphBit_15 : decode cX1_graphBit 15 = .ok (.ifCond .eq 15, 3) := by decide +kernel
theorem dX1_graphBit_18 : decode cX1_graphBit 18 = .ok (.aload_n 0, 1) := by decide +kernel
theorem dX1_graphBit_19 : decode cX1_graphBit 19 = .ok (.getfield 29, 3) := by decide +kernel
theorem dX1_graphBit_22 : decode cX1_graphBit 22 = .ok (.iload 4, 2) := by decide +kernel
theorem dX1_graphBit_24 : decode cX1_graphBit 24 = .ok (.iload_n 3, 1) := by decide +kernel
theorem dX1_graphBit_25 : decode cX1_graphBit 25 = .ok (.iadd, 1) := by decide +kernel
theorem dX1_graphBit_26 : decode cX1_graphBit 26 = .ok (.baload, 1) := by decide +kernel
theorem dX1_graphBit_27 : decode cX1_graphBit 27 = .ok (.ifCond .eq 5, 3) := by decide +kernel
theorem dX1_graphBit_30 : decode cX1_graphBit 30 = .ok (.iconst 0, 1) := by decide +kernel
theorem dX1_graphBit_31 : decode cX1_graphBit 31 = .ok (.ireturn, 1) := by decide +kernel
theorem dX1_graphBit_32 : decode cX1_graphBit 32 = .ok (.aload_n 0, 1) := by decide +kernel
theorem dX1_graphBit_33 : decode cX1_graphBit 33 = .ok (.getfield 19, 3) := by decide +kernel
theorem dX1_graphBit_36 : decode cX1_graphBit 36 = .ok (.iload_n 1, 1) := by decide +kernel
theorem dX1_graphBit_37 : decode cX1_graphBit 37 = .ok (.iaload, 1) := by decide +kernel
theorem dX1_graphBit_38 : decode cX1_graphBit 38 = .ok (.aload_n 0, 1) := by decide +kernel
theorem dX1_graphBit_39 : decode cX1_graphBit 39 = .ok (.getfield 23, 3) := by decide +kernel
theorem dX1_graphBit_42 : decode cX1_graphBit 42 = .ok (.iload_n 1, 1) := by decide +kernel
theorem dX1_graphBit_43 : decode cX1_graphBit 43 = .ok (.iaload, 1) := by decide +kernel
theorem dX1_graphBit_44 : decode cX1_graphBit 44 = .ok (.isub, 1) := by decide +kernel
theorem dX1_graphBit_45 : decode cX1_graphBit 45 = .ok (.istore 5, 2) := by decide +kernel
theorem dX1_graphBit_47 : decode cX1_graphBit 47 = .ok (.iconst 1, 1) := by decide +kernel
theorem dX1_graphBit_48 : decode cX1_graphBit 48 = .ok (.aload_n 0, 1) := by decide +kernel
theorem dX1_graphBit_49 : decode cX1_graphBit 49 = .ok (.getfield 33, 3) := by decide +kernel
theorem dX1_graphBit_52 : decode cX1_graphBit 52 = .ok (.iload 4, 2) := by decide +kernel
theorem dX1_graphBit_54 : decode cX1_graphBit 54 = .ok (.iload_n 2, 1) := by decide +kernel
theorem dX1_graphBit_55 : decode cX1_graphBit 55 = .ok (.iadd, 1) := by decide +kernel
theorem dX1_graphBit_56 : decode cX1_graphBit 56 = .ok (.iaload, 1) := by decide +kernel
theorem dX1_graphBit_57 : decode cX1_graphBit 57 = .ok (.iload 5, 2) := by decide +kernel
theorem dX1_graphBit_59 : decode cX1_graphBit 59 = .ok (.imul, 1) := by decide +kernel
theorem dX1_graphBit_60 : decode cX1_graphBit 60 = .ok (.aload_n 0, 1) := by decide +kernel
theorem dX1_graphBit_61 : decode cX1_graphBit 61 = .ok (.getfield 33, 3) := by decide +kernel
theorem dX1_graphBit_64 : decode cX1_graphBit 64 = .ok (.iload 4, 2) := by decide +kernel
theorem dX1_graphBit_66 : decode cX1_graphBit 66 = .ok (.iload_n 3, 1) := by decide +kernel
theorem dX1_graphBit_67 : decode cX1_graphBit 67 = .ok (.iadd, 1) := by decide +kernel
theorem dX1_graphBit_68 : decode cX1_graphBit 68 = .ok (.iaload, 1) := by decide +kernel
theorem dX1_graphBit_69 : decode cX1_graphBit 69 = .ok (.iadd, 1) := by decide +kernel
theorem dX1_graphBit_70 : decode cX1_graphBit 70 = .ok (.ishl, 1) := by decide +kernel
theorem dX1_graphBit_71 : decode cX1_graphBit 71 = .ok (.ireturn, 1) := by decide +kernel
theorem dX1_init_0 : decode cX1_init 0 = .ok (.aload_n 0, 1) := by decide +kernel
theorem dX1_init_1 : decode cX1_init 1 = .ok (.invokespecial 3, 3) := by decide +kernel
theorem dX1_init_4 : decode cX1_init 4 = .ok (.aload_n 0, 1) := by decide +kernel
theorem dX1_init_5 : decode cX1_init 5 = .ok (.iconst 0, 1) := by decide +kernel
theorem dX1_init_6 : decode cX1_init 6 = .ok (.putfield 9, 3) := by decide +kernel
theorem dX1_init_9 : decode cX1_init 9 = .ok (.aload_n 0, 1) := by decide +kernel
theorem dX1_init_10 : decode cX1_init 10 = .ok (.bipush 12, 2) := by decide +kernel
theorem dX1_init_12 : decode cX1_init 12 = .ok (.newarray .long, 2) := by decide +kernel
theorem dX1_init_14 : decode cX1_init 14 = .ok (.putfield 15, 3) := by decide +kernel
theorem dX1_init_17 : decode cX1_init 17 = .ok (.aload_n 0, 1) := by decide +kernel
theorem dX1_init_18 : decode cX1_init 18 = .ok (.bipush 12, 2) := by decide +kernel
theorem dX1_init_20 : decode cX1_init 20 = .ok (.newarray .int, 2) := by decide +kernel
theorem dX1_init_22 : decode cX1_init 22 = .ok (.putfield 19, 3) := by decide +kernel
theorem dX1_init_25 : decode cX1_init 25 = .ok (.aload_n 0, 1) := by decide +kernel
theorem dX1_init_26 : decode cX1_init 26 = .ok (.bipush 12, 2) := by decide +kernel
theorem dX1_init_28 : decode cX1_init 28 = .ok (.newarray .int, 2) := by decide +kernel
theorem dX1_init_30 : decode cX1_init 30 = .ok (.putfield 23, 3) := by decide +kernel
theorem dX1_init_33 : decode cX1_init 33 = .ok (.aload_n 0, 1) := by decide +kernel
theorem dX1_init_34 : decode cX1_init 34 = .ok (.bipush 72, 2) := by decide +kernel
theorem dX1_init_36 : decode cX1_init 36 = .ok (.newarray .long, 2) := by decide +kernel
theorem dX1_init_38 : decode cX1_init 38 = .ok (.putfield 26, 3) := by decide +kernel
theorem dX1_init_41 : decode cX1_init 41 = .ok (.aload_n 0, 1) := by decide +kernel
theorem dX1_init_42 : decode cX1_init 42 = .ok (.bipush 72, 2) := by decide +kernel
theorem dX1_init_44 : decode cX1_init 44 = .ok (.newarray .boolean, 2) := by decide +kernel
theorem dX1_init_46 : decode cX1_init 46 = .ok (.putfield 29, 3) := by decide +kernel
theorem dX1_init_49 : decode cX1_init 49 = .ok (.aload_n 0, 1) := by decide +kernel
theorem dX1_init_50 : decode cX1_init 50 = .ok (.bipush 72, 2) := by decide +kernel
theorem dX1_init_52 : decode cX1_init 52 = .ok (.newarray .int, 2) := by decide +kernel
theorem dX1_init_54 : decode cX1_init 54 = .ok (.putfield 33, 3) := by decide +kernel
theorem dX1_init_57 : decode cX1_init 57 = .ok (.aload_n 0, 1) := by decide +kernel
theorem dX1_init_58 : decode cX1_init 58 = .ok (.iconst 0, 1) := by decide +kernel
theorem dX1_init_59 : decode cX1_init 59 = .ok (.putfield 36, 3) := by decide +kernel
theorem dX1_init_62 : decode cX1_init 62 = .ok (.aload_n 0, 1) := by decide +kernel
theorem dX1_init_63 : decode cX1_init 63 = .ok (.bipush 30, 2) := by decide +kernel
theorem dX1_init_65 : decode cX1_init 65 = .ok (.newarray .long, 2) := by decide +kernel
theorem dX1_init_67 : decode cX1_init 67 = .ok (.putfield 39, 3) := by decide +kernel
theorem dX1_init_70 : decode cX1_init 70 = .ok (.aload_n 0, 1) := by decide +kernel
theorem dX1_init_71 : decode cX1_init 71 = .ok (.bipush 120, 2) := by decide +kernel
theorem dX1_init_73 : decode cX1_init 73 = .ok (.newarray .int, 2) := by decide +kernel
theorem dX1_init_75 : decode cX1_init 75 = .ok (.putfield 42, 3) := by decide +kernel
theorem dX1_init_78 : decode cX1_init 78 = .ok (.aload_n 0, 1) := by decide +kernel
theorem dX1_init_79 : decode cX1_init 79 = .ok (.bipush 30, 2) := by decide +kernel
theorem dX1_init_81 : decode cX1_init 81 = .ok (.newarray .int, 2) := by decide +kernel
theorem dX1_init_83 : decode cX1_init 83 = .ok (.putfield 45, 3) := by decide +kernel
theorem dX1_init_86 : decode cX1_init 86 = .ok (.aload_n 0, 1) := by decide +kernel
theorem dX1_init_87 : decode cX1_init 87 = .ok (.bipush 30, 2) := by decide +kernel
theorem dX1_init_89 : decode cX1_init 89 = .ok (.newarray .int, 2) := by decide +kernel
theorem dX1_init_91 : decode cX1_init 91 = .ok (.putfield 48, 3) := by decide +kernel
theorem dX1_init_94 : decode cX1_init 94 = .ok (.aload_n 0, 1) := by decide +kernel
theorem dX1_init_95 : decode cX1_init 95 = .ok (.sipush 720, 3) := by decide +kernel
theorem dX1_init_98 : decode cX1_init 98 = .ok (.newarray .int, 2) := by decide +kernel
theorem dX1_init_100 : decode cX1_init 100 = .ok (.putfield 51, 3) := by decide +kernel
theorem dX1_init_103 : decode cX1_init 103 = .ok (.aload_n 0, 1) := by decide +kernel
theorem dX1_init_104 : decode cX1_init 104 = .ok (.sipush 720, 3) := by decide +kernel
theorem dX1_init_107 : decode cX1_init 107 = .ok (.newarray .int, 2) := by decide +kernel
theorem dX1_init_109 : decode cX1_init 109 = .ok (.putfield 54, 3) := by decide +kernel
theorem dX1_init_112 : decode cX1_init 112 = .ok (.aload_n 0, 1) := by decide +kernel
theorem dX1_init_113 : decode cX1_init 113 = .ok (.sipush 720, 3) := by decide +kernel
theorem dX1_init_116 : decode cX1_init 116 = .ok (.newarray .int, 2) := by decide +kernel
theorem dX1_init_118 : decode cX1_init 118 = .ok (.putfield 57, 3) := by decide +kernel
theorem dX1_init_121 : decode cX1_init 121 = .ok (.aload_n 0, 1) := by decide +kernel
theorem dX1_init_122 : decode cX1_init 122 = .ok (.sipush 3000, 3) := by decide +kernel
theorem dX1_init_125 : decode cX1_init 125 = .ok (.newarray .int, 2) := by decide +kernel
theorem dX1_init_127 : decode cX1_init 127 = .ok (.putfield 60, 3) := by decide +kernel
theorem dX1_init_130 : decode cX1_init 130 = .ok (.aload_n 0, 1) := by decide +kernel
theorem dX1_init_131 : decode cX1_init 131 = .ok (.sipush 3000, 3) := by decide +kernel
theorem dX1_init_134 : decode cX1_init 134 = .ok (.newarray .int, 2) := by decide +kernel
theorem dX1_init_136 : decode cX1_init 136 = .ok (.putfield 63, 3) := by decide +kernel
theorem dX1_init_139 : decode cX1_init 139 = .ok (.aload_n 0, 1) := by decide +kernel
theorem dX1_init_140 : decode cX1_init 140 = .ok (.iconst 0, 1) := by decide +kernel
theorem dX1_init_141 : decode cX1_init 141 = .ok (.putfield 66, 3) := by decide +kernel
theorem dX1_init_144 : decode cX1_init 144 = .ok (.return_, 1) := by decide +kernel
theorem dX1_isInherited_0 : decode cX1_isInherited 0 = .ok (.aload_n 0, 1) := by decide +kernel
theorem dX1_isInherited_1 : decode cX1_isInherited 1 = .ok (.getfield 29, 3) := by decide +kernel
theorem dX1_isInherited_4 : decode cX1_isInherited 4 = .ok (.iload_n 1, 1) := by decide +kernel
theorem dX1_isInherited_5 : decode cX1_isInherited 5 = .ok (.bipush 6, 2) := by decide +kernel
theorem dX1_isInherited_7 : decode cX1_isInherited 7 = .ok (.imul, 1) := by decide +kernel
theorem dX1_isInherited_8 : decode cX1_isInherited 8 = .ok (.iload_n 2, 1) := by decide +kernel
theorem dX1_isInherited_9 : decode cX1_isInherited 9 = .ok (.iadd, 1) := by decide +kernel
theorem dX1_isInherited_10 : decode cX1_isInherited 10 = .ok (.baload, 1) := by decide +kernel
theorem dX1_isInherited_11 : decode cX1_isInherited 11 = .ok (.ireturn, 1) := by decide +kernel
theorem dX1_mayTell_0 : decode cX1_mayTell 0 = .ok (.aload_n 0, 1) := by decide +kernel
theorem dX1_mayTell_1 : decode cX1_mayTell 1 = .ok (.getfield 29, 3) := by decide +kernel
theorem dX1_mayTell_4 : decode cX1_mayTell 4 = .ok (.iload_n 2, 1) := by decide +kernel
theorem dX1_mayTell_5 : decode cX1_mayTell 5 = .ok (.bipush 6, 2) := by decide +kernel
theorem dX1_mayTell_7 : decode cX1_mayTell 7 = .ok (.imul, 1) := by decide +kernel
theorem dX1_mayTell_8 : decode cX1_mayTell 8 = .ok (.iload_n 3, 1) := by decide +kernel
theorem dX1_mayTell_9 : decode cX1_mayTell 9 = .ok (.iadd, 1) := by decide +kernel
theorem dX1_mayTell_10 : decode cX1_mayTell 10 = .ok (.baload, 1) := by decide +kernel
theorem dX1_mayTell_11 : decode cX1_mayTell 11 = .ok (.iload_n 1, 1) := by decide +kernel
theorem dX1_mayTell_12 : decode cX1_mayTell 12 = .ok (.ifCond .le 7, 3) := by decide +kernel
theorem dX1_mayTell_15 : decode cX1_mayTell 15 = .ok (.iconst 1, 1) := by decide +kernel
theorem dX1_mayTell_16 : decode cX1_mayTell 16 = .ok (.goto 4, 3) := by decide +kernel
theorem dX1_mayTell_19 : decode cX1_mayTell 19 = .ok (.iconst 0, 1) := by decide +kernel
theorem dX1_mayTell_20 : decode cX1_mayTell 20 = .ok (.if_icmp .ne 7, 3) := by decide +kernel
theorem dX1_mayTell_23 : decode cX1_mayTell 23 = .ok (.iconst 1, 1) := by decide +kernel
theorem dX1_mayTell_24 : decode cX1_mayTell 24 = .ok (.goto 4, 3) := by decide +kernel
theorem dX1_mayTell_27 : decode cX1_mayTell 27 = .ok (.iconst 0, 1) := by decide +kernel
theorem dX1_mayTell_28 : decode cX1_mayTell 28 = .ok (.ireturn, 1) := by decide +kernel
theorem dX1_symbolAt_0 : decode cX1_symbolAt 0 = .ok (.aload_n 0, 1) := by decide +kernel
theorem dX1_symbolAt_1 : decode cX1_symbolAt 1 = .ok (.getfield 42, 3) := by decide +kernel
theorem dX1_symbolAt_4 : decode cX1_symbolAt 4 = .ok (.iload_n 1, 1) := by decide +kernel
theorem dX1_symbolAt_5 : decode cX1_symbolAt 5 = .ok (.iconst 4, 1) := by decide +kernel
theorem dX1_symbolAt_6 : decode cX1_symbolAt 6 = .ok (.imul, 1) := by decide +kernel
theorem dX1_symbolAt_7 : decode cX1_symbolAt 7 = .ok (.iload_n 2, 1) := by decide +kernel
theorem dX1_symbolAt_8 : decode cX1_symbolAt 8 = .ok (.iadd, 1) := by decide +kernel
theorem dX1_symbolAt_9 : decode cX1_symbolAt 9 = .ok (.iaload, 1) := by decide +kernel
theorem dX1_symbolAt_10 : decode cX1_symbolAt 10 = .ok (.ireturn, 1) := by decide +kernel
