theorem dX5_childOrEnd_0 : decode cX5_childOrEnd 0 = .ok (.aload_n 0, 1) := by decide +kernel
theorem dX5_childOrEnd_1 : decode cX5_childOrEnd 1 = .ok (.getfield 21, 3) := by decide +kernel
theorem dX5_childOrEnd_4 : decode cX5_childOrEnd 4 = .ok (.aload_n 0, 1) := by decide +kernel
theorem dX5_childOrEnd_5 : decode cX5_childOrEnd 5 = .ok (.getfield 15, 3) := by decide +kernel
theorem dX5_childOrEnd_8 : decode cX5_childOrEnd 8 = .ok (.iaload, 1) := by decide +kernel
theorem dX5_childOrEnd_9 : decode cX5_childOrEnd 9 = .ok (.aload_n 0, 1) := by decide +kernel
theorem dX5_childOrEnd_10 : decode cX5_childOrEnd 10 = .ok (.getfield 29, 3) := by decide +kernel
theorem dX5_childOrEnd_13 : decode cX5_childOrEnd 13 = .ok (.getfield 111, 3) := by decide +kernel
theorem dX5_childOrEnd_16 : decode cX5_childOrEnd 16 = .ok (.aload_n 0, 1) := by decide +kernel
theorem dX5_childOrEnd_17 : decode cX5_childOrEnd 17 = .ok (.getfield 33, 3) := by decide +kernel
theorem dX5_childOrEnd_20 : decode cX5_childOrEnd 20 = .ok (.getfield 103, 3) := by decide +kernel
theorem dX5_childOrEnd_23 : decode cX5_childOrEnd 23 = .ok (.aload_n 0, 1) := by decide +kernel
theorem dX5_childOrEnd_24 : decode cX5_childOrEnd 24 = .ok (.getfield 15, 3) := by decide +kernel
theorem dX5_childOrEnd_27 : decode cX5_childOrEnd 27 = .ok (.iaload, 1) := by decide +kernel
theorem dX5_childOrEnd_28 : decode cX5_childOrEnd 28 = .ok (.iaload, 1) := by decide +kernel
theorem dX5_childOrEnd_29 : decode cX5_childOrEnd 29 = .ok (.if_icmp .lt 7, 3) := by decide +kernel
theorem dX5_childOrEnd_32 : decode cX5_childOrEnd 32 = .ok (.iconst 1, 1) := by decide +kernel
theorem dX5_childOrEnd_33 : decode cX5_childOrEnd 33 = .ok (.goto 4, 3) := by decide +kernel
theorem dX5_childOrEnd_36 : decode cX5_childOrEnd 36 = .ok (.iconst 0, 1) := by decide +kernel
theorem dX5_childOrEnd_37 : decode cX5_childOrEnd 37 = .ok (.istore_n 1, 1) := by decide +kernel
theorem dX5_childOrEnd_38 : decode cX5_childOrEnd 38 = .ok (.aload_n 0, 1) := by decide +kernel
theorem dX5_childOrEnd_39 : decode cX5_childOrEnd 39 = .ok (.getfield 25, 3) := by decide +kernel
theorem dX5_childOrEnd_42 : decode cX5_childOrEnd 42 = .ok (.getfield 55, 3) := by decide +kernel
theorem dX5_childOrEnd_45 : decode cX5_childOrEnd 45 = .ok (.bipush 40, 2) := by decide +kernel
theorem dX5_childOrEnd_47 : decode cX5_childOrEnd 47 = .ok (.if_icmp .ne 16, 3) := by decide +kernel
theorem dX5_childOrEnd_50 : decode cX5_childOrEnd 50 = .ok (.iload_n 1, 1) := by decide +kernel
theorem dX5_childOrEnd_51 : decode cX5_childOrEnd 51 = .ok (.ifCond .eq 7, 3) := by decide +kernel
theorem dX5_childOrEnd_54 : decode cX5_childOrEnd 54 = .ok (.iconst 1, 1) := by decide +kernel
theorem dX5_childOrEnd_55 : decode cX5_childOrEnd 55 = .ok (.goto 7, 3) := by decide +kernel
theorem dX5_childOrEnd_58 : decode cX5_childOrEnd 58 = .ok (.aload_n 0, 1) := by decide +kernel
theorem dX5_childOrEnd_59 : decode cX5_childOrEnd 59 = .ok (.invokevirtual 58, 3) := by decide +kernel
theorem dX5_childOrEnd_62 : decode cX5_childOrEnd 62 = .ok (.ireturn, 1) := by decide +kernel
theorem dX5_childOrEnd_63 : decode cX5_childOrEnd 63 = .ok (.aload_n 0, 1) := by decide +kernel
theorem dX5_childOrEnd_64 : decode cX5_childOrEnd 64 = .ok (.getfield 25, 3) := by decide +kernel
theorem dX5_childOrEnd_67 : decode cX5_childOrEnd 67 = .ok (.getfield 55, 3) := by decide +kernel
theorem dX5_childOrEnd_70 : decode cX5_childOrEnd 70 = .ok (.bipush 41, 2) := by decide +kernel
theorem dX5_childOrEnd_72 : decode cX5_childOrEnd 72 = .ok (.if_icmp .ne 7, 3) := by decide +kernel
theorem dX5_childOrEnd_75 : decode cX5_childOrEnd 75 = .ok (.iload_n 1, 1) := by decide +kernel
theorem dX5_childOrEnd_76 : decode cX5_childOrEnd 76 = .ok (.ifCond .ne 5, 3) := by decide +kernel
theorem dX5_childOrEnd_79 : decode cX5_childOrEnd 79 = .ok (.iconst 1, 1) := by decide +kernel
theorem dX5_childOrEnd_80 : decode cX5_childOrEnd 80 = .ok (.ireturn, 1) := by decide +kernel
theorem dX5_childOrEnd_81 : decode cX5_childOrEnd 81 = .ok (.aload_n 0, 1) := by decide +kernel
theorem dX5_childOrEnd_82 : decode cX5_childOrEnd 82 = .ok (.aload_n 0, 1) := by decide +kernel
theorem dX5_childOrEnd_83 : decode cX5_childOrEnd 83 = .ok (.getfield 33, 3) := by decide +kernel
theorem dX5_childOrEnd_86 : decode cX5_childOrEnd 86 = .ok (.getfield 74, 3) := by decide +kernel
theorem dX5_childOrEnd_89 : decode cX5_childOrEnd 89 = .ok (.aload_n 0, 1) := by decide +kernel
theorem dX5_childOrEnd_90 : decode cX5_childOrEnd 90 = .ok (.getfield 15, 3) := by decide +kernel
theorem dX5_childOrEnd_93 : decode cX5_childOrEnd 93 = .ok (.iaload, 1) := by decide +kernel
theorem dX5_childOrEnd_94 : decode cX5_childOrEnd 94 = .ok (.putfield 15, 3) := by decide +kernel
theorem dX5_childOrEnd_97 : decode cX5_childOrEnd 97 = .ok (.aload_n 0, 1) := by decide +kernel
theorem dX5_childOrEnd_98 : decode cX5_childOrEnd 98 = .ok (.dup, 1) := by decide +kernel
theorem dX5_childOrEnd_99 : decode cX5_childOrEnd 99 = .ok (.getfield 18, 3) := by decide +kernel
theorem dX5_childOrEnd_102 : decode cX5_childOrEnd 102 = .ok (.iconst 1, 1) := by decide +kernel
theorem dX5_childOrEnd_103 : decode cX5_childOrEnd 103 = .ok (.isub, 1) := by decide +kernel
theorem dX5_childOrEnd_104 : decode cX5_childOrEnd 104 = .ok (.putfield 18, 3) := by decide +kernel
theorem dX5_childOrEnd_107 : decode cX5_childOrEnd 107 = .ok (.aload_n 0, 1) := by decide +kernel
theorem dX5_childOrEnd_108 : decode cX5_childOrEnd 108 = .ok (.iconst 1, 1) := by decide +kernel
theorem dX5_childOrEnd_109 : decode cX5_childOrEnd 109 = .ok (.aload_n 0, 1) := by decide +kernel
theorem dX5_childOrEnd_110 : decode cX5_childOrEnd 110 = .ok (.getfield 15, 3) := by decide +kernel
theorem dX5_childOrEnd_113 : decode cX5_childOrEnd 113 = .ok (.iconst (-1), 1) := by decide +kernel
theorem dX5_childOrEnd_114 : decode cX5_childOrEnd 114 = .ok (.if_icmp .ne 7, 3) := by decide +kernel
theorem dX5_childOrEnd_117 : decode cX5_childOrEnd 117 = .ok (.iconst 4, 1) := by decide +kernel
theorem dX5_childOrEnd_118 : decode cX5_childOrEnd 118 = .ok (.goto 4, 3) := by decide +kernel
theorem dX5_childOrEnd_121 : decode cX5_childOrEnd 121 = .ok (.iconst 3, 1) := by decide +kernel
theorem dX5_childOrEnd_122 : decode cX5_childOrEnd 122 = .ok (.invokevirtual 70, 3) := by decide +kernel
theorem dX5_childOrEnd_125 : decode cX5_childOrEnd 125 = .ok (.ireturn, 1) := by decide +kernel
theorem dX5_dueSymbol_0 : decode cX5_dueSymbol 0 = .ok (.aload_n 0, 1) := by decide +kernel
theorem dX5_dueSymbol_1 : decode cX5_dueSymbol 1 = .ok (.getfield 33, 3) := by decide +kernel
theorem dX5_dueSymbol_4 : decode cX5_dueSymbol 4 = .ok (.getfield 74, 3) := by decide +kernel
theorem dX5_dueSymbol_7 : decode cX5_dueSymbol 7 = .ok (.aload_n 0, 1) := by decide +kernel
theorem dX5_dueSymbol_8 : decode cX5_dueSymbol 8 = .ok (.getfield 15, 3) := by decide +kernel
theorem dX5_dueSymbol_11 : decode cX5_dueSymbol 11 = .ok (.iaload, 1) := by decide +kernel
theorem dX5_dueSymbol_12 : decode cX5_dueSymbol 12 = .ok (.istore_n 1, 1) := by decide +kernel
theorem dX5_dueSymbol_13 : decode cX5_dueSymbol 13 = .ok (.iload_n 1, 1) := by decide +kernel
theorem dX5_dueSymbol_14 : decode cX5_dueSymbol 14 = .ok (.iconst (-1), 1) := by decide +kernel
theorem dX5_dueSymbol_15 : decode cX5_dueSymbol 15 = .ok (.if_icmp .ne 7, 3) := by decide +kernel
theorem dX5_dueSymbol_18 : decode cX5_dueSymbol 18 = .ok (.iconst 0, 1) := by decide +kernel
theorem dX5_dueSymbol_19 : decode cX5_dueSymbol 19 = .ok (.goto 31, 3) := by decide +kernel
theorem dX5_dueSymbol_22 : decode cX5_dueSymbol 22 = .ok (.aload_n 0, 1) := by decide +kernel
theorem dX5_dueSymbol_23 : decode cX5_dueSymbol 23 = .ok (.getfield 29, 3) := by decide +kernel
theorem dX5_dueSymbol_26 : decode cX5_dueSymbol 26 = .ok (.aload_n 0, 1) := by decide +kernel
theorem dX5_dueSymbol_27 : decode cX5_dueSymbol 27 = .ok (.getfield 33, 3) := by decide +kernel
theorem dX5_dueSymbol_30 : decode cX5_dueSymbol 30 = .ok (.getfield 103, 3) := by decide +kernel
theorem dX5_dueSymbol_33 : decode cX5_dueSymbol 33 = .ok (.iload_n 1, 1) := by decide +kernel
theorem dX5_dueSymbol_34 : decode cX5_dueSymbol 34 = .ok (.iaload, 1) := by decide +kernel
theorem dX5_dueSymbol_35 : decode cX5_dueSymbol 35 = .ok (.aload_n 0, 1) := by decide +kernel
theorem dX5_dueSymbol_36 : decode cX5_dueSymbol 36 = .ok (.getfield 33, 3) := by decide +kernel
theorem dX5_dueSymbol_39 : decode cX5_dueSymbol 39 = .ok (.getfield 77, 3) := by decide +kernel
theorem dX5_dueSymbol_42 : decode cX5_dueSymbol 42 = .ok (.aload_n 0, 1) := by decide +kernel
theorem dX5_dueSymbol_43 : decode cX5_dueSymbol 43 = .ok (.getfield 15, 3) := by decide +kernel
theorem dX5_dueSymbol_46 : decode cX5_dueSymbol 46 = .ok (.iaload, 1) := by decide +kernel
theorem dX5_dueSymbol_47 : decode cX5_dueSymbol 47 = .ok (.invokevirtual 96, 3) := by decide +kernel
theorem dX5_dueSymbol_50 : decode cX5_dueSymbol 50 = .ok (.ireturn, 1) := by decide +kernel
theorem dX5_go_0 : decode cX5_go 0 = .ok (.iload_n 1, 1) := by decide +kernel
theorem dX5_go_1 : decode cX5_go 1 = .ok (.ifCond .ne 5, 3) := by decide +kernel
theorem dX5_go_4 : decode cX5_go 4 = .ok (.iconst 1, 1) := by decide +kernel
theorem dX5_go_5 : decode cX5_go 5 = .ok (.ireturn, 1) := by decide +kernel
theorem dX5_go_6 : decode cX5_go 6 = .ok (.aload_n 0, 1) := by decide +kernel
theorem dX5_go_7 : decode cX5_go 7 = .ok (.iload_n 2, 1) := by decide +kernel
theorem dX5_go_8 : decode cX5_go 8 = .ok (.putfield 11, 3) := by decide +kernel
theorem dX5_go_11 : decode cX5_go 11 = .ok (.iconst 0, 1) := by decide +kernel
theorem dX5_go_12 : decode cX5_go 12 = .ok (.ireturn, 1) := by decide +kernel
theorem dX5_init_0 : decode cX5_init 0 = .ok (.aload_n 0, 1) := by decide +kernel
theorem dX5_init_1 : decode cX5_init 1 = .ok (.invokespecial 3, 3) := by decide +kernel
theorem dX5_init_4 : decode cX5_init 4 = .ok (.aload_n 0, 1) := by decide +kernel
theorem dX5_init_5 : decode cX5_init 5 = .ok (.iconst 0, 1) := by decide +kernel
theorem dX5_init_6 : decode cX5_init 6 = .ok (.putfield 11, 3) := by decide +kernel
theorem dX5_init_9 : decode cX5_init 9 = .ok (.aload_n 0, 1) := by decide +kernel
theorem dX5_init_10 : decode cX5_init 10 = .ok (.iconst (-1), 1) := by decide +kernel
theorem dX5_init_11 : decode cX5_init 11 = .ok (.putfield 15, 3) := by decide +kernel
theorem dX5_init_14 : decode cX5_init 14 = .ok (.aload_n 0, 1) := by decide +kernel
theorem dX5_init_15 : decode cX5_init 15 = .ok (.iconst 0, 1) := by decide +kernel
theorem dX5_init_16 : decode cX5_init 16 = .ok (.putfield 18, 3) := by decide +kernel
theorem dX5_init_19 : decode cX5_init 19 = .ok (.aload_n 0, 1) := by decide +kernel
theorem dX5_init_20 : decode cX5_init 20 = .ok (.sipush 200, 3) := by decide +kernel
theorem dX5_init_23 : decode cX5_init 23 = .ok (.newarray .int, 2) := by decide +kernel
theorem dX5_init_25 : decode cX5_init 25 = .ok (.putfield 21, 3) := by decide +kernel
theorem dX5_init_28 : decode cX5_init 28 = .ok (.aload_n 0, 1) := by decide +kernel
theorem dX5_init_29 : decode cX5_init 29 = .ok (.aload_n 1, 1) := by decide +kernel
theorem dX5_init_30 : decode cX5_init 30 = .ok (.putfield 25, 3) := by decide +kernel
theorem dX5_init_33 : decode cX5_init 33 = .ok (.aload_n 0, 1) := by decide +kernel
theorem dX5_init_34 : decode cX5_init 34 = .ok (.aload_n 2, 1) := by decide +kernel
theorem dX5_init_35 : decode cX5_init 35 = .ok (.putfield 29, 3) := by decide +kernel
theorem dX5_init_38 : decode cX5_init 38 = .ok (.aload_n 0, 1) := by decide +kernel
theorem dX5_init_39 : decode cX5_init 39 = .ok (.aload_n 3, 1) := by decide +kernel
theorem dX5_init_40 : decode cX5_init 40 = .ok (.putfield 33, 3) := by decide +kernel
theorem dX5_init_43 : decode cX5_init 43 = .ok (.return_, 1) := by decide +kernel
theorem dX5_openNode_0 : decode cX5_openNode 0 = .ok (.aload_n 0, 1) := by decide +kernel
theorem dX5_openNode_1 : decode cX5_openNode 1 = .ok (.getfield 33, 3) := by decide +kernel
theorem dX5_openNode_4 : decode cX5_openNode 4 = .ok (.getfield 37, 3) := by decide +kernel
theorem dX5_openNode_7 : decode cX5_openNode 7 = .ok (.sipush 200, 3) := by decide +kernel
theorem dX5_openNode_10 : decode cX5_openNode 10 = .ok (.if_icmp .ge 12, 3) := by decide +kernel
theorem dX5_openNode_13 : decode cX5_openNode 13 = .ok (.aload_n 0, 1) := by decide +kernel
theorem dX5_openNode_14 : decode cX5_openNode 14 = .ok (.getfield 18, 3) := by decide +kernel
theorem dX5_openNode_17 : decode cX5_openNode 17 = .ok (.bipush 40, 2) := by decide +kernel
theorem dX5_openNode_19 : decode cX5_openNode 19 = .ok (.if_icmp .lt 5, 3) := by decide +kernel
theorem dX5_openNode_22 : decode cX5_openNode 22 = .ok (.iconst 4, 1) := by decide +kernel
theorem dX5_openNode_23 : decode cX5_openNode 23 = .ok (.ireturn, 1) := by decide +kernel
theorem dX5_openNode_24 : decode cX5_openNode 24 = .ok (.aload_n 0, 1) := by decide +kernel
theorem dX5_openNode_25 : decode cX5_openNode 25 = .ok (.getfield 33, 3) := by decide +kernel
theorem dX5_openNode_28 : decode cX5_openNode 28 = .ok (.getfield 37, 3) := by decide +kernel
theorem dX5_openNode_31 : decode cX5_openNode 31 = .ok (.istore_n 1, 1) := by decide +kernel
theorem dX5_openNode_32 : decode cX5_openNode 32 = .ok (.aload_n 0, 1) := by decide +kernel
theorem dX5_openNode_33 : decode cX5_openNode 33 = .ok (.getfield 33, 3) := by decide +kernel
theorem dX5_openNode_36 : decode cX5_openNode 36 = .ok (.dup, 1) := by decide +kernel
theorem dX5_openNode_37 : decode cX5_openNode 37 = .ok (.getfield 37, 3) := by decide +kernel
theorem dX5_openNode_40 : decode cX5_openNode 40 = .ok (.iconst 1, 1) := by decide +kernel
theorem dX5_openNode_41 : decode cX5_openNode 41 = .ok (.iadd, 1) := by decide +kernel
theorem dX5_openNode_42 : decode cX5_openNode 42 = .ok (.putfield 37, 3) := by decide +kernel
theorem dX5_openNode_45 : decode cX5_openNode 45 = .ok (.aload_n 0, 1) := by decide +kernel
theorem dX5_openNode_46 : decode cX5_openNode 46 = .ok (.dup, 1) := by decide +kernel
theorem dX5_openNode_47 : decode cX5_openNode 47 = .ok (.getfield 18, 3) := by decide +kernel
theorem dX5_openNode_50 : decode cX5_openNode 50 = .ok (.iconst 1, 1) := by decide +kernel
theorem dX5_openNode_51 : decode cX5_openNode 51 = .ok (.iadd, 1) := by decide +kernel
theorem dX5_openNode_52 : decode cX5_openNode 52 = .ok (.putfield 18, 3) := by decide +kernel
theorem dX5_openNode_55 : decode cX5_openNode 55 = .ok (.aload_n 0, 1) := by decide +kernel
theorem dX5_openNode_56 : decode cX5_openNode 56 = .ok (.getfield 33, 3) := by decide +kernel
theorem dX5_openNode_59 : decode cX5_openNode 59 = .ok (.getfield 74, 3) := by decide +kernel
theorem dX5_openNode_62 : decode cX5_openNode 62 = .ok (.iload_n 1, 1) := by decide +kernel
theorem dX5_openNode_63 : decode cX5_openNode 63 = .ok (.aload_n 0, 1) := by decide +kernel
theorem dX5_openNode_64 : decode cX5_openNode 64 = .ok (.getfield 15, 3) := by decide +kernel
theorem dX5_openNode_67 : decode cX5_openNode 67 = .ok (.iastore, 1) := by decide +kernel
theorem dX5_openNode_68 : decode cX5_openNode 68 = .ok (.aload_n 0, 1) := by decide +kernel
theorem dX5_openNode_69 : decode cX5_openNode 69 = .ok (.getfield 33, 3) := by decide +kernel
theorem dX5_openNode_72 : decode cX5_openNode 72 = .ok (.getfield 77, 3) := by decide +kernel
theorem dX5_openNode_75 : decode cX5_openNode 75 = .ok (.iload_n 1, 1) := by decide +kernel
theorem dX5_openNode_76 : decode cX5_openNode 76 = .ok (.iconst 0, 1) := by decide +kernel
theorem dX5_openNode_77 : decode cX5_openNode 77 = .ok (.iastore, 1) := by decide +kernel
theorem dX5_openNode_78 : decode cX5_openNode 78 = .ok (.aload_n 0, 1) := by decide +kernel
theorem dX5_openNode_79 : decode cX5_openNode 79 = .ok (.getfield 33, 3) := by decide +kernel
theorem dX5_openNode_82 : decode cX5_openNode 82 = .ok (.getfield 80, 3) := by decide +kernel
theorem dX5_openNode_85 : decode cX5_openNode 85 = .ok (.iload_n 1, 1) := by decide +kernel
theorem dX5_openNode_86 : decode cX5_openNode 86 = .ok (.iconst 0, 1) := by decide +kernel
theorem dX5_openNode_87 : decode cX5_openNode 87 = .ok (.iastore, 1) := by decide +kernel
theorem dX5_openNode_88 : decode cX5_openNode 88 = .ok (.aload_n 0, 1) := by decide +kernel
theorem dX5_openNode_89 : decode cX5_openNode 89 = .ok (.getfield 21, 3) := by decide +kernel
theorem dX5_openNode_92 : decode cX5_openNode 92 = .ok (.iload_n 1, 1) := by decide +kernel
theorem dX5_openNode_93 : decode cX5_openNode 93 = .ok (.iconst 0, 1) := by decide +kernel
theorem dX5_openNode_94 : decode cX5_openNode 94 = .ok (.iastore, 1) := by decide +kernel
theorem dX5_openNode_95 : decode cX5_openNode 95 = .ok (.aload_n 0, 1) := by decide +kernel
theorem dX5_openNode_96 : decode cX5_openNode 96 = .ok (.getfield 15, 3) := by decide +kernel
theorem dX5_openNode_99 : decode cX5_openNode 99 = .ok (.iconst (-1), 1) := by decide +kernel
theorem dX5_openNode_100 : decode cX5_openNode 100 = .ok (.if_icmp .eq 59, 3) := by decide +kernel
theorem dX5_openNode_103 : decode cX5_openNode 103 = .ok (.aload_n 0, 1) := by decide +kernel
theorem dX5_openNode_104 : decode cX5_openNode 104 = .ok (.getfield 33, 3) := by decide +kernel
theorem dX5_openNode_107 : decode cX5_openNode 107 = .ok (.getfield 83, 3) := by decide +kernel
theorem dX5_openNode_110 : decode cX5_openNode 110 = .ok (.aload_n 0, 1) := by decide +kernel
theorem dX5_openNode_111 : decode cX5_openNode 111 = .ok (.getfield 15, 3) := by decide +kernel
theorem dX5_openNode_114 : decode cX5_openNode 114 = .ok (.iconst 3, 1) := by decide +kernel
theorem dX5_openNode_115 : decode cX5_openNode 115 = .ok (.imul, 1) := by decide +kernel
theorem dX5_openNode_116 : decode cX5_openNode 116 = .ok (.aload_n 0, 1) := by decide +kernel
theorem dX5_openNode_117 : decode cX5_openNode 117 = .ok (.getfield 21, 3) := by decide +kernel
theorem dX5_openNode_120 : decode cX5_openNode 120 = .ok (.aload_n 0, 1) := by decide +kernel
theorem dX5_openNode_121 : decode cX5_openNode 121 = .ok (.getfield 15, 3) := by decide +kernel
theorem dX5_openNode_124 : decode cX5_openNode 124 = .ok (.iaload, 1) := by decide +kernel
theorem dX5_openNode_125 : decode cX5_openNode 125 = .ok (.iadd, 1) := by decide +kernel
theorem dX5_openNode_126 : decode cX5_openNode 126 = .ok (.iload_n 1, 1) := by decide +kernel
theorem dX5_openNode_127 : decode cX5_openNode 127 = .ok (.iastore, 1) := by decide +kernel
theorem dX5_openNode_128 : decode cX5_openNode 128 = .ok (.aload_n 0, 1) := by decide +kernel
theorem dX5_openNode_129 : decode cX5_openNode 129 = .ok (.getfield 21, 3) := by decide +kernel
theorem dX5_openNode_132 : decode cX5_openNode 132 = .ok (.aload_n 0, 1) := by decide +kernel
theorem dX5_openNode_133 : decode cX5_openNode 133 = .ok (.getfield 15, 3) := by decide +kernel
theorem dX5_openNode_136 : decode cX5_openNode 136 = .ok (.dup2, 1) := by decide +kernel
theorem dX5_openNode_137 : decode cX5_openNode 137 = .ok (.iaload, 1) := by decide +kernel
theorem dX5_openNode_138 : decode cX5_openNode 138 = .ok (.iconst 1, 1) := by decide +kernel
theorem dX5_openNode_139 : decode cX5_openNode 139 = .ok (.iadd, 1) := by decide +kernel
theorem dX5_openNode_140 : decode cX5_openNode 140 = .ok (.iastore, 1) := by decide +kernel
theorem dX5_openNode_141 : decode cX5_openNode 141 = .ok (.aload_n 0, 1) := by decide +kernel
theorem dX5_openNode_142 : decode cX5_openNode 142 = .ok (.getfield 33, 3) := by decide +kernel
theorem dX5_openNode_145 : decode cX5_openNode 145 = .ok (.getfield 77, 3) := by decide +kernel
theorem dX5_openNode_148 : decode cX5_openNode 148 = .ok (.iload_n 1, 1) := by decide +kernel
theorem dX5_openNode_149 : decode cX5_openNode 149 = .ok (.aload_n 0, 1) := by decide +kernel
theorem dX5_openNode_150 : decode cX5_openNode 150 = .ok (.getfield 21, 3) := by decide +kernel
theorem dX5_openNode_153 : decode cX5_openNode 153 = .ok (.aload_n 0, 1) := by decide +kernel
theorem dX5_openNode_154 : decode cX5_openNode 154 = .ok (.getfield 15, 3) := by decide +kernel
theorem dX5_openNode_157 : decode cX5_openNode 157 = .ok (.iaload, 1) := by decide +kernel
theorem dX5_openNode_158 : decode cX5_openNode 158 = .ok (.iastore, 1) := by decide +kernel
theorem dX5_openNode_159 : decode cX5_openNode 159 = .ok (.aload_n 0, 1) := by decide +kernel
theorem dX5_openNode_160 : decode cX5_openNode 160 = .ok (.iload_n 1, 1) := by decide +kernel
theorem dX5_openNode_161 : decode cX5_openNode 161 = .ok (.putfield 15, 3) := by decide +kernel
theorem dX5_openNode_164 : decode cX5_openNode 164 = .ok (.aload_n 0, 1) := by decide +kernel
theorem dX5_openNode_165 : decode cX5_openNode 165 = .ok (.iconst 1, 1) := by decide +kernel
theorem dX5_openNode_166 : decode cX5_openNode 166 = .ok (.iconst 1, 1) := by decide +kernel
theorem dX5_openNode_167 : decode cX5_openNode 167 = .ok (.invokevirtual 70, 3) := by decide +kernel
theorem dX5_openNode_170 : decode cX5_openNode 170 = .ok (.ireturn, 1) := by decide +kernel
theorem dX5_ownNumber_0 : decode cX5_ownNumber 0 = .ok (.aload_n 0, 1) := by decide +kernel
theorem dX5_ownNumber_1 : decode cX5_ownNumber 1 = .ok (.getfield 25, 3) := by decide +kernel
theorem dX5_ownNumber_4 : decode cX5_ownNumber 4 = .ok (.getfield 106, 3) := by decide +kernel
theorem dX5_ownNumber_7 : decode cX5_ownNumber 7 = .ok (.ldc2_w 109, 3) := by decide +kernel
theorem dX5_ownNumber_10 : decode cX5_ownNumber 10 = .ok (.lcmp, 1) := by decide +kernel
theorem dX5_ownNumber_11 : decode cX5_ownNumber 11 = .ok (.ifCond .le 5, 3) := by decide +kernel
theorem dX5_ownNumber_14 : decode cX5_ownNumber 14 = .ok (.iconst 5, 1) := by decide +kernel
theorem dX5_ownNumber_15 : decode cX5_ownNumber 15 = .ok (.ireturn, 1) := by decide +kernel
theorem dX5_ownNumber_16 : decode cX5_ownNumber 16 = .ok (.aload_n 0, 1) := by decide +kernel
theorem dX5_ownNumber_17 : decode cX5_ownNumber 17 = .ok (.getfield 33, 3) := by decide +kernel
theorem dX5_ownNumber_20 : decode cX5_ownNumber 20 = .ok (.getfield 80, 3) := by decide +kernel
theorem dX5_ownNumber_23 : decode cX5_ownNumber 23 = .ok (.aload_n 0, 1) := by decide +kernel
theorem dX5_ownNumber_24 : decode cX5_ownNumber 24 = .ok (.getfield 15, 3) := by decide +kernel
theorem dX5_ownNumber_27 : decode cX5_ownNumber 27 = .ok (.aload_n 0, 1) := by decide +kernel
theorem dX5_ownNumber_28 : decode cX5_ownNumber 28 = .ok (.getfield 25, 3) := by decide +kernel
theorem dX5_ownNumber_31 : decode cX5_ownNumber 31 = .ok (.getfield 106, 3) := by decide +kernel
theorem dX5_ownNumber_34 : decode cX5_ownNumber 34 = .ok (.l2i, 1) := by decide +kernel
theorem dX5_ownNumber_35 : decode cX5_ownNumber 35 = .ok (.iastore, 1) := by decide +kernel
theorem dX5_ownNumber_36 : decode cX5_ownNumber 36 = .ok (.aload_n 0, 1) := by decide +kernel
theorem dX5_ownNumber_37 : decode cX5_ownNumber 37 = .ok (.iconst 1, 1) := by decide +kernel
theorem dX5_ownNumber_38 : decode cX5_ownNumber 38 = .ok (.iconst 3, 1) := by decide +kernel
theorem dX5_ownNumber_39 : decode cX5_ownNumber 39 = .ok (.invokevirtual 70, 3) := by decide +kernel
theorem dX5_ownNumber_42 : decode cX5_ownNumber 42 = .ok (.ireturn, 1) := by decide +kernel
theorem dX5_read_0 : decode cX5_read 0 = .ok (.aload_n 0, 1) := by decide +kernel
theorem dX5_read_1 : decode cX5_read 1 = .ok (.aload_n 1, 1) := by decide +kernel
theorem dX5_read_2 : decode cX5_read 2 = .ok (.putfield 29, 3) := by decide +kernel
theorem dX5_read_5 : decode cX5_read 5 = .ok (.aload_n 0, 1) := by decide +kernel
theorem dX5_read_6 : decode cX5_read 6 = .ok (.aload_n 2, 1) := by decide +kernel
theorem dX5_read_7 : decode cX5_read 7 = .ok (.putfield 33, 3) := by decide +kernel
theorem dX5_read_10 : decode cX5_read 10 = .ok (.aload_n 0, 1) := by decide +kernel
theorem dX5_read_11 : decode cX5_read 11 = .ok (.getfield 33, 3) := by decide +kernel
theorem dX5_read_14 : decode cX5_read 14 = .ok (.iconst 0, 1) := by decide +kernel
theorem dX5_read_15 : decode cX5_read 15 = .ok (.putfield 37, 3) := by decide +kernel
theorem dX5_read_18 : decode cX5_read 18 = .ok (.aload_n 0, 1) := by decide +kernel
theorem dX5_read_19 : decode cX5_read 19 = .ok (.getfield 25, 3) := by decide +kernel
theorem dX5_read_22 : decode cX5_read 22 = .ok (.iload_n 3, 1) := by decide +kernel
theorem dX5_read_23 : decode cX5_read 23 = .ok (.invokevirtual 42, 3) := by decide +kernel
theorem dX5_read_26 : decode cX5_read 26 = .ok (.aload_n 0, 1) := by decide +kernel
theorem dX5_read_27 : decode cX5_read 27 = .ok (.iconst 0, 1) := by decide +kernel
theorem dX5_read_28 : decode cX5_read 28 = .ok (.putfield 11, 3) := by decide +kernel
theorem dX5_read_31 : decode cX5_read 31 = .ok (.aload_n 0, 1) := by decide +kernel
theorem dX5_read_32 : decode cX5_read 32 = .ok (.iconst (-1), 1) := by decide +kernel
theorem dX5_read_33 : decode cX5_read 33 = .ok (.putfield 15, 3) := by decide +kernel
theorem dX5_read_36 : decode cX5_read 36 = .ok (.aload_n 0, 1) := by decide +kernel
theorem dX5_read_37 : decode cX5_read 37 = .ok (.iconst 0, 1) := by decide +kernel
theorem dX5_read_38 : decode cX5_read 38 = .ok (.putfield 18, 3) := by decide +kernel
theorem dX5_read_41 : decode cX5_read 41 = .ok (.iconst 0, 1) := by decide +kernel
theorem dX5_read_42 : decode cX5_read 42 = .ok (.istore 4, 2) := by decide +kernel
theorem dX5_read_44 : decode cX5_read 44 = .ok (.iconst 0, 1) := by decide +kernel
theorem dX5_read_45 : decode cX5_read 45 = .ok (.istore 5, 2) := by decide +kernel
theorem dX5_read_47 : decode cX5_read 47 = .ok (.iload 5, 2) := by decide +kernel
theorem dX5_read_49 : decode cX5_read 49 = .ok (.iload_n 3, 1) := by decide +kernel
theorem dX5_read_50 : decode cX5_read 50 = .ok (.if_icmp .gt 35, 3) := by decide +kernel
theorem dX5_read_53 : decode cX5_read 53 = .ok (.iload 4, 2) := by decide +kernel
theorem dX5_read_55 : decode cX5_read 55 = .ok (.ifCond .ne 30, 3) := by decide +kernel
theorem dX5_read_58 : decode cX5_read 58 = .ok (.aload_n 0, 1) := by decide +kernel
theorem dX5_read_59 : decode cX5_read 59 = .ok (.getfield 11, 3) := by decide +kernel
theorem dX5_read_62 : decode cX5_read 62 = .ok (.iconst 5, 1) := by decide +kernel
theorem dX5_read_63 : decode cX5_read 63 = .ok (.if_icmp .eq 22, 3) := by decide +kernel
theorem dX5_read_66 : decode cX5_read 66 = .ok (.aload_n 0, 1) := by decide +kernel
theorem dX5_read_67 : decode cX5_read 67 = .ok (.getfield 25, 3) := by decide +kernel
theorem dX5_read_70 : decode cX5_read 70 = .ok (.invokevirtual 48, 3) := by decide +kernel
theorem dX5_read_73 : decode cX5_read 73 = .ok (.aload_n 0, 1) := by decide +kernel
theorem dX5_read_74 : decode cX5_read 74 = .ok (.invokevirtual 51, 3) := by decide +kernel
theorem dX5_read_77 : decode cX5_read 77 = .ok (.istore 4, 2) := by decide +kernel
theorem dX5_read_79 : decode cX5_read 79 = .ok (.iinc 5 1, 3) := by decide +kernel
theorem dX5_read_82 : decode cX5_read 82 = .ok (.goto (-35), 3) := by decide +kernel
theorem dX5_read_85 : decode cX5_read 85 = .ok (.iload 4, 2) := by decide +kernel
theorem dX5_read_87 : decode cX5_read 87 = .ok (.ireturn, 1) := by decide +kernel
theorem dX5_ruleName_0 : decode cX5_ruleName 0 = .ok (.aload_n 0, 1) := by decide +kernel
theorem dX5_ruleName_1 : decode cX5_ruleName 1 = .ok (.getfield 25, 3) := by decide +kernel
theorem dX5_ruleName_4 : decode cX5_ruleName 4 = .ok (.getfield 55, 3) := by decide +kernel
theorem dX5_ruleName_7 : decode cX5_ruleName 7 = .ok (.iconst 1, 1) := by decide +kernel
theorem dX5_ruleName_8 : decode cX5_ruleName 8 = .ok (.if_icmp .eq 5, 3) := by decide +kernel
theorem dX5_ruleName_11 : decode cX5_ruleName 11 = .ok (.iconst 1, 1) := by decide +kernel
theorem dX5_ruleName_12 : decode cX5_ruleName 12 = .ok (.ireturn, 1) := by decide +kernel
theorem dX5_ruleName_13 : decode cX5_ruleName 13 = .ok (.aload_n 0, 1) := by decide +kernel
theorem dX5_ruleName_14 : decode cX5_ruleName 14 = .ok (.getfield 29, 3) := by decide +kernel
theorem dX5_ruleName_17 : decode cX5_ruleName 17 = .ok (.aload_n 0, 1) := by decide +kernel
theorem dX5_ruleName_18 : decode cX5_ruleName 18 = .ok (.getfield 25, 3) := by decide +kernel
theorem dX5_ruleName_21 : decode cX5_ruleName 21 = .ok (.getfield 86, 3) := by decide +kernel
theorem dX5_ruleName_24 : decode cX5_ruleName 24 = .ok (.invokevirtual 90, 3) := by decide +kernel
theorem dX5_ruleName_27 : decode cX5_ruleName 27 = .ok (.istore_n 1, 1) := by decide +kernel
theorem dX5_ruleName_28 : decode cX5_ruleName 28 = .ok (.iload_n 1, 1) := by decide +kernel
theorem dX5_ruleName_29 : decode cX5_ruleName 29 = .ok (.iconst (-1), 1) := by decide +kernel
theorem dX5_ruleName_30 : decode cX5_ruleName 30 = .ok (.if_icmp .eq 19, 3) := by decide +kernel
theorem dX5_ruleName_33 : decode cX5_ruleName 33 = .ok (.aload_n 0, 1) := by decide +kernel
theorem dX5_ruleName_34 : decode cX5_ruleName 34 = .ok (.getfield 29, 3) := by decide +kernel
theorem dX5_ruleName_37 : decode cX5_ruleName 37 = .ok (.iload_n 1, 1) := by decide +kernel
theorem dX5_ruleName_38 : decode cX5_ruleName 38 = .ok (.iconst 0, 1) := by decide +kernel
theorem dX5_ruleName_39 : decode cX5_ruleName 39 = .ok (.invokevirtual 96, 3) := by decide +kernel
theorem dX5_ruleName_42 : decode cX5_ruleName 42 = .ok (.aload_n 0, 1) := by decide +kernel
theorem dX5_ruleName_43 : decode cX5_ruleName 43 = .ok (.invokevirtual 100, 3) := by decide +kernel
theorem dX5_ruleName_46 : decode cX5_ruleName 46 = .ok (.if_icmp .eq 5, 3) := by decide +kernel
theorem dX5_ruleName_49 : decode cX5_ruleName 49 = .ok (.iconst 3, 1) := by decide +kernel
theorem dX5_ruleName_50 : decode cX5_ruleName 50 = .ok (.ireturn, 1) := by decide +kernel
theorem dX5_ruleName_51 : decode cX5_ruleName 51 = .ok (.aload_n 0, 1) := by decide +kernel
theorem dX5_ruleName_52 : decode cX5_ruleName 52 = .ok (.getfield 33, 3) := by decide +kernel
theorem dX5_ruleName_55 : decode cX5_ruleName 55 = .ok (.getfield 103, 3) := by decide +kernel
theorem dX5_ruleName_58 : decode cX5_ruleName 58 = .ok (.aload_n 0, 1) := by decide +kernel
theorem dX5_ruleName_59 : decode cX5_ruleName 59 = .ok (.getfield 15, 3) := by decide +kernel
theorem dX5_ruleName_62 : decode cX5_ruleName 62 = .ok (.iload_n 1, 1) := by decide +kernel
theorem dX5_ruleName_63 : decode cX5_ruleName 63 = .ok (.iastore, 1) := by decide +kernel
theorem dX5_ruleName_64 : decode cX5_ruleName 64 = .ok (.aload_n 0, 1) := by decide +kernel
theorem dX5_ruleName_65 : decode cX5_ruleName 65 = .ok (.iconst 1, 1) := by decide +kernel
theorem dX5_ruleName_66 : decode cX5_ruleName 66 = .ok (.iconst 2, 1) := by decide +kernel
theorem dX5_ruleName_67 : decode cX5_ruleName 67 = .ok (.invokevirtual 70, 3) := by decide +kernel
theorem dX5_ruleName_70 : decode cX5_ruleName 70 = .ok (.ireturn, 1) := by decide +kernel
theorem dX5_step_0 : decode cX5_step 0 = .ok (.aload_n 0, 1) := by decide +kernel
theorem dX5_step_1 : decode cX5_step 1 = .ok (.getfield 11, 3) := by decide +kernel
theorem dX5_step_4 : decode cX5_step 4 = .ok (.tableswitch 86 0 3 #[32, 53, 58, 81], 32) := by decide +kernel
theorem dX5_step_36 : decode cX5_step 36 = .ok (.aload_n 0, 1) := by decide +kernel
theorem dX5_step_37 : decode cX5_step 37 = .ok (.getfield 25, 3) := by decide +kernel
theorem dX5_step_40 : decode cX5_step 40 = .ok (.getfield 55, 3) := by decide +kernel
theorem dX5_step_43 : decode cX5_step 43 = .ok (.bipush 40, 2) := by decide +kernel
theorem dX5_step_45 : decode cX5_step 45 = .ok (.if_icmp .ne 10, 3) := by decide +kernel
theorem dX5_step_48 : decode cX5_step 48 = .ok (.aload_n 0, 1) := by decide +kernel
theorem dX5_step_49 : decode cX5_step 49 = .ok (.invokevirtual 58, 3) := by decide +kernel
theorem dX5_step_52 : decode cX5_step 52 = .ok (.goto 4, 3) := by decide +kernel
theorem dX5_step_55 : decode cX5_step 55 = .ok (.iconst 1, 1) := by decide +kernel
theorem dX5_step_56 : decode cX5_step 56 = .ok (.ireturn, 1) := by decide +kernel
theorem dX5_step_57 : decode cX5_step 57 = .ok (.aload_n 0, 1) := by decide +kernel
theorem dX5_step_58 : decode cX5_step 58 = .ok (.invokevirtual 61, 3) := by decide +kernel
theorem dX5_step_61 : decode cX5_step 61 = .ok (.ireturn, 1) := by decide +kernel
theorem dX5_step_62 : decode cX5_step 62 = .ok (.aload_n 0, 1) := by decide +kernel
theorem dX5_step_63 : decode cX5_step 63 = .ok (.getfield 25, 3) := by decide +kernel
theorem dX5_step_66 : decode cX5_step 66 = .ok (.getfield 55, 3) := by decide +kernel
theorem dX5_step_69 : decode cX5_step 69 = .ok (.iconst 2, 1) := by decide +kernel
theorem dX5_step_70 : decode cX5_step 70 = .ok (.if_icmp .ne 10, 3) := by decide +kernel
theorem dX5_step_73 : decode cX5_step 73 = .ok (.aload_n 0, 1) := by decide +kernel
theorem dX5_step_74 : decode cX5_step 74 = .ok (.invokevirtual 64, 3) := by decide +kernel
theorem dX5_step_77 : decode cX5_step 77 = .ok (.goto 7, 3) := by decide +kernel
theorem dX5_step_80 : decode cX5_step 80 = .ok (.aload_n 0, 1) := by decide +kernel
theorem dX5_step_81 : decode cX5_step 81 = .ok (.invokevirtual 67, 3) := by decide +kernel
theorem dX5_step_84 : decode cX5_step 84 = .ok (.ireturn, 1) := by decide +kernel
theorem dX5_step_85 : decode cX5_step 85 = .ok (.aload_n 0, 1) := by decide +kernel
theorem dX5_step_86 : decode cX5_step 86 = .ok (.invokevirtual 67, 3) := by decide +kernel
theorem dX5_step_89 : decode cX5_step 89 = .ok (.ireturn, 1) := by decide +kernel
theorem dX5_step_90 : decode cX5_step 90 = .ok (.aload_n 0, 1) := by decide +kernel
theorem dX5_step_91 : decode cX5_step 91 = .ok (.aload_n 0, 1) := by decide +kernel
theorem dX5_step_92 : decode cX5_step 92 = .ok (.getfield 25, 3) := by decide +kernel
theorem dX5_step_95 : decode cX5_step 95 = .ok (.getfield 55, 3) := by decide +kernel
theorem dX5_step_98 : decode cX5_step 98 = .ok (.ifCond .ne 7, 3) := by decide +kernel
theorem dX5_step_101 : decode cX5_step 101 = .ok (.iconst 1, 1) := by decide +kernel
theorem dX5_step_102 : decode cX5_step 102 = .ok (.goto 4, 3) := by decide +kernel
theorem dX5_step_105 : decode cX5_step 105 = .ok (.iconst 0, 1) := by decide +kernel
theorem dX5_step_106 : decode cX5_step 106 = .ok (.iconst 5, 1) := by decide +kernel
theorem dX5_step_107 : decode cX5_step 107 = .ok (.invokevirtual 70, 3) := by decide +kernel
theorem dX5_step_110 : decode cX5_step 110 = .ok (.ireturn, 1) := by decide +kernel
