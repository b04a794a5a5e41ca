theorem dX7_begin_0 : decode cX7_begin 0 = .ok (.aload_n 0, 1) := by decide +kernel
theorem dX7_begin_1 : decode cX7_begin 1 = .ok (.invokevirtual 58, 3) := by decide +kernel
theorem dX7_begin_4 : decode cX7_begin 4 = .ok (.aload_n 0, 1) := by decide +kernel
theorem dX7_begin_5 : decode cX7_begin 5 = .ok (.aload_n 1, 1) := by decide +kernel
theorem dX7_begin_6 : decode cX7_begin 6 = .ok (.putfield 50, 3) := by decide +kernel
theorem dX7_begin_9 : decode cX7_begin 9 = .ok (.aload_n 0, 1) := by decide +kernel
theorem dX7_begin_10 : decode cX7_begin 10 = .ok (.aload_n 2, 1) := by decide +kernel
theorem dX7_begin_11 : decode cX7_begin 11 = .ok (.putfield 54, 3) := by decide +kernel
theorem dX7_begin_14 : decode cX7_begin 14 = .ok (.return_, 1) := by decide +kernel
theorem dX7_choose_0 : decode cX7_choose 0 = .ok (.aload_n 0, 1) := by decide +kernel
theorem dX7_choose_1 : decode cX7_choose 1 = .ok (.getfield 40, 3) := by decide +kernel
theorem dX7_choose_4 : decode cX7_choose 4 = .ok (.iload_n 1, 1) := by decide +kernel
theorem dX7_choose_5 : decode cX7_choose 5 = .ok (.iaload, 1) := by decide +kernel
theorem dX7_choose_6 : decode cX7_choose 6 = .ok (.ifCond .eq 9, 3) := by decide +kernel
theorem dX7_choose_9 : decode cX7_choose 9 = .ok (.iload_n 1, 1) := by decide +kernel
theorem dX7_choose_10 : decode cX7_choose 10 = .ok (.iconst 1, 1) := by decide +kernel
theorem dX7_choose_11 : decode cX7_choose 11 = .ok (.iadd, 1) := by decide +kernel
theorem dX7_choose_12 : decode cX7_choose 12 = .ok (.goto 6, 3) := by decide +kernel
theorem dX7_choose_15 : decode cX7_choose 15 = .ok (.iload_n 1, 1) := by decide +kernel
theorem dX7_choose_16 : decode cX7_choose 16 = .ok (.iconst 2, 1) := by decide +kernel
theorem dX7_choose_17 : decode cX7_choose 17 = .ok (.iadd, 1) := by decide +kernel
theorem dX7_choose_18 : decode cX7_choose 18 = .ok (.istore_n 2, 1) := by decide +kernel
theorem dX7_choose_19 : decode cX7_choose 19 = .ok (.aload_n 0, 1) := by decide +kernel
theorem dX7_choose_20 : decode cX7_choose 20 = .ok (.getfield 40, 3) := by decide +kernel
theorem dX7_choose_23 : decode cX7_choose 23 = .ok (.iload_n 1, 1) := by decide +kernel
theorem dX7_choose_24 : decode cX7_choose 24 = .ok (.aload_n 0, 1) := by decide +kernel
theorem dX7_choose_25 : decode cX7_choose 25 = .ok (.getfield 40, 3) := by decide +kernel
theorem dX7_choose_28 : decode cX7_choose 28 = .ok (.iload_n 2, 1) := by decide +kernel
theorem dX7_choose_29 : decode cX7_choose 29 = .ok (.iaload, 1) := by decide +kernel
theorem dX7_choose_30 : decode cX7_choose 30 = .ok (.iastore, 1) := by decide +kernel
theorem dX7_choose_31 : decode cX7_choose 31 = .ok (.aload_n 0, 1) := by decide +kernel
theorem dX7_choose_32 : decode cX7_choose 32 = .ok (.getfield 43, 3) := by decide +kernel
theorem dX7_choose_35 : decode cX7_choose 35 = .ok (.iload_n 1, 1) := by decide +kernel
theorem dX7_choose_36 : decode cX7_choose 36 = .ok (.aload_n 0, 1) := by decide +kernel
theorem dX7_choose_37 : decode cX7_choose 37 = .ok (.getfield 43, 3) := by decide +kernel
theorem dX7_choose_40 : decode cX7_choose 40 = .ok (.iload_n 1, 1) := by decide +kernel
theorem dX7_choose_41 : decode cX7_choose 41 = .ok (.baload, 1) := by decide +kernel
theorem dX7_choose_42 : decode cX7_choose 42 = .ok (.ifCond .ne 12, 3) := by decide +kernel
theorem dX7_choose_45 : decode cX7_choose 45 = .ok (.aload_n 0, 1) := by decide +kernel
theorem dX7_choose_46 : decode cX7_choose 46 = .ok (.getfield 43, 3) := by decide +kernel
theorem dX7_choose_49 : decode cX7_choose 49 = .ok (.iload_n 2, 1) := by decide +kernel
theorem dX7_choose_50 : decode cX7_choose 50 = .ok (.baload, 1) := by decide +kernel
theorem dX7_choose_51 : decode cX7_choose 51 = .ok (.ifCond .eq 7, 3) := by decide +kernel
theorem dX7_choose_54 : decode cX7_choose 54 = .ok (.iconst 1, 1) := by decide +kernel
theorem dX7_choose_55 : decode cX7_choose 55 = .ok (.goto 4, 3) := by decide +kernel
theorem dX7_choose_58 : decode cX7_choose 58 = .ok (.iconst 0, 1) := by decide +kernel
theorem dX7_choose_59 : decode cX7_choose 59 = .ok (.bastore, 1) := by decide +kernel
theorem dX7_choose_60 : decode cX7_choose 60 = .ok (.aload_n 0, 1) := by decide +kernel
theorem dX7_choose_61 : decode cX7_choose 61 = .ok (.iload_n 1, 1) := by decide +kernel
theorem dX7_choose_62 : decode cX7_choose 62 = .ok (.iconst 1, 1) := by decide +kernel
theorem dX7_choose_63 : decode cX7_choose 63 = .ok (.iadd, 1) := by decide +kernel
theorem dX7_choose_64 : decode cX7_choose 64 = .ok (.putfield 47, 3) := by decide +kernel
theorem dX7_choose_67 : decode cX7_choose 67 = .ok (.return_, 1) := by decide +kernel
theorem dX7_combine_0 : decode cX7_combine 0 = .ok (.aload_n 0, 1) := by decide +kernel
theorem dX7_combine_1 : decode cX7_combine 1 = .ok (.getfield 40, 3) := by decide +kernel
theorem dX7_combine_4 : decode cX7_combine 4 = .ok (.iload_n 2, 1) := by decide +kernel
theorem dX7_combine_5 : decode cX7_combine 5 = .ok (.iaload, 1) := by decide +kernel
theorem dX7_combine_6 : decode cX7_combine 6 = .ok (.istore_n 3, 1) := by decide +kernel
theorem dX7_combine_7 : decode cX7_combine 7 = .ok (.aload_n 0, 1) := by decide +kernel
theorem dX7_combine_8 : decode cX7_combine 8 = .ok (.getfield 40, 3) := by decide +kernel
theorem dX7_combine_11 : decode cX7_combine 11 = .ok (.iload_n 2, 1) := by decide +kernel
theorem dX7_combine_12 : decode cX7_combine 12 = .ok (.iconst 1, 1) := by decide +kernel
theorem dX7_combine_13 : decode cX7_combine 13 = .ok (.iadd, 1) := by decide +kernel
theorem dX7_combine_14 : decode cX7_combine 14 = .ok (.iaload, 1) := by decide +kernel
theorem dX7_combine_15 : decode cX7_combine 15 = .ok (.istore 4, 2) := by decide +kernel
theorem dX7_combine_17 : decode cX7_combine 17 = .ok (.iload_n 1, 1) := by decide +kernel
theorem dX7_combine_18 : decode cX7_combine 18 = .ok (.bipush 47, 2) := by decide +kernel
theorem dX7_combine_20 : decode cX7_combine 20 = .ok (.if_icmp .eq 9, 3) := by decide +kernel
theorem dX7_combine_23 : decode cX7_combine 23 = .ok (.iload_n 1, 1) := by decide +kernel
theorem dX7_combine_24 : decode cX7_combine 24 = .ok (.bipush 37, 2) := by decide +kernel
theorem dX7_combine_26 : decode cX7_combine 26 = .ok (.if_icmp .ne 7, 3) := by decide +kernel
theorem dX7_combine_29 : decode cX7_combine 29 = .ok (.iconst 1, 1) := by decide +kernel
theorem dX7_combine_30 : decode cX7_combine 30 = .ok (.goto 4, 3) := by decide +kernel
theorem dX7_combine_33 : decode cX7_combine 33 = .ok (.iconst 0, 1) := by decide +kernel
theorem dX7_combine_34 : decode cX7_combine 34 = .ok (.istore 5, 2) := by decide +kernel
theorem dX7_combine_36 : decode cX7_combine 36 = .ok (.aload_n 0, 1) := by decide +kernel
theorem dX7_combine_37 : decode cX7_combine 37 = .ok (.getfield 43, 3) := by decide +kernel
theorem dX7_combine_40 : decode cX7_combine 40 = .ok (.iload_n 2, 1) := by decide +kernel
theorem dX7_combine_41 : decode cX7_combine 41 = .ok (.aload_n 0, 1) := by decide +kernel
theorem dX7_combine_42 : decode cX7_combine 42 = .ok (.getfield 43, 3) := by decide +kernel
theorem dX7_combine_45 : decode cX7_combine 45 = .ok (.iload_n 2, 1) := by decide +kernel
theorem dX7_combine_46 : decode cX7_combine 46 = .ok (.baload, 1) := by decide +kernel
theorem dX7_combine_47 : decode cX7_combine 47 = .ok (.ifCond .ne 24, 3) := by decide +kernel
theorem dX7_combine_50 : decode cX7_combine 50 = .ok (.aload_n 0, 1) := by decide +kernel
theorem dX7_combine_51 : decode cX7_combine 51 = .ok (.getfield 43, 3) := by decide +kernel
theorem dX7_combine_54 : decode cX7_combine 54 = .ok (.iload_n 2, 1) := by decide +kernel
theorem dX7_combine_55 : decode cX7_combine 55 = .ok (.iconst 1, 1) := by decide +kernel
theorem dX7_combine_56 : decode cX7_combine 56 = .ok (.iadd, 1) := by decide +kernel
theorem dX7_combine_57 : decode cX7_combine 57 = .ok (.baload, 1) := by decide +kernel
theorem dX7_combine_58 : decode cX7_combine 58 = .ok (.ifCond .ne 13, 3) := by decide +kernel
theorem dX7_combine_61 : decode cX7_combine 61 = .ok (.iload 5, 2) := by decide +kernel
theorem dX7_combine_63 : decode cX7_combine 63 = .ok (.ifCond .eq 12, 3) := by decide +kernel
theorem dX7_combine_66 : decode cX7_combine 66 = .ok (.iload 4, 2) := by decide +kernel
theorem dX7_combine_68 : decode cX7_combine 68 = .ok (.ifCond .ne 7, 3) := by decide +kernel
theorem dX7_combine_71 : decode cX7_combine 71 = .ok (.iconst 1, 1) := by decide +kernel
theorem dX7_combine_72 : decode cX7_combine 72 = .ok (.goto 4, 3) := by decide +kernel
theorem dX7_combine_75 : decode cX7_combine 75 = .ok (.iconst 0, 1) := by decide +kernel
theorem dX7_combine_76 : decode cX7_combine 76 = .ok (.bastore, 1) := by decide +kernel
theorem dX7_combine_77 : decode cX7_combine 77 = .ok (.aload_n 0, 1) := by decide +kernel
theorem dX7_combine_78 : decode cX7_combine 78 = .ok (.getfield 40, 3) := by decide +kernel
theorem dX7_combine_81 : decode cX7_combine 81 = .ok (.iload_n 2, 1) := by decide +kernel
theorem dX7_combine_82 : decode cX7_combine 82 = .ok (.aload_n 0, 1) := by decide +kernel
theorem dX7_combine_83 : decode cX7_combine 83 = .ok (.getfield 43, 3) := by decide +kernel
theorem dX7_combine_86 : decode cX7_combine 86 = .ok (.iload_n 2, 1) := by decide +kernel
theorem dX7_combine_87 : decode cX7_combine 87 = .ok (.baload, 1) := by decide +kernel
theorem dX7_combine_88 : decode cX7_combine 88 = .ok (.ifCond .eq 7, 3) := by decide +kernel
theorem dX7_combine_91 : decode cX7_combine 91 = .ok (.iconst 0, 1) := by decide +kernel
theorem dX7_combine_92 : decode cX7_combine 92 = .ok (.goto 10, 3) := by decide +kernel
theorem dX7_combine_95 : decode cX7_combine 95 = .ok (.iload_n 1, 1) := by decide +kernel
theorem dX7_combine_96 : decode cX7_combine 96 = .ok (.iload_n 3, 1) := by decide +kernel
theorem dX7_combine_97 : decode cX7_combine 97 = .ok (.iload 4, 2) := by decide +kernel
theorem dX7_combine_99 : decode cX7_combine 99 = .ok (.invokestatic 142, 3) := by decide +kernel
theorem dX7_combine_102 : decode cX7_combine 102 = .ok (.iastore, 1) := by decide +kernel
theorem dX7_combine_103 : decode cX7_combine 103 = .ok (.aload_n 0, 1) := by decide +kernel
theorem dX7_combine_104 : decode cX7_combine 104 = .ok (.iload_n 2, 1) := by decide +kernel
theorem dX7_combine_105 : decode cX7_combine 105 = .ok (.iconst 1, 1) := by decide +kernel
theorem dX7_combine_106 : decode cX7_combine 106 = .ok (.iadd, 1) := by decide +kernel
theorem dX7_combine_107 : decode cX7_combine 107 = .ok (.putfield 47, 3) := by decide +kernel
theorem dX7_combine_110 : decode cX7_combine 110 = .ok (.return_, 1) := by decide +kernel
theorem dX7_enter_0 : decode cX7_enter 0 = .ok (.aload_n 0, 1) := by decide +kernel
theorem dX7_enter_1 : decode cX7_enter 1 = .ok (.getfield 37, 3) := by decide +kernel
theorem dX7_enter_4 : decode cX7_enter 4 = .ok (.sipush 1200, 3) := by decide +kernel
theorem dX7_enter_7 : decode cX7_enter 7 = .ok (.if_icmp .ge 196, 3) := by decide +kernel
theorem dX7_enter_10 : decode cX7_enter 10 = .ok (.iload_n 1, 1) := by decide +kernel
theorem dX7_enter_11 : decode cX7_enter 11 = .ok (.bipush 6, 2) := by decide +kernel
theorem dX7_enter_13 : decode cX7_enter 13 = .ok (.idiv, 1) := by decide +kernel
theorem dX7_enter_14 : decode cX7_enter 14 = .ok (.istore_n 2, 1) := by decide +kernel
theorem dX7_enter_15 : decode cX7_enter 15 = .ok (.iload_n 1, 1) := by decide +kernel
theorem dX7_enter_16 : decode cX7_enter 16 = .ok (.bipush 6, 2) := by decide +kernel
theorem dX7_enter_18 : decode cX7_enter 18 = .ok (.irem, 1) := by decide +kernel
theorem dX7_enter_19 : decode cX7_enter 19 = .ok (.istore_n 3, 1) := by decide +kernel
theorem dX7_enter_20 : decode cX7_enter 20 = .ok (.aload_n 0, 1) := by decide +kernel
theorem dX7_enter_21 : decode cX7_enter 21 = .ok (.getfield 50, 3) := by decide +kernel
theorem dX7_enter_24 : decode cX7_enter 24 = .ok (.aload_n 0, 1) := by decide +kernel
theorem dX7_enter_25 : decode cX7_enter 25 = .ok (.getfield 54, 3) := by decide +kernel
theorem dX7_enter_28 : decode cX7_enter 28 = .ok (.getfield 83, 3) := by decide +kernel
theorem dX7_enter_31 : decode cX7_enter 31 = .ok (.iload_n 2, 1) := by decide +kernel
theorem dX7_enter_32 : decode cX7_enter 32 = .ok (.iaload, 1) := by decide +kernel
theorem dX7_enter_33 : decode cX7_enter 33 = .ok (.iconst 0, 1) := by decide +kernel
theorem dX7_enter_34 : decode cX7_enter 34 = .ok (.invokevirtual 88, 3) := by decide +kernel
theorem dX7_enter_37 : decode cX7_enter 37 = .ok (.istore 4, 2) := by decide +kernel
theorem dX7_enter_39 : decode cX7_enter 39 = .ok (.aload_n 0, 1) := by decide +kernel
theorem dX7_enter_40 : decode cX7_enter 40 = .ok (.getfield 50, 3) := by decide +kernel
theorem dX7_enter_43 : decode cX7_enter 43 = .ok (.iload 4, 2) := by decide +kernel
theorem dX7_enter_45 : decode cX7_enter 45 = .ok (.iload_n 3, 1) := by decide +kernel
theorem dX7_enter_46 : decode cX7_enter 46 = .ok (.invokevirtual 94, 3) := by decide +kernel
theorem dX7_enter_49 : decode cX7_enter 49 = .ok (.ifCond .eq 20, 3) := by decide +kernel
theorem dX7_enter_52 : decode cX7_enter 52 = .ok (.aload_n 0, 1) := by decide +kernel
theorem dX7_enter_53 : decode cX7_enter 53 = .ok (.getfield 54, 3) := by decide +kernel
theorem dX7_enter_56 : decode cX7_enter 56 = .ok (.getfield 98, 3) := by decide +kernel
theorem dX7_enter_59 : decode cX7_enter 59 = .ok (.iload_n 2, 1) := by decide +kernel
theorem dX7_enter_60 : decode cX7_enter 60 = .ok (.iaload, 1) := by decide +kernel
theorem dX7_enter_61 : decode cX7_enter 61 = .ok (.iconst (-1), 1) := by decide +kernel
theorem dX7_enter_62 : decode cX7_enter 62 = .ok (.if_icmp .eq 7, 3) := by decide +kernel
theorem dX7_enter_65 : decode cX7_enter 65 = .ok (.iconst 1, 1) := by decide +kernel
theorem dX7_enter_66 : decode cX7_enter 66 = .ok (.goto 4, 3) := by decide +kernel
theorem dX7_enter_69 : decode cX7_enter 69 = .ok (.iconst 0, 1) := by decide +kernel
theorem dX7_enter_70 : decode cX7_enter 70 = .ok (.istore 5, 2) := by decide +kernel
theorem dX7_enter_72 : decode cX7_enter 72 = .ok (.iload 5, 2) := by decide +kernel
theorem dX7_enter_74 : decode cX7_enter 74 = .ok (.ifCond .eq 15, 3) := by decide +kernel
theorem dX7_enter_77 : decode cX7_enter 77 = .ok (.aload_n 0, 1) := by decide +kernel
theorem dX7_enter_78 : decode cX7_enter 78 = .ok (.getfield 54, 3) := by decide +kernel
theorem dX7_enter_81 : decode cX7_enter 81 = .ok (.getfield 98, 3) := by decide +kernel
theorem dX7_enter_84 : decode cX7_enter 84 = .ok (.iload_n 2, 1) := by decide +kernel
theorem dX7_enter_85 : decode cX7_enter 85 = .ok (.iaload, 1) := by decide +kernel
theorem dX7_enter_86 : decode cX7_enter 86 = .ok (.goto 4, 3) := by decide +kernel
theorem dX7_enter_89 : decode cX7_enter 89 = .ok (.iload_n 2, 1) := by decide +kernel
theorem dX7_enter_90 : decode cX7_enter 90 = .ok (.istore 6, 2) := by decide +kernel
theorem dX7_enter_92 : decode cX7_enter 92 = .ok (.iload 5, 2) := by decide +kernel
theorem dX7_enter_94 : decode cX7_enter 94 = .ok (.ifCond .eq 15, 3) := by decide +kernel
theorem dX7_enter_97 : decode cX7_enter 97 = .ok (.aload_n 0, 1) := by decide +kernel
theorem dX7_enter_98 : decode cX7_enter 98 = .ok (.getfield 54, 3) := by decide +kernel
theorem dX7_enter_101 : decode cX7_enter 101 = .ok (.getfield 101, 3) := by decide +kernel
theorem dX7_enter_104 : decode cX7_enter 104 = .ok (.iload_n 2, 1) := by decide +kernel
theorem dX7_enter_105 : decode cX7_enter 105 = .ok (.iaload, 1) := by decide +kernel
theorem dX7_enter_106 : decode cX7_enter 106 = .ok (.goto 4, 3) := by decide +kernel
theorem dX7_enter_109 : decode cX7_enter 109 = .ok (.iconst 0, 1) := by decide +kernel
theorem dX7_enter_110 : decode cX7_enter 110 = .ok (.istore 7, 2) := by decide +kernel
theorem dX7_enter_112 : decode cX7_enter 112 = .ok (.aload_n 0, 1) := by decide +kernel
theorem dX7_enter_113 : decode cX7_enter 113 = .ok (.getfield 54, 3) := by decide +kernel
theorem dX7_enter_116 : decode cX7_enter 116 = .ok (.getfield 83, 3) := by decide +kernel
theorem dX7_enter_119 : decode cX7_enter 119 = .ok (.iload 6, 2) := by decide +kernel
theorem dX7_enter_121 : decode cX7_enter 121 = .ok (.iaload, 1) := by decide +kernel
theorem dX7_enter_122 : decode cX7_enter 122 = .ok (.bipush 24, 2) := by decide +kernel
theorem dX7_enter_124 : decode cX7_enter 124 = .ok (.imul, 1) := by decide +kernel
theorem dX7_enter_125 : decode cX7_enter 125 = .ok (.iload 7, 2) := by decide +kernel
theorem dX7_enter_127 : decode cX7_enter 127 = .ok (.bipush 6, 2) := by decide +kernel
theorem dX7_enter_129 : decode cX7_enter 129 = .ok (.imul, 1) := by decide +kernel
theorem dX7_enter_130 : decode cX7_enter 130 = .ok (.iadd, 1) := by decide +kernel
theorem dX7_enter_131 : decode cX7_enter 131 = .ok (.iload_n 3, 1) := by decide +kernel
theorem dX7_enter_132 : decode cX7_enter 132 = .ok (.iadd, 1) := by decide +kernel
theorem dX7_enter_133 : decode cX7_enter 133 = .ok (.istore 8, 2) := by decide +kernel
theorem dX7_enter_135 : decode cX7_enter 135 = .ok (.aload_n 0, 1) := by decide +kernel
theorem dX7_enter_136 : decode cX7_enter 136 = .ok (.getfield 22, 3) := by decide +kernel
theorem dX7_enter_139 : decode cX7_enter 139 = .ok (.iload_n 1, 1) := by decide +kernel
theorem dX7_enter_140 : decode cX7_enter 140 = .ok (.iconst 1, 1) := by decide +kernel
theorem dX7_enter_141 : decode cX7_enter 141 = .ok (.iastore, 1) := by decide +kernel
theorem dX7_enter_142 : decode cX7_enter 142 = .ok (.aload_n 0, 1) := by decide +kernel
theorem dX7_enter_143 : decode cX7_enter 143 = .ok (.getfield 25, 3) := by decide +kernel
theorem dX7_enter_146 : decode cX7_enter 146 = .ok (.aload_n 0, 1) := by decide +kernel
theorem dX7_enter_147 : decode cX7_enter 147 = .ok (.getfield 37, 3) := by decide +kernel
theorem dX7_enter_150 : decode cX7_enter 150 = .ok (.iload_n 1, 1) := by decide +kernel
theorem dX7_enter_151 : decode cX7_enter 151 = .ok (.iastore, 1) := by decide +kernel
theorem dX7_enter_152 : decode cX7_enter 152 = .ok (.aload_n 0, 1) := by decide +kernel
theorem dX7_enter_153 : decode cX7_enter 153 = .ok (.getfield 28, 3) := by decide +kernel
theorem dX7_enter_156 : decode cX7_enter 156 = .ok (.aload_n 0, 1) := by decide +kernel
theorem dX7_enter_157 : decode cX7_enter 157 = .ok (.getfield 37, 3) := by decide +kernel
theorem dX7_enter_160 : decode cX7_enter 160 = .ok (.iload 6, 2) := by decide +kernel
theorem dX7_enter_162 : decode cX7_enter 162 = .ok (.iastore, 1) := by decide +kernel
theorem dX7_enter_163 : decode cX7_enter 163 = .ok (.aload_n 0, 1) := by decide +kernel
theorem dX7_enter_164 : decode cX7_enter 164 = .ok (.getfield 31, 3) := by decide +kernel
theorem dX7_enter_167 : decode cX7_enter 167 = .ok (.aload_n 0, 1) := by decide +kernel
theorem dX7_enter_168 : decode cX7_enter 168 = .ok (.getfield 37, 3) := by decide +kernel
theorem dX7_enter_171 : decode cX7_enter 171 = .ok (.iload 8, 2) := by decide +kernel
theorem dX7_enter_173 : decode cX7_enter 173 = .ok (.iastore, 1) := by decide +kernel
theorem dX7_enter_174 : decode cX7_enter 174 = .ok (.aload_n 0, 1) := by decide +kernel
theorem dX7_enter_175 : decode cX7_enter 175 = .ok (.getfield 34, 3) := by decide +kernel
theorem dX7_enter_178 : decode cX7_enter 178 = .ok (.aload_n 0, 1) := by decide +kernel
theorem dX7_enter_179 : decode cX7_enter 179 = .ok (.getfield 37, 3) := by decide +kernel
theorem dX7_enter_182 : decode cX7_enter 182 = .ok (.aload_n 0, 1) := by decide +kernel
theorem dX7_enter_183 : decode cX7_enter 183 = .ok (.getfield 50, 3) := by decide +kernel
theorem dX7_enter_186 : decode cX7_enter 186 = .ok (.getfield 104, 3) := by decide +kernel
theorem dX7_enter_189 : decode cX7_enter 189 = .ok (.iload 8, 2) := by decide +kernel
theorem dX7_enter_191 : decode cX7_enter 191 = .ok (.iaload, 1) := by decide +kernel
theorem dX7_enter_192 : decode cX7_enter 192 = .ok (.iastore, 1) := by decide +kernel
theorem dX7_enter_193 : decode cX7_enter 193 = .ok (.aload_n 0, 1) := by decide +kernel
theorem dX7_enter_194 : decode cX7_enter 194 = .ok (.dup, 1) := by decide +kernel
theorem dX7_enter_195 : decode cX7_enter 195 = .ok (.getfield 37, 3) := by decide +kernel
theorem dX7_enter_198 : decode cX7_enter 198 = .ok (.iconst 1, 1) := by decide +kernel
theorem dX7_enter_199 : decode cX7_enter 199 = .ok (.iadd, 1) := by decide +kernel
theorem dX7_enter_200 : decode cX7_enter 200 = .ok (.putfield 37, 3) := by decide +kernel
theorem dX7_enter_203 : decode cX7_enter 203 = .ok (.return_, 1) := by decide +kernel
theorem dX7_evaluate_0 : decode cX7_evaluate 0 = .ok (.aload_n 0, 1) := by decide +kernel
theorem dX7_evaluate_1 : decode cX7_evaluate 1 = .ok (.iconst 0, 1) := by decide +kernel
theorem dX7_evaluate_2 : decode cX7_evaluate 2 = .ok (.putfield 47, 3) := by decide +kernel
theorem dX7_evaluate_5 : decode cX7_evaluate 5 = .ok (.aload_n 0, 1) := by decide +kernel
theorem dX7_evaluate_6 : decode cX7_evaluate 6 = .ok (.getfield 50, 3) := by decide +kernel
theorem dX7_evaluate_9 : decode cX7_evaluate 9 = .ok (.getfield 104, 3) := by decide +kernel
theorem dX7_evaluate_12 : decode cX7_evaluate 12 = .ok (.iload_n 2, 1) := by decide +kernel
theorem dX7_evaluate_13 : decode cX7_evaluate 13 = .ok (.iaload, 1) := by decide +kernel
theorem dX7_evaluate_14 : decode cX7_evaluate 14 = .ok (.istore_n 3, 1) := by decide +kernel
theorem dX7_evaluate_15 : decode cX7_evaluate 15 = .ok (.iload_n 3, 1) := by decide +kernel
theorem dX7_evaluate_16 : decode cX7_evaluate 16 = .ok (.aload_n 0, 1) := by decide +kernel
theorem dX7_evaluate_17 : decode cX7_evaluate 17 = .ok (.getfield 50, 3) := by decide +kernel
theorem dX7_evaluate_20 : decode cX7_evaluate 20 = .ok (.getfield 111, 3) := by decide +kernel
theorem dX7_evaluate_23 : decode cX7_evaluate 23 = .ok (.iload_n 2, 1) := by decide +kernel
theorem dX7_evaluate_24 : decode cX7_evaluate 24 = .ok (.iaload, 1) := by decide +kernel
theorem dX7_evaluate_25 : decode cX7_evaluate 25 = .ok (.if_icmp .ge 146, 3) := by decide +kernel
theorem dX7_evaluate_28 : decode cX7_evaluate 28 = .ok (.aload_n 0, 1) := by decide +kernel
theorem dX7_evaluate_29 : decode cX7_evaluate 29 = .ok (.getfield 50, 3) := by decide +kernel
theorem dX7_evaluate_32 : decode cX7_evaluate 32 = .ok (.getfield 114, 3) := by decide +kernel
theorem dX7_evaluate_35 : decode cX7_evaluate 35 = .ok (.iload_n 3, 1) := by decide +kernel
theorem dX7_evaluate_36 : decode cX7_evaluate 36 = .ok (.iaload, 1) := by decide +kernel
theorem dX7_evaluate_37 : decode cX7_evaluate 37 = .ok (.lookupswitch 115 #[(2, 35), (8, 52), (46, 69)], 35) := by decide +kernel
theorem dX7_evaluate_72 : decode cX7_evaluate 72 = .ok (.aload_n 0, 1) := by decide +kernel
theorem dX7_evaluate_73 : decode cX7_evaluate 73 = .ok (.aload_n 0, 1) := by decide +kernel
theorem dX7_evaluate_74 : decode cX7_evaluate 74 = .ok (.getfield 50, 3) := by decide +kernel
theorem dX7_evaluate_77 : decode cX7_evaluate 77 = .ok (.getfield 117, 3) := by decide +kernel
theorem dX7_evaluate_80 : decode cX7_evaluate 80 = .ok (.iload_n 3, 1) := by decide +kernel
theorem dX7_evaluate_81 : decode cX7_evaluate 81 = .ok (.iaload, 1) := by decide +kernel
theorem dX7_evaluate_82 : decode cX7_evaluate 82 = .ok (.iconst 0, 1) := by decide +kernel
theorem dX7_evaluate_83 : decode cX7_evaluate 83 = .ok (.invokevirtual 126, 3) := by decide +kernel
theorem dX7_evaluate_86 : decode cX7_evaluate 86 = .ok (.goto 79, 3) := by decide +kernel
theorem dX7_evaluate_89 : decode cX7_evaluate 89 = .ok (.aload_n 0, 1) := by decide +kernel
theorem dX7_evaluate_90 : decode cX7_evaluate 90 = .ok (.aload_n 0, 1) := by decide +kernel
theorem dX7_evaluate_91 : decode cX7_evaluate 91 = .ok (.getfield 54, 3) := by decide +kernel
theorem dX7_evaluate_94 : decode cX7_evaluate 94 = .ok (.getfield 130, 3) := by decide +kernel
theorem dX7_evaluate_97 : decode cX7_evaluate 97 = .ok (.iload_n 1, 1) := by decide +kernel
theorem dX7_evaluate_98 : decode cX7_evaluate 98 = .ok (.iaload, 1) := by decide +kernel
theorem dX7_evaluate_99 : decode cX7_evaluate 99 = .ok (.iconst 0, 1) := by decide +kernel
theorem dX7_evaluate_100 : decode cX7_evaluate 100 = .ok (.invokevirtual 126, 3) := by decide +kernel
theorem dX7_evaluate_103 : decode cX7_evaluate 103 = .ok (.goto 62, 3) := by decide +kernel
theorem dX7_evaluate_106 : decode cX7_evaluate 106 = .ok (.aload_n 0, 1) := by decide +kernel
theorem dX7_evaluate_107 : decode cX7_evaluate 107 = .ok (.iload_n 1, 1) := by decide +kernel
theorem dX7_evaluate_108 : decode cX7_evaluate 108 = .ok (.aload_n 0, 1) := by decide +kernel
theorem dX7_evaluate_109 : decode cX7_evaluate 109 = .ok (.getfield 50, 3) := by decide +kernel
theorem dX7_evaluate_112 : decode cX7_evaluate 112 = .ok (.getfield 117, 3) := by decide +kernel
theorem dX7_evaluate_115 : decode cX7_evaluate 115 = .ok (.iload_n 3, 1) := by decide +kernel
theorem dX7_evaluate_116 : decode cX7_evaluate 116 = .ok (.iaload, 1) := by decide +kernel
theorem dX7_evaluate_117 : decode cX7_evaluate 117 = .ok (.invokevirtual 120, 3) := by decide +kernel
theorem dX7_evaluate_120 : decode cX7_evaluate 120 = .ok (.istore 4, 2) := by decide +kernel
theorem dX7_evaluate_122 : decode cX7_evaluate 122 = .ok (.aload_n 0, 1) := by decide +kernel
theorem dX7_evaluate_123 : decode cX7_evaluate 123 = .ok (.aload_n 0, 1) := by decide +kernel
theorem dX7_evaluate_124 : decode cX7_evaluate 124 = .ok (.getfield 9, 3) := by decide +kernel
theorem dX7_evaluate_127 : decode cX7_evaluate 127 = .ok (.iload 4, 2) := by decide +kernel
theorem dX7_evaluate_129 : decode cX7_evaluate 129 = .ok (.iaload, 1) := by decide +kernel
theorem dX7_evaluate_130 : decode cX7_evaluate 130 = .ok (.aload_n 0, 1) := by decide +kernel
theorem dX7_evaluate_131 : decode cX7_evaluate 131 = .ok (.getfield 22, 3) := by decide +kernel
theorem dX7_evaluate_134 : decode cX7_evaluate 134 = .ok (.iload 4, 2) := by decide +kernel
theorem dX7_evaluate_136 : decode cX7_evaluate 136 = .ok (.iaload, 1) := by decide +kernel
theorem dX7_evaluate_137 : decode cX7_evaluate 137 = .ok (.iconst 3, 1) := by decide +kernel
theorem dX7_evaluate_138 : decode cX7_evaluate 138 = .ok (.if_icmp .ne 7, 3) := by decide +kernel
theorem dX7_evaluate_141 : decode cX7_evaluate 141 = .ok (.iconst 1, 1) := by decide +kernel
theorem dX7_evaluate_142 : decode cX7_evaluate 142 = .ok (.goto 4, 3) := by decide +kernel
theorem dX7_evaluate_145 : decode cX7_evaluate 145 = .ok (.iconst 0, 1) := by decide +kernel
theorem dX7_evaluate_146 : decode cX7_evaluate 146 = .ok (.invokevirtual 126, 3) := by decide +kernel
theorem dX7_evaluate_149 : decode cX7_evaluate 149 = .ok (.goto 16, 3) := by decide +kernel
theorem dX7_evaluate_152 : decode cX7_evaluate 152 = .ok (.aload_n 0, 1) := by decide +kernel
theorem dX7_evaluate_153 : decode cX7_evaluate 153 = .ok (.aload_n 0, 1) := by decide +kernel
theorem dX7_evaluate_154 : decode cX7_evaluate 154 = .ok (.getfield 50, 3) := by decide +kernel
theorem dX7_evaluate_157 : decode cX7_evaluate 157 = .ok (.getfield 114, 3) := by decide +kernel
theorem dX7_evaluate_160 : decode cX7_evaluate 160 = .ok (.iload_n 3, 1) := by decide +kernel
theorem dX7_evaluate_161 : decode cX7_evaluate 161 = .ok (.iaload, 1) := by decide +kernel
theorem dX7_evaluate_162 : decode cX7_evaluate 162 = .ok (.invokevirtual 133, 3) := by decide +kernel
theorem dX7_evaluate_165 : decode cX7_evaluate 165 = .ok (.iinc 3 1, 3) := by decide +kernel
theorem dX7_evaluate_168 : decode cX7_evaluate 168 = .ok (.goto (-153), 3) := by decide +kernel
theorem dX7_evaluate_171 : decode cX7_evaluate 171 = .ok (.return_, 1) := by decide +kernel
theorem dX7_forget_0 : decode cX7_forget 0 = .ok (.iconst 0, 1) := by decide +kernel
theorem dX7_forget_1 : decode cX7_forget 1 = .ok (.istore_n 1, 1) := by decide +kernel
theorem dX7_forget_2 : decode cX7_forget 2 = .ok (.iload_n 1, 1) := by decide +kernel
theorem dX7_forget_3 : decode cX7_forget 3 = .ok (.aload_n 0, 1) := by decide +kernel
theorem dX7_forget_4 : decode cX7_forget 4 = .ok (.getfield 18, 3) := by decide +kernel
theorem dX7_forget_7 : decode cX7_forget 7 = .ok (.if_icmp .ge 33, 3) := by decide +kernel
theorem dX7_forget_10 : decode cX7_forget 10 = .ok (.aload_n 0, 1) := by decide +kernel
theorem dX7_forget_11 : decode cX7_forget 11 = .ok (.getfield 22, 3) := by decide +kernel
theorem dX7_forget_14 : decode cX7_forget 14 = .ok (.aload_n 0, 1) := by decide +kernel
theorem dX7_forget_15 : decode cX7_forget 15 = .ok (.getfield 15, 3) := by decide +kernel
theorem dX7_forget_18 : decode cX7_forget 18 = .ok (.iload_n 1, 1) := by decide +kernel
theorem dX7_forget_19 : decode cX7_forget 19 = .ok (.iaload, 1) := by decide +kernel
theorem dX7_forget_20 : decode cX7_forget 20 = .ok (.iconst 0, 1) := by decide +kernel
theorem dX7_forget_21 : decode cX7_forget 21 = .ok (.iastore, 1) := by decide +kernel
theorem dX7_forget_22 : decode cX7_forget 22 = .ok (.aload_n 0, 1) := by decide +kernel
theorem dX7_forget_23 : decode cX7_forget 23 = .ok (.getfield 9, 3) := by decide +kernel
theorem dX7_forget_26 : decode cX7_forget 26 = .ok (.aload_n 0, 1) := by decide +kernel
theorem dX7_forget_27 : decode cX7_forget 27 = .ok (.getfield 15, 3) := by decide +kernel
theorem dX7_forget_30 : decode cX7_forget 30 = .ok (.iload_n 1, 1) := by decide +kernel
theorem dX7_forget_31 : decode cX7_forget 31 = .ok (.iaload, 1) := by decide +kernel
theorem dX7_forget_32 : decode cX7_forget 32 = .ok (.iconst 0, 1) := by decide +kernel
theorem dX7_forget_33 : decode cX7_forget 33 = .ok (.iastore, 1) := by decide +kernel
theorem dX7_forget_34 : decode cX7_forget 34 = .ok (.iinc 1 1, 3) := by decide +kernel
theorem dX7_forget_37 : decode cX7_forget 37 = .ok (.goto (-35), 3) := by decide +kernel
theorem dX7_forget_40 : decode cX7_forget 40 = .ok (.aload_n 0, 1) := by decide +kernel
theorem dX7_forget_41 : decode cX7_forget 41 = .ok (.iconst 0, 1) := by decide +kernel
theorem dX7_forget_42 : decode cX7_forget 42 = .ok (.putfield 18, 3) := by decide +kernel
theorem dX7_forget_45 : decode cX7_forget 45 = .ok (.return_, 1) := by decide +kernel
theorem dX7_giveUp_0 : decode cX7_giveUp 0 = .ok (.iconst 0, 1) := by decide +kernel
theorem dX7_giveUp_1 : decode cX7_giveUp 1 = .ok (.istore_n 1, 1) := by decide +kernel
theorem dX7_giveUp_2 : decode cX7_giveUp 2 = .ok (.iload_n 1, 1) := by decide +kernel
theorem dX7_giveUp_3 : decode cX7_giveUp 3 = .ok (.aload_n 0, 1) := by decide +kernel
theorem dX7_giveUp_4 : decode cX7_giveUp 4 = .ok (.getfield 37, 3) := by decide +kernel
theorem dX7_giveUp_7 : decode cX7_giveUp 7 = .ok (.if_icmp .ge 21, 3) := by decide +kernel
theorem dX7_giveUp_10 : decode cX7_giveUp 10 = .ok (.aload_n 0, 1) := by decide +kernel
theorem dX7_giveUp_11 : decode cX7_giveUp 11 = .ok (.getfield 22, 3) := by decide +kernel
theorem dX7_giveUp_14 : decode cX7_giveUp 14 = .ok (.aload_n 0, 1) := by decide +kernel
theorem dX7_giveUp_15 : decode cX7_giveUp 15 = .ok (.getfield 25, 3) := by decide +kernel
theorem dX7_giveUp_18 : decode cX7_giveUp 18 = .ok (.iload_n 1, 1) := by decide +kernel
theorem dX7_giveUp_19 : decode cX7_giveUp 19 = .ok (.iaload, 1) := by decide +kernel
theorem dX7_giveUp_20 : decode cX7_giveUp 20 = .ok (.iconst 0, 1) := by decide +kernel
theorem dX7_giveUp_21 : decode cX7_giveUp 21 = .ok (.iastore, 1) := by decide +kernel
theorem dX7_giveUp_22 : decode cX7_giveUp 22 = .ok (.iinc 1 1, 3) := by decide +kernel
theorem dX7_giveUp_25 : decode cX7_giveUp 25 = .ok (.goto (-23), 3) := by decide +kernel
theorem dX7_giveUp_28 : decode cX7_giveUp 28 = .ok (.aload_n 0, 1) := by decide +kernel
theorem dX7_giveUp_29 : decode cX7_giveUp 29 = .ok (.iconst 0, 1) := by decide +kernel
theorem dX7_giveUp_30 : decode cX7_giveUp 30 = .ok (.putfield 37, 3) := by decide +kernel
theorem dX7_giveUp_33 : decode cX7_giveUp 33 = .ok (.return_, 1) := by decide +kernel
theorem dX7_init_0 : decode cX7_init 0 = .ok (.aload_n 0, 1) := by decide +kernel
theorem dX7_init_1 : decode cX7_init 1 = .ok (.invokespecial 3, 3) := by decide +kernel
theorem dX7_init_4 : decode cX7_init 4 = .ok (.aload_n 0, 1) := by decide +kernel
theorem dX7_init_5 : decode cX7_init 5 = .ok (.sipush 1200, 3) := by decide +kernel
theorem dX7_init_8 : decode cX7_init 8 = .ok (.newarray .int, 2) := by decide +kernel
theorem dX7_init_10 : decode cX7_init 10 = .ok (.putfield 9, 3) := by decide +kernel
theorem dX7_init_13 : decode cX7_init 13 = .ok (.aload_n 0, 1) := by decide +kernel
theorem dX7_init_14 : decode cX7_init 14 = .ok (.sipush 1200, 3) := by decide +kernel
theorem dX7_init_17 : decode cX7_init 17 = .ok (.newarray .int, 2) := by decide +kernel
theorem dX7_init_19 : decode cX7_init 19 = .ok (.putfield 15, 3) := by decide +kernel
theorem dX7_init_22 : decode cX7_init 22 = .ok (.aload_n 0, 1) := by decide +kernel
theorem dX7_init_23 : decode cX7_init 23 = .ok (.iconst 0, 1) := by decide +kernel
theorem dX7_init_24 : decode cX7_init 24 = .ok (.putfield 18, 3) := by decide +kernel
theorem dX7_init_27 : decode cX7_init 27 = .ok (.aload_n 0, 1) := by decide +kernel
theorem dX7_init_28 : decode cX7_init 28 = .ok (.sipush 1200, 3) := by decide +kernel
theorem dX7_init_31 : decode cX7_init 31 = .ok (.newarray .int, 2) := by decide +kernel
theorem dX7_init_33 : decode cX7_init 33 = .ok (.putfield 22, 3) := by decide +kernel
theorem dX7_init_36 : decode cX7_init 36 = .ok (.aload_n 0, 1) := by decide +kernel
theorem dX7_init_37 : decode cX7_init 37 = .ok (.sipush 1200, 3) := by decide +kernel
theorem dX7_init_40 : decode cX7_init 40 = .ok (.newarray .int, 2) := by decide +kernel
theorem dX7_init_42 : decode cX7_init 42 = .ok (.putfield 25, 3) := by decide +kernel
theorem dX7_init_45 : decode cX7_init 45 = .ok (.aload_n 0, 1) := by decide +kernel
theorem dX7_init_46 : decode cX7_init 46 = .ok (.sipush 1200, 3) := by decide +kernel
theorem dX7_init_49 : decode cX7_init 49 = .ok (.newarray .int, 2) := by decide +kernel
theorem dX7_init_51 : decode cX7_init 51 = .ok (.putfield 28, 3) := by decide +kernel
theorem dX7_init_54 : decode cX7_init 54 = .ok (.aload_n 0, 1) := by decide +kernel
theorem dX7_init_55 : decode cX7_init 55 = .ok (.sipush 1200, 3) := by decide +kernel
theorem dX7_init_58 : decode cX7_init 58 = .ok (.newarray .int, 2) := by decide +kernel
theorem dX7_init_60 : decode cX7_init 60 = .ok (.putfield 31, 3) := by decide +kernel
theorem dX7_init_63 : decode cX7_init 63 = .ok (.aload_n 0, 1) := by decide +kernel
theorem dX7_init_64 : decode cX7_init 64 = .ok (.sipush 1200, 3) := by decide +kernel
theorem dX7_init_67 : decode cX7_init 67 = .ok (.newarray .int, 2) := by decide +kernel
theorem dX7_init_69 : decode cX7_init 69 = .ok (.putfield 34, 3) := by decide +kernel
theorem dX7_init_72 : decode cX7_init 72 = .ok (.aload_n 0, 1) := by decide +kernel
theorem dX7_init_73 : decode cX7_init 73 = .ok (.iconst 0, 1) := by decide +kernel
theorem dX7_init_74 : decode cX7_init 74 = .ok (.putfield 37, 3) := by decide +kernel
theorem dX7_init_77 : decode cX7_init 77 = .ok (.aload_n 0, 1) := by decide +kernel
theorem dX7_init_78 : decode cX7_init 78 = .ok (.bipush 40, 2) := by decide +kernel
theorem dX7_init_80 : decode cX7_init 80 = .ok (.newarray .int, 2) := by decide +kernel
theorem dX7_init_82 : decode cX7_init 82 = .ok (.putfield 40, 3) := by decide +kernel
theorem dX7_init_85 : decode cX7_init 85 = .ok (.aload_n 0, 1) := by decide +kernel
theorem dX7_init_86 : decode cX7_init 86 = .ok (.bipush 40, 2) := by decide +kernel
theorem dX7_init_88 : decode cX7_init 88 = .ok (.newarray .boolean, 2) := by decide +kernel
theorem dX7_init_90 : decode cX7_init 90 = .ok (.putfield 43, 3) := by decide +kernel
theorem dX7_init_93 : decode cX7_init 93 = .ok (.aload_n 0, 1) := by decide +kernel
theorem dX7_init_94 : decode cX7_init 94 = .ok (.iconst 0, 1) := by decide +kernel
theorem dX7_init_95 : decode cX7_init 95 = .ok (.putfield 47, 3) := by decide +kernel
theorem dX7_init_98 : decode cX7_init 98 = .ok (.aload_n 0, 1) := by decide +kernel
theorem dX7_init_99 : decode cX7_init 99 = .ok (.aload_n 1, 1) := by decide +kernel
theorem dX7_init_100 : decode cX7_init 100 = .ok (.putfield 50, 3) := by decide +kernel
theorem dX7_init_103 : decode cX7_init 103 = .ok (.aload_n 0, 1) := by decide +kernel
theorem dX7_init_104 : decode cX7_init 104 = .ok (.aload_n 2, 1) := by decide +kernel
theorem dX7_init_105 : decode cX7_init 105 = .ok (.putfield 54, 3) := by decide +kernel
theorem dX7_init_108 : decode cX7_init 108 = .ok (.return_, 1) := by decide +kernel
theorem dX7_isOpen_0 : decode cX7_isOpen 0 = .ok (.aload_n 0, 1) := by decide +kernel
theorem dX7_isOpen_1 : decode cX7_isOpen 1 = .ok (.getfield 22, 3) := by decide +kernel
theorem dX7_isOpen_4 : decode cX7_isOpen 4 = .ok (.iload_n 1, 1) := by decide +kernel
theorem dX7_isOpen_5 : decode cX7_isOpen 5 = .ok (.iaload, 1) := by decide +kernel
theorem dX7_isOpen_6 : decode cX7_isOpen 6 = .ok (.ifCond .eq 13, 3) := by decide +kernel
theorem dX7_isOpen_9 : decode cX7_isOpen 9 = .ok (.aload_n 0, 1) := by decide +kernel
theorem dX7_isOpen_10 : decode cX7_isOpen 10 = .ok (.getfield 22, 3) := by decide +kernel
theorem dX7_isOpen_13 : decode cX7_isOpen 13 = .ok (.iload_n 1, 1) := by decide +kernel
theorem dX7_isOpen_14 : decode cX7_isOpen 14 = .ok (.iaload, 1) := by decide +kernel
theorem dX7_isOpen_15 : decode cX7_isOpen 15 = .ok (.iconst 1, 1) := by decide +kernel
theorem dX7_isOpen_16 : decode cX7_isOpen 16 = .ok (.if_icmp .ne 7, 3) := by decide +kernel
theorem dX7_isOpen_19 : decode cX7_isOpen 19 = .ok (.iconst 1, 1) := by decide +kernel
theorem dX7_isOpen_20 : decode cX7_isOpen 20 = .ok (.goto 4, 3) := by decide +kernel
theorem dX7_isOpen_23 : decode cX7_isOpen 23 = .ok (.iconst 0, 1) := by decide +kernel
theorem dX7_isOpen_24 : decode cX7_isOpen 24 = .ok (.ireturn, 1) := by decide +kernel
theorem dX7_itemAt_0 : decode cX7_itemAt 0 = .ok (.aload_n 0, 1) := by decide +kernel
theorem dX7_itemAt_1 : decode cX7_itemAt 1 = .ok (.getfield 54, 3) := by decide +kernel
theorem dX7_itemAt_4 : decode cX7_itemAt 4 = .ok (.iload_n 1, 1) := by decide +kernel
theorem dX7_itemAt_5 : decode cX7_itemAt 5 = .ok (.iload_n 2, 1) := by decide +kernel
theorem dX7_itemAt_6 : decode cX7_itemAt 6 = .ok (.bipush 6, 2) := by decide +kernel
theorem dX7_itemAt_8 : decode cX7_itemAt 8 = .ok (.idiv, 1) := by decide +kernel
theorem dX7_itemAt_9 : decode cX7_itemAt 9 = .ok (.invokevirtual 123, 3) := by decide +kernel
theorem dX7_itemAt_12 : decode cX7_itemAt 12 = .ok (.bipush 6, 2) := by decide +kernel
theorem dX7_itemAt_14 : decode cX7_itemAt 14 = .ok (.imul, 1) := by decide +kernel
theorem dX7_itemAt_15 : decode cX7_itemAt 15 = .ok (.iload_n 2, 1) := by decide +kernel
theorem dX7_itemAt_16 : decode cX7_itemAt 16 = .ok (.bipush 6, 2) := by decide +kernel
theorem dX7_itemAt_18 : decode cX7_itemAt 18 = .ok (.irem, 1) := by decide +kernel
theorem dX7_itemAt_19 : decode cX7_itemAt 19 = .ok (.iadd, 1) := by decide +kernel
theorem dX7_itemAt_20 : decode cX7_itemAt 20 = .ok (.ireturn, 1) := by decide +kernel
theorem dX7_leave_0 : decode cX7_leave 0 = .ok (.aload_n 0, 1) := by decide +kernel
theorem dX7_leave_1 : decode cX7_leave 1 = .ok (.dup, 1) := by decide +kernel
theorem dX7_leave_2 : decode cX7_leave 2 = .ok (.getfield 37, 3) := by decide +kernel
theorem dX7_leave_5 : decode cX7_leave 5 = .ok (.iconst 1, 1) := by decide +kernel
theorem dX7_leave_6 : decode cX7_leave 6 = .ok (.isub, 1) := by decide +kernel
theorem dX7_leave_7 : decode cX7_leave 7 = .ok (.putfield 37, 3) := by decide +kernel
theorem dX7_leave_10 : decode cX7_leave 10 = .ok (.aload_n 0, 1) := by decide +kernel
theorem dX7_leave_11 : decode cX7_leave 11 = .ok (.getfield 25, 3) := by decide +kernel
theorem dX7_leave_14 : decode cX7_leave 14 = .ok (.aload_n 0, 1) := by decide +kernel
theorem dX7_leave_15 : decode cX7_leave 15 = .ok (.getfield 37, 3) := by decide +kernel
theorem dX7_leave_18 : decode cX7_leave 18 = .ok (.iaload, 1) := by decide +kernel
theorem dX7_leave_19 : decode cX7_leave 19 = .ok (.istore_n 1, 1) := by decide +kernel
theorem dX7_leave_20 : decode cX7_leave 20 = .ok (.aload_n 0, 1) := by decide +kernel
theorem dX7_leave_21 : decode cX7_leave 21 = .ok (.aload_n 0, 1) := by decide +kernel
theorem dX7_leave_22 : decode cX7_leave 22 = .ok (.getfield 28, 3) := by decide +kernel
theorem dX7_leave_25 : decode cX7_leave 25 = .ok (.aload_n 0, 1) := by decide +kernel
theorem dX7_leave_26 : decode cX7_leave 26 = .ok (.getfield 37, 3) := by decide +kernel
theorem dX7_leave_29 : decode cX7_leave 29 = .ok (.iaload, 1) := by decide +kernel
theorem dX7_leave_30 : decode cX7_leave 30 = .ok (.aload_n 0, 1) := by decide +kernel
theorem dX7_leave_31 : decode cX7_leave 31 = .ok (.getfield 31, 3) := by decide +kernel
theorem dX7_leave_34 : decode cX7_leave 34 = .ok (.aload_n 0, 1) := by decide +kernel
theorem dX7_leave_35 : decode cX7_leave 35 = .ok (.getfield 37, 3) := by decide +kernel
theorem dX7_leave_38 : decode cX7_leave 38 = .ok (.iaload, 1) := by decide +kernel
theorem dX7_leave_39 : decode cX7_leave 39 = .ok (.invokevirtual 107, 3) := by decide +kernel
theorem dX7_leave_42 : decode cX7_leave 42 = .ok (.aload_n 0, 1) := by decide +kernel
theorem dX7_leave_43 : decode cX7_leave 43 = .ok (.getfield 22, 3) := by decide +kernel
theorem dX7_leave_46 : decode cX7_leave 46 = .ok (.iload_n 1, 1) := by decide +kernel
theorem dX7_leave_47 : decode cX7_leave 47 = .ok (.aload_n 0, 1) := by decide +kernel
theorem dX7_leave_48 : decode cX7_leave 48 = .ok (.getfield 43, 3) := by decide +kernel
theorem dX7_leave_51 : decode cX7_leave 51 = .ok (.iconst 0, 1) := by decide +kernel
theorem dX7_leave_52 : decode cX7_leave 52 = .ok (.baload, 1) := by decide +kernel
theorem dX7_leave_53 : decode cX7_leave 53 = .ok (.ifCond .eq 7, 3) := by decide +kernel
theorem dX7_leave_56 : decode cX7_leave 56 = .ok (.iconst 3, 1) := by decide +kernel
theorem dX7_leave_57 : decode cX7_leave 57 = .ok (.goto 4, 3) := by decide +kernel
theorem dX7_leave_60 : decode cX7_leave 60 = .ok (.iconst 2, 1) := by decide +kernel
theorem dX7_leave_61 : decode cX7_leave 61 = .ok (.iastore, 1) := by decide +kernel
theorem dX7_leave_62 : decode cX7_leave 62 = .ok (.aload_n 0, 1) := by decide +kernel
theorem dX7_leave_63 : decode cX7_leave 63 = .ok (.getfield 9, 3) := by decide +kernel
theorem dX7_leave_66 : decode cX7_leave 66 = .ok (.iload_n 1, 1) := by decide +kernel
theorem dX7_leave_67 : decode cX7_leave 67 = .ok (.aload_n 0, 1) := by decide +kernel
theorem dX7_leave_68 : decode cX7_leave 68 = .ok (.getfield 43, 3) := by decide +kernel
theorem dX7_leave_71 : decode cX7_leave 71 = .ok (.iconst 0, 1) := by decide +kernel
theorem dX7_leave_72 : decode cX7_leave 72 = .ok (.baload, 1) := by decide +kernel
theorem dX7_leave_73 : decode cX7_leave 73 = .ok (.ifCond .eq 7, 3) := by decide +kernel
theorem dX7_leave_76 : decode cX7_leave 76 = .ok (.iconst 0, 1) := by decide +kernel
theorem dX7_leave_77 : decode cX7_leave 77 = .ok (.goto 9, 3) := by decide +kernel
theorem dX7_leave_80 : decode cX7_leave 80 = .ok (.aload_n 0, 1) := by decide +kernel
theorem dX7_leave_81 : decode cX7_leave 81 = .ok (.getfield 40, 3) := by decide +kernel
theorem dX7_leave_84 : decode cX7_leave 84 = .ok (.iconst 0, 1) := by decide +kernel
theorem dX7_leave_85 : decode cX7_leave 85 = .ok (.iaload, 1) := by decide +kernel
theorem dX7_leave_86 : decode cX7_leave 86 = .ok (.iastore, 1) := by decide +kernel
theorem dX7_leave_87 : decode cX7_leave 87 = .ok (.aload_n 0, 1) := by decide +kernel
theorem dX7_leave_88 : decode cX7_leave 88 = .ok (.getfield 18, 3) := by decide +kernel
theorem dX7_leave_91 : decode cX7_leave 91 = .ok (.sipush 1200, 3) := by decide +kernel
theorem dX7_leave_94 : decode cX7_leave 94 = .ok (.if_icmp .ge 23, 3) := by decide +kernel
theorem dX7_leave_97 : decode cX7_leave 97 = .ok (.aload_n 0, 1) := by decide +kernel
theorem dX7_leave_98 : decode cX7_leave 98 = .ok (.getfield 15, 3) := by decide +kernel
theorem dX7_leave_101 : decode cX7_leave 101 = .ok (.aload_n 0, 1) := by decide +kernel
theorem dX7_leave_102 : decode cX7_leave 102 = .ok (.getfield 18, 3) := by decide +kernel
theorem dX7_leave_105 : decode cX7_leave 105 = .ok (.iload_n 1, 1) := by decide +kernel
theorem dX7_leave_106 : decode cX7_leave 106 = .ok (.iastore, 1) := by decide +kernel
theorem dX7_leave_107 : decode cX7_leave 107 = .ok (.aload_n 0, 1) := by decide +kernel
theorem dX7_leave_108 : decode cX7_leave 108 = .ok (.dup, 1) := by decide +kernel
theorem dX7_leave_109 : decode cX7_leave 109 = .ok (.getfield 18, 3) := by decide +kernel
theorem dX7_leave_112 : decode cX7_leave 112 = .ok (.iconst 1, 1) := by decide +kernel
theorem dX7_leave_113 : decode cX7_leave 113 = .ok (.iadd, 1) := by decide +kernel
theorem dX7_leave_114 : decode cX7_leave 114 = .ok (.putfield 18, 3) := by decide +kernel
theorem dX7_leave_117 : decode cX7_leave 117 = .ok (.return_, 1) := by decide +kernel
theorem dX7_nextOpen_0 : decode cX7_nextOpen 0 = .ok (.aload_n 0, 1) := by decide +kernel
theorem dX7_nextOpen_1 : decode cX7_nextOpen 1 = .ok (.getfield 37, 3) := by decide +kernel
theorem dX7_nextOpen_4 : decode cX7_nextOpen 4 = .ok (.iconst 1, 1) := by decide +kernel
theorem dX7_nextOpen_5 : decode cX7_nextOpen 5 = .ok (.isub, 1) := by decide +kernel
theorem dX7_nextOpen_6 : decode cX7_nextOpen 6 = .ok (.istore_n 1, 1) := by decide +kernel
theorem dX7_nextOpen_7 : decode cX7_nextOpen 7 = .ok (.aload_n 0, 1) := by decide +kernel
theorem dX7_nextOpen_8 : decode cX7_nextOpen 8 = .ok (.getfield 50, 3) := by decide +kernel
theorem dX7_nextOpen_11 : decode cX7_nextOpen 11 = .ok (.getfield 111, 3) := by decide +kernel
theorem dX7_nextOpen_14 : decode cX7_nextOpen 14 = .ok (.aload_n 0, 1) := by decide +kernel
theorem dX7_nextOpen_15 : decode cX7_nextOpen 15 = .ok (.getfield 31, 3) := by decide +kernel
theorem dX7_nextOpen_18 : decode cX7_nextOpen 18 = .ok (.iload_n 1, 1) := by decide +kernel
theorem dX7_nextOpen_19 : decode cX7_nextOpen 19 = .ok (.iaload, 1) := by decide +kernel
theorem dX7_nextOpen_20 : decode cX7_nextOpen 20 = .ok (.iaload, 1) := by decide +kernel
theorem dX7_nextOpen_21 : decode cX7_nextOpen 21 = .ok (.istore_n 2, 1) := by decide +kernel
theorem dX7_nextOpen_22 : decode cX7_nextOpen 22 = .ok (.aload_n 0, 1) := by decide +kernel
theorem dX7_nextOpen_23 : decode cX7_nextOpen 23 = .ok (.getfield 34, 3) := by decide +kernel
theorem dX7_nextOpen_26 : decode cX7_nextOpen 26 = .ok (.iload_n 1, 1) := by decide +kernel
theorem dX7_nextOpen_27 : decode cX7_nextOpen 27 = .ok (.iaload, 1) := by decide +kernel
theorem dX7_nextOpen_28 : decode cX7_nextOpen 28 = .ok (.istore_n 3, 1) := by decide +kernel
theorem dX7_nextOpen_29 : decode cX7_nextOpen 29 = .ok (.iload_n 3, 1) := by decide +kernel
theorem dX7_nextOpen_30 : decode cX7_nextOpen 30 = .ok (.iload_n 2, 1) := by decide +kernel
theorem dX7_nextOpen_31 : decode cX7_nextOpen 31 = .ok (.if_icmp .ge 63, 3) := by decide +kernel
theorem dX7_nextOpen_34 : decode cX7_nextOpen 34 = .ok (.aload_n 0, 1) := by decide +kernel
theorem dX7_nextOpen_35 : decode cX7_nextOpen 35 = .ok (.getfield 50, 3) := by decide +kernel
theorem dX7_nextOpen_38 : decode cX7_nextOpen 38 = .ok (.getfield 114, 3) := by decide +kernel
theorem dX7_nextOpen_41 : decode cX7_nextOpen 41 = .ok (.iload_n 3, 1) := by decide +kernel
theorem dX7_nextOpen_42 : decode cX7_nextOpen 42 = .ok (.iaload, 1) := by decide +kernel
theorem dX7_nextOpen_43 : decode cX7_nextOpen 43 = .ok (.bipush 46, 2) := by decide +kernel
theorem dX7_nextOpen_45 : decode cX7_nextOpen 45 = .ok (.if_icmp .ne 43, 3) := by decide +kernel
theorem dX7_nextOpen_48 : decode cX7_nextOpen 48 = .ok (.aload_n 0, 1) := by decide +kernel
theorem dX7_nextOpen_49 : decode cX7_nextOpen 49 = .ok (.aload_n 0, 1) := by decide +kernel
theorem dX7_nextOpen_50 : decode cX7_nextOpen 50 = .ok (.getfield 28, 3) := by decide +kernel
theorem dX7_nextOpen_53 : decode cX7_nextOpen 53 = .ok (.iload_n 1, 1) := by decide +kernel
theorem dX7_nextOpen_54 : decode cX7_nextOpen 54 = .ok (.iaload, 1) := by decide +kernel
theorem dX7_nextOpen_55 : decode cX7_nextOpen 55 = .ok (.aload_n 0, 1) := by decide +kernel
theorem dX7_nextOpen_56 : decode cX7_nextOpen 56 = .ok (.getfield 50, 3) := by decide +kernel
theorem dX7_nextOpen_59 : decode cX7_nextOpen 59 = .ok (.getfield 117, 3) := by decide +kernel
theorem dX7_nextOpen_62 : decode cX7_nextOpen 62 = .ok (.iload_n 3, 1) := by decide +kernel
theorem dX7_nextOpen_63 : decode cX7_nextOpen 63 = .ok (.iaload, 1) := by decide +kernel
theorem dX7_nextOpen_64 : decode cX7_nextOpen 64 = .ok (.invokevirtual 120, 3) := by decide +kernel
theorem dX7_nextOpen_67 : decode cX7_nextOpen 67 = .ok (.istore 4, 2) := by decide +kernel
theorem dX7_nextOpen_69 : decode cX7_nextOpen 69 = .ok (.aload_n 0, 1) := by decide +kernel
theorem dX7_nextOpen_70 : decode cX7_nextOpen 70 = .ok (.iload 4, 2) := by decide +kernel
theorem dX7_nextOpen_72 : decode cX7_nextOpen 72 = .ok (.invokevirtual 61, 3) := by decide +kernel
theorem dX7_nextOpen_75 : decode cX7_nextOpen 75 = .ok (.ifCond .eq 13, 3) := by decide +kernel
theorem dX7_nextOpen_78 : decode cX7_nextOpen 78 = .ok (.aload_n 0, 1) := by decide +kernel
theorem dX7_nextOpen_79 : decode cX7_nextOpen 79 = .ok (.getfield 34, 3) := by decide +kernel
theorem dX7_nextOpen_82 : decode cX7_nextOpen 82 = .ok (.iload_n 1, 1) := by decide +kernel
theorem dX7_nextOpen_83 : decode cX7_nextOpen 83 = .ok (.iload_n 3, 1) := by decide +kernel
theorem dX7_nextOpen_84 : decode cX7_nextOpen 84 = .ok (.iastore, 1) := by decide +kernel
theorem dX7_nextOpen_85 : decode cX7_nextOpen 85 = .ok (.iload 4, 2) := by decide +kernel
theorem dX7_nextOpen_87 : decode cX7_nextOpen 87 = .ok (.ireturn, 1) := by decide +kernel
theorem dX7_nextOpen_88 : decode cX7_nextOpen 88 = .ok (.iinc 3 1, 3) := by decide +kernel
theorem dX7_nextOpen_91 : decode cX7_nextOpen 91 = .ok (.goto (-62), 3) := by decide +kernel
theorem dX7_nextOpen_94 : decode cX7_nextOpen 94 = .ok (.iconst (-1), 1) := by decide +kernel
theorem dX7_nextOpen_95 : decode cX7_nextOpen 95 = .ok (.ireturn, 1) := by decide +kernel
theorem dX7_operate_0 : decode cX7_operate 0 = .ok (.iload_n 1, 1) := by decide +kernel
theorem dX7_operate_1 : decode cX7_operate 1 = .ok (.bipush 126, 2) := by decide +kernel
theorem dX7_operate_3 : decode cX7_operate 3 = .ok (.if_icmp .ne 37, 3) := by decide +kernel
theorem dX7_operate_6 : decode cX7_operate 6 = .ok (.aload_n 0, 1) := by decide +kernel
theorem dX7_operate_7 : decode cX7_operate 7 = .ok (.getfield 47, 3) := by decide +kernel
theorem dX7_operate_10 : decode cX7_operate 10 = .ok (.iconst 1, 1) := by decide +kernel
theorem dX7_operate_11 : decode cX7_operate 11 = .ok (.if_icmp .lt 75, 3) := by decide +kernel
theorem dX7_operate_14 : decode cX7_operate 14 = .ok (.aload_n 0, 1) := by decide +kernel
theorem dX7_operate_15 : decode cX7_operate 15 = .ok (.getfield 40, 3) := by decide +kernel
theorem dX7_operate_18 : decode cX7_operate 18 = .ok (.aload_n 0, 1) := by decide +kernel
theorem dX7_operate_19 : decode cX7_operate 19 = .ok (.getfield 47, 3) := by decide +kernel
theorem dX7_operate_22 : decode cX7_operate 22 = .ok (.iconst 1, 1) := by decide +kernel
theorem dX7_operate_23 : decode cX7_operate 23 = .ok (.isub, 1) := by decide +kernel
theorem dX7_operate_24 : decode cX7_operate 24 = .ok (.aload_n 0, 1) := by decide +kernel
theorem dX7_operate_25 : decode cX7_operate 25 = .ok (.getfield 40, 3) := by decide +kernel
theorem dX7_operate_28 : decode cX7_operate 28 = .ok (.aload_n 0, 1) := by decide +kernel
theorem dX7_operate_29 : decode cX7_operate 29 = .ok (.getfield 47, 3) := by decide +kernel
theorem dX7_operate_32 : decode cX7_operate 32 = .ok (.iconst 1, 1) := by decide +kernel
theorem dX7_operate_33 : decode cX7_operate 33 = .ok (.isub, 1) := by decide +kernel
theorem dX7_operate_34 : decode cX7_operate 34 = .ok (.iaload, 1) := by decide +kernel
theorem dX7_operate_35 : decode cX7_operate 35 = .ok (.ineg, 1) := by decide +kernel
theorem dX7_operate_36 : decode cX7_operate 36 = .ok (.iastore, 1) := by decide +kernel
theorem dX7_operate_37 : decode cX7_operate 37 = .ok (.goto 49, 3) := by decide +kernel
theorem dX7_operate_40 : decode cX7_operate 40 = .ok (.iload_n 1, 1) := by decide +kernel
theorem dX7_operate_41 : decode cX7_operate 41 = .ok (.bipush 11, 2) := by decide +kernel
theorem dX7_operate_43 : decode cX7_operate 43 = .ok (.if_icmp .ne 24, 3) := by decide +kernel
theorem dX7_operate_46 : decode cX7_operate 46 = .ok (.aload_n 0, 1) := by decide +kernel
theorem dX7_operate_47 : decode cX7_operate 47 = .ok (.getfield 47, 3) := by decide +kernel
theorem dX7_operate_50 : decode cX7_operate 50 = .ok (.iconst 3, 1) := by decide +kernel
theorem dX7_operate_51 : decode cX7_operate 51 = .ok (.if_icmp .lt 35, 3) := by decide +kernel
theorem dX7_operate_54 : decode cX7_operate 54 = .ok (.aload_n 0, 1) := by decide +kernel
theorem dX7_operate_55 : decode cX7_operate 55 = .ok (.aload_n 0, 1) := by decide +kernel
theorem dX7_operate_56 : decode cX7_operate 56 = .ok (.getfield 47, 3) := by decide +kernel
theorem dX7_operate_59 : decode cX7_operate 59 = .ok (.iconst 3, 1) := by decide +kernel
theorem dX7_operate_60 : decode cX7_operate 60 = .ok (.isub, 1) := by decide +kernel
theorem dX7_operate_61 : decode cX7_operate 61 = .ok (.invokevirtual 136, 3) := by decide +kernel
theorem dX7_operate_64 : decode cX7_operate 64 = .ok (.goto 22, 3) := by decide +kernel
theorem dX7_operate_67 : decode cX7_operate 67 = .ok (.aload_n 0, 1) := by decide +kernel
theorem dX7_operate_68 : decode cX7_operate 68 = .ok (.getfield 47, 3) := by decide +kernel
theorem dX7_operate_71 : decode cX7_operate 71 = .ok (.iconst 2, 1) := by decide +kernel
theorem dX7_operate_72 : decode cX7_operate 72 = .ok (.if_icmp .lt 14, 3) := by decide +kernel
theorem dX7_operate_75 : decode cX7_operate 75 = .ok (.aload_n 0, 1) := by decide +kernel
theorem dX7_operate_76 : decode cX7_operate 76 = .ok (.iload_n 1, 1) := by decide +kernel
theorem dX7_operate_77 : decode cX7_operate 77 = .ok (.aload_n 0, 1) := by decide +kernel
theorem dX7_operate_78 : decode cX7_operate 78 = .ok (.getfield 47, 3) := by decide +kernel
theorem dX7_operate_81 : decode cX7_operate 81 = .ok (.iconst 2, 1) := by decide +kernel
theorem dX7_operate_82 : decode cX7_operate 82 = .ok (.isub, 1) := by decide +kernel
theorem dX7_operate_83 : decode cX7_operate 83 = .ok (.invokevirtual 139, 3) := by decide +kernel
theorem dX7_operate_86 : decode cX7_operate 86 = .ok (.return_, 1) := by decide +kernel
theorem dX7_outcome_0 : decode cX7_outcome 0 = .ok (.aload_n 0, 1) := by decide +kernel
theorem dX7_outcome_1 : decode cX7_outcome 1 = .ok (.getfield 22, 3) := by decide +kernel
theorem dX7_outcome_4 : decode cX7_outcome 4 = .ok (.iload_n 1, 1) := by decide +kernel
theorem dX7_outcome_5 : decode cX7_outcome 5 = .ok (.iaload, 1) := by decide +kernel
theorem dX7_outcome_6 : decode cX7_outcome 6 = .ok (.istore_n 2, 1) := by decide +kernel
theorem dX7_outcome_7 : decode cX7_outcome 7 = .ok (.iload_n 2, 1) := by decide +kernel
theorem dX7_outcome_8 : decode cX7_outcome 8 = .ok (.iconst 2, 1) := by decide +kernel
theorem dX7_outcome_9 : decode cX7_outcome 9 = .ok (.if_icmp .ne 7, 3) := by decide +kernel
theorem dX7_outcome_12 : decode cX7_outcome 12 = .ok (.iconst 0, 1) := by decide +kernel
theorem dX7_outcome_13 : decode cX7_outcome 13 = .ok (.goto 13, 3) := by decide +kernel
theorem dX7_outcome_16 : decode cX7_outcome 16 = .ok (.iload_n 2, 1) := by decide +kernel
theorem dX7_outcome_17 : decode cX7_outcome 17 = .ok (.iconst 3, 1) := by decide +kernel
theorem dX7_outcome_18 : decode cX7_outcome 18 = .ok (.if_icmp .ne 7, 3) := by decide +kernel
theorem dX7_outcome_21 : decode cX7_outcome 21 = .ok (.iconst 1, 1) := by decide +kernel
theorem dX7_outcome_22 : decode cX7_outcome 22 = .ok (.goto 4, 3) := by decide +kernel
theorem dX7_outcome_25 : decode cX7_outcome 25 = .ok (.iconst (-1), 1) := by decide +kernel
theorem dX7_outcome_26 : decode cX7_outcome 26 = .ok (.ireturn, 1) := by decide +kernel
theorem dX7_put_0 : decode cX7_put 0 = .ok (.aload_n 0, 1) := by decide +kernel
theorem dX7_put_1 : decode cX7_put 1 = .ok (.getfield 47, 3) := by decide +kernel
theorem dX7_put_4 : decode cX7_put 4 = .ok (.bipush 40, 2) := by decide +kernel
theorem dX7_put_6 : decode cX7_put 6 = .ok (.if_icmp .ge 33, 3) := by decide +kernel
theorem dX7_put_9 : decode cX7_put 9 = .ok (.aload_n 0, 1) := by decide +kernel
theorem dX7_put_10 : decode cX7_put 10 = .ok (.getfield 40, 3) := by decide +kernel
theorem dX7_put_13 : decode cX7_put 13 = .ok (.aload_n 0, 1) := by decide +kernel
theorem dX7_put_14 : decode cX7_put 14 = .ok (.getfield 47, 3) := by decide +kernel
theorem dX7_put_17 : decode cX7_put 17 = .ok (.iload_n 1, 1) := by decide +kernel
theorem dX7_put_18 : decode cX7_put 18 = .ok (.iastore, 1) := by decide +kernel
theorem dX7_put_19 : decode cX7_put 19 = .ok (.aload_n 0, 1) := by decide +kernel
theorem dX7_put_20 : decode cX7_put 20 = .ok (.getfield 43, 3) := by decide +kernel
theorem dX7_put_23 : decode cX7_put 23 = .ok (.aload_n 0, 1) := by decide +kernel
theorem dX7_put_24 : decode cX7_put 24 = .ok (.getfield 47, 3) := by decide +kernel
theorem dX7_put_27 : decode cX7_put 27 = .ok (.iload_n 2, 1) := by decide +kernel
theorem dX7_put_28 : decode cX7_put 28 = .ok (.bastore, 1) := by decide +kernel
theorem dX7_put_29 : decode cX7_put 29 = .ok (.aload_n 0, 1) := by decide +kernel
theorem dX7_put_30 : decode cX7_put 30 = .ok (.dup, 1) := by decide +kernel
theorem dX7_put_31 : decode cX7_put 31 = .ok (.getfield 47, 3) := by decide +kernel
theorem dX7_put_34 : decode cX7_put 34 = .ok (.iconst 1, 1) := by decide +kernel
theorem dX7_put_35 : decode cX7_put 35 = .ok (.iadd, 1) := by decide +kernel
theorem dX7_put_36 : decode cX7_put 36 = .ok (.putfield 47, 3) := by decide +kernel
theorem dX7_put_39 : decode cX7_put 39 = .ok (.return_, 1) := by decide +kernel
theorem dX7_result_0 : decode cX7_result 0 = .ok (.iload_n 0, 1) := by decide +kernel
theorem dX7_result_1 : decode cX7_result 1 = .ok (.lookupswitch 106 #[(37, 83), (42, 67), (43, 59), (45, 63), (47, 71), (60, 95)], 59) := by decide +kernel
theorem dX7_result_60 : decode cX7_result 60 = .ok (.iload_n 1, 1) := by decide +kernel
theorem dX7_result_61 : decode cX7_result 61 = .ok (.iload_n 2, 1) := by decide +kernel
theorem dX7_result_62 : decode cX7_result 62 = .ok (.iadd, 1) := by decide +kernel
theorem dX7_result_63 : decode cX7_result 63 = .ok (.ireturn, 1) := by decide +kernel
theorem dX7_result_64 : decode cX7_result 64 = .ok (.iload_n 1, 1) := by decide +kernel
theorem dX7_result_65 : decode cX7_result 65 = .ok (.iload_n 2, 1) := by decide +kernel
theorem dX7_result_66 : decode cX7_result 66 = .ok (.isub, 1) := by decide +kernel
theorem dX7_result_67 : decode cX7_result 67 = .ok (.ireturn, 1) := by decide +kernel
theorem dX7_result_68 : decode cX7_result 68 = .ok (.iload_n 1, 1) := by decide +kernel
theorem dX7_result_69 : decode cX7_result 69 = .ok (.iload_n 2, 1) := by decide +kernel
theorem dX7_result_70 : decode cX7_result 70 = .ok (.imul, 1) := by decide +kernel
theorem dX7_result_71 : decode cX7_result 71 = .ok (.ireturn, 1) := by decide +kernel
theorem dX7_result_72 : decode cX7_result 72 = .ok (.iload_n 2, 1) := by decide +kernel
theorem dX7_result_73 : decode cX7_result 73 = .ok (.ifCond .ne 7, 3) := by decide +kernel
theorem dX7_result_76 : decode cX7_result 76 = .ok (.iconst 0, 1) := by decide +kernel
theorem dX7_result_77 : decode cX7_result 77 = .ok (.goto 6, 3) := by decide +kernel
theorem dX7_result_80 : decode cX7_result 80 = .ok (.iload_n 1, 1) := by decide +kernel
theorem dX7_result_81 : decode cX7_result 81 = .ok (.iload_n 2, 1) := by decide +kernel
theorem dX7_result_82 : decode cX7_result 82 = .ok (.idiv, 1) := by decide +kernel
theorem dX7_result_83 : decode cX7_result 83 = .ok (.ireturn, 1) := by decide +kernel
theorem dX7_result_84 : decode cX7_result 84 = .ok (.iload_n 2, 1) := by decide +kernel
theorem dX7_result_85 : decode cX7_result 85 = .ok (.ifCond .ne 7, 3) := by decide +kernel
theorem dX7_result_88 : decode cX7_result 88 = .ok (.iconst 0, 1) := by decide +kernel
theorem dX7_result_89 : decode cX7_result 89 = .ok (.goto 6, 3) := by decide +kernel
theorem dX7_result_92 : decode cX7_result 92 = .ok (.iload_n 1, 1) := by decide +kernel
theorem dX7_result_93 : decode cX7_result 93 = .ok (.iload_n 2, 1) := by decide +kernel
theorem dX7_result_94 : decode cX7_result 94 = .ok (.irem, 1) := by decide +kernel
theorem dX7_result_95 : decode cX7_result 95 = .ok (.ireturn, 1) := by decide +kernel
theorem dX7_result_96 : decode cX7_result 96 = .ok (.iload_n 1, 1) := by decide +kernel
theorem dX7_result_97 : decode cX7_result 97 = .ok (.iload_n 2, 1) := by decide +kernel
theorem dX7_result_98 : decode cX7_result 98 = .ok (.if_icmp .ge 7, 3) := by decide +kernel
theorem dX7_result_101 : decode cX7_result 101 = .ok (.iconst 1, 1) := by decide +kernel
theorem dX7_result_102 : decode cX7_result 102 = .ok (.goto 4, 3) := by decide +kernel
theorem dX7_result_105 : decode cX7_result 105 = .ok (.iconst 0, 1) := by decide +kernel
theorem dX7_result_106 : decode cX7_result 106 = .ok (.ireturn, 1) := by decide +kernel
theorem dX7_result_107 : decode cX7_result 107 = .ok (.iload_n 1, 1) := by decide +kernel
theorem dX7_result_108 : decode cX7_result 108 = .ok (.iload_n 2, 1) := by decide +kernel
theorem dX7_result_109 : decode cX7_result 109 = .ok (.if_icmp .ne 7, 3) := by decide +kernel
theorem dX7_result_112 : decode cX7_result 112 = .ok (.iconst 1, 1) := by decide +kernel
theorem dX7_result_113 : decode cX7_result 113 = .ok (.goto 4, 3) := by decide +kernel
theorem dX7_result_116 : decode cX7_result 116 = .ok (.iconst 0, 1) := by decide +kernel
theorem dX7_result_117 : decode cX7_result 117 = .ok (.ireturn, 1) := by decide +kernel
theorem dX7_workOut_0 : decode cX7_workOut 0 = .ok (.aload_n 0, 1) := by decide +kernel
theorem dX7_workOut_1 : decode cX7_workOut 1 = .ok (.iconst 0, 1) := by decide +kernel
theorem dX7_workOut_2 : decode cX7_workOut 2 = .ok (.putfield 37, 3) := by decide +kernel
theorem dX7_workOut_5 : decode cX7_workOut 5 = .ok (.aload_n 0, 1) := by decide +kernel
theorem dX7_workOut_6 : decode cX7_workOut 6 = .ok (.iload_n 1, 1) := by decide +kernel
theorem dX7_workOut_7 : decode cX7_workOut 7 = .ok (.invokevirtual 61, 3) := by decide +kernel
theorem dX7_workOut_10 : decode cX7_workOut 10 = .ok (.ifCond .eq 8, 3) := by decide +kernel
theorem dX7_workOut_13 : decode cX7_workOut 13 = .ok (.aload_n 0, 1) := by decide +kernel
theorem dX7_workOut_14 : decode cX7_workOut 14 = .ok (.iload_n 1, 1) := by decide +kernel
theorem dX7_workOut_15 : decode cX7_workOut 15 = .ok (.invokevirtual 65, 3) := by decide +kernel
theorem dX7_workOut_18 : decode cX7_workOut 18 = .ok (.iconst 0, 1) := by decide +kernel
theorem dX7_workOut_19 : decode cX7_workOut 19 = .ok (.istore_n 2, 1) := by decide +kernel
theorem dX7_workOut_20 : decode cX7_workOut 20 = .ok (.iload_n 2, 1) := by decide +kernel
theorem dX7_workOut_21 : decode cX7_workOut 21 = .ok (.sipush 2400, 3) := by decide +kernel
theorem dX7_workOut_24 : decode cX7_workOut 24 = .ok (.if_icmp .ge 54, 3) := by decide +kernel
theorem dX7_workOut_27 : decode cX7_workOut 27 = .ok (.aload_n 0, 1) := by decide +kernel
theorem dX7_workOut_28 : decode cX7_workOut 28 = .ok (.getfield 37, 3) := by decide +kernel
theorem dX7_workOut_31 : decode cX7_workOut 31 = .ok (.ifCond .le 47, 3) := by decide +kernel
theorem dX7_workOut_34 : decode cX7_workOut 34 = .ok (.aload_n 0, 1) := by decide +kernel
theorem dX7_workOut_35 : decode cX7_workOut 35 = .ok (.invokevirtual 69, 3) := by decide +kernel
theorem dX7_workOut_38 : decode cX7_workOut 38 = .ok (.istore_n 3, 1) := by decide +kernel
theorem dX7_workOut_39 : decode cX7_workOut 39 = .ok (.iload_n 3, 1) := by decide +kernel
theorem dX7_workOut_40 : decode cX7_workOut 40 = .ok (.iconst (-1), 1) := by decide +kernel
theorem dX7_workOut_41 : decode cX7_workOut 41 = .ok (.if_icmp .ne 10, 3) := by decide +kernel
theorem dX7_workOut_44 : decode cX7_workOut 44 = .ok (.aload_n 0, 1) := by decide +kernel
theorem dX7_workOut_45 : decode cX7_workOut 45 = .ok (.invokevirtual 73, 3) := by decide +kernel
theorem dX7_workOut_48 : decode cX7_workOut 48 = .ok (.goto 24, 3) := by decide +kernel
theorem dX7_workOut_51 : decode cX7_workOut 51 = .ok (.aload_n 0, 1) := by decide +kernel
theorem dX7_workOut_52 : decode cX7_workOut 52 = .ok (.getfield 22, 3) := by decide +kernel
theorem dX7_workOut_55 : decode cX7_workOut 55 = .ok (.iload_n 3, 1) := by decide +kernel
theorem dX7_workOut_56 : decode cX7_workOut 56 = .ok (.iaload, 1) := by decide +kernel
theorem dX7_workOut_57 : decode cX7_workOut 57 = .ok (.iconst 1, 1) := by decide +kernel
theorem dX7_workOut_58 : decode cX7_workOut 58 = .ok (.if_icmp .ne 9, 3) := by decide +kernel
theorem dX7_workOut_61 : decode cX7_workOut 61 = .ok (.aload_n 0, 1) := by decide +kernel
theorem dX7_workOut_62 : decode cX7_workOut 62 = .ok (.invokevirtual 76, 3) := by decide +kernel
theorem dX7_workOut_65 : decode cX7_workOut 65 = .ok (.iconst 2, 1) := by decide +kernel
theorem dX7_workOut_66 : decode cX7_workOut 66 = .ok (.ireturn, 1) := by decide +kernel
theorem dX7_workOut_67 : decode cX7_workOut 67 = .ok (.aload_n 0, 1) := by decide +kernel
theorem dX7_workOut_68 : decode cX7_workOut 68 = .ok (.iload_n 3, 1) := by decide +kernel
theorem dX7_workOut_69 : decode cX7_workOut 69 = .ok (.invokevirtual 65, 3) := by decide +kernel
theorem dX7_workOut_72 : decode cX7_workOut 72 = .ok (.iinc 2 1, 3) := by decide +kernel
theorem dX7_workOut_75 : decode cX7_workOut 75 = .ok (.goto (-55), 3) := by decide +kernel
theorem dX7_workOut_78 : decode cX7_workOut 78 = .ok (.aload_n 0, 1) := by decide +kernel
theorem dX7_workOut_79 : decode cX7_workOut 79 = .ok (.iload_n 1, 1) := by decide +kernel
theorem dX7_workOut_80 : decode cX7_workOut 80 = .ok (.invokevirtual 79, 3) := by decide +kernel
theorem dX7_workOut_83 : decode cX7_workOut 83 = .ok (.ireturn, 1) := by decide +kernel
