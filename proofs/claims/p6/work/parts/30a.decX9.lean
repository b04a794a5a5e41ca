theorem dX9_about_0 : decode cX9_about 0 = .ok (.iload_n 1, 1) := by decide +kernel
theorem dX9_about_1 : decode cX9_about 1 = .ok (.tableswitch 60 0 4 #[35, 40, 45, 50, 55], 35) := by decide +kernel
theorem dX9_about_36 : decode cX9_about 36 = .ok (.aload_n 0, 1) := by decide +kernel
theorem dX9_about_37 : decode cX9_about 37 = .ok (.getfield 173, 3) := by decide +kernel
theorem dX9_about_40 : decode cX9_about 40 = .ok (.ireturn, 1) := by decide +kernel
theorem dX9_about_41 : decode cX9_about 41 = .ok (.aload_n 0, 1) := by decide +kernel
theorem dX9_about_42 : decode cX9_about 42 = .ok (.getfield 248, 3) := by decide +kernel
theorem dX9_about_45 : decode cX9_about 45 = .ok (.ireturn, 1) := by decide +kernel
theorem dX9_about_46 : decode cX9_about 46 = .ok (.aload_n 0, 1) := by decide +kernel
theorem dX9_about_47 : decode cX9_about 47 = .ok (.getfield 272, 3) := by decide +kernel
theorem dX9_about_50 : decode cX9_about 50 = .ok (.ireturn, 1) := by decide +kernel
theorem dX9_about_51 : decode cX9_about 51 = .ok (.aload_n 0, 1) := by decide +kernel
theorem dX9_about_52 : decode cX9_about 52 = .ok (.getfield 396, 3) := by decide +kernel
theorem dX9_about_55 : decode cX9_about 55 = .ok (.ireturn, 1) := by decide +kernel
theorem dX9_about_56 : decode cX9_about 56 = .ok (.aload_n 0, 1) := by decide +kernel
theorem dX9_about_57 : decode cX9_about 57 = .ok (.getfield 399, 3) := by decide +kernel
theorem dX9_about_60 : decode cX9_about 60 = .ok (.ireturn, 1) := by decide +kernel
theorem dX9_about_61 : decode cX9_about 61 = .ok (.iconst (-1), 1) := by decide +kernel
theorem dX9_about_62 : decode cX9_about 62 = .ok (.ireturn, 1) := by decide +kernel
theorem dX9_allCan_0 : decode cX9_allCan 0 = .ok (.iconst 1, 1) := by decide +kernel
theorem dX9_allCan_1 : decode cX9_allCan 1 = .ok (.istore_n 2, 1) := by decide +kernel
theorem dX9_allCan_2 : decode cX9_allCan 2 = .ok (.iconst 1, 1) := by decide +kernel
theorem dX9_allCan_3 : decode cX9_allCan 3 = .ok (.istore_n 3, 1) := by decide +kernel
theorem dX9_allCan_4 : decode cX9_allCan 4 = .ok (.iload_n 3, 1) := by decide +kernel
theorem dX9_allCan_5 : decode cX9_allCan 5 = .ok (.aload_n 0, 1) := by decide +kernel
theorem dX9_allCan_6 : decode cX9_allCan 6 = .ok (.getfield 44, 3) := by decide +kernel
theorem dX9_allCan_9 : decode cX9_allCan 9 = .ok (.iload_n 1, 1) := by decide +kernel
theorem dX9_allCan_10 : decode cX9_allCan 10 = .ok (.iaload, 1) := by decide +kernel
theorem dX9_allCan_11 : decode cX9_allCan 11 = .ok (.if_icmp .gt 37, 3) := by decide +kernel
theorem dX9_allCan_14 : decode cX9_allCan 14 = .ok (.iload_n 2, 1) := by decide +kernel
theorem dX9_allCan_15 : decode cX9_allCan 15 = .ok (.ifCond .eq 25, 3) := by decide +kernel
theorem dX9_allCan_18 : decode cX9_allCan 18 = .ok (.aload_n 0, 1) := by decide +kernel
theorem dX9_allCan_19 : decode cX9_allCan 19 = .ok (.getfield 113, 3) := by decide +kernel
theorem dX9_allCan_22 : decode cX9_allCan 22 = .ok (.aload_n 0, 1) := by decide +kernel
theorem dX9_allCan_23 : decode cX9_allCan 23 = .ok (.getfield 47, 3) := by decide +kernel
theorem dX9_allCan_26 : decode cX9_allCan 26 = .ok (.iconst 4, 1) := by decide +kernel
theorem dX9_allCan_27 : decode cX9_allCan 27 = .ok (.iload_n 1, 1) := by decide +kernel
theorem dX9_allCan_28 : decode cX9_allCan 28 = .ok (.imul, 1) := by decide +kernel
theorem dX9_allCan_29 : decode cX9_allCan 29 = .ok (.iload_n 3, 1) := by decide +kernel
theorem dX9_allCan_30 : decode cX9_allCan 30 = .ok (.iadd, 1) := by decide +kernel
theorem dX9_allCan_31 : decode cX9_allCan 31 = .ok (.iaload, 1) := by decide +kernel
theorem dX9_allCan_32 : decode cX9_allCan 32 = .ok (.baload, 1) := by decide +kernel
theorem dX9_allCan_33 : decode cX9_allCan 33 = .ok (.ifCond .eq 7, 3) := by decide +kernel
theorem dX9_allCan_36 : decode cX9_allCan 36 = .ok (.iconst 1, 1) := by decide +kernel
theorem dX9_allCan_37 : decode cX9_allCan 37 = .ok (.goto 4, 3) := by decide +kernel
theorem dX9_allCan_40 : decode cX9_allCan 40 = .ok (.iconst 0, 1) := by decide +kernel
theorem dX9_allCan_41 : decode cX9_allCan 41 = .ok (.istore_n 2, 1) := by decide +kernel
theorem dX9_allCan_42 : decode cX9_allCan 42 = .ok (.iinc 3 1, 3) := by decide +kernel
theorem dX9_allCan_45 : decode cX9_allCan 45 = .ok (.goto (-41), 3) := by decide +kernel
theorem dX9_allCan_48 : decode cX9_allCan 48 = .ok (.iload_n 2, 1) := by decide +kernel
theorem dX9_allCan_49 : decode cX9_allCan 49 = .ok (.ireturn, 1) := by decide +kernel
theorem dX9_attribute_0 : decode cX9_attribute 0 = .ok (.aload_n 0, 1) := by decide +kernel
theorem dX9_attribute_1 : decode cX9_attribute 1 = .ok (.iload_n 1, 1) := by decide +kernel
theorem dX9_attribute_2 : decode cX9_attribute 2 = .ok (.aload_n 0, 1) := by decide +kernel
theorem dX9_attribute_3 : decode cX9_attribute 3 = .ok (.getfield 206, 3) := by decide +kernel
theorem dX9_attribute_6 : decode cX9_attribute 6 = .ok (.invokevirtual 268, 3) := by decide +kernel
theorem dX9_attribute_9 : decode cX9_attribute 9 = .ok (.ifCond .lt 12, 3) := by decide +kernel
theorem dX9_attribute_12 : decode cX9_attribute 12 = .ok (.aload_n 0, 1) := by decide +kernel
theorem dX9_attribute_13 : decode cX9_attribute 13 = .ok (.iconst 2, 1) := by decide +kernel
theorem dX9_attribute_14 : decode cX9_attribute 14 = .ok (.aload_n 0, 1) := by decide +kernel
theorem dX9_attribute_15 : decode cX9_attribute 15 = .ok (.getfield 190, 3) := by decide +kernel
theorem dX9_attribute_18 : decode cX9_attribute 18 = .ok (.invokevirtual 193, 3) := by decide +kernel
theorem dX9_attribute_21 : decode cX9_attribute 21 = .ok (.aload_n 0, 1) := by decide +kernel
theorem dX9_attribute_22 : decode cX9_attribute 22 = .ok (.getfield 30, 3) := by decide +kernel
theorem dX9_attribute_25 : decode cX9_attribute 25 = .ok (.iload_n 1, 1) := by decide +kernel
theorem dX9_attribute_26 : decode cX9_attribute 26 = .ok (.iaload, 1) := by decide +kernel
theorem dX9_attribute_27 : decode cX9_attribute 27 = .ok (.bipush 6, 2) := by decide +kernel
theorem dX9_attribute_29 : decode cX9_attribute 29 = .ok (.if_icmp .ne 12, 3) := by decide +kernel
theorem dX9_attribute_32 : decode cX9_attribute 32 = .ok (.aload_n 0, 1) := by decide +kernel
theorem dX9_attribute_33 : decode cX9_attribute 33 = .ok (.iconst 4, 1) := by decide +kernel
theorem dX9_attribute_34 : decode cX9_attribute 34 = .ok (.aload_n 0, 1) := by decide +kernel
theorem dX9_attribute_35 : decode cX9_attribute 35 = .ok (.getfield 190, 3) := by decide +kernel
theorem dX9_attribute_38 : decode cX9_attribute 38 = .ok (.invokevirtual 193, 3) := by decide +kernel
theorem dX9_attribute_41 : decode cX9_attribute 41 = .ok (.aload_n 0, 1) := by decide +kernel
theorem dX9_attribute_42 : decode cX9_attribute 42 = .ok (.invokevirtual 234, 3) := by decide +kernel
theorem dX9_attribute_45 : decode cX9_attribute 45 = .ok (.ifCond .eq 54, 3) := by decide +kernel
theorem dX9_attribute_48 : decode cX9_attribute 48 = .ok (.aload_n 0, 1) := by decide +kernel
theorem dX9_attribute_49 : decode cX9_attribute 49 = .ok (.getfield 34, 3) := by decide +kernel
theorem dX9_attribute_52 : decode cX9_attribute 52 = .ok (.bipush 6, 2) := by decide +kernel
theorem dX9_attribute_54 : decode cX9_attribute 54 = .ok (.iload_n 1, 1) := by decide +kernel
theorem dX9_attribute_55 : decode cX9_attribute 55 = .ok (.imul, 1) := by decide +kernel
theorem dX9_attribute_56 : decode cX9_attribute 56 = .ok (.aload_n 0, 1) := by decide +kernel
theorem dX9_attribute_57 : decode cX9_attribute 57 = .ok (.getfield 30, 3) := by decide +kernel
theorem dX9_attribute_60 : decode cX9_attribute 60 = .ok (.iload_n 1, 1) := by decide +kernel
theorem dX9_attribute_61 : decode cX9_attribute 61 = .ok (.iaload, 1) := by decide +kernel
theorem dX9_attribute_62 : decode cX9_attribute 62 = .ok (.iadd, 1) := by decide +kernel
theorem dX9_attribute_63 : decode cX9_attribute 63 = .ok (.aload_n 0, 1) := by decide +kernel
theorem dX9_attribute_64 : decode cX9_attribute 64 = .ok (.getfield 206, 3) := by decide +kernel
theorem dX9_attribute_67 : decode cX9_attribute 67 = .ok (.lastore, 1) := by decide +kernel
theorem dX9_attribute_68 : decode cX9_attribute 68 = .ok (.aload_n 0, 1) := by decide +kernel
theorem dX9_attribute_69 : decode cX9_attribute 69 = .ok (.getfield 37, 3) := by decide +kernel
theorem dX9_attribute_72 : decode cX9_attribute 72 = .ok (.bipush 6, 2) := by decide +kernel
theorem dX9_attribute_74 : decode cX9_attribute 74 = .ok (.iload_n 1, 1) := by decide +kernel
theorem dX9_attribute_75 : decode cX9_attribute 75 = .ok (.imul, 1) := by decide +kernel
theorem dX9_attribute_76 : decode cX9_attribute 76 = .ok (.aload_n 0, 1) := by decide +kernel
theorem dX9_attribute_77 : decode cX9_attribute 77 = .ok (.getfield 30, 3) := by decide +kernel
theorem dX9_attribute_80 : decode cX9_attribute 80 = .ok (.iload_n 1, 1) := by decide +kernel
theorem dX9_attribute_81 : decode cX9_attribute 81 = .ok (.iaload, 1) := by decide +kernel
theorem dX9_attribute_82 : decode cX9_attribute 82 = .ok (.iadd, 1) := by decide +kernel
theorem dX9_attribute_83 : decode cX9_attribute 83 = .ok (.iload_n 2, 1) := by decide +kernel
theorem dX9_attribute_84 : decode cX9_attribute 84 = .ok (.bastore, 1) := by decide +kernel
theorem dX9_attribute_85 : decode cX9_attribute 85 = .ok (.aload_n 0, 1) := by decide +kernel
theorem dX9_attribute_86 : decode cX9_attribute 86 = .ok (.getfield 30, 3) := by decide +kernel
theorem dX9_attribute_89 : decode cX9_attribute 89 = .ok (.iload_n 1, 1) := by decide +kernel
theorem dX9_attribute_90 : decode cX9_attribute 90 = .ok (.dup2, 1) := by decide +kernel
theorem dX9_attribute_91 : decode cX9_attribute 91 = .ok (.iaload, 1) := by decide +kernel
theorem dX9_attribute_92 : decode cX9_attribute 92 = .ok (.iconst 1, 1) := by decide +kernel
theorem dX9_attribute_93 : decode cX9_attribute 93 = .ok (.iadd, 1) := by decide +kernel
theorem dX9_attribute_94 : decode cX9_attribute 94 = .ok (.iastore, 1) := by decide +kernel
theorem dX9_attribute_95 : decode cX9_attribute 95 = .ok (.aload_n 0, 1) := by decide +kernel
theorem dX9_attribute_96 : decode cX9_attribute 96 = .ok (.invokevirtual 242, 3) := by decide +kernel
theorem dX9_attribute_99 : decode cX9_attribute 99 = .ok (.return_, 1) := by decide +kernel
theorem dX9_attributeOf_0 : decode cX9_attributeOf 0 = .ok (.iconst (-1), 1) := by decide +kernel
theorem dX9_attributeOf_1 : decode cX9_attributeOf 1 = .ok (.istore 4, 2) := by decide +kernel
theorem dX9_attributeOf_3 : decode cX9_attributeOf 3 = .ok (.iconst 0, 1) := by decide +kernel
theorem dX9_attributeOf_4 : decode cX9_attributeOf 4 = .ok (.istore 5, 2) := by decide +kernel
theorem dX9_attributeOf_6 : decode cX9_attributeOf 6 = .ok (.iload 5, 2) := by decide +kernel
theorem dX9_attributeOf_8 : decode cX9_attributeOf 8 = .ok (.aload_n 0, 1) := by decide +kernel
theorem dX9_attributeOf_9 : decode cX9_attributeOf 9 = .ok (.getfield 30, 3) := by decide +kernel
theorem dX9_attributeOf_12 : decode cX9_attributeOf 12 = .ok (.iload_n 1, 1) := by decide +kernel
theorem dX9_attributeOf_13 : decode cX9_attributeOf 13 = .ok (.iaload, 1) := by decide +kernel
theorem dX9_attributeOf_14 : decode cX9_attributeOf 14 = .ok (.if_icmp .ge 35, 3) := by decide +kernel
theorem dX9_attributeOf_17 : decode cX9_attributeOf 17 = .ok (.aload_n 0, 1) := by decide +kernel
theorem dX9_attributeOf_18 : decode cX9_attributeOf 18 = .ok (.getfield 34, 3) := by decide +kernel
theorem dX9_attributeOf_21 : decode cX9_attributeOf 21 = .ok (.bipush 6, 2) := by decide +kernel
theorem dX9_attributeOf_23 : decode cX9_attributeOf 23 = .ok (.iload_n 1, 1) := by decide +kernel
theorem dX9_attributeOf_24 : decode cX9_attributeOf 24 = .ok (.imul, 1) := by decide +kernel
theorem dX9_attributeOf_25 : decode cX9_attributeOf 25 = .ok (.iload 5, 2) := by decide +kernel
theorem dX9_attributeOf_27 : decode cX9_attributeOf 27 = .ok (.iadd, 1) := by decide +kernel
theorem dX9_attributeOf_28 : decode cX9_attributeOf 28 = .ok (.laload, 1) := by decide +kernel
theorem dX9_attributeOf_29 : decode cX9_attributeOf 29 = .ok (.lload_n 2, 1) := by decide +kernel
theorem dX9_attributeOf_30 : decode cX9_attributeOf 30 = .ok (.lcmp, 1) := by decide +kernel
theorem dX9_attributeOf_31 : decode cX9_attributeOf 31 = .ok (.ifCond .ne 8, 3) := by decide +kernel
theorem dX9_attributeOf_34 : decode cX9_attributeOf 34 = .ok (.iload 5, 2) := by decide +kernel
theorem dX9_attributeOf_36 : decode cX9_attributeOf 36 = .ok (.goto 5, 3) := by decide +kernel
theorem dX9_attributeOf_39 : decode cX9_attributeOf 39 = .ok (.iload 4, 2) := by decide +kernel
theorem dX9_attributeOf_41 : decode cX9_attributeOf 41 = .ok (.istore 4, 2) := by decide +kernel
theorem dX9_attributeOf_43 : decode cX9_attributeOf 43 = .ok (.iinc 5 1, 3) := by decide +kernel
theorem dX9_attributeOf_46 : decode cX9_attributeOf 46 = .ok (.goto (-40), 3) := by decide +kernel
theorem dX9_attributeOf_49 : decode cX9_attributeOf 49 = .ok (.iload 4, 2) := by decide +kernel
theorem dX9_attributeOf_51 : decode cX9_attributeOf 51 = .ok (.ireturn, 1) := by decide +kernel
theorem dX9_begins_0 : decode cX9_begins 0 = .ok (.aload_n 0, 1) := by decide +kernel
theorem dX9_begins_1 : decode cX9_begins 1 = .ok (.getfield 405, 3) := by decide +kernel
theorem dX9_begins_4 : decode cX9_begins 4 = .ok (.sipush 200, 3) := by decide +kernel
theorem dX9_begins_7 : decode cX9_begins 7 = .ok (.if_icmp .eq 9, 3) := by decide +kernel
theorem dX9_begins_10 : decode cX9_begins 10 = .ok (.iload_n 3, 1) := by decide +kernel
theorem dX9_begins_11 : decode cX9_begins 11 = .ok (.bipush 40, 2) := by decide +kernel
theorem dX9_begins_13 : decode cX9_begins 13 = .ok (.if_icmp .ne 14, 3) := by decide +kernel
theorem dX9_begins_16 : decode cX9_begins 16 = .ok (.aload_n 0, 1) := by decide +kernel
theorem dX9_begins_17 : decode cX9_begins 17 = .ok (.iconst 4, 1) := by decide +kernel
theorem dX9_begins_18 : decode cX9_begins 18 = .ok (.aload_n 0, 1) := by decide +kernel
theorem dX9_begins_19 : decode cX9_begins 19 = .ok (.getfield 190, 3) := by decide +kernel
theorem dX9_begins_22 : decode cX9_begins 22 = .ok (.invokevirtual 193, 3) := by decide +kernel
theorem dX9_begins_25 : decode cX9_begins 25 = .ok (.iconst (-1), 1) := by decide +kernel
theorem dX9_begins_26 : decode cX9_begins 26 = .ok (.ireturn, 1) := by decide +kernel
theorem dX9_begins_27 : decode cX9_begins 27 = .ok (.aload_n 0, 1) := by decide +kernel
theorem dX9_begins_28 : decode cX9_begins 28 = .ok (.getfield 405, 3) := by decide +kernel
theorem dX9_begins_31 : decode cX9_begins 31 = .ok (.istore 4, 2) := by decide +kernel
theorem dX9_begins_33 : decode cX9_begins 33 = .ok (.aload_n 0, 1) := by decide +kernel
theorem dX9_begins_34 : decode cX9_begins 34 = .ok (.dup, 1) := by decide +kernel
theorem dX9_begins_35 : decode cX9_begins 35 = .ok (.getfield 405, 3) := by decide +kernel
theorem dX9_begins_38 : decode cX9_begins 38 = .ok (.iconst 1, 1) := by decide +kernel
theorem dX9_begins_39 : decode cX9_begins 39 = .ok (.iadd, 1) := by decide +kernel
theorem dX9_begins_40 : decode cX9_begins 40 = .ok (.putfield 405, 3) := by decide +kernel
theorem dX9_begins_43 : decode cX9_begins 43 = .ok (.aload_n 0, 1) := by decide +kernel
theorem dX9_begins_44 : decode cX9_begins 44 = .ok (.invokevirtual 242, 3) := by decide +kernel
theorem dX9_begins_47 : decode cX9_begins 47 = .ok (.aload_n 0, 1) := by decide +kernel
theorem dX9_begins_48 : decode cX9_begins 48 = .ok (.invokevirtual 251, 3) := by decide +kernel
theorem dX9_begins_51 : decode cX9_begins 51 = .ok (.ifCond .ne 6, 3) := by decide +kernel
theorem dX9_begins_54 : decode cX9_begins 54 = .ok (.iload 4, 2) := by decide +kernel
theorem dX9_begins_56 : decode cX9_begins 56 = .ok (.ireturn, 1) := by decide +kernel
theorem dX9_begins_57 : decode cX9_begins 57 = .ok (.aload_n 0, 1) := by decide +kernel
theorem dX9_begins_58 : decode cX9_begins 58 = .ok (.aload_n 0, 1) := by decide +kernel
theorem dX9_begins_59 : decode cX9_begins 59 = .ok (.getfield 206, 3) := by decide +kernel
theorem dX9_begins_62 : decode cX9_begins 62 = .ok (.aload_n 0, 1) := by decide +kernel
theorem dX9_begins_63 : decode cX9_begins 63 = .ok (.getfield 272, 3) := by decide +kernel
theorem dX9_begins_66 : decode cX9_begins 66 = .ok (.invokevirtual 275, 3) := by decide +kernel
theorem dX9_begins_69 : decode cX9_begins 69 = .ok (.istore 5, 2) := by decide +kernel
theorem dX9_begins_71 : decode cX9_begins 71 = .ok (.iload 5, 2) := by decide +kernel
theorem dX9_begins_73 : decode cX9_begins 73 = .ok (.ifCond .lt 16, 3) := by decide +kernel
theorem dX9_begins_76 : decode cX9_begins 76 = .ok (.aload_n 0, 1) := by decide +kernel
theorem dX9_begins_77 : decode cX9_begins 77 = .ok (.getfield 47, 3) := by decide +kernel
theorem dX9_begins_80 : decode cX9_begins 80 = .ok (.iconst 4, 1) := by decide +kernel
theorem dX9_begins_81 : decode cX9_begins 81 = .ok (.iload 5, 2) := by decide +kernel
theorem dX9_begins_83 : decode cX9_begins 83 = .ok (.imul, 1) := by decide +kernel
theorem dX9_begins_84 : decode cX9_begins 84 = .ok (.iaload, 1) := by decide +kernel
theorem dX9_begins_85 : decode cX9_begins 85 = .ok (.iload_n 2, 1) := by decide +kernel
theorem dX9_begins_86 : decode cX9_begins 86 = .ok (.if_icmp .eq 15, 3) := by decide +kernel
theorem dX9_begins_89 : decode cX9_begins 89 = .ok (.aload_n 0, 1) := by decide +kernel
theorem dX9_begins_90 : decode cX9_begins 90 = .ok (.iconst 3, 1) := by decide +kernel
theorem dX9_begins_91 : decode cX9_begins 91 = .ok (.aload_n 0, 1) := by decide +kernel
theorem dX9_begins_92 : decode cX9_begins 92 = .ok (.getfield 190, 3) := by decide +kernel
theorem dX9_begins_95 : decode cX9_begins 95 = .ok (.invokevirtual 193, 3) := by decide +kernel
theorem dX9_begins_98 : decode cX9_begins 98 = .ok (.iload 4, 2) := by decide +kernel
theorem dX9_begins_100 : decode cX9_begins 100 = .ok (.ireturn, 1) := by decide +kernel
theorem dX9_begins_101 : decode cX9_begins 101 = .ok (.aload_n 0, 1) := by decide +kernel
theorem dX9_begins_102 : decode cX9_begins 102 = .ok (.getfield 95, 3) := by decide +kernel
theorem dX9_begins_105 : decode cX9_begins 105 = .ok (.iload 4, 2) := by decide +kernel
theorem dX9_begins_107 : decode cX9_begins 107 = .ok (.iload 5, 2) := by decide +kernel
theorem dX9_begins_109 : decode cX9_begins 109 = .ok (.iastore, 1) := by decide +kernel
theorem dX9_begins_110 : decode cX9_begins 110 = .ok (.aload_n 0, 1) := by decide +kernel
theorem dX9_begins_111 : decode cX9_begins 111 = .ok (.getfield 98, 3) := by decide +kernel
theorem dX9_begins_114 : decode cX9_begins 114 = .ok (.iload 4, 2) := by decide +kernel
theorem dX9_begins_116 : decode cX9_begins 116 = .ok (.iload_n 1, 1) := by decide +kernel
theorem dX9_begins_117 : decode cX9_begins 117 = .ok (.iastore, 1) := by decide +kernel
theorem dX9_begins_118 : decode cX9_begins 118 = .ok (.aload_n 0, 1) := by decide +kernel
theorem dX9_begins_119 : decode cX9_begins 119 = .ok (.getfield 101, 3) := by decide +kernel
theorem dX9_begins_122 : decode cX9_begins 122 = .ok (.iload 4, 2) := by decide +kernel
theorem dX9_begins_124 : decode cX9_begins 124 = .ok (.iload_n 1, 1) := by decide +kernel
theorem dX9_begins_125 : decode cX9_begins 125 = .ok (.ifCond .ge 7, 3) := by decide +kernel
theorem dX9_begins_128 : decode cX9_begins 128 = .ok (.iconst 0, 1) := by decide +kernel
theorem dX9_begins_129 : decode cX9_begins 129 = .ok (.goto 11, 3) := by decide +kernel
theorem dX9_begins_132 : decode cX9_begins 132 = .ok (.aload_n 0, 1) := by decide +kernel
theorem dX9_begins_133 : decode cX9_begins 133 = .ok (.getfield 107, 3) := by decide +kernel
theorem dX9_begins_136 : decode cX9_begins 136 = .ok (.iload_n 1, 1) := by decide +kernel
theorem dX9_begins_137 : decode cX9_begins 137 = .ok (.iaload, 1) := by decide +kernel
theorem dX9_begins_138 : decode cX9_begins 138 = .ok (.iconst 1, 1) := by decide +kernel
theorem dX9_begins_139 : decode cX9_begins 139 = .ok (.iadd, 1) := by decide +kernel
theorem dX9_begins_140 : decode cX9_begins 140 = .ok (.iastore, 1) := by decide +kernel
theorem dX9_begins_141 : decode cX9_begins 141 = .ok (.aload_n 0, 1) := by decide +kernel
theorem dX9_begins_142 : decode cX9_begins 142 = .ok (.getfield 104, 3) := by decide +kernel
theorem dX9_begins_145 : decode cX9_begins 145 = .ok (.iload 4, 2) := by decide +kernel
theorem dX9_begins_147 : decode cX9_begins 147 = .ok (.iconst 0, 1) := by decide +kernel
theorem dX9_begins_148 : decode cX9_begins 148 = .ok (.iastore, 1) := by decide +kernel
theorem dX9_begins_149 : decode cX9_begins 149 = .ok (.aload_n 0, 1) := by decide +kernel
theorem dX9_begins_150 : decode cX9_begins 150 = .ok (.getfield 107, 3) := by decide +kernel
theorem dX9_begins_153 : decode cX9_begins 153 = .ok (.iload 4, 2) := by decide +kernel
theorem dX9_begins_155 : decode cX9_begins 155 = .ok (.iconst 0, 1) := by decide +kernel
theorem dX9_begins_156 : decode cX9_begins 156 = .ok (.iastore, 1) := by decide +kernel
theorem dX9_begins_157 : decode cX9_begins 157 = .ok (.iload_n 1, 1) := by decide +kernel
theorem dX9_begins_158 : decode cX9_begins 158 = .ok (.ifCond .lt 30, 3) := by decide +kernel
theorem dX9_begins_161 : decode cX9_begins 161 = .ok (.aload_n 0, 1) := by decide +kernel
theorem dX9_begins_162 : decode cX9_begins 162 = .ok (.getfield 107, 3) := by decide +kernel
theorem dX9_begins_165 : decode cX9_begins 165 = .ok (.iload_n 1, 1) := by decide +kernel
theorem dX9_begins_166 : decode cX9_begins 166 = .ok (.dup2, 1) := by decide +kernel
theorem dX9_begins_167 : decode cX9_begins 167 = .ok (.iaload, 1) := by decide +kernel
theorem dX9_begins_168 : decode cX9_begins 168 = .ok (.iconst 1, 1) := by decide +kernel
theorem dX9_begins_169 : decode cX9_begins 169 = .ok (.iadd, 1) := by decide +kernel
theorem dX9_begins_170 : decode cX9_begins 170 = .ok (.iastore, 1) := by decide +kernel
theorem dX9_begins_171 : decode cX9_begins 171 = .ok (.aload_n 0, 1) := by decide +kernel
theorem dX9_begins_172 : decode cX9_begins 172 = .ok (.getfield 110, 3) := by decide +kernel
theorem dX9_begins_175 : decode cX9_begins 175 = .ok (.iconst 4, 1) := by decide +kernel
theorem dX9_begins_176 : decode cX9_begins 176 = .ok (.iload_n 1, 1) := by decide +kernel
theorem dX9_begins_177 : decode cX9_begins 177 = .ok (.imul, 1) := by decide +kernel
theorem dX9_begins_178 : decode cX9_begins 178 = .ok (.aload_n 0, 1) := by decide +kernel
theorem dX9_begins_179 : decode cX9_begins 179 = .ok (.getfield 107, 3) := by decide +kernel
theorem dX9_begins_182 : decode cX9_begins 182 = .ok (.iload_n 1, 1) := by decide +kernel
theorem dX9_begins_183 : decode cX9_begins 183 = .ok (.iaload, 1) := by decide +kernel
theorem dX9_begins_184 : decode cX9_begins 184 = .ok (.iadd, 1) := by decide +kernel
theorem dX9_begins_185 : decode cX9_begins 185 = .ok (.iload 4, 2) := by decide +kernel
theorem dX9_begins_187 : decode cX9_begins 187 = .ok (.iastore, 1) := by decide +kernel
theorem dX9_begins_188 : decode cX9_begins 188 = .ok (.aload_n 0, 1) := by decide +kernel
theorem dX9_begins_189 : decode cX9_begins 189 = .ok (.invokevirtual 242, 3) := by decide +kernel
theorem dX9_begins_192 : decode cX9_begins 192 = .ok (.aload_n 0, 1) := by decide +kernel
theorem dX9_begins_193 : decode cX9_begins 193 = .ok (.invokevirtual 234, 3) := by decide +kernel
theorem dX9_begins_196 : decode cX9_begins 196 = .ok (.ifCond .eq 69, 3) := by decide +kernel
theorem dX9_begins_199 : decode cX9_begins 199 = .ok (.aload_n 0, 1) := by decide +kernel
theorem dX9_begins_200 : decode cX9_begins 200 = .ok (.getfield 210, 3) := by decide +kernel
theorem dX9_begins_203 : decode cX9_begins 203 = .ok (.iconst 3, 1) := by decide +kernel
theorem dX9_begins_204 : decode cX9_begins 204 = .ok (.if_icmp .ne 61, 3) := by decide +kernel
theorem dX9_begins_207 : decode cX9_begins 207 = .ok (.aload_n 0, 1) := by decide +kernel
theorem dX9_begins_208 : decode cX9_begins 208 = .ok (.getfield 206, 3) := by decide +kernel
theorem dX9_begins_211 : decode cX9_begins 211 = .ok (.ldc2_w 220, 3) := by decide +kernel
theorem dX9_begins_214 : decode cX9_begins 214 = .ok (.lcmp, 1) := by decide +kernel
theorem dX9_begins_215 : decode cX9_begins 215 = .ok (.ifCond .le 12, 3) := by decide +kernel
theorem dX9_begins_218 : decode cX9_begins 218 = .ok (.aload_n 0, 1) := by decide +kernel
theorem dX9_begins_219 : decode cX9_begins 219 = .ok (.iconst 5, 1) := by decide +kernel
theorem dX9_begins_220 : decode cX9_begins 220 = .ok (.aload_n 0, 1) := by decide +kernel
theorem dX9_begins_221 : decode cX9_begins 221 = .ok (.getfield 190, 3) := by decide +kernel
theorem dX9_begins_224 : decode cX9_begins 224 = .ok (.invokevirtual 193, 3) := by decide +kernel
theorem dX9_begins_227 : decode cX9_begins 227 = .ok (.aload_n 0, 1) := by decide +kernel
theorem dX9_begins_228 : decode cX9_begins 228 = .ok (.getfield 104, 3) := by decide +kernel
theorem dX9_begins_231 : decode cX9_begins 231 = .ok (.iload 4, 2) := by decide +kernel
theorem dX9_begins_233 : decode cX9_begins 233 = .ok (.aload_n 0, 1) := by decide +kernel
theorem dX9_begins_234 : decode cX9_begins 234 = .ok (.getfield 206, 3) := by decide +kernel
theorem dX9_begins_237 : decode cX9_begins 237 = .ok (.ldc2_w 220, 3) := by decide +kernel
theorem dX9_begins_240 : decode cX9_begins 240 = .ok (.lcmp, 1) := by decide +kernel
theorem dX9_begins_241 : decode cX9_begins 241 = .ok (.ifCond .le 7, 3) := by decide +kernel
theorem dX9_begins_244 : decode cX9_begins 244 = .ok (.iconst 0, 1) := by decide +kernel
theorem dX9_begins_245 : decode cX9_begins 245 = .ok (.goto 8, 3) := by decide +kernel
theorem dX9_begins_248 : decode cX9_begins 248 = .ok (.aload_n 0, 1) := by decide +kernel
theorem dX9_begins_249 : decode cX9_begins 249 = .ok (.getfield 206, 3) := by decide +kernel
theorem dX9_begins_252 : decode cX9_begins 252 = .ok (.l2i, 1) := by decide +kernel
theorem dX9_begins_253 : decode cX9_begins 253 = .ok (.iastore, 1) := by decide +kernel
theorem dX9_begins_254 : decode cX9_begins 254 = .ok (.aload_n 0, 1) := by decide +kernel
theorem dX9_begins_255 : decode cX9_begins 255 = .ok (.invokevirtual 234, 3) := by decide +kernel
theorem dX9_begins_258 : decode cX9_begins 258 = .ok (.ifCond .eq 7, 3) := by decide +kernel
theorem dX9_begins_261 : decode cX9_begins 261 = .ok (.aload_n 0, 1) := by decide +kernel
theorem dX9_begins_262 : decode cX9_begins 262 = .ok (.invokevirtual 242, 3) := by decide +kernel
theorem dX9_begins_265 : decode cX9_begins 265 = .ok (.iload 4, 2) := by decide +kernel
theorem dX9_begins_267 : decode cX9_begins 267 = .ok (.ireturn, 1) := by decide +kernel
theorem dX9_bitOf_0 : decode cX9_bitOf 0 = .ok (.iconst 1, 1) := by decide +kernel
theorem dX9_bitOf_1 : decode cX9_bitOf 1 = .ok (.aload_n 0, 1) := by decide +kernel
theorem dX9_bitOf_2 : decode cX9_bitOf 2 = .ok (.iload_n 1, 1) := by decide +kernel
theorem dX9_bitOf_3 : decode cX9_bitOf 3 = .ok (.iload_n 2, 1) := by decide +kernel
theorem dX9_bitOf_4 : decode cX9_bitOf 4 = .ok (.invokevirtual 415, 3) := by decide +kernel
theorem dX9_bitOf_7 : decode cX9_bitOf 7 = .ok (.aload_n 0, 1) := by decide +kernel
theorem dX9_bitOf_8 : decode cX9_bitOf 8 = .ok (.getfield 30, 3) := by decide +kernel
theorem dX9_bitOf_11 : decode cX9_bitOf 11 = .ok (.iload_n 1, 1) := by decide +kernel
theorem dX9_bitOf_12 : decode cX9_bitOf 12 = .ok (.iaload, 1) := by decide +kernel
theorem dX9_bitOf_13 : decode cX9_bitOf 13 = .ok (.aload_n 0, 1) := by decide +kernel
theorem dX9_bitOf_14 : decode cX9_bitOf 14 = .ok (.iload_n 1, 1) := by decide +kernel
theorem dX9_bitOf_15 : decode cX9_bitOf 15 = .ok (.invokevirtual 419, 3) := by decide +kernel
theorem dX9_bitOf_18 : decode cX9_bitOf 18 = .ok (.isub, 1) := by decide +kernel
theorem dX9_bitOf_19 : decode cX9_bitOf 19 = .ok (.imul, 1) := by decide +kernel
theorem dX9_bitOf_20 : decode cX9_bitOf 20 = .ok (.aload_n 0, 1) := by decide +kernel
theorem dX9_bitOf_21 : decode cX9_bitOf 21 = .ok (.iload_n 1, 1) := by decide +kernel
theorem dX9_bitOf_22 : decode cX9_bitOf 22 = .ok (.iload_n 3, 1) := by decide +kernel
theorem dX9_bitOf_23 : decode cX9_bitOf 23 = .ok (.invokevirtual 415, 3) := by decide +kernel
theorem dX9_bitOf_26 : decode cX9_bitOf 26 = .ok (.iadd, 1) := by decide +kernel
theorem dX9_bitOf_27 : decode cX9_bitOf 27 = .ok (.ishl, 1) := by decide +kernel
theorem dX9_bitOf_28 : decode cX9_bitOf 28 = .ok (.ireturn, 1) := by decide +kernel
theorem dX9_blanks_0 : decode cX9_blanks 0 = .ok (.aload_n 0, 1) := by decide +kernel
theorem dX9_blanks_1 : decode cX9_blanks 1 = .ok (.getfield 197, 3) := by decide +kernel
theorem dX9_blanks_4 : decode cX9_blanks 4 = .ok (.aload_n 0, 1) := by decide +kernel
theorem dX9_blanks_5 : decode cX9_blanks 5 = .ok (.getfield 200, 3) := by decide +kernel
theorem dX9_blanks_8 : decode cX9_blanks 8 = .ok (.if_icmp .ge 44, 3) := by decide +kernel
theorem dX9_blanks_11 : decode cX9_blanks 11 = .ok (.aload_n 0, 1) := by decide +kernel
theorem dX9_blanks_12 : decode cX9_blanks 12 = .ok (.getfield 13, 3) := by decide +kernel
theorem dX9_blanks_15 : decode cX9_blanks 15 = .ok (.aload_n 0, 1) := by decide +kernel
theorem dX9_blanks_16 : decode cX9_blanks 16 = .ok (.getfield 197, 3) := by decide +kernel
theorem dX9_blanks_19 : decode cX9_blanks 19 = .ok (.baload, 1) := by decide +kernel
theorem dX9_blanks_20 : decode cX9_blanks 20 = .ok (.bipush 32, 2) := by decide +kernel
theorem dX9_blanks_22 : decode cX9_blanks 22 = .ok (.if_icmp .eq 17, 3) := by decide +kernel
theorem dX9_blanks_25 : decode cX9_blanks 25 = .ok (.aload_n 0, 1) := by decide +kernel
theorem dX9_blanks_26 : decode cX9_blanks 26 = .ok (.getfield 13, 3) := by decide +kernel
theorem dX9_blanks_29 : decode cX9_blanks 29 = .ok (.aload_n 0, 1) := by decide +kernel
theorem dX9_blanks_30 : decode cX9_blanks 30 = .ok (.getfield 197, 3) := by decide +kernel
theorem dX9_blanks_33 : decode cX9_blanks 33 = .ok (.baload, 1) := by decide +kernel
theorem dX9_blanks_34 : decode cX9_blanks 34 = .ok (.bipush 10, 2) := by decide +kernel
theorem dX9_blanks_36 : decode cX9_blanks 36 = .ok (.if_icmp .ne 16, 3) := by decide +kernel
theorem dX9_blanks_39 : decode cX9_blanks 39 = .ok (.aload_n 0, 1) := by decide +kernel
theorem dX9_blanks_40 : decode cX9_blanks 40 = .ok (.dup, 1) := by decide +kernel
theorem dX9_blanks_41 : decode cX9_blanks 41 = .ok (.getfield 197, 3) := by decide +kernel
theorem dX9_blanks_44 : decode cX9_blanks 44 = .ok (.iconst 1, 1) := by decide +kernel
theorem dX9_blanks_45 : decode cX9_blanks 45 = .ok (.iadd, 1) := by decide +kernel
theorem dX9_blanks_46 : decode cX9_blanks 46 = .ok (.putfield 197, 3) := by decide +kernel
theorem dX9_blanks_49 : decode cX9_blanks 49 = .ok (.goto (-49), 3) := by decide +kernel
theorem dX9_blanks_52 : decode cX9_blanks 52 = .ok (.return_, 1) := by decide +kernel
theorem dX9_chooses_0 : decode cX9_chooses 0 = .ok (.aload_n 0, 1) := by decide +kernel
theorem dX9_chooses_1 : decode cX9_chooses 1 = .ok (.getfield 47, 3) := by decide +kernel
theorem dX9_chooses_4 : decode cX9_chooses 4 = .ok (.iconst 4, 1) := by decide +kernel
theorem dX9_chooses_5 : decode cX9_chooses 5 = .ok (.iload_n 1, 1) := by decide +kernel
theorem dX9_chooses_6 : decode cX9_chooses 6 = .ok (.imul, 1) := by decide +kernel
theorem dX9_chooses_7 : decode cX9_chooses 7 = .ok (.iaload, 1) := by decide +kernel
theorem dX9_chooses_8 : decode cX9_chooses 8 = .ok (.istore_n 2, 1) := by decide +kernel
theorem dX9_chooses_9 : decode cX9_chooses 9 = .ok (.aload_n 0, 1) := by decide +kernel
theorem dX9_chooses_10 : decode cX9_chooses 10 = .ok (.iload_n 1, 1) := by decide +kernel
theorem dX9_chooses_11 : decode cX9_chooses 11 = .ok (.invokevirtual 452, 3) := by decide +kernel
theorem dX9_chooses_14 : decode cX9_chooses 14 = .ok (.lstore_n 3, 1) := by decide +kernel
theorem dX9_chooses_15 : decode cX9_chooses 15 = .ok (.iconst 0, 1) := by decide +kernel
theorem dX9_chooses_16 : decode cX9_chooses 16 = .ok (.istore 5, 2) := by decide +kernel
theorem dX9_chooses_18 : decode cX9_chooses 18 = .ok (.aload_n 0, 1) := by decide +kernel
theorem dX9_chooses_19 : decode cX9_chooses 19 = .ok (.getfield 134, 3) := by decide +kernel
theorem dX9_chooses_22 : decode cX9_chooses 22 = .ok (.iload_n 1, 1) := by decide +kernel
theorem dX9_chooses_23 : decode cX9_chooses 23 = .ok (.iconst 0, 1) := by decide +kernel
theorem dX9_chooses_24 : decode cX9_chooses 24 = .ok (.bastore, 1) := by decide +kernel
theorem dX9_chooses_25 : decode cX9_chooses 25 = .ok (.lload_n 3, 1) := by decide +kernel
theorem dX9_chooses_26 : decode cX9_chooses 26 = .ok (.ldc2_w 456, 3) := by decide +kernel
theorem dX9_chooses_29 : decode cX9_chooses 29 = .ok (.lcmp, 1) := by decide +kernel
theorem dX9_chooses_30 : decode cX9_chooses 30 = .ok (.ifCond .le 10, 3) := by decide +kernel
theorem dX9_chooses_33 : decode cX9_chooses 33 = .ok (.aload_n 0, 1) := by decide +kernel
theorem dX9_chooses_34 : decode cX9_chooses 34 = .ok (.iconst 1, 1) := by decide +kernel
theorem dX9_chooses_35 : decode cX9_chooses 35 = .ok (.putfield 446, 3) := by decide +kernel
theorem dX9_chooses_38 : decode cX9_chooses 38 = .ok (.iconst 0, 1) := by decide +kernel
theorem dX9_chooses_39 : decode cX9_chooses 39 = .ok (.ireturn, 1) := by decide +kernel
theorem dX9_chooses_40 : decode cX9_chooses 40 = .ok (.aload_n 0, 1) := by decide +kernel
theorem dX9_chooses_41 : decode cX9_chooses 41 = .ok (.getfield 44, 3) := by decide +kernel
theorem dX9_chooses_44 : decode cX9_chooses 44 = .ok (.iload_n 1, 1) := by decide +kernel
theorem dX9_chooses_45 : decode cX9_chooses 45 = .ok (.iaload, 1) := by decide +kernel
theorem dX9_chooses_46 : decode cX9_chooses 46 = .ok (.ifCond .le 21, 3) := by decide +kernel
theorem dX9_chooses_49 : decode cX9_chooses 49 = .ok (.aload_n 0, 1) := by decide +kernel
theorem dX9_chooses_50 : decode cX9_chooses 50 = .ok (.getfield 125, 3) := by decide +kernel
theorem dX9_chooses_53 : decode cX9_chooses 53 = .ok (.aload_n 0, 1) := by decide +kernel
theorem dX9_chooses_54 : decode cX9_chooses 54 = .ok (.getfield 47, 3) := by decide +kernel
theorem dX9_chooses_57 : decode cX9_chooses 57 = .ok (.iconst 4, 1) := by decide +kernel
theorem dX9_chooses_58 : decode cX9_chooses 58 = .ok (.iload_n 1, 1) := by decide +kernel
theorem dX9_chooses_59 : decode cX9_chooses 59 = .ok (.imul, 1) := by decide +kernel
theorem dX9_chooses_60 : decode cX9_chooses 60 = .ok (.iconst 1, 1) := by decide +kernel
theorem dX9_chooses_61 : decode cX9_chooses 61 = .ok (.iadd, 1) := by decide +kernel
theorem dX9_chooses_62 : decode cX9_chooses 62 = .ok (.iaload, 1) := by decide +kernel
theorem dX9_chooses_63 : decode cX9_chooses 63 = .ok (.iaload, 1) := by decide +kernel
theorem dX9_chooses_64 : decode cX9_chooses 64 = .ok (.goto 4, 3) := by decide +kernel
theorem dX9_chooses_67 : decode cX9_chooses 67 = .ok (.iconst 1, 1) := by decide +kernel
theorem dX9_chooses_68 : decode cX9_chooses 68 = .ok (.istore 6, 2) := by decide +kernel
theorem dX9_chooses_70 : decode cX9_chooses 70 = .ok (.aload_n 0, 1) := by decide +kernel
theorem dX9_chooses_71 : decode cX9_chooses 71 = .ok (.getfield 44, 3) := by decide +kernel
theorem dX9_chooses_74 : decode cX9_chooses 74 = .ok (.iload_n 1, 1) := by decide +kernel
theorem dX9_chooses_75 : decode cX9_chooses 75 = .ok (.iaload, 1) := by decide +kernel
theorem dX9_chooses_76 : decode cX9_chooses 76 = .ok (.iconst 1, 1) := by decide +kernel
theorem dX9_chooses_77 : decode cX9_chooses 77 = .ok (.if_icmp .le 21, 3) := by decide +kernel
theorem dX9_chooses_80 : decode cX9_chooses 80 = .ok (.aload_n 0, 1) := by decide +kernel
theorem dX9_chooses_81 : decode cX9_chooses 81 = .ok (.getfield 125, 3) := by decide +kernel
theorem dX9_chooses_84 : decode cX9_chooses 84 = .ok (.aload_n 0, 1) := by decide +kernel
theorem dX9_chooses_85 : decode cX9_chooses 85 = .ok (.getfield 47, 3) := by decide +kernel
theorem dX9_chooses_88 : decode cX9_chooses 88 = .ok (.iconst 4, 1) := by decide +kernel
theorem dX9_chooses_89 : decode cX9_chooses 89 = .ok (.iload_n 1, 1) := by decide +kernel
theorem dX9_chooses_90 : decode cX9_chooses 90 = .ok (.imul, 1) := by decide +kernel
theorem dX9_chooses_91 : decode cX9_chooses 91 = .ok (.iconst 2, 1) := by decide +kernel
theorem dX9_chooses_92 : decode cX9_chooses 92 = .ok (.iadd, 1) := by decide +kernel
theorem dX9_chooses_93 : decode cX9_chooses 93 = .ok (.iaload, 1) := by decide +kernel
theorem dX9_chooses_94 : decode cX9_chooses 94 = .ok (.iaload, 1) := by decide +kernel
theorem dX9_chooses_95 : decode cX9_chooses 95 = .ok (.goto 4, 3) := by decide +kernel
theorem dX9_chooses_98 : decode cX9_chooses 98 = .ok (.iconst 1, 1) := by decide +kernel
theorem dX9_chooses_99 : decode cX9_chooses 99 = .ok (.istore 7, 2) := by decide +kernel
theorem dX9_chooses_101 : decode cX9_chooses 101 = .ok (.iconst 0, 1) := by decide +kernel
theorem dX9_chooses_102 : decode cX9_chooses 102 = .ok (.istore 8, 2) := by decide +kernel
theorem dX9_chooses_104 : decode cX9_chooses 104 = .ok (.iload 8, 2) := by decide +kernel
theorem dX9_chooses_106 : decode cX9_chooses 106 = .ok (.i2l, 1) := by decide +kernel
theorem dX9_chooses_107 : decode cX9_chooses 107 = .ok (.lload_n 3, 1) := by decide +kernel
theorem dX9_chooses_108 : decode cX9_chooses 108 = .ok (.lcmp, 1) := by decide +kernel
theorem dX9_chooses_109 : decode cX9_chooses 109 = .ok (.ifCond .ge 228, 3) := by decide +kernel
theorem dX9_chooses_112 : decode cX9_chooses 112 = .ok (.aload_n 0, 1) := by decide +kernel
theorem dX9_chooses_113 : decode cX9_chooses 113 = .ok (.getfield 140, 3) := by decide +kernel
theorem dX9_chooses_116 : decode cX9_chooses 116 = .ok (.iconst 1, 1) := by decide +kernel
theorem dX9_chooses_117 : decode cX9_chooses 117 = .ok (.aload_n 0, 1) := by decide +kernel
theorem dX9_chooses_118 : decode cX9_chooses 118 = .ok (.getfield 44, 3) := by decide +kernel
theorem dX9_chooses_121 : decode cX9_chooses 121 = .ok (.iload_n 1, 1) := by decide +kernel
theorem dX9_chooses_122 : decode cX9_chooses 122 = .ok (.iaload, 1) := by decide +kernel
theorem dX9_chooses_123 : decode cX9_chooses 123 = .ok (.ifCond .le 25, 3) := by decide +kernel
theorem dX9_chooses_126 : decode cX9_chooses 126 = .ok (.aload_n 0, 1) := by decide +kernel
theorem dX9_chooses_127 : decode cX9_chooses 127 = .ok (.aload_n 0, 1) := by decide +kernel
theorem dX9_chooses_128 : decode cX9_chooses 128 = .ok (.getfield 47, 3) := by decide +kernel
theorem dX9_chooses_131 : decode cX9_chooses 131 = .ok (.iconst 4, 1) := by decide +kernel
theorem dX9_chooses_132 : decode cX9_chooses 132 = .ok (.iload_n 1, 1) := by decide +kernel
theorem dX9_chooses_133 : decode cX9_chooses 133 = .ok (.imul, 1) := by decide +kernel
theorem dX9_chooses_134 : decode cX9_chooses 134 = .ok (.iconst 1, 1) := by decide +kernel
theorem dX9_chooses_135 : decode cX9_chooses 135 = .ok (.iadd, 1) := by decide +kernel
theorem dX9_chooses_136 : decode cX9_chooses 136 = .ok (.iaload, 1) := by decide +kernel
theorem dX9_chooses_137 : decode cX9_chooses 137 = .ok (.iload 8, 2) := by decide +kernel
theorem dX9_chooses_139 : decode cX9_chooses 139 = .ok (.iload 6, 2) := by decide +kernel
theorem dX9_chooses_141 : decode cX9_chooses 141 = .ok (.irem, 1) := by decide +kernel
theorem dX9_chooses_142 : decode cX9_chooses 142 = .ok (.invokevirtual 458, 3) := by decide +kernel
theorem dX9_chooses_145 : decode cX9_chooses 145 = .ok (.goto 4, 3) := by decide +kernel
theorem dX9_chooses_148 : decode cX9_chooses 148 = .ok (.iconst 0, 1) := by decide +kernel
theorem dX9_chooses_149 : decode cX9_chooses 149 = .ok (.iastore, 1) := by decide +kernel
theorem dX9_chooses_150 : decode cX9_chooses 150 = .ok (.aload_n 0, 1) := by decide +kernel
theorem dX9_chooses_151 : decode cX9_chooses 151 = .ok (.getfield 140, 3) := by decide +kernel
theorem dX9_chooses_154 : decode cX9_chooses 154 = .ok (.iconst 2, 1) := by decide +kernel
theorem dX9_chooses_155 : decode cX9_chooses 155 = .ok (.aload_n 0, 1) := by decide +kernel
theorem dX9_chooses_156 : decode cX9_chooses 156 = .ok (.getfield 44, 3) := by decide +kernel
theorem dX9_chooses_159 : decode cX9_chooses 159 = .ok (.iload_n 1, 1) := by decide +kernel
theorem dX9_chooses_160 : decode cX9_chooses 160 = .ok (.iaload, 1) := by decide +kernel
theorem dX9_chooses_161 : decode cX9_chooses 161 = .ok (.iconst 1, 1) := by decide +kernel
theorem dX9_chooses_162 : decode cX9_chooses 162 = .ok (.if_icmp .le 28, 3) := by decide +kernel
theorem dX9_chooses_165 : decode cX9_chooses 165 = .ok (.aload_n 0, 1) := by decide +kernel
theorem dX9_chooses_166 : decode cX9_chooses 166 = .ok (.aload_n 0, 1) := by decide +kernel
theorem dX9_chooses_167 : decode cX9_chooses 167 = .ok (.getfield 47, 3) := by decide +kernel
theorem dX9_chooses_170 : decode cX9_chooses 170 = .ok (.iconst 4, 1) := by decide +kernel
theorem dX9_chooses_171 : decode cX9_chooses 171 = .ok (.iload_n 1, 1) := by decide +kernel
theorem dX9_chooses_172 : decode cX9_chooses 172 = .ok (.imul, 1) := by decide +kernel
theorem dX9_chooses_173 : decode cX9_chooses 173 = .ok (.iconst 2, 1) := by decide +kernel
theorem dX9_chooses_174 : decode cX9_chooses 174 = .ok (.iadd, 1) := by decide +kernel
theorem dX9_chooses_175 : decode cX9_chooses 175 = .ok (.iaload, 1) := by decide +kernel
theorem dX9_chooses_176 : decode cX9_chooses 176 = .ok (.iload 8, 2) := by decide +kernel
theorem dX9_chooses_178 : decode cX9_chooses 178 = .ok (.iload 6, 2) := by decide +kernel
theorem dX9_chooses_180 : decode cX9_chooses 180 = .ok (.idiv, 1) := by decide +kernel
theorem dX9_chooses_181 : decode cX9_chooses 181 = .ok (.iload 7, 2) := by decide +kernel
theorem dX9_chooses_183 : decode cX9_chooses 183 = .ok (.irem, 1) := by decide +kernel
theorem dX9_chooses_184 : decode cX9_chooses 184 = .ok (.invokevirtual 458, 3) := by decide +kernel
theorem dX9_chooses_187 : decode cX9_chooses 187 = .ok (.goto 4, 3) := by decide +kernel
theorem dX9_chooses_190 : decode cX9_chooses 190 = .ok (.iconst 0, 1) := by decide +kernel
theorem dX9_chooses_191 : decode cX9_chooses 191 = .ok (.iastore, 1) := by decide +kernel
theorem dX9_chooses_192 : decode cX9_chooses 192 = .ok (.aload_n 0, 1) := by decide +kernel
theorem dX9_chooses_193 : decode cX9_chooses 193 = .ok (.getfield 140, 3) := by decide +kernel
theorem dX9_chooses_196 : decode cX9_chooses 196 = .ok (.iconst 3, 1) := by decide +kernel
theorem dX9_chooses_197 : decode cX9_chooses 197 = .ok (.aload_n 0, 1) := by decide +kernel
theorem dX9_chooses_198 : decode cX9_chooses 198 = .ok (.getfield 44, 3) := by decide +kernel
theorem dX9_chooses_201 : decode cX9_chooses 201 = .ok (.iload_n 1, 1) := by decide +kernel
theorem dX9_chooses_202 : decode cX9_chooses 202 = .ok (.iaload, 1) := by decide +kernel
theorem dX9_chooses_203 : decode cX9_chooses 203 = .ok (.iconst 2, 1) := by decide +kernel
theorem dX9_chooses_204 : decode cX9_chooses 204 = .ok (.if_icmp .le 28, 3) := by decide +kernel
theorem dX9_chooses_207 : decode cX9_chooses 207 = .ok (.aload_n 0, 1) := by decide +kernel
theorem dX9_chooses_208 : decode cX9_chooses 208 = .ok (.aload_n 0, 1) := by decide +kernel
theorem dX9_chooses_209 : decode cX9_chooses 209 = .ok (.getfield 47, 3) := by decide +kernel
theorem dX9_chooses_212 : decode cX9_chooses 212 = .ok (.iconst 4, 1) := by decide +kernel
theorem dX9_chooses_213 : decode cX9_chooses 213 = .ok (.iload_n 1, 1) := by decide +kernel
theorem dX9_chooses_214 : decode cX9_chooses 214 = .ok (.imul, 1) := by decide +kernel
theorem dX9_chooses_215 : decode cX9_chooses 215 = .ok (.iconst 3, 1) := by decide +kernel
theorem dX9_chooses_216 : decode cX9_chooses 216 = .ok (.iadd, 1) := by decide +kernel
theorem dX9_chooses_217 : decode cX9_chooses 217 = .ok (.iaload, 1) := by decide +kernel
theorem dX9_chooses_218 : decode cX9_chooses 218 = .ok (.iload 8, 2) := by decide +kernel
theorem dX9_chooses_220 : decode cX9_chooses 220 = .ok (.iload 6, 2) := by decide +kernel
theorem dX9_chooses_222 : decode cX9_chooses 222 = .ok (.idiv, 1) := by decide +kernel
theorem dX9_chooses_223 : decode cX9_chooses 223 = .ok (.iload 7, 2) := by decide +kernel
theorem dX9_chooses_225 : decode cX9_chooses 225 = .ok (.idiv, 1) := by decide +kernel
theorem dX9_chooses_226 : decode cX9_chooses 226 = .ok (.invokevirtual 458, 3) := by decide +kernel
theorem dX9_chooses_229 : decode cX9_chooses 229 = .ok (.goto 4, 3) := by decide +kernel
theorem dX9_chooses_232 : decode cX9_chooses 232 = .ok (.iconst 0, 1) := by decide +kernel
theorem dX9_chooses_233 : decode cX9_chooses 233 = .ok (.iastore, 1) := by decide +kernel
theorem dX9_chooses_234 : decode cX9_chooses 234 = .ok (.aload_n 0, 1) := by decide +kernel
theorem dX9_chooses_235 : decode cX9_chooses 235 = .ok (.iload_n 1, 1) := by decide +kernel
theorem dX9_chooses_236 : decode cX9_chooses 236 = .ok (.invokevirtual 437, 3) := by decide +kernel
theorem dX9_chooses_239 : decode cX9_chooses 239 = .ok (.aload_n 0, 1) := by decide +kernel
theorem dX9_chooses_240 : decode cX9_chooses 240 = .ok (.getfield 134, 3) := by decide +kernel
theorem dX9_chooses_243 : decode cX9_chooses 243 = .ok (.iload_n 1, 1) := by decide +kernel
theorem dX9_chooses_244 : decode cX9_chooses 244 = .ok (.aload_n 0, 1) := by decide +kernel
theorem dX9_chooses_245 : decode cX9_chooses 245 = .ok (.getfield 134, 3) := by decide +kernel
theorem dX9_chooses_248 : decode cX9_chooses 248 = .ok (.iload_n 1, 1) := by decide +kernel
theorem dX9_chooses_249 : decode cX9_chooses 249 = .ok (.baload, 1) := by decide +kernel
theorem dX9_chooses_250 : decode cX9_chooses 250 = .ok (.ifCond .ne 10, 3) := by decide +kernel
theorem dX9_chooses_253 : decode cX9_chooses 253 = .ok (.aload_n 0, 1) := by decide +kernel
theorem dX9_chooses_254 : decode cX9_chooses 254 = .ok (.invokevirtual 440, 3) := by decide +kernel
theorem dX9_chooses_257 : decode cX9_chooses 257 = .ok (.ifCond .eq 7, 3) := by decide +kernel
theorem dX9_chooses_260 : decode cX9_chooses 260 = .ok (.iconst 1, 1) := by decide +kernel
theorem dX9_chooses_261 : decode cX9_chooses 261 = .ok (.goto 4, 3) := by decide +kernel
theorem dX9_chooses_264 : decode cX9_chooses 264 = .ok (.iconst 0, 1) := by decide +kernel
theorem dX9_chooses_265 : decode cX9_chooses 265 = .ok (.bastore, 1) := by decide +kernel
theorem dX9_chooses_266 : decode cX9_chooses 266 = .ok (.aload_n 0, 1) := by decide +kernel
theorem dX9_chooses_267 : decode cX9_chooses 267 = .ok (.iload_n 1, 1) := by decide +kernel
theorem dX9_chooses_268 : decode cX9_chooses 268 = .ok (.invokevirtual 443, 3) := by decide +kernel
theorem dX9_chooses_271 : decode cX9_chooses 271 = .ok (.istore 9, 2) := by decide +kernel
theorem dX9_chooses_273 : decode cX9_chooses 273 = .ok (.aload_n 0, 1) := by decide +kernel
theorem dX9_chooses_274 : decode cX9_chooses 274 = .ok (.getfield 122, 3) := by decide +kernel
theorem dX9_chooses_277 : decode cX9_chooses 277 = .ok (.sipush 512, 3) := by decide +kernel
theorem dX9_chooses_280 : decode cX9_chooses 280 = .ok (.iload_n 2, 1) := by decide +kernel
theorem dX9_chooses_281 : decode cX9_chooses 281 = .ok (.imul, 1) := by decide +kernel
theorem dX9_chooses_282 : decode cX9_chooses 282 = .ok (.iload 9, 2) := by decide +kernel
theorem dX9_chooses_284 : decode cX9_chooses 284 = .ok (.iadd, 1) := by decide +kernel
theorem dX9_chooses_285 : decode cX9_chooses 285 = .ok (.baload, 1) := by decide +kernel
theorem dX9_chooses_286 : decode cX9_chooses 286 = .ok (.ifCond .ne 45, 3) := by decide +kernel
theorem dX9_chooses_289 : decode cX9_chooses 289 = .ok (.aload_n 0, 1) := by decide +kernel
theorem dX9_chooses_290 : decode cX9_chooses 290 = .ok (.getfield 143, 3) := by decide +kernel
theorem dX9_chooses_293 : decode cX9_chooses 293 = .ok (.aload_n 0, 1) := by decide +kernel
theorem dX9_chooses_294 : decode cX9_chooses 294 = .ok (.getfield 461, 3) := by decide +kernel
theorem dX9_chooses_297 : decode cX9_chooses 297 = .ok (.sipush 512, 3) := by decide +kernel
theorem dX9_chooses_300 : decode cX9_chooses 300 = .ok (.iload_n 2, 1) := by decide +kernel
theorem dX9_chooses_301 : decode cX9_chooses 301 = .ok (.imul, 1) := by decide +kernel
theorem dX9_chooses_302 : decode cX9_chooses 302 = .ok (.iload 9, 2) := by decide +kernel
theorem dX9_chooses_304 : decode cX9_chooses 304 = .ok (.iadd, 1) := by decide +kernel
theorem dX9_chooses_305 : decode cX9_chooses 305 = .ok (.iastore, 1) := by decide +kernel
theorem dX9_chooses_306 : decode cX9_chooses 306 = .ok (.aload_n 0, 1) := by decide +kernel
theorem dX9_chooses_307 : decode cX9_chooses 307 = .ok (.dup, 1) := by decide +kernel
theorem dX9_chooses_308 : decode cX9_chooses 308 = .ok (.getfield 461, 3) := by decide +kernel
theorem dX9_chooses_311 : decode cX9_chooses 311 = .ok (.iconst 1, 1) := by decide +kernel
theorem dX9_chooses_312 : decode cX9_chooses 312 = .ok (.iadd, 1) := by decide +kernel
theorem dX9_chooses_313 : decode cX9_chooses 313 = .ok (.putfield 461, 3) := by decide +kernel
theorem dX9_chooses_316 : decode cX9_chooses 316 = .ok (.iconst 1, 1) := by decide +kernel
theorem dX9_chooses_317 : decode cX9_chooses 317 = .ok (.istore 5, 2) := by decide +kernel
theorem dX9_chooses_319 : decode cX9_chooses 319 = .ok (.aload_n 0, 1) := by decide +kernel
theorem dX9_chooses_320 : decode cX9_chooses 320 = .ok (.sipush 512, 3) := by decide +kernel
theorem dX9_chooses_323 : decode cX9_chooses 323 = .ok (.iload_n 2, 1) := by decide +kernel
theorem dX9_chooses_324 : decode cX9_chooses 324 = .ok (.imul, 1) := by decide +kernel
theorem dX9_chooses_325 : decode cX9_chooses 325 = .ok (.iload 9, 2) := by decide +kernel
theorem dX9_chooses_327 : decode cX9_chooses 327 = .ok (.iadd, 1) := by decide +kernel
theorem dX9_chooses_328 : decode cX9_chooses 328 = .ok (.invokevirtual 464, 3) := by decide +kernel
theorem dX9_chooses_331 : decode cX9_chooses 331 = .ok (.iinc 8 1, 3) := by decide +kernel
theorem dX9_chooses_334 : decode cX9_chooses 334 = .ok (.goto (-230), 3) := by decide +kernel
theorem dX9_chooses_337 : decode cX9_chooses 337 = .ok (.aload_n 0, 1) := by decide +kernel
theorem dX9_chooses_338 : decode cX9_chooses 338 = .ok (.invokevirtual 467, 3) := by decide +kernel
theorem dX9_chooses_341 : decode cX9_chooses 341 = .ok (.iload 5, 2) := by decide +kernel
theorem dX9_chooses_343 : decode cX9_chooses 343 = .ok (.ireturn, 1) := by decide +kernel
theorem dX9_comes_0 : decode cX9_comes 0 = .ok (.iconst 0, 1) := by decide +kernel
theorem dX9_comes_1 : decode cX9_comes 1 = .ok (.istore_n 1, 1) := by decide +kernel
theorem dX9_comes_2 : decode cX9_comes 2 = .ok (.iload_n 1, 1) := by decide +kernel
theorem dX9_comes_3 : decode cX9_comes 3 = .ok (.bipush 12, 2) := by decide +kernel
theorem dX9_comes_5 : decode cX9_comes 5 = .ok (.if_icmp .ge 16, 3) := by decide +kernel
theorem dX9_comes_8 : decode cX9_comes 8 = .ok (.aload_n 0, 1) := by decide +kernel
theorem dX9_comes_9 : decode cX9_comes 9 = .ok (.getfield 113, 3) := by decide +kernel
theorem dX9_comes_12 : decode cX9_comes 12 = .ok (.iload_n 1, 1) := by decide +kernel
theorem dX9_comes_13 : decode cX9_comes 13 = .ok (.iconst 0, 1) := by decide +kernel
theorem dX9_comes_14 : decode cX9_comes 14 = .ok (.bastore, 1) := by decide +kernel
theorem dX9_comes_15 : decode cX9_comes 15 = .ok (.iinc 1 1, 3) := by decide +kernel
theorem dX9_comes_18 : decode cX9_comes 18 = .ok (.goto (-16), 3) := by decide +kernel
theorem dX9_comes_21 : decode cX9_comes 21 = .ok (.iconst 0, 1) := by decide +kernel
theorem dX9_comes_22 : decode cX9_comes 22 = .ok (.istore_n 1, 1) := by decide +kernel
theorem dX9_comes_23 : decode cX9_comes 23 = .ok (.iload_n 1, 1) := by decide +kernel
theorem dX9_comes_24 : decode cX9_comes 24 = .ok (.aload_n 0, 1) := by decide +kernel
theorem dX9_comes_25 : decode cX9_comes 25 = .ok (.getfield 248, 3) := by decide +kernel
theorem dX9_comes_28 : decode cX9_comes 28 = .ok (.if_icmp .gt 47, 3) := by decide +kernel
theorem dX9_comes_31 : decode cX9_comes 31 = .ok (.iconst 0, 1) := by decide +kernel
theorem dX9_comes_32 : decode cX9_comes 32 = .ok (.istore_n 2, 1) := by decide +kernel
theorem dX9_comes_33 : decode cX9_comes 33 = .ok (.iload_n 2, 1) := by decide +kernel
theorem dX9_comes_34 : decode cX9_comes 34 = .ok (.aload_n 0, 1) := by decide +kernel
theorem dX9_comes_35 : decode cX9_comes 35 = .ok (.getfield 272, 3) := by decide +kernel
theorem dX9_comes_38 : decode cX9_comes 38 = .ok (.if_icmp .ge 31, 3) := by decide +kernel
theorem dX9_comes_41 : decode cX9_comes 41 = .ok (.aload_n 0, 1) := by decide +kernel
theorem dX9_comes_42 : decode cX9_comes 42 = .ok (.iload_n 2, 1) := by decide +kernel
theorem dX9_comes_43 : decode cX9_comes 43 = .ok (.invokevirtual 434, 3) := by decide +kernel
theorem dX9_comes_46 : decode cX9_comes 46 = .ok (.ifCond .eq 17, 3) := by decide +kernel
theorem dX9_comes_49 : decode cX9_comes 49 = .ok (.aload_n 0, 1) := by decide +kernel
theorem dX9_comes_50 : decode cX9_comes 50 = .ok (.getfield 113, 3) := by decide +kernel
theorem dX9_comes_53 : decode cX9_comes 53 = .ok (.aload_n 0, 1) := by decide +kernel
theorem dX9_comes_54 : decode cX9_comes 54 = .ok (.getfield 47, 3) := by decide +kernel
theorem dX9_comes_57 : decode cX9_comes 57 = .ok (.iconst 4, 1) := by decide +kernel
theorem dX9_comes_58 : decode cX9_comes 58 = .ok (.iload_n 2, 1) := by decide +kernel
theorem dX9_comes_59 : decode cX9_comes 59 = .ok (.imul, 1) := by decide +kernel
theorem dX9_comes_60 : decode cX9_comes 60 = .ok (.iaload, 1) := by decide +kernel
theorem dX9_comes_61 : decode cX9_comes 61 = .ok (.iconst 1, 1) := by decide +kernel
theorem dX9_comes_62 : decode cX9_comes 62 = .ok (.bastore, 1) := by decide +kernel
theorem dX9_comes_63 : decode cX9_comes 63 = .ok (.iinc 2 1, 3) := by decide +kernel
theorem dX9_comes_66 : decode cX9_comes 66 = .ok (.goto (-33), 3) := by decide +kernel
theorem dX9_comes_69 : decode cX9_comes 69 = .ok (.iinc 1 1, 3) := by decide +kernel
theorem dX9_comes_72 : decode cX9_comes 72 = .ok (.goto (-49), 3) := by decide +kernel
theorem dX9_comes_75 : decode cX9_comes 75 = .ok (.iconst 0, 1) := by decide +kernel
theorem dX9_comes_76 : decode cX9_comes 76 = .ok (.istore_n 1, 1) := by decide +kernel
theorem dX9_comes_77 : decode cX9_comes 77 = .ok (.iload_n 1, 1) := by decide +kernel
theorem dX9_comes_78 : decode cX9_comes 78 = .ok (.bipush 12, 2) := by decide +kernel
theorem dX9_comes_80 : decode cX9_comes 80 = .ok (.if_icmp .ge 24, 3) := by decide +kernel
theorem dX9_comes_83 : decode cX9_comes 83 = .ok (.aload_n 0, 1) := by decide +kernel
theorem dX9_comes_84 : decode cX9_comes 84 = .ok (.getfield 119, 3) := by decide +kernel
theorem dX9_comes_87 : decode cX9_comes 87 = .ok (.iload_n 1, 1) := by decide +kernel
theorem dX9_comes_88 : decode cX9_comes 88 = .ok (.iload_n 1, 1) := by decide +kernel
theorem dX9_comes_89 : decode cX9_comes 89 = .ok (.ifCond .ne 7, 3) := by decide +kernel
theorem dX9_comes_92 : decode cX9_comes 92 = .ok (.iconst 1, 1) := by decide +kernel
theorem dX9_comes_93 : decode cX9_comes 93 = .ok (.goto 4, 3) := by decide +kernel
theorem dX9_comes_96 : decode cX9_comes 96 = .ok (.iconst 0, 1) := by decide +kernel
theorem dX9_comes_97 : decode cX9_comes 97 = .ok (.bastore, 1) := by decide +kernel
theorem dX9_comes_98 : decode cX9_comes 98 = .ok (.iinc 1 1, 3) := by decide +kernel
theorem dX9_comes_101 : decode cX9_comes 101 = .ok (.goto (-24), 3) := by decide +kernel
theorem dX9_comes_104 : decode cX9_comes 104 = .ok (.iconst 0, 1) := by decide +kernel
theorem dX9_comes_105 : decode cX9_comes 105 = .ok (.istore_n 1, 1) := by decide +kernel
theorem dX9_comes_106 : decode cX9_comes 106 = .ok (.iload_n 1, 1) := by decide +kernel
theorem dX9_comes_107 : decode cX9_comes 107 = .ok (.aload_n 0, 1) := by decide +kernel
theorem dX9_comes_108 : decode cX9_comes 108 = .ok (.getfield 272, 3) := by decide +kernel
theorem dX9_comes_111 : decode cX9_comes 111 = .ok (.if_icmp .ge 16, 3) := by decide +kernel
theorem dX9_comes_114 : decode cX9_comes 114 = .ok (.aload_n 0, 1) := by decide +kernel
theorem dX9_comes_115 : decode cX9_comes 115 = .ok (.getfield 116, 3) := by decide +kernel
theorem dX9_comes_118 : decode cX9_comes 118 = .ok (.iload_n 1, 1) := by decide +kernel
theorem dX9_comes_119 : decode cX9_comes 119 = .ok (.iconst 0, 1) := by decide +kernel
theorem dX9_comes_120 : decode cX9_comes 120 = .ok (.bastore, 1) := by decide +kernel
theorem dX9_comes_121 : decode cX9_comes 121 = .ok (.iinc 1 1, 3) := by decide +kernel
theorem dX9_comes_124 : decode cX9_comes 124 = .ok (.goto (-18), 3) := by decide +kernel
theorem dX9_comes_127 : decode cX9_comes 127 = .ok (.iconst 0, 1) := by decide +kernel
theorem dX9_comes_128 : decode cX9_comes 128 = .ok (.istore_n 1, 1) := by decide +kernel
theorem dX9_comes_129 : decode cX9_comes 129 = .ok (.iload_n 1, 1) := by decide +kernel
theorem dX9_comes_130 : decode cX9_comes 130 = .ok (.aload_n 0, 1) := by decide +kernel
theorem dX9_comes_131 : decode cX9_comes 131 = .ok (.getfield 248, 3) := by decide +kernel
theorem dX9_comes_134 : decode cX9_comes 134 = .ok (.if_icmp .gt 103, 3) := by decide +kernel
theorem dX9_comes_137 : decode cX9_comes 137 = .ok (.iconst 0, 1) := by decide +kernel
theorem dX9_comes_138 : decode cX9_comes 138 = .ok (.istore_n 2, 1) := by decide +kernel
theorem dX9_comes_139 : decode cX9_comes 139 = .ok (.iload_n 2, 1) := by decide +kernel
theorem dX9_comes_140 : decode cX9_comes 140 = .ok (.aload_n 0, 1) := by decide +kernel
theorem dX9_comes_141 : decode cX9_comes 141 = .ok (.getfield 272, 3) := by decide +kernel
theorem dX9_comes_144 : decode cX9_comes 144 = .ok (.if_icmp .ge 87, 3) := by decide +kernel
theorem dX9_comes_147 : decode cX9_comes 147 = .ok (.aload_n 0, 1) := by decide +kernel
theorem dX9_comes_148 : decode cX9_comes 148 = .ok (.getfield 116, 3) := by decide +kernel
theorem dX9_comes_151 : decode cX9_comes 151 = .ok (.iload_n 2, 1) := by decide +kernel
theorem dX9_comes_152 : decode cX9_comes 152 = .ok (.aload_n 0, 1) := by decide +kernel
theorem dX9_comes_153 : decode cX9_comes 153 = .ok (.getfield 119, 3) := by decide +kernel
theorem dX9_comes_156 : decode cX9_comes 156 = .ok (.aload_n 0, 1) := by decide +kernel
theorem dX9_comes_157 : decode cX9_comes 157 = .ok (.getfield 47, 3) := by decide +kernel
theorem dX9_comes_160 : decode cX9_comes 160 = .ok (.iconst 4, 1) := by decide +kernel
theorem dX9_comes_161 : decode cX9_comes 161 = .ok (.iload_n 2, 1) := by decide +kernel
theorem dX9_comes_162 : decode cX9_comes 162 = .ok (.imul, 1) := by decide +kernel
theorem dX9_comes_163 : decode cX9_comes 163 = .ok (.iaload, 1) := by decide +kernel
theorem dX9_comes_164 : decode cX9_comes 164 = .ok (.baload, 1) := by decide +kernel
theorem dX9_comes_165 : decode cX9_comes 165 = .ok (.ifCond .eq 15, 3) := by decide +kernel
theorem dX9_comes_168 : decode cX9_comes 168 = .ok (.aload_n 0, 1) := by decide +kernel
theorem dX9_comes_169 : decode cX9_comes 169 = .ok (.iload_n 2, 1) := by decide +kernel
theorem dX9_comes_170 : decode cX9_comes 170 = .ok (.invokevirtual 434, 3) := by decide +kernel
theorem dX9_comes_173 : decode cX9_comes 173 = .ok (.ifCond .eq 7, 3) := by decide +kernel
theorem dX9_comes_176 : decode cX9_comes 176 = .ok (.iconst 1, 1) := by decide +kernel
theorem dX9_comes_177 : decode cX9_comes 177 = .ok (.goto 4, 3) := by decide +kernel
theorem dX9_comes_180 : decode cX9_comes 180 = .ok (.iconst 0, 1) := by decide +kernel
theorem dX9_comes_181 : decode cX9_comes 181 = .ok (.bastore, 1) := by decide +kernel
theorem dX9_comes_182 : decode cX9_comes 182 = .ok (.iconst 1, 1) := by decide +kernel
theorem dX9_comes_183 : decode cX9_comes 183 = .ok (.istore_n 3, 1) := by decide +kernel
theorem dX9_comes_184 : decode cX9_comes 184 = .ok (.iload_n 3, 1) := by decide +kernel
theorem dX9_comes_185 : decode cX9_comes 185 = .ok (.aload_n 0, 1) := by decide +kernel
theorem dX9_comes_186 : decode cX9_comes 186 = .ok (.getfield 44, 3) := by decide +kernel
theorem dX9_comes_189 : decode cX9_comes 189 = .ok (.iload_n 2, 1) := by decide +kernel
theorem dX9_comes_190 : decode cX9_comes 190 = .ok (.iaload, 1) := by decide +kernel
theorem dX9_comes_191 : decode cX9_comes 191 = .ok (.if_icmp .gt 34, 3) := by decide +kernel
theorem dX9_comes_194 : decode cX9_comes 194 = .ok (.aload_n 0, 1) := by decide +kernel
theorem dX9_comes_195 : decode cX9_comes 195 = .ok (.getfield 116, 3) := by decide +kernel
theorem dX9_comes_198 : decode cX9_comes 198 = .ok (.iload_n 2, 1) := by decide +kernel
theorem dX9_comes_199 : decode cX9_comes 199 = .ok (.baload, 1) := by decide +kernel
theorem dX9_comes_200 : decode cX9_comes 200 = .ok (.ifCond .eq 25, 3) := by decide +kernel
theorem dX9_comes_203 : decode cX9_comes 203 = .ok (.aload_n 0, 1) := by decide +kernel
theorem dX9_comes_204 : decode cX9_comes 204 = .ok (.getfield 119, 3) := by decide +kernel
theorem dX9_comes_207 : decode cX9_comes 207 = .ok (.aload_n 0, 1) := by decide +kernel
theorem dX9_comes_208 : decode cX9_comes 208 = .ok (.getfield 47, 3) := by decide +kernel
theorem dX9_comes_211 : decode cX9_comes 211 = .ok (.iconst 4, 1) := by decide +kernel
theorem dX9_comes_212 : decode cX9_comes 212 = .ok (.iload_n 2, 1) := by decide +kernel
theorem dX9_comes_213 : decode cX9_comes 213 = .ok (.imul, 1) := by decide +kernel
theorem dX9_comes_214 : decode cX9_comes 214 = .ok (.iload_n 3, 1) := by decide +kernel
theorem dX9_comes_215 : decode cX9_comes 215 = .ok (.iadd, 1) := by decide +kernel
theorem dX9_comes_216 : decode cX9_comes 216 = .ok (.iaload, 1) := by decide +kernel
theorem dX9_comes_217 : decode cX9_comes 217 = .ok (.iconst 1, 1) := by decide +kernel
theorem dX9_comes_218 : decode cX9_comes 218 = .ok (.bastore, 1) := by decide +kernel
theorem dX9_comes_219 : decode cX9_comes 219 = .ok (.iinc 3 1, 3) := by decide +kernel
theorem dX9_comes_222 : decode cX9_comes 222 = .ok (.goto (-38), 3) := by decide +kernel
theorem dX9_comes_225 : decode cX9_comes 225 = .ok (.iinc 2 1, 3) := by decide +kernel
theorem dX9_comes_228 : decode cX9_comes 228 = .ok (.goto (-89), 3) := by decide +kernel
theorem dX9_comes_231 : decode cX9_comes 231 = .ok (.iinc 1 1, 3) := by decide +kernel
theorem dX9_comes_234 : decode cX9_comes 234 = .ok (.goto (-105), 3) := by decide +kernel
theorem dX9_comes_237 : decode cX9_comes 237 = .ok (.return_, 1) := by decide +kernel
theorem dX9_counts_0 : decode cX9_counts 0 = .ok (.aload_n 0, 1) := by decide +kernel
theorem dX9_counts_1 : decode cX9_counts 1 = .ok (.getfield 311, 3) := by decide +kernel
theorem dX9_counts_4 : decode cX9_counts 4 = .ok (.bipush 40, 2) := by decide +kernel
theorem dX9_counts_6 : decode cX9_counts 6 = .ok (.if_icmp .ne 12, 3) := by decide +kernel
theorem dX9_counts_9 : decode cX9_counts 9 = .ok (.aload_n 0, 1) := by decide +kernel
theorem dX9_counts_10 : decode cX9_counts 10 = .ok (.iconst 4, 1) := by decide +kernel
theorem dX9_counts_11 : decode cX9_counts 11 = .ok (.aload_n 0, 1) := by decide +kernel
theorem dX9_counts_12 : decode cX9_counts 12 = .ok (.getfield 190, 3) := by decide +kernel
theorem dX9_counts_15 : decode cX9_counts 15 = .ok (.invokevirtual 193, 3) := by decide +kernel
theorem dX9_counts_18 : decode cX9_counts 18 = .ok (.aload_n 0, 1) := by decide +kernel
theorem dX9_counts_19 : decode cX9_counts 19 = .ok (.dup, 1) := by decide +kernel
theorem dX9_counts_20 : decode cX9_counts 20 = .ok (.getfield 311, 3) := by decide +kernel
theorem dX9_counts_23 : decode cX9_counts 23 = .ok (.iconst 1, 1) := by decide +kernel
theorem dX9_counts_24 : decode cX9_counts 24 = .ok (.iadd, 1) := by decide +kernel
theorem dX9_counts_25 : decode cX9_counts 25 = .ok (.putfield 311, 3) := by decide +kernel
theorem dX9_counts_28 : decode cX9_counts 28 = .ok (.return_, 1) := by decide +kernel
theorem dX9_demand_0 : decode cX9_demand 0 = .ok (.aload_n 0, 1) := by decide +kernel
theorem dX9_demand_1 : decode cX9_demand 1 = .ok (.iload_n 1, 1) := by decide +kernel
theorem dX9_demand_2 : decode cX9_demand 2 = .ok (.iload_n 2, 1) := by decide +kernel
theorem dX9_demand_3 : decode cX9_demand 3 = .ok (.invokevirtual 473, 3) := by decide +kernel
theorem dX9_demand_6 : decode cX9_demand 6 = .ok (.ifCond .ne 5, 3) := by decide +kernel
theorem dX9_demand_9 : decode cX9_demand 9 = .ok (.iconst (-1), 1) := by decide +kernel
theorem dX9_demand_10 : decode cX9_demand 10 = .ok (.ireturn, 1) := by decide +kernel
theorem dX9_demand_11 : decode cX9_demand 11 = .ok (.iconst 0, 1) := by decide +kernel
theorem dX9_demand_12 : decode cX9_demand 12 = .ok (.istore_n 3, 1) := by decide +kernel
theorem dX9_demand_13 : decode cX9_demand 13 = .ok (.aload_n 0, 1) := by decide +kernel
theorem dX9_demand_14 : decode cX9_demand 14 = .ok (.iconst 0, 1) := by decide +kernel
theorem dX9_demand_15 : decode cX9_demand 15 = .ok (.putfield 477, 3) := by decide +kernel
theorem dX9_demand_18 : decode cX9_demand 18 = .ok (.aload_n 0, 1) := by decide +kernel
theorem dX9_demand_19 : decode cX9_demand 19 = .ok (.bipush 6, 2) := by decide +kernel
theorem dX9_demand_21 : decode cX9_demand 21 = .ok (.iload_n 1, 1) := by decide +kernel
theorem dX9_demand_22 : decode cX9_demand 22 = .ok (.imul, 1) := by decide +kernel
theorem dX9_demand_23 : decode cX9_demand 23 = .ok (.iload_n 2, 1) := by decide +kernel
theorem dX9_demand_24 : decode cX9_demand 24 = .ok (.iadd, 1) := by decide +kernel
theorem dX9_demand_25 : decode cX9_demand 25 = .ok (.invokevirtual 480, 3) := by decide +kernel
theorem dX9_demand_28 : decode cX9_demand 28 = .ok (.aload_n 0, 1) := by decide +kernel
theorem dX9_demand_29 : decode cX9_demand 29 = .ok (.getfield 477, 3) := by decide +kernel
theorem dX9_demand_32 : decode cX9_demand 32 = .ok (.ifCond .le 164, 3) := by decide +kernel
theorem dX9_demand_35 : decode cX9_demand 35 = .ok (.iload_n 3, 1) := by decide +kernel
theorem dX9_demand_36 : decode cX9_demand 36 = .ok (.ifCond .ne 160, 3) := by decide +kernel
theorem dX9_demand_39 : decode cX9_demand 39 = .ok (.aload_n 0, 1) := by decide +kernel
theorem dX9_demand_40 : decode cX9_demand 40 = .ok (.getfield 161, 3) := by decide +kernel
theorem dX9_demand_43 : decode cX9_demand 43 = .ok (.aload_n 0, 1) := by decide +kernel
theorem dX9_demand_44 : decode cX9_demand 44 = .ok (.getfield 477, 3) := by decide +kernel
theorem dX9_demand_47 : decode cX9_demand 47 = .ok (.iconst 1, 1) := by decide +kernel
theorem dX9_demand_48 : decode cX9_demand 48 = .ok (.isub, 1) := by decide +kernel
theorem dX9_demand_49 : decode cX9_demand 49 = .ok (.iaload, 1) := by decide +kernel
theorem dX9_demand_50 : decode cX9_demand 50 = .ok (.istore 4, 2) := by decide +kernel
theorem dX9_demand_52 : decode cX9_demand 52 = .ok (.aload_n 0, 1) := by decide +kernel
theorem dX9_demand_53 : decode cX9_demand 53 = .ok (.iload 4, 2) := by decide +kernel
theorem dX9_demand_55 : decode cX9_demand 55 = .ok (.invokevirtual 483, 3) := by decide +kernel
theorem dX9_demand_58 : decode cX9_demand 58 = .ok (.istore 5, 2) := by decide +kernel
theorem dX9_demand_60 : decode cX9_demand 60 = .ok (.aload_n 0, 1) := by decide +kernel
theorem dX9_demand_61 : decode cX9_demand 61 = .ok (.getfield 149, 3) := by decide +kernel
theorem dX9_demand_64 : decode cX9_demand 64 = .ok (.iload 4, 2) := by decide +kernel
theorem dX9_demand_66 : decode cX9_demand 66 = .ok (.baload, 1) := by decide +kernel
theorem dX9_demand_67 : decode cX9_demand 67 = .ok (.ifCond .eq 24, 3) := by decide +kernel
theorem dX9_demand_70 : decode cX9_demand 70 = .ok (.aload_n 0, 1) := by decide +kernel
theorem dX9_demand_71 : decode cX9_demand 71 = .ok (.dup, 1) := by decide +kernel
theorem dX9_demand_72 : decode cX9_demand 72 = .ok (.getfield 477, 3) := by decide +kernel
theorem dX9_demand_75 : decode cX9_demand 75 = .ok (.iconst 1, 1) := by decide +kernel
theorem dX9_demand_76 : decode cX9_demand 76 = .ok (.isub, 1) := by decide +kernel
theorem dX9_demand_77 : decode cX9_demand 77 = .ok (.putfield 477, 3) := by decide +kernel
theorem dX9_demand_80 : decode cX9_demand 80 = .ok (.aload_n 0, 1) := by decide +kernel
theorem dX9_demand_81 : decode cX9_demand 81 = .ok (.getfield 158, 3) := by decide +kernel
theorem dX9_demand_84 : decode cX9_demand 84 = .ok (.iload 4, 2) := by decide +kernel
theorem dX9_demand_86 : decode cX9_demand 86 = .ok (.iconst 0, 1) := by decide +kernel
theorem dX9_demand_87 : decode cX9_demand 87 = .ok (.bastore, 1) := by decide +kernel
theorem dX9_demand_88 : decode cX9_demand 88 = .ok (.goto 105, 3) := by decide +kernel
theorem dX9_demand_91 : decode cX9_demand 91 = .ok (.aload_n 0, 1) := by decide +kernel
theorem dX9_demand_92 : decode cX9_demand 92 = .ok (.getfield 164, 3) := by decide +kernel
theorem dX9_demand_95 : decode cX9_demand 95 = .ok (.aload_n 0, 1) := by decide +kernel
theorem dX9_demand_96 : decode cX9_demand 96 = .ok (.getfield 477, 3) := by decide +kernel
theorem dX9_demand_99 : decode cX9_demand 99 = .ok (.iconst 1, 1) := by decide +kernel
theorem dX9_demand_100 : decode cX9_demand 100 = .ok (.isub, 1) := by decide +kernel
theorem dX9_demand_101 : decode cX9_demand 101 = .ok (.iaload, 1) := by decide +kernel
theorem dX9_demand_102 : decode cX9_demand 102 = .ok (.aload_n 0, 1) := by decide +kernel
theorem dX9_demand_103 : decode cX9_demand 103 = .ok (.getfield 59, 3) := by decide +kernel
theorem dX9_demand_106 : decode cX9_demand 106 = .ok (.iload 5, 2) := by decide +kernel
theorem dX9_demand_108 : decode cX9_demand 108 = .ok (.iaload, 1) := by decide +kernel
theorem dX9_demand_109 : decode cX9_demand 109 = .ok (.if_icmp .ne 14, 3) := by decide +kernel
theorem dX9_demand_112 : decode cX9_demand 112 = .ok (.aload_n 0, 1) := by decide +kernel
theorem dX9_demand_113 : decode cX9_demand 113 = .ok (.iload 4, 2) := by decide +kernel
theorem dX9_demand_115 : decode cX9_demand 115 = .ok (.iload 5, 2) := by decide +kernel
theorem dX9_demand_117 : decode cX9_demand 117 = .ok (.invokevirtual 486, 3) := by decide +kernel
theorem dX9_demand_120 : decode cX9_demand 120 = .ok (.goto 73, 3) := by decide +kernel
theorem dX9_demand_123 : decode cX9_demand 123 = .ok (.aload_n 0, 1) := by decide +kernel
theorem dX9_demand_124 : decode cX9_demand 124 = .ok (.iload 4, 2) := by decide +kernel
theorem dX9_demand_126 : decode cX9_demand 126 = .ok (.aload_n 0, 1) := by decide +kernel
theorem dX9_demand_127 : decode cX9_demand 127 = .ok (.getfield 56, 3) := by decide +kernel
theorem dX9_demand_130 : decode cX9_demand 130 = .ok (.iload 5, 2) := by decide +kernel
theorem dX9_demand_132 : decode cX9_demand 132 = .ok (.iaload, 1) := by decide +kernel
theorem dX9_demand_133 : decode cX9_demand 133 = .ok (.aload_n 0, 1) := by decide +kernel
theorem dX9_demand_134 : decode cX9_demand 134 = .ok (.getfield 164, 3) := by decide +kernel
theorem dX9_demand_137 : decode cX9_demand 137 = .ok (.aload_n 0, 1) := by decide +kernel
theorem dX9_demand_138 : decode cX9_demand 138 = .ok (.getfield 477, 3) := by decide +kernel
theorem dX9_demand_141 : decode cX9_demand 141 = .ok (.iconst 1, 1) := by decide +kernel
theorem dX9_demand_142 : decode cX9_demand 142 = .ok (.isub, 1) := by decide +kernel
theorem dX9_demand_143 : decode cX9_demand 143 = .ok (.iaload, 1) := by decide +kernel
theorem dX9_demand_144 : decode cX9_demand 144 = .ok (.iadd, 1) := by decide +kernel
theorem dX9_demand_145 : decode cX9_demand 145 = .ok (.invokevirtual 489, 3) := by decide +kernel
theorem dX9_demand_148 : decode cX9_demand 148 = .ok (.istore 6, 2) := by decide +kernel
theorem dX9_demand_150 : decode cX9_demand 150 = .ok (.aload_n 0, 1) := by decide +kernel
theorem dX9_demand_151 : decode cX9_demand 151 = .ok (.getfield 164, 3) := by decide +kernel
theorem dX9_demand_154 : decode cX9_demand 154 = .ok (.aload_n 0, 1) := by decide +kernel
theorem dX9_demand_155 : decode cX9_demand 155 = .ok (.getfield 477, 3) := by decide +kernel
theorem dX9_demand_158 : decode cX9_demand 158 = .ok (.iconst 1, 1) := by decide +kernel
theorem dX9_demand_159 : decode cX9_demand 159 = .ok (.isub, 1) := by decide +kernel
theorem dX9_demand_160 : decode cX9_demand 160 = .ok (.dup2, 1) := by decide +kernel
theorem dX9_demand_161 : decode cX9_demand 161 = .ok (.iaload, 1) := by decide +kernel
theorem dX9_demand_162 : decode cX9_demand 162 = .ok (.iconst 1, 1) := by decide +kernel
theorem dX9_demand_163 : decode cX9_demand 163 = .ok (.iadd, 1) := by decide +kernel
theorem dX9_demand_164 : decode cX9_demand 164 = .ok (.iastore, 1) := by decide +kernel
theorem dX9_demand_165 : decode cX9_demand 165 = .ok (.aload_n 0, 1) := by decide +kernel
theorem dX9_demand_166 : decode cX9_demand 166 = .ok (.getfield 149, 3) := by decide +kernel
theorem dX9_demand_169 : decode cX9_demand 169 = .ok (.iload 6, 2) := by decide +kernel
theorem dX9_demand_171 : decode cX9_demand 171 = .ok (.baload, 1) := by decide +kernel
theorem dX9_demand_172 : decode cX9_demand 172 = .ok (.ifCond .ne 21, 3) := by decide +kernel
theorem dX9_demand_175 : decode cX9_demand 175 = .ok (.aload_n 0, 1) := by decide +kernel
theorem dX9_demand_176 : decode cX9_demand 176 = .ok (.getfield 158, 3) := by decide +kernel
theorem dX9_demand_179 : decode cX9_demand 179 = .ok (.iload 6, 2) := by decide +kernel
theorem dX9_demand_181 : decode cX9_demand 181 = .ok (.baload, 1) := by decide +kernel
theorem dX9_demand_182 : decode cX9_demand 182 = .ok (.istore_n 3, 1) := by decide +kernel
theorem dX9_demand_183 : decode cX9_demand 183 = .ok (.iload_n 3, 1) := by decide +kernel
theorem dX9_demand_184 : decode cX9_demand 184 = .ok (.ifCond .ne 9, 3) := by decide +kernel
theorem dX9_demand_187 : decode cX9_demand 187 = .ok (.aload_n 0, 1) := by decide +kernel
theorem dX9_demand_188 : decode cX9_demand 188 = .ok (.iload 6, 2) := by decide +kernel
theorem dX9_demand_190 : decode cX9_demand 190 = .ok (.invokevirtual 480, 3) := by decide +kernel
theorem dX9_demand_193 : decode cX9_demand 193 = .ok (.goto (-165), 3) := by decide +kernel
theorem dX9_demand_196 : decode cX9_demand 196 = .ok (.iconst 0, 1) := by decide +kernel
theorem dX9_demand_197 : decode cX9_demand 197 = .ok (.istore 4, 2) := by decide +kernel
theorem dX9_demand_199 : decode cX9_demand 199 = .ok (.iload 4, 2) := by decide +kernel
theorem dX9_demand_201 : decode cX9_demand 201 = .ok (.aload_n 0, 1) := by decide +kernel
theorem dX9_demand_202 : decode cX9_demand 202 = .ok (.getfield 477, 3) := by decide +kernel
theorem dX9_demand_205 : decode cX9_demand 205 = .ok (.if_icmp .ge 22, 3) := by decide +kernel
theorem dX9_demand_208 : decode cX9_demand 208 = .ok (.aload_n 0, 1) := by decide +kernel
theorem dX9_demand_209 : decode cX9_demand 209 = .ok (.getfield 158, 3) := by decide +kernel
theorem dX9_demand_212 : decode cX9_demand 212 = .ok (.aload_n 0, 1) := by decide +kernel
theorem dX9_demand_213 : decode cX9_demand 213 = .ok (.getfield 161, 3) := by decide +kernel
theorem dX9_demand_216 : decode cX9_demand 216 = .ok (.iload 4, 2) := by decide +kernel
theorem dX9_demand_218 : decode cX9_demand 218 = .ok (.iaload, 1) := by decide +kernel
theorem dX9_demand_219 : decode cX9_demand 219 = .ok (.iconst 0, 1) := by decide +kernel
theorem dX9_demand_220 : decode cX9_demand 220 = .ok (.bastore, 1) := by decide +kernel
theorem dX9_demand_221 : decode cX9_demand 221 = .ok (.iinc 4 1, 3) := by decide +kernel
theorem dX9_demand_224 : decode cX9_demand 224 = .ok (.goto (-25), 3) := by decide +kernel
theorem dX9_demand_227 : decode cX9_demand 227 = .ok (.iload_n 3, 1) := by decide +kernel
theorem dX9_demand_228 : decode cX9_demand 228 = .ok (.ifCond .eq 7, 3) := by decide +kernel
theorem dX9_demand_231 : decode cX9_demand 231 = .ok (.iconst 2, 1) := by decide +kernel
theorem dX9_demand_232 : decode cX9_demand 232 = .ok (.goto 22, 3) := by decide +kernel
theorem dX9_demand_235 : decode cX9_demand 235 = .ok (.aload_n 0, 1) := by decide +kernel
theorem dX9_demand_236 : decode cX9_demand 236 = .ok (.getfield 152, 3) := by decide +kernel
theorem dX9_demand_239 : decode cX9_demand 239 = .ok (.bipush 6, 2) := by decide +kernel
theorem dX9_demand_241 : decode cX9_demand 241 = .ok (.iload_n 1, 1) := by decide +kernel
theorem dX9_demand_242 : decode cX9_demand 242 = .ok (.imul, 1) := by decide +kernel
theorem dX9_demand_243 : decode cX9_demand 243 = .ok (.iload_n 2, 1) := by decide +kernel
theorem dX9_demand_244 : decode cX9_demand 244 = .ok (.iadd, 1) := by decide +kernel
theorem dX9_demand_245 : decode cX9_demand 245 = .ok (.baload, 1) := by decide +kernel
theorem dX9_demand_246 : decode cX9_demand 246 = .ok (.ifCond .eq 7, 3) := by decide +kernel
theorem dX9_demand_249 : decode cX9_demand 249 = .ok (.iconst 1, 1) := by decide +kernel
theorem dX9_demand_250 : decode cX9_demand 250 = .ok (.goto 4, 3) := by decide +kernel
theorem dX9_demand_253 : decode cX9_demand 253 = .ok (.iconst 0, 1) := by decide +kernel
theorem dX9_demand_254 : decode cX9_demand 254 = .ok (.ireturn, 1) := by decide +kernel
theorem dX9_does_0 : decode cX9_does 0 = .ok (.aload_n 0, 1) := by decide +kernel
theorem dX9_does_1 : decode cX9_does 1 = .ok (.getfield 65, 3) := by decide +kernel
theorem dX9_does_4 : decode cX9_does 4 = .ok (.iload_n 2, 1) := by decide +kernel
theorem dX9_does_5 : decode cX9_does 5 = .ok (.iaload, 1) := by decide +kernel
theorem dX9_does_6 : decode cX9_does 6 = .ok (.istore_n 3, 1) := by decide +kernel
theorem dX9_does_7 : decode cX9_does 7 = .ok (.aload_n 0, 1) := by decide +kernel
theorem dX9_does_8 : decode cX9_does 8 = .ok (.getfield 62, 3) := by decide +kernel
theorem dX9_does_11 : decode cX9_does 11 = .ok (.iload_n 2, 1) := by decide +kernel
theorem dX9_does_12 : decode cX9_does 12 = .ok (.iaload, 1) := by decide +kernel
theorem dX9_does_13 : decode cX9_does 13 = .ok (.tableswitch 186 0 5 #[39, 48, 66, 95, 121, 129], 39) := by decide +kernel
theorem dX9_does_52 : decode cX9_does 52 = .ok (.aload_n 0, 1) := by decide +kernel
theorem dX9_does_53 : decode cX9_does 53 = .ok (.iload_n 3, 1) := by decide +kernel
theorem dX9_does_54 : decode cX9_does 54 = .ok (.iconst 0, 1) := by decide +kernel
theorem dX9_does_55 : decode cX9_does 55 = .ok (.invokevirtual 498, 3) := by decide +kernel
theorem dX9_does_58 : decode cX9_does 58 = .ok (.goto 143, 3) := by decide +kernel
theorem dX9_does_61 : decode cX9_does 61 = .ok (.aload_n 0, 1) := by decide +kernel
theorem dX9_does_62 : decode cX9_does 62 = .ok (.aload_n 0, 1) := by decide +kernel
theorem dX9_does_63 : decode cX9_does 63 = .ok (.getfield 89, 3) := by decide +kernel
theorem dX9_does_66 : decode cX9_does 66 = .ok (.aload_n 0, 1) := by decide +kernel
theorem dX9_does_67 : decode cX9_does 67 = .ok (.iload_n 1, 1) := by decide +kernel
theorem dX9_does_68 : decode cX9_does 68 = .ok (.invokevirtual 470, 3) := by decide +kernel
theorem dX9_does_71 : decode cX9_does 71 = .ok (.iaload, 1) := by decide +kernel
theorem dX9_does_72 : decode cX9_does 72 = .ok (.iconst 0, 1) := by decide +kernel
theorem dX9_does_73 : decode cX9_does 73 = .ok (.invokevirtual 498, 3) := by decide +kernel
theorem dX9_does_76 : decode cX9_does 76 = .ok (.goto 125, 3) := by decide +kernel
theorem dX9_does_79 : decode cX9_does 79 = .ok (.aload_n 0, 1) := by decide +kernel
theorem dX9_does_80 : decode cX9_does 80 = .ok (.iload_n 1, 1) := by decide +kernel
theorem dX9_does_81 : decode cX9_does 81 = .ok (.iload_n 3, 1) := by decide +kernel
theorem dX9_does_82 : decode cX9_does 82 = .ok (.invokevirtual 489, 3) := by decide +kernel
theorem dX9_does_85 : decode cX9_does 85 = .ok (.istore 4, 2) := by decide +kernel
theorem dX9_does_87 : decode cX9_does 87 = .ok (.aload_n 0, 1) := by decide +kernel
theorem dX9_does_88 : decode cX9_does 88 = .ok (.aload_n 0, 1) := by decide +kernel
theorem dX9_does_89 : decode cX9_does 89 = .ok (.getfield 155, 3) := by decide +kernel
theorem dX9_does_92 : decode cX9_does 92 = .ok (.iload 4, 2) := by decide +kernel
theorem dX9_does_94 : decode cX9_does 94 = .ok (.iaload, 1) := by decide +kernel
theorem dX9_does_95 : decode cX9_does 95 = .ok (.aload_n 0, 1) := by decide +kernel
theorem dX9_does_96 : decode cX9_does 96 = .ok (.getfield 152, 3) := by decide +kernel
theorem dX9_does_99 : decode cX9_does 99 = .ok (.iload 4, 2) := by decide +kernel
theorem dX9_does_101 : decode cX9_does 101 = .ok (.baload, 1) := by decide +kernel
theorem dX9_does_102 : decode cX9_does 102 = .ok (.invokevirtual 498, 3) := by decide +kernel
theorem dX9_does_105 : decode cX9_does 105 = .ok (.goto 96, 3) := by decide +kernel
theorem dX9_does_108 : decode cX9_does 108 = .ok (.aload_n 0, 1) := by decide +kernel
theorem dX9_does_109 : decode cX9_does 109 = .ok (.getfield 167, 3) := by decide +kernel
theorem dX9_does_112 : decode cX9_does 112 = .ok (.aload_n 0, 1) := by decide +kernel
theorem dX9_does_113 : decode cX9_does 113 = .ok (.getfield 492, 3) := by decide +kernel
theorem dX9_does_116 : decode cX9_does 116 = .ok (.iconst 1, 1) := by decide +kernel
theorem dX9_does_117 : decode cX9_does 117 = .ok (.isub, 1) := by decide +kernel
theorem dX9_does_118 : decode cX9_does 118 = .ok (.aload_n 0, 1) := by decide +kernel
theorem dX9_does_119 : decode cX9_does 119 = .ok (.getfield 167, 3) := by decide +kernel
theorem dX9_does_122 : decode cX9_does 122 = .ok (.aload_n 0, 1) := by decide +kernel
theorem dX9_does_123 : decode cX9_does 123 = .ok (.getfield 492, 3) := by decide +kernel
theorem dX9_does_126 : decode cX9_does 126 = .ok (.iconst 1, 1) := by decide +kernel
theorem dX9_does_127 : decode cX9_does 127 = .ok (.isub, 1) := by decide +kernel
theorem dX9_does_128 : decode cX9_does 128 = .ok (.iaload, 1) := by decide +kernel
theorem dX9_does_129 : decode cX9_does 129 = .ok (.ineg, 1) := by decide +kernel
theorem dX9_does_130 : decode cX9_does 130 = .ok (.iastore, 1) := by decide +kernel
theorem dX9_does_131 : decode cX9_does 131 = .ok (.goto 70, 3) := by decide +kernel
theorem dX9_does_134 : decode cX9_does 134 = .ok (.aload_n 0, 1) := by decide +kernel
theorem dX9_does_135 : decode cX9_does 135 = .ok (.iload_n 3, 1) := by decide +kernel
theorem dX9_does_136 : decode cX9_does 136 = .ok (.invokevirtual 501, 3) := by decide +kernel
theorem dX9_does_139 : decode cX9_does 139 = .ok (.goto 62, 3) := by decide +kernel
theorem dX9_does_142 : decode cX9_does 142 = .ok (.aload_n 0, 1) := by decide +kernel
theorem dX9_does_143 : decode cX9_does 143 = .ok (.dup, 1) := by decide +kernel
theorem dX9_does_144 : decode cX9_does 144 = .ok (.getfield 492, 3) := by decide +kernel
theorem dX9_does_147 : decode cX9_does 147 = .ok (.iconst 1, 1) := by decide +kernel
theorem dX9_does_148 : decode cX9_does 148 = .ok (.isub, 1) := by decide +kernel
theorem dX9_does_149 : decode cX9_does 149 = .ok (.putfield 492, 3) := by decide +kernel
theorem dX9_does_152 : decode cX9_does 152 = .ok (.aload_n 0, 1) := by decide +kernel
theorem dX9_does_153 : decode cX9_does 153 = .ok (.getfield 170, 3) := by decide +kernel
theorem dX9_does_156 : decode cX9_does 156 = .ok (.aload_n 0, 1) := by decide +kernel
theorem dX9_does_157 : decode cX9_does 157 = .ok (.getfield 492, 3) := by decide +kernel
theorem dX9_does_160 : decode cX9_does 160 = .ok (.baload, 1) := by decide +kernel
theorem dX9_does_161 : decode cX9_does 161 = .ok (.ifCond .eq 18, 3) := by decide +kernel
theorem dX9_does_164 : decode cX9_does 164 = .ok (.aload_n 0, 1) := by decide +kernel
theorem dX9_does_165 : decode cX9_does 165 = .ok (.iconst 0, 1) := by decide +kernel
theorem dX9_does_166 : decode cX9_does 166 = .ok (.iconst 1, 1) := by decide +kernel
theorem dX9_does_167 : decode cX9_does 167 = .ok (.invokevirtual 498, 3) := by decide +kernel
theorem dX9_does_170 : decode cX9_does 170 = .ok (.aload_n 0, 1) := by decide +kernel
theorem dX9_does_171 : decode cX9_does 171 = .ok (.getfield 65, 3) := by decide +kernel
theorem dX9_does_174 : decode cX9_does 174 = .ok (.iload_n 3, 1) := by decide +kernel
theorem dX9_does_175 : decode cX9_does 175 = .ok (.iconst 1, 1) := by decide +kernel
theorem dX9_does_176 : decode cX9_does 176 = .ok (.isub, 1) := by decide +kernel
theorem dX9_does_177 : decode cX9_does 177 = .ok (.iaload, 1) := by decide +kernel
theorem dX9_does_178 : decode cX9_does 178 = .ok (.ireturn, 1) := by decide +kernel
theorem dX9_does_179 : decode cX9_does 179 = .ok (.aload_n 0, 1) := by decide +kernel
theorem dX9_does_180 : decode cX9_does 180 = .ok (.getfield 167, 3) := by decide +kernel
theorem dX9_does_183 : decode cX9_does 183 = .ok (.aload_n 0, 1) := by decide +kernel
theorem dX9_does_184 : decode cX9_does 184 = .ok (.getfield 492, 3) := by decide +kernel
theorem dX9_does_187 : decode cX9_does 187 = .ok (.iaload, 1) := by decide +kernel
theorem dX9_does_188 : decode cX9_does 188 = .ok (.ifCond .eq 9, 3) := by decide +kernel
theorem dX9_does_191 : decode cX9_does 191 = .ok (.iload_n 2, 1) := by decide +kernel
theorem dX9_does_192 : decode cX9_does 192 = .ok (.iconst 1, 1) := by decide +kernel
theorem dX9_does_193 : decode cX9_does 193 = .ok (.iadd, 1) := by decide +kernel
theorem dX9_does_194 : decode cX9_does 194 = .ok (.goto 4, 3) := by decide +kernel
theorem dX9_does_197 : decode cX9_does 197 = .ok (.iload_n 3, 1) := by decide +kernel
theorem dX9_does_198 : decode cX9_does 198 = .ok (.ireturn, 1) := by decide +kernel
theorem dX9_does_199 : decode cX9_does 199 = .ok (.iload_n 3, 1) := by decide +kernel
theorem dX9_does_200 : decode cX9_does 200 = .ok (.ireturn, 1) := by decide +kernel
theorem dX9_does_201 : decode cX9_does 201 = .ok (.iload_n 2, 1) := by decide +kernel
theorem dX9_does_202 : decode cX9_does 202 = .ok (.iconst 1, 1) := by decide +kernel
theorem dX9_does_203 : decode cX9_does 203 = .ok (.iadd, 1) := by decide +kernel
theorem dX9_does_204 : decode cX9_does 204 = .ok (.ireturn, 1) := by decide +kernel
theorem dX9_end_0 : decode cX9_end 0 = .ok (.iload_n 1, 1) := by decide +kernel
theorem dX9_end_1 : decode cX9_end 1 = .ok (.iconst 0, 1) := by decide +kernel
theorem dX9_end_2 : decode cX9_end 2 = .ok (.aload_n 0, 1) := by decide +kernel
theorem dX9_end_3 : decode cX9_end 3 = .ok (.getfield 173, 3) := by decide +kernel
theorem dX9_end_6 : decode cX9_end 6 = .ok (.invokestatic 180, 3) := by decide +kernel
theorem dX9_end_9 : decode cX9_end 9 = .ok (.ifCond .ne 5, 3) := by decide +kernel
theorem dX9_end_12 : decode cX9_end 12 = .ok (.iconst (-1), 1) := by decide +kernel
theorem dX9_end_13 : decode cX9_end 13 = .ok (.ireturn, 1) := by decide +kernel
theorem dX9_end_14 : decode cX9_end 14 = .ok (.aload_n 0, 1) := by decide +kernel
theorem dX9_end_15 : decode cX9_end 15 = .ok (.iload_n 1, 1) := by decide +kernel
theorem dX9_end_16 : decode cX9_end 16 = .ok (.putfield 173, 3) := by decide +kernel
theorem dX9_end_19 : decode cX9_end 19 = .ok (.iload_n 1, 1) := by decide +kernel
theorem dX9_end_20 : decode cX9_end 20 = .ok (.ireturn, 1) := by decide +kernel
theorem dX9_ends_0 : decode cX9_ends 0 = .ok (.aload_n 0, 1) := by decide +kernel
theorem dX9_ends_1 : decode cX9_ends 1 = .ok (.getfield 319, 3) := by decide +kernel
theorem dX9_ends_4 : decode cX9_ends 4 = .ok (.iconst 1, 1) := by decide +kernel
theorem dX9_ends_5 : decode cX9_ends 5 = .ok (.isub, 1) := by decide +kernel
theorem dX9_ends_6 : decode cX9_ends 6 = .ok (.istore_n 1, 1) := by decide +kernel
theorem dX9_ends_7 : decode cX9_ends 7 = .ok (.aload_n 0, 1) := by decide +kernel
theorem dX9_ends_8 : decode cX9_ends 8 = .ok (.getfield 74, 3) := by decide +kernel
theorem dX9_ends_11 : decode cX9_ends 11 = .ok (.iload_n 1, 1) := by decide +kernel
theorem dX9_ends_12 : decode cX9_ends 12 = .ok (.iaload, 1) := by decide +kernel
theorem dX9_ends_13 : decode cX9_ends 13 = .ok (.tableswitch 194 0 3 #[31, 44, 81, 147], 31) := by decide +kernel
theorem dX9_ends_44 : decode cX9_ends 44 = .ok (.aload_n 0, 1) := by decide +kernel
theorem dX9_ends_45 : decode cX9_ends 45 = .ok (.dup, 1) := by decide +kernel
theorem dX9_ends_46 : decode cX9_ends 46 = .ok (.getfield 319, 3) := by decide +kernel
theorem dX9_ends_49 : decode cX9_ends 49 = .ok (.iconst 1, 1) := by decide +kernel
theorem dX9_ends_50 : decode cX9_ends 50 = .ok (.isub, 1) := by decide +kernel
theorem dX9_ends_51 : decode cX9_ends 51 = .ok (.putfield 319, 3) := by decide +kernel
theorem dX9_ends_54 : decode cX9_ends 54 = .ok (.goto 198, 3) := by decide +kernel
theorem dX9_ends_57 : decode cX9_ends 57 = .ok (.aload_n 0, 1) := by decide +kernel
theorem dX9_ends_58 : decode cX9_ends 58 = .ok (.bipush 7, 2) := by decide +kernel
theorem dX9_ends_60 : decode cX9_ends 60 = .ok (.invokevirtual 374, 3) := by decide +kernel
theorem dX9_ends_63 : decode cX9_ends 63 = .ok (.aload_n 0, 1) := by decide +kernel
theorem dX9_ends_64 : decode cX9_ends 64 = .ok (.getfield 77, 3) := by decide +kernel
theorem dX9_ends_67 : decode cX9_ends 67 = .ok (.iload_n 1, 1) := by decide +kernel
theorem dX9_ends_68 : decode cX9_ends 68 = .ok (.aload_n 0, 1) := by decide +kernel
theorem dX9_ends_69 : decode cX9_ends 69 = .ok (.getfield 302, 3) := by decide +kernel
theorem dX9_ends_72 : decode cX9_ends 72 = .ok (.iastore, 1) := by decide +kernel
theorem dX9_ends_73 : decode cX9_ends 73 = .ok (.aload_n 0, 1) := by decide +kernel
theorem dX9_ends_74 : decode cX9_ends 74 = .ok (.iconst 5, 1) := by decide +kernel
theorem dX9_ends_75 : decode cX9_ends 75 = .ok (.iconst 0, 1) := by decide +kernel
theorem dX9_ends_76 : decode cX9_ends 76 = .ok (.invokevirtual 317, 3) := by decide +kernel
theorem dX9_ends_79 : decode cX9_ends 79 = .ok (.aload_n 0, 1) := by decide +kernel
theorem dX9_ends_80 : decode cX9_ends 80 = .ok (.getfield 74, 3) := by decide +kernel
theorem dX9_ends_83 : decode cX9_ends 83 = .ok (.iload_n 1, 1) := by decide +kernel
theorem dX9_ends_84 : decode cX9_ends 84 = .ok (.iconst 2, 1) := by decide +kernel
theorem dX9_ends_85 : decode cX9_ends 85 = .ok (.iastore, 1) := by decide +kernel
theorem dX9_ends_86 : decode cX9_ends 86 = .ok (.aload_n 0, 1) := by decide +kernel
theorem dX9_ends_87 : decode cX9_ends 87 = .ok (.iconst 0, 1) := by decide +kernel
theorem dX9_ends_88 : decode cX9_ends 88 = .ok (.putfield 328, 3) := by decide +kernel
theorem dX9_ends_91 : decode cX9_ends 91 = .ok (.goto 161, 3) := by decide +kernel
theorem dX9_ends_94 : decode cX9_ends 94 = .ok (.aload_n 0, 1) := by decide +kernel
theorem dX9_ends_95 : decode cX9_ends 95 = .ok (.bipush 8, 2) := by decide +kernel
theorem dX9_ends_97 : decode cX9_ends 97 = .ok (.invokevirtual 374, 3) := by decide +kernel
theorem dX9_ends_100 : decode cX9_ends 100 = .ok (.aload_n 0, 1) := by decide +kernel
theorem dX9_ends_101 : decode cX9_ends 101 = .ok (.getfield 65, 3) := by decide +kernel
theorem dX9_ends_104 : decode cX9_ends 104 = .ok (.aload_n 0, 1) := by decide +kernel
theorem dX9_ends_105 : decode cX9_ends 105 = .ok (.getfield 77, 3) := by decide +kernel
theorem dX9_ends_108 : decode cX9_ends 108 = .ok (.iload_n 1, 1) := by decide +kernel
theorem dX9_ends_109 : decode cX9_ends 109 = .ok (.iaload, 1) := by decide +kernel
theorem dX9_ends_110 : decode cX9_ends 110 = .ok (.aload_n 0, 1) := by decide +kernel
theorem dX9_ends_111 : decode cX9_ends 111 = .ok (.getfield 302, 3) := by decide +kernel
theorem dX9_ends_114 : decode cX9_ends 114 = .ok (.iconst 1, 1) := by decide +kernel
theorem dX9_ends_115 : decode cX9_ends 115 = .ok (.iadd, 1) := by decide +kernel
theorem dX9_ends_116 : decode cX9_ends 116 = .ok (.iastore, 1) := by decide +kernel
theorem dX9_ends_117 : decode cX9_ends 117 = .ok (.aload_n 0, 1) := by decide +kernel
theorem dX9_ends_118 : decode cX9_ends 118 = .ok (.getfield 77, 3) := by decide +kernel
theorem dX9_ends_121 : decode cX9_ends 121 = .ok (.iload_n 1, 1) := by decide +kernel
theorem dX9_ends_122 : decode cX9_ends 122 = .ok (.aload_n 0, 1) := by decide +kernel
theorem dX9_ends_123 : decode cX9_ends 123 = .ok (.getfield 77, 3) := by decide +kernel
theorem dX9_ends_126 : decode cX9_ends 126 = .ok (.iload_n 1, 1) := by decide +kernel
theorem dX9_ends_127 : decode cX9_ends 127 = .ok (.iaload, 1) := by decide +kernel
theorem dX9_ends_128 : decode cX9_ends 128 = .ok (.sipush 4096, 3) := by decide +kernel
theorem dX9_ends_131 : decode cX9_ends 131 = .ok (.imul, 1) := by decide +kernel
theorem dX9_ends_132 : decode cX9_ends 132 = .ok (.aload_n 0, 1) := by decide +kernel
theorem dX9_ends_133 : decode cX9_ends 133 = .ok (.getfield 302, 3) := by decide +kernel
theorem dX9_ends_136 : decode cX9_ends 136 = .ok (.iadd, 1) := by decide +kernel
theorem dX9_ends_137 : decode cX9_ends 137 = .ok (.iastore, 1) := by decide +kernel
theorem dX9_ends_138 : decode cX9_ends 138 = .ok (.aload_n 0, 1) := by decide +kernel
theorem dX9_ends_139 : decode cX9_ends 139 = .ok (.bipush 6, 2) := by decide +kernel
theorem dX9_ends_141 : decode cX9_ends 141 = .ok (.iconst 0, 1) := by decide +kernel
theorem dX9_ends_142 : decode cX9_ends 142 = .ok (.invokevirtual 317, 3) := by decide +kernel
theorem dX9_ends_145 : decode cX9_ends 145 = .ok (.aload_n 0, 1) := by decide +kernel
theorem dX9_ends_146 : decode cX9_ends 146 = .ok (.getfield 74, 3) := by decide +kernel
theorem dX9_ends_149 : decode cX9_ends 149 = .ok (.iload_n 1, 1) := by decide +kernel
theorem dX9_ends_150 : decode cX9_ends 150 = .ok (.iconst 3, 1) := by decide +kernel
theorem dX9_ends_151 : decode cX9_ends 151 = .ok (.iastore, 1) := by decide +kernel
theorem dX9_ends_152 : decode cX9_ends 152 = .ok (.aload_n 0, 1) := by decide +kernel
theorem dX9_ends_153 : decode cX9_ends 153 = .ok (.iconst 0, 1) := by decide +kernel
theorem dX9_ends_154 : decode cX9_ends 154 = .ok (.putfield 328, 3) := by decide +kernel
theorem dX9_ends_157 : decode cX9_ends 157 = .ok (.goto 95, 3) := by decide +kernel
theorem dX9_ends_160 : decode cX9_ends 160 = .ok (.aload_n 0, 1) := by decide +kernel
theorem dX9_ends_161 : decode cX9_ends 161 = .ok (.getfield 65, 3) := by decide +kernel
theorem dX9_ends_164 : decode cX9_ends 164 = .ok (.aload_n 0, 1) := by decide +kernel
theorem dX9_ends_165 : decode cX9_ends 165 = .ok (.getfield 77, 3) := by decide +kernel
theorem dX9_ends_168 : decode cX9_ends 168 = .ok (.iload_n 1, 1) := by decide +kernel
theorem dX9_ends_169 : decode cX9_ends 169 = .ok (.iaload, 1) := by decide +kernel
theorem dX9_ends_170 : decode cX9_ends 170 = .ok (.sipush 4096, 3) := by decide +kernel
theorem dX9_ends_173 : decode cX9_ends 173 = .ok (.irem, 1) := by decide +kernel
theorem dX9_ends_174 : decode cX9_ends 174 = .ok (.aload_n 0, 1) := by decide +kernel
theorem dX9_ends_175 : decode cX9_ends 175 = .ok (.getfield 302, 3) := by decide +kernel
theorem dX9_ends_178 : decode cX9_ends 178 = .ok (.iastore, 1) := by decide +kernel
theorem dX9_ends_179 : decode cX9_ends 179 = .ok (.aload_n 0, 1) := by decide +kernel
theorem dX9_ends_180 : decode cX9_ends 180 = .ok (.dup, 1) := by decide +kernel
theorem dX9_ends_181 : decode cX9_ends 181 = .ok (.getfield 308, 3) := by decide +kernel
theorem dX9_ends_184 : decode cX9_ends 184 = .ok (.iconst 1, 1) := by decide +kernel
theorem dX9_ends_185 : decode cX9_ends 185 = .ok (.isub, 1) := by decide +kernel
theorem dX9_ends_186 : decode cX9_ends 186 = .ok (.putfield 308, 3) := by decide +kernel
theorem dX9_ends_189 : decode cX9_ends 189 = .ok (.aload_n 0, 1) := by decide +kernel
theorem dX9_ends_190 : decode cX9_ends 190 = .ok (.dup, 1) := by decide +kernel
theorem dX9_ends_191 : decode cX9_ends 191 = .ok (.getfield 319, 3) := by decide +kernel
theorem dX9_ends_194 : decode cX9_ends 194 = .ok (.iconst 1, 1) := by decide +kernel
theorem dX9_ends_195 : decode cX9_ends 195 = .ok (.isub, 1) := by decide +kernel
theorem dX9_ends_196 : decode cX9_ends 196 = .ok (.putfield 319, 3) := by decide +kernel
theorem dX9_ends_199 : decode cX9_ends 199 = .ok (.aload_n 0, 1) := by decide +kernel
theorem dX9_ends_200 : decode cX9_ends 200 = .ok (.iconst 3, 1) := by decide +kernel
theorem dX9_ends_201 : decode cX9_ends 201 = .ok (.putfield 328, 3) := by decide +kernel
theorem dX9_ends_204 : decode cX9_ends 204 = .ok (.goto 48, 3) := by decide +kernel
theorem dX9_ends_207 : decode cX9_ends 207 = .ok (.aload_n 0, 1) := by decide +kernel
theorem dX9_ends_208 : decode cX9_ends 208 = .ok (.bipush 41, 2) := by decide +kernel
theorem dX9_ends_210 : decode cX9_ends 210 = .ok (.invokevirtual 238, 3) := by decide +kernel
theorem dX9_ends_213 : decode cX9_ends 213 = .ok (.ifCond .eq 10, 3) := by decide +kernel
theorem dX9_ends_216 : decode cX9_ends 216 = .ok (.aload_n 0, 1) := by decide +kernel
theorem dX9_ends_217 : decode cX9_ends 217 = .ok (.invokevirtual 334, 3) := by decide +kernel
theorem dX9_ends_220 : decode cX9_ends 220 = .ok (.goto 7, 3) := by decide +kernel
theorem dX9_ends_223 : decode cX9_ends 223 = .ok (.aload_n 0, 1) := by decide +kernel
theorem dX9_ends_224 : decode cX9_ends 224 = .ok (.invokevirtual 245, 3) := by decide +kernel
theorem dX9_ends_227 : decode cX9_ends 227 = .ok (.aload_n 0, 1) := by decide +kernel
theorem dX9_ends_228 : decode cX9_ends 228 = .ok (.dup, 1) := by decide +kernel
theorem dX9_ends_229 : decode cX9_ends 229 = .ok (.getfield 308, 3) := by decide +kernel
theorem dX9_ends_232 : decode cX9_ends 232 = .ok (.iconst 1, 1) := by decide +kernel
theorem dX9_ends_233 : decode cX9_ends 233 = .ok (.isub, 1) := by decide +kernel
theorem dX9_ends_234 : decode cX9_ends 234 = .ok (.putfield 308, 3) := by decide +kernel
theorem dX9_ends_237 : decode cX9_ends 237 = .ok (.aload_n 0, 1) := by decide +kernel
theorem dX9_ends_238 : decode cX9_ends 238 = .ok (.dup, 1) := by decide +kernel
theorem dX9_ends_239 : decode cX9_ends 239 = .ok (.getfield 319, 3) := by decide +kernel
theorem dX9_ends_242 : decode cX9_ends 242 = .ok (.iconst 1, 1) := by decide +kernel
theorem dX9_ends_243 : decode cX9_ends 243 = .ok (.isub, 1) := by decide +kernel
theorem dX9_ends_244 : decode cX9_ends 244 = .ok (.putfield 319, 3) := by decide +kernel
theorem dX9_ends_247 : decode cX9_ends 247 = .ok (.aload_n 0, 1) := by decide +kernel
theorem dX9_ends_248 : decode cX9_ends 248 = .ok (.iconst 2, 1) := by decide +kernel
theorem dX9_ends_249 : decode cX9_ends 249 = .ok (.putfield 328, 3) := by decide +kernel
theorem dX9_ends_252 : decode cX9_ends 252 = .ok (.return_, 1) := by decide +kernel
theorem dX9_enter_0 : decode cX9_enter 0 = .ok (.aload_n 0, 1) := by decide +kernel
theorem dX9_enter_1 : decode cX9_enter 1 = .ok (.getfield 74, 3) := by decide +kernel
theorem dX9_enter_4 : decode cX9_enter 4 = .ok (.aload_n 0, 1) := by decide +kernel
theorem dX9_enter_5 : decode cX9_enter 5 = .ok (.getfield 319, 3) := by decide +kernel
theorem dX9_enter_8 : decode cX9_enter 8 = .ok (.iload_n 1, 1) := by decide +kernel
theorem dX9_enter_9 : decode cX9_enter 9 = .ok (.iastore, 1) := by decide +kernel
theorem dX9_enter_10 : decode cX9_enter 10 = .ok (.aload_n 0, 1) := by decide +kernel
theorem dX9_enter_11 : decode cX9_enter 11 = .ok (.getfield 77, 3) := by decide +kernel
theorem dX9_enter_14 : decode cX9_enter 14 = .ok (.aload_n 0, 1) := by decide +kernel
theorem dX9_enter_15 : decode cX9_enter 15 = .ok (.getfield 319, 3) := by decide +kernel
theorem dX9_enter_18 : decode cX9_enter 18 = .ok (.iload_n 2, 1) := by decide +kernel
theorem dX9_enter_19 : decode cX9_enter 19 = .ok (.iastore, 1) := by decide +kernel
theorem dX9_enter_20 : decode cX9_enter 20 = .ok (.aload_n 0, 1) := by decide +kernel
theorem dX9_enter_21 : decode cX9_enter 21 = .ok (.dup, 1) := by decide +kernel
theorem dX9_enter_22 : decode cX9_enter 22 = .ok (.getfield 319, 3) := by decide +kernel
theorem dX9_enter_25 : decode cX9_enter 25 = .ok (.iconst 1, 1) := by decide +kernel
theorem dX9_enter_26 : decode cX9_enter 26 = .ok (.iadd, 1) := by decide +kernel
theorem dX9_enter_27 : decode cX9_enter 27 = .ok (.putfield 319, 3) := by decide +kernel
theorem dX9_enter_30 : decode cX9_enter 30 = .ok (.return_, 1) := by decide +kernel
theorem dX9_equation_0 : decode cX9_equation 0 = .ok (.aload_n 0, 1) := by decide +kernel
theorem dX9_equation_1 : decode cX9_equation 1 = .ok (.iload_n 1, 1) := by decide +kernel
theorem dX9_equation_2 : decode cX9_equation 2 = .ok (.invokevirtual 299, 3) := by decide +kernel
theorem dX9_equation_5 : decode cX9_equation 5 = .ok (.aload_n 0, 1) := by decide +kernel
theorem dX9_equation_6 : decode cX9_equation 6 = .ok (.invokevirtual 234, 3) := by decide +kernel
theorem dX9_equation_9 : decode cX9_equation 9 = .ok (.ifCond .ne 4, 3) := by decide +kernel
theorem dX9_equation_12 : decode cX9_equation 12 = .ok (.return_, 1) := by decide +kernel
theorem dX9_equation_13 : decode cX9_equation 13 = .ok (.bipush 24, 2) := by decide +kernel
theorem dX9_equation_15 : decode cX9_equation 15 = .ok (.iload_n 1, 1) := by decide +kernel
theorem dX9_equation_16 : decode cX9_equation 16 = .ok (.imul, 1) := by decide +kernel
theorem dX9_equation_17 : decode cX9_equation 17 = .ok (.bipush 6, 2) := by decide +kernel
theorem dX9_equation_19 : decode cX9_equation 19 = .ok (.aload_n 0, 1) := by decide +kernel
theorem dX9_equation_20 : decode cX9_equation 20 = .ok (.getfield 293, 3) := by decide +kernel
theorem dX9_equation_23 : decode cX9_equation 23 = .ok (.imul, 1) := by decide +kernel
theorem dX9_equation_24 : decode cX9_equation 24 = .ok (.iadd, 1) := by decide +kernel
theorem dX9_equation_25 : decode cX9_equation 25 = .ok (.aload_n 0, 1) := by decide +kernel
theorem dX9_equation_26 : decode cX9_equation 26 = .ok (.getfield 296, 3) := by decide +kernel
theorem dX9_equation_29 : decode cX9_equation 29 = .ok (.iadd, 1) := by decide +kernel
theorem dX9_equation_30 : decode cX9_equation 30 = .ok (.istore_n 2, 1) := by decide +kernel
theorem dX9_equation_31 : decode cX9_equation 31 = .ok (.aload_n 0, 1) := by decide +kernel
theorem dX9_equation_32 : decode cX9_equation 32 = .ok (.iload_n 1, 1) := by decide +kernel
theorem dX9_equation_33 : decode cX9_equation 33 = .ok (.aload_n 0, 1) := by decide +kernel
theorem dX9_equation_34 : decode cX9_equation 34 = .ok (.getfield 293, 3) := by decide +kernel
theorem dX9_equation_37 : decode cX9_equation 37 = .ok (.aload_n 0, 1) := by decide +kernel
theorem dX9_equation_38 : decode cX9_equation 38 = .ok (.getfield 296, 3) := by decide +kernel
theorem dX9_equation_41 : decode cX9_equation 41 = .ok (.invokevirtual 288, 3) := by decide +kernel
theorem dX9_equation_44 : decode cX9_equation 44 = .ok (.ifCond .ne 16, 3) := by decide +kernel
theorem dX9_equation_47 : decode cX9_equation 47 = .ok (.aload_n 0, 1) := by decide +kernel
theorem dX9_equation_48 : decode cX9_equation 48 = .ok (.bipush 6, 2) := by decide +kernel
theorem dX9_equation_50 : decode cX9_equation 50 = .ok (.aload_n 0, 1) := by decide +kernel
theorem dX9_equation_51 : decode cX9_equation 51 = .ok (.getfield 190, 3) := by decide +kernel
theorem dX9_equation_54 : decode cX9_equation 54 = .ok (.invokevirtual 193, 3) := by decide +kernel
theorem dX9_equation_57 : decode cX9_equation 57 = .ok (.goto 22, 3) := by decide +kernel
theorem dX9_equation_60 : decode cX9_equation 60 = .ok (.aload_n 0, 1) := by decide +kernel
theorem dX9_equation_61 : decode cX9_equation 61 = .ok (.getfield 53, 3) := by decide +kernel
theorem dX9_equation_64 : decode cX9_equation 64 = .ok (.iload_n 2, 1) := by decide +kernel
theorem dX9_equation_65 : decode cX9_equation 65 = .ok (.iaload, 1) := by decide +kernel
theorem dX9_equation_66 : decode cX9_equation 66 = .ok (.ifCond .lt 13, 3) := by decide +kernel
theorem dX9_equation_69 : decode cX9_equation 69 = .ok (.aload_n 0, 1) := by decide +kernel
theorem dX9_equation_70 : decode cX9_equation 70 = .ok (.bipush 7, 2) := by decide +kernel
theorem dX9_equation_72 : decode cX9_equation 72 = .ok (.aload_n 0, 1) := by decide +kernel
theorem dX9_equation_73 : decode cX9_equation 73 = .ok (.getfield 190, 3) := by decide +kernel
theorem dX9_equation_76 : decode cX9_equation 76 = .ok (.invokevirtual 193, 3) := by decide +kernel
theorem dX9_equation_79 : decode cX9_equation 79 = .ok (.aload_n 0, 1) := by decide +kernel
theorem dX9_equation_80 : decode cX9_equation 80 = .ok (.invokevirtual 234, 3) := by decide +kernel
theorem dX9_equation_83 : decode cX9_equation 83 = .ok (.ifCond .ne 4, 3) := by decide +kernel
theorem dX9_equation_86 : decode cX9_equation 86 = .ok (.return_, 1) := by decide +kernel
theorem dX9_equation_87 : decode cX9_equation 87 = .ok (.aload_n 0, 1) := by decide +kernel
theorem dX9_equation_88 : decode cX9_equation 88 = .ok (.invokevirtual 242, 3) := by decide +kernel
theorem dX9_equation_91 : decode cX9_equation 91 = .ok (.aload_n 0, 1) := by decide +kernel
theorem dX9_equation_92 : decode cX9_equation 92 = .ok (.bipush 61, 2) := by decide +kernel
theorem dX9_equation_94 : decode cX9_equation 94 = .ok (.invokevirtual 265, 3) := by decide +kernel
theorem dX9_equation_97 : decode cX9_equation 97 = .ok (.aload_n 0, 1) := by decide +kernel
theorem dX9_equation_98 : decode cX9_equation 98 = .ok (.getfield 302, 3) := by decide +kernel
theorem dX9_equation_101 : decode cX9_equation 101 = .ok (.istore_n 3, 1) := by decide +kernel
theorem dX9_equation_102 : decode cX9_equation 102 = .ok (.aload_n 0, 1) := by decide +kernel
theorem dX9_equation_103 : decode cX9_equation 103 = .ok (.getfield 305, 3) := by decide +kernel
theorem dX9_equation_106 : decode cX9_equation 106 = .ok (.istore 4, 2) := by decide +kernel
theorem dX9_equation_108 : decode cX9_equation 108 = .ok (.aload_n 0, 1) := by decide +kernel
theorem dX9_equation_109 : decode cX9_equation 109 = .ok (.iconst 0, 1) := by decide +kernel
theorem dX9_equation_110 : decode cX9_equation 110 = .ok (.putfield 308, 3) := by decide +kernel
theorem dX9_equation_113 : decode cX9_equation 113 = .ok (.aload_n 0, 1) := by decide +kernel
theorem dX9_equation_114 : decode cX9_equation 114 = .ok (.iconst 0, 1) := by decide +kernel
theorem dX9_equation_115 : decode cX9_equation 115 = .ok (.putfield 311, 3) := by decide +kernel
theorem dX9_equation_118 : decode cX9_equation 118 = .ok (.aload_n 0, 1) := by decide +kernel
theorem dX9_equation_119 : decode cX9_equation 119 = .ok (.iload_n 1, 1) := by decide +kernel
theorem dX9_equation_120 : decode cX9_equation 120 = .ok (.invokevirtual 314, 3) := by decide +kernel
theorem dX9_equation_123 : decode cX9_equation 123 = .ok (.aload_n 0, 1) := by decide +kernel
theorem dX9_equation_124 : decode cX9_equation 124 = .ok (.bipush 59, 2) := by decide +kernel
theorem dX9_equation_126 : decode cX9_equation 126 = .ok (.invokevirtual 265, 3) := by decide +kernel
theorem dX9_equation_129 : decode cX9_equation 129 = .ok (.aload_n 0, 1) := by decide +kernel
theorem dX9_equation_130 : decode cX9_equation 130 = .ok (.bipush 7, 2) := by decide +kernel
theorem dX9_equation_132 : decode cX9_equation 132 = .ok (.iconst 0, 1) := by decide +kernel
theorem dX9_equation_133 : decode cX9_equation 133 = .ok (.invokevirtual 317, 3) := by decide +kernel
theorem dX9_equation_136 : decode cX9_equation 136 = .ok (.aload_n 0, 1) := by decide +kernel
theorem dX9_equation_137 : decode cX9_equation 137 = .ok (.getfield 53, 3) := by decide +kernel
theorem dX9_equation_140 : decode cX9_equation 140 = .ok (.iload_n 2, 1) := by decide +kernel
theorem dX9_equation_141 : decode cX9_equation 141 = .ok (.iload_n 3, 1) := by decide +kernel
theorem dX9_equation_142 : decode cX9_equation 142 = .ok (.iastore, 1) := by decide +kernel
theorem dX9_equation_143 : decode cX9_equation 143 = .ok (.aload_n 0, 1) := by decide +kernel
theorem dX9_equation_144 : decode cX9_equation 144 = .ok (.getfield 56, 3) := by decide +kernel
theorem dX9_equation_147 : decode cX9_equation 147 = .ok (.iload_n 2, 1) := by decide +kernel
theorem dX9_equation_148 : decode cX9_equation 148 = .ok (.iload 4, 2) := by decide +kernel
theorem dX9_equation_150 : decode cX9_equation 150 = .ok (.iastore, 1) := by decide +kernel
theorem dX9_equation_151 : decode cX9_equation 151 = .ok (.aload_n 0, 1) := by decide +kernel
theorem dX9_equation_152 : decode cX9_equation 152 = .ok (.getfield 59, 3) := by decide +kernel
theorem dX9_equation_155 : decode cX9_equation 155 = .ok (.iload_n 2, 1) := by decide +kernel
theorem dX9_equation_156 : decode cX9_equation 156 = .ok (.aload_n 0, 1) := by decide +kernel
theorem dX9_equation_157 : decode cX9_equation 157 = .ok (.getfield 305, 3) := by decide +kernel
theorem dX9_equation_160 : decode cX9_equation 160 = .ok (.iload 4, 2) := by decide +kernel
theorem dX9_equation_162 : decode cX9_equation 162 = .ok (.isub, 1) := by decide +kernel
theorem dX9_equation_163 : decode cX9_equation 163 = .ok (.iastore, 1) := by decide +kernel
theorem dX9_equation_164 : decode cX9_equation 164 = .ok (.aload_n 0, 1) := by decide +kernel
theorem dX9_equation_165 : decode cX9_equation 165 = .ok (.getfield 50, 3) := by decide +kernel
theorem dX9_equation_168 : decode cX9_equation 168 = .ok (.iload_n 1, 1) := by decide +kernel
theorem dX9_equation_169 : decode cX9_equation 169 = .ok (.dup2, 1) := by decide +kernel
theorem dX9_equation_170 : decode cX9_equation 170 = .ok (.iaload, 1) := by decide +kernel
theorem dX9_equation_171 : decode cX9_equation 171 = .ok (.iconst 1, 1) := by decide +kernel
theorem dX9_equation_172 : decode cX9_equation 172 = .ok (.iadd, 1) := by decide +kernel
theorem dX9_equation_173 : decode cX9_equation 173 = .ok (.iastore, 1) := by decide +kernel
theorem dX9_equation_174 : decode cX9_equation 174 = .ok (.return_, 1) := by decide +kernel
theorem dX9_equationOf_0 : decode cX9_equationOf 0 = .ok (.aload_n 0, 1) := by decide +kernel
theorem dX9_equationOf_1 : decode cX9_equationOf 1 = .ok (.iload_n 1, 1) := by decide +kernel
theorem dX9_equationOf_2 : decode cX9_equationOf 2 = .ok (.invokevirtual 470, 3) := by decide +kernel
theorem dX9_equationOf_5 : decode cX9_equationOf 5 = .ok (.istore_n 2, 1) := by decide +kernel
theorem dX9_equationOf_6 : decode cX9_equationOf 6 = .ok (.bipush 24, 2) := by decide +kernel
theorem dX9_equationOf_8 : decode cX9_equationOf 8 = .ok (.aload_n 0, 1) := by decide +kernel
theorem dX9_equationOf_9 : decode cX9_equationOf 9 = .ok (.getfield 80, 3) := by decide +kernel
theorem dX9_equationOf_12 : decode cX9_equationOf 12 = .ok (.iload_n 2, 1) := by decide +kernel
theorem dX9_equationOf_13 : decode cX9_equationOf 13 = .ok (.iaload, 1) := by decide +kernel
theorem dX9_equationOf_14 : decode cX9_equationOf 14 = .ok (.imul, 1) := by decide +kernel
theorem dX9_equationOf_15 : decode cX9_equationOf 15 = .ok (.bipush 6, 2) := by decide +kernel
theorem dX9_equationOf_17 : decode cX9_equationOf 17 = .ok (.iload_n 2, 1) := by decide +kernel
theorem dX9_equationOf_18 : decode cX9_equationOf 18 = .ok (.iload_n 1, 1) := by decide +kernel
theorem dX9_equationOf_19 : decode cX9_equationOf 19 = .ok (.bipush 6, 2) := by decide +kernel
theorem dX9_equationOf_21 : decode cX9_equationOf 21 = .ok (.idiv, 1) := by decide +kernel
theorem dX9_equationOf_22 : decode cX9_equationOf 22 = .ok (.if_icmp .ne 7, 3) := by decide +kernel
theorem dX9_equationOf_25 : decode cX9_equationOf 25 = .ok (.iconst 0, 1) := by decide +kernel
theorem dX9_equationOf_26 : decode cX9_equationOf 26 = .ok (.goto 12, 3) := by decide +kernel
theorem dX9_equationOf_29 : decode cX9_equationOf 29 = .ok (.aload_n 0, 1) := by decide +kernel
theorem dX9_equationOf_30 : decode cX9_equationOf 30 = .ok (.getfield 86, 3) := by decide +kernel
theorem dX9_equationOf_33 : decode cX9_equationOf 33 = .ok (.iload_n 1, 1) := by decide +kernel
theorem dX9_equationOf_34 : decode cX9_equationOf 34 = .ok (.bipush 6, 2) := by decide +kernel
theorem dX9_equationOf_36 : decode cX9_equationOf 36 = .ok (.idiv, 1) := by decide +kernel
theorem dX9_equationOf_37 : decode cX9_equationOf 37 = .ok (.iaload, 1) := by decide +kernel
theorem dX9_equationOf_38 : decode cX9_equationOf 38 = .ok (.imul, 1) := by decide +kernel
theorem dX9_equationOf_39 : decode cX9_equationOf 39 = .ok (.iadd, 1) := by decide +kernel
theorem dX9_equationOf_40 : decode cX9_equationOf 40 = .ok (.iload_n 1, 1) := by decide +kernel
theorem dX9_equationOf_41 : decode cX9_equationOf 41 = .ok (.bipush 6, 2) := by decide +kernel
theorem dX9_equationOf_43 : decode cX9_equationOf 43 = .ok (.irem, 1) := by decide +kernel
theorem dX9_equationOf_44 : decode cX9_equationOf 44 = .ok (.iadd, 1) := by decide +kernel
theorem dX9_equationOf_45 : decode cX9_equationOf 45 = .ok (.ireturn, 1) := by decide +kernel
theorem dX9_exact_0 : decode cX9_exact 0 = .ok (.aload_n 0, 1) := by decide +kernel
theorem dX9_exact_1 : decode cX9_exact 1 = .ok (.iconst 0, 1) := by decide +kernel
theorem dX9_exact_2 : decode cX9_exact 2 = .ok (.putfield 446, 3) := by decide +kernel
theorem dX9_exact_5 : decode cX9_exact 5 = .ok (.iconst 0, 1) := by decide +kernel
theorem dX9_exact_6 : decode cX9_exact 6 = .ok (.istore_n 1, 1) := by decide +kernel
theorem dX9_exact_7 : decode cX9_exact 7 = .ok (.iload_n 1, 1) := by decide +kernel
theorem dX9_exact_8 : decode cX9_exact 8 = .ok (.sipush 6144, 3) := by decide +kernel
theorem dX9_exact_11 : decode cX9_exact 11 = .ok (.if_icmp .ge 16, 3) := by decide +kernel
theorem dX9_exact_14 : decode cX9_exact 14 = .ok (.aload_n 0, 1) := by decide +kernel
theorem dX9_exact_15 : decode cX9_exact 15 = .ok (.getfield 122, 3) := by decide +kernel
theorem dX9_exact_18 : decode cX9_exact 18 = .ok (.iload_n 1, 1) := by decide +kernel
theorem dX9_exact_19 : decode cX9_exact 19 = .ok (.iconst 0, 1) := by decide +kernel
theorem dX9_exact_20 : decode cX9_exact 20 = .ok (.bastore, 1) := by decide +kernel
theorem dX9_exact_21 : decode cX9_exact 21 = .ok (.iinc 1 1, 3) := by decide +kernel
theorem dX9_exact_24 : decode cX9_exact 24 = .ok (.goto (-17), 3) := by decide +kernel
theorem dX9_exact_27 : decode cX9_exact 27 = .ok (.iconst 0, 1) := by decide +kernel
theorem dX9_exact_28 : decode cX9_exact 28 = .ok (.istore_n 1, 1) := by decide +kernel
theorem dX9_exact_29 : decode cX9_exact 29 = .ok (.iload_n 1, 1) := by decide +kernel
theorem dX9_exact_30 : decode cX9_exact 30 = .ok (.bipush 12, 2) := by decide +kernel
theorem dX9_exact_32 : decode cX9_exact 32 = .ok (.if_icmp .ge 16, 3) := by decide +kernel
theorem dX9_exact_35 : decode cX9_exact 35 = .ok (.aload_n 0, 1) := by decide +kernel
theorem dX9_exact_36 : decode cX9_exact 36 = .ok (.getfield 125, 3) := by decide +kernel
theorem dX9_exact_39 : decode cX9_exact 39 = .ok (.iload_n 1, 1) := by decide +kernel
theorem dX9_exact_40 : decode cX9_exact 40 = .ok (.iconst 0, 1) := by decide +kernel
theorem dX9_exact_41 : decode cX9_exact 41 = .ok (.iastore, 1) := by decide +kernel
theorem dX9_exact_42 : decode cX9_exact 42 = .ok (.iinc 1 1, 3) := by decide +kernel
theorem dX9_exact_45 : decode cX9_exact 45 = .ok (.goto (-16), 3) := by decide +kernel
theorem dX9_exact_48 : decode cX9_exact 48 = .ok (.iconst 1, 1) := by decide +kernel
theorem dX9_exact_49 : decode cX9_exact 49 = .ok (.istore_n 1, 1) := by decide +kernel
theorem dX9_exact_50 : decode cX9_exact 50 = .ok (.iload_n 1, 1) := by decide +kernel
theorem dX9_exact_51 : decode cX9_exact 51 = .ok (.ifCond .eq 100, 3) := by decide +kernel
theorem dX9_exact_54 : decode cX9_exact 54 = .ok (.aload_n 0, 1) := by decide +kernel
theorem dX9_exact_55 : decode cX9_exact 55 = .ok (.getfield 446, 3) := by decide +kernel
theorem dX9_exact_58 : decode cX9_exact 58 = .ok (.ifCond .ne 93, 3) := by decide +kernel
theorem dX9_exact_61 : decode cX9_exact 61 = .ok (.iconst 0, 1) := by decide +kernel
theorem dX9_exact_62 : decode cX9_exact 62 = .ok (.istore_n 1, 1) := by decide +kernel
theorem dX9_exact_63 : decode cX9_exact 63 = .ok (.iconst 0, 1) := by decide +kernel
theorem dX9_exact_64 : decode cX9_exact 64 = .ok (.istore_n 2, 1) := by decide +kernel
theorem dX9_exact_65 : decode cX9_exact 65 = .ok (.iload_n 2, 1) := by decide +kernel
theorem dX9_exact_66 : decode cX9_exact 66 = .ok (.aload_n 0, 1) := by decide +kernel
theorem dX9_exact_67 : decode cX9_exact 67 = .ok (.getfield 272, 3) := by decide +kernel
theorem dX9_exact_70 : decode cX9_exact 70 = .ok (.if_icmp .ge 34, 3) := by decide +kernel
theorem dX9_exact_73 : decode cX9_exact 73 = .ok (.aload_n 0, 1) := by decide +kernel
theorem dX9_exact_74 : decode cX9_exact 74 = .ok (.getfield 446, 3) := by decide +kernel
theorem dX9_exact_77 : decode cX9_exact 77 = .ok (.ifCond .ne 27, 3) := by decide +kernel
theorem dX9_exact_80 : decode cX9_exact 80 = .ok (.aload_n 0, 1) := by decide +kernel
theorem dX9_exact_81 : decode cX9_exact 81 = .ok (.iload_n 2, 1) := by decide +kernel
theorem dX9_exact_82 : decode cX9_exact 82 = .ok (.invokevirtual 449, 3) := by decide +kernel
theorem dX9_exact_85 : decode cX9_exact 85 = .ok (.ifCond .ne 7, 3) := by decide +kernel
theorem dX9_exact_88 : decode cX9_exact 88 = .ok (.iload_n 1, 1) := by decide +kernel
theorem dX9_exact_89 : decode cX9_exact 89 = .ok (.ifCond .eq 7, 3) := by decide +kernel
theorem dX9_exact_92 : decode cX9_exact 92 = .ok (.iconst 1, 1) := by decide +kernel
theorem dX9_exact_93 : decode cX9_exact 93 = .ok (.goto 4, 3) := by decide +kernel
theorem dX9_exact_96 : decode cX9_exact 96 = .ok (.iconst 0, 1) := by decide +kernel
theorem dX9_exact_97 : decode cX9_exact 97 = .ok (.istore_n 1, 1) := by decide +kernel
theorem dX9_exact_98 : decode cX9_exact 98 = .ok (.iinc 2 1, 3) := by decide +kernel
theorem dX9_exact_101 : decode cX9_exact 101 = .ok (.goto (-36), 3) := by decide +kernel
theorem dX9_exact_104 : decode cX9_exact 104 = .ok (.iconst 0, 1) := by decide +kernel
theorem dX9_exact_105 : decode cX9_exact 105 = .ok (.istore_n 2, 1) := by decide +kernel
theorem dX9_exact_106 : decode cX9_exact 106 = .ok (.iload_n 2, 1) := by decide +kernel
theorem dX9_exact_107 : decode cX9_exact 107 = .ok (.aload_n 0, 1) := by decide +kernel
theorem dX9_exact_108 : decode cX9_exact 108 = .ok (.getfield 272, 3) := by decide +kernel
theorem dX9_exact_111 : decode cX9_exact 111 = .ok (.if_icmp .ge 37, 3) := by decide +kernel
theorem dX9_exact_114 : decode cX9_exact 114 = .ok (.aload_n 0, 1) := by decide +kernel
theorem dX9_exact_115 : decode cX9_exact 115 = .ok (.aload_n 0, 1) := by decide +kernel
theorem dX9_exact_116 : decode cX9_exact 116 = .ok (.getfield 446, 3) := by decide +kernel
theorem dX9_exact_119 : decode cX9_exact 119 = .ok (.ifCond .ne 15, 3) := by decide +kernel
theorem dX9_exact_122 : decode cX9_exact 122 = .ok (.aload_n 0, 1) := by decide +kernel
theorem dX9_exact_123 : decode cX9_exact 123 = .ok (.iload_n 2, 1) := by decide +kernel
theorem dX9_exact_124 : decode cX9_exact 124 = .ok (.invokevirtual 452, 3) := by decide +kernel
theorem dX9_exact_127 : decode cX9_exact 127 = .ok (.ldc2_w 456, 3) := by decide +kernel
theorem dX9_exact_130 : decode cX9_exact 130 = .ok (.lcmp, 1) := by decide +kernel
theorem dX9_exact_131 : decode cX9_exact 131 = .ok (.ifCond .le 7, 3) := by decide +kernel
theorem dX9_exact_134 : decode cX9_exact 134 = .ok (.iconst 1, 1) := by decide +kernel
theorem dX9_exact_135 : decode cX9_exact 135 = .ok (.goto 4, 3) := by decide +kernel
theorem dX9_exact_138 : decode cX9_exact 138 = .ok (.iconst 0, 1) := by decide +kernel
theorem dX9_exact_139 : decode cX9_exact 139 = .ok (.putfield 446, 3) := by decide +kernel
theorem dX9_exact_142 : decode cX9_exact 142 = .ok (.iinc 2 1, 3) := by decide +kernel
theorem dX9_exact_145 : decode cX9_exact 145 = .ok (.goto (-39), 3) := by decide +kernel
theorem dX9_exact_148 : decode cX9_exact 148 = .ok (.goto (-98), 3) := by decide +kernel
theorem dX9_exact_151 : decode cX9_exact 151 = .ok (.return_, 1) := by decide +kernel
theorem dX9_expression_0 : decode cX9_expression 0 = .ok (.aload_n 0, 1) := by decide +kernel
theorem dX9_expression_1 : decode cX9_expression 1 = .ok (.iconst 0, 1) := by decide +kernel
theorem dX9_expression_2 : decode cX9_expression 2 = .ok (.putfield 319, 3) := by decide +kernel
theorem dX9_expression_5 : decode cX9_expression 5 = .ok (.aload_n 0, 1) := by decide +kernel
theorem dX9_expression_6 : decode cX9_expression 6 = .ok (.iconst 0, 1) := by decide +kernel
theorem dX9_expression_7 : decode cX9_expression 7 = .ok (.iconst 0, 1) := by decide +kernel
theorem dX9_expression_8 : decode cX9_expression 8 = .ok (.invokevirtual 325, 3) := by decide +kernel
theorem dX9_expression_11 : decode cX9_expression 11 = .ok (.aload_n 0, 1) := by decide +kernel
theorem dX9_expression_12 : decode cX9_expression 12 = .ok (.iconst 0, 1) := by decide +kernel
theorem dX9_expression_13 : decode cX9_expression 13 = .ok (.putfield 328, 3) := by decide +kernel
theorem dX9_expression_16 : decode cX9_expression 16 = .ok (.aload_n 0, 1) := by decide +kernel
theorem dX9_expression_17 : decode cX9_expression 17 = .ok (.invokevirtual 234, 3) := by decide +kernel
theorem dX9_expression_20 : decode cX9_expression 20 = .ok (.ifCond .eq 89, 3) := by decide +kernel
theorem dX9_expression_23 : decode cX9_expression 23 = .ok (.aload_n 0, 1) := by decide +kernel
theorem dX9_expression_24 : decode cX9_expression 24 = .ok (.getfield 319, 3) := by decide +kernel
theorem dX9_expression_27 : decode cX9_expression 27 = .ok (.ifCond .le 82, 3) := by decide +kernel
theorem dX9_expression_30 : decode cX9_expression 30 = .ok (.aload_n 0, 1) := by decide +kernel
theorem dX9_expression_31 : decode cX9_expression 31 = .ok (.getfield 328, 3) := by decide +kernel
theorem dX9_expression_34 : decode cX9_expression 34 = .ok (.ifCond .ne 37, 3) := by decide +kernel
theorem dX9_expression_37 : decode cX9_expression 37 = .ok (.aload_n 0, 1) := by decide +kernel
theorem dX9_expression_38 : decode cX9_expression 38 = .ok (.bipush 6, 2) := by decide +kernel
theorem dX9_expression_40 : decode cX9_expression 40 = .ok (.invokevirtual 258, 3) := by decide +kernel
theorem dX9_expression_43 : decode cX9_expression 43 = .ok (.ifCond .eq 20, 3) := by decide +kernel
theorem dX9_expression_46 : decode cX9_expression 46 = .ok (.aload_n 0, 1) := by decide +kernel
theorem dX9_expression_47 : decode cX9_expression 47 = .ok (.invokevirtual 331, 3) := by decide +kernel
theorem dX9_expression_50 : decode cX9_expression 50 = .ok (.aload_n 0, 1) := by decide +kernel
theorem dX9_expression_51 : decode cX9_expression 51 = .ok (.iconst 1, 1) := by decide +kernel
theorem dX9_expression_52 : decode cX9_expression 52 = .ok (.iconst 0, 1) := by decide +kernel
theorem dX9_expression_53 : decode cX9_expression 53 = .ok (.invokevirtual 325, 3) := by decide +kernel
theorem dX9_expression_56 : decode cX9_expression 56 = .ok (.aload_n 0, 1) := by decide +kernel
theorem dX9_expression_57 : decode cX9_expression 57 = .ok (.invokevirtual 334, 3) := by decide +kernel
theorem dX9_expression_60 : decode cX9_expression 60 = .ok (.goto (-44), 3) := by decide +kernel
theorem dX9_expression_63 : decode cX9_expression 63 = .ok (.aload_n 0, 1) := by decide +kernel
theorem dX9_expression_64 : decode cX9_expression 64 = .ok (.iconst 1, 1) := by decide +kernel
theorem dX9_expression_65 : decode cX9_expression 65 = .ok (.putfield 328, 3) := by decide +kernel
theorem dX9_expression_68 : decode cX9_expression 68 = .ok (.goto (-52), 3) := by decide +kernel
theorem dX9_expression_71 : decode cX9_expression 71 = .ok (.aload_n 0, 1) := by decide +kernel
theorem dX9_expression_72 : decode cX9_expression 72 = .ok (.getfield 328, 3) := by decide +kernel
theorem dX9_expression_75 : decode cX9_expression 75 = .ok (.iconst 1, 1) := by decide +kernel
theorem dX9_expression_76 : decode cX9_expression 76 = .ok (.if_icmp .ne 11, 3) := by decide +kernel
theorem dX9_expression_79 : decode cX9_expression 79 = .ok (.aload_n 0, 1) := by decide +kernel
theorem dX9_expression_80 : decode cX9_expression 80 = .ok (.iload_n 1, 1) := by decide +kernel
theorem dX9_expression_81 : decode cX9_expression 81 = .ok (.invokevirtual 337, 3) := by decide +kernel
theorem dX9_expression_84 : decode cX9_expression 84 = .ok (.goto (-68), 3) := by decide +kernel
theorem dX9_expression_87 : decode cX9_expression 87 = .ok (.aload_n 0, 1) := by decide +kernel
theorem dX9_expression_88 : decode cX9_expression 88 = .ok (.getfield 328, 3) := by decide +kernel
theorem dX9_expression_91 : decode cX9_expression 91 = .ok (.iconst 2, 1) := by decide +kernel
theorem dX9_expression_92 : decode cX9_expression 92 = .ok (.if_icmp .ne 10, 3) := by decide +kernel
theorem dX9_expression_95 : decode cX9_expression 95 = .ok (.aload_n 0, 1) := by decide +kernel
theorem dX9_expression_96 : decode cX9_expression 96 = .ok (.invokevirtual 340, 3) := by decide +kernel
theorem dX9_expression_99 : decode cX9_expression 99 = .ok (.goto (-83), 3) := by decide +kernel
theorem dX9_expression_102 : decode cX9_expression 102 = .ok (.aload_n 0, 1) := by decide +kernel
theorem dX9_expression_103 : decode cX9_expression 103 = .ok (.invokevirtual 343, 3) := by decide +kernel
theorem dX9_expression_106 : decode cX9_expression 106 = .ok (.goto (-90), 3) := by decide +kernel
theorem dX9_expression_109 : decode cX9_expression 109 = .ok (.return_, 1) := by decide +kernel
theorem dX9_fails_0 : decode cX9_fails 0 = .ok (.aload_n 0, 1) := by decide +kernel
theorem dX9_fails_1 : decode cX9_fails 1 = .ok (.getfield 184, 3) := by decide +kernel
theorem dX9_fails_4 : decode cX9_fails 4 = .ok (.ifCond .ne 13, 3) := by decide +kernel
theorem dX9_fails_7 : decode cX9_fails 7 = .ok (.aload_n 0, 1) := by decide +kernel
theorem dX9_fails_8 : decode cX9_fails 8 = .ok (.iload_n 1, 1) := by decide +kernel
theorem dX9_fails_9 : decode cX9_fails 9 = .ok (.putfield 184, 3) := by decide +kernel
theorem dX9_fails_12 : decode cX9_fails 12 = .ok (.aload_n 0, 1) := by decide +kernel
theorem dX9_fails_13 : decode cX9_fails 13 = .ok (.iload_n 2, 1) := by decide +kernel
theorem dX9_fails_14 : decode cX9_fails 14 = .ok (.putfield 187, 3) := by decide +kernel
theorem dX9_fails_17 : decode cX9_fails 17 = .ok (.return_, 1) := by decide +kernel
theorem dX9_fault_0 : decode cX9_fault 0 = .ok (.iload_n 1, 1) := by decide +kernel
theorem dX9_fault_1 : decode cX9_fault 1 = .ok (.ifCond .ne 10, 3) := by decide +kernel
theorem dX9_fault_4 : decode cX9_fault 4 = .ok (.aload_n 0, 1) := by decide +kernel
theorem dX9_fault_5 : decode cX9_fault 5 = .ok (.getfield 19, 3) := by decide +kernel
theorem dX9_fault_8 : decode cX9_fault 8 = .ok (.goto 16, 3) := by decide +kernel
theorem dX9_fault_11 : decode cX9_fault 11 = .ok (.iload_n 1, 1) := by decide +kernel
theorem dX9_fault_12 : decode cX9_fault 12 = .ok (.iconst 1, 1) := by decide +kernel
theorem dX9_fault_13 : decode cX9_fault 13 = .ok (.if_icmp .ne 10, 3) := by decide +kernel
theorem dX9_fault_16 : decode cX9_fault 16 = .ok (.aload_n 0, 1) := by decide +kernel
theorem dX9_fault_17 : decode cX9_fault 17 = .ok (.getfield 23, 3) := by decide +kernel
theorem dX9_fault_20 : decode cX9_fault 20 = .ok (.goto 4, 3) := by decide +kernel
theorem dX9_fault_23 : decode cX9_fault 23 = .ok (.iconst (-1), 1) := by decide +kernel
theorem dX9_fault_24 : decode cX9_fault 24 = .ok (.ireturn, 1) := by decide +kernel
theorem dX9_feed_0 : decode cX9_feed 0 = .ok (.aload_n 0, 1) := by decide +kernel
theorem dX9_feed_1 : decode cX9_feed 1 = .ok (.getfield 173, 3) := by decide +kernel
theorem dX9_feed_4 : decode cX9_feed 4 = .ok (.bipush 20, 2) := by decide +kernel
theorem dX9_feed_6 : decode cX9_feed 6 = .ok (.iadd, 1) := by decide +kernel
theorem dX9_feed_7 : decode cX9_feed 7 = .ok (.sipush 3000, 3) := by decide +kernel
theorem dX9_feed_10 : decode cX9_feed 10 = .ok (.if_icmp .le 5, 3) := by decide +kernel
theorem dX9_feed_13 : decode cX9_feed 13 = .ok (.iconst (-1), 1) := by decide +kernel
theorem dX9_feed_14 : decode cX9_feed 14 = .ok (.ireturn, 1) := by decide +kernel
theorem dX9_feed_15 : decode cX9_feed 15 = .ok (.aload_n 0, 1) := by decide +kernel
theorem dX9_feed_16 : decode cX9_feed 16 = .ok (.iload_n 1, 1) := by decide +kernel
theorem dX9_feed_17 : decode cX9_feed 17 = .ok (.invokevirtual 176, 3) := by decide +kernel
theorem dX9_feed_20 : decode cX9_feed 20 = .ok (.aload_n 0, 1) := by decide +kernel
theorem dX9_feed_21 : decode cX9_feed 21 = .ok (.iload_n 2, 1) := by decide +kernel
theorem dX9_feed_22 : decode cX9_feed 22 = .ok (.invokevirtual 176, 3) := by decide +kernel
theorem dX9_feed_25 : decode cX9_feed 25 = .ok (.aload_n 0, 1) := by decide +kernel
theorem dX9_feed_26 : decode cX9_feed 26 = .ok (.iload_n 3, 1) := by decide +kernel
theorem dX9_feed_27 : decode cX9_feed 27 = .ok (.invokevirtual 176, 3) := by decide +kernel
theorem dX9_feed_30 : decode cX9_feed 30 = .ok (.aload_n 0, 1) := by decide +kernel
theorem dX9_feed_31 : decode cX9_feed 31 = .ok (.iload 4, 2) := by decide +kernel
theorem dX9_feed_33 : decode cX9_feed 33 = .ok (.invokevirtual 176, 3) := by decide +kernel
theorem dX9_feed_36 : decode cX9_feed 36 = .ok (.aload_n 0, 1) := by decide +kernel
theorem dX9_feed_37 : decode cX9_feed 37 = .ok (.iload 5, 2) := by decide +kernel
theorem dX9_feed_39 : decode cX9_feed 39 = .ok (.invokevirtual 176, 3) := by decide +kernel
theorem dX9_feed_42 : decode cX9_feed 42 = .ok (.aload_n 0, 1) := by decide +kernel
theorem dX9_feed_43 : decode cX9_feed 43 = .ok (.getfield 173, 3) := by decide +kernel
theorem dX9_feed_46 : decode cX9_feed 46 = .ok (.ireturn, 1) := by decide +kernel
theorem dX9_forgets_0 : decode cX9_forgets 0 = .ok (.aload_n 0, 1) := by decide +kernel
theorem dX9_forgets_1 : decode cX9_forgets 1 = .ok (.iconst 0, 1) := by decide +kernel
theorem dX9_forgets_2 : decode cX9_forgets 2 = .ok (.putfield 399, 3) := by decide +kernel
theorem dX9_forgets_5 : decode cX9_forgets 5 = .ok (.iconst 0, 1) := by decide +kernel
theorem dX9_forgets_6 : decode cX9_forgets 6 = .ok (.istore_n 1, 1) := by decide +kernel
theorem dX9_forgets_7 : decode cX9_forgets 7 = .ok (.iload_n 1, 1) := by decide +kernel
theorem dX9_forgets_8 : decode cX9_forgets 8 = .ok (.sipush 1200, 3) := by decide +kernel
theorem dX9_forgets_11 : decode cX9_forgets 11 = .ok (.if_icmp .ge 16, 3) := by decide +kernel
theorem dX9_forgets_14 : decode cX9_forgets 14 = .ok (.aload_n 0, 1) := by decide +kernel
theorem dX9_forgets_15 : decode cX9_forgets 15 = .ok (.getfield 149, 3) := by decide +kernel
theorem dX9_forgets_18 : decode cX9_forgets 18 = .ok (.iload_n 1, 1) := by decide +kernel
theorem dX9_forgets_19 : decode cX9_forgets 19 = .ok (.iconst 0, 1) := by decide +kernel
theorem dX9_forgets_20 : decode cX9_forgets 20 = .ok (.bastore, 1) := by decide +kernel
theorem dX9_forgets_21 : decode cX9_forgets 21 = .ok (.iinc 1 1, 3) := by decide +kernel
theorem dX9_forgets_24 : decode cX9_forgets 24 = .ok (.goto (-17), 3) := by decide +kernel
theorem dX9_forgets_27 : decode cX9_forgets 27 = .ok (.return_, 1) := by decide +kernel
theorem dX9_goesRound_0 : decode cX9_goesRound 0 = .ok (.iconst 0, 1) := by decide +kernel
theorem dX9_goesRound_1 : decode cX9_goesRound 1 = .ok (.istore_n 1, 1) := by decide +kernel
theorem dX9_goesRound_2 : decode cX9_goesRound 2 = .ok (.iconst 0, 1) := by decide +kernel
theorem dX9_goesRound_3 : decode cX9_goesRound 3 = .ok (.istore_n 2, 1) := by decide +kernel
theorem dX9_goesRound_4 : decode cX9_goesRound 4 = .ok (.iload_n 2, 1) := by decide +kernel
theorem dX9_goesRound_5 : decode cX9_goesRound 5 = .ok (.bipush 24, 2) := by decide +kernel
theorem dX9_goesRound_7 : decode cX9_goesRound 7 = .ok (.if_icmp .ge 33, 3) := by decide +kernel
theorem dX9_goesRound_10 : decode cX9_goesRound 10 = .ok (.iload_n 1, 1) := by decide +kernel
theorem dX9_goesRound_11 : decode cX9_goesRound 11 = .ok (.ifCond .ne 17, 3) := by decide +kernel
theorem dX9_goesRound_14 : decode cX9_goesRound 14 = .ok (.aload_n 0, 1) := by decide +kernel
theorem dX9_goesRound_15 : decode cX9_goesRound 15 = .ok (.getfield 137, 3) := by decide +kernel
theorem dX9_goesRound_18 : decode cX9_goesRound 18 = .ok (.iload_n 2, 1) := by decide +kernel
theorem dX9_goesRound_19 : decode cX9_goesRound 19 = .ok (.iaload, 1) := by decide +kernel
theorem dX9_goesRound_20 : decode cX9_goesRound 20 = .ok (.iload_n 2, 1) := by decide +kernel
theorem dX9_goesRound_21 : decode cX9_goesRound 21 = .ok (.ishr, 1) := by decide +kernel
theorem dX9_goesRound_22 : decode cX9_goesRound 22 = .ok (.iconst 1, 1) := by decide +kernel
theorem dX9_goesRound_23 : decode cX9_goesRound 23 = .ok (.iand, 1) := by decide +kernel
theorem dX9_goesRound_24 : decode cX9_goesRound 24 = .ok (.iconst 1, 1) := by decide +kernel
theorem dX9_goesRound_25 : decode cX9_goesRound 25 = .ok (.if_icmp .ne 7, 3) := by decide +kernel
theorem dX9_goesRound_28 : decode cX9_goesRound 28 = .ok (.iconst 1, 1) := by decide +kernel
theorem dX9_goesRound_29 : decode cX9_goesRound 29 = .ok (.goto 4, 3) := by decide +kernel
theorem dX9_goesRound_32 : decode cX9_goesRound 32 = .ok (.iconst 0, 1) := by decide +kernel
theorem dX9_goesRound_33 : decode cX9_goesRound 33 = .ok (.istore_n 1, 1) := by decide +kernel
theorem dX9_goesRound_34 : decode cX9_goesRound 34 = .ok (.iinc 2 1, 3) := by decide +kernel
theorem dX9_goesRound_37 : decode cX9_goesRound 37 = .ok (.goto (-33), 3) := by decide +kernel
theorem dX9_goesRound_40 : decode cX9_goesRound 40 = .ok (.iload_n 1, 1) := by decide +kernel
theorem dX9_goesRound_41 : decode cX9_goesRound 41 = .ok (.ireturn, 1) := by decide +kernel
theorem dX9_grammar_0 : decode cX9_grammar 0 = .ok (.aload_n 0, 1) := by decide +kernel
theorem dX9_grammar_1 : decode cX9_grammar 1 = .ok (.invokevirtual 383, 3) := by decide +kernel
theorem dX9_grammar_4 : decode cX9_grammar 4 = .ok (.aload_n 0, 1) := by decide +kernel
theorem dX9_grammar_5 : decode cX9_grammar 5 = .ok (.invokevirtual 386, 3) := by decide +kernel
theorem dX9_grammar_8 : decode cX9_grammar 8 = .ok (.aload_n 0, 1) := by decide +kernel
theorem dX9_grammar_9 : decode cX9_grammar 9 = .ok (.aload_n 0, 1) := by decide +kernel
theorem dX9_grammar_10 : decode cX9_grammar 10 = .ok (.getfield 184, 3) := by decide +kernel
theorem dX9_grammar_13 : decode cX9_grammar 13 = .ok (.putfield 19, 3) := by decide +kernel
theorem dX9_grammar_16 : decode cX9_grammar 16 = .ok (.aload_n 0, 1) := by decide +kernel
theorem dX9_grammar_17 : decode cX9_grammar 17 = .ok (.aload_n 0, 1) := by decide +kernel
theorem dX9_grammar_18 : decode cX9_grammar 18 = .ok (.getfield 187, 3) := by decide +kernel
theorem dX9_grammar_21 : decode cX9_grammar 21 = .ok (.putfield 23, 3) := by decide +kernel
theorem dX9_grammar_24 : decode cX9_grammar 24 = .ok (.aload_n 0, 1) := by decide +kernel
theorem dX9_grammar_25 : decode cX9_grammar 25 = .ok (.getfield 184, 3) := by decide +kernel
theorem dX9_grammar_28 : decode cX9_grammar 28 = .ok (.ifCond .le 73, 3) := by decide +kernel
theorem dX9_grammar_31 : decode cX9_grammar 31 = .ok (.aload_n 0, 1) := by decide +kernel
theorem dX9_grammar_32 : decode cX9_grammar 32 = .ok (.aload_n 0, 1) := by decide +kernel
theorem dX9_grammar_33 : decode cX9_grammar 33 = .ok (.getfield 389, 3) := by decide +kernel
theorem dX9_grammar_36 : decode cX9_grammar 36 = .ok (.ifCond .eq 10, 3) := by decide +kernel
theorem dX9_grammar_39 : decode cX9_grammar 39 = .ok (.aload_n 0, 1) := by decide +kernel
theorem dX9_grammar_40 : decode cX9_grammar 40 = .ok (.getfield 393, 3) := by decide +kernel
theorem dX9_grammar_43 : decode cX9_grammar 43 = .ok (.goto 4, 3) := by decide +kernel
theorem dX9_grammar_46 : decode cX9_grammar 46 = .ok (.iconst 0, 1) := by decide +kernel
theorem dX9_grammar_47 : decode cX9_grammar 47 = .ok (.putfield 200, 3) := by decide +kernel
theorem dX9_grammar_50 : decode cX9_grammar 50 = .ok (.iconst 0, 1) := by decide +kernel
theorem dX9_grammar_51 : decode cX9_grammar 51 = .ok (.istore_n 1, 1) := by decide +kernel
theorem dX9_grammar_52 : decode cX9_grammar 52 = .ok (.iload_n 1, 1) := by decide +kernel
theorem dX9_grammar_53 : decode cX9_grammar 53 = .ok (.aload_n 0, 1) := by decide +kernel
theorem dX9_grammar_54 : decode cX9_grammar 54 = .ok (.getfield 200, 3) := by decide +kernel
theorem dX9_grammar_57 : decode cX9_grammar 57 = .ok (.if_icmp .ge 21, 3) := by decide +kernel
theorem dX9_grammar_60 : decode cX9_grammar 60 = .ok (.aload_n 0, 1) := by decide +kernel
theorem dX9_grammar_61 : decode cX9_grammar 61 = .ok (.getfield 13, 3) := by decide +kernel
theorem dX9_grammar_64 : decode cX9_grammar 64 = .ok (.iload_n 1, 1) := by decide +kernel
theorem dX9_grammar_65 : decode cX9_grammar 65 = .ok (.aload_n 0, 1) := by decide +kernel
theorem dX9_grammar_66 : decode cX9_grammar 66 = .ok (.getfield 16, 3) := by decide +kernel
theorem dX9_grammar_69 : decode cX9_grammar 69 = .ok (.iload_n 1, 1) := by decide +kernel
theorem dX9_grammar_70 : decode cX9_grammar 70 = .ok (.baload, 1) := by decide +kernel
theorem dX9_grammar_71 : decode cX9_grammar 71 = .ok (.bastore, 1) := by decide +kernel
theorem dX9_grammar_72 : decode cX9_grammar 72 = .ok (.iinc 1 1, 3) := by decide +kernel
theorem dX9_grammar_75 : decode cX9_grammar 75 = .ok (.goto (-23), 3) := by decide +kernel
theorem dX9_grammar_78 : decode cX9_grammar 78 = .ok (.aload_n 0, 1) := by decide +kernel
theorem dX9_grammar_79 : decode cX9_grammar 79 = .ok (.iconst 0, 1) := by decide +kernel
theorem dX9_grammar_80 : decode cX9_grammar 80 = .ok (.putfield 248, 3) := by decide +kernel
theorem dX9_grammar_83 : decode cX9_grammar 83 = .ok (.aload_n 0, 1) := by decide +kernel
theorem dX9_grammar_84 : decode cX9_grammar 84 = .ok (.iconst 0, 1) := by decide +kernel
theorem dX9_grammar_85 : decode cX9_grammar 85 = .ok (.putfield 272, 3) := by decide +kernel
theorem dX9_grammar_88 : decode cX9_grammar 88 = .ok (.aload_n 0, 1) := by decide +kernel
theorem dX9_grammar_89 : decode cX9_grammar 89 = .ok (.getfield 389, 3) := by decide +kernel
theorem dX9_grammar_92 : decode cX9_grammar 92 = .ok (.ifCond .eq 7, 3) := by decide +kernel
theorem dX9_grammar_95 : decode cX9_grammar 95 = .ok (.aload_n 0, 1) := by decide +kernel
theorem dX9_grammar_96 : decode cX9_grammar 96 = .ok (.invokevirtual 386, 3) := by decide +kernel
theorem dX9_grammar_99 : decode cX9_grammar 99 = .ok (.iconst (-1), 1) := by decide +kernel
theorem dX9_grammar_100 : decode cX9_grammar 100 = .ok (.ireturn, 1) := by decide +kernel
theorem dX9_grammar_101 : decode cX9_grammar 101 = .ok (.aload_n 0, 1) := by decide +kernel
theorem dX9_grammar_102 : decode cX9_grammar 102 = .ok (.iconst 1, 1) := by decide +kernel
theorem dX9_grammar_103 : decode cX9_grammar 103 = .ok (.putfield 389, 3) := by decide +kernel
theorem dX9_grammar_106 : decode cX9_grammar 106 = .ok (.aload_n 0, 1) := by decide +kernel
theorem dX9_grammar_107 : decode cX9_grammar 107 = .ok (.aload_n 0, 1) := by decide +kernel
theorem dX9_grammar_108 : decode cX9_grammar 108 = .ok (.getfield 200, 3) := by decide +kernel
theorem dX9_grammar_111 : decode cX9_grammar 111 = .ok (.putfield 393, 3) := by decide +kernel
theorem dX9_grammar_114 : decode cX9_grammar 114 = .ok (.iconst 0, 1) := by decide +kernel
theorem dX9_grammar_115 : decode cX9_grammar 115 = .ok (.istore_n 1, 1) := by decide +kernel
theorem dX9_grammar_116 : decode cX9_grammar 116 = .ok (.iload_n 1, 1) := by decide +kernel
theorem dX9_grammar_117 : decode cX9_grammar 117 = .ok (.aload_n 0, 1) := by decide +kernel
theorem dX9_grammar_118 : decode cX9_grammar 118 = .ok (.getfield 200, 3) := by decide +kernel
theorem dX9_grammar_121 : decode cX9_grammar 121 = .ok (.if_icmp .ge 21, 3) := by decide +kernel
theorem dX9_grammar_124 : decode cX9_grammar 124 = .ok (.aload_n 0, 1) := by decide +kernel
theorem dX9_grammar_125 : decode cX9_grammar 125 = .ok (.getfield 16, 3) := by decide +kernel
theorem dX9_grammar_128 : decode cX9_grammar 128 = .ok (.iload_n 1, 1) := by decide +kernel
theorem dX9_grammar_129 : decode cX9_grammar 129 = .ok (.aload_n 0, 1) := by decide +kernel
theorem dX9_grammar_130 : decode cX9_grammar 130 = .ok (.getfield 13, 3) := by decide +kernel
theorem dX9_grammar_133 : decode cX9_grammar 133 = .ok (.iload_n 1, 1) := by decide +kernel
theorem dX9_grammar_134 : decode cX9_grammar 134 = .ok (.baload, 1) := by decide +kernel
theorem dX9_grammar_135 : decode cX9_grammar 135 = .ok (.bastore, 1) := by decide +kernel
theorem dX9_grammar_136 : decode cX9_grammar 136 = .ok (.iinc 1 1, 3) := by decide +kernel
theorem dX9_grammar_139 : decode cX9_grammar 139 = .ok (.goto (-23), 3) := by decide +kernel
theorem dX9_grammar_142 : decode cX9_grammar 142 = .ok (.aload_n 0, 1) := by decide +kernel
theorem dX9_grammar_143 : decode cX9_grammar 143 = .ok (.iconst 0, 1) := by decide +kernel
theorem dX9_grammar_144 : decode cX9_grammar 144 = .ok (.putfield 396, 3) := by decide +kernel
theorem dX9_grammar_147 : decode cX9_grammar 147 = .ok (.aload_n 0, 1) := by decide +kernel
theorem dX9_grammar_148 : decode cX9_grammar 148 = .ok (.iconst 0, 1) := by decide +kernel
theorem dX9_grammar_149 : decode cX9_grammar 149 = .ok (.putfield 399, 3) := by decide +kernel
theorem dX9_grammar_152 : decode cX9_grammar 152 = .ok (.aload_n 0, 1) := by decide +kernel
theorem dX9_grammar_153 : decode cX9_grammar 153 = .ok (.invokevirtual 402, 3) := by decide +kernel
theorem dX9_grammar_156 : decode cX9_grammar 156 = .ok (.aload_n 0, 1) := by decide +kernel
theorem dX9_grammar_157 : decode cX9_grammar 157 = .ok (.getfield 272, 3) := by decide +kernel
theorem dX9_grammar_160 : decode cX9_grammar 160 = .ok (.ireturn, 1) := by decide +kernel
theorem dX9_graph_0 : decode cX9_graph 0 = .ok (.iload_n 1, 1) := by decide +kernel
theorem dX9_graph_1 : decode cX9_graph 1 = .ok (.iconst 0, 1) := by decide +kernel
theorem dX9_graph_2 : decode cX9_graph 2 = .ok (.aload_n 0, 1) := by decide +kernel
theorem dX9_graph_3 : decode cX9_graph 3 = .ok (.getfield 248, 3) := by decide +kernel
theorem dX9_graph_6 : decode cX9_graph 6 = .ok (.iconst 1, 1) := by decide +kernel
theorem dX9_graph_7 : decode cX9_graph 7 = .ok (.isub, 1) := by decide +kernel
theorem dX9_graph_8 : decode cX9_graph 8 = .ok (.invokestatic 180, 3) := by decide +kernel
theorem dX9_graph_11 : decode cX9_graph 11 = .ok (.ifCond .eq 23, 3) := by decide +kernel
theorem dX9_graph_14 : decode cX9_graph 14 = .ok (.aload_n 0, 1) := by decide +kernel
theorem dX9_graph_15 : decode cX9_graph 15 = .ok (.getfield 446, 3) := by decide +kernel
theorem dX9_graph_18 : decode cX9_graph 18 = .ok (.ifCond .ne 16, 3) := by decide +kernel
theorem dX9_graph_21 : decode cX9_graph 21 = .ok (.iload_n 2, 1) := by decide +kernel
theorem dX9_graph_22 : decode cX9_graph 22 = .ok (.ifCond .lt 12, 3) := by decide +kernel
theorem dX9_graph_25 : decode cX9_graph 25 = .ok (.aload_n 0, 1) := by decide +kernel
theorem dX9_graph_26 : decode cX9_graph 26 = .ok (.iload_n 1, 1) := by decide +kernel
theorem dX9_graph_27 : decode cX9_graph 27 = .ok (.iload_n 2, 1) := by decide +kernel
theorem dX9_graph_28 : decode cX9_graph 28 = .ok (.invokevirtual 458, 3) := by decide +kernel
theorem dX9_graph_31 : decode cX9_graph 31 = .ok (.goto 4, 3) := by decide +kernel
theorem dX9_graph_34 : decode cX9_graph 34 = .ok (.iconst (-1), 1) := by decide +kernel
theorem dX9_graph_35 : decode cX9_graph 35 = .ok (.ireturn, 1) := by decide +kernel
theorem dX9_graphAt_0 : decode cX9_graphAt 0 = .ok (.iconst 0, 1) := by decide +kernel
theorem dX9_graphAt_1 : decode cX9_graphAt 1 = .ok (.istore_n 3, 1) := by decide +kernel
theorem dX9_graphAt_2 : decode cX9_graphAt 2 = .ok (.iconst 0, 1) := by decide +kernel
theorem dX9_graphAt_3 : decode cX9_graphAt 3 = .ok (.istore 4, 2) := by decide +kernel
theorem dX9_graphAt_5 : decode cX9_graphAt 5 = .ok (.iload 4, 2) := by decide +kernel
theorem dX9_graphAt_7 : decode cX9_graphAt 7 = .ok (.sipush 512, 3) := by decide +kernel
theorem dX9_graphAt_10 : decode cX9_graphAt 10 = .ok (.if_icmp .ge 36, 3) := by decide +kernel
theorem dX9_graphAt_13 : decode cX9_graphAt 13 = .ok (.aload_n 0, 1) := by decide +kernel
theorem dX9_graphAt_14 : decode cX9_graphAt 14 = .ok (.getfield 122, 3) := by decide +kernel
theorem dX9_graphAt_17 : decode cX9_graphAt 17 = .ok (.sipush 512, 3) := by decide +kernel
theorem dX9_graphAt_20 : decode cX9_graphAt 20 = .ok (.iload_n 1, 1) := by decide +kernel
theorem dX9_graphAt_21 : decode cX9_graphAt 21 = .ok (.imul, 1) := by decide +kernel
theorem dX9_graphAt_22 : decode cX9_graphAt 22 = .ok (.iload 4, 2) := by decide +kernel
theorem dX9_graphAt_24 : decode cX9_graphAt 24 = .ok (.iadd, 1) := by decide +kernel
theorem dX9_graphAt_25 : decode cX9_graphAt 25 = .ok (.baload, 1) := by decide +kernel
theorem dX9_graphAt_26 : decode cX9_graphAt 26 = .ok (.ifCond .eq 14, 3) := by decide +kernel
theorem dX9_graphAt_29 : decode cX9_graphAt 29 = .ok (.iload_n 3, 1) := by decide +kernel
theorem dX9_graphAt_30 : decode cX9_graphAt 30 = .ok (.iload_n 2, 1) := by decide +kernel
theorem dX9_graphAt_31 : decode cX9_graphAt 31 = .ok (.if_icmp .ne 6, 3) := by decide +kernel
theorem dX9_graphAt_34 : decode cX9_graphAt 34 = .ok (.iload 4, 2) := by decide +kernel
theorem dX9_graphAt_36 : decode cX9_graphAt 36 = .ok (.ireturn, 1) := by decide +kernel
theorem dX9_graphAt_37 : decode cX9_graphAt 37 = .ok (.iinc 3 1, 3) := by decide +kernel
theorem dX9_graphAt_40 : decode cX9_graphAt 40 = .ok (.iinc 4 1, 3) := by decide +kernel
theorem dX9_graphAt_43 : decode cX9_graphAt 43 = .ok (.goto (-38), 3) := by decide +kernel
theorem dX9_graphAt_46 : decode cX9_graphAt 46 = .ok (.iconst (-1), 1) := by decide +kernel
theorem dX9_graphAt_47 : decode cX9_graphAt 47 = .ok (.ireturn, 1) := by decide +kernel
theorem dX9_headGraph_0 : decode cX9_headGraph 0 = .ok (.aload_n 0, 1) := by decide +kernel
theorem dX9_headGraph_1 : decode cX9_headGraph 1 = .ok (.getfield 47, 3) := by decide +kernel
theorem dX9_headGraph_4 : decode cX9_headGraph 4 = .ok (.iconst 4, 1) := by decide +kernel
theorem dX9_headGraph_5 : decode cX9_headGraph 5 = .ok (.iload_n 1, 1) := by decide +kernel
theorem dX9_headGraph_6 : decode cX9_headGraph 6 = .ok (.imul, 1) := by decide +kernel
theorem dX9_headGraph_7 : decode cX9_headGraph 7 = .ok (.iaload, 1) := by decide +kernel
theorem dX9_headGraph_8 : decode cX9_headGraph 8 = .ok (.istore_n 2, 1) := by decide +kernel
theorem dX9_headGraph_9 : decode cX9_headGraph 9 = .ok (.iconst 0, 1) := by decide +kernel
theorem dX9_headGraph_10 : decode cX9_headGraph 10 = .ok (.istore_n 3, 1) := by decide +kernel
theorem dX9_headGraph_11 : decode cX9_headGraph 11 = .ok (.iconst 0, 1) := by decide +kernel
theorem dX9_headGraph_12 : decode cX9_headGraph 12 = .ok (.istore 4, 2) := by decide +kernel
theorem dX9_headGraph_14 : decode cX9_headGraph 14 = .ok (.iload 4, 2) := by decide +kernel
theorem dX9_headGraph_16 : decode cX9_headGraph 16 = .ok (.aload_n 0, 1) := by decide +kernel
theorem dX9_headGraph_17 : decode cX9_headGraph 17 = .ok (.getfield 30, 3) := by decide +kernel
theorem dX9_headGraph_20 : decode cX9_headGraph 20 = .ok (.iload_n 2, 1) := by decide +kernel
theorem dX9_headGraph_21 : decode cX9_headGraph 21 = .ok (.iaload, 1) := by decide +kernel
theorem dX9_headGraph_22 : decode cX9_headGraph 22 = .ok (.if_icmp .ge 87, 3) := by decide +kernel
theorem dX9_headGraph_25 : decode cX9_headGraph 25 = .ok (.iconst 0, 1) := by decide +kernel
theorem dX9_headGraph_26 : decode cX9_headGraph 26 = .ok (.istore 5, 2) := by decide +kernel
theorem dX9_headGraph_28 : decode cX9_headGraph 28 = .ok (.iload 5, 2) := by decide +kernel
theorem dX9_headGraph_30 : decode cX9_headGraph 30 = .ok (.aload_n 0, 1) := by decide +kernel
theorem dX9_headGraph_31 : decode cX9_headGraph 31 = .ok (.getfield 30, 3) := by decide +kernel
theorem dX9_headGraph_34 : decode cX9_headGraph 34 = .ok (.iload_n 2, 1) := by decide +kernel
theorem dX9_headGraph_35 : decode cX9_headGraph 35 = .ok (.iaload, 1) := by decide +kernel
theorem dX9_headGraph_36 : decode cX9_headGraph 36 = .ok (.if_icmp .ge 67, 3) := by decide +kernel
theorem dX9_headGraph_39 : decode cX9_headGraph 39 = .ok (.aload_n 0, 1) := by decide +kernel
theorem dX9_headGraph_40 : decode cX9_headGraph 40 = .ok (.getfield 37, 3) := by decide +kernel
theorem dX9_headGraph_43 : decode cX9_headGraph 43 = .ok (.bipush 6, 2) := by decide +kernel
theorem dX9_headGraph_45 : decode cX9_headGraph 45 = .ok (.iload_n 2, 1) := by decide +kernel
theorem dX9_headGraph_46 : decode cX9_headGraph 46 = .ok (.imul, 1) := by decide +kernel
theorem dX9_headGraph_47 : decode cX9_headGraph 47 = .ok (.iload 4, 2) := by decide +kernel
theorem dX9_headGraph_49 : decode cX9_headGraph 49 = .ok (.iadd, 1) := by decide +kernel
theorem dX9_headGraph_50 : decode cX9_headGraph 50 = .ok (.baload, 1) := by decide +kernel
theorem dX9_headGraph_51 : decode cX9_headGraph 51 = .ok (.ifCond .eq 46, 3) := by decide +kernel
theorem dX9_headGraph_54 : decode cX9_headGraph 54 = .ok (.aload_n 0, 1) := by decide +kernel
theorem dX9_headGraph_55 : decode cX9_headGraph 55 = .ok (.getfield 37, 3) := by decide +kernel
theorem dX9_headGraph_58 : decode cX9_headGraph 58 = .ok (.bipush 6, 2) := by decide +kernel
theorem dX9_headGraph_60 : decode cX9_headGraph 60 = .ok (.iload_n 2, 1) := by decide +kernel
theorem dX9_headGraph_61 : decode cX9_headGraph 61 = .ok (.imul, 1) := by decide +kernel
theorem dX9_headGraph_62 : decode cX9_headGraph 62 = .ok (.iload 5, 2) := by decide +kernel
theorem dX9_headGraph_64 : decode cX9_headGraph 64 = .ok (.iadd, 1) := by decide +kernel
theorem dX9_headGraph_65 : decode cX9_headGraph 65 = .ok (.baload, 1) := by decide +kernel
theorem dX9_headGraph_66 : decode cX9_headGraph 66 = .ok (.ifCond .ne 31, 3) := by decide +kernel
theorem dX9_headGraph_69 : decode cX9_headGraph 69 = .ok (.aload_n 0, 1) := by decide +kernel
theorem dX9_headGraph_70 : decode cX9_headGraph 70 = .ok (.getfield 137, 3) := by decide +kernel
theorem dX9_headGraph_73 : decode cX9_headGraph 73 = .ok (.iload 4, 2) := by decide +kernel
theorem dX9_headGraph_75 : decode cX9_headGraph 75 = .ok (.iaload, 1) := by decide +kernel
theorem dX9_headGraph_76 : decode cX9_headGraph 76 = .ok (.iload 5, 2) := by decide +kernel
theorem dX9_headGraph_78 : decode cX9_headGraph 78 = .ok (.ishr, 1) := by decide +kernel
theorem dX9_headGraph_79 : decode cX9_headGraph 79 = .ok (.iconst 1, 1) := by decide +kernel
theorem dX9_headGraph_80 : decode cX9_headGraph 80 = .ok (.iand, 1) := by decide +kernel
theorem dX9_headGraph_81 : decode cX9_headGraph 81 = .ok (.iconst 1, 1) := by decide +kernel
theorem dX9_headGraph_82 : decode cX9_headGraph 82 = .ok (.if_icmp .ne 15, 3) := by decide +kernel
theorem dX9_headGraph_85 : decode cX9_headGraph 85 = .ok (.iload_n 3, 1) := by decide +kernel
theorem dX9_headGraph_86 : decode cX9_headGraph 86 = .ok (.aload_n 0, 1) := by decide +kernel
theorem dX9_headGraph_87 : decode cX9_headGraph 87 = .ok (.iload_n 2, 1) := by decide +kernel
theorem dX9_headGraph_88 : decode cX9_headGraph 88 = .ok (.iload 4, 2) := by decide +kernel
theorem dX9_headGraph_90 : decode cX9_headGraph 90 = .ok (.iload 5, 2) := by decide +kernel
theorem dX9_headGraph_92 : decode cX9_headGraph 92 = .ok (.invokevirtual 422, 3) := by decide +kernel
theorem dX9_headGraph_95 : decode cX9_headGraph 95 = .ok (.ior, 1) := by decide +kernel
theorem dX9_headGraph_96 : decode cX9_headGraph 96 = .ok (.istore_n 3, 1) := by decide +kernel
theorem dX9_headGraph_97 : decode cX9_headGraph 97 = .ok (.iinc 5 1, 3) := by decide +kernel
theorem dX9_headGraph_100 : decode cX9_headGraph 100 = .ok (.goto (-72), 3) := by decide +kernel
theorem dX9_headGraph_103 : decode cX9_headGraph 103 = .ok (.iinc 4 1, 3) := by decide +kernel
theorem dX9_headGraph_106 : decode cX9_headGraph 106 = .ok (.goto (-92), 3) := by decide +kernel
theorem dX9_headGraph_109 : decode cX9_headGraph 109 = .ok (.iload_n 3, 1) := by decide +kernel
theorem dX9_headGraph_110 : decode cX9_headGraph 110 = .ok (.ireturn, 1) := by decide +kernel
theorem dX9_in_0 : decode cX9_in 0 = .ok (.iload_n 0, 1) := by decide +kernel
theorem dX9_in_1 : decode cX9_in 1 = .ok (.iload_n 1, 1) := by decide +kernel
theorem dX9_in_2 : decode cX9_in 2 = .ok (.if_icmp .lt 12, 3) := by decide +kernel
theorem dX9_in_5 : decode cX9_in 5 = .ok (.iload_n 0, 1) := by decide +kernel
theorem dX9_in_6 : decode cX9_in 6 = .ok (.iload_n 2, 1) := by decide +kernel
theorem dX9_in_7 : decode cX9_in 7 = .ok (.if_icmp .gt 7, 3) := by decide +kernel
theorem dX9_in_10 : decode cX9_in 10 = .ok (.iconst 1, 1) := by decide +kernel
theorem dX9_in_11 : decode cX9_in 11 = .ok (.goto 4, 3) := by decide +kernel
theorem dX9_in_14 : decode cX9_in 14 = .ok (.iconst 0, 1) := by decide +kernel
theorem dX9_in_15 : decode cX9_in 15 = .ok (.ireturn, 1) := by decide +kernel
theorem dX9_inheritedOf_0 : decode cX9_inheritedOf 0 = .ok (.iconst 0, 1) := by decide +kernel
theorem dX9_inheritedOf_1 : decode cX9_inheritedOf 1 = .ok (.istore_n 2, 1) := by decide +kernel
theorem dX9_inheritedOf_2 : decode cX9_inheritedOf 2 = .ok (.iconst 0, 1) := by decide +kernel
theorem dX9_inheritedOf_3 : decode cX9_inheritedOf 3 = .ok (.istore_n 3, 1) := by decide +kernel
theorem dX9_inheritedOf_4 : decode cX9_inheritedOf 4 = .ok (.iload_n 3, 1) := by decide +kernel
theorem dX9_inheritedOf_5 : decode cX9_inheritedOf 5 = .ok (.aload_n 0, 1) := by decide +kernel
theorem dX9_inheritedOf_6 : decode cX9_inheritedOf 6 = .ok (.getfield 30, 3) := by decide +kernel
theorem dX9_inheritedOf_9 : decode cX9_inheritedOf 9 = .ok (.iload_n 1, 1) := by decide +kernel
theorem dX9_inheritedOf_10 : decode cX9_inheritedOf 10 = .ok (.iaload, 1) := by decide +kernel
theorem dX9_inheritedOf_11 : decode cX9_inheritedOf 11 = .ok (.if_icmp .ge 31, 3) := by decide +kernel
theorem dX9_inheritedOf_14 : decode cX9_inheritedOf 14 = .ok (.iload_n 2, 1) := by decide +kernel
theorem dX9_inheritedOf_15 : decode cX9_inheritedOf 15 = .ok (.aload_n 0, 1) := by decide +kernel
theorem dX9_inheritedOf_16 : decode cX9_inheritedOf 16 = .ok (.getfield 37, 3) := by decide +kernel
theorem dX9_inheritedOf_19 : decode cX9_inheritedOf 19 = .ok (.bipush 6, 2) := by decide +kernel
theorem dX9_inheritedOf_21 : decode cX9_inheritedOf 21 = .ok (.iload_n 1, 1) := by decide +kernel
theorem dX9_inheritedOf_22 : decode cX9_inheritedOf 22 = .ok (.imul, 1) := by decide +kernel
theorem dX9_inheritedOf_23 : decode cX9_inheritedOf 23 = .ok (.iload_n 3, 1) := by decide +kernel
theorem dX9_inheritedOf_24 : decode cX9_inheritedOf 24 = .ok (.iadd, 1) := by decide +kernel
theorem dX9_inheritedOf_25 : decode cX9_inheritedOf 25 = .ok (.baload, 1) := by decide +kernel
theorem dX9_inheritedOf_26 : decode cX9_inheritedOf 26 = .ok (.ifCond .eq 7, 3) := by decide +kernel
theorem dX9_inheritedOf_29 : decode cX9_inheritedOf 29 = .ok (.iconst 1, 1) := by decide +kernel
theorem dX9_inheritedOf_30 : decode cX9_inheritedOf 30 = .ok (.goto 4, 3) := by decide +kernel
theorem dX9_inheritedOf_33 : decode cX9_inheritedOf 33 = .ok (.iconst 0, 1) := by decide +kernel
theorem dX9_inheritedOf_34 : decode cX9_inheritedOf 34 = .ok (.iadd, 1) := by decide +kernel
theorem dX9_inheritedOf_35 : decode cX9_inheritedOf 35 = .ok (.istore_n 2, 1) := by decide +kernel
theorem dX9_inheritedOf_36 : decode cX9_inheritedOf 36 = .ok (.iinc 3 1, 3) := by decide +kernel
theorem dX9_inheritedOf_39 : decode cX9_inheritedOf 39 = .ok (.goto (-35), 3) := by decide +kernel
theorem dX9_inheritedOf_42 : decode cX9_inheritedOf 42 = .ok (.iload_n 2, 1) := by decide +kernel
theorem dX9_inheritedOf_43 : decode cX9_inheritedOf 43 = .ok (.ireturn, 1) := by decide +kernel
theorem dX9_init_0 : decode cX9_init 0 = .ok (.aload_n 0, 1) := by decide +kernel
theorem dX9_init_1 : decode cX9_init 1 = .ok (.invokespecial 1, 3) := by decide +kernel
theorem dX9_init_4 : decode cX9_init 4 = .ok (.aload_n 0, 1) := by decide +kernel
theorem dX9_init_5 : decode cX9_init 5 = .ok (.sipush 3000, 3) := by decide +kernel
theorem dX9_init_8 : decode cX9_init 8 = .ok (.newarray .byte, 2) := by decide +kernel
theorem dX9_init_10 : decode cX9_init 10 = .ok (.putfield 7, 3) := by decide +kernel
theorem dX9_init_13 : decode cX9_init 13 = .ok (.aload_n 0, 1) := by decide +kernel
theorem dX9_init_14 : decode cX9_init 14 = .ok (.sipush 3000, 3) := by decide +kernel
theorem dX9_init_17 : decode cX9_init 17 = .ok (.newarray .byte, 2) := by decide +kernel
theorem dX9_init_19 : decode cX9_init 19 = .ok (.putfield 13, 3) := by decide +kernel
theorem dX9_init_22 : decode cX9_init 22 = .ok (.aload_n 0, 1) := by decide +kernel
theorem dX9_init_23 : decode cX9_init 23 = .ok (.sipush 3000, 3) := by decide +kernel
theorem dX9_init_26 : decode cX9_init 26 = .ok (.newarray .byte, 2) := by decide +kernel
theorem dX9_init_28 : decode cX9_init 28 = .ok (.putfield 16, 3) := by decide +kernel
theorem dX9_init_31 : decode cX9_init 31 = .ok (.aload_n 0, 1) := by decide +kernel
theorem dX9_init_32 : decode cX9_init 32 = .ok (.iconst (-1), 1) := by decide +kernel
theorem dX9_init_33 : decode cX9_init 33 = .ok (.putfield 19, 3) := by decide +kernel
theorem dX9_init_36 : decode cX9_init 36 = .ok (.aload_n 0, 1) := by decide +kernel
theorem dX9_init_37 : decode cX9_init 37 = .ok (.iconst (-1), 1) := by decide +kernel
theorem dX9_init_38 : decode cX9_init 38 = .ok (.putfield 23, 3) := by decide +kernel
theorem dX9_init_41 : decode cX9_init 41 = .ok (.aload_n 0, 1) := by decide +kernel
theorem dX9_init_42 : decode cX9_init 42 = .ok (.bipush 12, 2) := by decide +kernel
theorem dX9_init_44 : decode cX9_init 44 = .ok (.newarray .long, 2) := by decide +kernel
theorem dX9_init_46 : decode cX9_init 46 = .ok (.putfield 26, 3) := by decide +kernel
theorem dX9_init_49 : decode cX9_init 49 = .ok (.aload_n 0, 1) := by decide +kernel
theorem dX9_init_50 : decode cX9_init 50 = .ok (.bipush 12, 2) := by decide +kernel
theorem dX9_init_52 : decode cX9_init 52 = .ok (.newarray .int, 2) := by decide +kernel
theorem dX9_init_54 : decode cX9_init 54 = .ok (.putfield 30, 3) := by decide +kernel
theorem dX9_init_57 : decode cX9_init 57 = .ok (.aload_n 0, 1) := by decide +kernel
theorem dX9_init_58 : decode cX9_init 58 = .ok (.bipush 72, 2) := by decide +kernel
theorem dX9_init_60 : decode cX9_init 60 = .ok (.newarray .long, 2) := by decide +kernel
theorem dX9_init_62 : decode cX9_init 62 = .ok (.putfield 34, 3) := by decide +kernel
theorem dX9_init_65 : decode cX9_init 65 = .ok (.aload_n 0, 1) := by decide +kernel
theorem dX9_init_66 : decode cX9_init 66 = .ok (.bipush 72, 2) := by decide +kernel
theorem dX9_init_68 : decode cX9_init 68 = .ok (.newarray .boolean, 2) := by decide +kernel
theorem dX9_init_70 : decode cX9_init 70 = .ok (.putfield 37, 3) := by decide +kernel
theorem dX9_init_73 : decode cX9_init 73 = .ok (.aload_n 0, 1) := by decide +kernel
theorem dX9_init_74 : decode cX9_init 74 = .ok (.bipush 30, 2) := by decide +kernel
theorem dX9_init_76 : decode cX9_init 76 = .ok (.newarray .long, 2) := by decide +kernel
theorem dX9_init_78 : decode cX9_init 78 = .ok (.putfield 41, 3) := by decide +kernel
theorem dX9_init_81 : decode cX9_init 81 = .ok (.aload_n 0, 1) := by decide +kernel
theorem dX9_init_82 : decode cX9_init 82 = .ok (.bipush 30, 2) := by decide +kernel
theorem dX9_init_84 : decode cX9_init 84 = .ok (.newarray .int, 2) := by decide +kernel
theorem dX9_init_86 : decode cX9_init 86 = .ok (.putfield 44, 3) := by decide +kernel
theorem dX9_init_89 : decode cX9_init 89 = .ok (.aload_n 0, 1) := by decide +kernel
theorem dX9_init_90 : decode cX9_init 90 = .ok (.bipush 120, 2) := by decide +kernel
theorem dX9_init_92 : decode cX9_init 92 = .ok (.newarray .int, 2) := by decide +kernel
theorem dX9_init_94 : decode cX9_init 94 = .ok (.putfield 47, 3) := by decide +kernel
theorem dX9_init_97 : decode cX9_init 97 = .ok (.aload_n 0, 1) := by decide +kernel
theorem dX9_init_98 : decode cX9_init 98 = .ok (.bipush 30, 2) := by decide +kernel
theorem dX9_init_100 : decode cX9_init 100 = .ok (.newarray .int, 2) := by decide +kernel
theorem dX9_init_102 : decode cX9_init 102 = .ok (.putfield 50, 3) := by decide +kernel
theorem dX9_init_105 : decode cX9_init 105 = .ok (.aload_n 0, 1) := by decide +kernel
theorem dX9_init_106 : decode cX9_init 106 = .ok (.sipush 720, 3) := by decide +kernel
theorem dX9_init_109 : decode cX9_init 109 = .ok (.newarray .int, 2) := by decide +kernel
theorem dX9_init_111 : decode cX9_init 111 = .ok (.putfield 53, 3) := by decide +kernel
theorem dX9_init_114 : decode cX9_init 114 = .ok (.aload_n 0, 1) := by decide +kernel
theorem dX9_init_115 : decode cX9_init 115 = .ok (.sipush 720, 3) := by decide +kernel
theorem dX9_init_118 : decode cX9_init 118 = .ok (.newarray .int, 2) := by decide +kernel
theorem dX9_init_120 : decode cX9_init 120 = .ok (.putfield 56, 3) := by decide +kernel
theorem dX9_init_123 : decode cX9_init 123 = .ok (.aload_n 0, 1) := by decide +kernel
theorem dX9_init_124 : decode cX9_init 124 = .ok (.sipush 720, 3) := by decide +kernel
theorem dX9_init_127 : decode cX9_init 127 = .ok (.newarray .int, 2) := by decide +kernel
theorem dX9_init_129 : decode cX9_init 129 = .ok (.putfield 59, 3) := by decide +kernel
theorem dX9_init_132 : decode cX9_init 132 = .ok (.aload_n 0, 1) := by decide +kernel
theorem dX9_init_133 : decode cX9_init 133 = .ok (.sipush 4000, 3) := by decide +kernel
theorem dX9_init_136 : decode cX9_init 136 = .ok (.newarray .int, 2) := by decide +kernel
theorem dX9_init_138 : decode cX9_init 138 = .ok (.putfield 62, 3) := by decide +kernel
theorem dX9_init_141 : decode cX9_init 141 = .ok (.aload_n 0, 1) := by decide +kernel
theorem dX9_init_142 : decode cX9_init 142 = .ok (.sipush 4000, 3) := by decide +kernel
theorem dX9_init_145 : decode cX9_init 145 = .ok (.newarray .int, 2) := by decide +kernel
theorem dX9_init_147 : decode cX9_init 147 = .ok (.putfield 65, 3) := by decide +kernel
theorem dX9_init_150 : decode cX9_init 150 = .ok (.aload_n 0, 1) := by decide +kernel
theorem dX9_init_151 : decode cX9_init 151 = .ok (.sipush 3000, 3) := by decide +kernel
theorem dX9_init_154 : decode cX9_init 154 = .ok (.newarray .int, 2) := by decide +kernel
theorem dX9_init_156 : decode cX9_init 156 = .ok (.putfield 68, 3) := by decide +kernel
theorem dX9_init_159 : decode cX9_init 159 = .ok (.aload_n 0, 1) := by decide +kernel
theorem dX9_init_160 : decode cX9_init 160 = .ok (.sipush 3000, 3) := by decide +kernel
theorem dX9_init_163 : decode cX9_init 163 = .ok (.newarray .int, 2) := by decide +kernel
theorem dX9_init_165 : decode cX9_init 165 = .ok (.putfield 71, 3) := by decide +kernel
theorem dX9_init_168 : decode cX9_init 168 = .ok (.aload_n 0, 1) := by decide +kernel
theorem dX9_init_169 : decode cX9_init 169 = .ok (.bipush 120, 2) := by decide +kernel
theorem dX9_init_171 : decode cX9_init 171 = .ok (.newarray .int, 2) := by decide +kernel
theorem dX9_init_173 : decode cX9_init 173 = .ok (.putfield 74, 3) := by decide +kernel
theorem dX9_init_176 : decode cX9_init 176 = .ok (.aload_n 0, 1) := by decide +kernel
theorem dX9_init_177 : decode cX9_init 177 = .ok (.bipush 120, 2) := by decide +kernel
theorem dX9_init_179 : decode cX9_init 179 = .ok (.newarray .int, 2) := by decide +kernel
theorem dX9_init_181 : decode cX9_init 181 = .ok (.putfield 77, 3) := by decide +kernel
theorem dX9_init_184 : decode cX9_init 184 = .ok (.aload_n 0, 1) := by decide +kernel
theorem dX9_init_185 : decode cX9_init 185 = .ok (.sipush 200, 3) := by decide +kernel
theorem dX9_init_188 : decode cX9_init 188 = .ok (.newarray .int, 2) := by decide +kernel
theorem dX9_init_190 : decode cX9_init 190 = .ok (.putfield 80, 3) := by decide +kernel
theorem dX9_init_193 : decode cX9_init 193 = .ok (.aload_n 0, 1) := by decide +kernel
theorem dX9_init_194 : decode cX9_init 194 = .ok (.sipush 200, 3) := by decide +kernel
theorem dX9_init_197 : decode cX9_init 197 = .ok (.newarray .int, 2) := by decide +kernel
theorem dX9_init_199 : decode cX9_init 199 = .ok (.putfield 83, 3) := by decide +kernel
theorem dX9_init_202 : decode cX9_init 202 = .ok (.aload_n 0, 1) := by decide +kernel
theorem dX9_init_203 : decode cX9_init 203 = .ok (.sipush 200, 3) := by decide +kernel
theorem dX9_init_206 : decode cX9_init 206 = .ok (.newarray .int, 2) := by decide +kernel
theorem dX9_init_208 : decode cX9_init 208 = .ok (.putfield 86, 3) := by decide +kernel
theorem dX9_init_211 : decode cX9_init 211 = .ok (.aload_n 0, 1) := by decide +kernel
theorem dX9_init_212 : decode cX9_init 212 = .ok (.sipush 200, 3) := by decide +kernel
theorem dX9_init_215 : decode cX9_init 215 = .ok (.newarray .int, 2) := by decide +kernel
theorem dX9_init_217 : decode cX9_init 217 = .ok (.putfield 89, 3) := by decide +kernel
theorem dX9_init_220 : decode cX9_init 220 = .ok (.aload_n 0, 1) := by decide +kernel
theorem dX9_init_221 : decode cX9_init 221 = .ok (.sipush 800, 3) := by decide +kernel
theorem dX9_init_224 : decode cX9_init 224 = .ok (.newarray .int, 2) := by decide +kernel
theorem dX9_init_226 : decode cX9_init 226 = .ok (.putfield 92, 3) := by decide +kernel
theorem dX9_init_229 : decode cX9_init 229 = .ok (.aload_n 0, 1) := by decide +kernel
theorem dX9_init_230 : decode cX9_init 230 = .ok (.sipush 200, 3) := by decide +kernel
theorem dX9_init_233 : decode cX9_init 233 = .ok (.newarray .int, 2) := by decide +kernel
theorem dX9_init_235 : decode cX9_init 235 = .ok (.putfield 95, 3) := by decide +kernel
theorem dX9_init_238 : decode cX9_init 238 = .ok (.aload_n 0, 1) := by decide +kernel
theorem dX9_init_239 : decode cX9_init 239 = .ok (.sipush 200, 3) := by decide +kernel
theorem dX9_init_242 : decode cX9_init 242 = .ok (.newarray .int, 2) := by decide +kernel
theorem dX9_init_244 : decode cX9_init 244 = .ok (.putfield 98, 3) := by decide +kernel
theorem dX9_init_247 : decode cX9_init 247 = .ok (.aload_n 0, 1) := by decide +kernel
theorem dX9_init_248 : decode cX9_init 248 = .ok (.sipush 200, 3) := by decide +kernel
theorem dX9_init_251 : decode cX9_init 251 = .ok (.newarray .int, 2) := by decide +kernel
theorem dX9_init_253 : decode cX9_init 253 = .ok (.putfield 101, 3) := by decide +kernel
theorem dX9_init_256 : decode cX9_init 256 = .ok (.aload_n 0, 1) := by decide +kernel
theorem dX9_init_257 : decode cX9_init 257 = .ok (.sipush 200, 3) := by decide +kernel
theorem dX9_init_260 : decode cX9_init 260 = .ok (.newarray .int, 2) := by decide +kernel
theorem dX9_init_262 : decode cX9_init 262 = .ok (.putfield 104, 3) := by decide +kernel
theorem dX9_init_265 : decode cX9_init 265 = .ok (.aload_n 0, 1) := by decide +kernel
theorem dX9_init_266 : decode cX9_init 266 = .ok (.sipush 200, 3) := by decide +kernel
theorem dX9_init_269 : decode cX9_init 269 = .ok (.newarray .int, 2) := by decide +kernel
theorem dX9_init_271 : decode cX9_init 271 = .ok (.putfield 107, 3) := by decide +kernel
theorem dX9_init_274 : decode cX9_init 274 = .ok (.aload_n 0, 1) := by decide +kernel
theorem dX9_init_275 : decode cX9_init 275 = .ok (.sipush 800, 3) := by decide +kernel
theorem dX9_init_278 : decode cX9_init 278 = .ok (.newarray .int, 2) := by decide +kernel
theorem dX9_init_280 : decode cX9_init 280 = .ok (.putfield 110, 3) := by decide +kernel
theorem dX9_init_283 : decode cX9_init 283 = .ok (.aload_n 0, 1) := by decide +kernel
theorem dX9_init_284 : decode cX9_init 284 = .ok (.bipush 12, 2) := by decide +kernel
theorem dX9_init_286 : decode cX9_init 286 = .ok (.newarray .boolean, 2) := by decide +kernel
theorem dX9_init_288 : decode cX9_init 288 = .ok (.putfield 113, 3) := by decide +kernel
theorem dX9_init_291 : decode cX9_init 291 = .ok (.aload_n 0, 1) := by decide +kernel
theorem dX9_init_292 : decode cX9_init 292 = .ok (.bipush 30, 2) := by decide +kernel
theorem dX9_init_294 : decode cX9_init 294 = .ok (.newarray .boolean, 2) := by decide +kernel
theorem dX9_init_296 : decode cX9_init 296 = .ok (.putfield 116, 3) := by decide +kernel
theorem dX9_init_299 : decode cX9_init 299 = .ok (.aload_n 0, 1) := by decide +kernel
theorem dX9_init_300 : decode cX9_init 300 = .ok (.bipush 12, 2) := by decide +kernel
theorem dX9_init_302 : decode cX9_init 302 = .ok (.newarray .boolean, 2) := by decide +kernel
theorem dX9_init_304 : decode cX9_init 304 = .ok (.putfield 119, 3) := by decide +kernel
theorem dX9_init_307 : decode cX9_init 307 = .ok (.aload_n 0, 1) := by decide +kernel
theorem dX9_init_308 : decode cX9_init 308 = .ok (.sipush 6144, 3) := by decide +kernel
theorem dX9_init_311 : decode cX9_init 311 = .ok (.newarray .boolean, 2) := by decide +kernel
theorem dX9_init_313 : decode cX9_init 313 = .ok (.putfield 122, 3) := by decide +kernel
theorem dX9_init_316 : decode cX9_init 316 = .ok (.aload_n 0, 1) := by decide +kernel
theorem dX9_init_317 : decode cX9_init 317 = .ok (.bipush 12, 2) := by decide +kernel
theorem dX9_init_319 : decode cX9_init 319 = .ok (.newarray .int, 2) := by decide +kernel
theorem dX9_init_321 : decode cX9_init 321 = .ok (.putfield 125, 3) := by decide +kernel
theorem dX9_init_324 : decode cX9_init 324 = .ok (.aload_n 0, 1) := by decide +kernel
theorem dX9_init_325 : decode cX9_init 325 = .ok (.bipush 12, 2) := by decide +kernel
theorem dX9_init_327 : decode cX9_init 327 = .ok (.newarray .int, 2) := by decide +kernel
theorem dX9_init_329 : decode cX9_init 329 = .ok (.putfield 128, 3) := by decide +kernel
theorem dX9_init_332 : decode cX9_init 332 = .ok (.aload_n 0, 1) := by decide +kernel
theorem dX9_init_333 : decode cX9_init 333 = .ok (.bipush 30, 2) := by decide +kernel
theorem dX9_init_335 : decode cX9_init 335 = .ok (.newarray .boolean, 2) := by decide +kernel
theorem dX9_init_337 : decode cX9_init 337 = .ok (.putfield 131, 3) := by decide +kernel
theorem dX9_init_340 : decode cX9_init 340 = .ok (.aload_n 0, 1) := by decide +kernel
theorem dX9_init_341 : decode cX9_init 341 = .ok (.bipush 30, 2) := by decide +kernel
theorem dX9_init_343 : decode cX9_init 343 = .ok (.newarray .boolean, 2) := by decide +kernel
theorem dX9_init_345 : decode cX9_init 345 = .ok (.putfield 134, 3) := by decide +kernel
theorem dX9_init_348 : decode cX9_init 348 = .ok (.aload_n 0, 1) := by decide +kernel
theorem dX9_init_349 : decode cX9_init 349 = .ok (.bipush 24, 2) := by decide +kernel
theorem dX9_init_351 : decode cX9_init 351 = .ok (.newarray .int, 2) := by decide +kernel
theorem dX9_init_353 : decode cX9_init 353 = .ok (.putfield 137, 3) := by decide +kernel
theorem dX9_init_356 : decode cX9_init 356 = .ok (.aload_n 0, 1) := by decide +kernel
theorem dX9_init_357 : decode cX9_init 357 = .ok (.iconst 4, 1) := by decide +kernel
theorem dX9_init_358 : decode cX9_init 358 = .ok (.newarray .int, 2) := by decide +kernel
theorem dX9_init_360 : decode cX9_init 360 = .ok (.putfield 140, 3) := by decide +kernel
theorem dX9_init_363 : decode cX9_init 363 = .ok (.aload_n 0, 1) := by decide +kernel
theorem dX9_init_364 : decode cX9_init 364 = .ok (.sipush 2100, 3) := by decide +kernel
theorem dX9_init_367 : decode cX9_init 367 = .ok (.newarray .int, 2) := by decide +kernel
theorem dX9_init_369 : decode cX9_init 369 = .ok (.putfield 143, 3) := by decide +kernel
theorem dX9_init_372 : decode cX9_init 372 = .ok (.aload_n 0, 1) := by decide +kernel
theorem dX9_init_373 : decode cX9_init 373 = .ok (.sipush 1200, 3) := by decide +kernel
theorem dX9_init_376 : decode cX9_init 376 = .ok (.newarray .int, 2) := by decide +kernel
theorem dX9_init_378 : decode cX9_init 378 = .ok (.putfield 146, 3) := by decide +kernel
theorem dX9_init_381 : decode cX9_init 381 = .ok (.aload_n 0, 1) := by decide +kernel
theorem dX9_init_382 : decode cX9_init 382 = .ok (.sipush 1200, 3) := by decide +kernel
theorem dX9_init_385 : decode cX9_init 385 = .ok (.newarray .boolean, 2) := by decide +kernel
theorem dX9_init_387 : decode cX9_init 387 = .ok (.putfield 149, 3) := by decide +kernel
theorem dX9_init_390 : decode cX9_init 390 = .ok (.aload_n 0, 1) := by decide +kernel
theorem dX9_init_391 : decode cX9_init 391 = .ok (.sipush 1200, 3) := by decide +kernel
theorem dX9_init_394 : decode cX9_init 394 = .ok (.newarray .boolean, 2) := by decide +kernel
theorem dX9_init_396 : decode cX9_init 396 = .ok (.putfield 152, 3) := by decide +kernel
theorem dX9_init_399 : decode cX9_init 399 = .ok (.aload_n 0, 1) := by decide +kernel
theorem dX9_init_400 : decode cX9_init 400 = .ok (.sipush 1200, 3) := by decide +kernel
theorem dX9_init_403 : decode cX9_init 403 = .ok (.newarray .int, 2) := by decide +kernel
theorem dX9_init_405 : decode cX9_init 405 = .ok (.putfield 155, 3) := by decide +kernel
theorem dX9_init_408 : decode cX9_init 408 = .ok (.aload_n 0, 1) := by decide +kernel
theorem dX9_init_409 : decode cX9_init 409 = .ok (.sipush 1200, 3) := by decide +kernel
theorem dX9_init_412 : decode cX9_init 412 = .ok (.newarray .boolean, 2) := by decide +kernel
theorem dX9_init_414 : decode cX9_init 414 = .ok (.putfield 158, 3) := by decide +kernel
theorem dX9_init_417 : decode cX9_init 417 = .ok (.aload_n 0, 1) := by decide +kernel
theorem dX9_init_418 : decode cX9_init 418 = .ok (.sipush 1200, 3) := by decide +kernel
theorem dX9_init_421 : decode cX9_init 421 = .ok (.newarray .int, 2) := by decide +kernel
theorem dX9_init_423 : decode cX9_init 423 = .ok (.putfield 161, 3) := by decide +kernel
theorem dX9_init_426 : decode cX9_init 426 = .ok (.aload_n 0, 1) := by decide +kernel
theorem dX9_init_427 : decode cX9_init 427 = .ok (.sipush 1200, 3) := by decide +kernel
theorem dX9_init_430 : decode cX9_init 430 = .ok (.newarray .int, 2) := by decide +kernel
theorem dX9_init_432 : decode cX9_init 432 = .ok (.putfield 164, 3) := by decide +kernel
theorem dX9_init_435 : decode cX9_init 435 = .ok (.aload_n 0, 1) := by decide +kernel
theorem dX9_init_436 : decode cX9_init 436 = .ok (.bipush 60, 2) := by decide +kernel
theorem dX9_init_438 : decode cX9_init 438 = .ok (.newarray .int, 2) := by decide +kernel
theorem dX9_init_440 : decode cX9_init 440 = .ok (.putfield 167, 3) := by decide +kernel
theorem dX9_init_443 : decode cX9_init 443 = .ok (.aload_n 0, 1) := by decide +kernel
theorem dX9_init_444 : decode cX9_init 444 = .ok (.bipush 60, 2) := by decide +kernel
theorem dX9_init_446 : decode cX9_init 446 = .ok (.newarray .boolean, 2) := by decide +kernel
theorem dX9_init_448 : decode cX9_init 448 = .ok (.putfield 170, 3) := by decide +kernel
theorem dX9_init_451 : decode cX9_init 451 = .ok (.return_, 1) := by decide +kernel
theorem dX9_isAhead_0 : decode cX9_isAhead 0 = .ok (.aload_n 0, 1) := by decide +kernel
theorem dX9_isAhead_1 : decode cX9_isAhead 1 = .ok (.invokevirtual 203, 3) := by decide +kernel
theorem dX9_isAhead_4 : decode cX9_isAhead 4 = .ok (.aload_n 0, 1) := by decide +kernel
theorem dX9_isAhead_5 : decode cX9_isAhead 5 = .ok (.getfield 197, 3) := by decide +kernel
theorem dX9_isAhead_8 : decode cX9_isAhead 8 = .ok (.aload_n 0, 1) := by decide +kernel
theorem dX9_isAhead_9 : decode cX9_isAhead 9 = .ok (.getfield 200, 3) := by decide +kernel
theorem dX9_isAhead_12 : decode cX9_isAhead 12 = .ok (.if_icmp .ge 20, 3) := by decide +kernel
theorem dX9_isAhead_15 : decode cX9_isAhead 15 = .ok (.aload_n 0, 1) := by decide +kernel
theorem dX9_isAhead_16 : decode cX9_isAhead 16 = .ok (.getfield 13, 3) := by decide +kernel
theorem dX9_isAhead_19 : decode cX9_isAhead 19 = .ok (.aload_n 0, 1) := by decide +kernel
theorem dX9_isAhead_20 : decode cX9_isAhead 20 = .ok (.getfield 197, 3) := by decide +kernel
theorem dX9_isAhead_23 : decode cX9_isAhead 23 = .ok (.baload, 1) := by decide +kernel
theorem dX9_isAhead_24 : decode cX9_isAhead 24 = .ok (.iload_n 1, 1) := by decide +kernel
theorem dX9_isAhead_25 : decode cX9_isAhead 25 = .ok (.if_icmp .ne 7, 3) := by decide +kernel
theorem dX9_isAhead_28 : decode cX9_isAhead 28 = .ok (.iconst 1, 1) := by decide +kernel
theorem dX9_isAhead_29 : decode cX9_isAhead 29 = .ok (.goto 4, 3) := by decide +kernel
theorem dX9_isAhead_32 : decode cX9_isAhead 32 = .ok (.iconst 0, 1) := by decide +kernel
theorem dX9_isAhead_33 : decode cX9_isAhead 33 = .ok (.ireturn, 1) := by decide +kernel
theorem dX9_isAttribute_0 : decode cX9_isAttribute 0 = .ok (.iload_n 1, 1) := by decide +kernel
theorem dX9_isAttribute_1 : decode cX9_isAttribute 1 = .ok (.iconst 0, 1) := by decide +kernel
theorem dX9_isAttribute_2 : decode cX9_isAttribute 2 = .ok (.aload_n 0, 1) := by decide +kernel
theorem dX9_isAttribute_3 : decode cX9_isAttribute 3 = .ok (.getfield 396, 3) := by decide +kernel
theorem dX9_isAttribute_6 : decode cX9_isAttribute 6 = .ok (.iconst 1, 1) := by decide +kernel
theorem dX9_isAttribute_7 : decode cX9_isAttribute 7 = .ok (.isub, 1) := by decide +kernel
theorem dX9_isAttribute_8 : decode cX9_isAttribute 8 = .ok (.invokestatic 180, 3) := by decide +kernel
theorem dX9_isAttribute_11 : decode cX9_isAttribute 11 = .ok (.ifCond .eq 35, 3) := by decide +kernel
theorem dX9_isAttribute_14 : decode cX9_isAttribute 14 = .ok (.iload_n 2, 1) := by decide +kernel
theorem dX9_isAttribute_15 : decode cX9_isAttribute 15 = .ok (.iconst 0, 1) := by decide +kernel
theorem dX9_isAttribute_16 : decode cX9_isAttribute 16 = .ok (.aload_n 0, 1) := by decide +kernel
theorem dX9_isAttribute_17 : decode cX9_isAttribute 17 = .ok (.getfield 30, 3) := by decide +kernel
theorem dX9_isAttribute_20 : decode cX9_isAttribute 20 = .ok (.aload_n 0, 1) := by decide +kernel
theorem dX9_isAttribute_21 : decode cX9_isAttribute 21 = .ok (.getfield 47, 3) := by decide +kernel
theorem dX9_isAttribute_24 : decode cX9_isAttribute 24 = .ok (.iconst 4, 1) := by decide +kernel
theorem dX9_isAttribute_25 : decode cX9_isAttribute 25 = .ok (.aload_n 0, 1) := by decide +kernel
theorem dX9_isAttribute_26 : decode cX9_isAttribute 26 = .ok (.getfield 80, 3) := by decide +kernel
theorem dX9_isAttribute_29 : decode cX9_isAttribute 29 = .ok (.iload_n 1, 1) := by decide +kernel
theorem dX9_isAttribute_30 : decode cX9_isAttribute 30 = .ok (.iaload, 1) := by decide +kernel
theorem dX9_isAttribute_31 : decode cX9_isAttribute 31 = .ok (.imul, 1) := by decide +kernel
theorem dX9_isAttribute_32 : decode cX9_isAttribute 32 = .ok (.iaload, 1) := by decide +kernel
theorem dX9_isAttribute_33 : decode cX9_isAttribute 33 = .ok (.iaload, 1) := by decide +kernel
theorem dX9_isAttribute_34 : decode cX9_isAttribute 34 = .ok (.iconst 1, 1) := by decide +kernel
theorem dX9_isAttribute_35 : decode cX9_isAttribute 35 = .ok (.isub, 1) := by decide +kernel
theorem dX9_isAttribute_36 : decode cX9_isAttribute 36 = .ok (.invokestatic 180, 3) := by decide +kernel
theorem dX9_isAttribute_39 : decode cX9_isAttribute 39 = .ok (.ifCond .eq 7, 3) := by decide +kernel
theorem dX9_isAttribute_42 : decode cX9_isAttribute 42 = .ok (.iconst 1, 1) := by decide +kernel
theorem dX9_isAttribute_43 : decode cX9_isAttribute 43 = .ok (.goto 4, 3) := by decide +kernel
theorem dX9_isAttribute_46 : decode cX9_isAttribute 46 = .ok (.iconst 0, 1) := by decide +kernel
theorem dX9_isAttribute_47 : decode cX9_isAttribute 47 = .ok (.ireturn, 1) := by decide +kernel
theorem dX9_isName_0 : decode cX9_isName 0 = .ok (.aload_n 0, 1) := by decide +kernel
theorem dX9_isName_1 : decode cX9_isName 1 = .ok (.invokevirtual 234, 3) := by decide +kernel
theorem dX9_isName_4 : decode cX9_isName 4 = .ok (.ifCond .eq 11, 3) := by decide +kernel
theorem dX9_isName_7 : decode cX9_isName 7 = .ok (.aload_n 0, 1) := by decide +kernel
theorem dX9_isName_8 : decode cX9_isName 8 = .ok (.getfield 210, 3) := by decide +kernel
theorem dX9_isName_11 : decode cX9_isName 11 = .ok (.iconst 1, 1) := by decide +kernel
theorem dX9_isName_12 : decode cX9_isName 12 = .ok (.if_icmp .eq 9, 3) := by decide +kernel
theorem dX9_isName_15 : decode cX9_isName 15 = .ok (.aload_n 0, 1) := by decide +kernel
theorem dX9_isName_16 : decode cX9_isName 16 = .ok (.invokevirtual 245, 3) := by decide +kernel
theorem dX9_isName_19 : decode cX9_isName 19 = .ok (.iconst 0, 1) := by decide +kernel
theorem dX9_isName_20 : decode cX9_isName 20 = .ok (.ireturn, 1) := by decide +kernel
theorem dX9_isName_21 : decode cX9_isName 21 = .ok (.iconst 1, 1) := by decide +kernel
theorem dX9_isName_22 : decode cX9_isName 22 = .ok (.ireturn, 1) := by decide +kernel
theorem dX9_isSign_0 : decode cX9_isSign 0 = .ok (.aload_n 0, 1) := by decide +kernel
theorem dX9_isSign_1 : decode cX9_isSign 1 = .ok (.invokevirtual 234, 3) := by decide +kernel
theorem dX9_isSign_4 : decode cX9_isSign 4 = .ok (.ifCond .eq 25, 3) := by decide +kernel
theorem dX9_isSign_7 : decode cX9_isSign 7 = .ok (.aload_n 0, 1) := by decide +kernel
theorem dX9_isSign_8 : decode cX9_isSign 8 = .ok (.getfield 210, 3) := by decide +kernel
theorem dX9_isSign_11 : decode cX9_isSign 11 = .ok (.iconst 4, 1) := by decide +kernel
theorem dX9_isSign_12 : decode cX9_isSign 12 = .ok (.if_icmp .ne 17, 3) := by decide +kernel
theorem dX9_isSign_15 : decode cX9_isSign 15 = .ok (.aload_n 0, 1) := by decide +kernel
theorem dX9_isSign_16 : decode cX9_isSign 16 = .ok (.getfield 206, 3) := by decide +kernel
theorem dX9_isSign_19 : decode cX9_isSign 19 = .ok (.iload_n 1, 1) := by decide +kernel
theorem dX9_isSign_20 : decode cX9_isSign 20 = .ok (.i2l, 1) := by decide +kernel
theorem dX9_isSign_21 : decode cX9_isSign 21 = .ok (.lcmp, 1) := by decide +kernel
theorem dX9_isSign_22 : decode cX9_isSign 22 = .ok (.ifCond .ne 7, 3) := by decide +kernel
theorem dX9_isSign_25 : decode cX9_isSign 25 = .ok (.iconst 1, 1) := by decide +kernel
theorem dX9_isSign_26 : decode cX9_isSign 26 = .ok (.goto 4, 3) := by decide +kernel
theorem dX9_isSign_29 : decode cX9_isSign 29 = .ok (.iconst 0, 1) := by decide +kernel
theorem dX9_isSign_30 : decode cX9_isSign 30 = .ok (.ireturn, 1) := by decide +kernel
theorem dX9_isTold_0 : decode cX9_isTold 0 = .ok (.aload_n 0, 1) := by decide +kernel
theorem dX9_isTold_1 : decode cX9_isTold 1 = .ok (.getfield 37, 3) := by decide +kernel
theorem dX9_isTold_4 : decode cX9_isTold 4 = .ok (.bipush 6, 2) := by decide +kernel
theorem dX9_isTold_6 : decode cX9_isTold 6 = .ok (.aload_n 0, 1) := by decide +kernel
theorem dX9_isTold_7 : decode cX9_isTold 7 = .ok (.getfield 47, 3) := by decide +kernel
theorem dX9_isTold_10 : decode cX9_isTold 10 = .ok (.iconst 4, 1) := by decide +kernel
theorem dX9_isTold_11 : decode cX9_isTold 11 = .ok (.iload_n 1, 1) := by decide +kernel
theorem dX9_isTold_12 : decode cX9_isTold 12 = .ok (.imul, 1) := by decide +kernel
theorem dX9_isTold_13 : decode cX9_isTold 13 = .ok (.iload_n 2, 1) := by decide +kernel
theorem dX9_isTold_14 : decode cX9_isTold 14 = .ok (.iadd, 1) := by decide +kernel
theorem dX9_isTold_15 : decode cX9_isTold 15 = .ok (.iaload, 1) := by decide +kernel
theorem dX9_isTold_16 : decode cX9_isTold 16 = .ok (.imul, 1) := by decide +kernel
theorem dX9_isTold_17 : decode cX9_isTold 17 = .ok (.iload_n 3, 1) := by decide +kernel
theorem dX9_isTold_18 : decode cX9_isTold 18 = .ok (.iadd, 1) := by decide +kernel
theorem dX9_isTold_19 : decode cX9_isTold 19 = .ok (.baload, 1) := by decide +kernel
theorem dX9_isTold_20 : decode cX9_isTold 20 = .ok (.iload_n 2, 1) := by decide +kernel
theorem dX9_isTold_21 : decode cX9_isTold 21 = .ok (.ifCond .le 7, 3) := by decide +kernel
theorem dX9_isTold_24 : decode cX9_isTold 24 = .ok (.iconst 1, 1) := by decide +kernel
theorem dX9_isTold_25 : decode cX9_isTold 25 = .ok (.goto 4, 3) := by decide +kernel
theorem dX9_isTold_28 : decode cX9_isTold 28 = .ok (.iconst 0, 1) := by decide +kernel
theorem dX9_isTold_29 : decode cX9_isTold 29 = .ok (.if_icmp .ne 7, 3) := by decide +kernel
theorem dX9_isTold_32 : decode cX9_isTold 32 = .ok (.iconst 1, 1) := by decide +kernel
theorem dX9_isTold_33 : decode cX9_isTold 33 = .ok (.goto 4, 3) := by decide +kernel
theorem dX9_isTold_36 : decode cX9_isTold 36 = .ok (.iconst 0, 1) := by decide +kernel
theorem dX9_isTold_37 : decode cX9_isTold 37 = .ok (.ireturn, 1) := by decide +kernel
theorem dX9_isWell_0 : decode cX9_isWell 0 = .ok (.aload_n 0, 1) := by decide +kernel
theorem dX9_isWell_1 : decode cX9_isWell 1 = .ok (.getfield 184, 3) := by decide +kernel
theorem dX9_isWell_4 : decode cX9_isWell 4 = .ok (.ifCond .ne 7, 3) := by decide +kernel
theorem dX9_isWell_7 : decode cX9_isWell 7 = .ok (.iconst 1, 1) := by decide +kernel
theorem dX9_isWell_8 : decode cX9_isWell 8 = .ok (.goto 4, 3) := by decide +kernel
theorem dX9_isWell_11 : decode cX9_isWell 11 = .ok (.iconst 0, 1) := by decide +kernel
theorem dX9_isWell_12 : decode cX9_isWell 12 = .ok (.ireturn, 1) := by decide +kernel
theorem dX9_isWord_0 : decode cX9_isWord 0 = .ok (.aload_n 0, 1) := by decide +kernel
theorem dX9_isWord_1 : decode cX9_isWord 1 = .ok (.invokevirtual 234, 3) := by decide +kernel
theorem dX9_isWord_4 : decode cX9_isWord 4 = .ok (.ifCond .eq 25, 3) := by decide +kernel
theorem dX9_isWord_7 : decode cX9_isWord 7 = .ok (.aload_n 0, 1) := by decide +kernel
theorem dX9_isWord_8 : decode cX9_isWord 8 = .ok (.getfield 210, 3) := by decide +kernel
theorem dX9_isWord_11 : decode cX9_isWord 11 = .ok (.iconst 2, 1) := by decide +kernel
theorem dX9_isWord_12 : decode cX9_isWord 12 = .ok (.if_icmp .ne 17, 3) := by decide +kernel
theorem dX9_isWord_15 : decode cX9_isWord 15 = .ok (.aload_n 0, 1) := by decide +kernel
theorem dX9_isWord_16 : decode cX9_isWord 16 = .ok (.getfield 206, 3) := by decide +kernel
theorem dX9_isWord_19 : decode cX9_isWord 19 = .ok (.iload_n 1, 1) := by decide +kernel
theorem dX9_isWord_20 : decode cX9_isWord 20 = .ok (.i2l, 1) := by decide +kernel
theorem dX9_isWord_21 : decode cX9_isWord 21 = .ok (.lcmp, 1) := by decide +kernel
theorem dX9_isWord_22 : decode cX9_isWord 22 = .ok (.ifCond .ne 7, 3) := by decide +kernel
theorem dX9_isWord_25 : decode cX9_isWord 25 = .ok (.iconst 1, 1) := by decide +kernel
theorem dX9_isWord_26 : decode cX9_isWord 26 = .ok (.goto 4, 3) := by decide +kernel
theorem dX9_isWord_29 : decode cX9_isWord 29 = .ok (.iconst 0, 1) := by decide +kernel
theorem dX9_isWord_30 : decode cX9_isWord 30 = .ok (.ireturn, 1) := by decide +kernel
theorem dX9_lacks_0 : decode cX9_lacks 0 = .ok (.iconst 0, 1) := by decide +kernel
theorem dX9_lacks_1 : decode cX9_lacks 1 = .ok (.istore_n 2, 1) := by decide +kernel
theorem dX9_lacks_2 : decode cX9_lacks 2 = .ok (.iload_n 2, 1) := by decide +kernel
theorem dX9_lacks_3 : decode cX9_lacks 3 = .ok (.aload_n 0, 1) := by decide +kernel
theorem dX9_lacks_4 : decode cX9_lacks 4 = .ok (.getfield 44, 3) := by decide +kernel
theorem dX9_lacks_7 : decode cX9_lacks 7 = .ok (.iload_n 1, 1) := by decide +kernel
theorem dX9_lacks_8 : decode cX9_lacks 8 = .ok (.iaload, 1) := by decide +kernel
theorem dX9_lacks_9 : decode cX9_lacks 9 = .ok (.if_icmp .gt 75, 3) := by decide +kernel
theorem dX9_lacks_12 : decode cX9_lacks 12 = .ok (.iconst 0, 1) := by decide +kernel
theorem dX9_lacks_13 : decode cX9_lacks 13 = .ok (.istore_n 3, 1) := by decide +kernel
theorem dX9_lacks_14 : decode cX9_lacks 14 = .ok (.iload_n 3, 1) := by decide +kernel
theorem dX9_lacks_15 : decode cX9_lacks 15 = .ok (.aload_n 0, 1) := by decide +kernel
theorem dX9_lacks_16 : decode cX9_lacks 16 = .ok (.getfield 30, 3) := by decide +kernel
theorem dX9_lacks_19 : decode cX9_lacks 19 = .ok (.aload_n 0, 1) := by decide +kernel
theorem dX9_lacks_20 : decode cX9_lacks 20 = .ok (.getfield 47, 3) := by decide +kernel
theorem dX9_lacks_23 : decode cX9_lacks 23 = .ok (.iconst 4, 1) := by decide +kernel
theorem dX9_lacks_24 : decode cX9_lacks 24 = .ok (.iload_n 1, 1) := by decide +kernel
theorem dX9_lacks_25 : decode cX9_lacks 25 = .ok (.imul, 1) := by decide +kernel
theorem dX9_lacks_26 : decode cX9_lacks 26 = .ok (.iload_n 2, 1) := by decide +kernel
theorem dX9_lacks_27 : decode cX9_lacks 27 = .ok (.iadd, 1) := by decide +kernel
theorem dX9_lacks_28 : decode cX9_lacks 28 = .ok (.iaload, 1) := by decide +kernel
theorem dX9_lacks_29 : decode cX9_lacks 29 = .ok (.iaload, 1) := by decide +kernel
theorem dX9_lacks_30 : decode cX9_lacks 30 = .ok (.if_icmp .ge 48, 3) := by decide +kernel
theorem dX9_lacks_33 : decode cX9_lacks 33 = .ok (.aload_n 0, 1) := by decide +kernel
theorem dX9_lacks_34 : decode cX9_lacks 34 = .ok (.iload_n 1, 1) := by decide +kernel
theorem dX9_lacks_35 : decode cX9_lacks 35 = .ok (.iload_n 2, 1) := by decide +kernel
theorem dX9_lacks_36 : decode cX9_lacks 36 = .ok (.iload_n 3, 1) := by decide +kernel
theorem dX9_lacks_37 : decode cX9_lacks 37 = .ok (.invokevirtual 288, 3) := by decide +kernel
theorem dX9_lacks_40 : decode cX9_lacks 40 = .ok (.ifCond .eq 32, 3) := by decide +kernel
theorem dX9_lacks_43 : decode cX9_lacks 43 = .ok (.aload_n 0, 1) := by decide +kernel
theorem dX9_lacks_44 : decode cX9_lacks 44 = .ok (.getfield 53, 3) := by decide +kernel
theorem dX9_lacks_47 : decode cX9_lacks 47 = .ok (.bipush 24, 2) := by decide +kernel
theorem dX9_lacks_49 : decode cX9_lacks 49 = .ok (.iload_n 1, 1) := by decide +kernel
theorem dX9_lacks_50 : decode cX9_lacks 50 = .ok (.imul, 1) := by decide +kernel
theorem dX9_lacks_51 : decode cX9_lacks 51 = .ok (.bipush 6, 2) := by decide +kernel
theorem dX9_lacks_53 : decode cX9_lacks 53 = .ok (.iload_n 2, 1) := by decide +kernel
theorem dX9_lacks_54 : decode cX9_lacks 54 = .ok (.imul, 1) := by decide +kernel
theorem dX9_lacks_55 : decode cX9_lacks 55 = .ok (.iadd, 1) := by decide +kernel
theorem dX9_lacks_56 : decode cX9_lacks 56 = .ok (.iload_n 3, 1) := by decide +kernel
theorem dX9_lacks_57 : decode cX9_lacks 57 = .ok (.iadd, 1) := by decide +kernel
theorem dX9_lacks_58 : decode cX9_lacks 58 = .ok (.iaload, 1) := by decide +kernel
theorem dX9_lacks_59 : decode cX9_lacks 59 = .ok (.ifCond .ge 13, 3) := by decide +kernel
theorem dX9_lacks_62 : decode cX9_lacks 62 = .ok (.aload_n 0, 1) := by decide +kernel
theorem dX9_lacks_63 : decode cX9_lacks 63 = .ok (.bipush 8, 2) := by decide +kernel
theorem dX9_lacks_65 : decode cX9_lacks 65 = .ok (.aload_n 0, 1) := by decide +kernel
theorem dX9_lacks_66 : decode cX9_lacks 66 = .ok (.getfield 190, 3) := by decide +kernel
theorem dX9_lacks_69 : decode cX9_lacks 69 = .ok (.invokevirtual 193, 3) := by decide +kernel
theorem dX9_lacks_72 : decode cX9_lacks 72 = .ok (.iinc 3 1, 3) := by decide +kernel
theorem dX9_lacks_75 : decode cX9_lacks 75 = .ok (.goto (-61), 3) := by decide +kernel
theorem dX9_lacks_78 : decode cX9_lacks 78 = .ok (.iinc 2 1, 3) := by decide +kernel
theorem dX9_lacks_81 : decode cX9_lacks 81 = .ok (.goto (-79), 3) := by decide +kernel
theorem dX9_lacks_84 : decode cX9_lacks 84 = .ok (.return_, 1) := by decide +kernel
theorem dX9_letterOf_0 : decode cX9_letterOf 0 = .ok (.iload_n 0, 1) := by decide +kernel
theorem dX9_letterOf_1 : decode cX9_letterOf 1 = .ok (.bipush 97, 2) := by decide +kernel
theorem dX9_letterOf_3 : decode cX9_letterOf 3 = .ok (.bipush 122, 2) := by decide +kernel
theorem dX9_letterOf_5 : decode cX9_letterOf 5 = .ok (.invokestatic 180, 3) := by decide +kernel
theorem dX9_letterOf_8 : decode cX9_letterOf 8 = .ok (.ifCond .eq 10, 3) := by decide +kernel
theorem dX9_letterOf_11 : decode cX9_letterOf 11 = .ok (.iload_n 0, 1) := by decide +kernel
theorem dX9_letterOf_12 : decode cX9_letterOf 12 = .ok (.bipush 96, 2) := by decide +kernel
theorem dX9_letterOf_14 : decode cX9_letterOf 14 = .ok (.isub, 1) := by decide +kernel
theorem dX9_letterOf_15 : decode cX9_letterOf 15 = .ok (.goto 22, 3) := by decide +kernel
theorem dX9_letterOf_18 : decode cX9_letterOf 18 = .ok (.iload_n 0, 1) := by decide +kernel
theorem dX9_letterOf_19 : decode cX9_letterOf 19 = .ok (.bipush 65, 2) := by decide +kernel
theorem dX9_letterOf_21 : decode cX9_letterOf 21 = .ok (.bipush 90, 2) := by decide +kernel
theorem dX9_letterOf_23 : decode cX9_letterOf 23 = .ok (.invokestatic 180, 3) := by decide +kernel
theorem dX9_letterOf_26 : decode cX9_letterOf 26 = .ok (.ifCond .eq 10, 3) := by decide +kernel
theorem dX9_letterOf_29 : decode cX9_letterOf 29 = .ok (.iload_n 0, 1) := by decide +kernel
theorem dX9_letterOf_30 : decode cX9_letterOf 30 = .ok (.bipush 38, 2) := by decide +kernel
theorem dX9_letterOf_32 : decode cX9_letterOf 32 = .ok (.isub, 1) := by decide +kernel
theorem dX9_letterOf_33 : decode cX9_letterOf 33 = .ok (.goto 4, 3) := by decide +kernel
theorem dX9_letterOf_36 : decode cX9_letterOf 36 = .ok (.iconst 0, 1) := by decide +kernel
theorem dX9_letterOf_37 : decode cX9_letterOf 37 = .ok (.ireturn, 1) := by decide +kernel
theorem dX9_levelOf_0 : decode cX9_levelOf 0 = .ok (.lload_n 0, 1) := by decide +kernel
theorem dX9_levelOf_1 : decode cX9_levelOf 1 = .ok (.ldc2_w 354, 3) := by decide +kernel
theorem dX9_levelOf_4 : decode cX9_levelOf 4 = .ok (.lcmp, 1) := by decide +kernel
theorem dX9_levelOf_5 : decode cX9_levelOf 5 = .ok (.ifCond .eq 19, 3) := by decide +kernel
theorem dX9_levelOf_8 : decode cX9_levelOf 8 = .ok (.lload_n 0, 1) := by decide +kernel
theorem dX9_levelOf_9 : decode cX9_levelOf 9 = .ok (.ldc2_w 356, 3) := by decide +kernel
theorem dX9_levelOf_12 : decode cX9_levelOf 12 = .ok (.lcmp, 1) := by decide +kernel
theorem dX9_levelOf_13 : decode cX9_levelOf 13 = .ok (.ifCond .eq 11, 3) := by decide +kernel
theorem dX9_levelOf_16 : decode cX9_levelOf 16 = .ok (.lload_n 0, 1) := by decide +kernel
theorem dX9_levelOf_17 : decode cX9_levelOf 17 = .ok (.ldc2_w 358, 3) := by decide +kernel
theorem dX9_levelOf_20 : decode cX9_levelOf 20 = .ok (.lcmp, 1) := by decide +kernel
theorem dX9_levelOf_21 : decode cX9_levelOf 21 = .ok (.ifCond .ne 7, 3) := by decide +kernel
theorem dX9_levelOf_24 : decode cX9_levelOf 24 = .ok (.iconst 3, 1) := by decide +kernel
theorem dX9_levelOf_25 : decode cX9_levelOf 25 = .ok (.goto 44, 3) := by decide +kernel
theorem dX9_levelOf_28 : decode cX9_levelOf 28 = .ok (.lload_n 0, 1) := by decide +kernel
theorem dX9_levelOf_29 : decode cX9_levelOf 29 = .ok (.ldc2_w 360, 3) := by decide +kernel
theorem dX9_levelOf_32 : decode cX9_levelOf 32 = .ok (.lcmp, 1) := by decide +kernel
theorem dX9_levelOf_33 : decode cX9_levelOf 33 = .ok (.ifCond .eq 11, 3) := by decide +kernel
theorem dX9_levelOf_36 : decode cX9_levelOf 36 = .ok (.lload_n 0, 1) := by decide +kernel
theorem dX9_levelOf_37 : decode cX9_levelOf 37 = .ok (.ldc2_w 362, 3) := by decide +kernel
theorem dX9_levelOf_40 : decode cX9_levelOf 40 = .ok (.lcmp, 1) := by decide +kernel
theorem dX9_levelOf_41 : decode cX9_levelOf 41 = .ok (.ifCond .ne 7, 3) := by decide +kernel
theorem dX9_levelOf_44 : decode cX9_levelOf 44 = .ok (.iconst 2, 1) := by decide +kernel
theorem dX9_levelOf_45 : decode cX9_levelOf 45 = .ok (.goto 24, 3) := by decide +kernel
theorem dX9_levelOf_48 : decode cX9_levelOf 48 = .ok (.lload_n 0, 1) := by decide +kernel
theorem dX9_levelOf_49 : decode cX9_levelOf 49 = .ok (.ldc2_w 364, 3) := by decide +kernel
theorem dX9_levelOf_52 : decode cX9_levelOf 52 = .ok (.lcmp, 1) := by decide +kernel
theorem dX9_levelOf_53 : decode cX9_levelOf 53 = .ok (.ifCond .eq 11, 3) := by decide +kernel
theorem dX9_levelOf_56 : decode cX9_levelOf 56 = .ok (.lload_n 0, 1) := by decide +kernel
theorem dX9_levelOf_57 : decode cX9_levelOf 57 = .ok (.ldc2_w 366, 3) := by decide +kernel
theorem dX9_levelOf_60 : decode cX9_levelOf 60 = .ok (.lcmp, 1) := by decide +kernel
theorem dX9_levelOf_61 : decode cX9_levelOf 61 = .ok (.ifCond .ne 7, 3) := by decide +kernel
theorem dX9_levelOf_64 : decode cX9_levelOf 64 = .ok (.iconst 1, 1) := by decide +kernel
theorem dX9_levelOf_65 : decode cX9_levelOf 65 = .ok (.goto 4, 3) := by decide +kernel
theorem dX9_levelOf_68 : decode cX9_levelOf 68 = .ok (.iconst 0, 1) := by decide +kernel
theorem dX9_levelOf_69 : decode cX9_levelOf 69 = .ok (.ireturn, 1) := by decide +kernel
theorem dX9_marks_0 : decode cX9_marks 0 = .ok (.iconst 0, 1) := by decide +kernel
theorem dX9_marks_1 : decode cX9_marks 1 = .ok (.istore_n 2, 1) := by decide +kernel
theorem dX9_marks_2 : decode cX9_marks 2 = .ok (.iconst 0, 1) := by decide +kernel
theorem dX9_marks_3 : decode cX9_marks 3 = .ok (.istore_n 3, 1) := by decide +kernel
theorem dX9_marks_4 : decode cX9_marks 4 = .ok (.iload_n 3, 1) := by decide +kernel
theorem dX9_marks_5 : decode cX9_marks 5 = .ok (.aload_n 0, 1) := by decide +kernel
theorem dX9_marks_6 : decode cX9_marks 6 = .ok (.getfield 461, 3) := by decide +kernel
theorem dX9_marks_9 : decode cX9_marks 9 = .ok (.iconst 1, 1) := by decide +kernel
theorem dX9_marks_10 : decode cX9_marks 10 = .ok (.isub, 1) := by decide +kernel
theorem dX9_marks_11 : decode cX9_marks 11 = .ok (.if_icmp .ge 29, 3) := by decide +kernel
theorem dX9_marks_14 : decode cX9_marks 14 = .ok (.iload_n 2, 1) := by decide +kernel
theorem dX9_marks_15 : decode cX9_marks 15 = .ok (.ifCond .ne 13, 3) := by decide +kernel
theorem dX9_marks_18 : decode cX9_marks 18 = .ok (.aload_n 0, 1) := by decide +kernel
theorem dX9_marks_19 : decode cX9_marks 19 = .ok (.getfield 143, 3) := by decide +kernel
theorem dX9_marks_22 : decode cX9_marks 22 = .ok (.iload_n 3, 1) := by decide +kernel
theorem dX9_marks_23 : decode cX9_marks 23 = .ok (.iaload, 1) := by decide +kernel
theorem dX9_marks_24 : decode cX9_marks 24 = .ok (.iload_n 1, 1) := by decide +kernel
theorem dX9_marks_25 : decode cX9_marks 25 = .ok (.if_icmp .ne 7, 3) := by decide +kernel
theorem dX9_marks_28 : decode cX9_marks 28 = .ok (.iconst 1, 1) := by decide +kernel
theorem dX9_marks_29 : decode cX9_marks 29 = .ok (.goto 4, 3) := by decide +kernel
theorem dX9_marks_32 : decode cX9_marks 32 = .ok (.iconst 0, 1) := by decide +kernel
theorem dX9_marks_33 : decode cX9_marks 33 = .ok (.istore_n 2, 1) := by decide +kernel
theorem dX9_marks_34 : decode cX9_marks 34 = .ok (.iinc 3 1, 3) := by decide +kernel
theorem dX9_marks_37 : decode cX9_marks 37 = .ok (.goto (-33), 3) := by decide +kernel
theorem dX9_marks_40 : decode cX9_marks 40 = .ok (.aload_n 0, 1) := by decide +kernel
theorem dX9_marks_41 : decode cX9_marks 41 = .ok (.iload_n 2, 1) := by decide +kernel
theorem dX9_marks_42 : decode cX9_marks 42 = .ok (.ifCond .eq 12, 3) := by decide +kernel
theorem dX9_marks_45 : decode cX9_marks 45 = .ok (.aload_n 0, 1) := by decide +kernel
theorem dX9_marks_46 : decode cX9_marks 46 = .ok (.getfield 461, 3) := by decide +kernel
theorem dX9_marks_49 : decode cX9_marks 49 = .ok (.iconst 1, 1) := by decide +kernel
theorem dX9_marks_50 : decode cX9_marks 50 = .ok (.isub, 1) := by decide +kernel
theorem dX9_marks_51 : decode cX9_marks 51 = .ok (.goto 7, 3) := by decide +kernel
theorem dX9_marks_54 : decode cX9_marks 54 = .ok (.aload_n 0, 1) := by decide +kernel
theorem dX9_marks_55 : decode cX9_marks 55 = .ok (.getfield 461, 3) := by decide +kernel
theorem dX9_marks_58 : decode cX9_marks 58 = .ok (.putfield 461, 3) := by decide +kernel
theorem dX9_marks_61 : decode cX9_marks 61 = .ok (.return_, 1) := by decide +kernel
theorem dX9_name_0 : decode cX9_name 0 = .ok (.iconst 0, 1) := by decide +kernel
theorem dX9_name_1 : decode cX9_name 1 = .ok (.istore_n 1, 1) := by decide +kernel
theorem dX9_name_2 : decode cX9_name 2 = .ok (.aload_n 0, 1) := by decide +kernel
theorem dX9_name_3 : decode cX9_name 3 = .ok (.getfield 197, 3) := by decide +kernel
theorem dX9_name_6 : decode cX9_name 6 = .ok (.aload_n 0, 1) := by decide +kernel
theorem dX9_name_7 : decode cX9_name 7 = .ok (.getfield 200, 3) := by decide +kernel
theorem dX9_name_10 : decode cX9_name 10 = .ok (.if_icmp .ge 73, 3) := by decide +kernel
theorem dX9_name_13 : decode cX9_name 13 = .ok (.aload_n 0, 1) := by decide +kernel
theorem dX9_name_14 : decode cX9_name 14 = .ok (.getfield 13, 3) := by decide +kernel
theorem dX9_name_17 : decode cX9_name 17 = .ok (.aload_n 0, 1) := by decide +kernel
theorem dX9_name_18 : decode cX9_name 18 = .ok (.getfield 197, 3) := by decide +kernel
theorem dX9_name_21 : decode cX9_name 21 = .ok (.baload, 1) := by decide +kernel
theorem dX9_name_22 : decode cX9_name 22 = .ok (.invokestatic 213, 3) := by decide +kernel
theorem dX9_name_25 : decode cX9_name 25 = .ok (.ifCond .le 58, 3) := by decide +kernel
theorem dX9_name_28 : decode cX9_name 28 = .ok (.aload_n 0, 1) := by decide +kernel
theorem dX9_name_29 : decode cX9_name 29 = .ok (.iload_n 1, 1) := by decide +kernel
theorem dX9_name_30 : decode cX9_name 30 = .ok (.bipush 8, 2) := by decide +kernel
theorem dX9_name_32 : decode cX9_name 32 = .ok (.if_icmp .ge 28, 3) := by decide +kernel
theorem dX9_name_35 : decode cX9_name 35 = .ok (.ldc2_w 229, 3) := by decide +kernel
theorem dX9_name_38 : decode cX9_name 38 = .ok (.aload_n 0, 1) := by decide +kernel
theorem dX9_name_39 : decode cX9_name 39 = .ok (.getfield 206, 3) := by decide +kernel
theorem dX9_name_42 : decode cX9_name 42 = .ok (.lmul, 1) := by decide +kernel
theorem dX9_name_43 : decode cX9_name 43 = .ok (.aload_n 0, 1) := by decide +kernel
theorem dX9_name_44 : decode cX9_name 44 = .ok (.getfield 13, 3) := by decide +kernel
theorem dX9_name_47 : decode cX9_name 47 = .ok (.aload_n 0, 1) := by decide +kernel
theorem dX9_name_48 : decode cX9_name 48 = .ok (.getfield 197, 3) := by decide +kernel
theorem dX9_name_51 : decode cX9_name 51 = .ok (.baload, 1) := by decide +kernel
theorem dX9_name_52 : decode cX9_name 52 = .ok (.invokestatic 213, 3) := by decide +kernel
theorem dX9_name_55 : decode cX9_name 55 = .ok (.i2l, 1) := by decide +kernel
theorem dX9_name_56 : decode cX9_name 56 = .ok (.ladd, 1) := by decide +kernel
theorem dX9_name_57 : decode cX9_name 57 = .ok (.goto 7, 3) := by decide +kernel
theorem dX9_name_60 : decode cX9_name 60 = .ok (.aload_n 0, 1) := by decide +kernel
theorem dX9_name_61 : decode cX9_name 61 = .ok (.getfield 206, 3) := by decide +kernel
theorem dX9_name_64 : decode cX9_name 64 = .ok (.putfield 206, 3) := by decide +kernel
theorem dX9_name_67 : decode cX9_name 67 = .ok (.iinc 1 1, 3) := by decide +kernel
theorem dX9_name_70 : decode cX9_name 70 = .ok (.aload_n 0, 1) := by decide +kernel
theorem dX9_name_71 : decode cX9_name 71 = .ok (.dup, 1) := by decide +kernel
theorem dX9_name_72 : decode cX9_name 72 = .ok (.getfield 197, 3) := by decide +kernel
theorem dX9_name_75 : decode cX9_name 75 = .ok (.iconst 1, 1) := by decide +kernel
theorem dX9_name_76 : decode cX9_name 76 = .ok (.iadd, 1) := by decide +kernel
theorem dX9_name_77 : decode cX9_name 77 = .ok (.putfield 197, 3) := by decide +kernel
theorem dX9_name_80 : decode cX9_name 80 = .ok (.goto (-78), 3) := by decide +kernel
theorem dX9_name_83 : decode cX9_name 83 = .ok (.iload_n 1, 1) := by decide +kernel
theorem dX9_name_84 : decode cX9_name 84 = .ok (.iconst 4, 1) := by decide +kernel
theorem dX9_name_85 : decode cX9_name 85 = .ok (.if_icmp .le 7, 3) := by decide +kernel
theorem dX9_name_88 : decode cX9_name 88 = .ok (.iconst (-1), 1) := by decide +kernel
theorem dX9_name_89 : decode cX9_name 89 = .ok (.goto 11, 3) := by decide +kernel
theorem dX9_name_92 : decode cX9_name 92 = .ok (.aload_n 0, 1) := by decide +kernel
theorem dX9_name_93 : decode cX9_name 93 = .ok (.getfield 206, 3) := by decide +kernel
theorem dX9_name_96 : decode cX9_name 96 = .ok (.l2i, 1) := by decide +kernel
theorem dX9_name_97 : decode cX9_name 97 = .ok (.invokestatic 231, 3) := by decide +kernel
theorem dX9_name_100 : decode cX9_name 100 = .ok (.istore_n 2, 1) := by decide +kernel
theorem dX9_name_101 : decode cX9_name 101 = .ok (.aload_n 0, 1) := by decide +kernel
theorem dX9_name_102 : decode cX9_name 102 = .ok (.iload_n 2, 1) := by decide +kernel
theorem dX9_name_103 : decode cX9_name 103 = .ok (.ifCond .lt 7, 3) := by decide +kernel
theorem dX9_name_106 : decode cX9_name 106 = .ok (.iconst 2, 1) := by decide +kernel
theorem dX9_name_107 : decode cX9_name 107 = .ok (.goto 14, 3) := by decide +kernel
theorem dX9_name_110 : decode cX9_name 110 = .ok (.iload_n 1, 1) := by decide +kernel
theorem dX9_name_111 : decode cX9_name 111 = .ok (.bipush 8, 2) := by decide +kernel
theorem dX9_name_113 : decode cX9_name 113 = .ok (.if_icmp .le 7, 3) := by decide +kernel
theorem dX9_name_116 : decode cX9_name 116 = .ok (.iconst 5, 1) := by decide +kernel
theorem dX9_name_117 : decode cX9_name 117 = .ok (.goto 4, 3) := by decide +kernel
theorem dX9_name_120 : decode cX9_name 120 = .ok (.iconst 1, 1) := by decide +kernel
theorem dX9_name_121 : decode cX9_name 121 = .ok (.putfield 210, 3) := by decide +kernel
theorem dX9_name_124 : decode cX9_name 124 = .ok (.aload_n 0, 1) := by decide +kernel
theorem dX9_name_125 : decode cX9_name 125 = .ok (.iload_n 2, 1) := by decide +kernel
theorem dX9_name_126 : decode cX9_name 126 = .ok (.ifCond .lt 8, 3) := by decide +kernel
theorem dX9_name_129 : decode cX9_name 129 = .ok (.iload_n 2, 1) := by decide +kernel
theorem dX9_name_130 : decode cX9_name 130 = .ok (.i2l, 1) := by decide +kernel
theorem dX9_name_131 : decode cX9_name 131 = .ok (.goto 7, 3) := by decide +kernel
theorem dX9_name_134 : decode cX9_name 134 = .ok (.aload_n 0, 1) := by decide +kernel
theorem dX9_name_135 : decode cX9_name 135 = .ok (.getfield 206, 3) := by decide +kernel
theorem dX9_name_138 : decode cX9_name 138 = .ok (.putfield 206, 3) := by decide +kernel
theorem dX9_name_141 : decode cX9_name 141 = .ok (.return_, 1) := by decide +kernel
theorem dX9_namedBy_0 : decode cX9_namedBy 0 = .ok (.bipush 6, 2) := by decide +kernel
theorem dX9_namedBy_2 : decode cX9_namedBy 2 = .ok (.aload_n 0, 1) := by decide +kernel
theorem dX9_namedBy_3 : decode cX9_namedBy 3 = .ok (.getfield 92, 3) := by decide +kernel
theorem dX9_namedBy_6 : decode cX9_namedBy 6 = .ok (.iconst 4, 1) := by decide +kernel
theorem dX9_namedBy_7 : decode cX9_namedBy 7 = .ok (.aload_n 0, 1) := by decide +kernel
theorem dX9_namedBy_8 : decode cX9_namedBy 8 = .ok (.iload_n 1, 1) := by decide +kernel
theorem dX9_namedBy_9 : decode cX9_namedBy 9 = .ok (.invokevirtual 470, 3) := by decide +kernel
theorem dX9_namedBy_12 : decode cX9_namedBy 12 = .ok (.imul, 1) := by decide +kernel
theorem dX9_namedBy_13 : decode cX9_namedBy 13 = .ok (.aload_n 0, 1) := by decide +kernel
theorem dX9_namedBy_14 : decode cX9_namedBy 14 = .ok (.getfield 68, 3) := by decide +kernel
theorem dX9_namedBy_17 : decode cX9_namedBy 17 = .ok (.iload_n 2, 1) := by decide +kernel
theorem dX9_namedBy_18 : decode cX9_namedBy 18 = .ok (.iaload, 1) := by decide +kernel
theorem dX9_namedBy_19 : decode cX9_namedBy 19 = .ok (.iadd, 1) := by decide +kernel
theorem dX9_namedBy_20 : decode cX9_namedBy 20 = .ok (.iaload, 1) := by decide +kernel
theorem dX9_namedBy_21 : decode cX9_namedBy 21 = .ok (.imul, 1) := by decide +kernel
theorem dX9_namedBy_22 : decode cX9_namedBy 22 = .ok (.aload_n 0, 1) := by decide +kernel
theorem dX9_namedBy_23 : decode cX9_namedBy 23 = .ok (.getfield 71, 3) := by decide +kernel
theorem dX9_namedBy_26 : decode cX9_namedBy 26 = .ok (.iload_n 2, 1) := by decide +kernel
theorem dX9_namedBy_27 : decode cX9_namedBy 27 = .ok (.iaload, 1) := by decide +kernel
theorem dX9_namedBy_28 : decode cX9_namedBy 28 = .ok (.iadd, 1) := by decide +kernel
theorem dX9_namedBy_29 : decode cX9_namedBy 29 = .ok (.ireturn, 1) := by decide +kernel
theorem dX9_nests_0 : decode cX9_nests 0 = .ok (.aload_n 0, 1) := by decide +kernel
theorem dX9_nests_1 : decode cX9_nests 1 = .ok (.getfield 308, 3) := by decide +kernel
theorem dX9_nests_4 : decode cX9_nests 4 = .ok (.bipush 20, 2) := by decide +kernel
theorem dX9_nests_6 : decode cX9_nests 6 = .ok (.if_icmp .ne 12, 3) := by decide +kernel
theorem dX9_nests_9 : decode cX9_nests 9 = .ok (.aload_n 0, 1) := by decide +kernel
theorem dX9_nests_10 : decode cX9_nests 10 = .ok (.iconst 4, 1) := by decide +kernel
theorem dX9_nests_11 : decode cX9_nests 11 = .ok (.aload_n 0, 1) := by decide +kernel
theorem dX9_nests_12 : decode cX9_nests 12 = .ok (.getfield 190, 3) := by decide +kernel
theorem dX9_nests_15 : decode cX9_nests 15 = .ok (.invokevirtual 193, 3) := by decide +kernel
theorem dX9_nests_18 : decode cX9_nests 18 = .ok (.aload_n 0, 1) := by decide +kernel
theorem dX9_nests_19 : decode cX9_nests 19 = .ok (.dup, 1) := by decide +kernel
theorem dX9_nests_20 : decode cX9_nests 20 = .ok (.getfield 308, 3) := by decide +kernel
theorem dX9_nests_23 : decode cX9_nests 23 = .ok (.iconst 1, 1) := by decide +kernel
theorem dX9_nests_24 : decode cX9_nests 24 = .ok (.iadd, 1) := by decide +kernel
theorem dX9_nests_25 : decode cX9_nests 25 = .ok (.putfield 308, 3) := by decide +kernel
theorem dX9_nests_28 : decode cX9_nests 28 = .ok (.return_, 1) := by decide +kernel
theorem dX9_next_0 : decode cX9_next 0 = .ok (.aload_n 0, 1) := by decide +kernel
theorem dX9_next_1 : decode cX9_next 1 = .ok (.invokevirtual 203, 3) := by decide +kernel
theorem dX9_next_4 : decode cX9_next 4 = .ok (.aload_n 0, 1) := by decide +kernel
theorem dX9_next_5 : decode cX9_next 5 = .ok (.aload_n 0, 1) := by decide +kernel
theorem dX9_next_6 : decode cX9_next 6 = .ok (.getfield 197, 3) := by decide +kernel
theorem dX9_next_9 : decode cX9_next 9 = .ok (.putfield 190, 3) := by decide +kernel
theorem dX9_next_12 : decode cX9_next 12 = .ok (.aload_n 0, 1) := by decide +kernel
theorem dX9_next_13 : decode cX9_next 13 = .ok (.lconst 0, 1) := by decide +kernel
theorem dX9_next_14 : decode cX9_next 14 = .ok (.putfield 206, 3) := by decide +kernel
theorem dX9_next_17 : decode cX9_next 17 = .ok (.aload_n 0, 1) := by decide +kernel
theorem dX9_next_18 : decode cX9_next 18 = .ok (.getfield 197, 3) := by decide +kernel
theorem dX9_next_21 : decode cX9_next 21 = .ok (.aload_n 0, 1) := by decide +kernel
theorem dX9_next_22 : decode cX9_next 22 = .ok (.getfield 200, 3) := by decide +kernel
theorem dX9_next_25 : decode cX9_next 25 = .ok (.if_icmp .ne 9, 3) := by decide +kernel
theorem dX9_next_28 : decode cX9_next 28 = .ok (.aload_n 0, 1) := by decide +kernel
theorem dX9_next_29 : decode cX9_next 29 = .ok (.iconst 0, 1) := by decide +kernel
theorem dX9_next_30 : decode cX9_next 30 = .ok (.putfield 210, 3) := by decide +kernel
theorem dX9_next_33 : decode cX9_next 33 = .ok (.return_, 1) := by decide +kernel
theorem dX9_next_34 : decode cX9_next 34 = .ok (.aload_n 0, 1) := by decide +kernel
theorem dX9_next_35 : decode cX9_next 35 = .ok (.getfield 13, 3) := by decide +kernel
theorem dX9_next_38 : decode cX9_next 38 = .ok (.aload_n 0, 1) := by decide +kernel
theorem dX9_next_39 : decode cX9_next 39 = .ok (.getfield 197, 3) := by decide +kernel
theorem dX9_next_42 : decode cX9_next 42 = .ok (.baload, 1) := by decide +kernel
theorem dX9_next_43 : decode cX9_next 43 = .ok (.istore_n 1, 1) := by decide +kernel
theorem dX9_next_44 : decode cX9_next 44 = .ok (.iload_n 1, 1) := by decide +kernel
theorem dX9_next_45 : decode cX9_next 45 = .ok (.invokestatic 213, 3) := by decide +kernel
theorem dX9_next_48 : decode cX9_next 48 = .ok (.ifCond .le 10, 3) := by decide +kernel
theorem dX9_next_51 : decode cX9_next 51 = .ok (.aload_n 0, 1) := by decide +kernel
theorem dX9_next_52 : decode cX9_next 52 = .ok (.invokevirtual 217, 3) := by decide +kernel
theorem dX9_next_55 : decode cX9_next 55 = .ok (.goto 112, 3) := by decide +kernel
theorem dX9_next_58 : decode cX9_next 58 = .ok (.iload_n 1, 1) := by decide +kernel
theorem dX9_next_59 : decode cX9_next 59 = .ok (.bipush 48, 2) := by decide +kernel
theorem dX9_next_61 : decode cX9_next 61 = .ok (.bipush 57, 2) := by decide +kernel
theorem dX9_next_63 : decode cX9_next 63 = .ok (.invokestatic 180, 3) := by decide +kernel
theorem dX9_next_66 : decode cX9_next 66 = .ok (.ifCond .eq 96, 3) := by decide +kernel
theorem dX9_next_69 : decode cX9_next 69 = .ok (.aload_n 0, 1) := by decide +kernel
theorem dX9_next_70 : decode cX9_next 70 = .ok (.iconst 3, 1) := by decide +kernel
theorem dX9_next_71 : decode cX9_next 71 = .ok (.putfield 210, 3) := by decide +kernel
theorem dX9_next_74 : decode cX9_next 74 = .ok (.aload_n 0, 1) := by decide +kernel
theorem dX9_next_75 : decode cX9_next 75 = .ok (.getfield 197, 3) := by decide +kernel
theorem dX9_next_78 : decode cX9_next 78 = .ok (.aload_n 0, 1) := by decide +kernel
theorem dX9_next_79 : decode cX9_next 79 = .ok (.getfield 200, 3) := by decide +kernel
theorem dX9_next_82 : decode cX9_next 82 = .ok (.if_icmp .ge 85, 3) := by decide +kernel
theorem dX9_next_85 : decode cX9_next 85 = .ok (.aload_n 0, 1) := by decide +kernel
theorem dX9_next_86 : decode cX9_next 86 = .ok (.getfield 13, 3) := by decide +kernel
theorem dX9_next_89 : decode cX9_next 89 = .ok (.aload_n 0, 1) := by decide +kernel
theorem dX9_next_90 : decode cX9_next 90 = .ok (.getfield 197, 3) := by decide +kernel
theorem dX9_next_93 : decode cX9_next 93 = .ok (.baload, 1) := by decide +kernel
theorem dX9_next_94 : decode cX9_next 94 = .ok (.bipush 48, 2) := by decide +kernel
theorem dX9_next_96 : decode cX9_next 96 = .ok (.bipush 57, 2) := by decide +kernel
theorem dX9_next_98 : decode cX9_next 98 = .ok (.invokestatic 180, 3) := by decide +kernel
theorem dX9_next_101 : decode cX9_next 101 = .ok (.ifCond .eq 66, 3) := by decide +kernel
theorem dX9_next_104 : decode cX9_next 104 = .ok (.aload_n 0, 1) := by decide +kernel
theorem dX9_next_105 : decode cX9_next 105 = .ok (.aload_n 0, 1) := by decide +kernel
theorem dX9_next_106 : decode cX9_next 106 = .ok (.getfield 206, 3) := by decide +kernel
theorem dX9_next_109 : decode cX9_next 109 = .ok (.ldc2_w 220, 3) := by decide +kernel
theorem dX9_next_112 : decode cX9_next 112 = .ok (.lcmp, 1) := by decide +kernel
theorem dX9_next_113 : decode cX9_next 113 = .ok (.ifCond .le 10, 3) := by decide +kernel
theorem dX9_next_116 : decode cX9_next 116 = .ok (.aload_n 0, 1) := by decide +kernel
theorem dX9_next_117 : decode cX9_next 117 = .ok (.getfield 206, 3) := by decide +kernel
theorem dX9_next_120 : decode cX9_next 120 = .ok (.goto 26, 3) := by decide +kernel
theorem dX9_next_123 : decode cX9_next 123 = .ok (.ldc2_w 222, 3) := by decide +kernel
theorem dX9_next_126 : decode cX9_next 126 = .ok (.aload_n 0, 1) := by decide +kernel
theorem dX9_next_127 : decode cX9_next 127 = .ok (.getfield 206, 3) := by decide +kernel
theorem dX9_next_130 : decode cX9_next 130 = .ok (.lmul, 1) := by decide +kernel
theorem dX9_next_131 : decode cX9_next 131 = .ok (.aload_n 0, 1) := by decide +kernel
theorem dX9_next_132 : decode cX9_next 132 = .ok (.getfield 13, 3) := by decide +kernel
theorem dX9_next_135 : decode cX9_next 135 = .ok (.aload_n 0, 1) := by decide +kernel
theorem dX9_next_136 : decode cX9_next 136 = .ok (.getfield 197, 3) := by decide +kernel
theorem dX9_next_139 : decode cX9_next 139 = .ok (.baload, 1) := by decide +kernel
theorem dX9_next_140 : decode cX9_next 140 = .ok (.i2l, 1) := by decide +kernel
theorem dX9_next_141 : decode cX9_next 141 = .ok (.ladd, 1) := by decide +kernel
theorem dX9_next_142 : decode cX9_next 142 = .ok (.ldc2_w 224, 3) := by decide +kernel
theorem dX9_next_145 : decode cX9_next 145 = .ok (.lsub, 1) := by decide +kernel
theorem dX9_next_146 : decode cX9_next 146 = .ok (.putfield 206, 3) := by decide +kernel
theorem dX9_next_149 : decode cX9_next 149 = .ok (.aload_n 0, 1) := by decide +kernel
theorem dX9_next_150 : decode cX9_next 150 = .ok (.dup, 1) := by decide +kernel
theorem dX9_next_151 : decode cX9_next 151 = .ok (.getfield 197, 3) := by decide +kernel
theorem dX9_next_154 : decode cX9_next 154 = .ok (.iconst 1, 1) := by decide +kernel
theorem dX9_next_155 : decode cX9_next 155 = .ok (.iadd, 1) := by decide +kernel
theorem dX9_next_156 : decode cX9_next 156 = .ok (.putfield 197, 3) := by decide +kernel
theorem dX9_next_159 : decode cX9_next 159 = .ok (.goto (-85), 3) := by decide +kernel
theorem dX9_next_162 : decode cX9_next 162 = .ok (.aload_n 0, 1) := by decide +kernel
theorem dX9_next_163 : decode cX9_next 163 = .ok (.iload_n 1, 1) := by decide +kernel
theorem dX9_next_164 : decode cX9_next 164 = .ok (.invokevirtual 226, 3) := by decide +kernel
theorem dX9_next_167 : decode cX9_next 167 = .ok (.return_, 1) := by decide +kernel
theorem dX9_node_0 : decode cX9_node 0 = .ok (.iload_n 1, 1) := by decide +kernel
theorem dX9_node_1 : decode cX9_node 1 = .ok (.iconst 0, 1) := by decide +kernel
theorem dX9_node_2 : decode cX9_node 2 = .ok (.aload_n 0, 1) := by decide +kernel
theorem dX9_node_3 : decode cX9_node 3 = .ok (.getfield 396, 3) := by decide +kernel
theorem dX9_node_6 : decode cX9_node 6 = .ok (.iconst 1, 1) := by decide +kernel
theorem dX9_node_7 : decode cX9_node 7 = .ok (.isub, 1) := by decide +kernel
theorem dX9_node_8 : decode cX9_node 8 = .ok (.invokestatic 180, 3) := by decide +kernel
theorem dX9_node_11 : decode cX9_node 11 = .ok (.ifCond .ne 5, 3) := by decide +kernel
theorem dX9_node_14 : decode cX9_node 14 = .ok (.iconst (-1), 1) := by decide +kernel
theorem dX9_node_15 : decode cX9_node 15 = .ok (.ireturn, 1) := by decide +kernel
theorem dX9_node_16 : decode cX9_node 16 = .ok (.iload_n 2, 1) := by decide +kernel
theorem dX9_node_17 : decode cX9_node 17 = .ok (.tableswitch 77 0 4 #[35, 42, 49, 56, 63], 35) := by decide +kernel
theorem dX9_node_52 : decode cX9_node 52 = .ok (.aload_n 0, 1) := by decide +kernel
theorem dX9_node_53 : decode cX9_node 53 = .ok (.getfield 80, 3) := by decide +kernel
theorem dX9_node_56 : decode cX9_node 56 = .ok (.iload_n 1, 1) := by decide +kernel
theorem dX9_node_57 : decode cX9_node 57 = .ok (.iaload, 1) := by decide +kernel
theorem dX9_node_58 : decode cX9_node 58 = .ok (.ireturn, 1) := by decide +kernel
theorem dX9_node_59 : decode cX9_node 59 = .ok (.aload_n 0, 1) := by decide +kernel
theorem dX9_node_60 : decode cX9_node 60 = .ok (.getfield 83, 3) := by decide +kernel
theorem dX9_node_63 : decode cX9_node 63 = .ok (.iload_n 1, 1) := by decide +kernel
theorem dX9_node_64 : decode cX9_node 64 = .ok (.iaload, 1) := by decide +kernel
theorem dX9_node_65 : decode cX9_node 65 = .ok (.ireturn, 1) := by decide +kernel
theorem dX9_node_66 : decode cX9_node 66 = .ok (.aload_n 0, 1) := by decide +kernel
theorem dX9_node_67 : decode cX9_node 67 = .ok (.getfield 86, 3) := by decide +kernel
theorem dX9_node_70 : decode cX9_node 70 = .ok (.iload_n 1, 1) := by decide +kernel
theorem dX9_node_71 : decode cX9_node 71 = .ok (.iaload, 1) := by decide +kernel
theorem dX9_node_72 : decode cX9_node 72 = .ok (.ireturn, 1) := by decide +kernel
theorem dX9_node_73 : decode cX9_node 73 = .ok (.aload_n 0, 1) := by decide +kernel
theorem dX9_node_74 : decode cX9_node 74 = .ok (.getfield 89, 3) := by decide +kernel
theorem dX9_node_77 : decode cX9_node 77 = .ok (.iload_n 1, 1) := by decide +kernel
theorem dX9_node_78 : decode cX9_node 78 = .ok (.iaload, 1) := by decide +kernel
theorem dX9_node_79 : decode cX9_node 79 = .ok (.ireturn, 1) := by decide +kernel
theorem dX9_node_80 : decode cX9_node 80 = .ok (.aload_n 0, 1) := by decide +kernel
theorem dX9_node_81 : decode cX9_node 81 = .ok (.getfield 47, 3) := by decide +kernel
theorem dX9_node_84 : decode cX9_node 84 = .ok (.iconst 4, 1) := by decide +kernel
theorem dX9_node_85 : decode cX9_node 85 = .ok (.aload_n 0, 1) := by decide +kernel
theorem dX9_node_86 : decode cX9_node 86 = .ok (.getfield 80, 3) := by decide +kernel
theorem dX9_node_89 : decode cX9_node 89 = .ok (.iload_n 1, 1) := by decide +kernel
theorem dX9_node_90 : decode cX9_node 90 = .ok (.iaload, 1) := by decide +kernel
theorem dX9_node_91 : decode cX9_node 91 = .ok (.imul, 1) := by decide +kernel
theorem dX9_node_92 : decode cX9_node 92 = .ok (.iaload, 1) := by decide +kernel
theorem dX9_node_93 : decode cX9_node 93 = .ok (.ireturn, 1) := by decide +kernel
theorem dX9_node_94 : decode cX9_node 94 = .ok (.iconst (-1), 1) := by decide +kernel
theorem dX9_node_95 : decode cX9_node 95 = .ok (.ireturn, 1) := by decide +kernel
theorem dX9_number_0 : decode cX9_number 0 = .ok (.aload_n 0, 1) := by decide +kernel
theorem dX9_number_1 : decode cX9_number 1 = .ok (.invokevirtual 322, 3) := by decide +kernel
theorem dX9_number_4 : decode cX9_number 4 = .ok (.aload_n 0, 1) := by decide +kernel
theorem dX9_number_5 : decode cX9_number 5 = .ok (.getfield 206, 3) := by decide +kernel
theorem dX9_number_8 : decode cX9_number 8 = .ok (.ldc2_w 220, 3) := by decide +kernel
theorem dX9_number_11 : decode cX9_number 11 = .ok (.lcmp, 1) := by decide +kernel
theorem dX9_number_12 : decode cX9_number 12 = .ok (.ifCond .le 12, 3) := by decide +kernel
theorem dX9_number_15 : decode cX9_number 15 = .ok (.aload_n 0, 1) := by decide +kernel
theorem dX9_number_16 : decode cX9_number 16 = .ok (.iconst 5, 1) := by decide +kernel
theorem dX9_number_17 : decode cX9_number 17 = .ok (.aload_n 0, 1) := by decide +kernel
theorem dX9_number_18 : decode cX9_number 18 = .ok (.getfield 190, 3) := by decide +kernel
theorem dX9_number_21 : decode cX9_number 21 = .ok (.invokevirtual 193, 3) := by decide +kernel
theorem dX9_number_24 : decode cX9_number 24 = .ok (.aload_n 0, 1) := by decide +kernel
theorem dX9_number_25 : decode cX9_number 25 = .ok (.iconst 0, 1) := by decide +kernel
theorem dX9_number_26 : decode cX9_number 26 = .ok (.aload_n 0, 1) := by decide +kernel
theorem dX9_number_27 : decode cX9_number 27 = .ok (.getfield 206, 3) := by decide +kernel
theorem dX9_number_30 : decode cX9_number 30 = .ok (.ldc2_w 220, 3) := by decide +kernel
theorem dX9_number_33 : decode cX9_number 33 = .ok (.lcmp, 1) := by decide +kernel
theorem dX9_number_34 : decode cX9_number 34 = .ok (.ifCond .le 7, 3) := by decide +kernel
theorem dX9_number_37 : decode cX9_number 37 = .ok (.iconst 0, 1) := by decide +kernel
theorem dX9_number_38 : decode cX9_number 38 = .ok (.goto 8, 3) := by decide +kernel
theorem dX9_number_41 : decode cX9_number 41 = .ok (.aload_n 0, 1) := by decide +kernel
theorem dX9_number_42 : decode cX9_number 42 = .ok (.getfield 206, 3) := by decide +kernel
theorem dX9_number_45 : decode cX9_number 45 = .ok (.l2i, 1) := by decide +kernel
theorem dX9_number_46 : decode cX9_number 46 = .ok (.invokevirtual 317, 3) := by decide +kernel
theorem dX9_number_49 : decode cX9_number 49 = .ok (.aload_n 0, 1) := by decide +kernel
theorem dX9_number_50 : decode cX9_number 50 = .ok (.invokevirtual 234, 3) := by decide +kernel
theorem dX9_number_53 : decode cX9_number 53 = .ok (.ifCond .eq 7, 3) := by decide +kernel
theorem dX9_number_56 : decode cX9_number 56 = .ok (.aload_n 0, 1) := by decide +kernel
theorem dX9_number_57 : decode cX9_number 57 = .ok (.invokevirtual 242, 3) := by decide +kernel
theorem dX9_number_60 : decode cX9_number 60 = .ok (.return_, 1) := by decide +kernel
theorem dX9_occ_0 : decode cX9_occ 0 = .ok (.aload_n 0, 1) := by decide +kernel
theorem dX9_occ_1 : decode cX9_occ 1 = .ok (.getfield 206, 3) := by decide +kernel
theorem dX9_occ_4 : decode cX9_occ 4 = .ok (.ldc2_w 291, 3) := by decide +kernel
theorem dX9_occ_7 : decode cX9_occ 7 = .ok (.lcmp, 1) := by decide +kernel
theorem dX9_occ_8 : decode cX9_occ 8 = .ok (.ifCond .le 7, 3) := by decide +kernel
theorem dX9_occ_11 : decode cX9_occ 11 = .ok (.iconst 4, 1) := by decide +kernel
theorem dX9_occ_12 : decode cX9_occ 12 = .ok (.goto 8, 3) := by decide +kernel
theorem dX9_occ_15 : decode cX9_occ 15 = .ok (.aload_n 0, 1) := by decide +kernel
theorem dX9_occ_16 : decode cX9_occ 16 = .ok (.getfield 206, 3) := by decide +kernel
theorem dX9_occ_19 : decode cX9_occ 19 = .ok (.l2i, 1) := by decide +kernel
theorem dX9_occ_20 : decode cX9_occ 20 = .ok (.istore_n 2, 1) := by decide +kernel
theorem dX9_occ_21 : decode cX9_occ 21 = .ok (.iload_n 2, 1) := by decide +kernel
theorem dX9_occ_22 : decode cX9_occ 22 = .ok (.aload_n 0, 1) := by decide +kernel
theorem dX9_occ_23 : decode cX9_occ 23 = .ok (.getfield 44, 3) := by decide +kernel
theorem dX9_occ_26 : decode cX9_occ 26 = .ok (.iload_n 1, 1) := by decide +kernel
theorem dX9_occ_27 : decode cX9_occ 27 = .ok (.iaload, 1) := by decide +kernel
theorem dX9_occ_28 : decode cX9_occ 28 = .ok (.if_icmp .le 12, 3) := by decide +kernel
theorem dX9_occ_31 : decode cX9_occ 31 = .ok (.aload_n 0, 1) := by decide +kernel
theorem dX9_occ_32 : decode cX9_occ 32 = .ok (.iconst 3, 1) := by decide +kernel
theorem dX9_occ_33 : decode cX9_occ 33 = .ok (.aload_n 0, 1) := by decide +kernel
theorem dX9_occ_34 : decode cX9_occ 34 = .ok (.getfield 190, 3) := by decide +kernel
theorem dX9_occ_37 : decode cX9_occ 37 = .ok (.invokevirtual 193, 3) := by decide +kernel
theorem dX9_occ_40 : decode cX9_occ 40 = .ok (.aload_n 0, 1) := by decide +kernel
theorem dX9_occ_41 : decode cX9_occ 41 = .ok (.invokevirtual 334, 3) := by decide +kernel
theorem dX9_occ_44 : decode cX9_occ 44 = .ok (.aload_n 0, 1) := by decide +kernel
theorem dX9_occ_45 : decode cX9_occ 45 = .ok (.invokevirtual 234, 3) := by decide +kernel
theorem dX9_occ_48 : decode cX9_occ 48 = .ok (.ifCond .eq 7, 3) := by decide +kernel
theorem dX9_occ_51 : decode cX9_occ 51 = .ok (.aload_n 0, 1) := by decide +kernel
theorem dX9_occ_52 : decode cX9_occ 52 = .ok (.invokevirtual 334, 3) := by decide +kernel
theorem dX9_occ_55 : decode cX9_occ 55 = .ok (.aload_n 0, 1) := by decide +kernel
theorem dX9_occ_56 : decode cX9_occ 56 = .ok (.invokevirtual 234, 3) := by decide +kernel
theorem dX9_occ_59 : decode cX9_occ 59 = .ok (.ifCond .ne 4, 3) := by decide +kernel
theorem dX9_occ_62 : decode cX9_occ 62 = .ok (.return_, 1) := by decide +kernel
theorem dX9_occ_63 : decode cX9_occ 63 = .ok (.aload_n 0, 1) := by decide +kernel
theorem dX9_occ_64 : decode cX9_occ 64 = .ok (.invokevirtual 251, 3) := by decide +kernel
theorem dX9_occ_67 : decode cX9_occ 67 = .ok (.ifCond .eq 78, 3) := by decide +kernel
theorem dX9_occ_70 : decode cX9_occ 70 = .ok (.aload_n 0, 1) := by decide +kernel
theorem dX9_occ_71 : decode cX9_occ 71 = .ok (.aload_n 0, 1) := by decide +kernel
theorem dX9_occ_72 : decode cX9_occ 72 = .ok (.getfield 47, 3) := by decide +kernel
theorem dX9_occ_75 : decode cX9_occ 75 = .ok (.iconst 4, 1) := by decide +kernel
theorem dX9_occ_76 : decode cX9_occ 76 = .ok (.iload_n 1, 1) := by decide +kernel
theorem dX9_occ_77 : decode cX9_occ 77 = .ok (.imul, 1) := by decide +kernel
theorem dX9_occ_78 : decode cX9_occ 78 = .ok (.iload_n 2, 1) := by decide +kernel
theorem dX9_occ_79 : decode cX9_occ 79 = .ok (.iadd, 1) := by decide +kernel
theorem dX9_occ_80 : decode cX9_occ 80 = .ok (.iaload, 1) := by decide +kernel
theorem dX9_occ_81 : decode cX9_occ 81 = .ok (.aload_n 0, 1) := by decide +kernel
theorem dX9_occ_82 : decode cX9_occ 82 = .ok (.getfield 206, 3) := by decide +kernel
theorem dX9_occ_85 : decode cX9_occ 85 = .ok (.invokevirtual 268, 3) := by decide +kernel
theorem dX9_occ_88 : decode cX9_occ 88 = .ok (.istore_n 3, 1) := by decide +kernel
theorem dX9_occ_89 : decode cX9_occ 89 = .ok (.iload_n 3, 1) := by decide +kernel
theorem dX9_occ_90 : decode cX9_occ 90 = .ok (.ifCond .ge 12, 3) := by decide +kernel
theorem dX9_occ_93 : decode cX9_occ 93 = .ok (.aload_n 0, 1) := by decide +kernel
theorem dX9_occ_94 : decode cX9_occ 94 = .ok (.iconst 3, 1) := by decide +kernel
theorem dX9_occ_95 : decode cX9_occ 95 = .ok (.aload_n 0, 1) := by decide +kernel
theorem dX9_occ_96 : decode cX9_occ 96 = .ok (.getfield 190, 3) := by decide +kernel
theorem dX9_occ_99 : decode cX9_occ 99 = .ok (.invokevirtual 193, 3) := by decide +kernel
theorem dX9_occ_102 : decode cX9_occ 102 = .ok (.aload_n 0, 1) := by decide +kernel
theorem dX9_occ_103 : decode cX9_occ 103 = .ok (.invokevirtual 322, 3) := by decide +kernel
theorem dX9_occ_106 : decode cX9_occ 106 = .ok (.aload_n 0, 1) := by decide +kernel
theorem dX9_occ_107 : decode cX9_occ 107 = .ok (.iconst 2, 1) := by decide +kernel
theorem dX9_occ_108 : decode cX9_occ 108 = .ok (.aload_n 0, 1) := by decide +kernel
theorem dX9_occ_109 : decode cX9_occ 109 = .ok (.getfield 305, 3) := by decide +kernel
theorem dX9_occ_112 : decode cX9_occ 112 = .ok (.invokevirtual 317, 3) := by decide +kernel
theorem dX9_occ_115 : decode cX9_occ 115 = .ok (.aload_n 0, 1) := by decide +kernel
theorem dX9_occ_116 : decode cX9_occ 116 = .ok (.getfield 68, 3) := by decide +kernel
theorem dX9_occ_119 : decode cX9_occ 119 = .ok (.aload_n 0, 1) := by decide +kernel
theorem dX9_occ_120 : decode cX9_occ 120 = .ok (.getfield 305, 3) := by decide +kernel
theorem dX9_occ_123 : decode cX9_occ 123 = .ok (.iload_n 2, 1) := by decide +kernel
theorem dX9_occ_124 : decode cX9_occ 124 = .ok (.iastore, 1) := by decide +kernel
theorem dX9_occ_125 : decode cX9_occ 125 = .ok (.aload_n 0, 1) := by decide +kernel
theorem dX9_occ_126 : decode cX9_occ 126 = .ok (.getfield 71, 3) := by decide +kernel
theorem dX9_occ_129 : decode cX9_occ 129 = .ok (.aload_n 0, 1) := by decide +kernel
theorem dX9_occ_130 : decode cX9_occ 130 = .ok (.getfield 305, 3) := by decide +kernel
theorem dX9_occ_133 : decode cX9_occ 133 = .ok (.iload_n 3, 1) := by decide +kernel
theorem dX9_occ_134 : decode cX9_occ 134 = .ok (.iastore, 1) := by decide +kernel
theorem dX9_occ_135 : decode cX9_occ 135 = .ok (.aload_n 0, 1) := by decide +kernel
theorem dX9_occ_136 : decode cX9_occ 136 = .ok (.dup, 1) := by decide +kernel
theorem dX9_occ_137 : decode cX9_occ 137 = .ok (.getfield 305, 3) := by decide +kernel
theorem dX9_occ_140 : decode cX9_occ 140 = .ok (.iconst 1, 1) := by decide +kernel
theorem dX9_occ_141 : decode cX9_occ 141 = .ok (.iadd, 1) := by decide +kernel
theorem dX9_occ_142 : decode cX9_occ 142 = .ok (.putfield 305, 3) := by decide +kernel
theorem dX9_occ_145 : decode cX9_occ 145 = .ok (.aload_n 0, 1) := by decide +kernel
theorem dX9_occ_146 : decode cX9_occ 146 = .ok (.invokevirtual 234, 3) := by decide +kernel
theorem dX9_occ_149 : decode cX9_occ 149 = .ok (.ifCond .eq 7, 3) := by decide +kernel
theorem dX9_occ_152 : decode cX9_occ 152 = .ok (.aload_n 0, 1) := by decide +kernel
theorem dX9_occ_153 : decode cX9_occ 153 = .ok (.invokevirtual 242, 3) := by decide +kernel
theorem dX9_occ_156 : decode cX9_occ 156 = .ok (.return_, 1) := by decide +kernel
theorem dX9_occurs_0 : decode cX9_occurs 0 = .ok (.aload_n 0, 1) := by decide +kernel
theorem dX9_occurs_1 : decode cX9_occurs 1 = .ok (.invokevirtual 234, 3) := by decide +kernel
theorem dX9_occurs_4 : decode cX9_occurs 4 = .ok (.ifCond .eq 11, 3) := by decide +kernel
theorem dX9_occurs_7 : decode cX9_occurs 7 = .ok (.aload_n 0, 1) := by decide +kernel
theorem dX9_occurs_8 : decode cX9_occurs 8 = .ok (.getfield 210, 3) := by decide +kernel
theorem dX9_occurs_11 : decode cX9_occurs 11 = .ok (.iconst 3, 1) := by decide +kernel
theorem dX9_occurs_12 : decode cX9_occurs 12 = .ok (.if_icmp .eq 8, 3) := by decide +kernel
theorem dX9_occurs_15 : decode cX9_occurs 15 = .ok (.aload_n 0, 1) := by decide +kernel
theorem dX9_occurs_16 : decode cX9_occurs 16 = .ok (.invokevirtual 245, 3) := by decide +kernel
theorem dX9_occurs_19 : decode cX9_occurs 19 = .ok (.return_, 1) := by decide +kernel
theorem dX9_occurs_20 : decode cX9_occurs 20 = .ok (.aload_n 0, 1) := by decide +kernel
theorem dX9_occurs_21 : decode cX9_occurs 21 = .ok (.aload_n 0, 1) := by decide +kernel
theorem dX9_occurs_22 : decode cX9_occurs 22 = .ok (.getfield 206, 3) := by decide +kernel
theorem dX9_occurs_25 : decode cX9_occurs 25 = .ok (.ldc2_w 291, 3) := by decide +kernel
theorem dX9_occurs_28 : decode cX9_occurs 28 = .ok (.lcmp, 1) := by decide +kernel
theorem dX9_occurs_29 : decode cX9_occurs 29 = .ok (.ifCond .le 7, 3) := by decide +kernel
theorem dX9_occurs_32 : decode cX9_occurs 32 = .ok (.iconst 4, 1) := by decide +kernel
theorem dX9_occurs_33 : decode cX9_occurs 33 = .ok (.goto 8, 3) := by decide +kernel
theorem dX9_occurs_36 : decode cX9_occurs 36 = .ok (.aload_n 0, 1) := by decide +kernel
theorem dX9_occurs_37 : decode cX9_occurs 37 = .ok (.getfield 206, 3) := by decide +kernel
theorem dX9_occurs_40 : decode cX9_occurs 40 = .ok (.l2i, 1) := by decide +kernel
theorem dX9_occurs_41 : decode cX9_occurs 41 = .ok (.putfield 293, 3) := by decide +kernel
theorem dX9_occurs_44 : decode cX9_occurs 44 = .ok (.aload_n 0, 1) := by decide +kernel
theorem dX9_occurs_45 : decode cX9_occurs 45 = .ok (.getfield 293, 3) := by decide +kernel
theorem dX9_occurs_48 : decode cX9_occurs 48 = .ok (.aload_n 0, 1) := by decide +kernel
theorem dX9_occurs_49 : decode cX9_occurs 49 = .ok (.getfield 44, 3) := by decide +kernel
theorem dX9_occurs_52 : decode cX9_occurs 52 = .ok (.iload_n 1, 1) := by decide +kernel
theorem dX9_occurs_53 : decode cX9_occurs 53 = .ok (.iaload, 1) := by decide +kernel
theorem dX9_occurs_54 : decode cX9_occurs 54 = .ok (.if_icmp .le 13, 3) := by decide +kernel
theorem dX9_occurs_57 : decode cX9_occurs 57 = .ok (.aload_n 0, 1) := by decide +kernel
theorem dX9_occurs_58 : decode cX9_occurs 58 = .ok (.iconst 3, 1) := by decide +kernel
theorem dX9_occurs_59 : decode cX9_occurs 59 = .ok (.aload_n 0, 1) := by decide +kernel
theorem dX9_occurs_60 : decode cX9_occurs 60 = .ok (.getfield 190, 3) := by decide +kernel
theorem dX9_occurs_63 : decode cX9_occurs 63 = .ok (.invokevirtual 193, 3) := by decide +kernel
theorem dX9_occurs_66 : decode cX9_occurs 66 = .ok (.return_, 1) := by decide +kernel
theorem dX9_occurs_67 : decode cX9_occurs 67 = .ok (.aload_n 0, 1) := by decide +kernel
theorem dX9_occurs_68 : decode cX9_occurs 68 = .ok (.invokevirtual 242, 3) := by decide +kernel
theorem dX9_occurs_71 : decode cX9_occurs 71 = .ok (.aload_n 0, 1) := by decide +kernel
theorem dX9_occurs_72 : decode cX9_occurs 72 = .ok (.bipush 46, 2) := by decide +kernel
theorem dX9_occurs_74 : decode cX9_occurs 74 = .ok (.invokevirtual 265, 3) := by decide +kernel
theorem dX9_occurs_77 : decode cX9_occurs 77 = .ok (.aload_n 0, 1) := by decide +kernel
theorem dX9_occurs_78 : decode cX9_occurs 78 = .ok (.invokevirtual 251, 3) := by decide +kernel
theorem dX9_occurs_81 : decode cX9_occurs 81 = .ok (.ifCond .eq 44, 3) := by decide +kernel
theorem dX9_occurs_84 : decode cX9_occurs 84 = .ok (.aload_n 0, 1) := by decide +kernel
theorem dX9_occurs_85 : decode cX9_occurs 85 = .ok (.aload_n 0, 1) := by decide +kernel
theorem dX9_occurs_86 : decode cX9_occurs 86 = .ok (.aload_n 0, 1) := by decide +kernel
theorem dX9_occurs_87 : decode cX9_occurs 87 = .ok (.getfield 47, 3) := by decide +kernel
theorem dX9_occurs_90 : decode cX9_occurs 90 = .ok (.iconst 4, 1) := by decide +kernel
theorem dX9_occurs_91 : decode cX9_occurs 91 = .ok (.iload_n 1, 1) := by decide +kernel
theorem dX9_occurs_92 : decode cX9_occurs 92 = .ok (.imul, 1) := by decide +kernel
theorem dX9_occurs_93 : decode cX9_occurs 93 = .ok (.aload_n 0, 1) := by decide +kernel
theorem dX9_occurs_94 : decode cX9_occurs 94 = .ok (.getfield 293, 3) := by decide +kernel
theorem dX9_occurs_97 : decode cX9_occurs 97 = .ok (.iadd, 1) := by decide +kernel
theorem dX9_occurs_98 : decode cX9_occurs 98 = .ok (.iaload, 1) := by decide +kernel
theorem dX9_occurs_99 : decode cX9_occurs 99 = .ok (.aload_n 0, 1) := by decide +kernel
theorem dX9_occurs_100 : decode cX9_occurs 100 = .ok (.getfield 206, 3) := by decide +kernel
theorem dX9_occurs_103 : decode cX9_occurs 103 = .ok (.invokevirtual 268, 3) := by decide +kernel
theorem dX9_occurs_106 : decode cX9_occurs 106 = .ok (.putfield 296, 3) := by decide +kernel
theorem dX9_occurs_109 : decode cX9_occurs 109 = .ok (.aload_n 0, 1) := by decide +kernel
theorem dX9_occurs_110 : decode cX9_occurs 110 = .ok (.getfield 296, 3) := by decide +kernel
theorem dX9_occurs_113 : decode cX9_occurs 113 = .ok (.ifCond .ge 12, 3) := by decide +kernel
theorem dX9_occurs_116 : decode cX9_occurs 116 = .ok (.aload_n 0, 1) := by decide +kernel
theorem dX9_occurs_117 : decode cX9_occurs 117 = .ok (.iconst 3, 1) := by decide +kernel
theorem dX9_occurs_118 : decode cX9_occurs 118 = .ok (.aload_n 0, 1) := by decide +kernel
theorem dX9_occurs_119 : decode cX9_occurs 119 = .ok (.getfield 190, 3) := by decide +kernel
theorem dX9_occurs_122 : decode cX9_occurs 122 = .ok (.invokevirtual 193, 3) := by decide +kernel
theorem dX9_occurs_125 : decode cX9_occurs 125 = .ok (.return_, 1) := by decide +kernel
theorem dX9_order_0 : decode cX9_order 0 = .ok (.aload_n 0, 1) := by decide +kernel
theorem dX9_order_1 : decode cX9_order 1 = .ok (.getfield 62, 3) := by decide +kernel
theorem dX9_order_4 : decode cX9_order 4 = .ok (.aload_n 0, 1) := by decide +kernel
theorem dX9_order_5 : decode cX9_order 5 = .ok (.getfield 302, 3) := by decide +kernel
theorem dX9_order_8 : decode cX9_order 8 = .ok (.iload_n 1, 1) := by decide +kernel
theorem dX9_order_9 : decode cX9_order 9 = .ok (.iastore, 1) := by decide +kernel
theorem dX9_order_10 : decode cX9_order 10 = .ok (.aload_n 0, 1) := by decide +kernel
theorem dX9_order_11 : decode cX9_order 11 = .ok (.getfield 65, 3) := by decide +kernel
theorem dX9_order_14 : decode cX9_order 14 = .ok (.aload_n 0, 1) := by decide +kernel
theorem dX9_order_15 : decode cX9_order 15 = .ok (.getfield 302, 3) := by decide +kernel
theorem dX9_order_18 : decode cX9_order 18 = .ok (.iload_n 2, 1) := by decide +kernel
theorem dX9_order_19 : decode cX9_order 19 = .ok (.iastore, 1) := by decide +kernel
theorem dX9_order_20 : decode cX9_order 20 = .ok (.aload_n 0, 1) := by decide +kernel
theorem dX9_order_21 : decode cX9_order 21 = .ok (.dup, 1) := by decide +kernel
theorem dX9_order_22 : decode cX9_order 22 = .ok (.getfield 302, 3) := by decide +kernel
theorem dX9_order_25 : decode cX9_order 25 = .ok (.iconst 1, 1) := by decide +kernel
theorem dX9_order_26 : decode cX9_order 26 = .ok (.iadd, 1) := by decide +kernel
theorem dX9_order_27 : decode cX9_order 27 = .ok (.putfield 302, 3) := by decide +kernel
theorem dX9_order_30 : decode cX9_order 30 = .ok (.return_, 1) := by decide +kernel
theorem dX9_order__0 : decode cX9_order_ 0 = .ok (.iload_n 1, 1) := by decide +kernel
theorem dX9_order__1 : decode cX9_order_ 1 = .ok (.iconst 0, 1) := by decide +kernel
theorem dX9_order__2 : decode cX9_order_ 2 = .ok (.aload_n 0, 1) := by decide +kernel
theorem dX9_order__3 : decode cX9_order_ 3 = .ok (.getfield 399, 3) := by decide +kernel
theorem dX9_order__6 : decode cX9_order_ 6 = .ok (.iconst 1, 1) := by decide +kernel
theorem dX9_order__7 : decode cX9_order_ 7 = .ok (.isub, 1) := by decide +kernel
theorem dX9_order__8 : decode cX9_order_ 8 = .ok (.invokestatic 180, 3) := by decide +kernel
theorem dX9_order__11 : decode cX9_order_ 11 = .ok (.ifCond .eq 12, 3) := by decide +kernel
theorem dX9_order__14 : decode cX9_order_ 14 = .ok (.aload_n 0, 1) := by decide +kernel
theorem dX9_order__15 : decode cX9_order_ 15 = .ok (.getfield 146, 3) := by decide +kernel
theorem dX9_order__18 : decode cX9_order_ 18 = .ok (.iload_n 1, 1) := by decide +kernel
theorem dX9_order__19 : decode cX9_order_ 19 = .ok (.iaload, 1) := by decide +kernel
theorem dX9_order__20 : decode cX9_order_ 20 = .ok (.goto 4, 3) := by decide +kernel
theorem dX9_order__23 : decode cX9_order_ 23 = .ok (.iconst (-1), 1) := by decide +kernel
theorem dX9_order__24 : decode cX9_order_ 24 = .ok (.ireturn, 1) := by decide +kernel
theorem dX9_own_0 : decode cX9_own 0 = .ok (.iload_n 1, 1) := by decide +kernel
theorem dX9_own_1 : decode cX9_own 1 = .ok (.iconst 0, 1) := by decide +kernel
theorem dX9_own_2 : decode cX9_own 2 = .ok (.aload_n 0, 1) := by decide +kernel
theorem dX9_own_3 : decode cX9_own 3 = .ok (.getfield 396, 3) := by decide +kernel
theorem dX9_own_6 : decode cX9_own 6 = .ok (.iconst 1, 1) := by decide +kernel
theorem dX9_own_7 : decode cX9_own 7 = .ok (.isub, 1) := by decide +kernel
theorem dX9_own_8 : decode cX9_own 8 = .ok (.invokestatic 180, 3) := by decide +kernel
theorem dX9_own_11 : decode cX9_own 11 = .ok (.ifCond .ne 5, 3) := by decide +kernel
theorem dX9_own_14 : decode cX9_own 14 = .ok (.iconst 0, 1) := by decide +kernel
theorem dX9_own_15 : decode cX9_own 15 = .ok (.ireturn, 1) := by decide +kernel
theorem dX9_own_16 : decode cX9_own 16 = .ok (.aload_n 0, 1) := by decide +kernel
theorem dX9_own_17 : decode cX9_own 17 = .ok (.getfield 89, 3) := by decide +kernel
theorem dX9_own_20 : decode cX9_own 20 = .ok (.iload_n 1, 1) := by decide +kernel
theorem dX9_own_21 : decode cX9_own 21 = .ok (.iload_n 2, 1) := by decide +kernel
theorem dX9_own_22 : decode cX9_own 22 = .ok (.iastore, 1) := by decide +kernel
theorem dX9_own_23 : decode cX9_own 23 = .ok (.aload_n 0, 1) := by decide +kernel
theorem dX9_own_24 : decode cX9_own 24 = .ok (.invokevirtual 412, 3) := by decide +kernel
theorem dX9_own_27 : decode cX9_own 27 = .ok (.iconst 1, 1) := by decide +kernel
theorem dX9_own_28 : decode cX9_own 28 = .ok (.ireturn, 1) := by decide +kernel
theorem dX9_part_0 : decode cX9_part 0 = .ok (.aload_n 0, 1) := by decide +kernel
theorem dX9_part_1 : decode cX9_part 1 = .ok (.bipush 45, 2) := by decide +kernel
theorem dX9_part_3 : decode cX9_part 3 = .ok (.invokevirtual 238, 3) := by decide +kernel
theorem dX9_part_6 : decode cX9_part 6 = .ok (.ifCond .eq 20, 3) := by decide +kernel
theorem dX9_part_9 : decode cX9_part 9 = .ok (.aload_n 0, 1) := by decide +kernel
theorem dX9_part_10 : decode cX9_part 10 = .ok (.invokevirtual 331, 3) := by decide +kernel
theorem dX9_part_13 : decode cX9_part 13 = .ok (.aload_n 0, 1) := by decide +kernel
theorem dX9_part_14 : decode cX9_part 14 = .ok (.iconst 5, 1) := by decide +kernel
theorem dX9_part_15 : decode cX9_part 15 = .ok (.iconst 0, 1) := by decide +kernel
theorem dX9_part_16 : decode cX9_part 16 = .ok (.invokevirtual 325, 3) := by decide +kernel
theorem dX9_part_19 : decode cX9_part 19 = .ok (.aload_n 0, 1) := by decide +kernel
theorem dX9_part_20 : decode cX9_part 20 = .ok (.invokevirtual 334, 3) := by decide +kernel
theorem dX9_part_23 : decode cX9_part 23 = .ok (.goto 108, 3) := by decide +kernel
theorem dX9_part_26 : decode cX9_part 26 = .ok (.aload_n 0, 1) := by decide +kernel
theorem dX9_part_27 : decode cX9_part 27 = .ok (.bipush 40, 2) := by decide +kernel
theorem dX9_part_29 : decode cX9_part 29 = .ok (.invokevirtual 238, 3) := by decide +kernel
theorem dX9_part_32 : decode cX9_part 32 = .ok (.ifCond .eq 25, 3) := by decide +kernel
theorem dX9_part_35 : decode cX9_part 35 = .ok (.aload_n 0, 1) := by decide +kernel
theorem dX9_part_36 : decode cX9_part 36 = .ok (.invokevirtual 331, 3) := by decide +kernel
theorem dX9_part_39 : decode cX9_part 39 = .ok (.aload_n 0, 1) := by decide +kernel
theorem dX9_part_40 : decode cX9_part 40 = .ok (.iconst 4, 1) := by decide +kernel
theorem dX9_part_41 : decode cX9_part 41 = .ok (.iconst 0, 1) := by decide +kernel
theorem dX9_part_42 : decode cX9_part 42 = .ok (.invokevirtual 325, 3) := by decide +kernel
theorem dX9_part_45 : decode cX9_part 45 = .ok (.aload_n 0, 1) := by decide +kernel
theorem dX9_part_46 : decode cX9_part 46 = .ok (.invokevirtual 334, 3) := by decide +kernel
theorem dX9_part_49 : decode cX9_part 49 = .ok (.aload_n 0, 1) := by decide +kernel
theorem dX9_part_50 : decode cX9_part 50 = .ok (.iconst 0, 1) := by decide +kernel
theorem dX9_part_51 : decode cX9_part 51 = .ok (.putfield 328, 3) := by decide +kernel
theorem dX9_part_54 : decode cX9_part 54 = .ok (.goto 77, 3) := by decide +kernel
theorem dX9_part_57 : decode cX9_part 57 = .ok (.aload_n 0, 1) := by decide +kernel
theorem dX9_part_58 : decode cX9_part 58 = .ok (.iconst 5, 1) := by decide +kernel
theorem dX9_part_59 : decode cX9_part 59 = .ok (.invokevirtual 258, 3) := by decide +kernel
theorem dX9_part_62 : decode cX9_part 62 = .ok (.ifCond .eq 21, 3) := by decide +kernel
theorem dX9_part_65 : decode cX9_part 65 = .ok (.aload_n 0, 1) := by decide +kernel
theorem dX9_part_66 : decode cX9_part 66 = .ok (.iconst 1, 1) := by decide +kernel
theorem dX9_part_67 : decode cX9_part 67 = .ok (.iconst 0, 1) := by decide +kernel
theorem dX9_part_68 : decode cX9_part 68 = .ok (.invokevirtual 317, 3) := by decide +kernel
theorem dX9_part_71 : decode cX9_part 71 = .ok (.aload_n 0, 1) := by decide +kernel
theorem dX9_part_72 : decode cX9_part 72 = .ok (.invokevirtual 334, 3) := by decide +kernel
theorem dX9_part_75 : decode cX9_part 75 = .ok (.aload_n 0, 1) := by decide +kernel
theorem dX9_part_76 : decode cX9_part 76 = .ok (.iconst 2, 1) := by decide +kernel
theorem dX9_part_77 : decode cX9_part 77 = .ok (.putfield 328, 3) := by decide +kernel
theorem dX9_part_80 : decode cX9_part 80 = .ok (.goto 51, 3) := by decide +kernel
theorem dX9_part_83 : decode cX9_part 83 = .ok (.aload_n 0, 1) := by decide +kernel
theorem dX9_part_84 : decode cX9_part 84 = .ok (.invokevirtual 234, 3) := by decide +kernel
theorem dX9_part_87 : decode cX9_part 87 = .ok (.ifCond .eq 40, 3) := by decide +kernel
theorem dX9_part_90 : decode cX9_part 90 = .ok (.aload_n 0, 1) := by decide +kernel
theorem dX9_part_91 : decode cX9_part 91 = .ok (.getfield 210, 3) := by decide +kernel
theorem dX9_part_94 : decode cX9_part 94 = .ok (.iconst 3, 1) := by decide +kernel
theorem dX9_part_95 : decode cX9_part 95 = .ok (.if_icmp .ne 32, 3) := by decide +kernel
theorem dX9_part_98 : decode cX9_part 98 = .ok (.aload_n 0, 1) := by decide +kernel
theorem dX9_part_99 : decode cX9_part 99 = .ok (.bipush 46, 2) := by decide +kernel
theorem dX9_part_101 : decode cX9_part 101 = .ok (.invokevirtual 346, 3) := by decide +kernel
theorem dX9_part_104 : decode cX9_part 104 = .ok (.ifCond .eq 11, 3) := by decide +kernel
theorem dX9_part_107 : decode cX9_part 107 = .ok (.aload_n 0, 1) := by decide +kernel
theorem dX9_part_108 : decode cX9_part 108 = .ok (.iload_n 1, 1) := by decide +kernel
theorem dX9_part_109 : decode cX9_part 109 = .ok (.invokevirtual 349, 3) := by decide +kernel
theorem dX9_part_112 : decode cX9_part 112 = .ok (.goto 7, 3) := by decide +kernel
theorem dX9_part_115 : decode cX9_part 115 = .ok (.aload_n 0, 1) := by decide +kernel
theorem dX9_part_116 : decode cX9_part 116 = .ok (.invokevirtual 352, 3) := by decide +kernel
theorem dX9_part_119 : decode cX9_part 119 = .ok (.aload_n 0, 1) := by decide +kernel
theorem dX9_part_120 : decode cX9_part 120 = .ok (.iconst 2, 1) := by decide +kernel
theorem dX9_part_121 : decode cX9_part 121 = .ok (.putfield 328, 3) := by decide +kernel
theorem dX9_part_124 : decode cX9_part 124 = .ok (.goto 7, 3) := by decide +kernel
theorem dX9_part_127 : decode cX9_part 127 = .ok (.aload_n 0, 1) := by decide +kernel
theorem dX9_part_128 : decode cX9_part 128 = .ok (.invokevirtual 245, 3) := by decide +kernel
theorem dX9_part_131 : decode cX9_part 131 = .ok (.return_, 1) := by decide +kernel
theorem dX9_passes_0 : decode cX9_passes 0 = .ok (.aload_n 0, 1) := by decide +kernel
theorem dX9_passes_1 : decode cX9_passes 1 = .ok (.invokevirtual 322, 3) := by decide +kernel
theorem dX9_passes_4 : decode cX9_passes 4 = .ok (.aload_n 0, 1) := by decide +kernel
theorem dX9_passes_5 : decode cX9_passes 5 = .ok (.invokevirtual 234, 3) := by decide +kernel
theorem dX9_passes_8 : decode cX9_passes 8 = .ok (.ifCond .eq 7, 3) := by decide +kernel
theorem dX9_passes_11 : decode cX9_passes 11 = .ok (.aload_n 0, 1) := by decide +kernel
theorem dX9_passes_12 : decode cX9_passes 12 = .ok (.invokevirtual 242, 3) := by decide +kernel
theorem dX9_passes_15 : decode cX9_passes 15 = .ok (.return_, 1) := by decide +kernel
theorem dX9_place_0 : decode cX9_place 0 = .ok (.aload_n 0, 1) := by decide +kernel
theorem dX9_place_1 : decode cX9_place 1 = .ok (.aload_n 0, 1) := by decide +kernel
theorem dX9_place_2 : decode cX9_place 2 = .ok (.getfield 206, 3) := by decide +kernel
theorem dX9_place_5 : decode cX9_place 5 = .ok (.invokevirtual 254, 3) := by decide +kernel
theorem dX9_place_8 : decode cX9_place 8 = .ok (.istore_n 3, 1) := by decide +kernel
theorem dX9_place_9 : decode cX9_place 9 = .ok (.iload_n 3, 1) := by decide +kernel
theorem dX9_place_10 : decode cX9_place 10 = .ok (.ifCond .ge 13, 3) := by decide +kernel
theorem dX9_place_13 : decode cX9_place 13 = .ok (.aload_n 0, 1) := by decide +kernel
theorem dX9_place_14 : decode cX9_place 14 = .ok (.iconst 3, 1) := by decide +kernel
theorem dX9_place_15 : decode cX9_place 15 = .ok (.aload_n 0, 1) := by decide +kernel
theorem dX9_place_16 : decode cX9_place 16 = .ok (.getfield 190, 3) := by decide +kernel
theorem dX9_place_19 : decode cX9_place 19 = .ok (.invokevirtual 193, 3) := by decide +kernel
theorem dX9_place_22 : decode cX9_place 22 = .ok (.return_, 1) := by decide +kernel
theorem dX9_place_23 : decode cX9_place 23 = .ok (.aload_n 0, 1) := by decide +kernel
theorem dX9_place_24 : decode cX9_place 24 = .ok (.getfield 47, 3) := by decide +kernel
theorem dX9_place_27 : decode cX9_place 27 = .ok (.iconst 4, 1) := by decide +kernel
theorem dX9_place_28 : decode cX9_place 28 = .ok (.iload_n 1, 1) := by decide +kernel
theorem dX9_place_29 : decode cX9_place 29 = .ok (.imul, 1) := by decide +kernel
theorem dX9_place_30 : decode cX9_place 30 = .ok (.iload_n 2, 1) := by decide +kernel
theorem dX9_place_31 : decode cX9_place 31 = .ok (.iadd, 1) := by decide +kernel
theorem dX9_place_32 : decode cX9_place 32 = .ok (.iload_n 3, 1) := by decide +kernel
theorem dX9_place_33 : decode cX9_place 33 = .ok (.iastore, 1) := by decide +kernel
theorem dX9_place_34 : decode cX9_place 34 = .ok (.aload_n 0, 1) := by decide +kernel
theorem dX9_place_35 : decode cX9_place 35 = .ok (.invokevirtual 242, 3) := by decide +kernel
theorem dX9_place_38 : decode cX9_place 38 = .ok (.return_, 1) := by decide +kernel
theorem dX9_plains_0 : decode cX9_plains 0 = .ok (.iconst 0, 1) := by decide +kernel
theorem dX9_plains_1 : decode cX9_plains 1 = .ok (.istore_n 1, 1) := by decide +kernel
theorem dX9_plains_2 : decode cX9_plains 2 = .ok (.iload_n 1, 1) := by decide +kernel
theorem dX9_plains_3 : decode cX9_plains 3 = .ok (.bipush 12, 2) := by decide +kernel
theorem dX9_plains_5 : decode cX9_plains 5 = .ok (.if_icmp .ge 16, 3) := by decide +kernel
theorem dX9_plains_8 : decode cX9_plains 8 = .ok (.aload_n 0, 1) := by decide +kernel
theorem dX9_plains_9 : decode cX9_plains 9 = .ok (.getfield 128, 3) := by decide +kernel
theorem dX9_plains_12 : decode cX9_plains 12 = .ok (.iload_n 1, 1) := by decide +kernel
theorem dX9_plains_13 : decode cX9_plains 13 = .ok (.iconst 0, 1) := by decide +kernel
theorem dX9_plains_14 : decode cX9_plains 14 = .ok (.iastore, 1) := by decide +kernel
theorem dX9_plains_15 : decode cX9_plains 15 = .ok (.iinc 1 1, 3) := by decide +kernel
theorem dX9_plains_18 : decode cX9_plains 18 = .ok (.goto (-16), 3) := by decide +kernel
theorem dX9_plains_21 : decode cX9_plains 21 = .ok (.iconst 1, 1) := by decide +kernel
theorem dX9_plains_22 : decode cX9_plains 22 = .ok (.istore_n 1, 1) := by decide +kernel
theorem dX9_plains_23 : decode cX9_plains 23 = .ok (.iload_n 1, 1) := by decide +kernel
theorem dX9_plains_24 : decode cX9_plains 24 = .ok (.ifCond .eq 130, 3) := by decide +kernel
theorem dX9_plains_27 : decode cX9_plains 27 = .ok (.iconst 0, 1) := by decide +kernel
theorem dX9_plains_28 : decode cX9_plains 28 = .ok (.istore_n 1, 1) := by decide +kernel
theorem dX9_plains_29 : decode cX9_plains 29 = .ok (.iconst 0, 1) := by decide +kernel
theorem dX9_plains_30 : decode cX9_plains 30 = .ok (.istore_n 2, 1) := by decide +kernel
theorem dX9_plains_31 : decode cX9_plains 31 = .ok (.iload_n 2, 1) := by decide +kernel
theorem dX9_plains_32 : decode cX9_plains 32 = .ok (.aload_n 0, 1) := by decide +kernel
theorem dX9_plains_33 : decode cX9_plains 33 = .ok (.getfield 272, 3) := by decide +kernel
theorem dX9_plains_36 : decode cX9_plains 36 = .ok (.if_icmp .ge 115, 3) := by decide +kernel
theorem dX9_plains_39 : decode cX9_plains 39 = .ok (.iconst 1, 1) := by decide +kernel
theorem dX9_plains_40 : decode cX9_plains 40 = .ok (.istore_n 3, 1) := by decide +kernel
theorem dX9_plains_41 : decode cX9_plains 41 = .ok (.iload_n 3, 1) := by decide +kernel
theorem dX9_plains_42 : decode cX9_plains 42 = .ok (.aload_n 0, 1) := by decide +kernel
theorem dX9_plains_43 : decode cX9_plains 43 = .ok (.getfield 44, 3) := by decide +kernel
theorem dX9_plains_46 : decode cX9_plains 46 = .ok (.iload_n 2, 1) := by decide +kernel
theorem dX9_plains_47 : decode cX9_plains 47 = .ok (.iaload, 1) := by decide +kernel
theorem dX9_plains_48 : decode cX9_plains 48 = .ok (.if_icmp .gt 30, 3) := by decide +kernel
theorem dX9_plains_51 : decode cX9_plains 51 = .ok (.aload_n 0, 1) := by decide +kernel
theorem dX9_plains_52 : decode cX9_plains 52 = .ok (.getfield 140, 3) := by decide +kernel
theorem dX9_plains_55 : decode cX9_plains 55 = .ok (.iload_n 3, 1) := by decide +kernel
theorem dX9_plains_56 : decode cX9_plains 56 = .ok (.aload_n 0, 1) := by decide +kernel
theorem dX9_plains_57 : decode cX9_plains 57 = .ok (.getfield 128, 3) := by decide +kernel
theorem dX9_plains_60 : decode cX9_plains 60 = .ok (.aload_n 0, 1) := by decide +kernel
theorem dX9_plains_61 : decode cX9_plains 61 = .ok (.getfield 47, 3) := by decide +kernel
theorem dX9_plains_64 : decode cX9_plains 64 = .ok (.iconst 4, 1) := by decide +kernel
theorem dX9_plains_65 : decode cX9_plains 65 = .ok (.iload_n 2, 1) := by decide +kernel
theorem dX9_plains_66 : decode cX9_plains 66 = .ok (.imul, 1) := by decide +kernel
theorem dX9_plains_67 : decode cX9_plains 67 = .ok (.iload_n 3, 1) := by decide +kernel
theorem dX9_plains_68 : decode cX9_plains 68 = .ok (.iadd, 1) := by decide +kernel
theorem dX9_plains_69 : decode cX9_plains 69 = .ok (.iaload, 1) := by decide +kernel
theorem dX9_plains_70 : decode cX9_plains 70 = .ok (.iaload, 1) := by decide +kernel
theorem dX9_plains_71 : decode cX9_plains 71 = .ok (.iastore, 1) := by decide +kernel
theorem dX9_plains_72 : decode cX9_plains 72 = .ok (.iinc 3 1, 3) := by decide +kernel
theorem dX9_plains_75 : decode cX9_plains 75 = .ok (.goto (-34), 3) := by decide +kernel
theorem dX9_plains_78 : decode cX9_plains 78 = .ok (.aload_n 0, 1) := by decide +kernel
theorem dX9_plains_79 : decode cX9_plains 79 = .ok (.iload_n 2, 1) := by decide +kernel
theorem dX9_plains_80 : decode cX9_plains 80 = .ok (.invokevirtual 437, 3) := by decide +kernel
theorem dX9_plains_83 : decode cX9_plains 83 = .ok (.aload_n 0, 1) := by decide +kernel
theorem dX9_plains_84 : decode cX9_plains 84 = .ok (.getfield 131, 3) := by decide +kernel
theorem dX9_plains_87 : decode cX9_plains 87 = .ok (.iload_n 2, 1) := by decide +kernel
theorem dX9_plains_88 : decode cX9_plains 88 = .ok (.aload_n 0, 1) := by decide +kernel
theorem dX9_plains_89 : decode cX9_plains 89 = .ok (.invokevirtual 440, 3) := by decide +kernel
theorem dX9_plains_92 : decode cX9_plains 92 = .ok (.bastore, 1) := by decide +kernel
theorem dX9_plains_93 : decode cX9_plains 93 = .ok (.aload_n 0, 1) := by decide +kernel
theorem dX9_plains_94 : decode cX9_plains 94 = .ok (.getfield 47, 3) := by decide +kernel
theorem dX9_plains_97 : decode cX9_plains 97 = .ok (.iconst 4, 1) := by decide +kernel
theorem dX9_plains_98 : decode cX9_plains 98 = .ok (.iload_n 2, 1) := by decide +kernel
theorem dX9_plains_99 : decode cX9_plains 99 = .ok (.imul, 1) := by decide +kernel
theorem dX9_plains_100 : decode cX9_plains 100 = .ok (.iaload, 1) := by decide +kernel
theorem dX9_plains_101 : decode cX9_plains 101 = .ok (.istore_n 3, 1) := by decide +kernel
theorem dX9_plains_102 : decode cX9_plains 102 = .ok (.aload_n 0, 1) := by decide +kernel
theorem dX9_plains_103 : decode cX9_plains 103 = .ok (.getfield 128, 3) := by decide +kernel
theorem dX9_plains_106 : decode cX9_plains 106 = .ok (.iload_n 3, 1) := by decide +kernel
theorem dX9_plains_107 : decode cX9_plains 107 = .ok (.iaload, 1) := by decide +kernel
theorem dX9_plains_108 : decode cX9_plains 108 = .ok (.aload_n 0, 1) := by decide +kernel
theorem dX9_plains_109 : decode cX9_plains 109 = .ok (.iload_n 2, 1) := by decide +kernel
theorem dX9_plains_110 : decode cX9_plains 110 = .ok (.invokevirtual 443, 3) := by decide +kernel
theorem dX9_plains_113 : decode cX9_plains 113 = .ok (.ior, 1) := by decide +kernel
theorem dX9_plains_114 : decode cX9_plains 114 = .ok (.istore 4, 2) := by decide +kernel
theorem dX9_plains_116 : decode cX9_plains 116 = .ok (.iload_n 1, 1) := by decide +kernel
theorem dX9_plains_117 : decode cX9_plains 117 = .ok (.ifCond .ne 14, 3) := by decide +kernel
theorem dX9_plains_120 : decode cX9_plains 120 = .ok (.iload 4, 2) := by decide +kernel
theorem dX9_plains_122 : decode cX9_plains 122 = .ok (.aload_n 0, 1) := by decide +kernel
theorem dX9_plains_123 : decode cX9_plains 123 = .ok (.getfield 128, 3) := by decide +kernel
theorem dX9_plains_126 : decode cX9_plains 126 = .ok (.iload_n 3, 1) := by decide +kernel
theorem dX9_plains_127 : decode cX9_plains 127 = .ok (.iaload, 1) := by decide +kernel
theorem dX9_plains_128 : decode cX9_plains 128 = .ok (.if_icmp .eq 7, 3) := by decide +kernel
theorem dX9_plains_131 : decode cX9_plains 131 = .ok (.iconst 1, 1) := by decide +kernel
theorem dX9_plains_132 : decode cX9_plains 132 = .ok (.goto 4, 3) := by decide +kernel
theorem dX9_plains_135 : decode cX9_plains 135 = .ok (.iconst 0, 1) := by decide +kernel
theorem dX9_plains_136 : decode cX9_plains 136 = .ok (.istore_n 1, 1) := by decide +kernel
theorem dX9_plains_137 : decode cX9_plains 137 = .ok (.aload_n 0, 1) := by decide +kernel
theorem dX9_plains_138 : decode cX9_plains 138 = .ok (.getfield 128, 3) := by decide +kernel
theorem dX9_plains_141 : decode cX9_plains 141 = .ok (.iload_n 3, 1) := by decide +kernel
theorem dX9_plains_142 : decode cX9_plains 142 = .ok (.iload 4, 2) := by decide +kernel
theorem dX9_plains_144 : decode cX9_plains 144 = .ok (.iastore, 1) := by decide +kernel
theorem dX9_plains_145 : decode cX9_plains 145 = .ok (.iinc 2 1, 3) := by decide +kernel
theorem dX9_plains_148 : decode cX9_plains 148 = .ok (.goto (-117), 3) := by decide +kernel
theorem dX9_plains_151 : decode cX9_plains 151 = .ok (.goto (-128), 3) := by decide +kernel
theorem dX9_plains_154 : decode cX9_plains 154 = .ok (.iconst 0, 1) := by decide +kernel
theorem dX9_plains_155 : decode cX9_plains 155 = .ok (.istore_n 2, 1) := by decide +kernel
theorem dX9_plains_156 : decode cX9_plains 156 = .ok (.iload_n 2, 1) := by decide +kernel
theorem dX9_plains_157 : decode cX9_plains 157 = .ok (.aload_n 0, 1) := by decide +kernel
theorem dX9_plains_158 : decode cX9_plains 158 = .ok (.getfield 272, 3) := by decide +kernel
theorem dX9_plains_161 : decode cX9_plains 161 = .ok (.if_icmp .ge 63, 3) := by decide +kernel
theorem dX9_plains_164 : decode cX9_plains 164 = .ok (.iconst 1, 1) := by decide +kernel
theorem dX9_plains_165 : decode cX9_plains 165 = .ok (.istore_n 3, 1) := by decide +kernel
theorem dX9_plains_166 : decode cX9_plains 166 = .ok (.iload_n 3, 1) := by decide +kernel
theorem dX9_plains_167 : decode cX9_plains 167 = .ok (.aload_n 0, 1) := by decide +kernel
theorem dX9_plains_168 : decode cX9_plains 168 = .ok (.getfield 44, 3) := by decide +kernel
theorem dX9_plains_171 : decode cX9_plains 171 = .ok (.iload_n 2, 1) := by decide +kernel
theorem dX9_plains_172 : decode cX9_plains 172 = .ok (.iaload, 1) := by decide +kernel
theorem dX9_plains_173 : decode cX9_plains 173 = .ok (.if_icmp .gt 30, 3) := by decide +kernel
theorem dX9_plains_176 : decode cX9_plains 176 = .ok (.aload_n 0, 1) := by decide +kernel
theorem dX9_plains_177 : decode cX9_plains 177 = .ok (.getfield 140, 3) := by decide +kernel
theorem dX9_plains_180 : decode cX9_plains 180 = .ok (.iload_n 3, 1) := by decide +kernel
theorem dX9_plains_181 : decode cX9_plains 181 = .ok (.aload_n 0, 1) := by decide +kernel
theorem dX9_plains_182 : decode cX9_plains 182 = .ok (.getfield 128, 3) := by decide +kernel
theorem dX9_plains_185 : decode cX9_plains 185 = .ok (.aload_n 0, 1) := by decide +kernel
theorem dX9_plains_186 : decode cX9_plains 186 = .ok (.getfield 47, 3) := by decide +kernel
theorem dX9_plains_189 : decode cX9_plains 189 = .ok (.iconst 4, 1) := by decide +kernel
theorem dX9_plains_190 : decode cX9_plains 190 = .ok (.iload_n 2, 1) := by decide +kernel
theorem dX9_plains_191 : decode cX9_plains 191 = .ok (.imul, 1) := by decide +kernel
theorem dX9_plains_192 : decode cX9_plains 192 = .ok (.iload_n 3, 1) := by decide +kernel
theorem dX9_plains_193 : decode cX9_plains 193 = .ok (.iadd, 1) := by decide +kernel
theorem dX9_plains_194 : decode cX9_plains 194 = .ok (.iaload, 1) := by decide +kernel
theorem dX9_plains_195 : decode cX9_plains 195 = .ok (.iaload, 1) := by decide +kernel
theorem dX9_plains_196 : decode cX9_plains 196 = .ok (.iastore, 1) := by decide +kernel
theorem dX9_plains_197 : decode cX9_plains 197 = .ok (.iinc 3 1, 3) := by decide +kernel
theorem dX9_plains_200 : decode cX9_plains 200 = .ok (.goto (-34), 3) := by decide +kernel
theorem dX9_plains_203 : decode cX9_plains 203 = .ok (.aload_n 0, 1) := by decide +kernel
theorem dX9_plains_204 : decode cX9_plains 204 = .ok (.iload_n 2, 1) := by decide +kernel
theorem dX9_plains_205 : decode cX9_plains 205 = .ok (.invokevirtual 437, 3) := by decide +kernel
theorem dX9_plains_208 : decode cX9_plains 208 = .ok (.aload_n 0, 1) := by decide +kernel
theorem dX9_plains_209 : decode cX9_plains 209 = .ok (.getfield 131, 3) := by decide +kernel
theorem dX9_plains_212 : decode cX9_plains 212 = .ok (.iload_n 2, 1) := by decide +kernel
theorem dX9_plains_213 : decode cX9_plains 213 = .ok (.aload_n 0, 1) := by decide +kernel
theorem dX9_plains_214 : decode cX9_plains 214 = .ok (.invokevirtual 440, 3) := by decide +kernel
theorem dX9_plains_217 : decode cX9_plains 217 = .ok (.bastore, 1) := by decide +kernel
theorem dX9_plains_218 : decode cX9_plains 218 = .ok (.iinc 2 1, 3) := by decide +kernel
theorem dX9_plains_221 : decode cX9_plains 221 = .ok (.goto (-65), 3) := by decide +kernel
theorem dX9_plains_224 : decode cX9_plains 224 = .ok (.return_, 1) := by decide +kernel
theorem dX9_put_0 : decode cX9_put 0 = .ok (.aload_n 0, 1) := by decide +kernel
theorem dX9_put_1 : decode cX9_put 1 = .ok (.getfield 7, 3) := by decide +kernel
theorem dX9_put_4 : decode cX9_put 4 = .ok (.aload_n 0, 1) := by decide +kernel
theorem dX9_put_5 : decode cX9_put 5 = .ok (.getfield 173, 3) := by decide +kernel
theorem dX9_put_8 : decode cX9_put 8 = .ok (.iload_n 1, 1) := by decide +kernel
theorem dX9_put_9 : decode cX9_put 9 = .ok (.bipush 24, 2) := by decide +kernel
theorem dX9_put_11 : decode cX9_put 11 = .ok (.ishr, 1) := by decide +kernel
theorem dX9_put_12 : decode cX9_put 12 = .ok (.i2b, 1) := by decide +kernel
theorem dX9_put_13 : decode cX9_put 13 = .ok (.bastore, 1) := by decide +kernel
theorem dX9_put_14 : decode cX9_put 14 = .ok (.aload_n 0, 1) := by decide +kernel
theorem dX9_put_15 : decode cX9_put 15 = .ok (.getfield 7, 3) := by decide +kernel
theorem dX9_put_18 : decode cX9_put 18 = .ok (.aload_n 0, 1) := by decide +kernel
theorem dX9_put_19 : decode cX9_put 19 = .ok (.getfield 173, 3) := by decide +kernel
theorem dX9_put_22 : decode cX9_put 22 = .ok (.iconst 1, 1) := by decide +kernel
theorem dX9_put_23 : decode cX9_put 23 = .ok (.iadd, 1) := by decide +kernel
theorem dX9_put_24 : decode cX9_put 24 = .ok (.iload_n 1, 1) := by decide +kernel
theorem dX9_put_25 : decode cX9_put 25 = .ok (.bipush 16, 2) := by decide +kernel
theorem dX9_put_27 : decode cX9_put 27 = .ok (.ishr, 1) := by decide +kernel
theorem dX9_put_28 : decode cX9_put 28 = .ok (.i2b, 1) := by decide +kernel
theorem dX9_put_29 : decode cX9_put 29 = .ok (.bastore, 1) := by decide +kernel
theorem dX9_put_30 : decode cX9_put 30 = .ok (.aload_n 0, 1) := by decide +kernel
theorem dX9_put_31 : decode cX9_put 31 = .ok (.getfield 7, 3) := by decide +kernel
theorem dX9_put_34 : decode cX9_put 34 = .ok (.aload_n 0, 1) := by decide +kernel
theorem dX9_put_35 : decode cX9_put 35 = .ok (.getfield 173, 3) := by decide +kernel
theorem dX9_put_38 : decode cX9_put 38 = .ok (.iconst 2, 1) := by decide +kernel
theorem dX9_put_39 : decode cX9_put 39 = .ok (.iadd, 1) := by decide +kernel
theorem dX9_put_40 : decode cX9_put 40 = .ok (.iload_n 1, 1) := by decide +kernel
theorem dX9_put_41 : decode cX9_put 41 = .ok (.bipush 8, 2) := by decide +kernel
theorem dX9_put_43 : decode cX9_put 43 = .ok (.ishr, 1) := by decide +kernel
theorem dX9_put_44 : decode cX9_put 44 = .ok (.i2b, 1) := by decide +kernel
theorem dX9_put_45 : decode cX9_put 45 = .ok (.bastore, 1) := by decide +kernel
theorem dX9_put_46 : decode cX9_put 46 = .ok (.aload_n 0, 1) := by decide +kernel
theorem dX9_put_47 : decode cX9_put 47 = .ok (.getfield 7, 3) := by decide +kernel
theorem dX9_put_50 : decode cX9_put 50 = .ok (.aload_n 0, 1) := by decide +kernel
theorem dX9_put_51 : decode cX9_put 51 = .ok (.getfield 173, 3) := by decide +kernel
theorem dX9_put_54 : decode cX9_put 54 = .ok (.iconst 3, 1) := by decide +kernel
theorem dX9_put_55 : decode cX9_put 55 = .ok (.iadd, 1) := by decide +kernel
theorem dX9_put_56 : decode cX9_put 56 = .ok (.iload_n 1, 1) := by decide +kernel
theorem dX9_put_57 : decode cX9_put 57 = .ok (.i2b, 1) := by decide +kernel
theorem dX9_put_58 : decode cX9_put 58 = .ok (.bastore, 1) := by decide +kernel
theorem dX9_put_59 : decode cX9_put 59 = .ok (.aload_n 0, 1) := by decide +kernel
theorem dX9_put_60 : decode cX9_put 60 = .ok (.dup, 1) := by decide +kernel
theorem dX9_put_61 : decode cX9_put 61 = .ok (.getfield 173, 3) := by decide +kernel
theorem dX9_put_64 : decode cX9_put 64 = .ok (.iconst 4, 1) := by decide +kernel
theorem dX9_put_65 : decode cX9_put 65 = .ok (.iadd, 1) := by decide +kernel
theorem dX9_put_66 : decode cX9_put 66 = .ok (.putfield 173, 3) := by decide +kernel
theorem dX9_put_69 : decode cX9_put 69 = .ok (.return_, 1) := by decide +kernel
theorem dX9_rankOf_0 : decode cX9_rankOf 0 = .ok (.iconst 0, 1) := by decide +kernel
theorem dX9_rankOf_1 : decode cX9_rankOf 1 = .ok (.istore_n 3, 1) := by decide +kernel
theorem dX9_rankOf_2 : decode cX9_rankOf 2 = .ok (.iconst 0, 1) := by decide +kernel
theorem dX9_rankOf_3 : decode cX9_rankOf 3 = .ok (.istore 4, 2) := by decide +kernel
theorem dX9_rankOf_5 : decode cX9_rankOf 5 = .ok (.iload 4, 2) := by decide +kernel
theorem dX9_rankOf_7 : decode cX9_rankOf 7 = .ok (.iload_n 2, 1) := by decide +kernel
theorem dX9_rankOf_8 : decode cX9_rankOf 8 = .ok (.if_icmp .ge 43, 3) := by decide +kernel
theorem dX9_rankOf_11 : decode cX9_rankOf 11 = .ok (.iload_n 3, 1) := by decide +kernel
theorem dX9_rankOf_12 : decode cX9_rankOf 12 = .ok (.aload_n 0, 1) := by decide +kernel
theorem dX9_rankOf_13 : decode cX9_rankOf 13 = .ok (.getfield 37, 3) := by decide +kernel
theorem dX9_rankOf_16 : decode cX9_rankOf 16 = .ok (.bipush 6, 2) := by decide +kernel
theorem dX9_rankOf_18 : decode cX9_rankOf 18 = .ok (.iload_n 1, 1) := by decide +kernel
theorem dX9_rankOf_19 : decode cX9_rankOf 19 = .ok (.imul, 1) := by decide +kernel
theorem dX9_rankOf_20 : decode cX9_rankOf 20 = .ok (.iload 4, 2) := by decide +kernel
theorem dX9_rankOf_22 : decode cX9_rankOf 22 = .ok (.iadd, 1) := by decide +kernel
theorem dX9_rankOf_23 : decode cX9_rankOf 23 = .ok (.baload, 1) := by decide +kernel
theorem dX9_rankOf_24 : decode cX9_rankOf 24 = .ok (.aload_n 0, 1) := by decide +kernel
theorem dX9_rankOf_25 : decode cX9_rankOf 25 = .ok (.getfield 37, 3) := by decide +kernel
theorem dX9_rankOf_28 : decode cX9_rankOf 28 = .ok (.bipush 6, 2) := by decide +kernel
theorem dX9_rankOf_30 : decode cX9_rankOf 30 = .ok (.iload_n 1, 1) := by decide +kernel
theorem dX9_rankOf_31 : decode cX9_rankOf 31 = .ok (.imul, 1) := by decide +kernel
theorem dX9_rankOf_32 : decode cX9_rankOf 32 = .ok (.iload_n 2, 1) := by decide +kernel
theorem dX9_rankOf_33 : decode cX9_rankOf 33 = .ok (.iadd, 1) := by decide +kernel
theorem dX9_rankOf_34 : decode cX9_rankOf 34 = .ok (.baload, 1) := by decide +kernel
theorem dX9_rankOf_35 : decode cX9_rankOf 35 = .ok (.if_icmp .ne 7, 3) := by decide +kernel
theorem dX9_rankOf_38 : decode cX9_rankOf 38 = .ok (.iconst 1, 1) := by decide +kernel
theorem dX9_rankOf_39 : decode cX9_rankOf 39 = .ok (.goto 4, 3) := by decide +kernel
theorem dX9_rankOf_42 : decode cX9_rankOf 42 = .ok (.iconst 0, 1) := by decide +kernel
theorem dX9_rankOf_43 : decode cX9_rankOf 43 = .ok (.iadd, 1) := by decide +kernel
theorem dX9_rankOf_44 : decode cX9_rankOf 44 = .ok (.istore_n 3, 1) := by decide +kernel
theorem dX9_rankOf_45 : decode cX9_rankOf 45 = .ok (.iinc 4 1, 3) := by decide +kernel
theorem dX9_rankOf_48 : decode cX9_rankOf 48 = .ok (.goto (-43), 3) := by decide +kernel
theorem dX9_rankOf_51 : decode cX9_rankOf 51 = .ok (.iload_n 3, 1) := by decide +kernel
theorem dX9_rankOf_52 : decode cX9_rankOf 52 = .ok (.ireturn, 1) := by decide +kernel
theorem dX9_reads_0 : decode cX9_reads 0 = .ok (.aload_n 0, 1) := by decide +kernel
theorem dX9_reads_1 : decode cX9_reads 1 = .ok (.iconst 0, 1) := by decide +kernel
theorem dX9_reads_2 : decode cX9_reads 2 = .ok (.putfield 197, 3) := by decide +kernel
theorem dX9_reads_5 : decode cX9_reads 5 = .ok (.aload_n 0, 1) := by decide +kernel
theorem dX9_reads_6 : decode cX9_reads 6 = .ok (.iconst 0, 1) := by decide +kernel
theorem dX9_reads_7 : decode cX9_reads 7 = .ok (.putfield 184, 3) := by decide +kernel
theorem dX9_reads_10 : decode cX9_reads 10 = .ok (.aload_n 0, 1) := by decide +kernel
theorem dX9_reads_11 : decode cX9_reads 11 = .ok (.iconst (-1), 1) := by decide +kernel
theorem dX9_reads_12 : decode cX9_reads 12 = .ok (.putfield 187, 3) := by decide +kernel
theorem dX9_reads_15 : decode cX9_reads 15 = .ok (.aload_n 0, 1) := by decide +kernel
theorem dX9_reads_16 : decode cX9_reads 16 = .ok (.iconst 0, 1) := by decide +kernel
theorem dX9_reads_17 : decode cX9_reads 17 = .ok (.putfield 248, 3) := by decide +kernel
theorem dX9_reads_20 : decode cX9_reads 20 = .ok (.aload_n 0, 1) := by decide +kernel
theorem dX9_reads_21 : decode cX9_reads 21 = .ok (.iconst 0, 1) := by decide +kernel
theorem dX9_reads_22 : decode cX9_reads 22 = .ok (.putfield 272, 3) := by decide +kernel
theorem dX9_reads_25 : decode cX9_reads 25 = .ok (.aload_n 0, 1) := by decide +kernel
theorem dX9_reads_26 : decode cX9_reads 26 = .ok (.iconst 0, 1) := by decide +kernel
theorem dX9_reads_27 : decode cX9_reads 27 = .ok (.putfield 302, 3) := by decide +kernel
theorem dX9_reads_30 : decode cX9_reads 30 = .ok (.aload_n 0, 1) := by decide +kernel
theorem dX9_reads_31 : decode cX9_reads 31 = .ok (.iconst 0, 1) := by decide +kernel
theorem dX9_reads_32 : decode cX9_reads 32 = .ok (.putfield 305, 3) := by decide +kernel
theorem dX9_reads_35 : decode cX9_reads 35 = .ok (.aload_n 0, 1) := by decide +kernel
theorem dX9_reads_36 : decode cX9_reads 36 = .ok (.invokevirtual 242, 3) := by decide +kernel
theorem dX9_reads_39 : decode cX9_reads 39 = .ok (.aload_n 0, 1) := by decide +kernel
theorem dX9_reads_40 : decode cX9_reads 40 = .ok (.iconst 0, 1) := by decide +kernel
theorem dX9_reads_41 : decode cX9_reads 41 = .ok (.invokevirtual 258, 3) := by decide +kernel
theorem dX9_reads_44 : decode cX9_reads 44 = .ok (.ifCond .ne 7, 3) := by decide +kernel
theorem dX9_reads_47 : decode cX9_reads 47 = .ok (.aload_n 0, 1) := by decide +kernel
theorem dX9_reads_48 : decode cX9_reads 48 = .ok (.invokevirtual 245, 3) := by decide +kernel
theorem dX9_reads_51 : decode cX9_reads 51 = .ok (.aload_n 0, 1) := by decide +kernel
theorem dX9_reads_52 : decode cX9_reads 52 = .ok (.iconst 0, 1) := by decide +kernel
theorem dX9_reads_53 : decode cX9_reads 53 = .ok (.invokevirtual 258, 3) := by decide +kernel
theorem dX9_reads_56 : decode cX9_reads 56 = .ok (.ifCond .eq 10, 3) := by decide +kernel
theorem dX9_reads_59 : decode cX9_reads 59 = .ok (.aload_n 0, 1) := by decide +kernel
theorem dX9_reads_60 : decode cX9_reads 60 = .ok (.invokevirtual 377, 3) := by decide +kernel
theorem dX9_reads_63 : decode cX9_reads 63 = .ok (.goto (-12), 3) := by decide +kernel
theorem dX9_reads_66 : decode cX9_reads 66 = .ok (.aload_n 0, 1) := by decide +kernel
theorem dX9_reads_67 : decode cX9_reads 67 = .ok (.iconst 3, 1) := by decide +kernel
theorem dX9_reads_68 : decode cX9_reads 68 = .ok (.invokevirtual 258, 3) := by decide +kernel
theorem dX9_reads_71 : decode cX9_reads 71 = .ok (.ifCond .ne 7, 3) := by decide +kernel
theorem dX9_reads_74 : decode cX9_reads 74 = .ok (.aload_n 0, 1) := by decide +kernel
theorem dX9_reads_75 : decode cX9_reads 75 = .ok (.invokevirtual 245, 3) := by decide +kernel
theorem dX9_reads_78 : decode cX9_reads 78 = .ok (.aload_n 0, 1) := by decide +kernel
theorem dX9_reads_79 : decode cX9_reads 79 = .ok (.iconst 3, 1) := by decide +kernel
theorem dX9_reads_80 : decode cX9_reads 80 = .ok (.invokevirtual 258, 3) := by decide +kernel
theorem dX9_reads_83 : decode cX9_reads 83 = .ok (.ifCond .eq 10, 3) := by decide +kernel
theorem dX9_reads_86 : decode cX9_reads 86 = .ok (.aload_n 0, 1) := by decide +kernel
theorem dX9_reads_87 : decode cX9_reads 87 = .ok (.invokevirtual 380, 3) := by decide +kernel
theorem dX9_reads_90 : decode cX9_reads 90 = .ok (.goto (-12), 3) := by decide +kernel
theorem dX9_reads_93 : decode cX9_reads 93 = .ok (.aload_n 0, 1) := by decide +kernel
theorem dX9_reads_94 : decode cX9_reads 94 = .ok (.invokevirtual 234, 3) := by decide +kernel
theorem dX9_reads_97 : decode cX9_reads 97 = .ok (.ifCond .eq 14, 3) := by decide +kernel
theorem dX9_reads_100 : decode cX9_reads 100 = .ok (.aload_n 0, 1) := by decide +kernel
theorem dX9_reads_101 : decode cX9_reads 101 = .ok (.getfield 210, 3) := by decide +kernel
theorem dX9_reads_104 : decode cX9_reads 104 = .ok (.ifCond .eq 7, 3) := by decide +kernel
theorem dX9_reads_107 : decode cX9_reads 107 = .ok (.aload_n 0, 1) := by decide +kernel
theorem dX9_reads_108 : decode cX9_reads 108 = .ok (.invokevirtual 245, 3) := by decide +kernel
theorem dX9_reads_111 : decode cX9_reads 111 = .ok (.iconst 0, 1) := by decide +kernel
theorem dX9_reads_112 : decode cX9_reads 112 = .ok (.istore_n 1, 1) := by decide +kernel
theorem dX9_reads_113 : decode cX9_reads 113 = .ok (.iconst 0, 1) := by decide +kernel
theorem dX9_reads_114 : decode cX9_reads 114 = .ok (.istore_n 2, 1) := by decide +kernel
theorem dX9_reads_115 : decode cX9_reads 115 = .ok (.iload_n 2, 1) := by decide +kernel
theorem dX9_reads_116 : decode cX9_reads 116 = .ok (.aload_n 0, 1) := by decide +kernel
theorem dX9_reads_117 : decode cX9_reads 117 = .ok (.getfield 30, 3) := by decide +kernel
theorem dX9_reads_120 : decode cX9_reads 120 = .ok (.iconst 0, 1) := by decide +kernel
theorem dX9_reads_121 : decode cX9_reads 121 = .ok (.iaload, 1) := by decide +kernel
theorem dX9_reads_122 : decode cX9_reads 122 = .ok (.if_icmp .ge 35, 3) := by decide +kernel
theorem dX9_reads_125 : decode cX9_reads 125 = .ok (.aload_n 0, 1) := by decide +kernel
theorem dX9_reads_126 : decode cX9_reads 126 = .ok (.invokevirtual 234, 3) := by decide +kernel
theorem dX9_reads_129 : decode cX9_reads 129 = .ok (.ifCond .eq 28, 3) := by decide +kernel
theorem dX9_reads_132 : decode cX9_reads 132 = .ok (.iload_n 1, 1) := by decide +kernel
theorem dX9_reads_133 : decode cX9_reads 133 = .ok (.ifCond .ne 12, 3) := by decide +kernel
theorem dX9_reads_136 : decode cX9_reads 136 = .ok (.aload_n 0, 1) := by decide +kernel
theorem dX9_reads_137 : decode cX9_reads 137 = .ok (.getfield 37, 3) := by decide +kernel
theorem dX9_reads_140 : decode cX9_reads 140 = .ok (.iload_n 2, 1) := by decide +kernel
theorem dX9_reads_141 : decode cX9_reads 141 = .ok (.baload, 1) := by decide +kernel
theorem dX9_reads_142 : decode cX9_reads 142 = .ok (.ifCond .eq 7, 3) := by decide +kernel
theorem dX9_reads_145 : decode cX9_reads 145 = .ok (.iconst 1, 1) := by decide +kernel
theorem dX9_reads_146 : decode cX9_reads 146 = .ok (.goto 4, 3) := by decide +kernel
theorem dX9_reads_149 : decode cX9_reads 149 = .ok (.iconst 0, 1) := by decide +kernel
theorem dX9_reads_150 : decode cX9_reads 150 = .ok (.istore_n 1, 1) := by decide +kernel
theorem dX9_reads_151 : decode cX9_reads 151 = .ok (.iinc 2 1, 3) := by decide +kernel
theorem dX9_reads_154 : decode cX9_reads 154 = .ok (.goto (-39), 3) := by decide +kernel
theorem dX9_reads_157 : decode cX9_reads 157 = .ok (.iload_n 1, 1) := by decide +kernel
theorem dX9_reads_158 : decode cX9_reads 158 = .ok (.ifCond .eq 13, 3) := by decide +kernel
theorem dX9_reads_161 : decode cX9_reads 161 = .ok (.aload_n 0, 1) := by decide +kernel
theorem dX9_reads_162 : decode cX9_reads 162 = .ok (.bipush 9, 2) := by decide +kernel
theorem dX9_reads_164 : decode cX9_reads 164 = .ok (.aload_n 0, 1) := by decide +kernel
theorem dX9_reads_165 : decode cX9_reads 165 = .ok (.getfield 200, 3) := by decide +kernel
theorem dX9_reads_168 : decode cX9_reads 168 = .ok (.invokevirtual 193, 3) := by decide +kernel
theorem dX9_reads_171 : decode cX9_reads 171 = .ok (.return_, 1) := by decide +kernel
theorem dX9_rule_0 : decode cX9_rule 0 = .ok (.aload_n 0, 1) := by decide +kernel
theorem dX9_rule_1 : decode cX9_rule 1 = .ok (.invokevirtual 242, 3) := by decide +kernel
theorem dX9_rule_4 : decode cX9_rule 4 = .ok (.aload_n 0, 1) := by decide +kernel
theorem dX9_rule_5 : decode cX9_rule 5 = .ok (.invokevirtual 251, 3) := by decide +kernel
theorem dX9_rule_8 : decode cX9_rule 8 = .ok (.ifCond .ne 4, 3) := by decide +kernel
theorem dX9_rule_11 : decode cX9_rule 11 = .ok (.return_, 1) := by decide +kernel
theorem dX9_rule_12 : decode cX9_rule 12 = .ok (.aload_n 0, 1) := by decide +kernel
theorem dX9_rule_13 : decode cX9_rule 13 = .ok (.aload_n 0, 1) := by decide +kernel
theorem dX9_rule_14 : decode cX9_rule 14 = .ok (.getfield 206, 3) := by decide +kernel
theorem dX9_rule_17 : decode cX9_rule 17 = .ok (.aload_n 0, 1) := by decide +kernel
theorem dX9_rule_18 : decode cX9_rule 18 = .ok (.getfield 272, 3) := by decide +kernel
theorem dX9_rule_21 : decode cX9_rule 21 = .ok (.invokevirtual 275, 3) := by decide +kernel
theorem dX9_rule_24 : decode cX9_rule 24 = .ok (.ifCond .lt 12, 3) := by decide +kernel
theorem dX9_rule_27 : decode cX9_rule 27 = .ok (.aload_n 0, 1) := by decide +kernel
theorem dX9_rule_28 : decode cX9_rule 28 = .ok (.iconst 2, 1) := by decide +kernel
theorem dX9_rule_29 : decode cX9_rule 29 = .ok (.aload_n 0, 1) := by decide +kernel
theorem dX9_rule_30 : decode cX9_rule 30 = .ok (.getfield 190, 3) := by decide +kernel
theorem dX9_rule_33 : decode cX9_rule 33 = .ok (.invokevirtual 193, 3) := by decide +kernel
theorem dX9_rule_36 : decode cX9_rule 36 = .ok (.aload_n 0, 1) := by decide +kernel
theorem dX9_rule_37 : decode cX9_rule 37 = .ok (.getfield 272, 3) := by decide +kernel
theorem dX9_rule_40 : decode cX9_rule 40 = .ok (.bipush 30, 2) := by decide +kernel
theorem dX9_rule_42 : decode cX9_rule 42 = .ok (.if_icmp .ne 12, 3) := by decide +kernel
theorem dX9_rule_45 : decode cX9_rule 45 = .ok (.aload_n 0, 1) := by decide +kernel
theorem dX9_rule_46 : decode cX9_rule 46 = .ok (.iconst 4, 1) := by decide +kernel
theorem dX9_rule_47 : decode cX9_rule 47 = .ok (.aload_n 0, 1) := by decide +kernel
theorem dX9_rule_48 : decode cX9_rule 48 = .ok (.getfield 190, 3) := by decide +kernel
theorem dX9_rule_51 : decode cX9_rule 51 = .ok (.invokevirtual 193, 3) := by decide +kernel
theorem dX9_rule_54 : decode cX9_rule 54 = .ok (.aload_n 0, 1) := by decide +kernel
theorem dX9_rule_55 : decode cX9_rule 55 = .ok (.invokevirtual 234, 3) := by decide +kernel
theorem dX9_rule_58 : decode cX9_rule 58 = .ok (.ifCond .ne 4, 3) := by decide +kernel
theorem dX9_rule_61 : decode cX9_rule 61 = .ok (.return_, 1) := by decide +kernel
theorem dX9_rule_62 : decode cX9_rule 62 = .ok (.aload_n 0, 1) := by decide +kernel
theorem dX9_rule_63 : decode cX9_rule 63 = .ok (.getfield 272, 3) := by decide +kernel
theorem dX9_rule_66 : decode cX9_rule 66 = .ok (.istore_n 1, 1) := by decide +kernel
theorem dX9_rule_67 : decode cX9_rule 67 = .ok (.aload_n 0, 1) := by decide +kernel
theorem dX9_rule_68 : decode cX9_rule 68 = .ok (.getfield 41, 3) := by decide +kernel
theorem dX9_rule_71 : decode cX9_rule 71 = .ok (.iload_n 1, 1) := by decide +kernel
theorem dX9_rule_72 : decode cX9_rule 72 = .ok (.aload_n 0, 1) := by decide +kernel
theorem dX9_rule_73 : decode cX9_rule 73 = .ok (.getfield 206, 3) := by decide +kernel
theorem dX9_rule_76 : decode cX9_rule 76 = .ok (.lastore, 1) := by decide +kernel
theorem dX9_rule_77 : decode cX9_rule 77 = .ok (.aload_n 0, 1) := by decide +kernel
theorem dX9_rule_78 : decode cX9_rule 78 = .ok (.getfield 44, 3) := by decide +kernel
theorem dX9_rule_81 : decode cX9_rule 81 = .ok (.iload_n 1, 1) := by decide +kernel
theorem dX9_rule_82 : decode cX9_rule 82 = .ok (.iconst 0, 1) := by decide +kernel
theorem dX9_rule_83 : decode cX9_rule 83 = .ok (.iastore, 1) := by decide +kernel
theorem dX9_rule_84 : decode cX9_rule 84 = .ok (.aload_n 0, 1) := by decide +kernel
theorem dX9_rule_85 : decode cX9_rule 85 = .ok (.getfield 50, 3) := by decide +kernel
theorem dX9_rule_88 : decode cX9_rule 88 = .ok (.iload_n 1, 1) := by decide +kernel
theorem dX9_rule_89 : decode cX9_rule 89 = .ok (.iconst 0, 1) := by decide +kernel
theorem dX9_rule_90 : decode cX9_rule 90 = .ok (.iastore, 1) := by decide +kernel
theorem dX9_rule_91 : decode cX9_rule 91 = .ok (.bipush 24, 2) := by decide +kernel
theorem dX9_rule_93 : decode cX9_rule 93 = .ok (.iload_n 1, 1) := by decide +kernel
theorem dX9_rule_94 : decode cX9_rule 94 = .ok (.imul, 1) := by decide +kernel
theorem dX9_rule_95 : decode cX9_rule 95 = .ok (.istore_n 2, 1) := by decide +kernel
theorem dX9_rule_96 : decode cX9_rule 96 = .ok (.iload_n 2, 1) := by decide +kernel
theorem dX9_rule_97 : decode cX9_rule 97 = .ok (.bipush 24, 2) := by decide +kernel
theorem dX9_rule_99 : decode cX9_rule 99 = .ok (.iload_n 1, 1) := by decide +kernel
theorem dX9_rule_100 : decode cX9_rule 100 = .ok (.imul, 1) := by decide +kernel
theorem dX9_rule_101 : decode cX9_rule 101 = .ok (.bipush 24, 2) := by decide +kernel
theorem dX9_rule_103 : decode cX9_rule 103 = .ok (.iadd, 1) := by decide +kernel
theorem dX9_rule_104 : decode cX9_rule 104 = .ok (.if_icmp .ge 23, 3) := by decide +kernel
theorem dX9_rule_107 : decode cX9_rule 107 = .ok (.aload_n 0, 1) := by decide +kernel
theorem dX9_rule_108 : decode cX9_rule 108 = .ok (.getfield 53, 3) := by decide +kernel
theorem dX9_rule_111 : decode cX9_rule 111 = .ok (.iload_n 2, 1) := by decide +kernel
theorem dX9_rule_112 : decode cX9_rule 112 = .ok (.iconst (-1), 1) := by decide +kernel
theorem dX9_rule_113 : decode cX9_rule 113 = .ok (.iastore, 1) := by decide +kernel
theorem dX9_rule_114 : decode cX9_rule 114 = .ok (.aload_n 0, 1) := by decide +kernel
theorem dX9_rule_115 : decode cX9_rule 115 = .ok (.getfield 59, 3) := by decide +kernel
theorem dX9_rule_118 : decode cX9_rule 118 = .ok (.iload_n 2, 1) := by decide +kernel
theorem dX9_rule_119 : decode cX9_rule 119 = .ok (.iconst 0, 1) := by decide +kernel
theorem dX9_rule_120 : decode cX9_rule 120 = .ok (.iastore, 1) := by decide +kernel
theorem dX9_rule_121 : decode cX9_rule 121 = .ok (.iinc 2 1, 3) := by decide +kernel
theorem dX9_rule_124 : decode cX9_rule 124 = .ok (.goto (-28), 3) := by decide +kernel
theorem dX9_rule_127 : decode cX9_rule 127 = .ok (.aload_n 0, 1) := by decide +kernel
theorem dX9_rule_128 : decode cX9_rule 128 = .ok (.dup, 1) := by decide +kernel
theorem dX9_rule_129 : decode cX9_rule 129 = .ok (.getfield 272, 3) := by decide +kernel
theorem dX9_rule_132 : decode cX9_rule 132 = .ok (.iconst 1, 1) := by decide +kernel
theorem dX9_rule_133 : decode cX9_rule 133 = .ok (.iadd, 1) := by decide +kernel
theorem dX9_rule_134 : decode cX9_rule 134 = .ok (.putfield 272, 3) := by decide +kernel
theorem dX9_rule_137 : decode cX9_rule 137 = .ok (.aload_n 0, 1) := by decide +kernel
theorem dX9_rule_138 : decode cX9_rule 138 = .ok (.invokevirtual 242, 3) := by decide +kernel
theorem dX9_rule_141 : decode cX9_rule 141 = .ok (.aload_n 0, 1) := by decide +kernel
theorem dX9_rule_142 : decode cX9_rule 142 = .ok (.bipush 61, 2) := by decide +kernel
theorem dX9_rule_144 : decode cX9_rule 144 = .ok (.invokevirtual 265, 3) := by decide +kernel
theorem dX9_rule_147 : decode cX9_rule 147 = .ok (.aload_n 0, 1) := by decide +kernel
theorem dX9_rule_148 : decode cX9_rule 148 = .ok (.invokevirtual 251, 3) := by decide +kernel
theorem dX9_rule_151 : decode cX9_rule 151 = .ok (.ifCond .eq 9, 3) := by decide +kernel
theorem dX9_rule_154 : decode cX9_rule 154 = .ok (.aload_n 0, 1) := by decide +kernel
theorem dX9_rule_155 : decode cX9_rule 155 = .ok (.iload_n 1, 1) := by decide +kernel
theorem dX9_rule_156 : decode cX9_rule 156 = .ok (.iconst 0, 1) := by decide +kernel
theorem dX9_rule_157 : decode cX9_rule 157 = .ok (.invokevirtual 279, 3) := by decide +kernel
theorem dX9_rule_160 : decode cX9_rule 160 = .ok (.aload_n 0, 1) := by decide +kernel
theorem dX9_rule_161 : decode cX9_rule 161 = .ok (.invokevirtual 234, 3) := by decide +kernel
theorem dX9_rule_164 : decode cX9_rule 164 = .ok (.ifCond .eq 70, 3) := by decide +kernel
theorem dX9_rule_167 : decode cX9_rule 167 = .ok (.aload_n 0, 1) := by decide +kernel
theorem dX9_rule_168 : decode cX9_rule 168 = .ok (.getfield 210, 3) := by decide +kernel
theorem dX9_rule_171 : decode cX9_rule 171 = .ok (.iconst 1, 1) := by decide +kernel
theorem dX9_rule_172 : decode cX9_rule 172 = .ok (.if_icmp .ne 62, 3) := by decide +kernel
theorem dX9_rule_175 : decode cX9_rule 175 = .ok (.aload_n 0, 1) := by decide +kernel
theorem dX9_rule_176 : decode cX9_rule 176 = .ok (.aload_n 0, 1) := by decide +kernel
theorem dX9_rule_177 : decode cX9_rule 177 = .ok (.getfield 206, 3) := by decide +kernel
theorem dX9_rule_180 : decode cX9_rule 180 = .ok (.invokevirtual 254, 3) := by decide +kernel
theorem dX9_rule_183 : decode cX9_rule 183 = .ok (.ifCond .lt 25, 3) := by decide +kernel
theorem dX9_rule_186 : decode cX9_rule 186 = .ok (.aload_n 0, 1) := by decide +kernel
theorem dX9_rule_187 : decode cX9_rule 187 = .ok (.getfield 44, 3) := by decide +kernel
theorem dX9_rule_190 : decode cX9_rule 190 = .ok (.iload_n 1, 1) := by decide +kernel
theorem dX9_rule_191 : decode cX9_rule 191 = .ok (.iaload, 1) := by decide +kernel
theorem dX9_rule_192 : decode cX9_rule 192 = .ok (.iconst 3, 1) := by decide +kernel
theorem dX9_rule_193 : decode cX9_rule 193 = .ok (.if_icmp .ne 15, 3) := by decide +kernel
theorem dX9_rule_196 : decode cX9_rule 196 = .ok (.aload_n 0, 1) := by decide +kernel
theorem dX9_rule_197 : decode cX9_rule 197 = .ok (.iconst 4, 1) := by decide +kernel
theorem dX9_rule_198 : decode cX9_rule 198 = .ok (.aload_n 0, 1) := by decide +kernel
theorem dX9_rule_199 : decode cX9_rule 199 = .ok (.getfield 190, 3) := by decide +kernel
theorem dX9_rule_202 : decode cX9_rule 202 = .ok (.invokevirtual 193, 3) := by decide +kernel
theorem dX9_rule_205 : decode cX9_rule 205 = .ok (.goto (-45), 3) := by decide +kernel
theorem dX9_rule_208 : decode cX9_rule 208 = .ok (.aload_n 0, 1) := by decide +kernel
theorem dX9_rule_209 : decode cX9_rule 209 = .ok (.iload_n 1, 1) := by decide +kernel
theorem dX9_rule_210 : decode cX9_rule 210 = .ok (.aload_n 0, 1) := by decide +kernel
theorem dX9_rule_211 : decode cX9_rule 211 = .ok (.getfield 44, 3) := by decide +kernel
theorem dX9_rule_214 : decode cX9_rule 214 = .ok (.iload_n 1, 1) := by decide +kernel
theorem dX9_rule_215 : decode cX9_rule 215 = .ok (.iaload, 1) := by decide +kernel
theorem dX9_rule_216 : decode cX9_rule 216 = .ok (.iconst 1, 1) := by decide +kernel
theorem dX9_rule_217 : decode cX9_rule 217 = .ok (.iadd, 1) := by decide +kernel
theorem dX9_rule_218 : decode cX9_rule 218 = .ok (.invokevirtual 279, 3) := by decide +kernel
theorem dX9_rule_221 : decode cX9_rule 221 = .ok (.aload_n 0, 1) := by decide +kernel
theorem dX9_rule_222 : decode cX9_rule 222 = .ok (.getfield 44, 3) := by decide +kernel
theorem dX9_rule_225 : decode cX9_rule 225 = .ok (.iload_n 1, 1) := by decide +kernel
theorem dX9_rule_226 : decode cX9_rule 226 = .ok (.dup2, 1) := by decide +kernel
theorem dX9_rule_227 : decode cX9_rule 227 = .ok (.iaload, 1) := by decide +kernel
theorem dX9_rule_228 : decode cX9_rule 228 = .ok (.iconst 1, 1) := by decide +kernel
theorem dX9_rule_229 : decode cX9_rule 229 = .ok (.iadd, 1) := by decide +kernel
theorem dX9_rule_230 : decode cX9_rule 230 = .ok (.iastore, 1) := by decide +kernel
theorem dX9_rule_231 : decode cX9_rule 231 = .ok (.goto (-71), 3) := by decide +kernel
theorem dX9_rule_234 : decode cX9_rule 234 = .ok (.aload_n 0, 1) := by decide +kernel
theorem dX9_rule_235 : decode cX9_rule 235 = .ok (.bipush 58, 2) := by decide +kernel
theorem dX9_rule_237 : decode cX9_rule 237 = .ok (.invokevirtual 265, 3) := by decide +kernel
theorem dX9_rule_240 : decode cX9_rule 240 = .ok (.aload_n 0, 1) := by decide +kernel
theorem dX9_rule_241 : decode cX9_rule 241 = .ok (.invokevirtual 234, 3) := by decide +kernel
theorem dX9_rule_244 : decode cX9_rule 244 = .ok (.ifCond .eq 19, 3) := by decide +kernel
theorem dX9_rule_247 : decode cX9_rule 247 = .ok (.aload_n 0, 1) := by decide +kernel
theorem dX9_rule_248 : decode cX9_rule 248 = .ok (.iconst 4, 1) := by decide +kernel
theorem dX9_rule_249 : decode cX9_rule 249 = .ok (.invokevirtual 258, 3) := by decide +kernel
theorem dX9_rule_252 : decode cX9_rule 252 = .ok (.ifCond .ne 11, 3) := by decide +kernel
theorem dX9_rule_255 : decode cX9_rule 255 = .ok (.aload_n 0, 1) := by decide +kernel
theorem dX9_rule_256 : decode cX9_rule 256 = .ok (.iload_n 1, 1) := by decide +kernel
theorem dX9_rule_257 : decode cX9_rule 257 = .ok (.invokevirtual 282, 3) := by decide +kernel
theorem dX9_rule_260 : decode cX9_rule 260 = .ok (.goto (-20), 3) := by decide +kernel
theorem dX9_rule_263 : decode cX9_rule 263 = .ok (.aload_n 0, 1) := by decide +kernel
theorem dX9_rule_264 : decode cX9_rule 264 = .ok (.invokevirtual 234, 3) := by decide +kernel
theorem dX9_rule_267 : decode cX9_rule 267 = .ok (.ifCond .eq 12, 3) := by decide +kernel
theorem dX9_rule_270 : decode cX9_rule 270 = .ok (.aload_n 0, 1) := by decide +kernel
theorem dX9_rule_271 : decode cX9_rule 271 = .ok (.iload_n 1, 1) := by decide +kernel
theorem dX9_rule_272 : decode cX9_rule 272 = .ok (.invokevirtual 285, 3) := by decide +kernel
theorem dX9_rule_275 : decode cX9_rule 275 = .ok (.aload_n 0, 1) := by decide +kernel
theorem dX9_rule_276 : decode cX9_rule 276 = .ok (.invokevirtual 242, 3) := by decide +kernel
theorem dX9_rule_279 : decode cX9_rule 279 = .ok (.return_, 1) := by decide +kernel
theorem dX9_ruleOf_0 : decode cX9_ruleOf 0 = .ok (.iconst (-1), 1) := by decide +kernel
theorem dX9_ruleOf_1 : decode cX9_ruleOf 1 = .ok (.istore 4, 2) := by decide +kernel
theorem dX9_ruleOf_3 : decode cX9_ruleOf 3 = .ok (.iconst 0, 1) := by decide +kernel
theorem dX9_ruleOf_4 : decode cX9_ruleOf 4 = .ok (.istore 5, 2) := by decide +kernel
theorem dX9_ruleOf_6 : decode cX9_ruleOf 6 = .ok (.iload 5, 2) := by decide +kernel
theorem dX9_ruleOf_8 : decode cX9_ruleOf 8 = .ok (.iload_n 3, 1) := by decide +kernel
theorem dX9_ruleOf_9 : decode cX9_ruleOf 9 = .ok (.if_icmp .ge 30, 3) := by decide +kernel
theorem dX9_ruleOf_12 : decode cX9_ruleOf 12 = .ok (.aload_n 0, 1) := by decide +kernel
theorem dX9_ruleOf_13 : decode cX9_ruleOf 13 = .ok (.getfield 41, 3) := by decide +kernel
theorem dX9_ruleOf_16 : decode cX9_ruleOf 16 = .ok (.iload 5, 2) := by decide +kernel
theorem dX9_ruleOf_18 : decode cX9_ruleOf 18 = .ok (.laload, 1) := by decide +kernel
theorem dX9_ruleOf_19 : decode cX9_ruleOf 19 = .ok (.lload_n 1, 1) := by decide +kernel
theorem dX9_ruleOf_20 : decode cX9_ruleOf 20 = .ok (.lcmp, 1) := by decide +kernel
theorem dX9_ruleOf_21 : decode cX9_ruleOf 21 = .ok (.ifCond .ne 8, 3) := by decide +kernel
theorem dX9_ruleOf_24 : decode cX9_ruleOf 24 = .ok (.iload 5, 2) := by decide +kernel
theorem dX9_ruleOf_26 : decode cX9_ruleOf 26 = .ok (.goto 5, 3) := by decide +kernel
theorem dX9_ruleOf_29 : decode cX9_ruleOf 29 = .ok (.iload 4, 2) := by decide +kernel
theorem dX9_ruleOf_31 : decode cX9_ruleOf 31 = .ok (.istore 4, 2) := by decide +kernel
theorem dX9_ruleOf_33 : decode cX9_ruleOf 33 = .ok (.iinc 5 1, 3) := by decide +kernel
theorem dX9_ruleOf_36 : decode cX9_ruleOf 36 = .ok (.goto (-30), 3) := by decide +kernel
theorem dX9_ruleOf_39 : decode cX9_ruleOf 39 = .ok (.iload 4, 2) := by decide +kernel
theorem dX9_ruleOf_41 : decode cX9_ruleOf 41 = .ok (.ireturn, 1) := by decide +kernel
theorem dX9_rule__0 : decode cX9_rule_ 0 = .ok (.iload_n 1, 1) := by decide +kernel
theorem dX9_rule__1 : decode cX9_rule_ 1 = .ok (.iconst 0, 1) := by decide +kernel
theorem dX9_rule__2 : decode cX9_rule_ 2 = .ok (.aload_n 0, 1) := by decide +kernel
theorem dX9_rule__3 : decode cX9_rule_ 3 = .ok (.getfield 272, 3) := by decide +kernel
theorem dX9_rule__6 : decode cX9_rule_ 6 = .ok (.iconst 1, 1) := by decide +kernel
theorem dX9_rule__7 : decode cX9_rule_ 7 = .ok (.isub, 1) := by decide +kernel
theorem dX9_rule__8 : decode cX9_rule_ 8 = .ok (.invokestatic 180, 3) := by decide +kernel
theorem dX9_rule__11 : decode cX9_rule_ 11 = .ok (.ifCond .ne 5, 3) := by decide +kernel
theorem dX9_rule__14 : decode cX9_rule_ 14 = .ok (.iconst (-1), 1) := by decide +kernel
theorem dX9_rule__15 : decode cX9_rule_ 15 = .ok (.ireturn, 1) := by decide +kernel
theorem dX9_rule__16 : decode cX9_rule_ 16 = .ok (.iload_n 2, 1) := by decide +kernel
theorem dX9_rule__17 : decode cX9_rule_ 17 = .ok (.tableswitch 119 0 5 #[39, 48, 55, 62, 77, 92], 39) := by decide +kernel
theorem dX9_rule__56 : decode cX9_rule_ 56 = .ok (.aload_n 0, 1) := by decide +kernel
theorem dX9_rule__57 : decode cX9_rule_ 57 = .ok (.getfield 47, 3) := by decide +kernel
theorem dX9_rule__60 : decode cX9_rule_ 60 = .ok (.iconst 4, 1) := by decide +kernel
theorem dX9_rule__61 : decode cX9_rule_ 61 = .ok (.iload_n 1, 1) := by decide +kernel
theorem dX9_rule__62 : decode cX9_rule_ 62 = .ok (.imul, 1) := by decide +kernel
theorem dX9_rule__63 : decode cX9_rule_ 63 = .ok (.iaload, 1) := by decide +kernel
theorem dX9_rule__64 : decode cX9_rule_ 64 = .ok (.ireturn, 1) := by decide +kernel
theorem dX9_rule__65 : decode cX9_rule_ 65 = .ok (.aload_n 0, 1) := by decide +kernel
theorem dX9_rule__66 : decode cX9_rule_ 66 = .ok (.getfield 44, 3) := by decide +kernel
theorem dX9_rule__69 : decode cX9_rule_ 69 = .ok (.iload_n 1, 1) := by decide +kernel
theorem dX9_rule__70 : decode cX9_rule_ 70 = .ok (.iaload, 1) := by decide +kernel
theorem dX9_rule__71 : decode cX9_rule_ 71 = .ok (.ireturn, 1) := by decide +kernel
theorem dX9_rule__72 : decode cX9_rule_ 72 = .ok (.aload_n 0, 1) := by decide +kernel
theorem dX9_rule__73 : decode cX9_rule_ 73 = .ok (.getfield 50, 3) := by decide +kernel
theorem dX9_rule__76 : decode cX9_rule_ 76 = .ok (.iload_n 1, 1) := by decide +kernel
theorem dX9_rule__77 : decode cX9_rule_ 77 = .ok (.iaload, 1) := by decide +kernel
theorem dX9_rule__78 : decode cX9_rule_ 78 = .ok (.ireturn, 1) := by decide +kernel
theorem dX9_rule__79 : decode cX9_rule_ 79 = .ok (.aload_n 0, 1) := by decide +kernel
theorem dX9_rule__80 : decode cX9_rule_ 80 = .ok (.getfield 116, 3) := by decide +kernel
theorem dX9_rule__83 : decode cX9_rule_ 83 = .ok (.iload_n 1, 1) := by decide +kernel
theorem dX9_rule__84 : decode cX9_rule_ 84 = .ok (.baload, 1) := by decide +kernel
theorem dX9_rule__85 : decode cX9_rule_ 85 = .ok (.ifCond .eq 7, 3) := by decide +kernel
theorem dX9_rule__88 : decode cX9_rule_ 88 = .ok (.iconst 1, 1) := by decide +kernel
theorem dX9_rule__89 : decode cX9_rule_ 89 = .ok (.goto 4, 3) := by decide +kernel
theorem dX9_rule__92 : decode cX9_rule_ 92 = .ok (.iconst 0, 1) := by decide +kernel
theorem dX9_rule__93 : decode cX9_rule_ 93 = .ok (.ireturn, 1) := by decide +kernel
theorem dX9_rule__94 : decode cX9_rule_ 94 = .ok (.aload_n 0, 1) := by decide +kernel
theorem dX9_rule__95 : decode cX9_rule_ 95 = .ok (.getfield 131, 3) := by decide +kernel
theorem dX9_rule__98 : decode cX9_rule_ 98 = .ok (.iload_n 1, 1) := by decide +kernel
theorem dX9_rule__99 : decode cX9_rule_ 99 = .ok (.baload, 1) := by decide +kernel
theorem dX9_rule__100 : decode cX9_rule_ 100 = .ok (.ifCond .eq 7, 3) := by decide +kernel
theorem dX9_rule__103 : decode cX9_rule_ 103 = .ok (.iconst 1, 1) := by decide +kernel
theorem dX9_rule__104 : decode cX9_rule_ 104 = .ok (.goto 4, 3) := by decide +kernel
theorem dX9_rule__107 : decode cX9_rule_ 107 = .ok (.iconst 0, 1) := by decide +kernel
theorem dX9_rule__108 : decode cX9_rule_ 108 = .ok (.ireturn, 1) := by decide +kernel
theorem dX9_rule__109 : decode cX9_rule_ 109 = .ok (.aload_n 0, 1) := by decide +kernel
theorem dX9_rule__110 : decode cX9_rule_ 110 = .ok (.getfield 446, 3) := by decide +kernel
theorem dX9_rule__113 : decode cX9_rule_ 113 = .ok (.ifCond .eq 8, 3) := by decide +kernel
theorem dX9_rule__116 : decode cX9_rule_ 116 = .ok (.bipush (-2), 2) := by decide +kernel
theorem dX9_rule__118 : decode cX9_rule_ 118 = .ok (.goto 17, 3) := by decide +kernel
theorem dX9_rule__121 : decode cX9_rule_ 121 = .ok (.aload_n 0, 1) := by decide +kernel
theorem dX9_rule__122 : decode cX9_rule_ 122 = .ok (.getfield 134, 3) := by decide +kernel
theorem dX9_rule__125 : decode cX9_rule_ 125 = .ok (.iload_n 1, 1) := by decide +kernel
theorem dX9_rule__126 : decode cX9_rule_ 126 = .ok (.baload, 1) := by decide +kernel
theorem dX9_rule__127 : decode cX9_rule_ 127 = .ok (.ifCond .eq 7, 3) := by decide +kernel
theorem dX9_rule__130 : decode cX9_rule_ 130 = .ok (.iconst 1, 1) := by decide +kernel
theorem dX9_rule__131 : decode cX9_rule_ 131 = .ok (.goto 4, 3) := by decide +kernel
theorem dX9_rule__134 : decode cX9_rule_ 134 = .ok (.iconst 0, 1) := by decide +kernel
theorem dX9_rule__135 : decode cX9_rule_ 135 = .ok (.ireturn, 1) := by decide +kernel
theorem dX9_rule__136 : decode cX9_rule_ 136 = .ok (.iload_n 2, 1) := by decide +kernel
theorem dX9_rule__137 : decode cX9_rule_ 137 = .ok (.bipush 11, 2) := by decide +kernel
theorem dX9_rule__139 : decode cX9_rule_ 139 = .ok (.bipush 10, 2) := by decide +kernel
theorem dX9_rule__141 : decode cX9_rule_ 141 = .ok (.aload_n 0, 1) := by decide +kernel
theorem dX9_rule__142 : decode cX9_rule_ 142 = .ok (.getfield 44, 3) := by decide +kernel
theorem dX9_rule__145 : decode cX9_rule_ 145 = .ok (.iload_n 1, 1) := by decide +kernel
theorem dX9_rule__146 : decode cX9_rule_ 146 = .ok (.iaload, 1) := by decide +kernel
theorem dX9_rule__147 : decode cX9_rule_ 147 = .ok (.iadd, 1) := by decide +kernel
theorem dX9_rule__148 : decode cX9_rule_ 148 = .ok (.invokestatic 180, 3) := by decide +kernel
theorem dX9_rule__151 : decode cX9_rule_ 151 = .ok (.ifCond .eq 19, 3) := by decide +kernel
theorem dX9_rule__154 : decode cX9_rule_ 154 = .ok (.aload_n 0, 1) := by decide +kernel
theorem dX9_rule__155 : decode cX9_rule_ 155 = .ok (.getfield 47, 3) := by decide +kernel
theorem dX9_rule__158 : decode cX9_rule_ 158 = .ok (.iconst 4, 1) := by decide +kernel
theorem dX9_rule__159 : decode cX9_rule_ 159 = .ok (.iload_n 1, 1) := by decide +kernel
theorem dX9_rule__160 : decode cX9_rule_ 160 = .ok (.imul, 1) := by decide +kernel
theorem dX9_rule__161 : decode cX9_rule_ 161 = .ok (.iload_n 2, 1) := by decide +kernel
theorem dX9_rule__162 : decode cX9_rule_ 162 = .ok (.iadd, 1) := by decide +kernel
theorem dX9_rule__163 : decode cX9_rule_ 163 = .ok (.bipush 10, 2) := by decide +kernel
theorem dX9_rule__165 : decode cX9_rule_ 165 = .ok (.isub, 1) := by decide +kernel
theorem dX9_rule__166 : decode cX9_rule_ 166 = .ok (.iaload, 1) := by decide +kernel
theorem dX9_rule__167 : decode cX9_rule_ 167 = .ok (.goto 4, 3) := by decide +kernel
theorem dX9_rule__170 : decode cX9_rule_ 170 = .ok (.iconst (-1), 1) := by decide +kernel
theorem dX9_rule__171 : decode cX9_rule_ 171 = .ok (.ireturn, 1) := by decide +kernel
theorem dX9_second_0 : decode cX9_second 0 = .ok (.aload_n 0, 1) := by decide +kernel
theorem dX9_second_1 : decode cX9_second 1 = .ok (.getfield 74, 3) := by decide +kernel
theorem dX9_second_4 : decode cX9_second 4 = .ok (.aload_n 0, 1) := by decide +kernel
theorem dX9_second_5 : decode cX9_second 5 = .ok (.getfield 319, 3) := by decide +kernel
theorem dX9_second_8 : decode cX9_second 8 = .ok (.iconst 1, 1) := by decide +kernel
theorem dX9_second_9 : decode cX9_second 9 = .ok (.isub, 1) := by decide +kernel
theorem dX9_second_10 : decode cX9_second 10 = .ok (.iaload, 1) := by decide +kernel
theorem dX9_second_11 : decode cX9_second 11 = .ok (.bipush 6, 2) := by decide +kernel
theorem dX9_second_13 : decode cX9_second 13 = .ok (.if_icmp .ne 49, 3) := by decide +kernel
theorem dX9_second_16 : decode cX9_second 16 = .ok (.aload_n 0, 1) := by decide +kernel
theorem dX9_second_17 : decode cX9_second 17 = .ok (.getfield 77, 3) := by decide +kernel
theorem dX9_second_20 : decode cX9_second 20 = .ok (.aload_n 0, 1) := by decide +kernel
theorem dX9_second_21 : decode cX9_second 21 = .ok (.getfield 319, 3) := by decide +kernel
theorem dX9_second_24 : decode cX9_second 24 = .ok (.iconst 1, 1) := by decide +kernel
theorem dX9_second_25 : decode cX9_second 25 = .ok (.isub, 1) := by decide +kernel
theorem dX9_second_26 : decode cX9_second 26 = .ok (.iaload, 1) := by decide +kernel
theorem dX9_second_27 : decode cX9_second 27 = .ok (.i2l, 1) := by decide +kernel
theorem dX9_second_28 : decode cX9_second 28 = .ok (.invokestatic 368, 3) := by decide +kernel
theorem dX9_second_31 : decode cX9_second 31 = .ok (.iload_n 1, 1) := by decide +kernel
theorem dX9_second_32 : decode cX9_second 32 = .ok (.if_icmp .lt 30, 3) := by decide +kernel
theorem dX9_second_35 : decode cX9_second 35 = .ok (.aload_n 0, 1) := by decide +kernel
theorem dX9_second_36 : decode cX9_second 36 = .ok (.dup, 1) := by decide +kernel
theorem dX9_second_37 : decode cX9_second 37 = .ok (.getfield 319, 3) := by decide +kernel
theorem dX9_second_40 : decode cX9_second 40 = .ok (.iconst 1, 1) := by decide +kernel
theorem dX9_second_41 : decode cX9_second 41 = .ok (.isub, 1) := by decide +kernel
theorem dX9_second_42 : decode cX9_second 42 = .ok (.putfield 319, 3) := by decide +kernel
theorem dX9_second_45 : decode cX9_second 45 = .ok (.aload_n 0, 1) := by decide +kernel
theorem dX9_second_46 : decode cX9_second 46 = .ok (.iconst 4, 1) := by decide +kernel
theorem dX9_second_47 : decode cX9_second 47 = .ok (.aload_n 0, 1) := by decide +kernel
theorem dX9_second_48 : decode cX9_second 48 = .ok (.getfield 77, 3) := by decide +kernel
theorem dX9_second_51 : decode cX9_second 51 = .ok (.aload_n 0, 1) := by decide +kernel
theorem dX9_second_52 : decode cX9_second 52 = .ok (.getfield 319, 3) := by decide +kernel
theorem dX9_second_55 : decode cX9_second 55 = .ok (.iaload, 1) := by decide +kernel
theorem dX9_second_56 : decode cX9_second 56 = .ok (.invokevirtual 317, 3) := by decide +kernel
theorem dX9_second_59 : decode cX9_second 59 = .ok (.goto (-59), 3) := by decide +kernel
theorem dX9_second_62 : decode cX9_second 62 = .ok (.return_, 1) := by decide +kernel
theorem dX9_settles_0 : decode cX9_settles 0 = .ok (.iconst 0, 1) := by decide +kernel
theorem dX9_settles_1 : decode cX9_settles 1 = .ok (.istore_n 1, 1) := by decide +kernel
theorem dX9_settles_2 : decode cX9_settles 2 = .ok (.iload_n 1, 1) := by decide +kernel
theorem dX9_settles_3 : decode cX9_settles 3 = .ok (.aload_n 0, 1) := by decide +kernel
theorem dX9_settles_4 : decode cX9_settles 4 = .ok (.getfield 461, 3) := by decide +kernel
theorem dX9_settles_7 : decode cX9_settles 7 = .ok (.if_icmp .ge 40, 3) := by decide +kernel
theorem dX9_settles_10 : decode cX9_settles 10 = .ok (.aload_n 0, 1) := by decide +kernel
theorem dX9_settles_11 : decode cX9_settles 11 = .ok (.getfield 122, 3) := by decide +kernel
theorem dX9_settles_14 : decode cX9_settles 14 = .ok (.aload_n 0, 1) := by decide +kernel
theorem dX9_settles_15 : decode cX9_settles 15 = .ok (.getfield 143, 3) := by decide +kernel
theorem dX9_settles_18 : decode cX9_settles 18 = .ok (.iload_n 1, 1) := by decide +kernel
theorem dX9_settles_19 : decode cX9_settles 19 = .ok (.iaload, 1) := by decide +kernel
theorem dX9_settles_20 : decode cX9_settles 20 = .ok (.iconst 1, 1) := by decide +kernel
theorem dX9_settles_21 : decode cX9_settles 21 = .ok (.bastore, 1) := by decide +kernel
theorem dX9_settles_22 : decode cX9_settles 22 = .ok (.aload_n 0, 1) := by decide +kernel
theorem dX9_settles_23 : decode cX9_settles 23 = .ok (.getfield 125, 3) := by decide +kernel
theorem dX9_settles_26 : decode cX9_settles 26 = .ok (.aload_n 0, 1) := by decide +kernel
theorem dX9_settles_27 : decode cX9_settles 27 = .ok (.getfield 143, 3) := by decide +kernel
theorem dX9_settles_30 : decode cX9_settles 30 = .ok (.iload_n 1, 1) := by decide +kernel
theorem dX9_settles_31 : decode cX9_settles 31 = .ok (.iaload, 1) := by decide +kernel
theorem dX9_settles_32 : decode cX9_settles 32 = .ok (.sipush 512, 3) := by decide +kernel
theorem dX9_settles_35 : decode cX9_settles 35 = .ok (.idiv, 1) := by decide +kernel
theorem dX9_settles_36 : decode cX9_settles 36 = .ok (.dup2, 1) := by decide +kernel
theorem dX9_settles_37 : decode cX9_settles 37 = .ok (.iaload, 1) := by decide +kernel
theorem dX9_settles_38 : decode cX9_settles 38 = .ok (.iconst 1, 1) := by decide +kernel
theorem dX9_settles_39 : decode cX9_settles 39 = .ok (.iadd, 1) := by decide +kernel
theorem dX9_settles_40 : decode cX9_settles 40 = .ok (.iastore, 1) := by decide +kernel
theorem dX9_settles_41 : decode cX9_settles 41 = .ok (.iinc 1 1, 3) := by decide +kernel
theorem dX9_settles_44 : decode cX9_settles 44 = .ok (.goto (-42), 3) := by decide +kernel
theorem dX9_settles_47 : decode cX9_settles 47 = .ok (.aload_n 0, 1) := by decide +kernel
theorem dX9_settles_48 : decode cX9_settles 48 = .ok (.iconst 0, 1) := by decide +kernel
theorem dX9_settles_49 : decode cX9_settles 49 = .ok (.putfield 461, 3) := by decide +kernel
theorem dX9_settles_52 : decode cX9_settles 52 = .ok (.return_, 1) := by decide +kernel
theorem dX9_sign_0 : decode cX9_sign 0 = .ok (.aload_n 0, 1) := by decide +kernel
theorem dX9_sign_1 : decode cX9_sign 1 = .ok (.iconst 4, 1) := by decide +kernel
theorem dX9_sign_2 : decode cX9_sign 2 = .ok (.putfield 210, 3) := by decide +kernel
theorem dX9_sign_5 : decode cX9_sign 5 = .ok (.aload_n 0, 1) := by decide +kernel
theorem dX9_sign_6 : decode cX9_sign 6 = .ok (.iload_n 1, 1) := by decide +kernel
theorem dX9_sign_7 : decode cX9_sign 7 = .ok (.i2l, 1) := by decide +kernel
theorem dX9_sign_8 : decode cX9_sign 8 = .ok (.putfield 206, 3) := by decide +kernel
theorem dX9_sign_11 : decode cX9_sign 11 = .ok (.aload_n 0, 1) := by decide +kernel
theorem dX9_sign_12 : decode cX9_sign 12 = .ok (.dup, 1) := by decide +kernel
theorem dX9_sign_13 : decode cX9_sign 13 = .ok (.getfield 197, 3) := by decide +kernel
theorem dX9_sign_16 : decode cX9_sign 16 = .ok (.iconst 1, 1) := by decide +kernel
theorem dX9_sign_17 : decode cX9_sign 17 = .ok (.iadd, 1) := by decide +kernel
theorem dX9_sign_18 : decode cX9_sign 18 = .ok (.putfield 197, 3) := by decide +kernel
theorem dX9_sign_21 : decode cX9_sign 21 = .ok (.iload_n 1, 1) := by decide +kernel
theorem dX9_sign_22 : decode cX9_sign 22 = .ok (.tableswitch 117 37 61 #[114, 117, 117, 114, 114, 114, 114, 117, 114, 114, 114, 117, 117, 117, 117, 117, 117, 117, 117, 117, 117, 114, 114, 114, 114], 114) := by decide +kernel
theorem dX9_sign_136 : decode cX9_sign 136 = .ok (.goto 8, 3) := by decide +kernel
theorem dX9_sign_139 : decode cX9_sign 139 = .ok (.aload_n 0, 1) := by decide +kernel
theorem dX9_sign_140 : decode cX9_sign 140 = .ok (.iconst 5, 1) := by decide +kernel
theorem dX9_sign_141 : decode cX9_sign 141 = .ok (.putfield 210, 3) := by decide +kernel
theorem dX9_sign_144 : decode cX9_sign 144 = .ok (.return_, 1) := by decide +kernel
theorem dX9_signed_0 : decode cX9_signed 0 = .ok (.aload_n 0, 1) := by decide +kernel
theorem dX9_signed_1 : decode cX9_signed 1 = .ok (.dup, 1) := by decide +kernel
theorem dX9_signed_2 : decode cX9_signed 2 = .ok (.getfield 492, 3) := by decide +kernel
theorem dX9_signed_5 : decode cX9_signed 5 = .ok (.iconst 2, 1) := by decide +kernel
theorem dX9_signed_6 : decode cX9_signed 6 = .ok (.isub, 1) := by decide +kernel
theorem dX9_signed_7 : decode cX9_signed 7 = .ok (.putfield 492, 3) := by decide +kernel
theorem dX9_signed_10 : decode cX9_signed 10 = .ok (.aload_n 0, 1) := by decide +kernel
theorem dX9_signed_11 : decode cX9_signed 11 = .ok (.getfield 167, 3) := by decide +kernel
theorem dX9_signed_14 : decode cX9_signed 14 = .ok (.aload_n 0, 1) := by decide +kernel
theorem dX9_signed_15 : decode cX9_signed 15 = .ok (.getfield 492, 3) := by decide +kernel
theorem dX9_signed_18 : decode cX9_signed 18 = .ok (.iaload, 1) := by decide +kernel
theorem dX9_signed_19 : decode cX9_signed 19 = .ok (.istore_n 2, 1) := by decide +kernel
theorem dX9_signed_20 : decode cX9_signed 20 = .ok (.aload_n 0, 1) := by decide +kernel
theorem dX9_signed_21 : decode cX9_signed 21 = .ok (.getfield 167, 3) := by decide +kernel
theorem dX9_signed_24 : decode cX9_signed 24 = .ok (.aload_n 0, 1) := by decide +kernel
theorem dX9_signed_25 : decode cX9_signed 25 = .ok (.getfield 492, 3) := by decide +kernel
theorem dX9_signed_28 : decode cX9_signed 28 = .ok (.iconst 1, 1) := by decide +kernel
theorem dX9_signed_29 : decode cX9_signed 29 = .ok (.iadd, 1) := by decide +kernel
theorem dX9_signed_30 : decode cX9_signed 30 = .ok (.iaload, 1) := by decide +kernel
theorem dX9_signed_31 : decode cX9_signed 31 = .ok (.istore_n 3, 1) := by decide +kernel
theorem dX9_signed_32 : decode cX9_signed 32 = .ok (.aload_n 0, 1) := by decide +kernel
theorem dX9_signed_33 : decode cX9_signed 33 = .ok (.getfield 170, 3) := by decide +kernel
theorem dX9_signed_36 : decode cX9_signed 36 = .ok (.aload_n 0, 1) := by decide +kernel
theorem dX9_signed_37 : decode cX9_signed 37 = .ok (.getfield 492, 3) := by decide +kernel
theorem dX9_signed_40 : decode cX9_signed 40 = .ok (.baload, 1) := by decide +kernel
theorem dX9_signed_41 : decode cX9_signed 41 = .ok (.ifCond .ne 17, 3) := by decide +kernel
theorem dX9_signed_44 : decode cX9_signed 44 = .ok (.aload_n 0, 1) := by decide +kernel
theorem dX9_signed_45 : decode cX9_signed 45 = .ok (.getfield 170, 3) := by decide +kernel
theorem dX9_signed_48 : decode cX9_signed 48 = .ok (.aload_n 0, 1) := by decide +kernel
theorem dX9_signed_49 : decode cX9_signed 49 = .ok (.getfield 492, 3) := by decide +kernel
theorem dX9_signed_52 : decode cX9_signed 52 = .ok (.iconst 1, 1) := by decide +kernel
theorem dX9_signed_53 : decode cX9_signed 53 = .ok (.iadd, 1) := by decide +kernel
theorem dX9_signed_54 : decode cX9_signed 54 = .ok (.baload, 1) := by decide +kernel
theorem dX9_signed_55 : decode cX9_signed 55 = .ok (.ifCond .eq 7, 3) := by decide +kernel
theorem dX9_signed_58 : decode cX9_signed 58 = .ok (.iconst 1, 1) := by decide +kernel
theorem dX9_signed_59 : decode cX9_signed 59 = .ok (.goto 4, 3) := by decide +kernel
theorem dX9_signed_62 : decode cX9_signed 62 = .ok (.iconst 0, 1) := by decide +kernel
theorem dX9_signed_63 : decode cX9_signed 63 = .ok (.istore 4, 2) := by decide +kernel
theorem dX9_signed_65 : decode cX9_signed 65 = .ok (.iload_n 1, 1) := by decide +kernel
theorem dX9_signed_66 : decode cX9_signed 66 = .ok (.tableswitch 200 42 61 #[156, 132, 200, 144, 200, 168, 200, 200, 200, 200, 200, 200, 200, 200, 200, 200, 200, 200, 94, 113], 94) := by decide +kernel
theorem dX9_signed_160 : decode cX9_signed 160 = .ok (.aload_n 0, 1) := by decide +kernel
theorem dX9_signed_161 : decode cX9_signed 161 = .ok (.iload_n 2, 1) := by decide +kernel
theorem dX9_signed_162 : decode cX9_signed 162 = .ok (.iload_n 3, 1) := by decide +kernel
theorem dX9_signed_163 : decode cX9_signed 163 = .ok (.if_icmp .ge 7, 3) := by decide +kernel
theorem dX9_signed_166 : decode cX9_signed 166 = .ok (.iconst 1, 1) := by decide +kernel
theorem dX9_signed_167 : decode cX9_signed 167 = .ok (.goto 4, 3) := by decide +kernel
theorem dX9_signed_170 : decode cX9_signed 170 = .ok (.iconst 0, 1) := by decide +kernel
theorem dX9_signed_171 : decode cX9_signed 171 = .ok (.iload 4, 2) := by decide +kernel
theorem dX9_signed_173 : decode cX9_signed 173 = .ok (.invokevirtual 498, 3) := by decide +kernel
theorem dX9_signed_176 : decode cX9_signed 176 = .ok (.goto 119, 3) := by decide +kernel
theorem dX9_signed_179 : decode cX9_signed 179 = .ok (.aload_n 0, 1) := by decide +kernel
theorem dX9_signed_180 : decode cX9_signed 180 = .ok (.iload_n 2, 1) := by decide +kernel
theorem dX9_signed_181 : decode cX9_signed 181 = .ok (.iload_n 3, 1) := by decide +kernel
theorem dX9_signed_182 : decode cX9_signed 182 = .ok (.if_icmp .ne 7, 3) := by decide +kernel
theorem dX9_signed_185 : decode cX9_signed 185 = .ok (.iconst 1, 1) := by decide +kernel
theorem dX9_signed_186 : decode cX9_signed 186 = .ok (.goto 4, 3) := by decide +kernel
theorem dX9_signed_189 : decode cX9_signed 189 = .ok (.iconst 0, 1) := by decide +kernel
theorem dX9_signed_190 : decode cX9_signed 190 = .ok (.iload 4, 2) := by decide +kernel
theorem dX9_signed_192 : decode cX9_signed 192 = .ok (.invokevirtual 498, 3) := by decide +kernel
theorem dX9_signed_195 : decode cX9_signed 195 = .ok (.goto 100, 3) := by decide +kernel
theorem dX9_signed_198 : decode cX9_signed 198 = .ok (.aload_n 0, 1) := by decide +kernel
theorem dX9_signed_199 : decode cX9_signed 199 = .ok (.iload_n 2, 1) := by decide +kernel
theorem dX9_signed_200 : decode cX9_signed 200 = .ok (.iload_n 3, 1) := by decide +kernel
theorem dX9_signed_201 : decode cX9_signed 201 = .ok (.iadd, 1) := by decide +kernel
theorem dX9_signed_202 : decode cX9_signed 202 = .ok (.iload 4, 2) := by decide +kernel
theorem dX9_signed_204 : decode cX9_signed 204 = .ok (.invokevirtual 498, 3) := by decide +kernel
theorem dX9_signed_207 : decode cX9_signed 207 = .ok (.goto 88, 3) := by decide +kernel
theorem dX9_signed_210 : decode cX9_signed 210 = .ok (.aload_n 0, 1) := by decide +kernel
theorem dX9_signed_211 : decode cX9_signed 211 = .ok (.iload_n 2, 1) := by decide +kernel
theorem dX9_signed_212 : decode cX9_signed 212 = .ok (.iload_n 3, 1) := by decide +kernel
theorem dX9_signed_213 : decode cX9_signed 213 = .ok (.isub, 1) := by decide +kernel
theorem dX9_signed_214 : decode cX9_signed 214 = .ok (.iload 4, 2) := by decide +kernel
theorem dX9_signed_216 : decode cX9_signed 216 = .ok (.invokevirtual 498, 3) := by decide +kernel
theorem dX9_signed_219 : decode cX9_signed 219 = .ok (.goto 76, 3) := by decide +kernel
theorem dX9_signed_222 : decode cX9_signed 222 = .ok (.aload_n 0, 1) := by decide +kernel
theorem dX9_signed_223 : decode cX9_signed 223 = .ok (.iload_n 2, 1) := by decide +kernel
theorem dX9_signed_224 : decode cX9_signed 224 = .ok (.iload_n 3, 1) := by decide +kernel
theorem dX9_signed_225 : decode cX9_signed 225 = .ok (.imul, 1) := by decide +kernel
theorem dX9_signed_226 : decode cX9_signed 226 = .ok (.iload 4, 2) := by decide +kernel
theorem dX9_signed_228 : decode cX9_signed 228 = .ok (.invokevirtual 498, 3) := by decide +kernel
theorem dX9_signed_231 : decode cX9_signed 231 = .ok (.goto 64, 3) := by decide +kernel
theorem dX9_signed_234 : decode cX9_signed 234 = .ok (.aload_n 0, 1) := by decide +kernel
theorem dX9_signed_235 : decode cX9_signed 235 = .ok (.iload_n 3, 1) := by decide +kernel
theorem dX9_signed_236 : decode cX9_signed 236 = .ok (.ifCond .ne 7, 3) := by decide +kernel
theorem dX9_signed_239 : decode cX9_signed 239 = .ok (.iconst 0, 1) := by decide +kernel
theorem dX9_signed_240 : decode cX9_signed 240 = .ok (.goto 6, 3) := by decide +kernel
theorem dX9_signed_243 : decode cX9_signed 243 = .ok (.iload_n 2, 1) := by decide +kernel
theorem dX9_signed_244 : decode cX9_signed 244 = .ok (.iload_n 3, 1) := by decide +kernel
theorem dX9_signed_245 : decode cX9_signed 245 = .ok (.idiv, 1) := by decide +kernel
theorem dX9_signed_246 : decode cX9_signed 246 = .ok (.iload 4, 2) := by decide +kernel
theorem dX9_signed_248 : decode cX9_signed 248 = .ok (.ifCond .ne 7, 3) := by decide +kernel
theorem dX9_signed_251 : decode cX9_signed 251 = .ok (.iload_n 3, 1) := by decide +kernel
theorem dX9_signed_252 : decode cX9_signed 252 = .ok (.ifCond .ne 7, 3) := by decide +kernel
theorem dX9_signed_255 : decode cX9_signed 255 = .ok (.iconst 1, 1) := by decide +kernel
theorem dX9_signed_256 : decode cX9_signed 256 = .ok (.goto 4, 3) := by decide +kernel
theorem dX9_signed_259 : decode cX9_signed 259 = .ok (.iconst 0, 1) := by decide +kernel
theorem dX9_signed_260 : decode cX9_signed 260 = .ok (.invokevirtual 498, 3) := by decide +kernel
theorem dX9_signed_263 : decode cX9_signed 263 = .ok (.goto 32, 3) := by decide +kernel
theorem dX9_signed_266 : decode cX9_signed 266 = .ok (.aload_n 0, 1) := by decide +kernel
theorem dX9_signed_267 : decode cX9_signed 267 = .ok (.iload_n 3, 1) := by decide +kernel
theorem dX9_signed_268 : decode cX9_signed 268 = .ok (.ifCond .ne 7, 3) := by decide +kernel
theorem dX9_signed_271 : decode cX9_signed 271 = .ok (.iconst 0, 1) := by decide +kernel
theorem dX9_signed_272 : decode cX9_signed 272 = .ok (.goto 6, 3) := by decide +kernel
theorem dX9_signed_275 : decode cX9_signed 275 = .ok (.iload_n 2, 1) := by decide +kernel
theorem dX9_signed_276 : decode cX9_signed 276 = .ok (.iload_n 3, 1) := by decide +kernel
theorem dX9_signed_277 : decode cX9_signed 277 = .ok (.irem, 1) := by decide +kernel
theorem dX9_signed_278 : decode cX9_signed 278 = .ok (.iload 4, 2) := by decide +kernel
theorem dX9_signed_280 : decode cX9_signed 280 = .ok (.ifCond .ne 7, 3) := by decide +kernel
theorem dX9_signed_283 : decode cX9_signed 283 = .ok (.iload_n 3, 1) := by decide +kernel
theorem dX9_signed_284 : decode cX9_signed 284 = .ok (.ifCond .ne 7, 3) := by decide +kernel
theorem dX9_signed_287 : decode cX9_signed 287 = .ok (.iconst 1, 1) := by decide +kernel
theorem dX9_signed_288 : decode cX9_signed 288 = .ok (.goto 4, 3) := by decide +kernel
theorem dX9_signed_291 : decode cX9_signed 291 = .ok (.iconst 0, 1) := by decide +kernel
theorem dX9_signed_292 : decode cX9_signed 292 = .ok (.invokevirtual 498, 3) := by decide +kernel
theorem dX9_signed_295 : decode cX9_signed 295 = .ok (.return_, 1) := by decide +kernel
theorem dX9_signs_0 : decode cX9_signs 0 = .ok (.aload_n 0, 1) := by decide +kernel
theorem dX9_signs_1 : decode cX9_signs 1 = .ok (.getfield 74, 3) := by decide +kernel
theorem dX9_signs_4 : decode cX9_signs 4 = .ok (.aload_n 0, 1) := by decide +kernel
theorem dX9_signs_5 : decode cX9_signs 5 = .ok (.getfield 319, 3) := by decide +kernel
theorem dX9_signs_8 : decode cX9_signs 8 = .ok (.iconst 1, 1) := by decide +kernel
theorem dX9_signs_9 : decode cX9_signs 9 = .ok (.isub, 1) := by decide +kernel
theorem dX9_signs_10 : decode cX9_signs 10 = .ok (.iaload, 1) := by decide +kernel
theorem dX9_signs_11 : decode cX9_signs 11 = .ok (.iconst 5, 1) := by decide +kernel
theorem dX9_signs_12 : decode cX9_signs 12 = .ok (.if_icmp .ne 32, 3) := by decide +kernel
theorem dX9_signs_15 : decode cX9_signs 15 = .ok (.aload_n 0, 1) := by decide +kernel
theorem dX9_signs_16 : decode cX9_signs 16 = .ok (.dup, 1) := by decide +kernel
theorem dX9_signs_17 : decode cX9_signs 17 = .ok (.getfield 319, 3) := by decide +kernel
theorem dX9_signs_20 : decode cX9_signs 20 = .ok (.iconst 1, 1) := by decide +kernel
theorem dX9_signs_21 : decode cX9_signs 21 = .ok (.isub, 1) := by decide +kernel
theorem dX9_signs_22 : decode cX9_signs 22 = .ok (.putfield 319, 3) := by decide +kernel
theorem dX9_signs_25 : decode cX9_signs 25 = .ok (.aload_n 0, 1) := by decide +kernel
theorem dX9_signs_26 : decode cX9_signs 26 = .ok (.dup, 1) := by decide +kernel
theorem dX9_signs_27 : decode cX9_signs 27 = .ok (.getfield 308, 3) := by decide +kernel
theorem dX9_signs_30 : decode cX9_signs 30 = .ok (.iconst 1, 1) := by decide +kernel
theorem dX9_signs_31 : decode cX9_signs 31 = .ok (.isub, 1) := by decide +kernel
theorem dX9_signs_32 : decode cX9_signs 32 = .ok (.putfield 308, 3) := by decide +kernel
theorem dX9_signs_35 : decode cX9_signs 35 = .ok (.aload_n 0, 1) := by decide +kernel
theorem dX9_signs_36 : decode cX9_signs 36 = .ok (.iconst 3, 1) := by decide +kernel
theorem dX9_signs_37 : decode cX9_signs 37 = .ok (.iconst 0, 1) := by decide +kernel
theorem dX9_signs_38 : decode cX9_signs 38 = .ok (.invokevirtual 317, 3) := by decide +kernel
theorem dX9_signs_41 : decode cX9_signs 41 = .ok (.goto (-41), 3) := by decide +kernel
theorem dX9_signs_44 : decode cX9_signs 44 = .ok (.aload_n 0, 1) := by decide +kernel
theorem dX9_signs_45 : decode cX9_signs 45 = .ok (.invokevirtual 234, 3) := by decide +kernel
theorem dX9_signs_48 : decode cX9_signs 48 = .ok (.ifCond .eq 21, 3) := by decide +kernel
theorem dX9_signs_51 : decode cX9_signs 51 = .ok (.aload_n 0, 1) := by decide +kernel
theorem dX9_signs_52 : decode cX9_signs 52 = .ok (.getfield 210, 3) := by decide +kernel
theorem dX9_signs_55 : decode cX9_signs 55 = .ok (.iconst 4, 1) := by decide +kernel
theorem dX9_signs_56 : decode cX9_signs 56 = .ok (.if_icmp .ne 13, 3) := by decide +kernel
theorem dX9_signs_59 : decode cX9_signs 59 = .ok (.aload_n 0, 1) := by decide +kernel
theorem dX9_signs_60 : decode cX9_signs 60 = .ok (.getfield 206, 3) := by decide +kernel
theorem dX9_signs_63 : decode cX9_signs 63 = .ok (.invokestatic 368, 3) := by decide +kernel
theorem dX9_signs_66 : decode cX9_signs 66 = .ok (.goto 4, 3) := by decide +kernel
theorem dX9_signs_69 : decode cX9_signs 69 = .ok (.iconst 0, 1) := by decide +kernel
theorem dX9_signs_70 : decode cX9_signs 70 = .ok (.istore_n 1, 1) := by decide +kernel
theorem dX9_signs_71 : decode cX9_signs 71 = .ok (.iload_n 1, 1) := by decide +kernel
theorem dX9_signs_72 : decode cX9_signs 72 = .ok (.ifCond .le 17, 3) := by decide +kernel
theorem dX9_signs_75 : decode cX9_signs 75 = .ok (.aload_n 0, 1) := by decide +kernel
theorem dX9_signs_76 : decode cX9_signs 76 = .ok (.iload_n 1, 1) := by decide +kernel
theorem dX9_signs_77 : decode cX9_signs 77 = .ok (.iconst 1, 1) := by decide +kernel
theorem dX9_signs_78 : decode cX9_signs 78 = .ok (.if_icmp .ne 7, 3) := by decide +kernel
theorem dX9_signs_81 : decode cX9_signs 81 = .ok (.iconst 2, 1) := by decide +kernel
theorem dX9_signs_82 : decode cX9_signs 82 = .ok (.goto 4, 3) := by decide +kernel
theorem dX9_signs_85 : decode cX9_signs 85 = .ok (.iload_n 1, 1) := by decide +kernel
theorem dX9_signs_86 : decode cX9_signs 86 = .ok (.invokevirtual 371, 3) := by decide +kernel
theorem dX9_signs_89 : decode cX9_signs 89 = .ok (.iload_n 1, 1) := by decide +kernel
theorem dX9_signs_90 : decode cX9_signs 90 = .ok (.ifCond .eq 24, 3) := by decide +kernel
theorem dX9_signs_93 : decode cX9_signs 93 = .ok (.iload_n 1, 1) := by decide +kernel
theorem dX9_signs_94 : decode cX9_signs 94 = .ok (.iconst 1, 1) := by decide +kernel
theorem dX9_signs_95 : decode cX9_signs 95 = .ok (.if_icmp .ne 29, 3) := by decide +kernel
theorem dX9_signs_98 : decode cX9_signs 98 = .ok (.aload_n 0, 1) := by decide +kernel
theorem dX9_signs_99 : decode cX9_signs 99 = .ok (.getfield 74, 3) := by decide +kernel
theorem dX9_signs_102 : decode cX9_signs 102 = .ok (.aload_n 0, 1) := by decide +kernel
theorem dX9_signs_103 : decode cX9_signs 103 = .ok (.getfield 319, 3) := by decide +kernel
theorem dX9_signs_106 : decode cX9_signs 106 = .ok (.iconst 1, 1) := by decide +kernel
theorem dX9_signs_107 : decode cX9_signs 107 = .ok (.isub, 1) := by decide +kernel
theorem dX9_signs_108 : decode cX9_signs 108 = .ok (.iaload, 1) := by decide +kernel
theorem dX9_signs_109 : decode cX9_signs 109 = .ok (.bipush 6, 2) := by decide +kernel
theorem dX9_signs_111 : decode cX9_signs 111 = .ok (.if_icmp .ne 13, 3) := by decide +kernel
theorem dX9_signs_114 : decode cX9_signs 114 = .ok (.aload_n 0, 1) := by decide +kernel
theorem dX9_signs_115 : decode cX9_signs 115 = .ok (.iconst 1, 1) := by decide +kernel
theorem dX9_signs_116 : decode cX9_signs 116 = .ok (.invokevirtual 371, 3) := by decide +kernel
theorem dX9_signs_119 : decode cX9_signs 119 = .ok (.aload_n 0, 1) := by decide +kernel
theorem dX9_signs_120 : decode cX9_signs 120 = .ok (.invokevirtual 343, 3) := by decide +kernel
theorem dX9_signs_123 : decode cX9_signs 123 = .ok (.return_, 1) := by decide +kernel
theorem dX9_signs_124 : decode cX9_signs 124 = .ok (.aload_n 0, 1) := by decide +kernel
theorem dX9_signs_125 : decode cX9_signs 125 = .ok (.bipush 6, 2) := by decide +kernel
theorem dX9_signs_127 : decode cX9_signs 127 = .ok (.aload_n 0, 1) := by decide +kernel
theorem dX9_signs_128 : decode cX9_signs 128 = .ok (.getfield 206, 3) := by decide +kernel
theorem dX9_signs_131 : decode cX9_signs 131 = .ok (.l2i, 1) := by decide +kernel
theorem dX9_signs_132 : decode cX9_signs 132 = .ok (.invokevirtual 325, 3) := by decide +kernel
theorem dX9_signs_135 : decode cX9_signs 135 = .ok (.aload_n 0, 1) := by decide +kernel
theorem dX9_signs_136 : decode cX9_signs 136 = .ok (.invokevirtual 334, 3) := by decide +kernel
theorem dX9_signs_139 : decode cX9_signs 139 = .ok (.aload_n 0, 1) := by decide +kernel
theorem dX9_signs_140 : decode cX9_signs 140 = .ok (.iconst 1, 1) := by decide +kernel
theorem dX9_signs_141 : decode cX9_signs 141 = .ok (.putfield 328, 3) := by decide +kernel
theorem dX9_signs_144 : decode cX9_signs 144 = .ok (.return_, 1) := by decide +kernel
theorem dX9_stray_0 : decode cX9_stray 0 = .ok (.aload_n 0, 1) := by decide +kernel
theorem dX9_stray_1 : decode cX9_stray 1 = .ok (.iconst 1, 1) := by decide +kernel
theorem dX9_stray_2 : decode cX9_stray 2 = .ok (.aload_n 0, 1) := by decide +kernel
theorem dX9_stray_3 : decode cX9_stray 3 = .ok (.getfield 190, 3) := by decide +kernel
theorem dX9_stray_6 : decode cX9_stray 6 = .ok (.invokevirtual 193, 3) := by decide +kernel
theorem dX9_stray_9 : decode cX9_stray 9 = .ok (.return_, 1) := by decide +kernel
theorem dX9_symbol_0 : decode cX9_symbol 0 = .ok (.aload_n 0, 1) := by decide +kernel
theorem dX9_symbol_1 : decode cX9_symbol 1 = .ok (.invokevirtual 242, 3) := by decide +kernel
theorem dX9_symbol_4 : decode cX9_symbol 4 = .ok (.aload_n 0, 1) := by decide +kernel
theorem dX9_symbol_5 : decode cX9_symbol 5 = .ok (.invokevirtual 251, 3) := by decide +kernel
theorem dX9_symbol_8 : decode cX9_symbol 8 = .ok (.ifCond .ne 4, 3) := by decide +kernel
theorem dX9_symbol_11 : decode cX9_symbol 11 = .ok (.return_, 1) := by decide +kernel
theorem dX9_symbol_12 : decode cX9_symbol 12 = .ok (.aload_n 0, 1) := by decide +kernel
theorem dX9_symbol_13 : decode cX9_symbol 13 = .ok (.aload_n 0, 1) := by decide +kernel
theorem dX9_symbol_14 : decode cX9_symbol 14 = .ok (.getfield 206, 3) := by decide +kernel
theorem dX9_symbol_17 : decode cX9_symbol 17 = .ok (.invokevirtual 254, 3) := by decide +kernel
theorem dX9_symbol_20 : decode cX9_symbol 20 = .ok (.ifCond .lt 12, 3) := by decide +kernel
theorem dX9_symbol_23 : decode cX9_symbol 23 = .ok (.aload_n 0, 1) := by decide +kernel
theorem dX9_symbol_24 : decode cX9_symbol 24 = .ok (.iconst 2, 1) := by decide +kernel
theorem dX9_symbol_25 : decode cX9_symbol 25 = .ok (.aload_n 0, 1) := by decide +kernel
theorem dX9_symbol_26 : decode cX9_symbol 26 = .ok (.getfield 190, 3) := by decide +kernel
theorem dX9_symbol_29 : decode cX9_symbol 29 = .ok (.invokevirtual 193, 3) := by decide +kernel
theorem dX9_symbol_32 : decode cX9_symbol 32 = .ok (.aload_n 0, 1) := by decide +kernel
theorem dX9_symbol_33 : decode cX9_symbol 33 = .ok (.getfield 248, 3) := by decide +kernel
theorem dX9_symbol_36 : decode cX9_symbol 36 = .ok (.bipush 12, 2) := by decide +kernel
theorem dX9_symbol_38 : decode cX9_symbol 38 = .ok (.if_icmp .ne 12, 3) := by decide +kernel
theorem dX9_symbol_41 : decode cX9_symbol 41 = .ok (.aload_n 0, 1) := by decide +kernel
theorem dX9_symbol_42 : decode cX9_symbol 42 = .ok (.iconst 4, 1) := by decide +kernel
theorem dX9_symbol_43 : decode cX9_symbol 43 = .ok (.aload_n 0, 1) := by decide +kernel
theorem dX9_symbol_44 : decode cX9_symbol 44 = .ok (.getfield 190, 3) := by decide +kernel
theorem dX9_symbol_47 : decode cX9_symbol 47 = .ok (.invokevirtual 193, 3) := by decide +kernel
theorem dX9_symbol_50 : decode cX9_symbol 50 = .ok (.aload_n 0, 1) := by decide +kernel
theorem dX9_symbol_51 : decode cX9_symbol 51 = .ok (.invokevirtual 234, 3) := by decide +kernel
theorem dX9_symbol_54 : decode cX9_symbol 54 = .ok (.ifCond .ne 4, 3) := by decide +kernel
theorem dX9_symbol_57 : decode cX9_symbol 57 = .ok (.return_, 1) := by decide +kernel
theorem dX9_symbol_58 : decode cX9_symbol 58 = .ok (.aload_n 0, 1) := by decide +kernel
theorem dX9_symbol_59 : decode cX9_symbol 59 = .ok (.getfield 248, 3) := by decide +kernel
theorem dX9_symbol_62 : decode cX9_symbol 62 = .ok (.istore_n 1, 1) := by decide +kernel
theorem dX9_symbol_63 : decode cX9_symbol 63 = .ok (.aload_n 0, 1) := by decide +kernel
theorem dX9_symbol_64 : decode cX9_symbol 64 = .ok (.getfield 26, 3) := by decide +kernel
theorem dX9_symbol_67 : decode cX9_symbol 67 = .ok (.iload_n 1, 1) := by decide +kernel
theorem dX9_symbol_68 : decode cX9_symbol 68 = .ok (.aload_n 0, 1) := by decide +kernel
theorem dX9_symbol_69 : decode cX9_symbol 69 = .ok (.getfield 206, 3) := by decide +kernel
theorem dX9_symbol_72 : decode cX9_symbol 72 = .ok (.lastore, 1) := by decide +kernel
theorem dX9_symbol_73 : decode cX9_symbol 73 = .ok (.aload_n 0, 1) := by decide +kernel
theorem dX9_symbol_74 : decode cX9_symbol 74 = .ok (.getfield 30, 3) := by decide +kernel
theorem dX9_symbol_77 : decode cX9_symbol 77 = .ok (.iload_n 1, 1) := by decide +kernel
theorem dX9_symbol_78 : decode cX9_symbol 78 = .ok (.iconst 0, 1) := by decide +kernel
theorem dX9_symbol_79 : decode cX9_symbol 79 = .ok (.iastore, 1) := by decide +kernel
theorem dX9_symbol_80 : decode cX9_symbol 80 = .ok (.aload_n 0, 1) := by decide +kernel
theorem dX9_symbol_81 : decode cX9_symbol 81 = .ok (.dup, 1) := by decide +kernel
theorem dX9_symbol_82 : decode cX9_symbol 82 = .ok (.getfield 248, 3) := by decide +kernel
theorem dX9_symbol_85 : decode cX9_symbol 85 = .ok (.iconst 1, 1) := by decide +kernel
theorem dX9_symbol_86 : decode cX9_symbol 86 = .ok (.iadd, 1) := by decide +kernel
theorem dX9_symbol_87 : decode cX9_symbol 87 = .ok (.putfield 248, 3) := by decide +kernel
theorem dX9_symbol_90 : decode cX9_symbol 90 = .ok (.aload_n 0, 1) := by decide +kernel
theorem dX9_symbol_91 : decode cX9_symbol 91 = .ok (.invokevirtual 242, 3) := by decide +kernel
theorem dX9_symbol_94 : decode cX9_symbol 94 = .ok (.aload_n 0, 1) := by decide +kernel
theorem dX9_symbol_95 : decode cX9_symbol 95 = .ok (.iconst 1, 1) := by decide +kernel
theorem dX9_symbol_96 : decode cX9_symbol 96 = .ok (.invokevirtual 258, 3) := by decide +kernel
theorem dX9_symbol_99 : decode cX9_symbol 99 = .ok (.ifCond .ne 11, 3) := by decide +kernel
theorem dX9_symbol_102 : decode cX9_symbol 102 = .ok (.aload_n 0, 1) := by decide +kernel
theorem dX9_symbol_103 : decode cX9_symbol 103 = .ok (.iconst 2, 1) := by decide +kernel
theorem dX9_symbol_104 : decode cX9_symbol 104 = .ok (.invokevirtual 258, 3) := by decide +kernel
theorem dX9_symbol_107 : decode cX9_symbol 107 = .ok (.ifCond .eq 38, 3) := by decide +kernel
theorem dX9_symbol_110 : decode cX9_symbol 110 = .ok (.aload_n 0, 1) := by decide +kernel
theorem dX9_symbol_111 : decode cX9_symbol 111 = .ok (.getfield 206, 3) := by decide +kernel
theorem dX9_symbol_114 : decode cX9_symbol 114 = .ok (.lconst 1, 1) := by decide +kernel
theorem dX9_symbol_115 : decode cX9_symbol 115 = .ok (.lcmp, 1) := by decide +kernel
theorem dX9_symbol_116 : decode cX9_symbol 116 = .ok (.ifCond .ne 7, 3) := by decide +kernel
theorem dX9_symbol_119 : decode cX9_symbol 119 = .ok (.iconst 1, 1) := by decide +kernel
theorem dX9_symbol_120 : decode cX9_symbol 120 = .ok (.goto 4, 3) := by decide +kernel
theorem dX9_symbol_123 : decode cX9_symbol 123 = .ok (.iconst 0, 1) := by decide +kernel
theorem dX9_symbol_124 : decode cX9_symbol 124 = .ok (.istore_n 2, 1) := by decide +kernel
theorem dX9_symbol_125 : decode cX9_symbol 125 = .ok (.aload_n 0, 1) := by decide +kernel
theorem dX9_symbol_126 : decode cX9_symbol 126 = .ok (.invokevirtual 242, 3) := by decide +kernel
theorem dX9_symbol_129 : decode cX9_symbol 129 = .ok (.aload_n 0, 1) := by decide +kernel
theorem dX9_symbol_130 : decode cX9_symbol 130 = .ok (.invokevirtual 251, 3) := by decide +kernel
theorem dX9_symbol_133 : decode cX9_symbol 133 = .ok (.ifCond .eq 9, 3) := by decide +kernel
theorem dX9_symbol_136 : decode cX9_symbol 136 = .ok (.aload_n 0, 1) := by decide +kernel
theorem dX9_symbol_137 : decode cX9_symbol 137 = .ok (.iload_n 1, 1) := by decide +kernel
theorem dX9_symbol_138 : decode cX9_symbol 138 = .ok (.iload_n 2, 1) := by decide +kernel
theorem dX9_symbol_139 : decode cX9_symbol 139 = .ok (.invokevirtual 261, 3) := by decide +kernel
theorem dX9_symbol_142 : decode cX9_symbol 142 = .ok (.goto (-48), 3) := by decide +kernel
theorem dX9_symbol_145 : decode cX9_symbol 145 = .ok (.aload_n 0, 1) := by decide +kernel
theorem dX9_symbol_146 : decode cX9_symbol 146 = .ok (.bipush 59, 2) := by decide +kernel
theorem dX9_symbol_148 : decode cX9_symbol 148 = .ok (.invokevirtual 265, 3) := by decide +kernel
theorem dX9_symbol_151 : decode cX9_symbol 151 = .ok (.return_, 1) := by decide +kernel
theorem dX9_symbolOf_0 : decode cX9_symbolOf 0 = .ok (.iconst (-1), 1) := by decide +kernel
theorem dX9_symbolOf_1 : decode cX9_symbolOf 1 = .ok (.istore_n 3, 1) := by decide +kernel
theorem dX9_symbolOf_2 : decode cX9_symbolOf 2 = .ok (.iconst 0, 1) := by decide +kernel
theorem dX9_symbolOf_3 : decode cX9_symbolOf 3 = .ok (.istore 4, 2) := by decide +kernel
theorem dX9_symbolOf_5 : decode cX9_symbolOf 5 = .ok (.iload 4, 2) := by decide +kernel
theorem dX9_symbolOf_7 : decode cX9_symbolOf 7 = .ok (.aload_n 0, 1) := by decide +kernel
theorem dX9_symbolOf_8 : decode cX9_symbolOf 8 = .ok (.getfield 248, 3) := by decide +kernel
theorem dX9_symbolOf_11 : decode cX9_symbolOf 11 = .ok (.if_icmp .ge 28, 3) := by decide +kernel
theorem dX9_symbolOf_14 : decode cX9_symbolOf 14 = .ok (.aload_n 0, 1) := by decide +kernel
theorem dX9_symbolOf_15 : decode cX9_symbolOf 15 = .ok (.getfield 26, 3) := by decide +kernel
theorem dX9_symbolOf_18 : decode cX9_symbolOf 18 = .ok (.iload 4, 2) := by decide +kernel
theorem dX9_symbolOf_20 : decode cX9_symbolOf 20 = .ok (.laload, 1) := by decide +kernel
theorem dX9_symbolOf_21 : decode cX9_symbolOf 21 = .ok (.lload_n 1, 1) := by decide +kernel
theorem dX9_symbolOf_22 : decode cX9_symbolOf 22 = .ok (.lcmp, 1) := by decide +kernel
theorem dX9_symbolOf_23 : decode cX9_symbolOf 23 = .ok (.ifCond .ne 8, 3) := by decide +kernel
theorem dX9_symbolOf_26 : decode cX9_symbolOf 26 = .ok (.iload 4, 2) := by decide +kernel
theorem dX9_symbolOf_28 : decode cX9_symbolOf 28 = .ok (.goto 4, 3) := by decide +kernel
theorem dX9_symbolOf_31 : decode cX9_symbolOf 31 = .ok (.iload_n 3, 1) := by decide +kernel
theorem dX9_symbolOf_32 : decode cX9_symbolOf 32 = .ok (.istore_n 3, 1) := by decide +kernel
theorem dX9_symbolOf_33 : decode cX9_symbolOf 33 = .ok (.iinc 4 1, 3) := by decide +kernel
theorem dX9_symbolOf_36 : decode cX9_symbolOf 36 = .ok (.goto (-31), 3) := by decide +kernel
theorem dX9_symbolOf_39 : decode cX9_symbolOf 39 = .ok (.iload_n 3, 1) := by decide +kernel
theorem dX9_symbolOf_40 : decode cX9_symbolOf 40 = .ok (.ireturn, 1) := by decide +kernel
theorem dX9_symbol__0 : decode cX9_symbol_ 0 = .ok (.iload_n 1, 1) := by decide +kernel
theorem dX9_symbol__1 : decode cX9_symbol_ 1 = .ok (.iconst 0, 1) := by decide +kernel
theorem dX9_symbol__2 : decode cX9_symbol_ 2 = .ok (.aload_n 0, 1) := by decide +kernel
theorem dX9_symbol__3 : decode cX9_symbol_ 3 = .ok (.getfield 248, 3) := by decide +kernel
theorem dX9_symbol__6 : decode cX9_symbol_ 6 = .ok (.iconst 1, 1) := by decide +kernel
theorem dX9_symbol__7 : decode cX9_symbol_ 7 = .ok (.isub, 1) := by decide +kernel
theorem dX9_symbol__8 : decode cX9_symbol_ 8 = .ok (.invokestatic 180, 3) := by decide +kernel
theorem dX9_symbol__11 : decode cX9_symbol_ 11 = .ok (.ifCond .ne 5, 3) := by decide +kernel
theorem dX9_symbol__14 : decode cX9_symbol_ 14 = .ok (.iconst (-1), 1) := by decide +kernel
theorem dX9_symbol__15 : decode cX9_symbol_ 15 = .ok (.ireturn, 1) := by decide +kernel
theorem dX9_symbol__16 : decode cX9_symbol_ 16 = .ok (.iload_n 2, 1) := by decide +kernel
theorem dX9_symbol__17 : decode cX9_symbol_ 17 = .ok (.tableswitch 70 0 3 #[31, 38, 44, 63], 31) := by decide +kernel
theorem dX9_symbol__48 : decode cX9_symbol_ 48 = .ok (.aload_n 0, 1) := by decide +kernel
theorem dX9_symbol__49 : decode cX9_symbol_ 49 = .ok (.getfield 30, 3) := by decide +kernel
theorem dX9_symbol__52 : decode cX9_symbol_ 52 = .ok (.iload_n 1, 1) := by decide +kernel
theorem dX9_symbol__53 : decode cX9_symbol_ 53 = .ok (.iaload, 1) := by decide +kernel
theorem dX9_symbol__54 : decode cX9_symbol_ 54 = .ok (.ireturn, 1) := by decide +kernel
theorem dX9_symbol__55 : decode cX9_symbol_ 55 = .ok (.aload_n 0, 1) := by decide +kernel
theorem dX9_symbol__56 : decode cX9_symbol_ 56 = .ok (.iload_n 1, 1) := by decide +kernel
theorem dX9_symbol__57 : decode cX9_symbol_ 57 = .ok (.invokevirtual 419, 3) := by decide +kernel
theorem dX9_symbol__60 : decode cX9_symbol_ 60 = .ok (.ireturn, 1) := by decide +kernel
theorem dX9_symbol__61 : decode cX9_symbol_ 61 = .ok (.aload_n 0, 1) := by decide +kernel
theorem dX9_symbol__62 : decode cX9_symbol_ 62 = .ok (.getfield 446, 3) := by decide +kernel
theorem dX9_symbol__65 : decode cX9_symbol_ 65 = .ok (.ifCond .eq 8, 3) := by decide +kernel
theorem dX9_symbol__68 : decode cX9_symbol_ 68 = .ok (.bipush (-2), 2) := by decide +kernel
theorem dX9_symbol__70 : decode cX9_symbol_ 70 = .ok (.goto 9, 3) := by decide +kernel
theorem dX9_symbol__73 : decode cX9_symbol_ 73 = .ok (.aload_n 0, 1) := by decide +kernel
theorem dX9_symbol__74 : decode cX9_symbol_ 74 = .ok (.getfield 125, 3) := by decide +kernel
theorem dX9_symbol__77 : decode cX9_symbol_ 77 = .ok (.iload_n 1, 1) := by decide +kernel
theorem dX9_symbol__78 : decode cX9_symbol_ 78 = .ok (.iaload, 1) := by decide +kernel
theorem dX9_symbol__79 : decode cX9_symbol_ 79 = .ok (.ireturn, 1) := by decide +kernel
theorem dX9_symbol__80 : decode cX9_symbol_ 80 = .ok (.aload_n 0, 1) := by decide +kernel
theorem dX9_symbol__81 : decode cX9_symbol_ 81 = .ok (.getfield 128, 3) := by decide +kernel
theorem dX9_symbol__84 : decode cX9_symbol_ 84 = .ok (.iload_n 1, 1) := by decide +kernel
theorem dX9_symbol__85 : decode cX9_symbol_ 85 = .ok (.iaload, 1) := by decide +kernel
theorem dX9_symbol__86 : decode cX9_symbol_ 86 = .ok (.ireturn, 1) := by decide +kernel
theorem dX9_symbol__87 : decode cX9_symbol_ 87 = .ok (.iload_n 2, 1) := by decide +kernel
theorem dX9_symbol__88 : decode cX9_symbol_ 88 = .ok (.bipush 100, 2) := by decide +kernel
theorem dX9_symbol__90 : decode cX9_symbol_ 90 = .ok (.bipush 99, 2) := by decide +kernel
theorem dX9_symbol__92 : decode cX9_symbol_ 92 = .ok (.aload_n 0, 1) := by decide +kernel
theorem dX9_symbol__93 : decode cX9_symbol_ 93 = .ok (.getfield 30, 3) := by decide +kernel
theorem dX9_symbol__96 : decode cX9_symbol_ 96 = .ok (.iload_n 1, 1) := by decide +kernel
theorem dX9_symbol__97 : decode cX9_symbol_ 97 = .ok (.iaload, 1) := by decide +kernel
theorem dX9_symbol__98 : decode cX9_symbol_ 98 = .ok (.iadd, 1) := by decide +kernel
theorem dX9_symbol__99 : decode cX9_symbol_ 99 = .ok (.invokestatic 180, 3) := by decide +kernel
theorem dX9_symbol__102 : decode cX9_symbol_ 102 = .ok (.ifCond .ne 7, 3) := by decide +kernel
theorem dX9_symbol__105 : decode cX9_symbol_ 105 = .ok (.iconst (-1), 1) := by decide +kernel
theorem dX9_symbol__106 : decode cX9_symbol_ 106 = .ok (.goto 25, 3) := by decide +kernel
theorem dX9_symbol__109 : decode cX9_symbol_ 109 = .ok (.aload_n 0, 1) := by decide +kernel
theorem dX9_symbol__110 : decode cX9_symbol_ 110 = .ok (.getfield 37, 3) := by decide +kernel
theorem dX9_symbol__113 : decode cX9_symbol_ 113 = .ok (.bipush 6, 2) := by decide +kernel
theorem dX9_symbol__115 : decode cX9_symbol_ 115 = .ok (.iload_n 1, 1) := by decide +kernel
theorem dX9_symbol__116 : decode cX9_symbol_ 116 = .ok (.imul, 1) := by decide +kernel
theorem dX9_symbol__117 : decode cX9_symbol_ 117 = .ok (.iload_n 2, 1) := by decide +kernel
theorem dX9_symbol__118 : decode cX9_symbol_ 118 = .ok (.iadd, 1) := by decide +kernel
theorem dX9_symbol__119 : decode cX9_symbol_ 119 = .ok (.bipush 100, 2) := by decide +kernel
theorem dX9_symbol__121 : decode cX9_symbol_ 121 = .ok (.isub, 1) := by decide +kernel
theorem dX9_symbol__122 : decode cX9_symbol_ 122 = .ok (.baload, 1) := by decide +kernel
theorem dX9_symbol__123 : decode cX9_symbol_ 123 = .ok (.ifCond .eq 7, 3) := by decide +kernel
theorem dX9_symbol__126 : decode cX9_symbol_ 126 = .ok (.iconst 1, 1) := by decide +kernel
theorem dX9_symbol__127 : decode cX9_symbol_ 127 = .ok (.goto 4, 3) := by decide +kernel
theorem dX9_symbol__130 : decode cX9_symbol_ 130 = .ok (.iconst 0, 1) := by decide +kernel
theorem dX9_symbol__131 : decode cX9_symbol_ 131 = .ok (.ireturn, 1) := by decide +kernel
theorem dX9_takes_0 : decode cX9_takes 0 = .ok (.aload_n 0, 1) := by decide +kernel
theorem dX9_takes_1 : decode cX9_takes 1 = .ok (.iload_n 1, 1) := by decide +kernel
theorem dX9_takes_2 : decode cX9_takes 2 = .ok (.invokevirtual 238, 3) := by decide +kernel
theorem dX9_takes_5 : decode cX9_takes 5 = .ok (.ifCond .eq 10, 3) := by decide +kernel
theorem dX9_takes_8 : decode cX9_takes 8 = .ok (.aload_n 0, 1) := by decide +kernel
theorem dX9_takes_9 : decode cX9_takes 9 = .ok (.invokevirtual 242, 3) := by decide +kernel
theorem dX9_takes_12 : decode cX9_takes 12 = .ok (.goto 7, 3) := by decide +kernel
theorem dX9_takes_15 : decode cX9_takes 15 = .ok (.aload_n 0, 1) := by decide +kernel
theorem dX9_takes_16 : decode cX9_takes 16 = .ok (.invokevirtual 245, 3) := by decide +kernel
theorem dX9_takes_19 : decode cX9_takes 19 = .ok (.return_, 1) := by decide +kernel
theorem dX9_takesTape_0 : decode cX9_takesTape 0 = .ok (.aload_n 0, 1) := by decide +kernel
theorem dX9_takesTape_1 : decode cX9_takesTape 1 = .ok (.aload_n 0, 1) := by decide +kernel
theorem dX9_takesTape_2 : decode cX9_takesTape 2 = .ok (.getfield 173, 3) := by decide +kernel
theorem dX9_takesTape_5 : decode cX9_takesTape 5 = .ok (.putfield 200, 3) := by decide +kernel
theorem dX9_takesTape_8 : decode cX9_takesTape 8 = .ok (.iconst 0, 1) := by decide +kernel
theorem dX9_takesTape_9 : decode cX9_takesTape 9 = .ok (.istore_n 1, 1) := by decide +kernel
theorem dX9_takesTape_10 : decode cX9_takesTape 10 = .ok (.iload_n 1, 1) := by decide +kernel
theorem dX9_takesTape_11 : decode cX9_takesTape 11 = .ok (.aload_n 0, 1) := by decide +kernel
theorem dX9_takesTape_12 : decode cX9_takesTape 12 = .ok (.getfield 173, 3) := by decide +kernel
theorem dX9_takesTape_15 : decode cX9_takesTape 15 = .ok (.if_icmp .ge 21, 3) := by decide +kernel
theorem dX9_takesTape_18 : decode cX9_takesTape 18 = .ok (.aload_n 0, 1) := by decide +kernel
theorem dX9_takesTape_19 : decode cX9_takesTape 19 = .ok (.getfield 13, 3) := by decide +kernel
theorem dX9_takesTape_22 : decode cX9_takesTape 22 = .ok (.iload_n 1, 1) := by decide +kernel
theorem dX9_takesTape_23 : decode cX9_takesTape 23 = .ok (.aload_n 0, 1) := by decide +kernel
theorem dX9_takesTape_24 : decode cX9_takesTape 24 = .ok (.getfield 7, 3) := by decide +kernel
theorem dX9_takesTape_27 : decode cX9_takesTape 27 = .ok (.iload_n 1, 1) := by decide +kernel
theorem dX9_takesTape_28 : decode cX9_takesTape 28 = .ok (.baload, 1) := by decide +kernel
theorem dX9_takesTape_29 : decode cX9_takesTape 29 = .ok (.bastore, 1) := by decide +kernel
theorem dX9_takesTape_30 : decode cX9_takesTape 30 = .ok (.iinc 1 1, 3) := by decide +kernel
theorem dX9_takesTape_33 : decode cX9_takesTape 33 = .ok (.goto (-23), 3) := by decide +kernel
theorem dX9_takesTape_36 : decode cX9_takesTape 36 = .ok (.aload_n 0, 1) := by decide +kernel
theorem dX9_takesTape_37 : decode cX9_takesTape 37 = .ok (.iconst 0, 1) := by decide +kernel
theorem dX9_takesTape_38 : decode cX9_takesTape 38 = .ok (.putfield 173, 3) := by decide +kernel
theorem dX9_takesTape_41 : decode cX9_takesTape 41 = .ok (.return_, 1) := by decide +kernel
theorem dX9_tellerOf_0 : decode cX9_tellerOf 0 = .ok (.iload_n 1, 1) := by decide +kernel
theorem dX9_tellerOf_1 : decode cX9_tellerOf 1 = .ok (.bipush 6, 2) := by decide +kernel
theorem dX9_tellerOf_3 : decode cX9_tellerOf 3 = .ok (.idiv, 1) := by decide +kernel
theorem dX9_tellerOf_4 : decode cX9_tellerOf 4 = .ok (.istore_n 2, 1) := by decide +kernel
theorem dX9_tellerOf_5 : decode cX9_tellerOf 5 = .ok (.aload_n 0, 1) := by decide +kernel
theorem dX9_tellerOf_6 : decode cX9_tellerOf 6 = .ok (.getfield 37, 3) := by decide +kernel
theorem dX9_tellerOf_9 : decode cX9_tellerOf 9 = .ok (.bipush 6, 2) := by decide +kernel
theorem dX9_tellerOf_11 : decode cX9_tellerOf 11 = .ok (.aload_n 0, 1) := by decide +kernel
theorem dX9_tellerOf_12 : decode cX9_tellerOf 12 = .ok (.getfield 47, 3) := by decide +kernel
theorem dX9_tellerOf_15 : decode cX9_tellerOf 15 = .ok (.iconst 4, 1) := by decide +kernel
theorem dX9_tellerOf_16 : decode cX9_tellerOf 16 = .ok (.aload_n 0, 1) := by decide +kernel
theorem dX9_tellerOf_17 : decode cX9_tellerOf 17 = .ok (.getfield 80, 3) := by decide +kernel
theorem dX9_tellerOf_20 : decode cX9_tellerOf 20 = .ok (.iload_n 2, 1) := by decide +kernel
theorem dX9_tellerOf_21 : decode cX9_tellerOf 21 = .ok (.iaload, 1) := by decide +kernel
theorem dX9_tellerOf_22 : decode cX9_tellerOf 22 = .ok (.imul, 1) := by decide +kernel
theorem dX9_tellerOf_23 : decode cX9_tellerOf 23 = .ok (.iaload, 1) := by decide +kernel
theorem dX9_tellerOf_24 : decode cX9_tellerOf 24 = .ok (.imul, 1) := by decide +kernel
theorem dX9_tellerOf_25 : decode cX9_tellerOf 25 = .ok (.iload_n 1, 1) := by decide +kernel
theorem dX9_tellerOf_26 : decode cX9_tellerOf 26 = .ok (.bipush 6, 2) := by decide +kernel
theorem dX9_tellerOf_28 : decode cX9_tellerOf 28 = .ok (.irem, 1) := by decide +kernel
theorem dX9_tellerOf_29 : decode cX9_tellerOf 29 = .ok (.iadd, 1) := by decide +kernel
theorem dX9_tellerOf_30 : decode cX9_tellerOf 30 = .ok (.baload, 1) := by decide +kernel
theorem dX9_tellerOf_31 : decode cX9_tellerOf 31 = .ok (.ifCond .eq 12, 3) := by decide +kernel
theorem dX9_tellerOf_34 : decode cX9_tellerOf 34 = .ok (.aload_n 0, 1) := by decide +kernel
theorem dX9_tellerOf_35 : decode cX9_tellerOf 35 = .ok (.getfield 83, 3) := by decide +kernel
theorem dX9_tellerOf_38 : decode cX9_tellerOf 38 = .ok (.iload_n 2, 1) := by decide +kernel
theorem dX9_tellerOf_39 : decode cX9_tellerOf 39 = .ok (.iaload, 1) := by decide +kernel
theorem dX9_tellerOf_40 : decode cX9_tellerOf 40 = .ok (.goto 4, 3) := by decide +kernel
theorem dX9_tellerOf_43 : decode cX9_tellerOf 43 = .ok (.iload_n 2, 1) := by decide +kernel
theorem dX9_tellerOf_44 : decode cX9_tellerOf 44 = .ok (.ireturn, 1) := by decide +kernel
theorem dX9_test_0 : decode cX9_test 0 = .ok (.aload_n 0, 1) := by decide +kernel
theorem dX9_test_1 : decode cX9_test 1 = .ok (.getfield 389, 3) := by decide +kernel
theorem dX9_test_4 : decode cX9_test 4 = .ok (.ifCond .eq 12, 3) := by decide +kernel
theorem dX9_test_7 : decode cX9_test 7 = .ok (.iload_n 1, 1) := by decide +kernel
theorem dX9_test_8 : decode cX9_test 8 = .ok (.iconst 0, 1) := by decide +kernel
theorem dX9_test_9 : decode cX9_test 9 = .ok (.iconst 1, 1) := by decide +kernel
theorem dX9_test_10 : decode cX9_test 10 = .ok (.invokestatic 180, 3) := by decide +kernel
theorem dX9_test_13 : decode cX9_test 13 = .ok (.ifCond .ne 5, 3) := by decide +kernel
theorem dX9_test_16 : decode cX9_test 16 = .ok (.iconst (-1), 1) := by decide +kernel
theorem dX9_test_17 : decode cX9_test 17 = .ok (.ireturn, 1) := by decide +kernel
theorem dX9_test_18 : decode cX9_test 18 = .ok (.iload_n 1, 1) := by decide +kernel
theorem dX9_test_19 : decode cX9_test 19 = .ok (.ifCond .ne 13, 3) := by decide +kernel
theorem dX9_test_22 : decode cX9_test 22 = .ok (.aload_n 0, 1) := by decide +kernel
theorem dX9_test_23 : decode cX9_test 23 = .ok (.getfield 446, 3) := by decide +kernel
theorem dX9_test_26 : decode cX9_test 26 = .ok (.ifCond .eq 6, 3) := by decide +kernel
theorem dX9_test_29 : decode cX9_test 29 = .ok (.bipush (-2), 2) := by decide +kernel
theorem dX9_test_31 : decode cX9_test 31 = .ok (.ireturn, 1) := by decide +kernel
theorem dX9_test_32 : decode cX9_test 32 = .ok (.iconst 0, 1) := by decide +kernel
theorem dX9_test_33 : decode cX9_test 33 = .ok (.istore_n 2, 1) := by decide +kernel
theorem dX9_test_34 : decode cX9_test 34 = .ok (.iconst 0, 1) := by decide +kernel
theorem dX9_test_35 : decode cX9_test 35 = .ok (.istore_n 3, 1) := by decide +kernel
theorem dX9_test_36 : decode cX9_test 36 = .ok (.iload_n 3, 1) := by decide +kernel
theorem dX9_test_37 : decode cX9_test 37 = .ok (.aload_n 0, 1) := by decide +kernel
theorem dX9_test_38 : decode cX9_test 38 = .ok (.getfield 272, 3) := by decide +kernel
theorem dX9_test_41 : decode cX9_test 41 = .ok (.if_icmp .ge 54, 3) := by decide +kernel
theorem dX9_test_44 : decode cX9_test 44 = .ok (.iload_n 2, 1) := by decide +kernel
theorem dX9_test_45 : decode cX9_test 45 = .ok (.ifCond .ne 38, 3) := by decide +kernel
theorem dX9_test_48 : decode cX9_test 48 = .ok (.iload_n 1, 1) := by decide +kernel
theorem dX9_test_49 : decode cX9_test 49 = .ok (.iconst 1, 1) := by decide +kernel
theorem dX9_test_50 : decode cX9_test 50 = .ok (.if_icmp .ne 15, 3) := by decide +kernel
theorem dX9_test_53 : decode cX9_test 53 = .ok (.aload_n 0, 1) := by decide +kernel
theorem dX9_test_54 : decode cX9_test 54 = .ok (.getfield 131, 3) := by decide +kernel
theorem dX9_test_57 : decode cX9_test 57 = .ok (.iload_n 3, 1) := by decide +kernel
theorem dX9_test_58 : decode cX9_test 58 = .ok (.baload, 1) := by decide +kernel
theorem dX9_test_59 : decode cX9_test 59 = .ok (.ifCond .eq 28, 3) := by decide +kernel
theorem dX9_test_62 : decode cX9_test 62 = .ok (.goto 21, 3) := by decide +kernel
theorem dX9_test_65 : decode cX9_test 65 = .ok (.aload_n 0, 1) := by decide +kernel
theorem dX9_test_66 : decode cX9_test 66 = .ok (.getfield 116, 3) := by decide +kernel
theorem dX9_test_69 : decode cX9_test 69 = .ok (.iload_n 3, 1) := by decide +kernel
theorem dX9_test_70 : decode cX9_test 70 = .ok (.baload, 1) := by decide +kernel
theorem dX9_test_71 : decode cX9_test 71 = .ok (.ifCond .eq 16, 3) := by decide +kernel
theorem dX9_test_74 : decode cX9_test 74 = .ok (.aload_n 0, 1) := by decide +kernel
theorem dX9_test_75 : decode cX9_test 75 = .ok (.getfield 134, 3) := by decide +kernel
theorem dX9_test_78 : decode cX9_test 78 = .ok (.iload_n 3, 1) := by decide +kernel
theorem dX9_test_79 : decode cX9_test 79 = .ok (.baload, 1) := by decide +kernel
theorem dX9_test_80 : decode cX9_test 80 = .ok (.ifCond .eq 7, 3) := by decide +kernel
theorem dX9_test_83 : decode cX9_test 83 = .ok (.iconst 1, 1) := by decide +kernel
theorem dX9_test_84 : decode cX9_test 84 = .ok (.goto 4, 3) := by decide +kernel
theorem dX9_test_87 : decode cX9_test 87 = .ok (.iconst 0, 1) := by decide +kernel
theorem dX9_test_88 : decode cX9_test 88 = .ok (.istore_n 2, 1) := by decide +kernel
theorem dX9_test_89 : decode cX9_test 89 = .ok (.iinc 3 1, 3) := by decide +kernel
theorem dX9_test_92 : decode cX9_test 92 = .ok (.goto (-56), 3) := by decide +kernel
theorem dX9_test_95 : decode cX9_test 95 = .ok (.iload_n 2, 1) := by decide +kernel
theorem dX9_test_96 : decode cX9_test 96 = .ok (.ifCond .eq 7, 3) := by decide +kernel
theorem dX9_test_99 : decode cX9_test 99 = .ok (.iconst 0, 1) := by decide +kernel
theorem dX9_test_100 : decode cX9_test 100 = .ok (.goto 4, 3) := by decide +kernel
theorem dX9_test_103 : decode cX9_test 103 = .ok (.iconst 1, 1) := by decide +kernel
theorem dX9_test_104 : decode cX9_test 104 = .ok (.ireturn, 1) := by decide +kernel
theorem dX9_tests_0 : decode cX9_tests 0 = .ok (.aload_n 0, 1) := by decide +kernel
theorem dX9_tests_1 : decode cX9_tests 1 = .ok (.invokevirtual 425, 3) := by decide +kernel
theorem dX9_tests_4 : decode cX9_tests 4 = .ok (.aload_n 0, 1) := by decide +kernel
theorem dX9_tests_5 : decode cX9_tests 5 = .ok (.invokevirtual 428, 3) := by decide +kernel
theorem dX9_tests_8 : decode cX9_tests 8 = .ok (.aload_n 0, 1) := by decide +kernel
theorem dX9_tests_9 : decode cX9_tests 9 = .ok (.invokevirtual 431, 3) := by decide +kernel
theorem dX9_tests_12 : decode cX9_tests 12 = .ok (.return_, 1) := by decide +kernel
theorem dX9_tree_0 : decode cX9_tree 0 = .ok (.aload_n 0, 1) := by decide +kernel
theorem dX9_tree_1 : decode cX9_tree 1 = .ok (.getfield 389, 3) := by decide +kernel
theorem dX9_tree_4 : decode cX9_tree 4 = .ok (.ifCond .ne 6, 3) := by decide +kernel
theorem dX9_tree_7 : decode cX9_tree 7 = .ok (.bipush (-2), 2) := by decide +kernel
theorem dX9_tree_9 : decode cX9_tree 9 = .ok (.ireturn, 1) := by decide +kernel
theorem dX9_tree_10 : decode cX9_tree 10 = .ok (.aload_n 0, 1) := by decide +kernel
theorem dX9_tree_11 : decode cX9_tree 11 = .ok (.invokevirtual 383, 3) := by decide +kernel
theorem dX9_tree_14 : decode cX9_tree 14 = .ok (.aload_n 0, 1) := by decide +kernel
theorem dX9_tree_15 : decode cX9_tree 15 = .ok (.iconst 0, 1) := by decide +kernel
theorem dX9_tree_16 : decode cX9_tree 16 = .ok (.putfield 197, 3) := by decide +kernel
theorem dX9_tree_19 : decode cX9_tree 19 = .ok (.aload_n 0, 1) := by decide +kernel
theorem dX9_tree_20 : decode cX9_tree 20 = .ok (.iconst 0, 1) := by decide +kernel
theorem dX9_tree_21 : decode cX9_tree 21 = .ok (.putfield 184, 3) := by decide +kernel
theorem dX9_tree_24 : decode cX9_tree 24 = .ok (.aload_n 0, 1) := by decide +kernel
theorem dX9_tree_25 : decode cX9_tree 25 = .ok (.iconst (-1), 1) := by decide +kernel
theorem dX9_tree_26 : decode cX9_tree 26 = .ok (.putfield 187, 3) := by decide +kernel
theorem dX9_tree_29 : decode cX9_tree 29 = .ok (.aload_n 0, 1) := by decide +kernel
theorem dX9_tree_30 : decode cX9_tree 30 = .ok (.iconst 0, 1) := by decide +kernel
theorem dX9_tree_31 : decode cX9_tree 31 = .ok (.putfield 405, 3) := by decide +kernel
theorem dX9_tree_34 : decode cX9_tree 34 = .ok (.aload_n 0, 1) := by decide +kernel
theorem dX9_tree_35 : decode cX9_tree 35 = .ok (.invokevirtual 242, 3) := by decide +kernel
theorem dX9_tree_38 : decode cX9_tree 38 = .ok (.iconst (-1), 1) := by decide +kernel
theorem dX9_tree_39 : decode cX9_tree 39 = .ok (.istore_n 1, 1) := by decide +kernel
theorem dX9_tree_40 : decode cX9_tree 40 = .ok (.iconst 0, 1) := by decide +kernel
theorem dX9_tree_41 : decode cX9_tree 41 = .ok (.istore_n 2, 1) := by decide +kernel
theorem dX9_tree_42 : decode cX9_tree 42 = .ok (.aload_n 0, 1) := by decide +kernel
theorem dX9_tree_43 : decode cX9_tree 43 = .ok (.bipush 40, 2) := by decide +kernel
theorem dX9_tree_45 : decode cX9_tree 45 = .ok (.invokevirtual 238, 3) := by decide +kernel
theorem dX9_tree_48 : decode cX9_tree 48 = .ok (.ifCond .eq 16, 3) := by decide +kernel
theorem dX9_tree_51 : decode cX9_tree 51 = .ok (.aload_n 0, 1) := by decide +kernel
theorem dX9_tree_52 : decode cX9_tree 52 = .ok (.iconst (-1), 1) := by decide +kernel
theorem dX9_tree_53 : decode cX9_tree 53 = .ok (.iconst 0, 1) := by decide +kernel
theorem dX9_tree_54 : decode cX9_tree 54 = .ok (.iconst 0, 1) := by decide +kernel
theorem dX9_tree_55 : decode cX9_tree 55 = .ok (.invokevirtual 408, 3) := by decide +kernel
theorem dX9_tree_58 : decode cX9_tree 58 = .ok (.istore_n 1, 1) := by decide +kernel
theorem dX9_tree_59 : decode cX9_tree 59 = .ok (.iconst 1, 1) := by decide +kernel
theorem dX9_tree_60 : decode cX9_tree 60 = .ok (.istore_n 2, 1) := by decide +kernel
theorem dX9_tree_61 : decode cX9_tree 61 = .ok (.goto 7, 3) := by decide +kernel
theorem dX9_tree_64 : decode cX9_tree 64 = .ok (.aload_n 0, 1) := by decide +kernel
theorem dX9_tree_65 : decode cX9_tree 65 = .ok (.invokevirtual 245, 3) := by decide +kernel
theorem dX9_tree_68 : decode cX9_tree 68 = .ok (.aload_n 0, 1) := by decide +kernel
theorem dX9_tree_69 : decode cX9_tree 69 = .ok (.invokevirtual 234, 3) := by decide +kernel
theorem dX9_tree_72 : decode cX9_tree 72 = .ok (.ifCond .eq 94, 3) := by decide +kernel
theorem dX9_tree_75 : decode cX9_tree 75 = .ok (.iload_n 1, 1) := by decide +kernel
theorem dX9_tree_76 : decode cX9_tree 76 = .ok (.ifCond .lt 90, 3) := by decide +kernel
theorem dX9_tree_79 : decode cX9_tree 79 = .ok (.aload_n 0, 1) := by decide +kernel
theorem dX9_tree_80 : decode cX9_tree 80 = .ok (.getfield 95, 3) := by decide +kernel
theorem dX9_tree_83 : decode cX9_tree 83 = .ok (.iload_n 1, 1) := by decide +kernel
theorem dX9_tree_84 : decode cX9_tree 84 = .ok (.iaload, 1) := by decide +kernel
theorem dX9_tree_85 : decode cX9_tree 85 = .ok (.istore_n 3, 1) := by decide +kernel
theorem dX9_tree_86 : decode cX9_tree 86 = .ok (.aload_n 0, 1) := by decide +kernel
theorem dX9_tree_87 : decode cX9_tree 87 = .ok (.getfield 107, 3) := by decide +kernel
theorem dX9_tree_90 : decode cX9_tree 90 = .ok (.iload_n 1, 1) := by decide +kernel
theorem dX9_tree_91 : decode cX9_tree 91 = .ok (.iaload, 1) := by decide +kernel
theorem dX9_tree_92 : decode cX9_tree 92 = .ok (.aload_n 0, 1) := by decide +kernel
theorem dX9_tree_93 : decode cX9_tree 93 = .ok (.getfield 44, 3) := by decide +kernel
theorem dX9_tree_96 : decode cX9_tree 96 = .ok (.iload_n 3, 1) := by decide +kernel
theorem dX9_tree_97 : decode cX9_tree 97 = .ok (.iaload, 1) := by decide +kernel
theorem dX9_tree_98 : decode cX9_tree 98 = .ok (.if_icmp .ge 49, 3) := by decide +kernel
theorem dX9_tree_101 : decode cX9_tree 101 = .ok (.aload_n 0, 1) := by decide +kernel
theorem dX9_tree_102 : decode cX9_tree 102 = .ok (.bipush 40, 2) := by decide +kernel
theorem dX9_tree_104 : decode cX9_tree 104 = .ok (.invokevirtual 238, 3) := by decide +kernel
theorem dX9_tree_107 : decode cX9_tree 107 = .ok (.ifCond .eq 33, 3) := by decide +kernel
theorem dX9_tree_110 : decode cX9_tree 110 = .ok (.aload_n 0, 1) := by decide +kernel
theorem dX9_tree_111 : decode cX9_tree 111 = .ok (.iload_n 1, 1) := by decide +kernel
theorem dX9_tree_112 : decode cX9_tree 112 = .ok (.aload_n 0, 1) := by decide +kernel
theorem dX9_tree_113 : decode cX9_tree 113 = .ok (.getfield 47, 3) := by decide +kernel
theorem dX9_tree_116 : decode cX9_tree 116 = .ok (.iconst 4, 1) := by decide +kernel
theorem dX9_tree_117 : decode cX9_tree 117 = .ok (.iload_n 3, 1) := by decide +kernel
theorem dX9_tree_118 : decode cX9_tree 118 = .ok (.imul, 1) := by decide +kernel
theorem dX9_tree_119 : decode cX9_tree 119 = .ok (.aload_n 0, 1) := by decide +kernel
theorem dX9_tree_120 : decode cX9_tree 120 = .ok (.getfield 107, 3) := by decide +kernel
theorem dX9_tree_123 : decode cX9_tree 123 = .ok (.iload_n 1, 1) := by decide +kernel
theorem dX9_tree_124 : decode cX9_tree 124 = .ok (.iaload, 1) := by decide +kernel
theorem dX9_tree_125 : decode cX9_tree 125 = .ok (.iadd, 1) := by decide +kernel
theorem dX9_tree_126 : decode cX9_tree 126 = .ok (.iconst 1, 1) := by decide +kernel
theorem dX9_tree_127 : decode cX9_tree 127 = .ok (.iadd, 1) := by decide +kernel
theorem dX9_tree_128 : decode cX9_tree 128 = .ok (.iaload, 1) := by decide +kernel
theorem dX9_tree_129 : decode cX9_tree 129 = .ok (.iload_n 2, 1) := by decide +kernel
theorem dX9_tree_130 : decode cX9_tree 130 = .ok (.invokevirtual 408, 3) := by decide +kernel
theorem dX9_tree_133 : decode cX9_tree 133 = .ok (.istore_n 1, 1) := by decide +kernel
theorem dX9_tree_134 : decode cX9_tree 134 = .ok (.iinc 2 1, 3) := by decide +kernel
theorem dX9_tree_137 : decode cX9_tree 137 = .ok (.goto 26, 3) := by decide +kernel
theorem dX9_tree_140 : decode cX9_tree 140 = .ok (.aload_n 0, 1) := by decide +kernel
theorem dX9_tree_141 : decode cX9_tree 141 = .ok (.invokevirtual 245, 3) := by decide +kernel
theorem dX9_tree_144 : decode cX9_tree 144 = .ok (.goto 19, 3) := by decide +kernel
theorem dX9_tree_147 : decode cX9_tree 147 = .ok (.aload_n 0, 1) := by decide +kernel
theorem dX9_tree_148 : decode cX9_tree 148 = .ok (.bipush 41, 2) := by decide +kernel
theorem dX9_tree_150 : decode cX9_tree 150 = .ok (.invokevirtual 265, 3) := by decide +kernel
theorem dX9_tree_153 : decode cX9_tree 153 = .ok (.aload_n 0, 1) := by decide +kernel
theorem dX9_tree_154 : decode cX9_tree 154 = .ok (.getfield 98, 3) := by decide +kernel
theorem dX9_tree_157 : decode cX9_tree 157 = .ok (.iload_n 1, 1) := by decide +kernel
theorem dX9_tree_158 : decode cX9_tree 158 = .ok (.iaload, 1) := by decide +kernel
theorem dX9_tree_159 : decode cX9_tree 159 = .ok (.istore_n 1, 1) := by decide +kernel
theorem dX9_tree_160 : decode cX9_tree 160 = .ok (.iinc 2 (-1), 3) := by decide +kernel
theorem dX9_tree_163 : decode cX9_tree 163 = .ok (.goto (-95), 3) := by decide +kernel
theorem dX9_tree_166 : decode cX9_tree 166 = .ok (.aload_n 0, 1) := by decide +kernel
theorem dX9_tree_167 : decode cX9_tree 167 = .ok (.invokevirtual 234, 3) := by decide +kernel
theorem dX9_tree_170 : decode cX9_tree 170 = .ok (.ifCond .eq 14, 3) := by decide +kernel
theorem dX9_tree_173 : decode cX9_tree 173 = .ok (.aload_n 0, 1) := by decide +kernel
theorem dX9_tree_174 : decode cX9_tree 174 = .ok (.getfield 210, 3) := by decide +kernel
theorem dX9_tree_177 : decode cX9_tree 177 = .ok (.ifCond .eq 7, 3) := by decide +kernel
theorem dX9_tree_180 : decode cX9_tree 180 = .ok (.aload_n 0, 1) := by decide +kernel
theorem dX9_tree_181 : decode cX9_tree 181 = .ok (.invokevirtual 245, 3) := by decide +kernel
theorem dX9_tree_184 : decode cX9_tree 184 = .ok (.aload_n 0, 1) := by decide +kernel
theorem dX9_tree_185 : decode cX9_tree 185 = .ok (.aload_n 0, 1) := by decide +kernel
theorem dX9_tree_186 : decode cX9_tree 186 = .ok (.getfield 184, 3) := by decide +kernel
theorem dX9_tree_189 : decode cX9_tree 189 = .ok (.putfield 19, 3) := by decide +kernel
theorem dX9_tree_192 : decode cX9_tree 192 = .ok (.aload_n 0, 1) := by decide +kernel
theorem dX9_tree_193 : decode cX9_tree 193 = .ok (.aload_n 0, 1) := by decide +kernel
theorem dX9_tree_194 : decode cX9_tree 194 = .ok (.getfield 187, 3) := by decide +kernel
theorem dX9_tree_197 : decode cX9_tree 197 = .ok (.putfield 23, 3) := by decide +kernel
theorem dX9_tree_200 : decode cX9_tree 200 = .ok (.aload_n 0, 1) := by decide +kernel
theorem dX9_tree_201 : decode cX9_tree 201 = .ok (.getfield 184, 3) := by decide +kernel
theorem dX9_tree_204 : decode cX9_tree 204 = .ok (.ifCond .le 5, 3) := by decide +kernel
theorem dX9_tree_207 : decode cX9_tree 207 = .ok (.iconst (-1), 1) := by decide +kernel
theorem dX9_tree_208 : decode cX9_tree 208 = .ok (.ireturn, 1) := by decide +kernel
theorem dX9_tree_209 : decode cX9_tree 209 = .ok (.aload_n 0, 1) := by decide +kernel
theorem dX9_tree_210 : decode cX9_tree 210 = .ok (.aload_n 0, 1) := by decide +kernel
theorem dX9_tree_211 : decode cX9_tree 211 = .ok (.getfield 405, 3) := by decide +kernel
theorem dX9_tree_214 : decode cX9_tree 214 = .ok (.putfield 396, 3) := by decide +kernel
theorem dX9_tree_217 : decode cX9_tree 217 = .ok (.iconst 0, 1) := by decide +kernel
theorem dX9_tree_218 : decode cX9_tree 218 = .ok (.istore_n 3, 1) := by decide +kernel
theorem dX9_tree_219 : decode cX9_tree 219 = .ok (.iload_n 3, 1) := by decide +kernel
theorem dX9_tree_220 : decode cX9_tree 220 = .ok (.aload_n 0, 1) := by decide +kernel
theorem dX9_tree_221 : decode cX9_tree 221 = .ok (.getfield 396, 3) := by decide +kernel
theorem dX9_tree_224 : decode cX9_tree 224 = .ok (.if_icmp .ge 103, 3) := by decide +kernel
theorem dX9_tree_227 : decode cX9_tree 227 = .ok (.aload_n 0, 1) := by decide +kernel
theorem dX9_tree_228 : decode cX9_tree 228 = .ok (.getfield 80, 3) := by decide +kernel
theorem dX9_tree_231 : decode cX9_tree 231 = .ok (.iload_n 3, 1) := by decide +kernel
theorem dX9_tree_232 : decode cX9_tree 232 = .ok (.aload_n 0, 1) := by decide +kernel
theorem dX9_tree_233 : decode cX9_tree 233 = .ok (.getfield 95, 3) := by decide +kernel
theorem dX9_tree_236 : decode cX9_tree 236 = .ok (.iload_n 3, 1) := by decide +kernel
theorem dX9_tree_237 : decode cX9_tree 237 = .ok (.iaload, 1) := by decide +kernel
theorem dX9_tree_238 : decode cX9_tree 238 = .ok (.iastore, 1) := by decide +kernel
theorem dX9_tree_239 : decode cX9_tree 239 = .ok (.aload_n 0, 1) := by decide +kernel
theorem dX9_tree_240 : decode cX9_tree 240 = .ok (.getfield 83, 3) := by decide +kernel
theorem dX9_tree_243 : decode cX9_tree 243 = .ok (.iload_n 3, 1) := by decide +kernel
theorem dX9_tree_244 : decode cX9_tree 244 = .ok (.aload_n 0, 1) := by decide +kernel
theorem dX9_tree_245 : decode cX9_tree 245 = .ok (.getfield 98, 3) := by decide +kernel
theorem dX9_tree_248 : decode cX9_tree 248 = .ok (.iload_n 3, 1) := by decide +kernel
theorem dX9_tree_249 : decode cX9_tree 249 = .ok (.iaload, 1) := by decide +kernel
theorem dX9_tree_250 : decode cX9_tree 250 = .ok (.iastore, 1) := by decide +kernel
theorem dX9_tree_251 : decode cX9_tree 251 = .ok (.aload_n 0, 1) := by decide +kernel
theorem dX9_tree_252 : decode cX9_tree 252 = .ok (.getfield 86, 3) := by decide +kernel
theorem dX9_tree_255 : decode cX9_tree 255 = .ok (.iload_n 3, 1) := by decide +kernel
theorem dX9_tree_256 : decode cX9_tree 256 = .ok (.aload_n 0, 1) := by decide +kernel
theorem dX9_tree_257 : decode cX9_tree 257 = .ok (.getfield 101, 3) := by decide +kernel
theorem dX9_tree_260 : decode cX9_tree 260 = .ok (.iload_n 3, 1) := by decide +kernel
theorem dX9_tree_261 : decode cX9_tree 261 = .ok (.iaload, 1) := by decide +kernel
theorem dX9_tree_262 : decode cX9_tree 262 = .ok (.iastore, 1) := by decide +kernel
theorem dX9_tree_263 : decode cX9_tree 263 = .ok (.aload_n 0, 1) := by decide +kernel
theorem dX9_tree_264 : decode cX9_tree 264 = .ok (.getfield 89, 3) := by decide +kernel
theorem dX9_tree_267 : decode cX9_tree 267 = .ok (.iload_n 3, 1) := by decide +kernel
theorem dX9_tree_268 : decode cX9_tree 268 = .ok (.aload_n 0, 1) := by decide +kernel
theorem dX9_tree_269 : decode cX9_tree 269 = .ok (.getfield 104, 3) := by decide +kernel
theorem dX9_tree_272 : decode cX9_tree 272 = .ok (.iload_n 3, 1) := by decide +kernel
theorem dX9_tree_273 : decode cX9_tree 273 = .ok (.iaload, 1) := by decide +kernel
theorem dX9_tree_274 : decode cX9_tree 274 = .ok (.iastore, 1) := by decide +kernel
theorem dX9_tree_275 : decode cX9_tree 275 = .ok (.aload_n 0, 1) := by decide +kernel
theorem dX9_tree_276 : decode cX9_tree 276 = .ok (.getfield 92, 3) := by decide +kernel
theorem dX9_tree_279 : decode cX9_tree 279 = .ok (.iconst 4, 1) := by decide +kernel
theorem dX9_tree_280 : decode cX9_tree 280 = .ok (.iload_n 3, 1) := by decide +kernel
theorem dX9_tree_281 : decode cX9_tree 281 = .ok (.imul, 1) := by decide +kernel
theorem dX9_tree_282 : decode cX9_tree 282 = .ok (.iload_n 3, 1) := by decide +kernel
theorem dX9_tree_283 : decode cX9_tree 283 = .ok (.iastore, 1) := by decide +kernel
theorem dX9_tree_284 : decode cX9_tree 284 = .ok (.iconst 1, 1) := by decide +kernel
theorem dX9_tree_285 : decode cX9_tree 285 = .ok (.istore 4, 2) := by decide +kernel
theorem dX9_tree_287 : decode cX9_tree 287 = .ok (.iload 4, 2) := by decide +kernel
theorem dX9_tree_289 : decode cX9_tree 289 = .ok (.iconst 4, 1) := by decide +kernel
theorem dX9_tree_290 : decode cX9_tree 290 = .ok (.if_icmp .ge 31, 3) := by decide +kernel
theorem dX9_tree_293 : decode cX9_tree 293 = .ok (.aload_n 0, 1) := by decide +kernel
theorem dX9_tree_294 : decode cX9_tree 294 = .ok (.getfield 92, 3) := by decide +kernel
theorem dX9_tree_297 : decode cX9_tree 297 = .ok (.iconst 4, 1) := by decide +kernel
theorem dX9_tree_298 : decode cX9_tree 298 = .ok (.iload_n 3, 1) := by decide +kernel
theorem dX9_tree_299 : decode cX9_tree 299 = .ok (.imul, 1) := by decide +kernel
theorem dX9_tree_300 : decode cX9_tree 300 = .ok (.iload 4, 2) := by decide +kernel
theorem dX9_tree_302 : decode cX9_tree 302 = .ok (.iadd, 1) := by decide +kernel
theorem dX9_tree_303 : decode cX9_tree 303 = .ok (.aload_n 0, 1) := by decide +kernel
theorem dX9_tree_304 : decode cX9_tree 304 = .ok (.getfield 110, 3) := by decide +kernel
theorem dX9_tree_307 : decode cX9_tree 307 = .ok (.iconst 4, 1) := by decide +kernel
theorem dX9_tree_308 : decode cX9_tree 308 = .ok (.iload_n 3, 1) := by decide +kernel
theorem dX9_tree_309 : decode cX9_tree 309 = .ok (.imul, 1) := by decide +kernel
theorem dX9_tree_310 : decode cX9_tree 310 = .ok (.iload 4, 2) := by decide +kernel
theorem dX9_tree_312 : decode cX9_tree 312 = .ok (.iadd, 1) := by decide +kernel
theorem dX9_tree_313 : decode cX9_tree 313 = .ok (.iaload, 1) := by decide +kernel
theorem dX9_tree_314 : decode cX9_tree 314 = .ok (.iastore, 1) := by decide +kernel
theorem dX9_tree_315 : decode cX9_tree 315 = .ok (.iinc 4 1, 3) := by decide +kernel
theorem dX9_tree_318 : decode cX9_tree 318 = .ok (.goto (-31), 3) := by decide +kernel
theorem dX9_tree_321 : decode cX9_tree 321 = .ok (.iinc 3 1, 3) := by decide +kernel
theorem dX9_tree_324 : decode cX9_tree 324 = .ok (.goto (-105), 3) := by decide +kernel
theorem dX9_tree_327 : decode cX9_tree 327 = .ok (.aload_n 0, 1) := by decide +kernel
theorem dX9_tree_328 : decode cX9_tree 328 = .ok (.invokevirtual 412, 3) := by decide +kernel
theorem dX9_tree_331 : decode cX9_tree 331 = .ok (.aload_n 0, 1) := by decide +kernel
theorem dX9_tree_332 : decode cX9_tree 332 = .ok (.getfield 396, 3) := by decide +kernel
theorem dX9_tree_335 : decode cX9_tree 335 = .ok (.ireturn, 1) := by decide +kernel
theorem dX9_value_0 : decode cX9_value 0 = .ok (.aload_n 0, 1) := by decide +kernel
theorem dX9_value_1 : decode cX9_value 1 = .ok (.getfield 167, 3) := by decide +kernel
theorem dX9_value_4 : decode cX9_value 4 = .ok (.aload_n 0, 1) := by decide +kernel
theorem dX9_value_5 : decode cX9_value 5 = .ok (.getfield 492, 3) := by decide +kernel
theorem dX9_value_8 : decode cX9_value 8 = .ok (.iload_n 2, 1) := by decide +kernel
theorem dX9_value_9 : decode cX9_value 9 = .ok (.ifCond .eq 7, 3) := by decide +kernel
theorem dX9_value_12 : decode cX9_value 12 = .ok (.iconst 0, 1) := by decide +kernel
theorem dX9_value_13 : decode cX9_value 13 = .ok (.goto 4, 3) := by decide +kernel
theorem dX9_value_16 : decode cX9_value 16 = .ok (.iload_n 1, 1) := by decide +kernel
theorem dX9_value_17 : decode cX9_value 17 = .ok (.iastore, 1) := by decide +kernel
theorem dX9_value_18 : decode cX9_value 18 = .ok (.aload_n 0, 1) := by decide +kernel
theorem dX9_value_19 : decode cX9_value 19 = .ok (.getfield 170, 3) := by decide +kernel
theorem dX9_value_22 : decode cX9_value 22 = .ok (.aload_n 0, 1) := by decide +kernel
theorem dX9_value_23 : decode cX9_value 23 = .ok (.getfield 492, 3) := by decide +kernel
theorem dX9_value_26 : decode cX9_value 26 = .ok (.iload_n 2, 1) := by decide +kernel
theorem dX9_value_27 : decode cX9_value 27 = .ok (.bastore, 1) := by decide +kernel
theorem dX9_value_28 : decode cX9_value 28 = .ok (.aload_n 0, 1) := by decide +kernel
theorem dX9_value_29 : decode cX9_value 29 = .ok (.dup, 1) := by decide +kernel
theorem dX9_value_30 : decode cX9_value 30 = .ok (.getfield 492, 3) := by decide +kernel
theorem dX9_value_33 : decode cX9_value 33 = .ok (.iconst 1, 1) := by decide +kernel
theorem dX9_value_34 : decode cX9_value 34 = .ok (.iadd, 1) := by decide +kernel
theorem dX9_value_35 : decode cX9_value 35 = .ok (.putfield 492, 3) := by decide +kernel
theorem dX9_value_38 : decode cX9_value 38 = .ok (.return_, 1) := by decide +kernel
theorem dX9_value__0 : decode cX9_value_ 0 = .ok (.aload_n 0, 1) := by decide +kernel
theorem dX9_value__1 : decode cX9_value_ 1 = .ok (.iload_n 1, 1) := by decide +kernel
theorem dX9_value__2 : decode cX9_value_ 2 = .ok (.iload_n 2, 1) := by decide +kernel
theorem dX9_value__3 : decode cX9_value_ 3 = .ok (.invokevirtual 473, 3) := by decide +kernel
theorem dX9_value__6 : decode cX9_value_ 6 = .ok (.ifCond .eq 12, 3) := by decide +kernel
theorem dX9_value__9 : decode cX9_value_ 9 = .ok (.iload_n 3, 1) := by decide +kernel
theorem dX9_value__10 : decode cX9_value_ 10 = .ok (.iconst 0, 1) := by decide +kernel
theorem dX9_value__11 : decode cX9_value_ 11 = .ok (.iconst 1, 1) := by decide +kernel
theorem dX9_value__12 : decode cX9_value_ 12 = .ok (.invokestatic 180, 3) := by decide +kernel
theorem dX9_value__15 : decode cX9_value_ 15 = .ok (.ifCond .ne 5, 3) := by decide +kernel
theorem dX9_value__18 : decode cX9_value_ 18 = .ok (.iconst (-1), 1) := by decide +kernel
theorem dX9_value__19 : decode cX9_value_ 19 = .ok (.ireturn, 1) := by decide +kernel
theorem dX9_value__20 : decode cX9_value_ 20 = .ok (.bipush 6, 2) := by decide +kernel
theorem dX9_value__22 : decode cX9_value_ 22 = .ok (.iload_n 1, 1) := by decide +kernel
theorem dX9_value__23 : decode cX9_value_ 23 = .ok (.imul, 1) := by decide +kernel
theorem dX9_value__24 : decode cX9_value_ 24 = .ok (.iload_n 2, 1) := by decide +kernel
theorem dX9_value__25 : decode cX9_value_ 25 = .ok (.iadd, 1) := by decide +kernel
theorem dX9_value__26 : decode cX9_value_ 26 = .ok (.istore 4, 2) := by decide +kernel
theorem dX9_value__28 : decode cX9_value_ 28 = .ok (.iload_n 3, 1) := by decide +kernel
theorem dX9_value__29 : decode cX9_value_ 29 = .ok (.iconst 1, 1) := by decide +kernel
theorem dX9_value__30 : decode cX9_value_ 30 = .ok (.if_icmp .ne 25, 3) := by decide +kernel
theorem dX9_value__33 : decode cX9_value_ 33 = .ok (.aload_n 0, 1) := by decide +kernel
theorem dX9_value__34 : decode cX9_value_ 34 = .ok (.getfield 149, 3) := by decide +kernel
theorem dX9_value__37 : decode cX9_value_ 37 = .ok (.iload 4, 2) := by decide +kernel
theorem dX9_value__39 : decode cX9_value_ 39 = .ok (.baload, 1) := by decide +kernel
theorem dX9_value__40 : decode cX9_value_ 40 = .ok (.ifCond .eq 13, 3) := by decide +kernel
theorem dX9_value__43 : decode cX9_value_ 43 = .ok (.aload_n 0, 1) := by decide +kernel
theorem dX9_value__44 : decode cX9_value_ 44 = .ok (.getfield 155, 3) := by decide +kernel
theorem dX9_value__47 : decode cX9_value_ 47 = .ok (.iload 4, 2) := by decide +kernel
theorem dX9_value__49 : decode cX9_value_ 49 = .ok (.iaload, 1) := by decide +kernel
theorem dX9_value__50 : decode cX9_value_ 50 = .ok (.goto 4, 3) := by decide +kernel
theorem dX9_value__53 : decode cX9_value_ 53 = .ok (.iconst 0, 1) := by decide +kernel
theorem dX9_value__54 : decode cX9_value_ 54 = .ok (.ireturn, 1) := by decide +kernel
theorem dX9_value__55 : decode cX9_value_ 55 = .ok (.aload_n 0, 1) := by decide +kernel
theorem dX9_value__56 : decode cX9_value_ 56 = .ok (.getfield 149, 3) := by decide +kernel
theorem dX9_value__59 : decode cX9_value_ 59 = .ok (.iload 4, 2) := by decide +kernel
theorem dX9_value__61 : decode cX9_value_ 61 = .ok (.baload, 1) := by decide +kernel
theorem dX9_value__62 : decode cX9_value_ 62 = .ok (.ifCond .ne 7, 3) := by decide +kernel
theorem dX9_value__65 : decode cX9_value_ 65 = .ok (.iconst (-1), 1) := by decide +kernel
theorem dX9_value__66 : decode cX9_value_ 66 = .ok (.goto 18, 3) := by decide +kernel
theorem dX9_value__69 : decode cX9_value_ 69 = .ok (.aload_n 0, 1) := by decide +kernel
theorem dX9_value__70 : decode cX9_value_ 70 = .ok (.getfield 152, 3) := by decide +kernel
theorem dX9_value__73 : decode cX9_value_ 73 = .ok (.iload 4, 2) := by decide +kernel
theorem dX9_value__75 : decode cX9_value_ 75 = .ok (.baload, 1) := by decide +kernel
theorem dX9_value__76 : decode cX9_value_ 76 = .ok (.ifCond .eq 7, 3) := by decide +kernel
theorem dX9_value__79 : decode cX9_value_ 79 = .ok (.iconst 1, 1) := by decide +kernel
theorem dX9_value__80 : decode cX9_value_ 80 = .ok (.goto 4, 3) := by decide +kernel
theorem dX9_value__83 : decode cX9_value_ 83 = .ok (.iconst 0, 1) := by decide +kernel
theorem dX9_value__84 : decode cX9_value_ 84 = .ok (.ireturn, 1) := by decide +kernel
theorem dX9_waitsOn_0 : decode cX9_waitsOn 0 = .ok (.aload_n 0, 1) := by decide +kernel
theorem dX9_waitsOn_1 : decode cX9_waitsOn 1 = .ok (.getfield 161, 3) := by decide +kernel
theorem dX9_waitsOn_4 : decode cX9_waitsOn 4 = .ok (.aload_n 0, 1) := by decide +kernel
theorem dX9_waitsOn_5 : decode cX9_waitsOn 5 = .ok (.getfield 477, 3) := by decide +kernel
theorem dX9_waitsOn_8 : decode cX9_waitsOn 8 = .ok (.iload_n 1, 1) := by decide +kernel
theorem dX9_waitsOn_9 : decode cX9_waitsOn 9 = .ok (.iastore, 1) := by decide +kernel
theorem dX9_waitsOn_10 : decode cX9_waitsOn 10 = .ok (.aload_n 0, 1) := by decide +kernel
theorem dX9_waitsOn_11 : decode cX9_waitsOn 11 = .ok (.getfield 164, 3) := by decide +kernel
theorem dX9_waitsOn_14 : decode cX9_waitsOn 14 = .ok (.aload_n 0, 1) := by decide +kernel
theorem dX9_waitsOn_15 : decode cX9_waitsOn 15 = .ok (.getfield 477, 3) := by decide +kernel
theorem dX9_waitsOn_18 : decode cX9_waitsOn 18 = .ok (.iconst 0, 1) := by decide +kernel
theorem dX9_waitsOn_19 : decode cX9_waitsOn 19 = .ok (.iastore, 1) := by decide +kernel
theorem dX9_waitsOn_20 : decode cX9_waitsOn 20 = .ok (.aload_n 0, 1) := by decide +kernel
theorem dX9_waitsOn_21 : decode cX9_waitsOn 21 = .ok (.getfield 158, 3) := by decide +kernel
theorem dX9_waitsOn_24 : decode cX9_waitsOn 24 = .ok (.iload_n 1, 1) := by decide +kernel
theorem dX9_waitsOn_25 : decode cX9_waitsOn 25 = .ok (.iconst 1, 1) := by decide +kernel
theorem dX9_waitsOn_26 : decode cX9_waitsOn 26 = .ok (.bastore, 1) := by decide +kernel
theorem dX9_waitsOn_27 : decode cX9_waitsOn 27 = .ok (.aload_n 0, 1) := by decide +kernel
theorem dX9_waitsOn_28 : decode cX9_waitsOn 28 = .ok (.dup, 1) := by decide +kernel
theorem dX9_waitsOn_29 : decode cX9_waitsOn 29 = .ok (.getfield 477, 3) := by decide +kernel
theorem dX9_waitsOn_32 : decode cX9_waitsOn 32 = .ok (.iconst 1, 1) := by decide +kernel
theorem dX9_waitsOn_33 : decode cX9_waitsOn 33 = .ok (.iadd, 1) := by decide +kernel
theorem dX9_waitsOn_34 : decode cX9_waitsOn 34 = .ok (.putfield 477, 3) := by decide +kernel
theorem dX9_waitsOn_37 : decode cX9_waitsOn 37 = .ok (.return_, 1) := by decide +kernel
theorem dX9_ways_0 : decode cX9_ways 0 = .ok (.iconst 0, 1) := by decide +kernel
theorem dX9_ways_1 : decode cX9_ways 1 = .ok (.istore_n 2, 1) := by decide +kernel
theorem dX9_ways_2 : decode cX9_ways 2 = .ok (.iload_n 2, 1) := by decide +kernel
theorem dX9_ways_3 : decode cX9_ways 3 = .ok (.bipush 24, 2) := by decide +kernel
theorem dX9_ways_5 : decode cX9_ways 5 = .ok (.if_icmp .ge 16, 3) := by decide +kernel
theorem dX9_ways_8 : decode cX9_ways 8 = .ok (.aload_n 0, 1) := by decide +kernel
theorem dX9_ways_9 : decode cX9_ways 9 = .ok (.getfield 137, 3) := by decide +kernel
theorem dX9_ways_12 : decode cX9_ways 12 = .ok (.iload_n 2, 1) := by decide +kernel
theorem dX9_ways_13 : decode cX9_ways 13 = .ok (.iconst 0, 1) := by decide +kernel
theorem dX9_ways_14 : decode cX9_ways 14 = .ok (.iastore, 1) := by decide +kernel
theorem dX9_ways_15 : decode cX9_ways 15 = .ok (.iinc 2 1, 3) := by decide +kernel
theorem dX9_ways_18 : decode cX9_ways 18 = .ok (.goto (-16), 3) := by decide +kernel
theorem dX9_ways_21 : decode cX9_ways 21 = .ok (.iconst 0, 1) := by decide +kernel
theorem dX9_ways_22 : decode cX9_ways 22 = .ok (.istore_n 2, 1) := by decide +kernel
theorem dX9_ways_23 : decode cX9_ways 23 = .ok (.iload_n 2, 1) := by decide +kernel
theorem dX9_ways_24 : decode cX9_ways 24 = .ok (.bipush 6, 2) := by decide +kernel
theorem dX9_ways_26 : decode cX9_ways 26 = .ok (.aload_n 0, 1) := by decide +kernel
theorem dX9_ways_27 : decode cX9_ways 27 = .ok (.getfield 44, 3) := by decide +kernel
theorem dX9_ways_30 : decode cX9_ways 30 = .ok (.iload_n 1, 1) := by decide +kernel
theorem dX9_ways_31 : decode cX9_ways 31 = .ok (.iaload, 1) := by decide +kernel
theorem dX9_ways_32 : decode cX9_ways 32 = .ok (.imul, 1) := by decide +kernel
theorem dX9_ways_33 : decode cX9_ways 33 = .ok (.bipush 6, 2) := by decide +kernel
theorem dX9_ways_35 : decode cX9_ways 35 = .ok (.iadd, 1) := by decide +kernel
theorem dX9_ways_36 : decode cX9_ways 36 = .ok (.if_icmp .ge 95, 3) := by decide +kernel
theorem dX9_ways_39 : decode cX9_ways 39 = .ok (.bipush 24, 2) := by decide +kernel
theorem dX9_ways_41 : decode cX9_ways 41 = .ok (.iload_n 1, 1) := by decide +kernel
theorem dX9_ways_42 : decode cX9_ways 42 = .ok (.imul, 1) := by decide +kernel
theorem dX9_ways_43 : decode cX9_ways 43 = .ok (.iload_n 2, 1) := by decide +kernel
theorem dX9_ways_44 : decode cX9_ways 44 = .ok (.iadd, 1) := by decide +kernel
theorem dX9_ways_45 : decode cX9_ways 45 = .ok (.istore_n 3, 1) := by decide +kernel
theorem dX9_ways_46 : decode cX9_ways 46 = .ok (.aload_n 0, 1) := by decide +kernel
theorem dX9_ways_47 : decode cX9_ways 47 = .ok (.getfield 56, 3) := by decide +kernel
theorem dX9_ways_50 : decode cX9_ways 50 = .ok (.iload_n 3, 1) := by decide +kernel
theorem dX9_ways_51 : decode cX9_ways 51 = .ok (.iaload, 1) := by decide +kernel
theorem dX9_ways_52 : decode cX9_ways 52 = .ok (.istore 4, 2) := by decide +kernel
theorem dX9_ways_54 : decode cX9_ways 54 = .ok (.aload_n 0, 1) := by decide +kernel
theorem dX9_ways_55 : decode cX9_ways 55 = .ok (.getfield 53, 3) := by decide +kernel
theorem dX9_ways_58 : decode cX9_ways 58 = .ok (.iload_n 3, 1) := by decide +kernel
theorem dX9_ways_59 : decode cX9_ways 59 = .ok (.iaload, 1) := by decide +kernel
theorem dX9_ways_60 : decode cX9_ways 60 = .ok (.ifCond .lt 65, 3) := by decide +kernel
theorem dX9_ways_63 : decode cX9_ways 63 = .ok (.iload 4, 2) := by decide +kernel
theorem dX9_ways_65 : decode cX9_ways 65 = .ok (.aload_n 0, 1) := by decide +kernel
theorem dX9_ways_66 : decode cX9_ways 66 = .ok (.getfield 56, 3) := by decide +kernel
theorem dX9_ways_69 : decode cX9_ways 69 = .ok (.iload_n 3, 1) := by decide +kernel
theorem dX9_ways_70 : decode cX9_ways 70 = .ok (.iaload, 1) := by decide +kernel
theorem dX9_ways_71 : decode cX9_ways 71 = .ok (.aload_n 0, 1) := by decide +kernel
theorem dX9_ways_72 : decode cX9_ways 72 = .ok (.getfield 59, 3) := by decide +kernel
theorem dX9_ways_75 : decode cX9_ways 75 = .ok (.iload_n 3, 1) := by decide +kernel
theorem dX9_ways_76 : decode cX9_ways 76 = .ok (.iaload, 1) := by decide +kernel
theorem dX9_ways_77 : decode cX9_ways 77 = .ok (.iadd, 1) := by decide +kernel
theorem dX9_ways_78 : decode cX9_ways 78 = .ok (.if_icmp .ge 47, 3) := by decide +kernel
theorem dX9_ways_81 : decode cX9_ways 81 = .ok (.bipush 6, 2) := by decide +kernel
theorem dX9_ways_83 : decode cX9_ways 83 = .ok (.aload_n 0, 1) := by decide +kernel
theorem dX9_ways_84 : decode cX9_ways 84 = .ok (.getfield 68, 3) := by decide +kernel
theorem dX9_ways_87 : decode cX9_ways 87 = .ok (.iload 4, 2) := by decide +kernel
theorem dX9_ways_89 : decode cX9_ways 89 = .ok (.iaload, 1) := by decide +kernel
theorem dX9_ways_90 : decode cX9_ways 90 = .ok (.imul, 1) := by decide +kernel
theorem dX9_ways_91 : decode cX9_ways 91 = .ok (.aload_n 0, 1) := by decide +kernel
theorem dX9_ways_92 : decode cX9_ways 92 = .ok (.getfield 71, 3) := by decide +kernel
theorem dX9_ways_95 : decode cX9_ways 95 = .ok (.iload 4, 2) := by decide +kernel
theorem dX9_ways_97 : decode cX9_ways 97 = .ok (.iaload, 1) := by decide +kernel
theorem dX9_ways_98 : decode cX9_ways 98 = .ok (.iadd, 1) := by decide +kernel
theorem dX9_ways_99 : decode cX9_ways 99 = .ok (.istore 5, 2) := by decide +kernel
theorem dX9_ways_101 : decode cX9_ways 101 = .ok (.aload_n 0, 1) := by decide +kernel
theorem dX9_ways_102 : decode cX9_ways 102 = .ok (.getfield 137, 3) := by decide +kernel
theorem dX9_ways_105 : decode cX9_ways 105 = .ok (.iload 5, 2) := by decide +kernel
theorem dX9_ways_107 : decode cX9_ways 107 = .ok (.aload_n 0, 1) := by decide +kernel
theorem dX9_ways_108 : decode cX9_ways 108 = .ok (.getfield 137, 3) := by decide +kernel
theorem dX9_ways_111 : decode cX9_ways 111 = .ok (.iload 5, 2) := by decide +kernel
theorem dX9_ways_113 : decode cX9_ways 113 = .ok (.iaload, 1) := by decide +kernel
theorem dX9_ways_114 : decode cX9_ways 114 = .ok (.iconst 1, 1) := by decide +kernel
theorem dX9_ways_115 : decode cX9_ways 115 = .ok (.iload_n 2, 1) := by decide +kernel
theorem dX9_ways_116 : decode cX9_ways 116 = .ok (.ishl, 1) := by decide +kernel
theorem dX9_ways_117 : decode cX9_ways 117 = .ok (.ior, 1) := by decide +kernel
theorem dX9_ways_118 : decode cX9_ways 118 = .ok (.iastore, 1) := by decide +kernel
theorem dX9_ways_119 : decode cX9_ways 119 = .ok (.iinc 4 1, 3) := by decide +kernel
theorem dX9_ways_122 : decode cX9_ways 122 = .ok (.goto (-68), 3) := by decide +kernel
theorem dX9_ways_125 : decode cX9_ways 125 = .ok (.iinc 2 1, 3) := by decide +kernel
theorem dX9_ways_128 : decode cX9_ways 128 = .ok (.goto (-105), 3) := by decide +kernel
theorem dX9_ways_131 : decode cX9_ways 131 = .ok (.iconst 1, 1) := by decide +kernel
theorem dX9_ways_132 : decode cX9_ways 132 = .ok (.istore_n 2, 1) := by decide +kernel
theorem dX9_ways_133 : decode cX9_ways 133 = .ok (.iload_n 2, 1) := by decide +kernel
theorem dX9_ways_134 : decode cX9_ways 134 = .ok (.aload_n 0, 1) := by decide +kernel
theorem dX9_ways_135 : decode cX9_ways 135 = .ok (.getfield 44, 3) := by decide +kernel
theorem dX9_ways_138 : decode cX9_ways 138 = .ok (.iload_n 1, 1) := by decide +kernel
theorem dX9_ways_139 : decode cX9_ways 139 = .ok (.iaload, 1) := by decide +kernel
theorem dX9_ways_140 : decode cX9_ways 140 = .ok (.if_icmp .gt 143, 3) := by decide +kernel
theorem dX9_ways_143 : decode cX9_ways 143 = .ok (.aload_n 0, 1) := by decide +kernel
theorem dX9_ways_144 : decode cX9_ways 144 = .ok (.getfield 47, 3) := by decide +kernel
theorem dX9_ways_147 : decode cX9_ways 147 = .ok (.iconst 4, 1) := by decide +kernel
theorem dX9_ways_148 : decode cX9_ways 148 = .ok (.iload_n 1, 1) := by decide +kernel
theorem dX9_ways_149 : decode cX9_ways 149 = .ok (.imul, 1) := by decide +kernel
theorem dX9_ways_150 : decode cX9_ways 150 = .ok (.iload_n 2, 1) := by decide +kernel
theorem dX9_ways_151 : decode cX9_ways 151 = .ok (.iadd, 1) := by decide +kernel
theorem dX9_ways_152 : decode cX9_ways 152 = .ok (.iaload, 1) := by decide +kernel
theorem dX9_ways_153 : decode cX9_ways 153 = .ok (.istore_n 3, 1) := by decide +kernel
theorem dX9_ways_154 : decode cX9_ways 154 = .ok (.iconst 0, 1) := by decide +kernel
theorem dX9_ways_155 : decode cX9_ways 155 = .ok (.istore 4, 2) := by decide +kernel
theorem dX9_ways_157 : decode cX9_ways 157 = .ok (.iload 4, 2) := by decide +kernel
theorem dX9_ways_159 : decode cX9_ways 159 = .ok (.aload_n 0, 1) := by decide +kernel
theorem dX9_ways_160 : decode cX9_ways 160 = .ok (.getfield 30, 3) := by decide +kernel
theorem dX9_ways_163 : decode cX9_ways 163 = .ok (.iload_n 3, 1) := by decide +kernel
theorem dX9_ways_164 : decode cX9_ways 164 = .ok (.iaload, 1) := by decide +kernel
theorem dX9_ways_165 : decode cX9_ways 165 = .ok (.if_icmp .ge 112, 3) := by decide +kernel
theorem dX9_ways_168 : decode cX9_ways 168 = .ok (.iconst 0, 1) := by decide +kernel
theorem dX9_ways_169 : decode cX9_ways 169 = .ok (.istore 5, 2) := by decide +kernel
theorem dX9_ways_171 : decode cX9_ways 171 = .ok (.iload 5, 2) := by decide +kernel
theorem dX9_ways_173 : decode cX9_ways 173 = .ok (.aload_n 0, 1) := by decide +kernel
theorem dX9_ways_174 : decode cX9_ways 174 = .ok (.getfield 30, 3) := by decide +kernel
theorem dX9_ways_177 : decode cX9_ways 177 = .ok (.iload_n 3, 1) := by decide +kernel
theorem dX9_ways_178 : decode cX9_ways 178 = .ok (.iaload, 1) := by decide +kernel
theorem dX9_ways_179 : decode cX9_ways 179 = .ok (.if_icmp .ge 92, 3) := by decide +kernel
theorem dX9_ways_182 : decode cX9_ways 182 = .ok (.aload_n 0, 1) := by decide +kernel
theorem dX9_ways_183 : decode cX9_ways 183 = .ok (.getfield 37, 3) := by decide +kernel
theorem dX9_ways_186 : decode cX9_ways 186 = .ok (.bipush 6, 2) := by decide +kernel
theorem dX9_ways_188 : decode cX9_ways 188 = .ok (.iload_n 3, 1) := by decide +kernel
theorem dX9_ways_189 : decode cX9_ways 189 = .ok (.imul, 1) := by decide +kernel
theorem dX9_ways_190 : decode cX9_ways 190 = .ok (.iload 4, 2) := by decide +kernel
theorem dX9_ways_192 : decode cX9_ways 192 = .ok (.iadd, 1) := by decide +kernel
theorem dX9_ways_193 : decode cX9_ways 193 = .ok (.baload, 1) := by decide +kernel
theorem dX9_ways_194 : decode cX9_ways 194 = .ok (.ifCond .eq 71, 3) := by decide +kernel
theorem dX9_ways_197 : decode cX9_ways 197 = .ok (.aload_n 0, 1) := by decide +kernel
theorem dX9_ways_198 : decode cX9_ways 198 = .ok (.getfield 37, 3) := by decide +kernel
theorem dX9_ways_201 : decode cX9_ways 201 = .ok (.bipush 6, 2) := by decide +kernel
theorem dX9_ways_203 : decode cX9_ways 203 = .ok (.iload_n 3, 1) := by decide +kernel
theorem dX9_ways_204 : decode cX9_ways 204 = .ok (.imul, 1) := by decide +kernel
theorem dX9_ways_205 : decode cX9_ways 205 = .ok (.iload 5, 2) := by decide +kernel
theorem dX9_ways_207 : decode cX9_ways 207 = .ok (.iadd, 1) := by decide +kernel
theorem dX9_ways_208 : decode cX9_ways 208 = .ok (.baload, 1) := by decide +kernel
theorem dX9_ways_209 : decode cX9_ways 209 = .ok (.ifCond .ne 56, 3) := by decide +kernel
theorem dX9_ways_212 : decode cX9_ways 212 = .ok (.aload_n 0, 1) := by decide +kernel
theorem dX9_ways_213 : decode cX9_ways 213 = .ok (.getfield 140, 3) := by decide +kernel
theorem dX9_ways_216 : decode cX9_ways 216 = .ok (.iload_n 2, 1) := by decide +kernel
theorem dX9_ways_217 : decode cX9_ways 217 = .ok (.iaload, 1) := by decide +kernel
theorem dX9_ways_218 : decode cX9_ways 218 = .ok (.aload_n 0, 1) := by decide +kernel
theorem dX9_ways_219 : decode cX9_ways 219 = .ok (.iload_n 3, 1) := by decide +kernel
theorem dX9_ways_220 : decode cX9_ways 220 = .ok (.iload 4, 2) := by decide +kernel
theorem dX9_ways_222 : decode cX9_ways 222 = .ok (.iload 5, 2) := by decide +kernel
theorem dX9_ways_224 : decode cX9_ways 224 = .ok (.invokevirtual 422, 3) := by decide +kernel
theorem dX9_ways_227 : decode cX9_ways 227 = .ok (.iand, 1) := by decide +kernel
theorem dX9_ways_228 : decode cX9_ways 228 = .ok (.ifCond .eq 37, 3) := by decide +kernel
theorem dX9_ways_231 : decode cX9_ways 231 = .ok (.aload_n 0, 1) := by decide +kernel
theorem dX9_ways_232 : decode cX9_ways 232 = .ok (.getfield 137, 3) := by decide +kernel
theorem dX9_ways_235 : decode cX9_ways 235 = .ok (.bipush 6, 2) := by decide +kernel
theorem dX9_ways_237 : decode cX9_ways 237 = .ok (.iload_n 2, 1) := by decide +kernel
theorem dX9_ways_238 : decode cX9_ways 238 = .ok (.imul, 1) := by decide +kernel
theorem dX9_ways_239 : decode cX9_ways 239 = .ok (.iload 4, 2) := by decide +kernel
theorem dX9_ways_241 : decode cX9_ways 241 = .ok (.iadd, 1) := by decide +kernel
theorem dX9_ways_242 : decode cX9_ways 242 = .ok (.aload_n 0, 1) := by decide +kernel
theorem dX9_ways_243 : decode cX9_ways 243 = .ok (.getfield 137, 3) := by decide +kernel
theorem dX9_ways_246 : decode cX9_ways 246 = .ok (.bipush 6, 2) := by decide +kernel
theorem dX9_ways_248 : decode cX9_ways 248 = .ok (.iload_n 2, 1) := by decide +kernel
theorem dX9_ways_249 : decode cX9_ways 249 = .ok (.imul, 1) := by decide +kernel
theorem dX9_ways_250 : decode cX9_ways 250 = .ok (.iload 4, 2) := by decide +kernel
theorem dX9_ways_252 : decode cX9_ways 252 = .ok (.iadd, 1) := by decide +kernel
theorem dX9_ways_253 : decode cX9_ways 253 = .ok (.iaload, 1) := by decide +kernel
theorem dX9_ways_254 : decode cX9_ways 254 = .ok (.iconst 1, 1) := by decide +kernel
theorem dX9_ways_255 : decode cX9_ways 255 = .ok (.bipush 6, 2) := by decide +kernel
theorem dX9_ways_257 : decode cX9_ways 257 = .ok (.iload_n 2, 1) := by decide +kernel
theorem dX9_ways_258 : decode cX9_ways 258 = .ok (.imul, 1) := by decide +kernel
theorem dX9_ways_259 : decode cX9_ways 259 = .ok (.iload 5, 2) := by decide +kernel
theorem dX9_ways_261 : decode cX9_ways 261 = .ok (.iadd, 1) := by decide +kernel
theorem dX9_ways_262 : decode cX9_ways 262 = .ok (.ishl, 1) := by decide +kernel
theorem dX9_ways_263 : decode cX9_ways 263 = .ok (.ior, 1) := by decide +kernel
theorem dX9_ways_264 : decode cX9_ways 264 = .ok (.iastore, 1) := by decide +kernel
theorem dX9_ways_265 : decode cX9_ways 265 = .ok (.iinc 5 1, 3) := by decide +kernel
theorem dX9_ways_268 : decode cX9_ways 268 = .ok (.goto (-97), 3) := by decide +kernel
theorem dX9_ways_271 : decode cX9_ways 271 = .ok (.iinc 4 1, 3) := by decide +kernel
theorem dX9_ways_274 : decode cX9_ways 274 = .ok (.goto (-117), 3) := by decide +kernel
theorem dX9_ways_277 : decode cX9_ways 277 = .ok (.iinc 2 1, 3) := by decide +kernel
theorem dX9_ways_280 : decode cX9_ways 280 = .ok (.goto (-147), 3) := by decide +kernel
theorem dX9_ways_283 : decode cX9_ways 283 = .ok (.iconst 0, 1) := by decide +kernel
theorem dX9_ways_284 : decode cX9_ways 284 = .ok (.istore_n 2, 1) := by decide +kernel
theorem dX9_ways_285 : decode cX9_ways 285 = .ok (.iload_n 2, 1) := by decide +kernel
theorem dX9_ways_286 : decode cX9_ways 286 = .ok (.bipush 24, 2) := by decide +kernel
theorem dX9_ways_288 : decode cX9_ways 288 = .ok (.if_icmp .ge 56, 3) := by decide +kernel
theorem dX9_ways_291 : decode cX9_ways 291 = .ok (.iconst 0, 1) := by decide +kernel
theorem dX9_ways_292 : decode cX9_ways 292 = .ok (.istore_n 3, 1) := by decide +kernel
theorem dX9_ways_293 : decode cX9_ways 293 = .ok (.iload_n 3, 1) := by decide +kernel
theorem dX9_ways_294 : decode cX9_ways 294 = .ok (.bipush 24, 2) := by decide +kernel
theorem dX9_ways_296 : decode cX9_ways 296 = .ok (.if_icmp .ge 42, 3) := by decide +kernel
theorem dX9_ways_299 : decode cX9_ways 299 = .ok (.aload_n 0, 1) := by decide +kernel
theorem dX9_ways_300 : decode cX9_ways 300 = .ok (.getfield 137, 3) := by decide +kernel
theorem dX9_ways_303 : decode cX9_ways 303 = .ok (.iload_n 3, 1) := by decide +kernel
theorem dX9_ways_304 : decode cX9_ways 304 = .ok (.iaload, 1) := by decide +kernel
theorem dX9_ways_305 : decode cX9_ways 305 = .ok (.iload_n 2, 1) := by decide +kernel
theorem dX9_ways_306 : decode cX9_ways 306 = .ok (.ishr, 1) := by decide +kernel
theorem dX9_ways_307 : decode cX9_ways 307 = .ok (.iconst 1, 1) := by decide +kernel
theorem dX9_ways_308 : decode cX9_ways 308 = .ok (.iand, 1) := by decide +kernel
theorem dX9_ways_309 : decode cX9_ways 309 = .ok (.iconst 1, 1) := by decide +kernel
theorem dX9_ways_310 : decode cX9_ways 310 = .ok (.if_icmp .ne 22, 3) := by decide +kernel
theorem dX9_ways_313 : decode cX9_ways 313 = .ok (.aload_n 0, 1) := by decide +kernel
theorem dX9_ways_314 : decode cX9_ways 314 = .ok (.getfield 137, 3) := by decide +kernel
theorem dX9_ways_317 : decode cX9_ways 317 = .ok (.iload_n 3, 1) := by decide +kernel
theorem dX9_ways_318 : decode cX9_ways 318 = .ok (.aload_n 0, 1) := by decide +kernel
theorem dX9_ways_319 : decode cX9_ways 319 = .ok (.getfield 137, 3) := by decide +kernel
theorem dX9_ways_322 : decode cX9_ways 322 = .ok (.iload_n 3, 1) := by decide +kernel
theorem dX9_ways_323 : decode cX9_ways 323 = .ok (.iaload, 1) := by decide +kernel
theorem dX9_ways_324 : decode cX9_ways 324 = .ok (.aload_n 0, 1) := by decide +kernel
theorem dX9_ways_325 : decode cX9_ways 325 = .ok (.getfield 137, 3) := by decide +kernel
theorem dX9_ways_328 : decode cX9_ways 328 = .ok (.iload_n 2, 1) := by decide +kernel
theorem dX9_ways_329 : decode cX9_ways 329 = .ok (.iaload, 1) := by decide +kernel
theorem dX9_ways_330 : decode cX9_ways 330 = .ok (.ior, 1) := by decide +kernel
theorem dX9_ways_331 : decode cX9_ways 331 = .ok (.iastore, 1) := by decide +kernel
theorem dX9_ways_332 : decode cX9_ways 332 = .ok (.iinc 3 1, 3) := by decide +kernel
theorem dX9_ways_335 : decode cX9_ways 335 = .ok (.goto (-42), 3) := by decide +kernel
theorem dX9_ways_338 : decode cX9_ways 338 = .ok (.iinc 2 1, 3) := by decide +kernel
theorem dX9_ways_341 : decode cX9_ways 341 = .ok (.goto (-56), 3) := by decide +kernel
theorem dX9_ways_344 : decode cX9_ways 344 = .ok (.return_, 1) := by decide +kernel
theorem dX9_waysOf_0 : decode cX9_waysOf 0 = .ok (.lconst 1, 1) := by decide +kernel
theorem dX9_waysOf_1 : decode cX9_waysOf 1 = .ok (.lstore_n 2, 1) := by decide +kernel
theorem dX9_waysOf_2 : decode cX9_waysOf 2 = .ok (.iconst 1, 1) := by decide +kernel
theorem dX9_waysOf_3 : decode cX9_waysOf 3 = .ok (.istore 4, 2) := by decide +kernel
theorem dX9_waysOf_5 : decode cX9_waysOf 5 = .ok (.iload 4, 2) := by decide +kernel
theorem dX9_waysOf_7 : decode cX9_waysOf 7 = .ok (.aload_n 0, 1) := by decide +kernel
theorem dX9_waysOf_8 : decode cX9_waysOf 8 = .ok (.getfield 44, 3) := by decide +kernel
theorem dX9_waysOf_11 : decode cX9_waysOf 11 = .ok (.iload_n 1, 1) := by decide +kernel
theorem dX9_waysOf_12 : decode cX9_waysOf 12 = .ok (.iaload, 1) := by decide +kernel
theorem dX9_waysOf_13 : decode cX9_waysOf 13 = .ok (.if_icmp .gt 29, 3) := by decide +kernel
theorem dX9_waysOf_16 : decode cX9_waysOf 16 = .ok (.lload_n 2, 1) := by decide +kernel
theorem dX9_waysOf_17 : decode cX9_waysOf 17 = .ok (.aload_n 0, 1) := by decide +kernel
theorem dX9_waysOf_18 : decode cX9_waysOf 18 = .ok (.getfield 125, 3) := by decide +kernel
theorem dX9_waysOf_21 : decode cX9_waysOf 21 = .ok (.aload_n 0, 1) := by decide +kernel
theorem dX9_waysOf_22 : decode cX9_waysOf 22 = .ok (.getfield 47, 3) := by decide +kernel
theorem dX9_waysOf_25 : decode cX9_waysOf 25 = .ok (.iconst 4, 1) := by decide +kernel
theorem dX9_waysOf_26 : decode cX9_waysOf 26 = .ok (.iload_n 1, 1) := by decide +kernel
theorem dX9_waysOf_27 : decode cX9_waysOf 27 = .ok (.imul, 1) := by decide +kernel
theorem dX9_waysOf_28 : decode cX9_waysOf 28 = .ok (.iload 4, 2) := by decide +kernel
theorem dX9_waysOf_30 : decode cX9_waysOf 30 = .ok (.iadd, 1) := by decide +kernel
theorem dX9_waysOf_31 : decode cX9_waysOf 31 = .ok (.iaload, 1) := by decide +kernel
theorem dX9_waysOf_32 : decode cX9_waysOf 32 = .ok (.iaload, 1) := by decide +kernel
theorem dX9_waysOf_33 : decode cX9_waysOf 33 = .ok (.i2l, 1) := by decide +kernel
theorem dX9_waysOf_34 : decode cX9_waysOf 34 = .ok (.lmul, 1) := by decide +kernel
theorem dX9_waysOf_35 : decode cX9_waysOf 35 = .ok (.lstore_n 2, 1) := by decide +kernel
theorem dX9_waysOf_36 : decode cX9_waysOf 36 = .ok (.iinc 4 1, 3) := by decide +kernel
theorem dX9_waysOf_39 : decode cX9_waysOf 39 = .ok (.goto (-34), 3) := by decide +kernel
theorem dX9_waysOf_42 : decode cX9_waysOf 42 = .ok (.lload_n 2, 1) := by decide +kernel
theorem dX9_waysOf_43 : decode cX9_waysOf 43 = .ok (.lreturn, 1) := by decide +kernel
theorem dX9_word_0 : decode cX9_word 0 = .ok (.aload_n 0, 1) := by decide +kernel
theorem dX9_word_1 : decode cX9_word 1 = .ok (.iload_n 1, 1) := by decide +kernel
theorem dX9_word_2 : decode cX9_word 2 = .ok (.invokevirtual 258, 3) := by decide +kernel
theorem dX9_word_5 : decode cX9_word 5 = .ok (.ifCond .eq 10, 3) := by decide +kernel
theorem dX9_word_8 : decode cX9_word 8 = .ok (.aload_n 0, 1) := by decide +kernel
theorem dX9_word_9 : decode cX9_word 9 = .ok (.invokevirtual 334, 3) := by decide +kernel
theorem dX9_word_12 : decode cX9_word 12 = .ok (.goto 7, 3) := by decide +kernel
theorem dX9_word_15 : decode cX9_word 15 = .ok (.aload_n 0, 1) := by decide +kernel
theorem dX9_word_16 : decode cX9_word 16 = .ok (.invokevirtual 245, 3) := by decide +kernel
theorem dX9_word_19 : decode cX9_word 19 = .ok (.return_, 1) := by decide +kernel
theorem dX9_wordOf_0 : decode cX9_wordOf 0 = .ok (.iload_n 0, 1) := by decide +kernel
theorem dX9_wordOf_1 : decode cX9_wordOf 1 = .ok (.lookupswitch 104 #[(582, 95), (21380, 91), (37768, 85), (62926, 93), (79437, 83), (79438, 87), (1361093, 101), (4805381, 89), (5275982, 98)], 83) := by decide +kernel
theorem dX9_wordOf_84 : decode cX9_wordOf 84 = .ok (.iconst 0, 1) := by decide +kernel
theorem dX9_wordOf_85 : decode cX9_wordOf 85 = .ok (.ireturn, 1) := by decide +kernel
theorem dX9_wordOf_86 : decode cX9_wordOf 86 = .ok (.iconst 1, 1) := by decide +kernel
theorem dX9_wordOf_87 : decode cX9_wordOf 87 = .ok (.ireturn, 1) := by decide +kernel
theorem dX9_wordOf_88 : decode cX9_wordOf 88 = .ok (.iconst 2, 1) := by decide +kernel
theorem dX9_wordOf_89 : decode cX9_wordOf 89 = .ok (.ireturn, 1) := by decide +kernel
theorem dX9_wordOf_90 : decode cX9_wordOf 90 = .ok (.iconst 3, 1) := by decide +kernel
theorem dX9_wordOf_91 : decode cX9_wordOf 91 = .ok (.ireturn, 1) := by decide +kernel
theorem dX9_wordOf_92 : decode cX9_wordOf 92 = .ok (.iconst 4, 1) := by decide +kernel
theorem dX9_wordOf_93 : decode cX9_wordOf 93 = .ok (.ireturn, 1) := by decide +kernel
theorem dX9_wordOf_94 : decode cX9_wordOf 94 = .ok (.iconst 5, 1) := by decide +kernel
theorem dX9_wordOf_95 : decode cX9_wordOf 95 = .ok (.ireturn, 1) := by decide +kernel
theorem dX9_wordOf_96 : decode cX9_wordOf 96 = .ok (.bipush 6, 2) := by decide +kernel
theorem dX9_wordOf_98 : decode cX9_wordOf 98 = .ok (.ireturn, 1) := by decide +kernel
theorem dX9_wordOf_99 : decode cX9_wordOf 99 = .ok (.bipush 7, 2) := by decide +kernel
theorem dX9_wordOf_101 : decode cX9_wordOf 101 = .ok (.ireturn, 1) := by decide +kernel
theorem dX9_wordOf_102 : decode cX9_wordOf 102 = .ok (.bipush 8, 2) := by decide +kernel
theorem dX9_wordOf_104 : decode cX9_wordOf 104 = .ok (.ireturn, 1) := by decide +kernel
theorem dX9_wordOf_105 : decode cX9_wordOf 105 = .ok (.iconst (-1), 1) := by decide +kernel
theorem dX9_wordOf_106 : decode cX9_wordOf 106 = .ok (.ireturn, 1) := by decide +kernel
theorem dX9_works_0 : decode cX9_works 0 = .ok (.aload_n 0, 1) := by decide +kernel
theorem dX9_works_1 : decode cX9_works 1 = .ok (.iconst 0, 1) := by decide +kernel
theorem dX9_works_2 : decode cX9_works 2 = .ok (.putfield 492, 3) := by decide +kernel
theorem dX9_works_5 : decode cX9_works 5 = .ok (.aload_n 0, 1) := by decide +kernel
theorem dX9_works_6 : decode cX9_works 6 = .ok (.getfield 53, 3) := by decide +kernel
theorem dX9_works_9 : decode cX9_works 9 = .ok (.iload_n 2, 1) := by decide +kernel
theorem dX9_works_10 : decode cX9_works 10 = .ok (.iaload, 1) := by decide +kernel
theorem dX9_works_11 : decode cX9_works 11 = .ok (.istore_n 3, 1) := by decide +kernel
theorem dX9_works_12 : decode cX9_works 12 = .ok (.aload_n 0, 1) := by decide +kernel
theorem dX9_works_13 : decode cX9_works 13 = .ok (.getfield 62, 3) := by decide +kernel
theorem dX9_works_16 : decode cX9_works 16 = .ok (.iload_n 3, 1) := by decide +kernel
theorem dX9_works_17 : decode cX9_works 17 = .ok (.iaload, 1) := by decide +kernel
theorem dX9_works_18 : decode cX9_works 18 = .ok (.bipush 7, 2) := by decide +kernel
theorem dX9_works_20 : decode cX9_works 20 = .ok (.if_icmp .eq 13, 3) := by decide +kernel
theorem dX9_works_23 : decode cX9_works 23 = .ok (.aload_n 0, 1) := by decide +kernel
theorem dX9_works_24 : decode cX9_works 24 = .ok (.iload_n 1, 1) := by decide +kernel
theorem dX9_works_25 : decode cX9_works 25 = .ok (.iload_n 3, 1) := by decide +kernel
theorem dX9_works_26 : decode cX9_works 26 = .ok (.invokevirtual 495, 3) := by decide +kernel
theorem dX9_works_29 : decode cX9_works 29 = .ok (.istore_n 3, 1) := by decide +kernel
theorem dX9_works_30 : decode cX9_works 30 = .ok (.goto (-18), 3) := by decide +kernel
theorem dX9_works_33 : decode cX9_works 33 = .ok (.aload_n 0, 1) := by decide +kernel
theorem dX9_works_34 : decode cX9_works 34 = .ok (.getfield 155, 3) := by decide +kernel
theorem dX9_works_37 : decode cX9_works 37 = .ok (.iload_n 1, 1) := by decide +kernel
theorem dX9_works_38 : decode cX9_works 38 = .ok (.aload_n 0, 1) := by decide +kernel
theorem dX9_works_39 : decode cX9_works 39 = .ok (.getfield 167, 3) := by decide +kernel
theorem dX9_works_42 : decode cX9_works 42 = .ok (.iconst 0, 1) := by decide +kernel
theorem dX9_works_43 : decode cX9_works 43 = .ok (.iaload, 1) := by decide +kernel
theorem dX9_works_44 : decode cX9_works 44 = .ok (.iastore, 1) := by decide +kernel
theorem dX9_works_45 : decode cX9_works 45 = .ok (.aload_n 0, 1) := by decide +kernel
theorem dX9_works_46 : decode cX9_works 46 = .ok (.getfield 152, 3) := by decide +kernel
theorem dX9_works_49 : decode cX9_works 49 = .ok (.iload_n 1, 1) := by decide +kernel
theorem dX9_works_50 : decode cX9_works 50 = .ok (.aload_n 0, 1) := by decide +kernel
theorem dX9_works_51 : decode cX9_works 51 = .ok (.getfield 170, 3) := by decide +kernel
theorem dX9_works_54 : decode cX9_works 54 = .ok (.iconst 0, 1) := by decide +kernel
theorem dX9_works_55 : decode cX9_works 55 = .ok (.baload, 1) := by decide +kernel
theorem dX9_works_56 : decode cX9_works 56 = .ok (.bastore, 1) := by decide +kernel
theorem dX9_works_57 : decode cX9_works 57 = .ok (.aload_n 0, 1) := by decide +kernel
theorem dX9_works_58 : decode cX9_works 58 = .ok (.getfield 149, 3) := by decide +kernel
theorem dX9_works_61 : decode cX9_works 61 = .ok (.iload_n 1, 1) := by decide +kernel
theorem dX9_works_62 : decode cX9_works 62 = .ok (.iconst 1, 1) := by decide +kernel
theorem dX9_works_63 : decode cX9_works 63 = .ok (.bastore, 1) := by decide +kernel
theorem dX9_works_64 : decode cX9_works 64 = .ok (.aload_n 0, 1) := by decide +kernel
theorem dX9_works_65 : decode cX9_works 65 = .ok (.getfield 146, 3) := by decide +kernel
theorem dX9_works_68 : decode cX9_works 68 = .ok (.aload_n 0, 1) := by decide +kernel
theorem dX9_works_69 : decode cX9_works 69 = .ok (.getfield 399, 3) := by decide +kernel
theorem dX9_works_72 : decode cX9_works 72 = .ok (.iload_n 1, 1) := by decide +kernel
theorem dX9_works_73 : decode cX9_works 73 = .ok (.iastore, 1) := by decide +kernel
theorem dX9_works_74 : decode cX9_works 74 = .ok (.aload_n 0, 1) := by decide +kernel
theorem dX9_works_75 : decode cX9_works 75 = .ok (.dup, 1) := by decide +kernel
theorem dX9_works_76 : decode cX9_works 76 = .ok (.getfield 399, 3) := by decide +kernel
theorem dX9_works_79 : decode cX9_works 79 = .ok (.iconst 1, 1) := by decide +kernel
theorem dX9_works_80 : decode cX9_works 80 = .ok (.iadd, 1) := by decide +kernel
theorem dX9_works_81 : decode cX9_works 81 = .ok (.putfield 399, 3) := by decide +kernel
theorem dX9_works_84 : decode cX9_works 84 = .ok (.return_, 1) := by decide +kernel
