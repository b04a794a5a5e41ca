theorem dX6_addGraph_0 : decode cX6_addGraph 0 = .ok (.iload_n 2, 1) := by decide +kernel
theorem dX6_addGraph_1 : decode cX6_addGraph 1 = .ok (.sipush 512, 3) := by decide +kernel
theorem dX6_addGraph_4 : decode cX6_addGraph 4 = .ok (.if_icmp .ge 18, 3) := by decide +kernel
theorem dX6_addGraph_7 : decode cX6_addGraph 7 = .ok (.aload_n 0, 1) := by decide +kernel
theorem dX6_addGraph_8 : decode cX6_addGraph 8 = .ok (.getfield 35, 3) := by decide +kernel
theorem dX6_addGraph_11 : decode cX6_addGraph 11 = .ok (.iload_n 1, 1) := by decide +kernel
theorem dX6_addGraph_12 : decode cX6_addGraph 12 = .ok (.sipush 512, 3) := by decide +kernel
theorem dX6_addGraph_15 : decode cX6_addGraph 15 = .ok (.imul, 1) := by decide +kernel
theorem dX6_addGraph_16 : decode cX6_addGraph 16 = .ok (.iload_n 2, 1) := by decide +kernel
theorem dX6_addGraph_17 : decode cX6_addGraph 17 = .ok (.iadd, 1) := by decide +kernel
theorem dX6_addGraph_18 : decode cX6_addGraph 18 = .ok (.baload, 1) := by decide +kernel
theorem dX6_addGraph_19 : decode cX6_addGraph 19 = .ok (.ifCond .eq 5, 3) := by decide +kernel
theorem dX6_addGraph_22 : decode cX6_addGraph 22 = .ok (.iconst 0, 1) := by decide +kernel
theorem dX6_addGraph_23 : decode cX6_addGraph 23 = .ok (.ireturn, 1) := by decide +kernel
theorem dX6_addGraph_24 : decode cX6_addGraph 24 = .ok (.aload_n 0, 1) := by decide +kernel
theorem dX6_addGraph_25 : decode cX6_addGraph 25 = .ok (.getfield 35, 3) := by decide +kernel
theorem dX6_addGraph_28 : decode cX6_addGraph 28 = .ok (.iload_n 1, 1) := by decide +kernel
theorem dX6_addGraph_29 : decode cX6_addGraph 29 = .ok (.sipush 512, 3) := by decide +kernel
theorem dX6_addGraph_32 : decode cX6_addGraph 32 = .ok (.imul, 1) := by decide +kernel
theorem dX6_addGraph_33 : decode cX6_addGraph 33 = .ok (.iload_n 2, 1) := by decide +kernel
theorem dX6_addGraph_34 : decode cX6_addGraph 34 = .ok (.iadd, 1) := by decide +kernel
theorem dX6_addGraph_35 : decode cX6_addGraph 35 = .ok (.iconst 1, 1) := by decide +kernel
theorem dX6_addGraph_36 : decode cX6_addGraph 36 = .ok (.bastore, 1) := by decide +kernel
theorem dX6_addGraph_37 : decode cX6_addGraph 37 = .ok (.aload_n 0, 1) := by decide +kernel
theorem dX6_addGraph_38 : decode cX6_addGraph 38 = .ok (.getfield 23, 3) := by decide +kernel
theorem dX6_addGraph_41 : decode cX6_addGraph 41 = .ok (.iload_n 1, 1) := by decide +kernel
theorem dX6_addGraph_42 : decode cX6_addGraph 42 = .ok (.sipush 512, 3) := by decide +kernel
theorem dX6_addGraph_45 : decode cX6_addGraph 45 = .ok (.imul, 1) := by decide +kernel
theorem dX6_addGraph_46 : decode cX6_addGraph 46 = .ok (.aload_n 0, 1) := by decide +kernel
theorem dX6_addGraph_47 : decode cX6_addGraph 47 = .ok (.getfield 26, 3) := by decide +kernel
theorem dX6_addGraph_50 : decode cX6_addGraph 50 = .ok (.iload_n 1, 1) := by decide +kernel
theorem dX6_addGraph_51 : decode cX6_addGraph 51 = .ok (.iaload, 1) := by decide +kernel
theorem dX6_addGraph_52 : decode cX6_addGraph 52 = .ok (.iadd, 1) := by decide +kernel
theorem dX6_addGraph_53 : decode cX6_addGraph 53 = .ok (.iload_n 2, 1) := by decide +kernel
theorem dX6_addGraph_54 : decode cX6_addGraph 54 = .ok (.iastore, 1) := by decide +kernel
theorem dX6_addGraph_55 : decode cX6_addGraph 55 = .ok (.aload_n 0, 1) := by decide +kernel
theorem dX6_addGraph_56 : decode cX6_addGraph 56 = .ok (.getfield 26, 3) := by decide +kernel
theorem dX6_addGraph_59 : decode cX6_addGraph 59 = .ok (.iload_n 1, 1) := by decide +kernel
theorem dX6_addGraph_60 : decode cX6_addGraph 60 = .ok (.dup2, 1) := by decide +kernel
theorem dX6_addGraph_61 : decode cX6_addGraph 61 = .ok (.iaload, 1) := by decide +kernel
theorem dX6_addGraph_62 : decode cX6_addGraph 62 = .ok (.iconst 1, 1) := by decide +kernel
theorem dX6_addGraph_63 : decode cX6_addGraph 63 = .ok (.iadd, 1) := by decide +kernel
theorem dX6_addGraph_64 : decode cX6_addGraph 64 = .ok (.iastore, 1) := by decide +kernel
theorem dX6_addGraph_65 : decode cX6_addGraph 65 = .ok (.iconst 1, 1) := by decide +kernel
theorem dX6_addGraph_66 : decode cX6_addGraph 66 = .ok (.ireturn, 1) := by decide +kernel
theorem dX6_childrenHaveTrees_0 : decode cX6_childrenHaveTrees 0 = .ok (.iconst 1, 1) := by decide +kernel
theorem dX6_childrenHaveTrees_1 : decode cX6_childrenHaveTrees 1 = .ok (.istore_n 2, 1) := by decide +kernel
theorem dX6_childrenHaveTrees_2 : decode cX6_childrenHaveTrees 2 = .ok (.iload_n 2, 1) := by decide +kernel
theorem dX6_childrenHaveTrees_3 : decode cX6_childrenHaveTrees 3 = .ok (.aload_n 0, 1) := by decide +kernel
theorem dX6_childrenHaveTrees_4 : decode cX6_childrenHaveTrees 4 = .ok (.getfield 56, 3) := by decide +kernel
theorem dX6_childrenHaveTrees_7 : decode cX6_childrenHaveTrees 7 = .ok (.getfield 89, 3) := by decide +kernel
theorem dX6_childrenHaveTrees_10 : decode cX6_childrenHaveTrees 10 = .ok (.iload_n 1, 1) := by decide +kernel
theorem dX6_childrenHaveTrees_11 : decode cX6_childrenHaveTrees 11 = .ok (.iaload, 1) := by decide +kernel
theorem dX6_childrenHaveTrees_12 : decode cX6_childrenHaveTrees 12 = .ok (.if_icmp .gt 28, 3) := by decide +kernel
theorem dX6_childrenHaveTrees_15 : decode cX6_childrenHaveTrees 15 = .ok (.aload_n 0, 1) := by decide +kernel
theorem dX6_childrenHaveTrees_16 : decode cX6_childrenHaveTrees 16 = .ok (.getfield 38, 3) := by decide +kernel
theorem dX6_childrenHaveTrees_19 : decode cX6_childrenHaveTrees 19 = .ok (.aload_n 0, 1) := by decide +kernel
theorem dX6_childrenHaveTrees_20 : decode cX6_childrenHaveTrees 20 = .ok (.getfield 56, 3) := by decide +kernel
theorem dX6_childrenHaveTrees_23 : decode cX6_childrenHaveTrees 23 = .ok (.iload_n 1, 1) := by decide +kernel
theorem dX6_childrenHaveTrees_24 : decode cX6_childrenHaveTrees 24 = .ok (.iload_n 2, 1) := by decide +kernel
theorem dX6_childrenHaveTrees_25 : decode cX6_childrenHaveTrees 25 = .ok (.invokevirtual 92, 3) := by decide +kernel
theorem dX6_childrenHaveTrees_28 : decode cX6_childrenHaveTrees 28 = .ok (.baload, 1) := by decide +kernel
theorem dX6_childrenHaveTrees_29 : decode cX6_childrenHaveTrees 29 = .ok (.ifCond .ne 5, 3) := by decide +kernel
theorem dX6_childrenHaveTrees_32 : decode cX6_childrenHaveTrees 32 = .ok (.iconst 0, 1) := by decide +kernel
theorem dX6_childrenHaveTrees_33 : decode cX6_childrenHaveTrees 33 = .ok (.ireturn, 1) := by decide +kernel
theorem dX6_childrenHaveTrees_34 : decode cX6_childrenHaveTrees 34 = .ok (.iinc 2 1, 3) := by decide +kernel
theorem dX6_childrenHaveTrees_37 : decode cX6_childrenHaveTrees 37 = .ok (.goto (-35), 3) := by decide +kernel
theorem dX6_childrenHaveTrees_40 : decode cX6_childrenHaveTrees 40 = .ok (.iconst 1, 1) := by decide +kernel
theorem dX6_childrenHaveTrees_41 : decode cX6_childrenHaveTrees 41 = .ok (.ireturn, 1) := by decide +kernel
theorem dX6_clearExact_0 : decode cX6_clearExact 0 = .ok (.aload_n 0, 1) := by decide +kernel
theorem dX6_clearExact_1 : decode cX6_clearExact 1 = .ok (.iconst 0, 1) := by decide +kernel
theorem dX6_clearExact_2 : decode cX6_clearExact 2 = .ok (.putfield 19, 3) := by decide +kernel
theorem dX6_clearExact_5 : decode cX6_clearExact 5 = .ok (.iconst 0, 1) := by decide +kernel
theorem dX6_clearExact_6 : decode cX6_clearExact 6 = .ok (.istore_n 1, 1) := by decide +kernel
theorem dX6_clearExact_7 : decode cX6_clearExact 7 = .ok (.iload_n 1, 1) := by decide +kernel
theorem dX6_clearExact_8 : decode cX6_clearExact 8 = .ok (.aload_n 0, 1) := by decide +kernel
theorem dX6_clearExact_9 : decode cX6_clearExact 9 = .ok (.getfield 35, 3) := by decide +kernel
theorem dX6_clearExact_12 : decode cX6_clearExact 12 = .ok (.arraylength, 1) := by decide +kernel
theorem dX6_clearExact_13 : decode cX6_clearExact 13 = .ok (.if_icmp .ge 16, 3) := by decide +kernel
theorem dX6_clearExact_16 : decode cX6_clearExact 16 = .ok (.aload_n 0, 1) := by decide +kernel
theorem dX6_clearExact_17 : decode cX6_clearExact 17 = .ok (.getfield 35, 3) := by decide +kernel
theorem dX6_clearExact_20 : decode cX6_clearExact 20 = .ok (.iload_n 1, 1) := by decide +kernel
theorem dX6_clearExact_21 : decode cX6_clearExact 21 = .ok (.iconst 0, 1) := by decide +kernel
theorem dX6_clearExact_22 : decode cX6_clearExact 22 = .ok (.bastore, 1) := by decide +kernel
theorem dX6_clearExact_23 : decode cX6_clearExact 23 = .ok (.iinc 1 1, 3) := by decide +kernel
theorem dX6_clearExact_26 : decode cX6_clearExact 26 = .ok (.goto (-19), 3) := by decide +kernel
theorem dX6_clearExact_29 : decode cX6_clearExact 29 = .ok (.iconst 0, 1) := by decide +kernel
theorem dX6_clearExact_30 : decode cX6_clearExact 30 = .ok (.istore_n 1, 1) := by decide +kernel
theorem dX6_clearExact_31 : decode cX6_clearExact 31 = .ok (.iload_n 1, 1) := by decide +kernel
theorem dX6_clearExact_32 : decode cX6_clearExact 32 = .ok (.bipush 12, 2) := by decide +kernel
theorem dX6_clearExact_34 : decode cX6_clearExact 34 = .ok (.if_icmp .ge 16, 3) := by decide +kernel
theorem dX6_clearExact_37 : decode cX6_clearExact 37 = .ok (.aload_n 0, 1) := by decide +kernel
theorem dX6_clearExact_38 : decode cX6_clearExact 38 = .ok (.getfield 26, 3) := by decide +kernel
theorem dX6_clearExact_41 : decode cX6_clearExact 41 = .ok (.iload_n 1, 1) := by decide +kernel
theorem dX6_clearExact_42 : decode cX6_clearExact 42 = .ok (.iconst 0, 1) := by decide +kernel
theorem dX6_clearExact_43 : decode cX6_clearExact 43 = .ok (.iastore, 1) := by decide +kernel
theorem dX6_clearExact_44 : decode cX6_clearExact 44 = .ok (.iinc 1 1, 3) := by decide +kernel
theorem dX6_clearExact_47 : decode cX6_clearExact 47 = .ok (.goto (-16), 3) := by decide +kernel
theorem dX6_clearExact_50 : decode cX6_clearExact 50 = .ok (.iconst 0, 1) := by decide +kernel
theorem dX6_clearExact_51 : decode cX6_clearExact 51 = .ok (.istore_n 1, 1) := by decide +kernel
theorem dX6_clearExact_52 : decode cX6_clearExact 52 = .ok (.iload_n 1, 1) := by decide +kernel
theorem dX6_clearExact_53 : decode cX6_clearExact 53 = .ok (.bipush 30, 2) := by decide +kernel
theorem dX6_clearExact_55 : decode cX6_clearExact 55 = .ok (.if_icmp .ge 16, 3) := by decide +kernel
theorem dX6_clearExact_58 : decode cX6_clearExact 58 = .ok (.aload_n 0, 1) := by decide +kernel
theorem dX6_clearExact_59 : decode cX6_clearExact 59 = .ok (.getfield 29, 3) := by decide +kernel
theorem dX6_clearExact_62 : decode cX6_clearExact 62 = .ok (.iload_n 1, 1) := by decide +kernel
theorem dX6_clearExact_63 : decode cX6_clearExact 63 = .ok (.iconst 0, 1) := by decide +kernel
theorem dX6_clearExact_64 : decode cX6_clearExact 64 = .ok (.bastore, 1) := by decide +kernel
theorem dX6_clearExact_65 : decode cX6_clearExact 65 = .ok (.iinc 1 1, 3) := by decide +kernel
theorem dX6_clearExact_68 : decode cX6_clearExact 68 = .ok (.goto (-16), 3) := by decide +kernel
theorem dX6_clearExact_71 : decode cX6_clearExact 71 = .ok (.iconst 0, 1) := by decide +kernel
theorem dX6_clearExact_72 : decode cX6_clearExact 72 = .ok (.istore_n 1, 1) := by decide +kernel
theorem dX6_clearExact_73 : decode cX6_clearExact 73 = .ok (.iload_n 1, 1) := by decide +kernel
theorem dX6_clearExact_74 : decode cX6_clearExact 74 = .ok (.aload_n 0, 1) := by decide +kernel
theorem dX6_clearExact_75 : decode cX6_clearExact 75 = .ok (.getfield 47, 3) := by decide +kernel
theorem dX6_clearExact_78 : decode cX6_clearExact 78 = .ok (.arraylength, 1) := by decide +kernel
theorem dX6_clearExact_79 : decode cX6_clearExact 79 = .ok (.if_icmp .ge 16, 3) := by decide +kernel
theorem dX6_clearExact_82 : decode cX6_clearExact 82 = .ok (.aload_n 0, 1) := by decide +kernel
theorem dX6_clearExact_83 : decode cX6_clearExact 83 = .ok (.getfield 47, 3) := by decide +kernel
theorem dX6_clearExact_86 : decode cX6_clearExact 86 = .ok (.iload_n 1, 1) := by decide +kernel
theorem dX6_clearExact_87 : decode cX6_clearExact 87 = .ok (.iconst 0, 1) := by decide +kernel
theorem dX6_clearExact_88 : decode cX6_clearExact 88 = .ok (.iastore, 1) := by decide +kernel
theorem dX6_clearExact_89 : decode cX6_clearExact 89 = .ok (.iinc 1 1, 3) := by decide +kernel
theorem dX6_clearExact_92 : decode cX6_clearExact 92 = .ok (.goto (-19), 3) := by decide +kernel
theorem dX6_clearExact_95 : decode cX6_clearExact 95 = .ok (.return_, 1) := by decide +kernel
theorem dX6_closeRows_0 : decode cX6_closeRows 0 = .ok (.iconst 0, 1) := by decide +kernel
theorem dX6_closeRows_1 : decode cX6_closeRows 1 = .ok (.istore_n 1, 1) := by decide +kernel
theorem dX6_closeRows_2 : decode cX6_closeRows 2 = .ok (.iload_n 1, 1) := by decide +kernel
theorem dX6_closeRows_3 : decode cX6_closeRows 3 = .ok (.bipush 24, 2) := by decide +kernel
theorem dX6_closeRows_5 : decode cX6_closeRows 5 = .ok (.if_icmp .ge 60, 3) := by decide +kernel
theorem dX6_closeRows_8 : decode cX6_closeRows 8 = .ok (.iconst 0, 1) := by decide +kernel
theorem dX6_closeRows_9 : decode cX6_closeRows 9 = .ok (.istore_n 2, 1) := by decide +kernel
theorem dX6_closeRows_10 : decode cX6_closeRows 10 = .ok (.iload_n 2, 1) := by decide +kernel
theorem dX6_closeRows_11 : decode cX6_closeRows 11 = .ok (.bipush 24, 2) := by decide +kernel
theorem dX6_closeRows_13 : decode cX6_closeRows 13 = .ok (.if_icmp .ge 46, 3) := by decide +kernel
theorem dX6_closeRows_16 : decode cX6_closeRows 16 = .ok (.aload_n 0, 1) := by decide +kernel
theorem dX6_closeRows_17 : decode cX6_closeRows 17 = .ok (.getfield 44, 3) := by decide +kernel
theorem dX6_closeRows_20 : decode cX6_closeRows 20 = .ok (.iload_n 1, 1) := by decide +kernel
theorem dX6_closeRows_21 : decode cX6_closeRows 21 = .ok (.iaload, 1) := by decide +kernel
theorem dX6_closeRows_22 : decode cX6_closeRows 22 = .ok (.ifCond .eq 37, 3) := by decide +kernel
theorem dX6_closeRows_25 : decode cX6_closeRows 25 = .ok (.aload_n 0, 1) := by decide +kernel
theorem dX6_closeRows_26 : decode cX6_closeRows 26 = .ok (.getfield 44, 3) := by decide +kernel
theorem dX6_closeRows_29 : decode cX6_closeRows 29 = .ok (.iload_n 2, 1) := by decide +kernel
theorem dX6_closeRows_30 : decode cX6_closeRows 30 = .ok (.iaload, 1) := by decide +kernel
theorem dX6_closeRows_31 : decode cX6_closeRows 31 = .ok (.iconst 1, 1) := by decide +kernel
theorem dX6_closeRows_32 : decode cX6_closeRows 32 = .ok (.iload_n 1, 1) := by decide +kernel
theorem dX6_closeRows_33 : decode cX6_closeRows 33 = .ok (.ishl, 1) := by decide +kernel
theorem dX6_closeRows_34 : decode cX6_closeRows 34 = .ok (.iand, 1) := by decide +kernel
theorem dX6_closeRows_35 : decode cX6_closeRows 35 = .ok (.ifCond .eq 18, 3) := by decide +kernel
theorem dX6_closeRows_38 : decode cX6_closeRows 38 = .ok (.aload_n 0, 1) := by decide +kernel
theorem dX6_closeRows_39 : decode cX6_closeRows 39 = .ok (.getfield 44, 3) := by decide +kernel
theorem dX6_closeRows_42 : decode cX6_closeRows 42 = .ok (.iload_n 2, 1) := by decide +kernel
theorem dX6_closeRows_43 : decode cX6_closeRows 43 = .ok (.dup2, 1) := by decide +kernel
theorem dX6_closeRows_44 : decode cX6_closeRows 44 = .ok (.iaload, 1) := by decide +kernel
theorem dX6_closeRows_45 : decode cX6_closeRows 45 = .ok (.aload_n 0, 1) := by decide +kernel
theorem dX6_closeRows_46 : decode cX6_closeRows 46 = .ok (.getfield 44, 3) := by decide +kernel
theorem dX6_closeRows_49 : decode cX6_closeRows 49 = .ok (.iload_n 1, 1) := by decide +kernel
theorem dX6_closeRows_50 : decode cX6_closeRows 50 = .ok (.iaload, 1) := by decide +kernel
theorem dX6_closeRows_51 : decode cX6_closeRows 51 = .ok (.ior, 1) := by decide +kernel
theorem dX6_closeRows_52 : decode cX6_closeRows 52 = .ok (.iastore, 1) := by decide +kernel
theorem dX6_closeRows_53 : decode cX6_closeRows 53 = .ok (.iinc 2 1, 3) := by decide +kernel
theorem dX6_closeRows_56 : decode cX6_closeRows 56 = .ok (.goto (-46), 3) := by decide +kernel
theorem dX6_closeRows_59 : decode cX6_closeRows 59 = .ok (.iinc 1 1, 3) := by decide +kernel
theorem dX6_closeRows_62 : decode cX6_closeRows 62 = .ok (.goto (-60), 3) := by decide +kernel
theorem dX6_closeRows_65 : decode cX6_closeRows 65 = .ok (.return_, 1) := by decide +kernel
theorem dX6_countChoices_0 : decode cX6_countChoices 0 = .ok (.iconst 1, 1) := by decide +kernel
theorem dX6_countChoices_1 : decode cX6_countChoices 1 = .ok (.istore_n 2, 1) := by decide +kernel
theorem dX6_countChoices_2 : decode cX6_countChoices 2 = .ok (.iconst 0, 1) := by decide +kernel
theorem dX6_countChoices_3 : decode cX6_countChoices 3 = .ok (.istore_n 3, 1) := by decide +kernel
theorem dX6_countChoices_4 : decode cX6_countChoices 4 = .ok (.iload_n 3, 1) := by decide +kernel
theorem dX6_countChoices_5 : decode cX6_countChoices 5 = .ok (.iload_n 1, 1) := by decide +kernel
theorem dX6_countChoices_6 : decode cX6_countChoices 6 = .ok (.if_icmp .ge 18, 3) := by decide +kernel
theorem dX6_countChoices_9 : decode cX6_countChoices 9 = .ok (.iload_n 2, 1) := by decide +kernel
theorem dX6_countChoices_10 : decode cX6_countChoices 10 = .ok (.aload_n 0, 1) := by decide +kernel
theorem dX6_countChoices_11 : decode cX6_countChoices 11 = .ok (.getfield 53, 3) := by decide +kernel
theorem dX6_countChoices_14 : decode cX6_countChoices 14 = .ok (.iload_n 3, 1) := by decide +kernel
theorem dX6_countChoices_15 : decode cX6_countChoices 15 = .ok (.iaload, 1) := by decide +kernel
theorem dX6_countChoices_16 : decode cX6_countChoices 16 = .ok (.imul, 1) := by decide +kernel
theorem dX6_countChoices_17 : decode cX6_countChoices 17 = .ok (.istore_n 2, 1) := by decide +kernel
theorem dX6_countChoices_18 : decode cX6_countChoices 18 = .ok (.iinc 3 1, 3) := by decide +kernel
theorem dX6_countChoices_21 : decode cX6_countChoices 21 = .ok (.goto (-17), 3) := by decide +kernel
theorem dX6_countChoices_24 : decode cX6_countChoices 24 = .ok (.iload_n 2, 1) := by decide +kernel
theorem dX6_countChoices_25 : decode cX6_countChoices 25 = .ok (.ireturn, 1) := by decide +kernel
theorem dX6_findComing_0 : decode cX6_findComing 0 = .ok (.iconst 0, 1) := by decide +kernel
theorem dX6_findComing_1 : decode cX6_findComing 1 = .ok (.istore_n 1, 1) := by decide +kernel
theorem dX6_findComing_2 : decode cX6_findComing 2 = .ok (.iload_n 1, 1) := by decide +kernel
theorem dX6_findComing_3 : decode cX6_findComing 3 = .ok (.aload_n 0, 1) := by decide +kernel
theorem dX6_findComing_4 : decode cX6_findComing 4 = .ok (.getfield 56, 3) := by decide +kernel
theorem dX6_findComing_7 : decode cX6_findComing 7 = .ok (.getfield 78, 3) := by decide +kernel
theorem dX6_findComing_10 : decode cX6_findComing 10 = .ok (.if_icmp .ge 24, 3) := by decide +kernel
theorem dX6_findComing_13 : decode cX6_findComing 13 = .ok (.aload_n 0, 1) := by decide +kernel
theorem dX6_findComing_14 : decode cX6_findComing 14 = .ok (.getfield 41, 3) := by decide +kernel
theorem dX6_findComing_17 : decode cX6_findComing 17 = .ok (.iload_n 1, 1) := by decide +kernel
theorem dX6_findComing_18 : decode cX6_findComing 18 = .ok (.iload_n 1, 1) := by decide +kernel
theorem dX6_findComing_19 : decode cX6_findComing 19 = .ok (.ifCond .ne 7, 3) := by decide +kernel
theorem dX6_findComing_22 : decode cX6_findComing 22 = .ok (.iconst 1, 1) := by decide +kernel
theorem dX6_findComing_23 : decode cX6_findComing 23 = .ok (.goto 4, 3) := by decide +kernel
theorem dX6_findComing_26 : decode cX6_findComing 26 = .ok (.iconst 0, 1) := by decide +kernel
theorem dX6_findComing_27 : decode cX6_findComing 27 = .ok (.bastore, 1) := by decide +kernel
theorem dX6_findComing_28 : decode cX6_findComing 28 = .ok (.iinc 1 1, 3) := by decide +kernel
theorem dX6_findComing_31 : decode cX6_findComing 31 = .ok (.goto (-29), 3) := by decide +kernel
theorem dX6_findComing_34 : decode cX6_findComing 34 = .ok (.iconst 0, 1) := by decide +kernel
theorem dX6_findComing_35 : decode cX6_findComing 35 = .ok (.istore_n 1, 1) := by decide +kernel
theorem dX6_findComing_36 : decode cX6_findComing 36 = .ok (.iload_n 1, 1) := by decide +kernel
theorem dX6_findComing_37 : decode cX6_findComing 37 = .ok (.aload_n 0, 1) := by decide +kernel
theorem dX6_findComing_38 : decode cX6_findComing 38 = .ok (.getfield 56, 3) := by decide +kernel
theorem dX6_findComing_41 : decode cX6_findComing 41 = .ok (.getfield 78, 3) := by decide +kernel
theorem dX6_findComing_44 : decode cX6_findComing 44 = .ok (.if_icmp .ge 109, 3) := by decide +kernel
theorem dX6_findComing_47 : decode cX6_findComing 47 = .ok (.iconst 0, 1) := by decide +kernel
theorem dX6_findComing_48 : decode cX6_findComing 48 = .ok (.istore_n 2, 1) := by decide +kernel
theorem dX6_findComing_49 : decode cX6_findComing 49 = .ok (.iload_n 2, 1) := by decide +kernel
theorem dX6_findComing_50 : decode cX6_findComing 50 = .ok (.aload_n 0, 1) := by decide +kernel
theorem dX6_findComing_51 : decode cX6_findComing 51 = .ok (.getfield 56, 3) := by decide +kernel
theorem dX6_findComing_54 : decode cX6_findComing 54 = .ok (.getfield 72, 3) := by decide +kernel
theorem dX6_findComing_57 : decode cX6_findComing 57 = .ok (.if_icmp .ge 90, 3) := by decide +kernel
theorem dX6_findComing_60 : decode cX6_findComing 60 = .ok (.aload_n 0, 1) := by decide +kernel
theorem dX6_findComing_61 : decode cX6_findComing 61 = .ok (.getfield 32, 3) := by decide +kernel
theorem dX6_findComing_64 : decode cX6_findComing 64 = .ok (.iload_n 2, 1) := by decide +kernel
theorem dX6_findComing_65 : decode cX6_findComing 65 = .ok (.aload_n 0, 1) := by decide +kernel
theorem dX6_findComing_66 : decode cX6_findComing 66 = .ok (.getfield 41, 3) := by decide +kernel
theorem dX6_findComing_69 : decode cX6_findComing 69 = .ok (.aload_n 0, 1) := by decide +kernel
theorem dX6_findComing_70 : decode cX6_findComing 70 = .ok (.getfield 56, 3) := by decide +kernel
theorem dX6_findComing_73 : decode cX6_findComing 73 = .ok (.iload_n 2, 1) := by decide +kernel
theorem dX6_findComing_74 : decode cX6_findComing 74 = .ok (.iconst 0, 1) := by decide +kernel
theorem dX6_findComing_75 : decode cX6_findComing 75 = .ok (.invokevirtual 92, 3) := by decide +kernel
theorem dX6_findComing_78 : decode cX6_findComing 78 = .ok (.baload, 1) := by decide +kernel
theorem dX6_findComing_79 : decode cX6_findComing 79 = .ok (.ifCond .eq 15, 3) := by decide +kernel
theorem dX6_findComing_82 : decode cX6_findComing 82 = .ok (.aload_n 0, 1) := by decide +kernel
theorem dX6_findComing_83 : decode cX6_findComing 83 = .ok (.iload_n 2, 1) := by decide +kernel
theorem dX6_findComing_84 : decode cX6_findComing 84 = .ok (.invokevirtual 111, 3) := by decide +kernel
theorem dX6_findComing_87 : decode cX6_findComing 87 = .ok (.ifCond .eq 7, 3) := by decide +kernel
theorem dX6_findComing_90 : decode cX6_findComing 90 = .ok (.iconst 1, 1) := by decide +kernel
theorem dX6_findComing_91 : decode cX6_findComing 91 = .ok (.goto 4, 3) := by decide +kernel
theorem dX6_findComing_94 : decode cX6_findComing 94 = .ok (.iconst 0, 1) := by decide +kernel
theorem dX6_findComing_95 : decode cX6_findComing 95 = .ok (.bastore, 1) := by decide +kernel
theorem dX6_findComing_96 : decode cX6_findComing 96 = .ok (.iconst 1, 1) := by decide +kernel
theorem dX6_findComing_97 : decode cX6_findComing 97 = .ok (.istore_n 3, 1) := by decide +kernel
theorem dX6_findComing_98 : decode cX6_findComing 98 = .ok (.iload_n 3, 1) := by decide +kernel
theorem dX6_findComing_99 : decode cX6_findComing 99 = .ok (.aload_n 0, 1) := by decide +kernel
theorem dX6_findComing_100 : decode cX6_findComing 100 = .ok (.getfield 56, 3) := by decide +kernel
theorem dX6_findComing_103 : decode cX6_findComing 103 = .ok (.getfield 89, 3) := by decide +kernel
theorem dX6_findComing_106 : decode cX6_findComing 106 = .ok (.iload_n 2, 1) := by decide +kernel
theorem dX6_findComing_107 : decode cX6_findComing 107 = .ok (.iaload, 1) := by decide +kernel
theorem dX6_findComing_108 : decode cX6_findComing 108 = .ok (.if_icmp .gt 33, 3) := by decide +kernel
theorem dX6_findComing_111 : decode cX6_findComing 111 = .ok (.aload_n 0, 1) := by decide +kernel
theorem dX6_findComing_112 : decode cX6_findComing 112 = .ok (.getfield 32, 3) := by decide +kernel
theorem dX6_findComing_115 : decode cX6_findComing 115 = .ok (.iload_n 2, 1) := by decide +kernel
theorem dX6_findComing_116 : decode cX6_findComing 116 = .ok (.baload, 1) := by decide +kernel
theorem dX6_findComing_117 : decode cX6_findComing 117 = .ok (.ifCond .eq 24, 3) := by decide +kernel
theorem dX6_findComing_120 : decode cX6_findComing 120 = .ok (.aload_n 0, 1) := by decide +kernel
theorem dX6_findComing_121 : decode cX6_findComing 121 = .ok (.getfield 41, 3) := by decide +kernel
theorem dX6_findComing_124 : decode cX6_findComing 124 = .ok (.aload_n 0, 1) := by decide +kernel
theorem dX6_findComing_125 : decode cX6_findComing 125 = .ok (.getfield 56, 3) := by decide +kernel
theorem dX6_findComing_128 : decode cX6_findComing 128 = .ok (.iload_n 2, 1) := by decide +kernel
theorem dX6_findComing_129 : decode cX6_findComing 129 = .ok (.iload_n 3, 1) := by decide +kernel
theorem dX6_findComing_130 : decode cX6_findComing 130 = .ok (.invokevirtual 92, 3) := by decide +kernel
theorem dX6_findComing_133 : decode cX6_findComing 133 = .ok (.iconst 1, 1) := by decide +kernel
theorem dX6_findComing_134 : decode cX6_findComing 134 = .ok (.bastore, 1) := by decide +kernel
theorem dX6_findComing_135 : decode cX6_findComing 135 = .ok (.iinc 3 1, 3) := by decide +kernel
theorem dX6_findComing_138 : decode cX6_findComing 138 = .ok (.goto (-40), 3) := by decide +kernel
theorem dX6_findComing_141 : decode cX6_findComing 141 = .ok (.iinc 2 1, 3) := by decide +kernel
theorem dX6_findComing_144 : decode cX6_findComing 144 = .ok (.goto (-95), 3) := by decide +kernel
theorem dX6_findComing_147 : decode cX6_findComing 147 = .ok (.iinc 1 1, 3) := by decide +kernel
theorem dX6_findComing_150 : decode cX6_findComing 150 = .ok (.goto (-114), 3) := by decide +kernel
theorem dX6_findComing_153 : decode cX6_findComing 153 = .ok (.return_, 1) := by decide +kernel
theorem dX6_findExact_0 : decode cX6_findExact 0 = .ok (.aload_n 0, 1) := by decide +kernel
theorem dX6_findExact_1 : decode cX6_findExact 1 = .ok (.invokevirtual 114, 3) := by decide +kernel
theorem dX6_findExact_4 : decode cX6_findExact 4 = .ok (.iconst 1, 1) := by decide +kernel
theorem dX6_findExact_5 : decode cX6_findExact 5 = .ok (.istore_n 1, 1) := by decide +kernel
theorem dX6_findExact_6 : decode cX6_findExact 6 = .ok (.iconst 0, 1) := by decide +kernel
theorem dX6_findExact_7 : decode cX6_findExact 7 = .ok (.istore_n 2, 1) := by decide +kernel
theorem dX6_findExact_8 : decode cX6_findExact 8 = .ok (.iload_n 2, 1) := by decide +kernel
theorem dX6_findExact_9 : decode cX6_findExact 9 = .ok (.sipush 6144, 3) := by decide +kernel
theorem dX6_findExact_12 : decode cX6_findExact 12 = .ok (.if_icmp .gt 84, 3) := by decide +kernel
theorem dX6_findExact_15 : decode cX6_findExact 15 = .ok (.iload_n 1, 1) := by decide +kernel
theorem dX6_findExact_16 : decode cX6_findExact 16 = .ok (.ifCond .eq 80, 3) := by decide +kernel
theorem dX6_findExact_19 : decode cX6_findExact 19 = .ok (.aload_n 0, 1) := by decide +kernel
theorem dX6_findExact_20 : decode cX6_findExact 20 = .ok (.getfield 19, 3) := by decide +kernel
theorem dX6_findExact_23 : decode cX6_findExact 23 = .ok (.ifCond .ne 73, 3) := by decide +kernel
theorem dX6_findExact_26 : decode cX6_findExact 26 = .ok (.iconst 0, 1) := by decide +kernel
theorem dX6_findExact_27 : decode cX6_findExact 27 = .ok (.istore_n 1, 1) := by decide +kernel
theorem dX6_findExact_28 : decode cX6_findExact 28 = .ok (.iconst 0, 1) := by decide +kernel
theorem dX6_findExact_29 : decode cX6_findExact 29 = .ok (.istore_n 3, 1) := by decide +kernel
theorem dX6_findExact_30 : decode cX6_findExact 30 = .ok (.iload_n 3, 1) := by decide +kernel
theorem dX6_findExact_31 : decode cX6_findExact 31 = .ok (.aload_n 0, 1) := by decide +kernel
theorem dX6_findExact_32 : decode cX6_findExact 32 = .ok (.getfield 56, 3) := by decide +kernel
theorem dX6_findExact_35 : decode cX6_findExact 35 = .ok (.getfield 72, 3) := by decide +kernel
theorem dX6_findExact_38 : decode cX6_findExact 38 = .ok (.if_icmp .ge 52, 3) := by decide +kernel
theorem dX6_findExact_41 : decode cX6_findExact 41 = .ok (.aload_n 0, 1) := by decide +kernel
theorem dX6_findExact_42 : decode cX6_findExact 42 = .ok (.getfield 19, 3) := by decide +kernel
theorem dX6_findExact_45 : decode cX6_findExact 45 = .ok (.ifCond .ne 45, 3) := by decide +kernel
theorem dX6_findExact_48 : decode cX6_findExact 48 = .ok (.aload_n 0, 1) := by decide +kernel
theorem dX6_findExact_49 : decode cX6_findExact 49 = .ok (.getfield 56, 3) := by decide +kernel
theorem dX6_findExact_52 : decode cX6_findExact 52 = .ok (.getfield 89, 3) := by decide +kernel
theorem dX6_findExact_55 : decode cX6_findExact 55 = .ok (.iload_n 3, 1) := by decide +kernel
theorem dX6_findExact_56 : decode cX6_findExact 56 = .ok (.iaload, 1) := by decide +kernel
theorem dX6_findExact_57 : decode cX6_findExact 57 = .ok (.ifCond .le 14, 3) := by decide +kernel
theorem dX6_findExact_60 : decode cX6_findExact 60 = .ok (.iload_n 1, 1) := by decide +kernel
theorem dX6_findExact_61 : decode cX6_findExact 61 = .ok (.aload_n 0, 1) := by decide +kernel
theorem dX6_findExact_62 : decode cX6_findExact 62 = .ok (.iload_n 3, 1) := by decide +kernel
theorem dX6_findExact_63 : decode cX6_findExact 63 = .ok (.invokevirtual 117, 3) := by decide +kernel
theorem dX6_findExact_66 : decode cX6_findExact 66 = .ok (.ior, 1) := by decide +kernel
theorem dX6_findExact_67 : decode cX6_findExact 67 = .ok (.istore_n 1, 1) := by decide +kernel
theorem dX6_findExact_68 : decode cX6_findExact 68 = .ok (.goto 16, 3) := by decide +kernel
theorem dX6_findExact_71 : decode cX6_findExact 71 = .ok (.iload_n 2, 1) := by decide +kernel
theorem dX6_findExact_72 : decode cX6_findExact 72 = .ok (.ifCond .ne 12, 3) := by decide +kernel
theorem dX6_findExact_75 : decode cX6_findExact 75 = .ok (.iload_n 1, 1) := by decide +kernel
theorem dX6_findExact_76 : decode cX6_findExact 76 = .ok (.aload_n 0, 1) := by decide +kernel
theorem dX6_findExact_77 : decode cX6_findExact 77 = .ok (.iload_n 3, 1) := by decide +kernel
theorem dX6_findExact_78 : decode cX6_findExact 78 = .ok (.iconst 0, 1) := by decide +kernel
theorem dX6_findExact_79 : decode cX6_findExact 79 = .ok (.invokevirtual 120, 3) := by decide +kernel
theorem dX6_findExact_82 : decode cX6_findExact 82 = .ok (.ior, 1) := by decide +kernel
theorem dX6_findExact_83 : decode cX6_findExact 83 = .ok (.istore_n 1, 1) := by decide +kernel
theorem dX6_findExact_84 : decode cX6_findExact 84 = .ok (.iinc 3 1, 3) := by decide +kernel
theorem dX6_findExact_87 : decode cX6_findExact 87 = .ok (.goto (-57), 3) := by decide +kernel
theorem dX6_findExact_90 : decode cX6_findExact 90 = .ok (.iinc 2 1, 3) := by decide +kernel
theorem dX6_findExact_93 : decode cX6_findExact 93 = .ok (.goto (-85), 3) := by decide +kernel
theorem dX6_findExact_96 : decode cX6_findExact 96 = .ok (.aload_n 0, 1) := by decide +kernel
theorem dX6_findExact_97 : decode cX6_findExact 97 = .ok (.invokevirtual 124, 3) := by decide +kernel
theorem dX6_findExact_100 : decode cX6_findExact 100 = .ok (.return_, 1) := by decide +kernel
theorem dX6_findPlain_0 : decode cX6_findPlain 0 = .ok (.iconst 0, 1) := by decide +kernel
theorem dX6_findPlain_1 : decode cX6_findPlain 1 = .ok (.istore_n 1, 1) := by decide +kernel
theorem dX6_findPlain_2 : decode cX6_findPlain 2 = .ok (.iload_n 1, 1) := by decide +kernel
theorem dX6_findPlain_3 : decode cX6_findPlain 3 = .ok (.aload_n 0, 1) := by decide +kernel
theorem dX6_findPlain_4 : decode cX6_findPlain 4 = .ok (.getfield 56, 3) := by decide +kernel
theorem dX6_findPlain_7 : decode cX6_findPlain 7 = .ok (.getfield 78, 3) := by decide +kernel
theorem dX6_findPlain_10 : decode cX6_findPlain 10 = .ok (.if_icmp .ge 16, 3) := by decide +kernel
theorem dX6_findPlain_13 : decode cX6_findPlain 13 = .ok (.aload_n 0, 1) := by decide +kernel
theorem dX6_findPlain_14 : decode cX6_findPlain 14 = .ok (.getfield 9, 3) := by decide +kernel
theorem dX6_findPlain_17 : decode cX6_findPlain 17 = .ok (.iload_n 1, 1) := by decide +kernel
theorem dX6_findPlain_18 : decode cX6_findPlain 18 = .ok (.iconst 0, 1) := by decide +kernel
theorem dX6_findPlain_19 : decode cX6_findPlain 19 = .ok (.iastore, 1) := by decide +kernel
theorem dX6_findPlain_20 : decode cX6_findPlain 20 = .ok (.iinc 1 1, 3) := by decide +kernel
theorem dX6_findPlain_23 : decode cX6_findPlain 23 = .ok (.goto (-21), 3) := by decide +kernel
theorem dX6_findPlain_26 : decode cX6_findPlain 26 = .ok (.iconst 1, 1) := by decide +kernel
theorem dX6_findPlain_27 : decode cX6_findPlain 27 = .ok (.istore_n 1, 1) := by decide +kernel
theorem dX6_findPlain_28 : decode cX6_findPlain 28 = .ok (.iconst 0, 1) := by decide +kernel
theorem dX6_findPlain_29 : decode cX6_findPlain 29 = .ok (.istore_n 2, 1) := by decide +kernel
theorem dX6_findPlain_30 : decode cX6_findPlain 30 = .ok (.iload_n 2, 1) := by decide +kernel
theorem dX6_findPlain_31 : decode cX6_findPlain 31 = .ok (.sipush 6144, 3) := by decide +kernel
theorem dX6_findPlain_34 : decode cX6_findPlain 34 = .ok (.if_icmp .gt 42, 3) := by decide +kernel
theorem dX6_findPlain_37 : decode cX6_findPlain 37 = .ok (.iload_n 1, 1) := by decide +kernel
theorem dX6_findPlain_38 : decode cX6_findPlain 38 = .ok (.ifCond .eq 38, 3) := by decide +kernel
theorem dX6_findPlain_41 : decode cX6_findPlain 41 = .ok (.iconst 0, 1) := by decide +kernel
theorem dX6_findPlain_42 : decode cX6_findPlain 42 = .ok (.istore_n 1, 1) := by decide +kernel
theorem dX6_findPlain_43 : decode cX6_findPlain 43 = .ok (.iconst 0, 1) := by decide +kernel
theorem dX6_findPlain_44 : decode cX6_findPlain 44 = .ok (.istore_n 3, 1) := by decide +kernel
theorem dX6_findPlain_45 : decode cX6_findPlain 45 = .ok (.iload_n 3, 1) := by decide +kernel
theorem dX6_findPlain_46 : decode cX6_findPlain 46 = .ok (.aload_n 0, 1) := by decide +kernel
theorem dX6_findPlain_47 : decode cX6_findPlain 47 = .ok (.getfield 56, 3) := by decide +kernel
theorem dX6_findPlain_50 : decode cX6_findPlain 50 = .ok (.getfield 72, 3) := by decide +kernel
theorem dX6_findPlain_53 : decode cX6_findPlain 53 = .ok (.if_icmp .ge 17, 3) := by decide +kernel
theorem dX6_findPlain_56 : decode cX6_findPlain 56 = .ok (.iload_n 1, 1) := by decide +kernel
theorem dX6_findPlain_57 : decode cX6_findPlain 57 = .ok (.aload_n 0, 1) := by decide +kernel
theorem dX6_findPlain_58 : decode cX6_findPlain 58 = .ok (.iload_n 3, 1) := by decide +kernel
theorem dX6_findPlain_59 : decode cX6_findPlain 59 = .ok (.invokevirtual 81, 3) := by decide +kernel
theorem dX6_findPlain_62 : decode cX6_findPlain 62 = .ok (.ior, 1) := by decide +kernel
theorem dX6_findPlain_63 : decode cX6_findPlain 63 = .ok (.istore_n 1, 1) := by decide +kernel
theorem dX6_findPlain_64 : decode cX6_findPlain 64 = .ok (.iinc 3 1, 3) := by decide +kernel
theorem dX6_findPlain_67 : decode cX6_findPlain 67 = .ok (.goto (-22), 3) := by decide +kernel
theorem dX6_findPlain_70 : decode cX6_findPlain 70 = .ok (.iinc 2 1, 3) := by decide +kernel
theorem dX6_findPlain_73 : decode cX6_findPlain 73 = .ok (.goto (-43), 3) := by decide +kernel
theorem dX6_findPlain_76 : decode cX6_findPlain 76 = .ok (.return_, 1) := by decide +kernel
theorem dX6_findTrees_0 : decode cX6_findTrees 0 = .ok (.iconst 0, 1) := by decide +kernel
theorem dX6_findTrees_1 : decode cX6_findTrees 1 = .ok (.istore_n 1, 1) := by decide +kernel
theorem dX6_findTrees_2 : decode cX6_findTrees 2 = .ok (.iload_n 1, 1) := by decide +kernel
theorem dX6_findTrees_3 : decode cX6_findTrees 3 = .ok (.aload_n 0, 1) := by decide +kernel
theorem dX6_findTrees_4 : decode cX6_findTrees 4 = .ok (.getfield 56, 3) := by decide +kernel
theorem dX6_findTrees_7 : decode cX6_findTrees 7 = .ok (.getfield 78, 3) := by decide +kernel
theorem dX6_findTrees_10 : decode cX6_findTrees 10 = .ok (.if_icmp .ge 16, 3) := by decide +kernel
theorem dX6_findTrees_13 : decode cX6_findTrees 13 = .ok (.aload_n 0, 1) := by decide +kernel
theorem dX6_findTrees_14 : decode cX6_findTrees 14 = .ok (.getfield 38, 3) := by decide +kernel
theorem dX6_findTrees_17 : decode cX6_findTrees 17 = .ok (.iload_n 1, 1) := by decide +kernel
theorem dX6_findTrees_18 : decode cX6_findTrees 18 = .ok (.iconst 0, 1) := by decide +kernel
theorem dX6_findTrees_19 : decode cX6_findTrees 19 = .ok (.bastore, 1) := by decide +kernel
theorem dX6_findTrees_20 : decode cX6_findTrees 20 = .ok (.iinc 1 1, 3) := by decide +kernel
theorem dX6_findTrees_23 : decode cX6_findTrees 23 = .ok (.goto (-21), 3) := by decide +kernel
theorem dX6_findTrees_26 : decode cX6_findTrees 26 = .ok (.iconst 0, 1) := by decide +kernel
theorem dX6_findTrees_27 : decode cX6_findTrees 27 = .ok (.istore_n 1, 1) := by decide +kernel
theorem dX6_findTrees_28 : decode cX6_findTrees 28 = .ok (.iload_n 1, 1) := by decide +kernel
theorem dX6_findTrees_29 : decode cX6_findTrees 29 = .ok (.aload_n 0, 1) := by decide +kernel
theorem dX6_findTrees_30 : decode cX6_findTrees 30 = .ok (.getfield 56, 3) := by decide +kernel
theorem dX6_findTrees_33 : decode cX6_findTrees 33 = .ok (.getfield 78, 3) := by decide +kernel
theorem dX6_findTrees_36 : decode cX6_findTrees 36 = .ok (.if_icmp .ge 51, 3) := by decide +kernel
theorem dX6_findTrees_39 : decode cX6_findTrees 39 = .ok (.iconst 0, 1) := by decide +kernel
theorem dX6_findTrees_40 : decode cX6_findTrees 40 = .ok (.istore_n 2, 1) := by decide +kernel
theorem dX6_findTrees_41 : decode cX6_findTrees 41 = .ok (.iload_n 2, 1) := by decide +kernel
theorem dX6_findTrees_42 : decode cX6_findTrees 42 = .ok (.aload_n 0, 1) := by decide +kernel
theorem dX6_findTrees_43 : decode cX6_findTrees 43 = .ok (.getfield 56, 3) := by decide +kernel
theorem dX6_findTrees_46 : decode cX6_findTrees 46 = .ok (.getfield 72, 3) := by decide +kernel
theorem dX6_findTrees_49 : decode cX6_findTrees 49 = .ok (.if_icmp .ge 32, 3) := by decide +kernel
theorem dX6_findTrees_52 : decode cX6_findTrees 52 = .ok (.aload_n 0, 1) := by decide +kernel
theorem dX6_findTrees_53 : decode cX6_findTrees 53 = .ok (.iload_n 2, 1) := by decide +kernel
theorem dX6_findTrees_54 : decode cX6_findTrees 54 = .ok (.invokevirtual 111, 3) := by decide +kernel
theorem dX6_findTrees_57 : decode cX6_findTrees 57 = .ok (.ifCond .eq 18, 3) := by decide +kernel
theorem dX6_findTrees_60 : decode cX6_findTrees 60 = .ok (.aload_n 0, 1) := by decide +kernel
theorem dX6_findTrees_61 : decode cX6_findTrees 61 = .ok (.getfield 38, 3) := by decide +kernel
theorem dX6_findTrees_64 : decode cX6_findTrees 64 = .ok (.aload_n 0, 1) := by decide +kernel
theorem dX6_findTrees_65 : decode cX6_findTrees 65 = .ok (.getfield 56, 3) := by decide +kernel
theorem dX6_findTrees_68 : decode cX6_findTrees 68 = .ok (.iload_n 2, 1) := by decide +kernel
theorem dX6_findTrees_69 : decode cX6_findTrees 69 = .ok (.iconst 0, 1) := by decide +kernel
theorem dX6_findTrees_70 : decode cX6_findTrees 70 = .ok (.invokevirtual 92, 3) := by decide +kernel
theorem dX6_findTrees_73 : decode cX6_findTrees 73 = .ok (.iconst 1, 1) := by decide +kernel
theorem dX6_findTrees_74 : decode cX6_findTrees 74 = .ok (.bastore, 1) := by decide +kernel
theorem dX6_findTrees_75 : decode cX6_findTrees 75 = .ok (.iinc 2 1, 3) := by decide +kernel
theorem dX6_findTrees_78 : decode cX6_findTrees 78 = .ok (.goto (-37), 3) := by decide +kernel
theorem dX6_findTrees_81 : decode cX6_findTrees 81 = .ok (.iinc 1 1, 3) := by decide +kernel
theorem dX6_findTrees_84 : decode cX6_findTrees 84 = .ok (.goto (-56), 3) := by decide +kernel
theorem dX6_findTrees_87 : decode cX6_findTrees 87 = .ok (.return_, 1) := by decide +kernel
theorem dX6_goesRound_0 : decode cX6_goesRound 0 = .ok (.iconst 0, 1) := by decide +kernel
theorem dX6_goesRound_1 : decode cX6_goesRound 1 = .ok (.istore_n 1, 1) := by decide +kernel
theorem dX6_goesRound_2 : decode cX6_goesRound 2 = .ok (.iload_n 1, 1) := by decide +kernel
theorem dX6_goesRound_3 : decode cX6_goesRound 3 = .ok (.bipush 24, 2) := by decide +kernel
theorem dX6_goesRound_5 : decode cX6_goesRound 5 = .ok (.if_icmp .ge 24, 3) := by decide +kernel
theorem dX6_goesRound_8 : decode cX6_goesRound 8 = .ok (.aload_n 0, 1) := by decide +kernel
theorem dX6_goesRound_9 : decode cX6_goesRound 9 = .ok (.getfield 44, 3) := by decide +kernel
theorem dX6_goesRound_12 : decode cX6_goesRound 12 = .ok (.iload_n 1, 1) := by decide +kernel
theorem dX6_goesRound_13 : decode cX6_goesRound 13 = .ok (.iaload, 1) := by decide +kernel
theorem dX6_goesRound_14 : decode cX6_goesRound 14 = .ok (.iconst 1, 1) := by decide +kernel
theorem dX6_goesRound_15 : decode cX6_goesRound 15 = .ok (.iload_n 1, 1) := by decide +kernel
theorem dX6_goesRound_16 : decode cX6_goesRound 16 = .ok (.ishl, 1) := by decide +kernel
theorem dX6_goesRound_17 : decode cX6_goesRound 17 = .ok (.iand, 1) := by decide +kernel
theorem dX6_goesRound_18 : decode cX6_goesRound 18 = .ok (.ifCond .eq 5, 3) := by decide +kernel
theorem dX6_goesRound_21 : decode cX6_goesRound 21 = .ok (.iconst 1, 1) := by decide +kernel
theorem dX6_goesRound_22 : decode cX6_goesRound 22 = .ok (.ireturn, 1) := by decide +kernel
theorem dX6_goesRound_23 : decode cX6_goesRound 23 = .ok (.iinc 1 1, 3) := by decide +kernel
theorem dX6_goesRound_26 : decode cX6_goesRound 26 = .ok (.goto (-24), 3) := by decide +kernel
theorem dX6_goesRound_29 : decode cX6_goesRound 29 = .ok (.iconst 0, 1) := by decide +kernel
theorem dX6_goesRound_30 : decode cX6_goesRound 30 = .ok (.ireturn, 1) := by decide +kernel
theorem dX6_headGraph_0 : decode cX6_headGraph 0 = .ok (.iconst 0, 1) := by decide +kernel
theorem dX6_headGraph_1 : decode cX6_headGraph 1 = .ok (.istore_n 2, 1) := by decide +kernel
theorem dX6_headGraph_2 : decode cX6_headGraph 2 = .ok (.iconst 0, 1) := by decide +kernel
theorem dX6_headGraph_3 : decode cX6_headGraph 3 = .ok (.istore_n 3, 1) := by decide +kernel
theorem dX6_headGraph_4 : decode cX6_headGraph 4 = .ok (.iload_n 3, 1) := by decide +kernel
theorem dX6_headGraph_5 : decode cX6_headGraph 5 = .ok (.aload_n 0, 1) := by decide +kernel
theorem dX6_headGraph_6 : decode cX6_headGraph 6 = .ok (.getfield 56, 3) := by decide +kernel
theorem dX6_headGraph_9 : decode cX6_headGraph 9 = .ok (.getfield 141, 3) := by decide +kernel
theorem dX6_headGraph_12 : decode cX6_headGraph 12 = .ok (.iload_n 1, 1) := by decide +kernel
theorem dX6_headGraph_13 : decode cX6_headGraph 13 = .ok (.iaload, 1) := by decide +kernel
theorem dX6_headGraph_14 : decode cX6_headGraph 14 = .ok (.if_icmp .ge 60, 3) := by decide +kernel
theorem dX6_headGraph_17 : decode cX6_headGraph 17 = .ok (.iconst 0, 1) := by decide +kernel
theorem dX6_headGraph_18 : decode cX6_headGraph 18 = .ok (.istore 4, 2) := by decide +kernel
theorem dX6_headGraph_20 : decode cX6_headGraph 20 = .ok (.iload 4, 2) := by decide +kernel
theorem dX6_headGraph_22 : decode cX6_headGraph 22 = .ok (.aload_n 0, 1) := by decide +kernel
theorem dX6_headGraph_23 : decode cX6_headGraph 23 = .ok (.getfield 56, 3) := by decide +kernel
theorem dX6_headGraph_26 : decode cX6_headGraph 26 = .ok (.getfield 141, 3) := by decide +kernel
theorem dX6_headGraph_29 : decode cX6_headGraph 29 = .ok (.iload_n 1, 1) := by decide +kernel
theorem dX6_headGraph_30 : decode cX6_headGraph 30 = .ok (.iaload, 1) := by decide +kernel
theorem dX6_headGraph_31 : decode cX6_headGraph 31 = .ok (.if_icmp .ge 37, 3) := by decide +kernel
theorem dX6_headGraph_34 : decode cX6_headGraph 34 = .ok (.aload_n 0, 1) := by decide +kernel
theorem dX6_headGraph_35 : decode cX6_headGraph 35 = .ok (.getfield 44, 3) := by decide +kernel
theorem dX6_headGraph_38 : decode cX6_headGraph 38 = .ok (.iload_n 3, 1) := by decide +kernel
theorem dX6_headGraph_39 : decode cX6_headGraph 39 = .ok (.iaload, 1) := by decide +kernel
theorem dX6_headGraph_40 : decode cX6_headGraph 40 = .ok (.iconst 1, 1) := by decide +kernel
theorem dX6_headGraph_41 : decode cX6_headGraph 41 = .ok (.iload 4, 2) := by decide +kernel
theorem dX6_headGraph_43 : decode cX6_headGraph 43 = .ok (.ishl, 1) := by decide +kernel
theorem dX6_headGraph_44 : decode cX6_headGraph 44 = .ok (.iand, 1) := by decide +kernel
theorem dX6_headGraph_45 : decode cX6_headGraph 45 = .ok (.ifCond .eq 17, 3) := by decide +kernel
theorem dX6_headGraph_48 : decode cX6_headGraph 48 = .ok (.iload_n 2, 1) := by decide +kernel
theorem dX6_headGraph_49 : decode cX6_headGraph 49 = .ok (.aload_n 0, 1) := by decide +kernel
theorem dX6_headGraph_50 : decode cX6_headGraph 50 = .ok (.getfield 56, 3) := by decide +kernel
theorem dX6_headGraph_53 : decode cX6_headGraph 53 = .ok (.iload_n 1, 1) := by decide +kernel
theorem dX6_headGraph_54 : decode cX6_headGraph 54 = .ok (.iload 4, 2) := by decide +kernel
theorem dX6_headGraph_56 : decode cX6_headGraph 56 = .ok (.iload_n 3, 1) := by decide +kernel
theorem dX6_headGraph_57 : decode cX6_headGraph 57 = .ok (.invokevirtual 144, 3) := by decide +kernel
theorem dX6_headGraph_60 : decode cX6_headGraph 60 = .ok (.ior, 1) := by decide +kernel
theorem dX6_headGraph_61 : decode cX6_headGraph 61 = .ok (.istore_n 2, 1) := by decide +kernel
theorem dX6_headGraph_62 : decode cX6_headGraph 62 = .ok (.iinc 4 1, 3) := by decide +kernel
theorem dX6_headGraph_65 : decode cX6_headGraph 65 = .ok (.goto (-45), 3) := by decide +kernel
theorem dX6_headGraph_68 : decode cX6_headGraph 68 = .ok (.iinc 3 1, 3) := by decide +kernel
theorem dX6_headGraph_71 : decode cX6_headGraph 71 = .ok (.goto (-67), 3) := by decide +kernel
theorem dX6_headGraph_74 : decode cX6_headGraph 74 = .ok (.iload_n 2, 1) := by decide +kernel
theorem dX6_headGraph_75 : decode cX6_headGraph 75 = .ok (.ireturn, 1) := by decide +kernel
theorem dX6_init_0 : decode cX6_init 0 = .ok (.aload_n 0, 1) := by decide +kernel
theorem dX6_init_1 : decode cX6_init 1 = .ok (.invokespecial 3, 3) := by decide +kernel
theorem dX6_init_4 : decode cX6_init 4 = .ok (.aload_n 0, 1) := by decide +kernel
theorem dX6_init_5 : decode cX6_init 5 = .ok (.bipush 12, 2) := by decide +kernel
theorem dX6_init_7 : decode cX6_init 7 = .ok (.newarray .int, 2) := by decide +kernel
theorem dX6_init_9 : decode cX6_init 9 = .ok (.putfield 9, 3) := by decide +kernel
theorem dX6_init_12 : decode cX6_init 12 = .ok (.aload_n 0, 1) := by decide +kernel
theorem dX6_init_13 : decode cX6_init 13 = .ok (.bipush 30, 2) := by decide +kernel
theorem dX6_init_15 : decode cX6_init 15 = .ok (.newarray .boolean, 2) := by decide +kernel
theorem dX6_init_17 : decode cX6_init 17 = .ok (.putfield 15, 3) := by decide +kernel
theorem dX6_init_20 : decode cX6_init 20 = .ok (.aload_n 0, 1) := by decide +kernel
theorem dX6_init_21 : decode cX6_init 21 = .ok (.iconst 0, 1) := by decide +kernel
theorem dX6_init_22 : decode cX6_init 22 = .ok (.putfield 19, 3) := by decide +kernel
theorem dX6_init_25 : decode cX6_init 25 = .ok (.aload_n 0, 1) := by decide +kernel
theorem dX6_init_26 : decode cX6_init 26 = .ok (.sipush 6144, 3) := by decide +kernel
theorem dX6_init_29 : decode cX6_init 29 = .ok (.newarray .int, 2) := by decide +kernel
theorem dX6_init_31 : decode cX6_init 31 = .ok (.putfield 23, 3) := by decide +kernel
theorem dX6_init_34 : decode cX6_init 34 = .ok (.aload_n 0, 1) := by decide +kernel
theorem dX6_init_35 : decode cX6_init 35 = .ok (.bipush 12, 2) := by decide +kernel
theorem dX6_init_37 : decode cX6_init 37 = .ok (.newarray .int, 2) := by decide +kernel
theorem dX6_init_39 : decode cX6_init 39 = .ok (.putfield 26, 3) := by decide +kernel
theorem dX6_init_42 : decode cX6_init 42 = .ok (.aload_n 0, 1) := by decide +kernel
theorem dX6_init_43 : decode cX6_init 43 = .ok (.bipush 30, 2) := by decide +kernel
theorem dX6_init_45 : decode cX6_init 45 = .ok (.newarray .boolean, 2) := by decide +kernel
theorem dX6_init_47 : decode cX6_init 47 = .ok (.putfield 29, 3) := by decide +kernel
theorem dX6_init_50 : decode cX6_init 50 = .ok (.aload_n 0, 1) := by decide +kernel
theorem dX6_init_51 : decode cX6_init 51 = .ok (.bipush 30, 2) := by decide +kernel
theorem dX6_init_53 : decode cX6_init 53 = .ok (.newarray .boolean, 2) := by decide +kernel
theorem dX6_init_55 : decode cX6_init 55 = .ok (.putfield 32, 3) := by decide +kernel
theorem dX6_init_58 : decode cX6_init 58 = .ok (.aload_n 0, 1) := by decide +kernel
theorem dX6_init_59 : decode cX6_init 59 = .ok (.sipush 6144, 3) := by decide +kernel
theorem dX6_init_62 : decode cX6_init 62 = .ok (.newarray .boolean, 2) := by decide +kernel
theorem dX6_init_64 : decode cX6_init 64 = .ok (.putfield 35, 3) := by decide +kernel
theorem dX6_init_67 : decode cX6_init 67 = .ok (.aload_n 0, 1) := by decide +kernel
theorem dX6_init_68 : decode cX6_init 68 = .ok (.bipush 12, 2) := by decide +kernel
theorem dX6_init_70 : decode cX6_init 70 = .ok (.newarray .boolean, 2) := by decide +kernel
theorem dX6_init_72 : decode cX6_init 72 = .ok (.putfield 38, 3) := by decide +kernel
theorem dX6_init_75 : decode cX6_init 75 = .ok (.aload_n 0, 1) := by decide +kernel
theorem dX6_init_76 : decode cX6_init 76 = .ok (.bipush 12, 2) := by decide +kernel
theorem dX6_init_78 : decode cX6_init 78 = .ok (.newarray .boolean, 2) := by decide +kernel
theorem dX6_init_80 : decode cX6_init 80 = .ok (.putfield 41, 3) := by decide +kernel
theorem dX6_init_83 : decode cX6_init 83 = .ok (.aload_n 0, 1) := by decide +kernel
theorem dX6_init_84 : decode cX6_init 84 = .ok (.bipush 24, 2) := by decide +kernel
theorem dX6_init_86 : decode cX6_init 86 = .ok (.newarray .int, 2) := by decide +kernel
theorem dX6_init_88 : decode cX6_init 88 = .ok (.putfield 44, 3) := by decide +kernel
theorem dX6_init_91 : decode cX6_init 91 = .ok (.aload_n 0, 1) := by decide +kernel
theorem dX6_init_92 : decode cX6_init 92 = .ok (.bipush 90, 2) := by decide +kernel
theorem dX6_init_94 : decode cX6_init 94 = .ok (.newarray .int, 2) := by decide +kernel
theorem dX6_init_96 : decode cX6_init 96 = .ok (.putfield 47, 3) := by decide +kernel
theorem dX6_init_99 : decode cX6_init 99 = .ok (.aload_n 0, 1) := by decide +kernel
theorem dX6_init_100 : decode cX6_init 100 = .ok (.iconst 3, 1) := by decide +kernel
theorem dX6_init_101 : decode cX6_init 101 = .ok (.newarray .int, 2) := by decide +kernel
theorem dX6_init_103 : decode cX6_init 103 = .ok (.putfield 50, 3) := by decide +kernel
theorem dX6_init_106 : decode cX6_init 106 = .ok (.aload_n 0, 1) := by decide +kernel
theorem dX6_init_107 : decode cX6_init 107 = .ok (.iconst 3, 1) := by decide +kernel
theorem dX6_init_108 : decode cX6_init 108 = .ok (.newarray .int, 2) := by decide +kernel
theorem dX6_init_110 : decode cX6_init 110 = .ok (.putfield 53, 3) := by decide +kernel
theorem dX6_init_113 : decode cX6_init 113 = .ok (.aload_n 0, 1) := by decide +kernel
theorem dX6_init_114 : decode cX6_init 114 = .ok (.aload_n 1, 1) := by decide +kernel
theorem dX6_init_115 : decode cX6_init 115 = .ok (.putfield 56, 3) := by decide +kernel
theorem dX6_init_118 : decode cX6_init 118 = .ok (.return_, 1) := by decide +kernel
theorem dX6_loadEquations_0 : decode cX6_loadEquations 0 = .ok (.iconst 0, 1) := by decide +kernel
theorem dX6_loadEquations_1 : decode cX6_loadEquations 1 = .ok (.istore_n 2, 1) := by decide +kernel
theorem dX6_loadEquations_2 : decode cX6_loadEquations 2 = .ok (.iload_n 2, 1) := by decide +kernel
theorem dX6_loadEquations_3 : decode cX6_loadEquations 3 = .ok (.bipush 24, 2) := by decide +kernel
theorem dX6_loadEquations_5 : decode cX6_loadEquations 5 = .ok (.if_icmp .ge 29, 3) := by decide +kernel
theorem dX6_loadEquations_8 : decode cX6_loadEquations 8 = .ok (.aload_n 0, 1) := by decide +kernel
theorem dX6_loadEquations_9 : decode cX6_loadEquations 9 = .ok (.getfield 44, 3) := by decide +kernel
theorem dX6_loadEquations_12 : decode cX6_loadEquations 12 = .ok (.iload_n 2, 1) := by decide +kernel
theorem dX6_loadEquations_13 : decode cX6_loadEquations 13 = .ok (.aload_n 0, 1) := by decide +kernel
theorem dX6_loadEquations_14 : decode cX6_loadEquations 14 = .ok (.getfield 56, 3) := by decide +kernel
theorem dX6_loadEquations_17 : decode cX6_loadEquations 17 = .ok (.getfield 138, 3) := by decide +kernel
theorem dX6_loadEquations_20 : decode cX6_loadEquations 20 = .ok (.iload_n 1, 1) := by decide +kernel
theorem dX6_loadEquations_21 : decode cX6_loadEquations 21 = .ok (.bipush 24, 2) := by decide +kernel
theorem dX6_loadEquations_23 : decode cX6_loadEquations 23 = .ok (.imul, 1) := by decide +kernel
theorem dX6_loadEquations_24 : decode cX6_loadEquations 24 = .ok (.iload_n 2, 1) := by decide +kernel
theorem dX6_loadEquations_25 : decode cX6_loadEquations 25 = .ok (.iadd, 1) := by decide +kernel
theorem dX6_loadEquations_26 : decode cX6_loadEquations 26 = .ok (.iaload, 1) := by decide +kernel
theorem dX6_loadEquations_27 : decode cX6_loadEquations 27 = .ok (.iastore, 1) := by decide +kernel
theorem dX6_loadEquations_28 : decode cX6_loadEquations 28 = .ok (.iinc 2 1, 3) := by decide +kernel
theorem dX6_loadEquations_31 : decode cX6_loadEquations 31 = .ok (.goto (-29), 3) := by decide +kernel
theorem dX6_loadEquations_34 : decode cX6_loadEquations 34 = .ok (.return_, 1) := by decide +kernel
theorem dX6_loadGraph_0 : decode cX6_loadGraph 0 = .ok (.aload_n 0, 1) := by decide +kernel
theorem dX6_loadGraph_1 : decode cX6_loadGraph 1 = .ok (.getfield 56, 3) := by decide +kernel
theorem dX6_loadGraph_4 : decode cX6_loadGraph 4 = .ok (.iload_n 1, 1) := by decide +kernel
theorem dX6_loadGraph_5 : decode cX6_loadGraph 5 = .ok (.iload_n 2, 1) := by decide +kernel
theorem dX6_loadGraph_6 : decode cX6_loadGraph 6 = .ok (.invokevirtual 92, 3) := by decide +kernel
theorem dX6_loadGraph_9 : decode cX6_loadGraph 9 = .ok (.istore 4, 2) := by decide +kernel
theorem dX6_loadGraph_11 : decode cX6_loadGraph 11 = .ok (.iload_n 2, 1) := by decide +kernel
theorem dX6_loadGraph_12 : decode cX6_loadGraph 12 = .ok (.bipush 6, 2) := by decide +kernel
theorem dX6_loadGraph_14 : decode cX6_loadGraph 14 = .ok (.imul, 1) := by decide +kernel
theorem dX6_loadGraph_15 : decode cX6_loadGraph 15 = .ok (.istore 5, 2) := by decide +kernel
theorem dX6_loadGraph_17 : decode cX6_loadGraph 17 = .ok (.iconst 0, 1) := by decide +kernel
theorem dX6_loadGraph_18 : decode cX6_loadGraph 18 = .ok (.istore 6, 2) := by decide +kernel
theorem dX6_loadGraph_20 : decode cX6_loadGraph 20 = .ok (.iload 6, 2) := by decide +kernel
theorem dX6_loadGraph_22 : decode cX6_loadGraph 22 = .ok (.aload_n 0, 1) := by decide +kernel
theorem dX6_loadGraph_23 : decode cX6_loadGraph 23 = .ok (.getfield 56, 3) := by decide +kernel
theorem dX6_loadGraph_26 : decode cX6_loadGraph 26 = .ok (.getfield 141, 3) := by decide +kernel
theorem dX6_loadGraph_29 : decode cX6_loadGraph 29 = .ok (.iload 4, 2) := by decide +kernel
theorem dX6_loadGraph_31 : decode cX6_loadGraph 31 = .ok (.iaload, 1) := by decide +kernel
theorem dX6_loadGraph_32 : decode cX6_loadGraph 32 = .ok (.if_icmp .ge 71, 3) := by decide +kernel
theorem dX6_loadGraph_35 : decode cX6_loadGraph 35 = .ok (.iconst 0, 1) := by decide +kernel
theorem dX6_loadGraph_36 : decode cX6_loadGraph 36 = .ok (.istore 7, 2) := by decide +kernel
theorem dX6_loadGraph_38 : decode cX6_loadGraph 38 = .ok (.iload 7, 2) := by decide +kernel
theorem dX6_loadGraph_40 : decode cX6_loadGraph 40 = .ok (.aload_n 0, 1) := by decide +kernel
theorem dX6_loadGraph_41 : decode cX6_loadGraph 41 = .ok (.getfield 56, 3) := by decide +kernel
theorem dX6_loadGraph_44 : decode cX6_loadGraph 44 = .ok (.getfield 141, 3) := by decide +kernel
theorem dX6_loadGraph_47 : decode cX6_loadGraph 47 = .ok (.iload 4, 2) := by decide +kernel
theorem dX6_loadGraph_49 : decode cX6_loadGraph 49 = .ok (.iaload, 1) := by decide +kernel
theorem dX6_loadGraph_50 : decode cX6_loadGraph 50 = .ok (.if_icmp .ge 47, 3) := by decide +kernel
theorem dX6_loadGraph_53 : decode cX6_loadGraph 53 = .ok (.iload_n 3, 1) := by decide +kernel
theorem dX6_loadGraph_54 : decode cX6_loadGraph 54 = .ok (.aload_n 0, 1) := by decide +kernel
theorem dX6_loadGraph_55 : decode cX6_loadGraph 55 = .ok (.getfield 56, 3) := by decide +kernel
theorem dX6_loadGraph_58 : decode cX6_loadGraph 58 = .ok (.iload 4, 2) := by decide +kernel
theorem dX6_loadGraph_60 : decode cX6_loadGraph 60 = .ok (.iload 7, 2) := by decide +kernel
theorem dX6_loadGraph_62 : decode cX6_loadGraph 62 = .ok (.iload 6, 2) := by decide +kernel
theorem dX6_loadGraph_64 : decode cX6_loadGraph 64 = .ok (.invokevirtual 144, 3) := by decide +kernel
theorem dX6_loadGraph_67 : decode cX6_loadGraph 67 = .ok (.iand, 1) := by decide +kernel
theorem dX6_loadGraph_68 : decode cX6_loadGraph 68 = .ok (.ifCond .eq 23, 3) := by decide +kernel
theorem dX6_loadGraph_71 : decode cX6_loadGraph 71 = .ok (.aload_n 0, 1) := by decide +kernel
theorem dX6_loadGraph_72 : decode cX6_loadGraph 72 = .ok (.getfield 44, 3) := by decide +kernel
theorem dX6_loadGraph_75 : decode cX6_loadGraph 75 = .ok (.iload 5, 2) := by decide +kernel
theorem dX6_loadGraph_77 : decode cX6_loadGraph 77 = .ok (.iload 6, 2) := by decide +kernel
theorem dX6_loadGraph_79 : decode cX6_loadGraph 79 = .ok (.iadd, 1) := by decide +kernel
theorem dX6_loadGraph_80 : decode cX6_loadGraph 80 = .ok (.dup2, 1) := by decide +kernel
theorem dX6_loadGraph_81 : decode cX6_loadGraph 81 = .ok (.iaload, 1) := by decide +kernel
theorem dX6_loadGraph_82 : decode cX6_loadGraph 82 = .ok (.iconst 1, 1) := by decide +kernel
theorem dX6_loadGraph_83 : decode cX6_loadGraph 83 = .ok (.iload 5, 2) := by decide +kernel
theorem dX6_loadGraph_85 : decode cX6_loadGraph 85 = .ok (.iload 7, 2) := by decide +kernel
theorem dX6_loadGraph_87 : decode cX6_loadGraph 87 = .ok (.iadd, 1) := by decide +kernel
theorem dX6_loadGraph_88 : decode cX6_loadGraph 88 = .ok (.ishl, 1) := by decide +kernel
theorem dX6_loadGraph_89 : decode cX6_loadGraph 89 = .ok (.ior, 1) := by decide +kernel
theorem dX6_loadGraph_90 : decode cX6_loadGraph 90 = .ok (.iastore, 1) := by decide +kernel
theorem dX6_loadGraph_91 : decode cX6_loadGraph 91 = .ok (.iinc 7 1, 3) := by decide +kernel
theorem dX6_loadGraph_94 : decode cX6_loadGraph 94 = .ok (.goto (-56), 3) := by decide +kernel
theorem dX6_loadGraph_97 : decode cX6_loadGraph 97 = .ok (.iinc 6 1, 3) := by decide +kernel
theorem dX6_loadGraph_100 : decode cX6_loadGraph 100 = .ok (.goto (-80), 3) := by decide +kernel
theorem dX6_loadGraph_103 : decode cX6_loadGraph 103 = .ok (.return_, 1) := by decide +kernel
theorem dX6_plainGoesRound_0 : decode cX6_plainGoesRound 0 = .ok (.iconst 0, 1) := by decide +kernel
theorem dX6_plainGoesRound_1 : decode cX6_plainGoesRound 1 = .ok (.istore_n 1, 1) := by decide +kernel
theorem dX6_plainGoesRound_2 : decode cX6_plainGoesRound 2 = .ok (.iload_n 1, 1) := by decide +kernel
theorem dX6_plainGoesRound_3 : decode cX6_plainGoesRound 3 = .ok (.aload_n 0, 1) := by decide +kernel
theorem dX6_plainGoesRound_4 : decode cX6_plainGoesRound 4 = .ok (.getfield 56, 3) := by decide +kernel
theorem dX6_plainGoesRound_7 : decode cX6_plainGoesRound 7 = .ok (.getfield 72, 3) := by decide +kernel
theorem dX6_plainGoesRound_10 : decode cX6_plainGoesRound 10 = .ok (.if_icmp .ge 20, 3) := by decide +kernel
theorem dX6_plainGoesRound_13 : decode cX6_plainGoesRound 13 = .ok (.aload_n 0, 1) := by decide +kernel
theorem dX6_plainGoesRound_14 : decode cX6_plainGoesRound 14 = .ok (.getfield 15, 3) := by decide +kernel
theorem dX6_plainGoesRound_17 : decode cX6_plainGoesRound 17 = .ok (.iload_n 1, 1) := by decide +kernel
theorem dX6_plainGoesRound_18 : decode cX6_plainGoesRound 18 = .ok (.baload, 1) := by decide +kernel
theorem dX6_plainGoesRound_19 : decode cX6_plainGoesRound 19 = .ok (.ifCond .eq 5, 3) := by decide +kernel
theorem dX6_plainGoesRound_22 : decode cX6_plainGoesRound 22 = .ok (.iconst 1, 1) := by decide +kernel
theorem dX6_plainGoesRound_23 : decode cX6_plainGoesRound 23 = .ok (.ireturn, 1) := by decide +kernel
theorem dX6_plainGoesRound_24 : decode cX6_plainGoesRound 24 = .ok (.iinc 1 1, 3) := by decide +kernel
theorem dX6_plainGoesRound_27 : decode cX6_plainGoesRound 27 = .ok (.goto (-25), 3) := by decide +kernel
theorem dX6_plainGoesRound_30 : decode cX6_plainGoesRound 30 = .ok (.iconst 0, 1) := by decide +kernel
theorem dX6_plainGoesRound_31 : decode cX6_plainGoesRound 31 = .ok (.ireturn, 1) := by decide +kernel
theorem dX6_someTreeGoesRound_0 : decode cX6_someTreeGoesRound 0 = .ok (.iconst 0, 1) := by decide +kernel
theorem dX6_someTreeGoesRound_1 : decode cX6_someTreeGoesRound 1 = .ok (.istore_n 1, 1) := by decide +kernel
theorem dX6_someTreeGoesRound_2 : decode cX6_someTreeGoesRound 2 = .ok (.iload_n 1, 1) := by decide +kernel
theorem dX6_someTreeGoesRound_3 : decode cX6_someTreeGoesRound 3 = .ok (.aload_n 0, 1) := by decide +kernel
theorem dX6_someTreeGoesRound_4 : decode cX6_someTreeGoesRound 4 = .ok (.getfield 56, 3) := by decide +kernel
theorem dX6_someTreeGoesRound_7 : decode cX6_someTreeGoesRound 7 = .ok (.getfield 72, 3) := by decide +kernel
theorem dX6_someTreeGoesRound_10 : decode cX6_someTreeGoesRound 10 = .ok (.if_icmp .ge 29, 3) := by decide +kernel
theorem dX6_someTreeGoesRound_13 : decode cX6_someTreeGoesRound 13 = .ok (.aload_n 0, 1) := by decide +kernel
theorem dX6_someTreeGoesRound_14 : decode cX6_someTreeGoesRound 14 = .ok (.getfield 32, 3) := by decide +kernel
theorem dX6_someTreeGoesRound_17 : decode cX6_someTreeGoesRound 17 = .ok (.iload_n 1, 1) := by decide +kernel
theorem dX6_someTreeGoesRound_18 : decode cX6_someTreeGoesRound 18 = .ok (.baload, 1) := by decide +kernel
theorem dX6_someTreeGoesRound_19 : decode cX6_someTreeGoesRound 19 = .ok (.ifCond .eq 14, 3) := by decide +kernel
theorem dX6_someTreeGoesRound_22 : decode cX6_someTreeGoesRound 22 = .ok (.aload_n 0, 1) := by decide +kernel
theorem dX6_someTreeGoesRound_23 : decode cX6_someTreeGoesRound 23 = .ok (.getfield 29, 3) := by decide +kernel
theorem dX6_someTreeGoesRound_26 : decode cX6_someTreeGoesRound 26 = .ok (.iload_n 1, 1) := by decide +kernel
theorem dX6_someTreeGoesRound_27 : decode cX6_someTreeGoesRound 27 = .ok (.baload, 1) := by decide +kernel
theorem dX6_someTreeGoesRound_28 : decode cX6_someTreeGoesRound 28 = .ok (.ifCond .eq 5, 3) := by decide +kernel
theorem dX6_someTreeGoesRound_31 : decode cX6_someTreeGoesRound 31 = .ok (.iconst 1, 1) := by decide +kernel
theorem dX6_someTreeGoesRound_32 : decode cX6_someTreeGoesRound 32 = .ok (.ireturn, 1) := by decide +kernel
theorem dX6_someTreeGoesRound_33 : decode cX6_someTreeGoesRound 33 = .ok (.iinc 1 1, 3) := by decide +kernel
theorem dX6_someTreeGoesRound_36 : decode cX6_someTreeGoesRound 36 = .ok (.goto (-34), 3) := by decide +kernel
theorem dX6_someTreeGoesRound_39 : decode cX6_someTreeGoesRound 39 = .ok (.iconst 0, 1) := by decide +kernel
theorem dX6_someTreeGoesRound_40 : decode cX6_someTreeGoesRound 40 = .ok (.ireturn, 1) := by decide +kernel
theorem dX6_sortGraphs_0 : decode cX6_sortGraphs 0 = .ok (.iconst 0, 1) := by decide +kernel
theorem dX6_sortGraphs_1 : decode cX6_sortGraphs 1 = .ok (.istore_n 1, 1) := by decide +kernel
theorem dX6_sortGraphs_2 : decode cX6_sortGraphs 2 = .ok (.iload_n 1, 1) := by decide +kernel
theorem dX6_sortGraphs_3 : decode cX6_sortGraphs 3 = .ok (.aload_n 0, 1) := by decide +kernel
theorem dX6_sortGraphs_4 : decode cX6_sortGraphs 4 = .ok (.getfield 56, 3) := by decide +kernel
theorem dX6_sortGraphs_7 : decode cX6_sortGraphs 7 = .ok (.getfield 78, 3) := by decide +kernel
theorem dX6_sortGraphs_10 : decode cX6_sortGraphs 10 = .ok (.if_icmp .ge 57, 3) := by decide +kernel
theorem dX6_sortGraphs_13 : decode cX6_sortGraphs 13 = .ok (.iconst 0, 1) := by decide +kernel
theorem dX6_sortGraphs_14 : decode cX6_sortGraphs 14 = .ok (.istore_n 2, 1) := by decide +kernel
theorem dX6_sortGraphs_15 : decode cX6_sortGraphs 15 = .ok (.iconst 0, 1) := by decide +kernel
theorem dX6_sortGraphs_16 : decode cX6_sortGraphs 16 = .ok (.istore_n 3, 1) := by decide +kernel
theorem dX6_sortGraphs_17 : decode cX6_sortGraphs 17 = .ok (.iload_n 3, 1) := by decide +kernel
theorem dX6_sortGraphs_18 : decode cX6_sortGraphs 18 = .ok (.sipush 512, 3) := by decide +kernel
theorem dX6_sortGraphs_21 : decode cX6_sortGraphs 21 = .ok (.if_icmp .ge 40, 3) := by decide +kernel
theorem dX6_sortGraphs_24 : decode cX6_sortGraphs 24 = .ok (.aload_n 0, 1) := by decide +kernel
theorem dX6_sortGraphs_25 : decode cX6_sortGraphs 25 = .ok (.getfield 35, 3) := by decide +kernel
theorem dX6_sortGraphs_28 : decode cX6_sortGraphs 28 = .ok (.iload_n 1, 1) := by decide +kernel
theorem dX6_sortGraphs_29 : decode cX6_sortGraphs 29 = .ok (.sipush 512, 3) := by decide +kernel
theorem dX6_sortGraphs_32 : decode cX6_sortGraphs 32 = .ok (.imul, 1) := by decide +kernel
theorem dX6_sortGraphs_33 : decode cX6_sortGraphs 33 = .ok (.iload_n 3, 1) := by decide +kernel
theorem dX6_sortGraphs_34 : decode cX6_sortGraphs 34 = .ok (.iadd, 1) := by decide +kernel
theorem dX6_sortGraphs_35 : decode cX6_sortGraphs 35 = .ok (.baload, 1) := by decide +kernel
theorem dX6_sortGraphs_36 : decode cX6_sortGraphs 36 = .ok (.ifCond .eq 19, 3) := by decide +kernel
theorem dX6_sortGraphs_39 : decode cX6_sortGraphs 39 = .ok (.aload_n 0, 1) := by decide +kernel
theorem dX6_sortGraphs_40 : decode cX6_sortGraphs 40 = .ok (.getfield 23, 3) := by decide +kernel
theorem dX6_sortGraphs_43 : decode cX6_sortGraphs 43 = .ok (.iload_n 1, 1) := by decide +kernel
theorem dX6_sortGraphs_44 : decode cX6_sortGraphs 44 = .ok (.sipush 512, 3) := by decide +kernel
theorem dX6_sortGraphs_47 : decode cX6_sortGraphs 47 = .ok (.imul, 1) := by decide +kernel
theorem dX6_sortGraphs_48 : decode cX6_sortGraphs 48 = .ok (.iload_n 2, 1) := by decide +kernel
theorem dX6_sortGraphs_49 : decode cX6_sortGraphs 49 = .ok (.iadd, 1) := by decide +kernel
theorem dX6_sortGraphs_50 : decode cX6_sortGraphs 50 = .ok (.iload_n 3, 1) := by decide +kernel
theorem dX6_sortGraphs_51 : decode cX6_sortGraphs 51 = .ok (.iastore, 1) := by decide +kernel
theorem dX6_sortGraphs_52 : decode cX6_sortGraphs 52 = .ok (.iinc 2 1, 3) := by decide +kernel
theorem dX6_sortGraphs_55 : decode cX6_sortGraphs 55 = .ok (.iinc 3 1, 3) := by decide +kernel
theorem dX6_sortGraphs_58 : decode cX6_sortGraphs 58 = .ok (.goto (-41), 3) := by decide +kernel
theorem dX6_sortGraphs_61 : decode cX6_sortGraphs 61 = .ok (.iinc 1 1, 3) := by decide +kernel
theorem dX6_sortGraphs_64 : decode cX6_sortGraphs 64 = .ok (.goto (-62), 3) := by decide +kernel
theorem dX6_sortGraphs_67 : decode cX6_sortGraphs 67 = .ok (.return_, 1) := by decide +kernel
theorem dX6_study_0 : decode cX6_study 0 = .ok (.aload_n 0, 1) := by decide +kernel
theorem dX6_study_1 : decode cX6_study 1 = .ok (.aload_n 1, 1) := by decide +kernel
theorem dX6_study_2 : decode cX6_study 2 = .ok (.putfield 56, 3) := by decide +kernel
theorem dX6_study_5 : decode cX6_study 5 = .ok (.aload_n 0, 1) := by decide +kernel
theorem dX6_study_6 : decode cX6_study 6 = .ok (.invokevirtual 60, 3) := by decide +kernel
theorem dX6_study_9 : decode cX6_study 9 = .ok (.aload_n 0, 1) := by decide +kernel
theorem dX6_study_10 : decode cX6_study 10 = .ok (.invokevirtual 63, 3) := by decide +kernel
theorem dX6_study_13 : decode cX6_study 13 = .ok (.aload_n 0, 1) := by decide +kernel
theorem dX6_study_14 : decode cX6_study 14 = .ok (.invokevirtual 66, 3) := by decide +kernel
theorem dX6_study_17 : decode cX6_study 17 = .ok (.aload_n 0, 1) := by decide +kernel
theorem dX6_study_18 : decode cX6_study 18 = .ok (.invokevirtual 69, 3) := by decide +kernel
theorem dX6_study_21 : decode cX6_study 21 = .ok (.return_, 1) := by decide +kernel
theorem dX6_takeChoice_0 : decode cX6_takeChoice 0 = .ok (.aload_n 0, 1) := by decide +kernel
theorem dX6_takeChoice_1 : decode cX6_takeChoice 1 = .ok (.iload_n 1, 1) := by decide +kernel
theorem dX6_takeChoice_2 : decode cX6_takeChoice 2 = .ok (.invokevirtual 85, 3) := by decide +kernel
theorem dX6_takeChoice_5 : decode cX6_takeChoice 5 = .ok (.iload_n 2, 1) := by decide +kernel
theorem dX6_takeChoice_6 : decode cX6_takeChoice 6 = .ok (.istore_n 3, 1) := by decide +kernel
theorem dX6_takeChoice_7 : decode cX6_takeChoice 7 = .ok (.iconst 0, 1) := by decide +kernel
theorem dX6_takeChoice_8 : decode cX6_takeChoice 8 = .ok (.istore 4, 2) := by decide +kernel
theorem dX6_takeChoice_10 : decode cX6_takeChoice 10 = .ok (.iload 4, 2) := by decide +kernel
theorem dX6_takeChoice_12 : decode cX6_takeChoice 12 = .ok (.aload_n 0, 1) := by decide +kernel
theorem dX6_takeChoice_13 : decode cX6_takeChoice 13 = .ok (.getfield 56, 3) := by decide +kernel
theorem dX6_takeChoice_16 : decode cX6_takeChoice 16 = .ok (.getfield 89, 3) := by decide +kernel
theorem dX6_takeChoice_19 : decode cX6_takeChoice 19 = .ok (.iload_n 1, 1) := by decide +kernel
theorem dX6_takeChoice_20 : decode cX6_takeChoice 20 = .ok (.iaload, 1) := by decide +kernel
theorem dX6_takeChoice_21 : decode cX6_takeChoice 21 = .ok (.if_icmp .ge 74, 3) := by decide +kernel
theorem dX6_takeChoice_24 : decode cX6_takeChoice 24 = .ok (.aload_n 0, 1) := by decide +kernel
theorem dX6_takeChoice_25 : decode cX6_takeChoice 25 = .ok (.getfield 53, 3) := by decide +kernel
theorem dX6_takeChoice_28 : decode cX6_takeChoice 28 = .ok (.iload 4, 2) := by decide +kernel
theorem dX6_takeChoice_30 : decode cX6_takeChoice 30 = .ok (.iaload, 1) := by decide +kernel
theorem dX6_takeChoice_31 : decode cX6_takeChoice 31 = .ok (.iconst 1, 1) := by decide +kernel
theorem dX6_takeChoice_32 : decode cX6_takeChoice 32 = .ok (.invokestatic 130, 3) := by decide +kernel
theorem dX6_takeChoice_35 : decode cX6_takeChoice 35 = .ok (.istore 5, 2) := by decide +kernel
theorem dX6_takeChoice_37 : decode cX6_takeChoice 37 = .ok (.aload_n 0, 1) := by decide +kernel
theorem dX6_takeChoice_38 : decode cX6_takeChoice 38 = .ok (.getfield 50, 3) := by decide +kernel
theorem dX6_takeChoice_41 : decode cX6_takeChoice 41 = .ok (.iload 4, 2) := by decide +kernel
theorem dX6_takeChoice_43 : decode cX6_takeChoice 43 = .ok (.iaload, 1) := by decide +kernel
theorem dX6_takeChoice_44 : decode cX6_takeChoice 44 = .ok (.iload_n 3, 1) := by decide +kernel
theorem dX6_takeChoice_45 : decode cX6_takeChoice 45 = .ok (.iload 5, 2) := by decide +kernel
theorem dX6_takeChoice_47 : decode cX6_takeChoice 47 = .ok (.irem, 1) := by decide +kernel
theorem dX6_takeChoice_48 : decode cX6_takeChoice 48 = .ok (.iadd, 1) := by decide +kernel
theorem dX6_takeChoice_49 : decode cX6_takeChoice 49 = .ok (.istore 6, 2) := by decide +kernel
theorem dX6_takeChoice_51 : decode cX6_takeChoice 51 = .ok (.iload_n 3, 1) := by decide +kernel
theorem dX6_takeChoice_52 : decode cX6_takeChoice 52 = .ok (.iload 5, 2) := by decide +kernel
theorem dX6_takeChoice_54 : decode cX6_takeChoice 54 = .ok (.idiv, 1) := by decide +kernel
theorem dX6_takeChoice_55 : decode cX6_takeChoice 55 = .ok (.istore_n 3, 1) := by decide +kernel
theorem dX6_takeChoice_56 : decode cX6_takeChoice 56 = .ok (.aload_n 0, 1) := by decide +kernel
theorem dX6_takeChoice_57 : decode cX6_takeChoice 57 = .ok (.iload_n 1, 1) := by decide +kernel
theorem dX6_takeChoice_58 : decode cX6_takeChoice 58 = .ok (.iload 4, 2) := by decide +kernel
theorem dX6_takeChoice_60 : decode cX6_takeChoice 60 = .ok (.iconst 1, 1) := by decide +kernel
theorem dX6_takeChoice_61 : decode cX6_takeChoice 61 = .ok (.iadd, 1) := by decide +kernel
theorem dX6_takeChoice_62 : decode cX6_takeChoice 62 = .ok (.aload_n 0, 1) := by decide +kernel
theorem dX6_takeChoice_63 : decode cX6_takeChoice 63 = .ok (.getfield 23, 3) := by decide +kernel
theorem dX6_takeChoice_66 : decode cX6_takeChoice 66 = .ok (.aload_n 0, 1) := by decide +kernel
theorem dX6_takeChoice_67 : decode cX6_takeChoice 67 = .ok (.getfield 56, 3) := by decide +kernel
theorem dX6_takeChoice_70 : decode cX6_takeChoice 70 = .ok (.iload_n 1, 1) := by decide +kernel
theorem dX6_takeChoice_71 : decode cX6_takeChoice 71 = .ok (.iload 4, 2) := by decide +kernel
theorem dX6_takeChoice_73 : decode cX6_takeChoice 73 = .ok (.iconst 1, 1) := by decide +kernel
theorem dX6_takeChoice_74 : decode cX6_takeChoice 74 = .ok (.iadd, 1) := by decide +kernel
theorem dX6_takeChoice_75 : decode cX6_takeChoice 75 = .ok (.invokevirtual 92, 3) := by decide +kernel
theorem dX6_takeChoice_78 : decode cX6_takeChoice 78 = .ok (.sipush 512, 3) := by decide +kernel
theorem dX6_takeChoice_81 : decode cX6_takeChoice 81 = .ok (.imul, 1) := by decide +kernel
theorem dX6_takeChoice_82 : decode cX6_takeChoice 82 = .ok (.iload 6, 2) := by decide +kernel
theorem dX6_takeChoice_84 : decode cX6_takeChoice 84 = .ok (.iadd, 1) := by decide +kernel
theorem dX6_takeChoice_85 : decode cX6_takeChoice 85 = .ok (.iaload, 1) := by decide +kernel
theorem dX6_takeChoice_86 : decode cX6_takeChoice 86 = .ok (.invokevirtual 96, 3) := by decide +kernel
theorem dX6_takeChoice_89 : decode cX6_takeChoice 89 = .ok (.iinc 4 1, 3) := by decide +kernel
theorem dX6_takeChoice_92 : decode cX6_takeChoice 92 = .ok (.goto (-82), 3) := by decide +kernel
theorem dX6_takeChoice_95 : decode cX6_takeChoice 95 = .ok (.aload_n 0, 1) := by decide +kernel
theorem dX6_takeChoice_96 : decode cX6_takeChoice 96 = .ok (.invokevirtual 100, 3) := by decide +kernel
theorem dX6_takeChoice_99 : decode cX6_takeChoice 99 = .ok (.aload_n 0, 1) := by decide +kernel
theorem dX6_takeChoice_100 : decode cX6_takeChoice 100 = .ok (.getfield 29, 3) := by decide +kernel
theorem dX6_takeChoice_103 : decode cX6_takeChoice 103 = .ok (.iload_n 1, 1) := by decide +kernel
theorem dX6_takeChoice_104 : decode cX6_takeChoice 104 = .ok (.dup2, 1) := by decide +kernel
theorem dX6_takeChoice_105 : decode cX6_takeChoice 105 = .ok (.baload, 1) := by decide +kernel
theorem dX6_takeChoice_106 : decode cX6_takeChoice 106 = .ok (.aload_n 0, 1) := by decide +kernel
theorem dX6_takeChoice_107 : decode cX6_takeChoice 107 = .ok (.invokevirtual 103, 3) := by decide +kernel
theorem dX6_takeChoice_110 : decode cX6_takeChoice 110 = .ok (.ior, 1) := by decide +kernel
theorem dX6_takeChoice_111 : decode cX6_takeChoice 111 = .ok (.bastore, 1) := by decide +kernel
theorem dX6_takeChoice_112 : decode cX6_takeChoice 112 = .ok (.aload_n 0, 1) := by decide +kernel
theorem dX6_takeChoice_113 : decode cX6_takeChoice 113 = .ok (.getfield 56, 3) := by decide +kernel
theorem dX6_takeChoice_116 : decode cX6_takeChoice 116 = .ok (.iload_n 1, 1) := by decide +kernel
theorem dX6_takeChoice_117 : decode cX6_takeChoice 117 = .ok (.iconst 0, 1) := by decide +kernel
theorem dX6_takeChoice_118 : decode cX6_takeChoice 118 = .ok (.invokevirtual 92, 3) := by decide +kernel
theorem dX6_takeChoice_121 : decode cX6_takeChoice 121 = .ok (.istore 4, 2) := by decide +kernel
theorem dX6_takeChoice_123 : decode cX6_takeChoice 123 = .ok (.aload_n 0, 1) := by decide +kernel
theorem dX6_takeChoice_124 : decode cX6_takeChoice 124 = .ok (.iload 4, 2) := by decide +kernel
theorem dX6_takeChoice_126 : decode cX6_takeChoice 126 = .ok (.aload_n 0, 1) := by decide +kernel
theorem dX6_takeChoice_127 : decode cX6_takeChoice 127 = .ok (.iload 4, 2) := by decide +kernel
theorem dX6_takeChoice_129 : decode cX6_takeChoice 129 = .ok (.invokevirtual 107, 3) := by decide +kernel
theorem dX6_takeChoice_132 : decode cX6_takeChoice 132 = .ok (.invokevirtual 135, 3) := by decide +kernel
theorem dX6_takeChoice_135 : decode cX6_takeChoice 135 = .ok (.ireturn, 1) := by decide +kernel
theorem dX6_takeNewChoices_0 : decode cX6_takeNewChoices 0 = .ok (.aload_n 0, 1) := by decide +kernel
theorem dX6_takeNewChoices_1 : decode cX6_takeNewChoices 1 = .ok (.getfield 56, 3) := by decide +kernel
theorem dX6_takeNewChoices_4 : decode cX6_takeNewChoices 4 = .ok (.getfield 89, 3) := by decide +kernel
theorem dX6_takeNewChoices_7 : decode cX6_takeNewChoices 7 = .ok (.iload_n 1, 1) := by decide +kernel
theorem dX6_takeNewChoices_8 : decode cX6_takeNewChoices 8 = .ok (.iaload, 1) := by decide +kernel
theorem dX6_takeNewChoices_9 : decode cX6_takeNewChoices 9 = .ok (.istore_n 2, 1) := by decide +kernel
theorem dX6_takeNewChoices_10 : decode cX6_takeNewChoices 10 = .ok (.iconst 0, 1) := by decide +kernel
theorem dX6_takeNewChoices_11 : decode cX6_takeNewChoices 11 = .ok (.istore_n 3, 1) := by decide +kernel
theorem dX6_takeNewChoices_12 : decode cX6_takeNewChoices 12 = .ok (.iload_n 3, 1) := by decide +kernel
theorem dX6_takeNewChoices_13 : decode cX6_takeNewChoices 13 = .ok (.iload_n 2, 1) := by decide +kernel
theorem dX6_takeNewChoices_14 : decode cX6_takeNewChoices 14 = .ok (.if_icmp .ge 31, 3) := by decide +kernel
theorem dX6_takeNewChoices_17 : decode cX6_takeNewChoices 17 = .ok (.aload_n 0, 1) := by decide +kernel
theorem dX6_takeNewChoices_18 : decode cX6_takeNewChoices 18 = .ok (.getfield 53, 3) := by decide +kernel
theorem dX6_takeNewChoices_21 : decode cX6_takeNewChoices 21 = .ok (.iload_n 3, 1) := by decide +kernel
theorem dX6_takeNewChoices_22 : decode cX6_takeNewChoices 22 = .ok (.aload_n 0, 1) := by decide +kernel
theorem dX6_takeNewChoices_23 : decode cX6_takeNewChoices 23 = .ok (.getfield 26, 3) := by decide +kernel
theorem dX6_takeNewChoices_26 : decode cX6_takeNewChoices 26 = .ok (.aload_n 0, 1) := by decide +kernel
theorem dX6_takeNewChoices_27 : decode cX6_takeNewChoices 27 = .ok (.getfield 56, 3) := by decide +kernel
theorem dX6_takeNewChoices_30 : decode cX6_takeNewChoices 30 = .ok (.iload_n 1, 1) := by decide +kernel
theorem dX6_takeNewChoices_31 : decode cX6_takeNewChoices 31 = .ok (.iload_n 3, 1) := by decide +kernel
theorem dX6_takeNewChoices_32 : decode cX6_takeNewChoices 32 = .ok (.iconst 1, 1) := by decide +kernel
theorem dX6_takeNewChoices_33 : decode cX6_takeNewChoices 33 = .ok (.iadd, 1) := by decide +kernel
theorem dX6_takeNewChoices_34 : decode cX6_takeNewChoices 34 = .ok (.invokevirtual 92, 3) := by decide +kernel
theorem dX6_takeNewChoices_37 : decode cX6_takeNewChoices 37 = .ok (.iaload, 1) := by decide +kernel
theorem dX6_takeNewChoices_38 : decode cX6_takeNewChoices 38 = .ok (.iastore, 1) := by decide +kernel
theorem dX6_takeNewChoices_39 : decode cX6_takeNewChoices 39 = .ok (.iinc 3 1, 3) := by decide +kernel
theorem dX6_takeNewChoices_42 : decode cX6_takeNewChoices 42 = .ok (.goto (-30), 3) := by decide +kernel
theorem dX6_takeNewChoices_45 : decode cX6_takeNewChoices 45 = .ok (.aload_n 0, 1) := by decide +kernel
theorem dX6_takeNewChoices_46 : decode cX6_takeNewChoices 46 = .ok (.iload_n 2, 1) := by decide +kernel
theorem dX6_takeNewChoices_47 : decode cX6_takeNewChoices 47 = .ok (.invokevirtual 127, 3) := by decide +kernel
theorem dX6_takeNewChoices_50 : decode cX6_takeNewChoices 50 = .ok (.sipush 2000, 3) := by decide +kernel
theorem dX6_takeNewChoices_53 : decode cX6_takeNewChoices 53 = .ok (.if_icmp .le 10, 3) := by decide +kernel
theorem dX6_takeNewChoices_56 : decode cX6_takeNewChoices 56 = .ok (.aload_n 0, 1) := by decide +kernel
theorem dX6_takeNewChoices_57 : decode cX6_takeNewChoices 57 = .ok (.iconst 1, 1) := by decide +kernel
theorem dX6_takeNewChoices_58 : decode cX6_takeNewChoices 58 = .ok (.putfield 19, 3) := by decide +kernel
theorem dX6_takeNewChoices_61 : decode cX6_takeNewChoices 61 = .ok (.iconst 0, 1) := by decide +kernel
theorem dX6_takeNewChoices_62 : decode cX6_takeNewChoices 62 = .ok (.ireturn, 1) := by decide +kernel
theorem dX6_takeNewChoices_63 : decode cX6_takeNewChoices 63 = .ok (.iconst 0, 1) := by decide +kernel
theorem dX6_takeNewChoices_64 : decode cX6_takeNewChoices 64 = .ok (.istore_n 3, 1) := by decide +kernel
theorem dX6_takeNewChoices_65 : decode cX6_takeNewChoices 65 = .ok (.iconst 0, 1) := by decide +kernel
theorem dX6_takeNewChoices_66 : decode cX6_takeNewChoices 66 = .ok (.istore 4, 2) := by decide +kernel
theorem dX6_takeNewChoices_68 : decode cX6_takeNewChoices 68 = .ok (.iload 4, 2) := by decide +kernel
theorem dX6_takeNewChoices_70 : decode cX6_takeNewChoices 70 = .ok (.iload_n 2, 1) := by decide +kernel
theorem dX6_takeNewChoices_71 : decode cX6_takeNewChoices 71 = .ok (.if_icmp .ge 115, 3) := by decide +kernel
theorem dX6_takeNewChoices_74 : decode cX6_takeNewChoices 74 = .ok (.aload_n 0, 1) := by decide +kernel
theorem dX6_takeNewChoices_75 : decode cX6_takeNewChoices 75 = .ok (.getfield 47, 3) := by decide +kernel
theorem dX6_takeNewChoices_78 : decode cX6_takeNewChoices 78 = .ok (.iload_n 1, 1) := by decide +kernel
theorem dX6_takeNewChoices_79 : decode cX6_takeNewChoices 79 = .ok (.iconst 3, 1) := by decide +kernel
theorem dX6_takeNewChoices_80 : decode cX6_takeNewChoices 80 = .ok (.imul, 1) := by decide +kernel
theorem dX6_takeNewChoices_81 : decode cX6_takeNewChoices 81 = .ok (.iload 4, 2) := by decide +kernel
theorem dX6_takeNewChoices_83 : decode cX6_takeNewChoices 83 = .ok (.iadd, 1) := by decide +kernel
theorem dX6_takeNewChoices_84 : decode cX6_takeNewChoices 84 = .ok (.iaload, 1) := by decide +kernel
theorem dX6_takeNewChoices_85 : decode cX6_takeNewChoices 85 = .ok (.istore 5, 2) := by decide +kernel
theorem dX6_takeNewChoices_87 : decode cX6_takeNewChoices 87 = .ok (.aload_n 0, 1) := by decide +kernel
theorem dX6_takeNewChoices_88 : decode cX6_takeNewChoices 88 = .ok (.getfield 53, 3) := by decide +kernel
theorem dX6_takeNewChoices_91 : decode cX6_takeNewChoices 91 = .ok (.iload 4, 2) := by decide +kernel
theorem dX6_takeNewChoices_93 : decode cX6_takeNewChoices 93 = .ok (.iaload, 1) := by decide +kernel
theorem dX6_takeNewChoices_94 : decode cX6_takeNewChoices 94 = .ok (.istore 6, 2) := by decide +kernel
theorem dX6_takeNewChoices_96 : decode cX6_takeNewChoices 96 = .ok (.aload_n 0, 1) := by decide +kernel
theorem dX6_takeNewChoices_97 : decode cX6_takeNewChoices 97 = .ok (.getfield 50, 3) := by decide +kernel
theorem dX6_takeNewChoices_100 : decode cX6_takeNewChoices 100 = .ok (.iload 4, 2) := by decide +kernel
theorem dX6_takeNewChoices_102 : decode cX6_takeNewChoices 102 = .ok (.iload 5, 2) := by decide +kernel
theorem dX6_takeNewChoices_104 : decode cX6_takeNewChoices 104 = .ok (.iastore, 1) := by decide +kernel
theorem dX6_takeNewChoices_105 : decode cX6_takeNewChoices 105 = .ok (.aload_n 0, 1) := by decide +kernel
theorem dX6_takeNewChoices_106 : decode cX6_takeNewChoices 106 = .ok (.getfield 53, 3) := by decide +kernel
theorem dX6_takeNewChoices_109 : decode cX6_takeNewChoices 109 = .ok (.iload 4, 2) := by decide +kernel
theorem dX6_takeNewChoices_111 : decode cX6_takeNewChoices 111 = .ok (.iload 6, 2) := by decide +kernel
theorem dX6_takeNewChoices_113 : decode cX6_takeNewChoices 113 = .ok (.iload 5, 2) := by decide +kernel
theorem dX6_takeNewChoices_115 : decode cX6_takeNewChoices 115 = .ok (.isub, 1) := by decide +kernel
theorem dX6_takeNewChoices_116 : decode cX6_takeNewChoices 116 = .ok (.iastore, 1) := by decide +kernel
theorem dX6_takeNewChoices_117 : decode cX6_takeNewChoices 117 = .ok (.aload_n 0, 1) := by decide +kernel
theorem dX6_takeNewChoices_118 : decode cX6_takeNewChoices 118 = .ok (.iload_n 2, 1) := by decide +kernel
theorem dX6_takeNewChoices_119 : decode cX6_takeNewChoices 119 = .ok (.invokevirtual 127, 3) := by decide +kernel
theorem dX6_takeNewChoices_122 : decode cX6_takeNewChoices 122 = .ok (.istore 7, 2) := by decide +kernel
theorem dX6_takeNewChoices_124 : decode cX6_takeNewChoices 124 = .ok (.iconst 0, 1) := by decide +kernel
theorem dX6_takeNewChoices_125 : decode cX6_takeNewChoices 125 = .ok (.istore 8, 2) := by decide +kernel
theorem dX6_takeNewChoices_127 : decode cX6_takeNewChoices 127 = .ok (.iload 8, 2) := by decide +kernel
theorem dX6_takeNewChoices_129 : decode cX6_takeNewChoices 129 = .ok (.iload 7, 2) := by decide +kernel
theorem dX6_takeNewChoices_131 : decode cX6_takeNewChoices 131 = .ok (.if_icmp .ge 19, 3) := by decide +kernel
theorem dX6_takeNewChoices_134 : decode cX6_takeNewChoices 134 = .ok (.iload_n 3, 1) := by decide +kernel
theorem dX6_takeNewChoices_135 : decode cX6_takeNewChoices 135 = .ok (.aload_n 0, 1) := by decide +kernel
theorem dX6_takeNewChoices_136 : decode cX6_takeNewChoices 136 = .ok (.iload_n 1, 1) := by decide +kernel
theorem dX6_takeNewChoices_137 : decode cX6_takeNewChoices 137 = .ok (.iload 8, 2) := by decide +kernel
theorem dX6_takeNewChoices_139 : decode cX6_takeNewChoices 139 = .ok (.invokevirtual 120, 3) := by decide +kernel
theorem dX6_takeNewChoices_142 : decode cX6_takeNewChoices 142 = .ok (.ior, 1) := by decide +kernel
theorem dX6_takeNewChoices_143 : decode cX6_takeNewChoices 143 = .ok (.istore_n 3, 1) := by decide +kernel
theorem dX6_takeNewChoices_144 : decode cX6_takeNewChoices 144 = .ok (.iinc 8 1, 3) := by decide +kernel
theorem dX6_takeNewChoices_147 : decode cX6_takeNewChoices 147 = .ok (.goto (-20), 3) := by decide +kernel
theorem dX6_takeNewChoices_150 : decode cX6_takeNewChoices 150 = .ok (.aload_n 0, 1) := by decide +kernel
theorem dX6_takeNewChoices_151 : decode cX6_takeNewChoices 151 = .ok (.getfield 47, 3) := by decide +kernel
theorem dX6_takeNewChoices_154 : decode cX6_takeNewChoices 154 = .ok (.iload_n 1, 1) := by decide +kernel
theorem dX6_takeNewChoices_155 : decode cX6_takeNewChoices 155 = .ok (.iconst 3, 1) := by decide +kernel
theorem dX6_takeNewChoices_156 : decode cX6_takeNewChoices 156 = .ok (.imul, 1) := by decide +kernel
theorem dX6_takeNewChoices_157 : decode cX6_takeNewChoices 157 = .ok (.iload 4, 2) := by decide +kernel
theorem dX6_takeNewChoices_159 : decode cX6_takeNewChoices 159 = .ok (.iadd, 1) := by decide +kernel
theorem dX6_takeNewChoices_160 : decode cX6_takeNewChoices 160 = .ok (.iload 6, 2) := by decide +kernel
theorem dX6_takeNewChoices_162 : decode cX6_takeNewChoices 162 = .ok (.iastore, 1) := by decide +kernel
theorem dX6_takeNewChoices_163 : decode cX6_takeNewChoices 163 = .ok (.aload_n 0, 1) := by decide +kernel
theorem dX6_takeNewChoices_164 : decode cX6_takeNewChoices 164 = .ok (.getfield 50, 3) := by decide +kernel
theorem dX6_takeNewChoices_167 : decode cX6_takeNewChoices 167 = .ok (.iload 4, 2) := by decide +kernel
theorem dX6_takeNewChoices_169 : decode cX6_takeNewChoices 169 = .ok (.iconst 0, 1) := by decide +kernel
theorem dX6_takeNewChoices_170 : decode cX6_takeNewChoices 170 = .ok (.iastore, 1) := by decide +kernel
theorem dX6_takeNewChoices_171 : decode cX6_takeNewChoices 171 = .ok (.aload_n 0, 1) := by decide +kernel
theorem dX6_takeNewChoices_172 : decode cX6_takeNewChoices 172 = .ok (.getfield 53, 3) := by decide +kernel
theorem dX6_takeNewChoices_175 : decode cX6_takeNewChoices 175 = .ok (.iload 4, 2) := by decide +kernel
theorem dX6_takeNewChoices_177 : decode cX6_takeNewChoices 177 = .ok (.iload 5, 2) := by decide +kernel
theorem dX6_takeNewChoices_179 : decode cX6_takeNewChoices 179 = .ok (.iastore, 1) := by decide +kernel
theorem dX6_takeNewChoices_180 : decode cX6_takeNewChoices 180 = .ok (.iinc 4 1, 3) := by decide +kernel
theorem dX6_takeNewChoices_183 : decode cX6_takeNewChoices 183 = .ok (.goto (-115), 3) := by decide +kernel
theorem dX6_takeNewChoices_186 : decode cX6_takeNewChoices 186 = .ok (.iload_n 3, 1) := by decide +kernel
theorem dX6_takeNewChoices_187 : decode cX6_takeNewChoices 187 = .ok (.ireturn, 1) := by decide +kernel
theorem dX6_takePlain_0 : decode cX6_takePlain 0 = .ok (.aload_n 0, 1) := by decide +kernel
theorem dX6_takePlain_1 : decode cX6_takePlain 1 = .ok (.iload_n 1, 1) := by decide +kernel
theorem dX6_takePlain_2 : decode cX6_takePlain 2 = .ok (.invokevirtual 85, 3) := by decide +kernel
theorem dX6_takePlain_5 : decode cX6_takePlain 5 = .ok (.iconst 1, 1) := by decide +kernel
theorem dX6_takePlain_6 : decode cX6_takePlain 6 = .ok (.istore_n 2, 1) := by decide +kernel
theorem dX6_takePlain_7 : decode cX6_takePlain 7 = .ok (.iload_n 2, 1) := by decide +kernel
theorem dX6_takePlain_8 : decode cX6_takePlain 8 = .ok (.aload_n 0, 1) := by decide +kernel
theorem dX6_takePlain_9 : decode cX6_takePlain 9 = .ok (.getfield 56, 3) := by decide +kernel
theorem dX6_takePlain_12 : decode cX6_takePlain 12 = .ok (.getfield 89, 3) := by decide +kernel
theorem dX6_takePlain_15 : decode cX6_takePlain 15 = .ok (.iload_n 1, 1) := by decide +kernel
theorem dX6_takePlain_16 : decode cX6_takePlain 16 = .ok (.iaload, 1) := by decide +kernel
theorem dX6_takePlain_17 : decode cX6_takePlain 17 = .ok (.if_icmp .gt 29, 3) := by decide +kernel
theorem dX6_takePlain_20 : decode cX6_takePlain 20 = .ok (.aload_n 0, 1) := by decide +kernel
theorem dX6_takePlain_21 : decode cX6_takePlain 21 = .ok (.iload_n 1, 1) := by decide +kernel
theorem dX6_takePlain_22 : decode cX6_takePlain 22 = .ok (.iload_n 2, 1) := by decide +kernel
theorem dX6_takePlain_23 : decode cX6_takePlain 23 = .ok (.aload_n 0, 1) := by decide +kernel
theorem dX6_takePlain_24 : decode cX6_takePlain 24 = .ok (.getfield 9, 3) := by decide +kernel
theorem dX6_takePlain_27 : decode cX6_takePlain 27 = .ok (.aload_n 0, 1) := by decide +kernel
theorem dX6_takePlain_28 : decode cX6_takePlain 28 = .ok (.getfield 56, 3) := by decide +kernel
theorem dX6_takePlain_31 : decode cX6_takePlain 31 = .ok (.iload_n 1, 1) := by decide +kernel
theorem dX6_takePlain_32 : decode cX6_takePlain 32 = .ok (.iload_n 2, 1) := by decide +kernel
theorem dX6_takePlain_33 : decode cX6_takePlain 33 = .ok (.invokevirtual 92, 3) := by decide +kernel
theorem dX6_takePlain_36 : decode cX6_takePlain 36 = .ok (.iaload, 1) := by decide +kernel
theorem dX6_takePlain_37 : decode cX6_takePlain 37 = .ok (.invokevirtual 96, 3) := by decide +kernel
theorem dX6_takePlain_40 : decode cX6_takePlain 40 = .ok (.iinc 2 1, 3) := by decide +kernel
theorem dX6_takePlain_43 : decode cX6_takePlain 43 = .ok (.goto (-36), 3) := by decide +kernel
theorem dX6_takePlain_46 : decode cX6_takePlain 46 = .ok (.aload_n 0, 1) := by decide +kernel
theorem dX6_takePlain_47 : decode cX6_takePlain 47 = .ok (.invokevirtual 100, 3) := by decide +kernel
theorem dX6_takePlain_50 : decode cX6_takePlain 50 = .ok (.aload_n 0, 1) := by decide +kernel
theorem dX6_takePlain_51 : decode cX6_takePlain 51 = .ok (.getfield 15, 3) := by decide +kernel
theorem dX6_takePlain_54 : decode cX6_takePlain 54 = .ok (.iload_n 1, 1) := by decide +kernel
theorem dX6_takePlain_55 : decode cX6_takePlain 55 = .ok (.aload_n 0, 1) := by decide +kernel
theorem dX6_takePlain_56 : decode cX6_takePlain 56 = .ok (.invokevirtual 103, 3) := by decide +kernel
theorem dX6_takePlain_59 : decode cX6_takePlain 59 = .ok (.bastore, 1) := by decide +kernel
theorem dX6_takePlain_60 : decode cX6_takePlain 60 = .ok (.aload_n 0, 1) := by decide +kernel
theorem dX6_takePlain_61 : decode cX6_takePlain 61 = .ok (.getfield 56, 3) := by decide +kernel
theorem dX6_takePlain_64 : decode cX6_takePlain 64 = .ok (.iload_n 1, 1) := by decide +kernel
theorem dX6_takePlain_65 : decode cX6_takePlain 65 = .ok (.iconst 0, 1) := by decide +kernel
theorem dX6_takePlain_66 : decode cX6_takePlain 66 = .ok (.invokevirtual 92, 3) := by decide +kernel
theorem dX6_takePlain_69 : decode cX6_takePlain 69 = .ok (.istore_n 2, 1) := by decide +kernel
theorem dX6_takePlain_70 : decode cX6_takePlain 70 = .ok (.aload_n 0, 1) := by decide +kernel
theorem dX6_takePlain_71 : decode cX6_takePlain 71 = .ok (.getfield 9, 3) := by decide +kernel
theorem dX6_takePlain_74 : decode cX6_takePlain 74 = .ok (.iload_n 2, 1) := by decide +kernel
theorem dX6_takePlain_75 : decode cX6_takePlain 75 = .ok (.iaload, 1) := by decide +kernel
theorem dX6_takePlain_76 : decode cX6_takePlain 76 = .ok (.aload_n 0, 1) := by decide +kernel
theorem dX6_takePlain_77 : decode cX6_takePlain 77 = .ok (.iload_n 2, 1) := by decide +kernel
theorem dX6_takePlain_78 : decode cX6_takePlain 78 = .ok (.invokevirtual 107, 3) := by decide +kernel
theorem dX6_takePlain_81 : decode cX6_takePlain 81 = .ok (.ior, 1) := by decide +kernel
theorem dX6_takePlain_82 : decode cX6_takePlain 82 = .ok (.istore_n 3, 1) := by decide +kernel
theorem dX6_takePlain_83 : decode cX6_takePlain 83 = .ok (.iload_n 3, 1) := by decide +kernel
theorem dX6_takePlain_84 : decode cX6_takePlain 84 = .ok (.aload_n 0, 1) := by decide +kernel
theorem dX6_takePlain_85 : decode cX6_takePlain 85 = .ok (.getfield 9, 3) := by decide +kernel
theorem dX6_takePlain_88 : decode cX6_takePlain 88 = .ok (.iload_n 2, 1) := by decide +kernel
theorem dX6_takePlain_89 : decode cX6_takePlain 89 = .ok (.iaload, 1) := by decide +kernel
theorem dX6_takePlain_90 : decode cX6_takePlain 90 = .ok (.if_icmp .eq 7, 3) := by decide +kernel
theorem dX6_takePlain_93 : decode cX6_takePlain 93 = .ok (.iconst 1, 1) := by decide +kernel
theorem dX6_takePlain_94 : decode cX6_takePlain 94 = .ok (.goto 4, 3) := by decide +kernel
theorem dX6_takePlain_97 : decode cX6_takePlain 97 = .ok (.iconst 0, 1) := by decide +kernel
theorem dX6_takePlain_98 : decode cX6_takePlain 98 = .ok (.istore 4, 2) := by decide +kernel
theorem dX6_takePlain_100 : decode cX6_takePlain 100 = .ok (.aload_n 0, 1) := by decide +kernel
theorem dX6_takePlain_101 : decode cX6_takePlain 101 = .ok (.getfield 9, 3) := by decide +kernel
theorem dX6_takePlain_104 : decode cX6_takePlain 104 = .ok (.iload_n 2, 1) := by decide +kernel
theorem dX6_takePlain_105 : decode cX6_takePlain 105 = .ok (.iload_n 3, 1) := by decide +kernel
theorem dX6_takePlain_106 : decode cX6_takePlain 106 = .ok (.iastore, 1) := by decide +kernel
theorem dX6_takePlain_107 : decode cX6_takePlain 107 = .ok (.iload 4, 2) := by decide +kernel
theorem dX6_takePlain_109 : decode cX6_takePlain 109 = .ok (.ireturn, 1) := by decide +kernel
