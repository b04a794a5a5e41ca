theorem dX2_attributeName_0 : decode cX2_attributeName 0 = .ok (.aload_n 0, 1) := by decide +kernel
theorem dX2_attributeName_1 : decode cX2_attributeName 1 = .ok (.getfield 29, 3) := by decide +kernel
theorem dX2_attributeName_4 : decode cX2_attributeName 4 = .ok (.getfield 101, 3) := by decide +kernel
theorem dX2_attributeName_7 : decode cX2_attributeName 7 = .ok (.iconst 1, 1) := by decide +kernel
theorem dX2_attributeName_8 : decode cX2_attributeName 8 = .ok (.isub, 1) := by decide +kernel
theorem dX2_attributeName_9 : decode cX2_attributeName 9 = .ok (.istore_n 1, 1) := by decide +kernel
theorem dX2_attributeName_10 : decode cX2_attributeName 10 = .ok (.aload_n 0, 1) := by decide +kernel
theorem dX2_attributeName_11 : decode cX2_attributeName 11 = .ok (.getfield 25, 3) := by decide +kernel
theorem dX2_attributeName_14 : decode cX2_attributeName 14 = .ok (.getfield 73, 3) := by decide +kernel
theorem dX2_attributeName_17 : decode cX2_attributeName 17 = .ok (.iconst 1, 1) := by decide +kernel
theorem dX2_attributeName_18 : decode cX2_attributeName 18 = .ok (.if_icmp .ne 7, 3) := by decide +kernel
theorem dX2_attributeName_21 : decode cX2_attributeName 21 = .ok (.iload_n 1, 1) := by decide +kernel
theorem dX2_attributeName_22 : decode cX2_attributeName 22 = .ok (.ifCond .ge 5, 3) := by decide +kernel
theorem dX2_attributeName_25 : decode cX2_attributeName 25 = .ok (.iconst 1, 1) := by decide +kernel
theorem dX2_attributeName_26 : decode cX2_attributeName 26 = .ok (.ireturn, 1) := by decide +kernel
theorem dX2_attributeName_27 : decode cX2_attributeName 27 = .ok (.aload_n 0, 1) := by decide +kernel
theorem dX2_attributeName_28 : decode cX2_attributeName 28 = .ok (.getfield 29, 3) := by decide +kernel
theorem dX2_attributeName_31 : decode cX2_attributeName 31 = .ok (.iload_n 1, 1) := by decide +kernel
theorem dX2_attributeName_32 : decode cX2_attributeName 32 = .ok (.aload_n 0, 1) := by decide +kernel
theorem dX2_attributeName_33 : decode cX2_attributeName 33 = .ok (.getfield 25, 3) := by decide +kernel
theorem dX2_attributeName_36 : decode cX2_attributeName 36 = .ok (.getfield 93, 3) := by decide +kernel
theorem dX2_attributeName_39 : decode cX2_attributeName 39 = .ok (.invokevirtual 108, 3) := by decide +kernel
theorem dX2_attributeName_42 : decode cX2_attributeName 42 = .ok (.iconst (-1), 1) := by decide +kernel
theorem dX2_attributeName_43 : decode cX2_attributeName 43 = .ok (.if_icmp .eq 5, 3) := by decide +kernel
theorem dX2_attributeName_46 : decode cX2_attributeName 46 = .ok (.iconst 2, 1) := by decide +kernel
theorem dX2_attributeName_47 : decode cX2_attributeName 47 = .ok (.ireturn, 1) := by decide +kernel
theorem dX2_attributeName_48 : decode cX2_attributeName 48 = .ok (.aload_n 0, 1) := by decide +kernel
theorem dX2_attributeName_49 : decode cX2_attributeName 49 = .ok (.getfield 29, 3) := by decide +kernel
theorem dX2_attributeName_52 : decode cX2_attributeName 52 = .ok (.getfield 112, 3) := by decide +kernel
theorem dX2_attributeName_55 : decode cX2_attributeName 55 = .ok (.iload_n 1, 1) := by decide +kernel
theorem dX2_attributeName_56 : decode cX2_attributeName 56 = .ok (.iaload, 1) := by decide +kernel
theorem dX2_attributeName_57 : decode cX2_attributeName 57 = .ok (.bipush 6, 2) := by decide +kernel
theorem dX2_attributeName_59 : decode cX2_attributeName 59 = .ok (.if_icmp .lt 5, 3) := by decide +kernel
theorem dX2_attributeName_62 : decode cX2_attributeName 62 = .ok (.iconst 4, 1) := by decide +kernel
theorem dX2_attributeName_63 : decode cX2_attributeName 63 = .ok (.ireturn, 1) := by decide +kernel
theorem dX2_attributeName_64 : decode cX2_attributeName 64 = .ok (.aload_n 0, 1) := by decide +kernel
theorem dX2_attributeName_65 : decode cX2_attributeName 65 = .ok (.getfield 29, 3) := by decide +kernel
theorem dX2_attributeName_68 : decode cX2_attributeName 68 = .ok (.iload_n 1, 1) := by decide +kernel
theorem dX2_attributeName_69 : decode cX2_attributeName 69 = .ok (.aload_n 0, 1) := by decide +kernel
theorem dX2_attributeName_70 : decode cX2_attributeName 70 = .ok (.getfield 25, 3) := by decide +kernel
theorem dX2_attributeName_73 : decode cX2_attributeName 73 = .ok (.getfield 93, 3) := by decide +kernel
theorem dX2_attributeName_76 : decode cX2_attributeName 76 = .ok (.aload_n 0, 1) := by decide +kernel
theorem dX2_attributeName_77 : decode cX2_attributeName 77 = .ok (.getfield 15, 3) := by decide +kernel
theorem dX2_attributeName_80 : decode cX2_attributeName 80 = .ok (.invokevirtual 116, 3) := by decide +kernel
theorem dX2_attributeName_83 : decode cX2_attributeName 83 = .ok (.aload_n 0, 1) := by decide +kernel
theorem dX2_attributeName_84 : decode cX2_attributeName 84 = .ok (.iconst 2, 1) := by decide +kernel
theorem dX2_attributeName_85 : decode cX2_attributeName 85 = .ok (.invokevirtual 76, 3) := by decide +kernel
theorem dX2_attributeName_88 : decode cX2_attributeName 88 = .ok (.ireturn, 1) := by decide +kernel
theorem dX2_behindRule_0 : decode cX2_behindRule 0 = .ok (.aload_n 0, 1) := by decide +kernel
theorem dX2_behindRule_1 : decode cX2_behindRule 1 = .ok (.getfield 25, 3) := by decide +kernel
theorem dX2_behindRule_4 : decode cX2_behindRule 4 = .ok (.getfield 73, 3) := by decide +kernel
theorem dX2_behindRule_7 : decode cX2_behindRule 7 = .ok (.bipush 6, 2) := by decide +kernel
theorem dX2_behindRule_9 : decode cX2_behindRule 9 = .ok (.if_icmp .ne 9, 3) := by decide +kernel
theorem dX2_behindRule_12 : decode cX2_behindRule 12 = .ok (.aload_n 0, 1) := by decide +kernel
theorem dX2_behindRule_13 : decode cX2_behindRule 13 = .ok (.iconst 5, 1) := by decide +kernel
theorem dX2_behindRule_14 : decode cX2_behindRule 14 = .ok (.invokevirtual 76, 3) := by decide +kernel
theorem dX2_behindRule_17 : decode cX2_behindRule 17 = .ok (.ireturn, 1) := by decide +kernel
theorem dX2_behindRule_18 : decode cX2_behindRule 18 = .ok (.aload_n 0, 1) := by decide +kernel
theorem dX2_behindRule_19 : decode cX2_behindRule 19 = .ok (.getfield 25, 3) := by decide +kernel
theorem dX2_behindRule_22 : decode cX2_behindRule 22 = .ok (.getfield 73, 3) := by decide +kernel
theorem dX2_behindRule_25 : decode cX2_behindRule 25 = .ok (.ifCond .eq 5, 3) := by decide +kernel
theorem dX2_behindRule_28 : decode cX2_behindRule 28 = .ok (.iconst 1, 1) := by decide +kernel
theorem dX2_behindRule_29 : decode cX2_behindRule 29 = .ok (.ireturn, 1) := by decide +kernel
theorem dX2_behindRule_30 : decode cX2_behindRule 30 = .ok (.aload_n 0, 1) := by decide +kernel
theorem dX2_behindRule_31 : decode cX2_behindRule 31 = .ok (.getfield 29, 3) := by decide +kernel
theorem dX2_behindRule_34 : decode cX2_behindRule 34 = .ok (.getfield 157, 3) := by decide +kernel
theorem dX2_behindRule_37 : decode cX2_behindRule 37 = .ok (.iconst 0, 1) := by decide +kernel
theorem dX2_behindRule_38 : decode cX2_behindRule 38 = .ok (.iaload, 1) := by decide +kernel
theorem dX2_behindRule_39 : decode cX2_behindRule 39 = .ok (.ifCond .le 8, 3) := by decide +kernel
theorem dX2_behindRule_42 : decode cX2_behindRule 42 = .ok (.bipush 9, 2) := by decide +kernel
theorem dX2_behindRule_44 : decode cX2_behindRule 44 = .ok (.goto 9, 3) := by decide +kernel
theorem dX2_behindRule_47 : decode cX2_behindRule 47 = .ok (.aload_n 0, 1) := by decide +kernel
theorem dX2_behindRule_48 : decode cX2_behindRule 48 = .ok (.bipush 15, 2) := by decide +kernel
theorem dX2_behindRule_50 : decode cX2_behindRule 50 = .ok (.invokevirtual 76, 3) := by decide +kernel
theorem dX2_behindRule_53 : decode cX2_behindRule 53 = .ok (.ireturn, 1) := by decide +kernel
theorem dX2_go_0 : decode cX2_go 0 = .ok (.aload_n 0, 1) := by decide +kernel
theorem dX2_go_1 : decode cX2_go 1 = .ok (.iload_n 1, 1) := by decide +kernel
theorem dX2_go_2 : decode cX2_go 2 = .ok (.putfield 11, 3) := by decide +kernel
theorem dX2_go_5 : decode cX2_go 5 = .ok (.iconst 0, 1) := by decide +kernel
theorem dX2_go_6 : decode cX2_go 6 = .ok (.ireturn, 1) := by decide +kernel
theorem dX2_goIf_0 : decode cX2_goIf 0 = .ok (.aload_n 0, 1) := by decide +kernel
theorem dX2_goIf_1 : decode cX2_goIf 1 = .ok (.getfield 25, 3) := by decide +kernel
theorem dX2_goIf_4 : decode cX2_goIf 4 = .ok (.getfield 73, 3) := by decide +kernel
theorem dX2_goIf_7 : decode cX2_goIf 7 = .ok (.iload_n 1, 1) := by decide +kernel
theorem dX2_goIf_8 : decode cX2_goIf 8 = .ok (.if_icmp .ne 11, 3) := by decide +kernel
theorem dX2_goIf_11 : decode cX2_goIf 11 = .ok (.aload_n 0, 1) := by decide +kernel
theorem dX2_goIf_12 : decode cX2_goIf 12 = .ok (.iload_n 2, 1) := by decide +kernel
theorem dX2_goIf_13 : decode cX2_goIf 13 = .ok (.invokevirtual 76, 3) := by decide +kernel
theorem dX2_goIf_16 : decode cX2_goIf 16 = .ok (.goto 4, 3) := by decide +kernel
theorem dX2_goIf_19 : decode cX2_goIf 19 = .ok (.iconst 1, 1) := by decide +kernel
theorem dX2_goIf_20 : decode cX2_goIf 20 = .ok (.ireturn, 1) := by decide +kernel
theorem dX2_init_0 : decode cX2_init 0 = .ok (.aload_n 0, 1) := by decide +kernel
theorem dX2_init_1 : decode cX2_init 1 = .ok (.invokespecial 3, 3) := by decide +kernel
theorem dX2_init_4 : decode cX2_init 4 = .ok (.aload_n 0, 1) := by decide +kernel
theorem dX2_init_5 : decode cX2_init 5 = .ok (.iconst 0, 1) := by decide +kernel
theorem dX2_init_6 : decode cX2_init 6 = .ok (.putfield 11, 3) := by decide +kernel
theorem dX2_init_9 : decode cX2_init 9 = .ok (.aload_n 0, 1) := by decide +kernel
theorem dX2_init_10 : decode cX2_init 10 = .ok (.iconst 0, 1) := by decide +kernel
theorem dX2_init_11 : decode cX2_init 11 = .ok (.putfield 15, 3) := by decide +kernel
theorem dX2_init_14 : decode cX2_init 14 = .ok (.aload_n 0, 1) := by decide +kernel
theorem dX2_init_15 : decode cX2_init 15 = .ok (.iconst 0, 1) := by decide +kernel
theorem dX2_init_16 : decode cX2_init 16 = .ok (.putfield 19, 3) := by decide +kernel
theorem dX2_init_19 : decode cX2_init 19 = .ok (.aload_n 0, 1) := by decide +kernel
theorem dX2_init_20 : decode cX2_init 20 = .ok (.iconst 0, 1) := by decide +kernel
theorem dX2_init_21 : decode cX2_init 21 = .ok (.putfield 22, 3) := by decide +kernel
theorem dX2_init_24 : decode cX2_init 24 = .ok (.aload_n 0, 1) := by decide +kernel
theorem dX2_init_25 : decode cX2_init 25 = .ok (.aload_n 1, 1) := by decide +kernel
theorem dX2_init_26 : decode cX2_init 26 = .ok (.putfield 25, 3) := by decide +kernel
theorem dX2_init_29 : decode cX2_init 29 = .ok (.aload_n 0, 1) := by decide +kernel
theorem dX2_init_30 : decode cX2_init 30 = .ok (.aload_n 2, 1) := by decide +kernel
theorem dX2_init_31 : decode cX2_init 31 = .ok (.putfield 29, 3) := by decide +kernel
theorem dX2_init_34 : decode cX2_init 34 = .ok (.aload_n 0, 1) := by decide +kernel
theorem dX2_init_35 : decode cX2_init 35 = .ok (.new 33, 3) := by decide +kernel
theorem dX2_init_38 : decode cX2_init 38 = .ok (.dup, 1) := by decide +kernel
theorem dX2_init_39 : decode cX2_init 39 = .ok (.aload_n 1, 1) := by decide +kernel
theorem dX2_init_40 : decode cX2_init 40 = .ok (.aload_n 2, 1) := by decide +kernel
theorem dX2_init_41 : decode cX2_init 41 = .ok (.invokespecial 35, 3) := by decide +kernel
theorem dX2_init_44 : decode cX2_init 44 = .ok (.putfield 38, 3) := by decide +kernel
theorem dX2_init_47 : decode cX2_init 47 = .ok (.return_, 1) := by decide +kernel
theorem dX2_lacksEquation_0 : decode cX2_lacksEquation 0 = .ok (.iconst 0, 1) := by decide +kernel
theorem dX2_lacksEquation_1 : decode cX2_lacksEquation 1 = .ok (.istore_n 2, 1) := by decide +kernel
theorem dX2_lacksEquation_2 : decode cX2_lacksEquation 2 = .ok (.iload_n 2, 1) := by decide +kernel
theorem dX2_lacksEquation_3 : decode cX2_lacksEquation 3 = .ok (.aload_n 0, 1) := by decide +kernel
theorem dX2_lacksEquation_4 : decode cX2_lacksEquation 4 = .ok (.getfield 29, 3) := by decide +kernel
theorem dX2_lacksEquation_7 : decode cX2_lacksEquation 7 = .ok (.getfield 147, 3) := by decide +kernel
theorem dX2_lacksEquation_10 : decode cX2_lacksEquation 10 = .ok (.iload_n 1, 1) := by decide +kernel
theorem dX2_lacksEquation_11 : decode cX2_lacksEquation 11 = .ok (.iaload, 1) := by decide +kernel
theorem dX2_lacksEquation_12 : decode cX2_lacksEquation 12 = .ok (.if_icmp .gt 86, 3) := by decide +kernel
theorem dX2_lacksEquation_15 : decode cX2_lacksEquation 15 = .ok (.aload_n 0, 1) := by decide +kernel
theorem dX2_lacksEquation_16 : decode cX2_lacksEquation 16 = .ok (.getfield 29, 3) := by decide +kernel
theorem dX2_lacksEquation_19 : decode cX2_lacksEquation 19 = .ok (.iload_n 1, 1) := by decide +kernel
theorem dX2_lacksEquation_20 : decode cX2_lacksEquation 20 = .ok (.iload_n 2, 1) := by decide +kernel
theorem dX2_lacksEquation_21 : decode cX2_lacksEquation 21 = .ok (.invokevirtual 160, 3) := by decide +kernel
theorem dX2_lacksEquation_24 : decode cX2_lacksEquation 24 = .ok (.istore_n 3, 1) := by decide +kernel
theorem dX2_lacksEquation_25 : decode cX2_lacksEquation 25 = .ok (.iconst 0, 1) := by decide +kernel
theorem dX2_lacksEquation_26 : decode cX2_lacksEquation 26 = .ok (.istore 4, 2) := by decide +kernel
theorem dX2_lacksEquation_28 : decode cX2_lacksEquation 28 = .ok (.iload 4, 2) := by decide +kernel
theorem dX2_lacksEquation_30 : decode cX2_lacksEquation 30 = .ok (.aload_n 0, 1) := by decide +kernel
theorem dX2_lacksEquation_31 : decode cX2_lacksEquation 31 = .ok (.getfield 29, 3) := by decide +kernel
theorem dX2_lacksEquation_34 : decode cX2_lacksEquation 34 = .ok (.getfield 112, 3) := by decide +kernel
theorem dX2_lacksEquation_37 : decode cX2_lacksEquation 37 = .ok (.iload_n 3, 1) := by decide +kernel
theorem dX2_lacksEquation_38 : decode cX2_lacksEquation 38 = .ok (.iaload, 1) := by decide +kernel
theorem dX2_lacksEquation_39 : decode cX2_lacksEquation 39 = .ok (.if_icmp .ge 53, 3) := by decide +kernel
theorem dX2_lacksEquation_42 : decode cX2_lacksEquation 42 = .ok (.iload_n 1, 1) := by decide +kernel
theorem dX2_lacksEquation_43 : decode cX2_lacksEquation 43 = .ok (.bipush 24, 2) := by decide +kernel
theorem dX2_lacksEquation_45 : decode cX2_lacksEquation 45 = .ok (.imul, 1) := by decide +kernel
theorem dX2_lacksEquation_46 : decode cX2_lacksEquation 46 = .ok (.iload_n 2, 1) := by decide +kernel
theorem dX2_lacksEquation_47 : decode cX2_lacksEquation 47 = .ok (.bipush 6, 2) := by decide +kernel
theorem dX2_lacksEquation_49 : decode cX2_lacksEquation 49 = .ok (.imul, 1) := by decide +kernel
theorem dX2_lacksEquation_50 : decode cX2_lacksEquation 50 = .ok (.iadd, 1) := by decide +kernel
theorem dX2_lacksEquation_51 : decode cX2_lacksEquation 51 = .ok (.iload 4, 2) := by decide +kernel
theorem dX2_lacksEquation_53 : decode cX2_lacksEquation 53 = .ok (.iadd, 1) := by decide +kernel
theorem dX2_lacksEquation_54 : decode cX2_lacksEquation 54 = .ok (.istore 5, 2) := by decide +kernel
theorem dX2_lacksEquation_56 : decode cX2_lacksEquation 56 = .ok (.aload_n 0, 1) := by decide +kernel
theorem dX2_lacksEquation_57 : decode cX2_lacksEquation 57 = .ok (.getfield 29, 3) := by decide +kernel
theorem dX2_lacksEquation_60 : decode cX2_lacksEquation 60 = .ok (.iload_n 2, 1) := by decide +kernel
theorem dX2_lacksEquation_61 : decode cX2_lacksEquation 61 = .ok (.iload_n 3, 1) := by decide +kernel
theorem dX2_lacksEquation_62 : decode cX2_lacksEquation 62 = .ok (.iload 4, 2) := by decide +kernel
theorem dX2_lacksEquation_64 : decode cX2_lacksEquation 64 = .ok (.invokevirtual 163, 3) := by decide +kernel
theorem dX2_lacksEquation_67 : decode cX2_lacksEquation 67 = .ok (.ifCond .eq 19, 3) := by decide +kernel
theorem dX2_lacksEquation_70 : decode cX2_lacksEquation 70 = .ok (.aload_n 0, 1) := by decide +kernel
theorem dX2_lacksEquation_71 : decode cX2_lacksEquation 71 = .ok (.getfield 29, 3) := by decide +kernel
theorem dX2_lacksEquation_74 : decode cX2_lacksEquation 74 = .ok (.getfield 167, 3) := by decide +kernel
theorem dX2_lacksEquation_77 : decode cX2_lacksEquation 77 = .ok (.iload 5, 2) := by decide +kernel
theorem dX2_lacksEquation_79 : decode cX2_lacksEquation 79 = .ok (.iaload, 1) := by decide +kernel
theorem dX2_lacksEquation_80 : decode cX2_lacksEquation 80 = .ok (.iconst (-1), 1) := by decide +kernel
theorem dX2_lacksEquation_81 : decode cX2_lacksEquation 81 = .ok (.if_icmp .ne 5, 3) := by decide +kernel
theorem dX2_lacksEquation_84 : decode cX2_lacksEquation 84 = .ok (.iconst 1, 1) := by decide +kernel
theorem dX2_lacksEquation_85 : decode cX2_lacksEquation 85 = .ok (.ireturn, 1) := by decide +kernel
theorem dX2_lacksEquation_86 : decode cX2_lacksEquation 86 = .ok (.iinc 4 1, 3) := by decide +kernel
theorem dX2_lacksEquation_89 : decode cX2_lacksEquation 89 = .ok (.goto (-61), 3) := by decide +kernel
theorem dX2_lacksEquation_92 : decode cX2_lacksEquation 92 = .ok (.iinc 2 1, 3) := by decide +kernel
theorem dX2_lacksEquation_95 : decode cX2_lacksEquation 95 = .ok (.goto (-93), 3) := by decide +kernel
theorem dX2_lacksEquation_98 : decode cX2_lacksEquation 98 = .ok (.iconst 0, 1) := by decide +kernel
theorem dX2_lacksEquation_99 : decode cX2_lacksEquation 99 = .ok (.ireturn, 1) := by decide +kernel
theorem dX2_read_0 : decode cX2_read 0 = .ok (.aload_n 0, 1) := by decide +kernel
theorem dX2_read_1 : decode cX2_read 1 = .ok (.aload_n 1, 1) := by decide +kernel
theorem dX2_read_2 : decode cX2_read 2 = .ok (.putfield 29, 3) := by decide +kernel
theorem dX2_read_5 : decode cX2_read 5 = .ok (.aload_n 0, 1) := by decide +kernel
theorem dX2_read_6 : decode cX2_read 6 = .ok (.getfield 29, 3) := by decide +kernel
theorem dX2_read_9 : decode cX2_read 9 = .ok (.invokevirtual 42, 3) := by decide +kernel
theorem dX2_read_12 : decode cX2_read 12 = .ok (.aload_n 0, 1) := by decide +kernel
theorem dX2_read_13 : decode cX2_read 13 = .ok (.getfield 25, 3) := by decide +kernel
theorem dX2_read_16 : decode cX2_read 16 = .ok (.iload_n 2, 1) := by decide +kernel
theorem dX2_read_17 : decode cX2_read 17 = .ok (.invokevirtual 47, 3) := by decide +kernel
theorem dX2_read_20 : decode cX2_read 20 = .ok (.aload_n 0, 1) := by decide +kernel
theorem dX2_read_21 : decode cX2_read 21 = .ok (.iconst 0, 1) := by decide +kernel
theorem dX2_read_22 : decode cX2_read 22 = .ok (.putfield 11, 3) := by decide +kernel
theorem dX2_read_25 : decode cX2_read 25 = .ok (.iconst 0, 1) := by decide +kernel
theorem dX2_read_26 : decode cX2_read 26 = .ok (.istore_n 3, 1) := by decide +kernel
theorem dX2_read_27 : decode cX2_read 27 = .ok (.iconst 0, 1) := by decide +kernel
theorem dX2_read_28 : decode cX2_read 28 = .ok (.istore 4, 2) := by decide +kernel
theorem dX2_read_30 : decode cX2_read 30 = .ok (.iload 4, 2) := by decide +kernel
theorem dX2_read_32 : decode cX2_read 32 = .ok (.iload_n 2, 1) := by decide +kernel
theorem dX2_read_33 : decode cX2_read 33 = .ok (.if_icmp .gt 78, 3) := by decide +kernel
theorem dX2_read_36 : decode cX2_read 36 = .ok (.iload_n 3, 1) := by decide +kernel
theorem dX2_read_37 : decode cX2_read 37 = .ok (.ifCond .ne 74, 3) := by decide +kernel
theorem dX2_read_40 : decode cX2_read 40 = .ok (.aload_n 0, 1) := by decide +kernel
theorem dX2_read_41 : decode cX2_read 41 = .ok (.getfield 11, 3) := by decide +kernel
theorem dX2_read_44 : decode cX2_read 44 = .ok (.bipush 15, 2) := by decide +kernel
theorem dX2_read_46 : decode cX2_read 46 = .ok (.if_icmp .eq 65, 3) := by decide +kernel
theorem dX2_read_49 : decode cX2_read 49 = .ok (.aload_n 0, 1) := by decide +kernel
theorem dX2_read_50 : decode cX2_read 50 = .ok (.getfield 25, 3) := by decide +kernel
theorem dX2_read_53 : decode cX2_read 53 = .ok (.invokevirtual 53, 3) := by decide +kernel
theorem dX2_read_56 : decode cX2_read 56 = .ok (.aload_n 0, 1) := by decide +kernel
theorem dX2_read_57 : decode cX2_read 57 = .ok (.getfield 11, 3) := by decide +kernel
theorem dX2_read_60 : decode cX2_read 60 = .ok (.bipush 14, 2) := by decide +kernel
theorem dX2_read_62 : decode cX2_read 62 = .ok (.if_icmp .ne 13, 3) := by decide +kernel
theorem dX2_read_65 : decode cX2_read 65 = .ok (.aload_n 0, 1) := by decide +kernel
theorem dX2_read_66 : decode cX2_read 66 = .ok (.getfield 38, 3) := by decide +kernel
theorem dX2_read_69 : decode cX2_read 69 = .ok (.invokevirtual 56, 3) := by decide +kernel
theorem dX2_read_72 : decode cX2_read 72 = .ok (.goto 7, 3) := by decide +kernel
theorem dX2_read_75 : decode cX2_read 75 = .ok (.aload_n 0, 1) := by decide +kernel
theorem dX2_read_76 : decode cX2_read 76 = .ok (.invokevirtual 60, 3) := by decide +kernel
theorem dX2_read_79 : decode cX2_read 79 = .ok (.istore_n 3, 1) := by decide +kernel
theorem dX2_read_80 : decode cX2_read 80 = .ok (.aload_n 0, 1) := by decide +kernel
theorem dX2_read_81 : decode cX2_read 81 = .ok (.getfield 11, 3) := by decide +kernel
theorem dX2_read_84 : decode cX2_read 84 = .ok (.bipush 14, 2) := by decide +kernel
theorem dX2_read_86 : decode cX2_read 86 = .ok (.if_icmp .ne 19, 3) := by decide +kernel
theorem dX2_read_89 : decode cX2_read 89 = .ok (.aload_n 0, 1) := by decide +kernel
theorem dX2_read_90 : decode cX2_read 90 = .ok (.getfield 38, 3) := by decide +kernel
theorem dX2_read_93 : decode cX2_read 93 = .ok (.getfield 61, 3) := by decide +kernel
theorem dX2_read_96 : decode cX2_read 96 = .ok (.ifCond .eq 9, 3) := by decide +kernel
theorem dX2_read_99 : decode cX2_read 99 = .ok (.aload_n 0, 1) := by decide +kernel
theorem dX2_read_100 : decode cX2_read 100 = .ok (.bipush 9, 2) := by decide +kernel
theorem dX2_read_102 : decode cX2_read 102 = .ok (.putfield 11, 3) := by decide +kernel
theorem dX2_read_105 : decode cX2_read 105 = .ok (.iinc 4 1, 3) := by decide +kernel
theorem dX2_read_108 : decode cX2_read 108 = .ok (.goto (-78), 3) := by decide +kernel
theorem dX2_read_111 : decode cX2_read 111 = .ok (.iload_n 3, 1) := by decide +kernel
theorem dX2_read_112 : decode cX2_read 112 = .ok (.ireturn, 1) := by decide +kernel
theorem dX2_ruleBody_0 : decode cX2_ruleBody 0 = .ok (.aload_n 0, 1) := by decide +kernel
theorem dX2_ruleBody_1 : decode cX2_ruleBody 1 = .ok (.getfield 25, 3) := by decide +kernel
theorem dX2_ruleBody_4 : decode cX2_ruleBody 4 = .ok (.getfield 73, 3) := by decide +kernel
theorem dX2_ruleBody_7 : decode cX2_ruleBody 7 = .ok (.bipush 7, 2) := by decide +kernel
theorem dX2_ruleBody_9 : decode cX2_ruleBody 9 = .ok (.if_icmp .ne 23, 3) := by decide +kernel
theorem dX2_ruleBody_12 : decode cX2_ruleBody 12 = .ok (.aload_n 0, 1) := by decide +kernel
theorem dX2_ruleBody_13 : decode cX2_ruleBody 13 = .ok (.iload_n 1, 1) := by decide +kernel
theorem dX2_ruleBody_14 : decode cX2_ruleBody 14 = .ok (.invokevirtual 150, 3) := by decide +kernel
theorem dX2_ruleBody_17 : decode cX2_ruleBody 17 = .ok (.ifCond .eq 8, 3) := by decide +kernel
theorem dX2_ruleBody_20 : decode cX2_ruleBody 20 = .ok (.bipush 8, 2) := by decide +kernel
theorem dX2_ruleBody_22 : decode cX2_ruleBody 22 = .ok (.goto 9, 3) := by decide +kernel
theorem dX2_ruleBody_25 : decode cX2_ruleBody 25 = .ok (.aload_n 0, 1) := by decide +kernel
theorem dX2_ruleBody_26 : decode cX2_ruleBody 26 = .ok (.bipush 10, 2) := by decide +kernel
theorem dX2_ruleBody_28 : decode cX2_ruleBody 28 = .ok (.invokevirtual 76, 3) := by decide +kernel
theorem dX2_ruleBody_31 : decode cX2_ruleBody 31 = .ok (.ireturn, 1) := by decide +kernel
theorem dX2_ruleBody_32 : decode cX2_ruleBody 32 = .ok (.aload_n 0, 1) := by decide +kernel
theorem dX2_ruleBody_33 : decode cX2_ruleBody 33 = .ok (.getfield 25, 3) := by decide +kernel
theorem dX2_ruleBody_36 : decode cX2_ruleBody 36 = .ok (.getfield 73, 3) := by decide +kernel
theorem dX2_ruleBody_39 : decode cX2_ruleBody 39 = .ok (.iconst 2, 1) := by decide +kernel
theorem dX2_ruleBody_40 : decode cX2_ruleBody 40 = .ok (.if_icmp .eq 5, 3) := by decide +kernel
theorem dX2_ruleBody_43 : decode cX2_ruleBody 43 = .ok (.iconst 1, 1) := by decide +kernel
theorem dX2_ruleBody_44 : decode cX2_ruleBody 44 = .ok (.ireturn, 1) := by decide +kernel
theorem dX2_ruleBody_45 : decode cX2_ruleBody 45 = .ok (.aload_n 0, 1) := by decide +kernel
theorem dX2_ruleBody_46 : decode cX2_ruleBody 46 = .ok (.getfield 25, 3) := by decide +kernel
theorem dX2_ruleBody_49 : decode cX2_ruleBody 49 = .ok (.getfield 154, 3) := by decide +kernel
theorem dX2_ruleBody_52 : decode cX2_ruleBody 52 = .ok (.aload_n 0, 1) := by decide +kernel
theorem dX2_ruleBody_53 : decode cX2_ruleBody 53 = .ok (.getfield 29, 3) := by decide +kernel
theorem dX2_ruleBody_56 : decode cX2_ruleBody 56 = .ok (.getfield 147, 3) := by decide +kernel
theorem dX2_ruleBody_59 : decode cX2_ruleBody 59 = .ok (.iload_n 1, 1) := by decide +kernel
theorem dX2_ruleBody_60 : decode cX2_ruleBody 60 = .ok (.iaload, 1) := by decide +kernel
theorem dX2_ruleBody_61 : decode cX2_ruleBody 61 = .ok (.i2l, 1) := by decide +kernel
theorem dX2_ruleBody_62 : decode cX2_ruleBody 62 = .ok (.lcmp, 1) := by decide +kernel
theorem dX2_ruleBody_63 : decode cX2_ruleBody 63 = .ok (.ifCond .le 5, 3) := by decide +kernel
theorem dX2_ruleBody_66 : decode cX2_ruleBody 66 = .ok (.iconst 3, 1) := by decide +kernel
theorem dX2_ruleBody_67 : decode cX2_ruleBody 67 = .ok (.ireturn, 1) := by decide +kernel
theorem dX2_ruleBody_68 : decode cX2_ruleBody 68 = .ok (.aload_n 0, 1) := by decide +kernel
theorem dX2_ruleBody_69 : decode cX2_ruleBody 69 = .ok (.aload_n 0, 1) := by decide +kernel
theorem dX2_ruleBody_70 : decode cX2_ruleBody 70 = .ok (.getfield 25, 3) := by decide +kernel
theorem dX2_ruleBody_73 : decode cX2_ruleBody 73 = .ok (.getfield 154, 3) := by decide +kernel
theorem dX2_ruleBody_76 : decode cX2_ruleBody 76 = .ok (.l2i, 1) := by decide +kernel
theorem dX2_ruleBody_77 : decode cX2_ruleBody 77 = .ok (.putfield 19, 3) := by decide +kernel
theorem dX2_ruleBody_80 : decode cX2_ruleBody 80 = .ok (.aload_n 0, 1) := by decide +kernel
theorem dX2_ruleBody_81 : decode cX2_ruleBody 81 = .ok (.bipush 11, 2) := by decide +kernel
theorem dX2_ruleBody_83 : decode cX2_ruleBody 83 = .ok (.invokevirtual 76, 3) := by decide +kernel
theorem dX2_ruleBody_86 : decode cX2_ruleBody 86 = .ok (.ireturn, 1) := by decide +kernel
theorem dX2_ruleChild_0 : decode cX2_ruleChild 0 = .ok (.aload_n 0, 1) := by decide +kernel
theorem dX2_ruleChild_1 : decode cX2_ruleChild 1 = .ok (.getfield 25, 3) := by decide +kernel
theorem dX2_ruleChild_4 : decode cX2_ruleChild 4 = .ok (.getfield 73, 3) := by decide +kernel
theorem dX2_ruleChild_7 : decode cX2_ruleChild 7 = .ok (.bipush 58, 2) := by decide +kernel
theorem dX2_ruleChild_9 : decode cX2_ruleChild 9 = .ok (.if_icmp .ne 10, 3) := by decide +kernel
theorem dX2_ruleChild_12 : decode cX2_ruleChild 12 = .ok (.aload_n 0, 1) := by decide +kernel
theorem dX2_ruleChild_13 : decode cX2_ruleChild 13 = .ok (.bipush 9, 2) := by decide +kernel
theorem dX2_ruleChild_15 : decode cX2_ruleChild 15 = .ok (.invokevirtual 76, 3) := by decide +kernel
theorem dX2_ruleChild_18 : decode cX2_ruleChild 18 = .ok (.ireturn, 1) := by decide +kernel
theorem dX2_ruleChild_19 : decode cX2_ruleChild 19 = .ok (.aload_n 0, 1) := by decide +kernel
theorem dX2_ruleChild_20 : decode cX2_ruleChild 20 = .ok (.getfield 25, 3) := by decide +kernel
theorem dX2_ruleChild_23 : decode cX2_ruleChild 23 = .ok (.getfield 73, 3) := by decide +kernel
theorem dX2_ruleChild_26 : decode cX2_ruleChild 26 = .ok (.iconst 1, 1) := by decide +kernel
theorem dX2_ruleChild_27 : decode cX2_ruleChild 27 = .ok (.if_icmp .eq 5, 3) := by decide +kernel
theorem dX2_ruleChild_30 : decode cX2_ruleChild 30 = .ok (.iconst 1, 1) := by decide +kernel
theorem dX2_ruleChild_31 : decode cX2_ruleChild 31 = .ok (.ireturn, 1) := by decide +kernel
theorem dX2_ruleChild_32 : decode cX2_ruleChild 32 = .ok (.aload_n 0, 1) := by decide +kernel
theorem dX2_ruleChild_33 : decode cX2_ruleChild 33 = .ok (.getfield 29, 3) := by decide +kernel
theorem dX2_ruleChild_36 : decode cX2_ruleChild 36 = .ok (.aload_n 0, 1) := by decide +kernel
theorem dX2_ruleChild_37 : decode cX2_ruleChild 37 = .ok (.getfield 25, 3) := by decide +kernel
theorem dX2_ruleChild_40 : decode cX2_ruleChild 40 = .ok (.getfield 93, 3) := by decide +kernel
theorem dX2_ruleChild_43 : decode cX2_ruleChild 43 = .ok (.invokevirtual 97, 3) := by decide +kernel
theorem dX2_ruleChild_46 : decode cX2_ruleChild 46 = .ok (.istore_n 2, 1) := by decide +kernel
theorem dX2_ruleChild_47 : decode cX2_ruleChild 47 = .ok (.iload_n 2, 1) := by decide +kernel
theorem dX2_ruleChild_48 : decode cX2_ruleChild 48 = .ok (.iconst (-1), 1) := by decide +kernel
theorem dX2_ruleChild_49 : decode cX2_ruleChild 49 = .ok (.if_icmp .ne 5, 3) := by decide +kernel
theorem dX2_ruleChild_52 : decode cX2_ruleChild 52 = .ok (.iconst 3, 1) := by decide +kernel
theorem dX2_ruleChild_53 : decode cX2_ruleChild 53 = .ok (.ireturn, 1) := by decide +kernel
theorem dX2_ruleChild_54 : decode cX2_ruleChild 54 = .ok (.aload_n 0, 1) := by decide +kernel
theorem dX2_ruleChild_55 : decode cX2_ruleChild 55 = .ok (.getfield 29, 3) := by decide +kernel
theorem dX2_ruleChild_58 : decode cX2_ruleChild 58 = .ok (.getfield 147, 3) := by decide +kernel
theorem dX2_ruleChild_61 : decode cX2_ruleChild 61 = .ok (.iload_n 1, 1) := by decide +kernel
theorem dX2_ruleChild_62 : decode cX2_ruleChild 62 = .ok (.iaload, 1) := by decide +kernel
theorem dX2_ruleChild_63 : decode cX2_ruleChild 63 = .ok (.iconst 3, 1) := by decide +kernel
theorem dX2_ruleChild_64 : decode cX2_ruleChild 64 = .ok (.if_icmp .lt 5, 3) := by decide +kernel
theorem dX2_ruleChild_67 : decode cX2_ruleChild 67 = .ok (.iconst 4, 1) := by decide +kernel
theorem dX2_ruleChild_68 : decode cX2_ruleChild 68 = .ok (.ireturn, 1) := by decide +kernel
theorem dX2_ruleChild_69 : decode cX2_ruleChild 69 = .ok (.aload_n 0, 1) := by decide +kernel
theorem dX2_ruleChild_70 : decode cX2_ruleChild 70 = .ok (.getfield 29, 3) := by decide +kernel
theorem dX2_ruleChild_73 : decode cX2_ruleChild 73 = .ok (.getfield 147, 3) := by decide +kernel
theorem dX2_ruleChild_76 : decode cX2_ruleChild 76 = .ok (.iload_n 1, 1) := by decide +kernel
theorem dX2_ruleChild_77 : decode cX2_ruleChild 77 = .ok (.dup2, 1) := by decide +kernel
theorem dX2_ruleChild_78 : decode cX2_ruleChild 78 = .ok (.iaload, 1) := by decide +kernel
theorem dX2_ruleChild_79 : decode cX2_ruleChild 79 = .ok (.iconst 1, 1) := by decide +kernel
theorem dX2_ruleChild_80 : decode cX2_ruleChild 80 = .ok (.iadd, 1) := by decide +kernel
theorem dX2_ruleChild_81 : decode cX2_ruleChild 81 = .ok (.iastore, 1) := by decide +kernel
theorem dX2_ruleChild_82 : decode cX2_ruleChild 82 = .ok (.aload_n 0, 1) := by decide +kernel
theorem dX2_ruleChild_83 : decode cX2_ruleChild 83 = .ok (.getfield 29, 3) := by decide +kernel
theorem dX2_ruleChild_86 : decode cX2_ruleChild 86 = .ok (.getfield 144, 3) := by decide +kernel
theorem dX2_ruleChild_89 : decode cX2_ruleChild 89 = .ok (.iload_n 1, 1) := by decide +kernel
theorem dX2_ruleChild_90 : decode cX2_ruleChild 90 = .ok (.iconst 4, 1) := by decide +kernel
theorem dX2_ruleChild_91 : decode cX2_ruleChild 91 = .ok (.imul, 1) := by decide +kernel
theorem dX2_ruleChild_92 : decode cX2_ruleChild 92 = .ok (.aload_n 0, 1) := by decide +kernel
theorem dX2_ruleChild_93 : decode cX2_ruleChild 93 = .ok (.getfield 29, 3) := by decide +kernel
theorem dX2_ruleChild_96 : decode cX2_ruleChild 96 = .ok (.getfield 147, 3) := by decide +kernel
theorem dX2_ruleChild_99 : decode cX2_ruleChild 99 = .ok (.iload_n 1, 1) := by decide +kernel
theorem dX2_ruleChild_100 : decode cX2_ruleChild 100 = .ok (.iaload, 1) := by decide +kernel
theorem dX2_ruleChild_101 : decode cX2_ruleChild 101 = .ok (.iadd, 1) := by decide +kernel
theorem dX2_ruleChild_102 : decode cX2_ruleChild 102 = .ok (.iload_n 2, 1) := by decide +kernel
theorem dX2_ruleChild_103 : decode cX2_ruleChild 103 = .ok (.iastore, 1) := by decide +kernel
theorem dX2_ruleChild_104 : decode cX2_ruleChild 104 = .ok (.iconst 0, 1) := by decide +kernel
theorem dX2_ruleChild_105 : decode cX2_ruleChild 105 = .ok (.ireturn, 1) := by decide +kernel
theorem dX2_ruleHead_0 : decode cX2_ruleHead 0 = .ok (.aload_n 0, 1) := by decide +kernel
theorem dX2_ruleHead_1 : decode cX2_ruleHead 1 = .ok (.getfield 25, 3) := by decide +kernel
theorem dX2_ruleHead_4 : decode cX2_ruleHead 4 = .ok (.getfield 73, 3) := by decide +kernel
theorem dX2_ruleHead_7 : decode cX2_ruleHead 7 = .ok (.iconst 1, 1) := by decide +kernel
theorem dX2_ruleHead_8 : decode cX2_ruleHead 8 = .ok (.if_icmp .eq 5, 3) := by decide +kernel
theorem dX2_ruleHead_11 : decode cX2_ruleHead 11 = .ok (.iconst 1, 1) := by decide +kernel
theorem dX2_ruleHead_12 : decode cX2_ruleHead 12 = .ok (.ireturn, 1) := by decide +kernel
theorem dX2_ruleHead_13 : decode cX2_ruleHead 13 = .ok (.aload_n 0, 1) := by decide +kernel
theorem dX2_ruleHead_14 : decode cX2_ruleHead 14 = .ok (.getfield 29, 3) := by decide +kernel
theorem dX2_ruleHead_17 : decode cX2_ruleHead 17 = .ok (.aload_n 0, 1) := by decide +kernel
theorem dX2_ruleHead_18 : decode cX2_ruleHead 18 = .ok (.getfield 25, 3) := by decide +kernel
theorem dX2_ruleHead_21 : decode cX2_ruleHead 21 = .ok (.getfield 93, 3) := by decide +kernel
theorem dX2_ruleHead_24 : decode cX2_ruleHead 24 = .ok (.invokevirtual 97, 3) := by decide +kernel
theorem dX2_ruleHead_27 : decode cX2_ruleHead 27 = .ok (.istore_n 2, 1) := by decide +kernel
theorem dX2_ruleHead_28 : decode cX2_ruleHead 28 = .ok (.iload_n 2, 1) := by decide +kernel
theorem dX2_ruleHead_29 : decode cX2_ruleHead 29 = .ok (.iconst (-1), 1) := by decide +kernel
theorem dX2_ruleHead_30 : decode cX2_ruleHead 30 = .ok (.if_icmp .ne 5, 3) := by decide +kernel
theorem dX2_ruleHead_33 : decode cX2_ruleHead 33 = .ok (.iconst 3, 1) := by decide +kernel
theorem dX2_ruleHead_34 : decode cX2_ruleHead 34 = .ok (.ireturn, 1) := by decide +kernel
theorem dX2_ruleHead_35 : decode cX2_ruleHead 35 = .ok (.aload_n 0, 1) := by decide +kernel
theorem dX2_ruleHead_36 : decode cX2_ruleHead 36 = .ok (.getfield 29, 3) := by decide +kernel
theorem dX2_ruleHead_39 : decode cX2_ruleHead 39 = .ok (.getfield 144, 3) := by decide +kernel
theorem dX2_ruleHead_42 : decode cX2_ruleHead 42 = .ok (.iload_n 1, 1) := by decide +kernel
theorem dX2_ruleHead_43 : decode cX2_ruleHead 43 = .ok (.iconst 4, 1) := by decide +kernel
theorem dX2_ruleHead_44 : decode cX2_ruleHead 44 = .ok (.imul, 1) := by decide +kernel
theorem dX2_ruleHead_45 : decode cX2_ruleHead 45 = .ok (.iload_n 2, 1) := by decide +kernel
theorem dX2_ruleHead_46 : decode cX2_ruleHead 46 = .ok (.iastore, 1) := by decide +kernel
theorem dX2_ruleHead_47 : decode cX2_ruleHead 47 = .ok (.aload_n 0, 1) := by decide +kernel
theorem dX2_ruleHead_48 : decode cX2_ruleHead 48 = .ok (.bipush 8, 2) := by decide +kernel
theorem dX2_ruleHead_50 : decode cX2_ruleHead 50 = .ok (.invokevirtual 76, 3) := by decide +kernel
theorem dX2_ruleHead_53 : decode cX2_ruleHead 53 = .ok (.ireturn, 1) := by decide +kernel
theorem dX2_ruleName_0 : decode cX2_ruleName 0 = .ok (.aload_n 0, 1) := by decide +kernel
theorem dX2_ruleName_1 : decode cX2_ruleName 1 = .ok (.getfield 25, 3) := by decide +kernel
theorem dX2_ruleName_4 : decode cX2_ruleName 4 = .ok (.getfield 73, 3) := by decide +kernel
theorem dX2_ruleName_7 : decode cX2_ruleName 7 = .ok (.iconst 1, 1) := by decide +kernel
theorem dX2_ruleName_8 : decode cX2_ruleName 8 = .ok (.if_icmp .eq 5, 3) := by decide +kernel
theorem dX2_ruleName_11 : decode cX2_ruleName 11 = .ok (.iconst 1, 1) := by decide +kernel
theorem dX2_ruleName_12 : decode cX2_ruleName 12 = .ok (.ireturn, 1) := by decide +kernel
theorem dX2_ruleName_13 : decode cX2_ruleName 13 = .ok (.aload_n 0, 1) := by decide +kernel
theorem dX2_ruleName_14 : decode cX2_ruleName 14 = .ok (.getfield 29, 3) := by decide +kernel
theorem dX2_ruleName_17 : decode cX2_ruleName 17 = .ok (.aload_n 0, 1) := by decide +kernel
theorem dX2_ruleName_18 : decode cX2_ruleName 18 = .ok (.getfield 25, 3) := by decide +kernel
theorem dX2_ruleName_21 : decode cX2_ruleName 21 = .ok (.getfield 93, 3) := by decide +kernel
theorem dX2_ruleName_24 : decode cX2_ruleName 24 = .ok (.invokevirtual 138, 3) := by decide +kernel
theorem dX2_ruleName_27 : decode cX2_ruleName 27 = .ok (.iconst (-1), 1) := by decide +kernel
theorem dX2_ruleName_28 : decode cX2_ruleName 28 = .ok (.if_icmp .eq 5, 3) := by decide +kernel
theorem dX2_ruleName_31 : decode cX2_ruleName 31 = .ok (.iconst 2, 1) := by decide +kernel
theorem dX2_ruleName_32 : decode cX2_ruleName 32 = .ok (.ireturn, 1) := by decide +kernel
theorem dX2_ruleName_33 : decode cX2_ruleName 33 = .ok (.aload_n 0, 1) := by decide +kernel
theorem dX2_ruleName_34 : decode cX2_ruleName 34 = .ok (.getfield 29, 3) := by decide +kernel
theorem dX2_ruleName_37 : decode cX2_ruleName 37 = .ok (.getfield 123, 3) := by decide +kernel
theorem dX2_ruleName_40 : decode cX2_ruleName 40 = .ok (.bipush 30, 2) := by decide +kernel
theorem dX2_ruleName_42 : decode cX2_ruleName 42 = .ok (.if_icmp .lt 5, 3) := by decide +kernel
theorem dX2_ruleName_45 : decode cX2_ruleName 45 = .ok (.iconst 4, 1) := by decide +kernel
theorem dX2_ruleName_46 : decode cX2_ruleName 46 = .ok (.ireturn, 1) := by decide +kernel
theorem dX2_ruleName_47 : decode cX2_ruleName 47 = .ok (.aload_n 0, 1) := by decide +kernel
theorem dX2_ruleName_48 : decode cX2_ruleName 48 = .ok (.getfield 29, 3) := by decide +kernel
theorem dX2_ruleName_51 : decode cX2_ruleName 51 = .ok (.aload_n 0, 1) := by decide +kernel
theorem dX2_ruleName_52 : decode cX2_ruleName 52 = .ok (.getfield 25, 3) := by decide +kernel
theorem dX2_ruleName_55 : decode cX2_ruleName 55 = .ok (.getfield 93, 3) := by decide +kernel
theorem dX2_ruleName_58 : decode cX2_ruleName 58 = .ok (.invokevirtual 141, 3) := by decide +kernel
theorem dX2_ruleName_61 : decode cX2_ruleName 61 = .ok (.aload_n 0, 1) := by decide +kernel
theorem dX2_ruleName_62 : decode cX2_ruleName 62 = .ok (.bipush 6, 2) := by decide +kernel
theorem dX2_ruleName_64 : decode cX2_ruleName 64 = .ok (.invokevirtual 76, 3) := by decide +kernel
theorem dX2_ruleName_67 : decode cX2_ruleName 67 = .ok (.ireturn, 1) := by decide +kernel
theorem dX2_ruleStep_0 : decode cX2_ruleStep 0 = .ok (.aload_n 0, 1) := by decide +kernel
theorem dX2_ruleStep_1 : decode cX2_ruleStep 1 = .ok (.getfield 11, 3) := by decide +kernel
theorem dX2_ruleStep_4 : decode cX2_ruleStep 4 = .ok (.iconst 5, 1) := by decide +kernel
theorem dX2_ruleStep_5 : decode cX2_ruleStep 5 = .ok (.if_icmp .ne 8, 3) := by decide +kernel
theorem dX2_ruleStep_8 : decode cX2_ruleStep 8 = .ok (.aload_n 0, 1) := by decide +kernel
theorem dX2_ruleStep_9 : decode cX2_ruleStep 9 = .ok (.invokevirtual 120, 3) := by decide +kernel
theorem dX2_ruleStep_12 : decode cX2_ruleStep 12 = .ok (.ireturn, 1) := by decide +kernel
theorem dX2_ruleStep_13 : decode cX2_ruleStep 13 = .ok (.aload_n 0, 1) := by decide +kernel
theorem dX2_ruleStep_14 : decode cX2_ruleStep 14 = .ok (.getfield 29, 3) := by decide +kernel
theorem dX2_ruleStep_17 : decode cX2_ruleStep 17 = .ok (.getfield 123, 3) := by decide +kernel
theorem dX2_ruleStep_20 : decode cX2_ruleStep 20 = .ok (.iconst 1, 1) := by decide +kernel
theorem dX2_ruleStep_21 : decode cX2_ruleStep 21 = .ok (.isub, 1) := by decide +kernel
theorem dX2_ruleStep_22 : decode cX2_ruleStep 22 = .ok (.istore_n 1, 1) := by decide +kernel
theorem dX2_ruleStep_23 : decode cX2_ruleStep 23 = .ok (.iload_n 1, 1) := by decide +kernel
theorem dX2_ruleStep_24 : decode cX2_ruleStep 24 = .ok (.ifCond .ge 5, 3) := by decide +kernel
theorem dX2_ruleStep_27 : decode cX2_ruleStep 27 = .ok (.iconst 1, 1) := by decide +kernel
theorem dX2_ruleStep_28 : decode cX2_ruleStep 28 = .ok (.ireturn, 1) := by decide +kernel
theorem dX2_ruleStep_29 : decode cX2_ruleStep 29 = .ok (.aload_n 0, 1) := by decide +kernel
theorem dX2_ruleStep_30 : decode cX2_ruleStep 30 = .ok (.getfield 11, 3) := by decide +kernel
theorem dX2_ruleStep_33 : decode cX2_ruleStep 33 = .ok (.tableswitch 58 6 9 #[31, 40, 46, 52], 31) := by decide +kernel
theorem dX2_ruleStep_64 : decode cX2_ruleStep 64 = .ok (.aload_n 0, 1) := by decide +kernel
theorem dX2_ruleStep_65 : decode cX2_ruleStep 65 = .ok (.bipush 61, 2) := by decide +kernel
theorem dX2_ruleStep_67 : decode cX2_ruleStep 67 = .ok (.bipush 7, 2) := by decide +kernel
theorem dX2_ruleStep_69 : decode cX2_ruleStep 69 = .ok (.invokevirtual 89, 3) := by decide +kernel
theorem dX2_ruleStep_72 : decode cX2_ruleStep 72 = .ok (.ireturn, 1) := by decide +kernel
theorem dX2_ruleStep_73 : decode cX2_ruleStep 73 = .ok (.aload_n 0, 1) := by decide +kernel
theorem dX2_ruleStep_74 : decode cX2_ruleStep 74 = .ok (.iload_n 1, 1) := by decide +kernel
theorem dX2_ruleStep_75 : decode cX2_ruleStep 75 = .ok (.invokevirtual 126, 3) := by decide +kernel
theorem dX2_ruleStep_78 : decode cX2_ruleStep 78 = .ok (.ireturn, 1) := by decide +kernel
theorem dX2_ruleStep_79 : decode cX2_ruleStep 79 = .ok (.aload_n 0, 1) := by decide +kernel
theorem dX2_ruleStep_80 : decode cX2_ruleStep 80 = .ok (.iload_n 1, 1) := by decide +kernel
theorem dX2_ruleStep_81 : decode cX2_ruleStep 81 = .ok (.invokevirtual 129, 3) := by decide +kernel
theorem dX2_ruleStep_84 : decode cX2_ruleStep 84 = .ok (.ireturn, 1) := by decide +kernel
theorem dX2_ruleStep_85 : decode cX2_ruleStep 85 = .ok (.aload_n 0, 1) := by decide +kernel
theorem dX2_ruleStep_86 : decode cX2_ruleStep 86 = .ok (.iload_n 1, 1) := by decide +kernel
theorem dX2_ruleStep_87 : decode cX2_ruleStep 87 = .ok (.invokevirtual 132, 3) := by decide +kernel
theorem dX2_ruleStep_90 : decode cX2_ruleStep 90 = .ok (.ireturn, 1) := by decide +kernel
theorem dX2_ruleStep_91 : decode cX2_ruleStep 91 = .ok (.aload_n 0, 1) := by decide +kernel
theorem dX2_ruleStep_92 : decode cX2_ruleStep 92 = .ok (.invokevirtual 135, 3) := by decide +kernel
theorem dX2_ruleStep_95 : decode cX2_ruleStep 95 = .ok (.ireturn, 1) := by decide +kernel
theorem dX2_step_0 : decode cX2_step 0 = .ok (.aload_n 0, 1) := by decide +kernel
theorem dX2_step_1 : decode cX2_step 1 = .ok (.getfield 11, 3) := by decide +kernel
theorem dX2_step_4 : decode cX2_step 4 = .ok (.iconst 4, 1) := by decide +kernel
theorem dX2_step_5 : decode cX2_step 5 = .ok (.if_icmp .gt 8, 3) := by decide +kernel
theorem dX2_step_8 : decode cX2_step 8 = .ok (.aload_n 0, 1) := by decide +kernel
theorem dX2_step_9 : decode cX2_step 9 = .ok (.invokevirtual 64, 3) := by decide +kernel
theorem dX2_step_12 : decode cX2_step 12 = .ok (.ireturn, 1) := by decide +kernel
theorem dX2_step_13 : decode cX2_step 13 = .ok (.aload_n 0, 1) := by decide +kernel
theorem dX2_step_14 : decode cX2_step 14 = .ok (.getfield 11, 3) := by decide +kernel
theorem dX2_step_17 : decode cX2_step 17 = .ok (.bipush 10, 2) := by decide +kernel
theorem dX2_step_19 : decode cX2_step 19 = .ok (.if_icmp .gt 10, 3) := by decide +kernel
theorem dX2_step_22 : decode cX2_step 22 = .ok (.aload_n 0, 1) := by decide +kernel
theorem dX2_step_23 : decode cX2_step 23 = .ok (.invokevirtual 67, 3) := by decide +kernel
theorem dX2_step_26 : decode cX2_step 26 = .ok (.goto 7, 3) := by decide +kernel
theorem dX2_step_29 : decode cX2_step 29 = .ok (.aload_n 0, 1) := by decide +kernel
theorem dX2_step_30 : decode cX2_step 30 = .ok (.invokevirtual 70, 3) := by decide +kernel
theorem dX2_step_33 : decode cX2_step 33 = .ok (.ireturn, 1) := by decide +kernel
theorem dX2_symbolBody_0 : decode cX2_symbolBody 0 = .ok (.aload_n 0, 1) := by decide +kernel
theorem dX2_symbolBody_1 : decode cX2_symbolBody 1 = .ok (.getfield 25, 3) := by decide +kernel
theorem dX2_symbolBody_4 : decode cX2_symbolBody 4 = .ok (.getfield 73, 3) := by decide +kernel
theorem dX2_symbolBody_7 : decode cX2_symbolBody 7 = .ok (.bipush 59, 2) := by decide +kernel
theorem dX2_symbolBody_9 : decode cX2_symbolBody 9 = .ok (.if_icmp .ne 9, 3) := by decide +kernel
theorem dX2_symbolBody_12 : decode cX2_symbolBody 12 = .ok (.aload_n 0, 1) := by decide +kernel
theorem dX2_symbolBody_13 : decode cX2_symbolBody 13 = .ok (.iconst 4, 1) := by decide +kernel
theorem dX2_symbolBody_14 : decode cX2_symbolBody 14 = .ok (.invokevirtual 76, 3) := by decide +kernel
theorem dX2_symbolBody_17 : decode cX2_symbolBody 17 = .ok (.ireturn, 1) := by decide +kernel
theorem dX2_symbolBody_18 : decode cX2_symbolBody 18 = .ok (.aload_n 0, 1) := by decide +kernel
theorem dX2_symbolBody_19 : decode cX2_symbolBody 19 = .ok (.getfield 25, 3) := by decide +kernel
theorem dX2_symbolBody_22 : decode cX2_symbolBody 22 = .ok (.getfield 73, 3) := by decide +kernel
theorem dX2_symbolBody_25 : decode cX2_symbolBody 25 = .ok (.iconst 4, 1) := by decide +kernel
theorem dX2_symbolBody_26 : decode cX2_symbolBody 26 = .ok (.if_icmp .eq 16, 3) := by decide +kernel
theorem dX2_symbolBody_29 : decode cX2_symbolBody 29 = .ok (.aload_n 0, 1) := by decide +kernel
theorem dX2_symbolBody_30 : decode cX2_symbolBody 30 = .ok (.getfield 25, 3) := by decide +kernel
theorem dX2_symbolBody_33 : decode cX2_symbolBody 33 = .ok (.getfield 73, 3) := by decide +kernel
theorem dX2_symbolBody_36 : decode cX2_symbolBody 36 = .ok (.iconst 5, 1) := by decide +kernel
theorem dX2_symbolBody_37 : decode cX2_symbolBody 37 = .ok (.if_icmp .eq 5, 3) := by decide +kernel
theorem dX2_symbolBody_40 : decode cX2_symbolBody 40 = .ok (.iconst 1, 1) := by decide +kernel
theorem dX2_symbolBody_41 : decode cX2_symbolBody 41 = .ok (.ireturn, 1) := by decide +kernel
theorem dX2_symbolBody_42 : decode cX2_symbolBody 42 = .ok (.aload_n 0, 1) := by decide +kernel
theorem dX2_symbolBody_43 : decode cX2_symbolBody 43 = .ok (.aload_n 0, 1) := by decide +kernel
theorem dX2_symbolBody_44 : decode cX2_symbolBody 44 = .ok (.getfield 25, 3) := by decide +kernel
theorem dX2_symbolBody_47 : decode cX2_symbolBody 47 = .ok (.getfield 73, 3) := by decide +kernel
theorem dX2_symbolBody_50 : decode cX2_symbolBody 50 = .ok (.iconst 4, 1) := by decide +kernel
theorem dX2_symbolBody_51 : decode cX2_symbolBody 51 = .ok (.if_icmp .ne 7, 3) := by decide +kernel
theorem dX2_symbolBody_54 : decode cX2_symbolBody 54 = .ok (.iconst 1, 1) := by decide +kernel
theorem dX2_symbolBody_55 : decode cX2_symbolBody 55 = .ok (.goto 4, 3) := by decide +kernel
theorem dX2_symbolBody_58 : decode cX2_symbolBody 58 = .ok (.iconst 0, 1) := by decide +kernel
theorem dX2_symbolBody_59 : decode cX2_symbolBody 59 = .ok (.putfield 15, 3) := by decide +kernel
theorem dX2_symbolBody_62 : decode cX2_symbolBody 62 = .ok (.aload_n 0, 1) := by decide +kernel
theorem dX2_symbolBody_63 : decode cX2_symbolBody 63 = .ok (.iconst 3, 1) := by decide +kernel
theorem dX2_symbolBody_64 : decode cX2_symbolBody 64 = .ok (.invokevirtual 76, 3) := by decide +kernel
theorem dX2_symbolBody_67 : decode cX2_symbolBody 67 = .ok (.ireturn, 1) := by decide +kernel
theorem dX2_symbolName_0 : decode cX2_symbolName 0 = .ok (.aload_n 0, 1) := by decide +kernel
theorem dX2_symbolName_1 : decode cX2_symbolName 1 = .ok (.getfield 25, 3) := by decide +kernel
theorem dX2_symbolName_4 : decode cX2_symbolName 4 = .ok (.getfield 73, 3) := by decide +kernel
theorem dX2_symbolName_7 : decode cX2_symbolName 7 = .ok (.iconst 1, 1) := by decide +kernel
theorem dX2_symbolName_8 : decode cX2_symbolName 8 = .ok (.if_icmp .eq 5, 3) := by decide +kernel
theorem dX2_symbolName_11 : decode cX2_symbolName 11 = .ok (.iconst 1, 1) := by decide +kernel
theorem dX2_symbolName_12 : decode cX2_symbolName 12 = .ok (.ireturn, 1) := by decide +kernel
theorem dX2_symbolName_13 : decode cX2_symbolName 13 = .ok (.aload_n 0, 1) := by decide +kernel
theorem dX2_symbolName_14 : decode cX2_symbolName 14 = .ok (.getfield 29, 3) := by decide +kernel
theorem dX2_symbolName_17 : decode cX2_symbolName 17 = .ok (.aload_n 0, 1) := by decide +kernel
theorem dX2_symbolName_18 : decode cX2_symbolName 18 = .ok (.getfield 25, 3) := by decide +kernel
theorem dX2_symbolName_21 : decode cX2_symbolName 21 = .ok (.getfield 93, 3) := by decide +kernel
theorem dX2_symbolName_24 : decode cX2_symbolName 24 = .ok (.invokevirtual 97, 3) := by decide +kernel
theorem dX2_symbolName_27 : decode cX2_symbolName 27 = .ok (.iconst (-1), 1) := by decide +kernel
theorem dX2_symbolName_28 : decode cX2_symbolName 28 = .ok (.if_icmp .eq 5, 3) := by decide +kernel
theorem dX2_symbolName_31 : decode cX2_symbolName 31 = .ok (.iconst 2, 1) := by decide +kernel
theorem dX2_symbolName_32 : decode cX2_symbolName 32 = .ok (.ireturn, 1) := by decide +kernel
theorem dX2_symbolName_33 : decode cX2_symbolName 33 = .ok (.aload_n 0, 1) := by decide +kernel
theorem dX2_symbolName_34 : decode cX2_symbolName 34 = .ok (.getfield 29, 3) := by decide +kernel
theorem dX2_symbolName_37 : decode cX2_symbolName 37 = .ok (.getfield 101, 3) := by decide +kernel
theorem dX2_symbolName_40 : decode cX2_symbolName 40 = .ok (.bipush 12, 2) := by decide +kernel
theorem dX2_symbolName_42 : decode cX2_symbolName 42 = .ok (.if_icmp .lt 5, 3) := by decide +kernel
theorem dX2_symbolName_45 : decode cX2_symbolName 45 = .ok (.iconst 4, 1) := by decide +kernel
theorem dX2_symbolName_46 : decode cX2_symbolName 46 = .ok (.ireturn, 1) := by decide +kernel
theorem dX2_symbolName_47 : decode cX2_symbolName 47 = .ok (.aload_n 0, 1) := by decide +kernel
theorem dX2_symbolName_48 : decode cX2_symbolName 48 = .ok (.getfield 29, 3) := by decide +kernel
theorem dX2_symbolName_51 : decode cX2_symbolName 51 = .ok (.aload_n 0, 1) := by decide +kernel
theorem dX2_symbolName_52 : decode cX2_symbolName 52 = .ok (.getfield 25, 3) := by decide +kernel
theorem dX2_symbolName_55 : decode cX2_symbolName 55 = .ok (.getfield 93, 3) := by decide +kernel
theorem dX2_symbolName_58 : decode cX2_symbolName 58 = .ok (.invokevirtual 104, 3) := by decide +kernel
theorem dX2_symbolName_61 : decode cX2_symbolName 61 = .ok (.aload_n 0, 1) := by decide +kernel
theorem dX2_symbolName_62 : decode cX2_symbolName 62 = .ok (.iconst 2, 1) := by decide +kernel
theorem dX2_symbolName_63 : decode cX2_symbolName 63 = .ok (.invokevirtual 76, 3) := by decide +kernel
theorem dX2_symbolName_66 : decode cX2_symbolName 66 = .ok (.ireturn, 1) := by decide +kernel
theorem dX2_symbolStep_0 : decode cX2_symbolStep 0 = .ok (.aload_n 0, 1) := by decide +kernel
theorem dX2_symbolStep_1 : decode cX2_symbolStep 1 = .ok (.getfield 11, 3) := by decide +kernel
theorem dX2_symbolStep_4 : decode cX2_symbolStep 4 = .ok (.tableswitch 74 1 4 #[32, 37, 42, 47], 32) := by decide +kernel
theorem dX2_symbolStep_36 : decode cX2_symbolStep 36 = .ok (.aload_n 0, 1) := by decide +kernel
theorem dX2_symbolStep_37 : decode cX2_symbolStep 37 = .ok (.invokevirtual 80, 3) := by decide +kernel
theorem dX2_symbolStep_40 : decode cX2_symbolStep 40 = .ok (.ireturn, 1) := by decide +kernel
theorem dX2_symbolStep_41 : decode cX2_symbolStep 41 = .ok (.aload_n 0, 1) := by decide +kernel
theorem dX2_symbolStep_42 : decode cX2_symbolStep 42 = .ok (.invokevirtual 83, 3) := by decide +kernel
theorem dX2_symbolStep_45 : decode cX2_symbolStep 45 = .ok (.ireturn, 1) := by decide +kernel
theorem dX2_symbolStep_46 : decode cX2_symbolStep 46 = .ok (.aload_n 0, 1) := by decide +kernel
theorem dX2_symbolStep_47 : decode cX2_symbolStep 47 = .ok (.invokevirtual 86, 3) := by decide +kernel
theorem dX2_symbolStep_50 : decode cX2_symbolStep 50 = .ok (.ireturn, 1) := by decide +kernel
theorem dX2_symbolStep_51 : decode cX2_symbolStep 51 = .ok (.aload_n 0, 1) := by decide +kernel
theorem dX2_symbolStep_52 : decode cX2_symbolStep 52 = .ok (.getfield 25, 3) := by decide +kernel
theorem dX2_symbolStep_55 : decode cX2_symbolStep 55 = .ok (.getfield 73, 3) := by decide +kernel
theorem dX2_symbolStep_58 : decode cX2_symbolStep 58 = .ok (.bipush 6, 2) := by decide +kernel
theorem dX2_symbolStep_60 : decode cX2_symbolStep 60 = .ok (.if_icmp .ne 11, 3) := by decide +kernel
theorem dX2_symbolStep_63 : decode cX2_symbolStep 63 = .ok (.aload_n 0, 1) := by decide +kernel
theorem dX2_symbolStep_64 : decode cX2_symbolStep 64 = .ok (.iconst 5, 1) := by decide +kernel
theorem dX2_symbolStep_65 : decode cX2_symbolStep 65 = .ok (.invokevirtual 76, 3) := by decide +kernel
theorem dX2_symbolStep_68 : decode cX2_symbolStep 68 = .ok (.goto 9, 3) := by decide +kernel
theorem dX2_symbolStep_71 : decode cX2_symbolStep 71 = .ok (.aload_n 0, 1) := by decide +kernel
theorem dX2_symbolStep_72 : decode cX2_symbolStep 72 = .ok (.iconst 3, 1) := by decide +kernel
theorem dX2_symbolStep_73 : decode cX2_symbolStep 73 = .ok (.iconst 1, 1) := by decide +kernel
theorem dX2_symbolStep_74 : decode cX2_symbolStep 74 = .ok (.invokevirtual 89, 3) := by decide +kernel
theorem dX2_symbolStep_77 : decode cX2_symbolStep 77 = .ok (.ireturn, 1) := by decide +kernel
theorem dX2_symbolStep_78 : decode cX2_symbolStep 78 = .ok (.aload_n 0, 1) := by decide +kernel
theorem dX2_symbolStep_79 : decode cX2_symbolStep 79 = .ok (.iconst 3, 1) := by decide +kernel
theorem dX2_symbolStep_80 : decode cX2_symbolStep 80 = .ok (.iconst 1, 1) := by decide +kernel
theorem dX2_symbolStep_81 : decode cX2_symbolStep 81 = .ok (.invokevirtual 89, 3) := by decide +kernel
theorem dX2_symbolStep_84 : decode cX2_symbolStep 84 = .ok (.ireturn, 1) := by decide +kernel
theorem dX2_targetName_0 : decode cX2_targetName 0 = .ok (.aload_n 0, 1) := by decide +kernel
theorem dX2_targetName_1 : decode cX2_targetName 1 = .ok (.getfield 25, 3) := by decide +kernel
theorem dX2_targetName_4 : decode cX2_targetName 4 = .ok (.getfield 73, 3) := by decide +kernel
theorem dX2_targetName_7 : decode cX2_targetName 7 = .ok (.iconst 1, 1) := by decide +kernel
theorem dX2_targetName_8 : decode cX2_targetName 8 = .ok (.if_icmp .eq 5, 3) := by decide +kernel
theorem dX2_targetName_11 : decode cX2_targetName 11 = .ok (.iconst 1, 1) := by decide +kernel
theorem dX2_targetName_12 : decode cX2_targetName 12 = .ok (.ireturn, 1) := by decide +kernel
theorem dX2_targetName_13 : decode cX2_targetName 13 = .ok (.aload_n 0, 1) := by decide +kernel
theorem dX2_targetName_14 : decode cX2_targetName 14 = .ok (.getfield 29, 3) := by decide +kernel
theorem dX2_targetName_17 : decode cX2_targetName 17 = .ok (.iload_n 1, 1) := by decide +kernel
theorem dX2_targetName_18 : decode cX2_targetName 18 = .ok (.aload_n 0, 1) := by decide +kernel
theorem dX2_targetName_19 : decode cX2_targetName 19 = .ok (.getfield 19, 3) := by decide +kernel
theorem dX2_targetName_22 : decode cX2_targetName 22 = .ok (.invokevirtual 160, 3) := by decide +kernel
theorem dX2_targetName_25 : decode cX2_targetName 25 = .ok (.istore_n 2, 1) := by decide +kernel
theorem dX2_targetName_26 : decode cX2_targetName 26 = .ok (.aload_n 0, 1) := by decide +kernel
theorem dX2_targetName_27 : decode cX2_targetName 27 = .ok (.getfield 29, 3) := by decide +kernel
theorem dX2_targetName_30 : decode cX2_targetName 30 = .ok (.iload_n 2, 1) := by decide +kernel
theorem dX2_targetName_31 : decode cX2_targetName 31 = .ok (.aload_n 0, 1) := by decide +kernel
theorem dX2_targetName_32 : decode cX2_targetName 32 = .ok (.getfield 25, 3) := by decide +kernel
theorem dX2_targetName_35 : decode cX2_targetName 35 = .ok (.getfield 93, 3) := by decide +kernel
theorem dX2_targetName_38 : decode cX2_targetName 38 = .ok (.invokevirtual 108, 3) := by decide +kernel
theorem dX2_targetName_41 : decode cX2_targetName 41 = .ok (.istore_n 3, 1) := by decide +kernel
theorem dX2_targetName_42 : decode cX2_targetName 42 = .ok (.iload_n 3, 1) := by decide +kernel
theorem dX2_targetName_43 : decode cX2_targetName 43 = .ok (.iconst (-1), 1) := by decide +kernel
theorem dX2_targetName_44 : decode cX2_targetName 44 = .ok (.if_icmp .ne 5, 3) := by decide +kernel
theorem dX2_targetName_47 : decode cX2_targetName 47 = .ok (.iconst 3, 1) := by decide +kernel
theorem dX2_targetName_48 : decode cX2_targetName 48 = .ok (.ireturn, 1) := by decide +kernel
theorem dX2_targetName_49 : decode cX2_targetName 49 = .ok (.aload_n 0, 1) := by decide +kernel
theorem dX2_targetName_50 : decode cX2_targetName 50 = .ok (.getfield 29, 3) := by decide +kernel
theorem dX2_targetName_53 : decode cX2_targetName 53 = .ok (.aload_n 0, 1) := by decide +kernel
theorem dX2_targetName_54 : decode cX2_targetName 54 = .ok (.getfield 19, 3) := by decide +kernel
theorem dX2_targetName_57 : decode cX2_targetName 57 = .ok (.iload_n 2, 1) := by decide +kernel
theorem dX2_targetName_58 : decode cX2_targetName 58 = .ok (.iload_n 3, 1) := by decide +kernel
theorem dX2_targetName_59 : decode cX2_targetName 59 = .ok (.invokevirtual 163, 3) := by decide +kernel
theorem dX2_targetName_62 : decode cX2_targetName 62 = .ok (.ifCond .ne 6, 3) := by decide +kernel
theorem dX2_targetName_65 : decode cX2_targetName 65 = .ok (.bipush 6, 2) := by decide +kernel
theorem dX2_targetName_67 : decode cX2_targetName 67 = .ok (.ireturn, 1) := by decide +kernel
theorem dX2_targetName_68 : decode cX2_targetName 68 = .ok (.aload_n 0, 1) := by decide +kernel
theorem dX2_targetName_69 : decode cX2_targetName 69 = .ok (.iload_n 1, 1) := by decide +kernel
theorem dX2_targetName_70 : decode cX2_targetName 70 = .ok (.bipush 24, 2) := by decide +kernel
theorem dX2_targetName_72 : decode cX2_targetName 72 = .ok (.imul, 1) := by decide +kernel
theorem dX2_targetName_73 : decode cX2_targetName 73 = .ok (.aload_n 0, 1) := by decide +kernel
theorem dX2_targetName_74 : decode cX2_targetName 74 = .ok (.getfield 19, 3) := by decide +kernel
theorem dX2_targetName_77 : decode cX2_targetName 77 = .ok (.bipush 6, 2) := by decide +kernel
theorem dX2_targetName_79 : decode cX2_targetName 79 = .ok (.imul, 1) := by decide +kernel
theorem dX2_targetName_80 : decode cX2_targetName 80 = .ok (.iadd, 1) := by decide +kernel
theorem dX2_targetName_81 : decode cX2_targetName 81 = .ok (.iload_n 3, 1) := by decide +kernel
theorem dX2_targetName_82 : decode cX2_targetName 82 = .ok (.iadd, 1) := by decide +kernel
theorem dX2_targetName_83 : decode cX2_targetName 83 = .ok (.putfield 22, 3) := by decide +kernel
theorem dX2_targetName_86 : decode cX2_targetName 86 = .ok (.aload_n 0, 1) := by decide +kernel
theorem dX2_targetName_87 : decode cX2_targetName 87 = .ok (.getfield 29, 3) := by decide +kernel
theorem dX2_targetName_90 : decode cX2_targetName 90 = .ok (.getfield 167, 3) := by decide +kernel
theorem dX2_targetName_93 : decode cX2_targetName 93 = .ok (.aload_n 0, 1) := by decide +kernel
theorem dX2_targetName_94 : decode cX2_targetName 94 = .ok (.getfield 22, 3) := by decide +kernel
theorem dX2_targetName_97 : decode cX2_targetName 97 = .ok (.iaload, 1) := by decide +kernel
theorem dX2_targetName_98 : decode cX2_targetName 98 = .ok (.iconst (-1), 1) := by decide +kernel
theorem dX2_targetName_99 : decode cX2_targetName 99 = .ok (.if_icmp .eq 8, 3) := by decide +kernel
theorem dX2_targetName_102 : decode cX2_targetName 102 = .ok (.bipush 7, 2) := by decide +kernel
theorem dX2_targetName_104 : decode cX2_targetName 104 = .ok (.goto 9, 3) := by decide +kernel
theorem dX2_targetName_107 : decode cX2_targetName 107 = .ok (.aload_n 0, 1) := by decide +kernel
theorem dX2_targetName_108 : decode cX2_targetName 108 = .ok (.bipush 13, 2) := by decide +kernel
theorem dX2_targetName_110 : decode cX2_targetName 110 = .ok (.invokevirtual 76, 3) := by decide +kernel
theorem dX2_targetName_113 : decode cX2_targetName 113 = .ok (.ireturn, 1) := by decide +kernel
theorem dX2_targetStep_0 : decode cX2_targetStep 0 = .ok (.aload_n 0, 1) := by decide +kernel
theorem dX2_targetStep_1 : decode cX2_targetStep 1 = .ok (.getfield 29, 3) := by decide +kernel
theorem dX2_targetStep_4 : decode cX2_targetStep 4 = .ok (.getfield 123, 3) := by decide +kernel
theorem dX2_targetStep_7 : decode cX2_targetStep 7 = .ok (.iconst 1, 1) := by decide +kernel
theorem dX2_targetStep_8 : decode cX2_targetStep 8 = .ok (.isub, 1) := by decide +kernel
theorem dX2_targetStep_9 : decode cX2_targetStep 9 = .ok (.istore_n 1, 1) := by decide +kernel
theorem dX2_targetStep_10 : decode cX2_targetStep 10 = .ok (.iload_n 1, 1) := by decide +kernel
theorem dX2_targetStep_11 : decode cX2_targetStep 11 = .ok (.ifCond .ge 5, 3) := by decide +kernel
theorem dX2_targetStep_14 : decode cX2_targetStep 14 = .ok (.iconst 1, 1) := by decide +kernel
theorem dX2_targetStep_15 : decode cX2_targetStep 15 = .ok (.ireturn, 1) := by decide +kernel
theorem dX2_targetStep_16 : decode cX2_targetStep 16 = .ok (.aload_n 0, 1) := by decide +kernel
theorem dX2_targetStep_17 : decode cX2_targetStep 17 = .ok (.getfield 11, 3) := by decide +kernel
theorem dX2_targetStep_20 : decode cX2_targetStep 20 = .ok (.lookupswitch 43 #[(11, 28), (12, 37)], 28) := by decide +kernel
theorem dX2_targetStep_48 : decode cX2_targetStep 48 = .ok (.aload_n 0, 1) := by decide +kernel
theorem dX2_targetStep_49 : decode cX2_targetStep 49 = .ok (.bipush 46, 2) := by decide +kernel
theorem dX2_targetStep_51 : decode cX2_targetStep 51 = .ok (.bipush 12, 2) := by decide +kernel
theorem dX2_targetStep_53 : decode cX2_targetStep 53 = .ok (.invokevirtual 89, 3) := by decide +kernel
theorem dX2_targetStep_56 : decode cX2_targetStep 56 = .ok (.ireturn, 1) := by decide +kernel
theorem dX2_targetStep_57 : decode cX2_targetStep 57 = .ok (.aload_n 0, 1) := by decide +kernel
theorem dX2_targetStep_58 : decode cX2_targetStep 58 = .ok (.iload_n 1, 1) := by decide +kernel
theorem dX2_targetStep_59 : decode cX2_targetStep 59 = .ok (.invokevirtual 170, 3) := by decide +kernel
theorem dX2_targetStep_62 : decode cX2_targetStep 62 = .ok (.ireturn, 1) := by decide +kernel
theorem dX2_targetStep_63 : decode cX2_targetStep 63 = .ok (.aload_n 0, 1) := by decide +kernel
theorem dX2_targetStep_64 : decode cX2_targetStep 64 = .ok (.getfield 38, 3) := by decide +kernel
theorem dX2_targetStep_67 : decode cX2_targetStep 67 = .ok (.aload_n 0, 1) := by decide +kernel
theorem dX2_targetStep_68 : decode cX2_targetStep 68 = .ok (.getfield 29, 3) := by decide +kernel
theorem dX2_targetStep_71 : decode cX2_targetStep 71 = .ok (.iload_n 1, 1) := by decide +kernel
theorem dX2_targetStep_72 : decode cX2_targetStep 72 = .ok (.aload_n 0, 1) := by decide +kernel
theorem dX2_targetStep_73 : decode cX2_targetStep 73 = .ok (.getfield 22, 3) := by decide +kernel
theorem dX2_targetStep_76 : decode cX2_targetStep 76 = .ok (.invokevirtual 173, 3) := by decide +kernel
theorem dX2_targetStep_79 : decode cX2_targetStep 79 = .ok (.aload_n 0, 1) := by decide +kernel
theorem dX2_targetStep_80 : decode cX2_targetStep 80 = .ok (.bipush 61, 2) := by decide +kernel
theorem dX2_targetStep_82 : decode cX2_targetStep 82 = .ok (.bipush 14, 2) := by decide +kernel
theorem dX2_targetStep_84 : decode cX2_targetStep 84 = .ok (.invokevirtual 89, 3) := by decide +kernel
theorem dX2_targetStep_87 : decode cX2_targetStep 87 = .ok (.ireturn, 1) := by decide +kernel
