theorem dX8_about_0 : decode cX8_about 0 = .ok (.iload_n 1, 1) := by decide +kernel
theorem dX8_about_1 : decode cX8_about 1 = .ok (.tableswitch 72 0 4 #[35, 40, 48, 56, 64], 35) := by decide +kernel
theorem dX8_about_36 : decode cX8_about 36 = .ok (.aload_n 0, 1) := by decide +kernel
theorem dX8_about_37 : decode cX8_about 37 = .ok (.getfield 13, 3) := by decide +kernel
theorem dX8_about_40 : decode cX8_about 40 = .ok (.ireturn, 1) := by decide +kernel
theorem dX8_about_41 : decode cX8_about 41 = .ok (.aload_n 0, 1) := by decide +kernel
theorem dX8_about_42 : decode cX8_about 42 = .ok (.getfield 20, 3) := by decide +kernel
theorem dX8_about_45 : decode cX8_about 45 = .ok (.getfield 114, 3) := by decide +kernel
theorem dX8_about_48 : decode cX8_about 48 = .ok (.ireturn, 1) := by decide +kernel
theorem dX8_about_49 : decode cX8_about 49 = .ok (.aload_n 0, 1) := by decide +kernel
theorem dX8_about_50 : decode cX8_about 50 = .ok (.getfield 20, 3) := by decide +kernel
theorem dX8_about_53 : decode cX8_about 53 = .ok (.getfield 108, 3) := by decide +kernel
theorem dX8_about_56 : decode cX8_about 56 = .ok (.ireturn, 1) := by decide +kernel
theorem dX8_about_57 : decode cX8_about 57 = .ok (.aload_n 0, 1) := by decide +kernel
theorem dX8_about_58 : decode cX8_about 58 = .ok (.getfield 30, 3) := by decide +kernel
theorem dX8_about_61 : decode cX8_about 61 = .ok (.getfield 99, 3) := by decide +kernel
theorem dX8_about_64 : decode cX8_about 64 = .ok (.ireturn, 1) := by decide +kernel
theorem dX8_about_65 : decode cX8_about 65 = .ok (.aload_n 0, 1) := by decide +kernel
theorem dX8_about_66 : decode cX8_about 66 = .ok (.getfield 78, 3) := by decide +kernel
theorem dX8_about_69 : decode cX8_about 69 = .ok (.getfield 203, 3) := by decide +kernel
theorem dX8_about_72 : decode cX8_about 72 = .ok (.ireturn, 1) := by decide +kernel
theorem dX8_about_73 : decode cX8_about 73 = .ok (.iconst (-1), 1) := by decide +kernel
theorem dX8_about_74 : decode cX8_about 74 = .ok (.ireturn, 1) := by decide +kernel
theorem dX8_demand_0 : decode cX8_demand 0 = .ok (.aload_n 0, 1) := by decide +kernel
theorem dX8_demand_1 : decode cX8_demand 1 = .ok (.iload_n 1, 1) := by decide +kernel
theorem dX8_demand_2 : decode cX8_demand 2 = .ok (.iload_n 2, 1) := by decide +kernel
theorem dX8_demand_3 : decode cX8_demand 3 = .ok (.invokevirtual 190, 3) := by decide +kernel
theorem dX8_demand_6 : decode cX8_demand 6 = .ok (.ifCond .eq 19, 3) := by decide +kernel
theorem dX8_demand_9 : decode cX8_demand 9 = .ok (.aload_n 0, 1) := by decide +kernel
theorem dX8_demand_10 : decode cX8_demand 10 = .ok (.getfield 78, 3) := by decide +kernel
theorem dX8_demand_13 : decode cX8_demand 13 = .ok (.iload_n 1, 1) := by decide +kernel
theorem dX8_demand_14 : decode cX8_demand 14 = .ok (.bipush 6, 2) := by decide +kernel
theorem dX8_demand_16 : decode cX8_demand 16 = .ok (.imul, 1) := by decide +kernel
theorem dX8_demand_17 : decode cX8_demand 17 = .ok (.iload_n 2, 1) := by decide +kernel
theorem dX8_demand_18 : decode cX8_demand 18 = .ok (.iadd, 1) := by decide +kernel
theorem dX8_demand_19 : decode cX8_demand 19 = .ok (.invokevirtual 194, 3) := by decide +kernel
theorem dX8_demand_22 : decode cX8_demand 22 = .ok (.goto 4, 3) := by decide +kernel
theorem dX8_demand_25 : decode cX8_demand 25 = .ok (.iconst (-1), 1) := by decide +kernel
theorem dX8_demand_26 : decode cX8_demand 26 = .ok (.ireturn, 1) := by decide +kernel
theorem dX8_grammar_0 : decode cX8_grammar 0 = .ok (.aload_n 0, 1) := by decide +kernel
theorem dX8_grammar_1 : decode cX8_grammar 1 = .ok (.getfield 51, 3) := by decide +kernel
theorem dX8_grammar_4 : decode cX8_grammar 4 = .ok (.aload_n 0, 1) := by decide +kernel
theorem dX8_grammar_5 : decode cX8_grammar 5 = .ok (.getfield 24, 3) := by decide +kernel
theorem dX8_grammar_8 : decode cX8_grammar 8 = .ok (.aload_n 0, 1) := by decide +kernel
theorem dX8_grammar_9 : decode cX8_grammar 9 = .ok (.getfield 13, 3) := by decide +kernel
theorem dX8_grammar_12 : decode cX8_grammar 12 = .ok (.invokevirtual 92, 3) := by decide +kernel
theorem dX8_grammar_15 : decode cX8_grammar 15 = .ok (.istore_n 1, 1) := by decide +kernel
theorem dX8_grammar_16 : decode cX8_grammar 16 = .ok (.aload_n 0, 1) := by decide +kernel
theorem dX8_grammar_17 : decode cX8_grammar 17 = .ok (.iconst 0, 1) := by decide +kernel
theorem dX8_grammar_18 : decode cX8_grammar 18 = .ok (.putfield 13, 3) := by decide +kernel
theorem dX8_grammar_21 : decode cX8_grammar 21 = .ok (.aload_n 0, 1) := by decide +kernel
theorem dX8_grammar_22 : decode cX8_grammar 22 = .ok (.iload_n 1, 1) := by decide +kernel
theorem dX8_grammar_23 : decode cX8_grammar 23 = .ok (.invokevirtual 96, 3) := by decide +kernel
theorem dX8_grammar_26 : decode cX8_grammar 26 = .ok (.iload_n 1, 1) := by decide +kernel
theorem dX8_grammar_27 : decode cX8_grammar 27 = .ok (.ifCond .eq 5, 3) := by decide +kernel
theorem dX8_grammar_30 : decode cX8_grammar 30 = .ok (.iconst (-1), 1) := by decide +kernel
theorem dX8_grammar_31 : decode cX8_grammar 31 = .ok (.ireturn, 1) := by decide +kernel
theorem dX8_grammar_32 : decode cX8_grammar 32 = .ok (.aload_n 0, 1) := by decide +kernel
theorem dX8_grammar_33 : decode cX8_grammar 33 = .ok (.getfield 24, 3) := by decide +kernel
theorem dX8_grammar_36 : decode cX8_grammar 36 = .ok (.astore_n 2, 1) := by decide +kernel
theorem dX8_grammar_37 : decode cX8_grammar 37 = .ok (.aload_n 0, 1) := by decide +kernel
theorem dX8_grammar_38 : decode cX8_grammar 38 = .ok (.aload_n 0, 1) := by decide +kernel
theorem dX8_grammar_39 : decode cX8_grammar 39 = .ok (.getfield 20, 3) := by decide +kernel
theorem dX8_grammar_42 : decode cX8_grammar 42 = .ok (.putfield 24, 3) := by decide +kernel
theorem dX8_grammar_45 : decode cX8_grammar 45 = .ok (.aload_n 0, 1) := by decide +kernel
theorem dX8_grammar_46 : decode cX8_grammar 46 = .ok (.aload_n 2, 1) := by decide +kernel
theorem dX8_grammar_47 : decode cX8_grammar 47 = .ok (.putfield 20, 3) := by decide +kernel
theorem dX8_grammar_50 : decode cX8_grammar 50 = .ok (.aload_n 0, 1) := by decide +kernel
theorem dX8_grammar_51 : decode cX8_grammar 51 = .ok (.getfield 30, 3) := by decide +kernel
theorem dX8_grammar_54 : decode cX8_grammar 54 = .ok (.iconst 0, 1) := by decide +kernel
theorem dX8_grammar_55 : decode cX8_grammar 55 = .ok (.putfield 99, 3) := by decide +kernel
theorem dX8_grammar_58 : decode cX8_grammar 58 = .ok (.aload_n 0, 1) := by decide +kernel
theorem dX8_grammar_59 : decode cX8_grammar 59 = .ok (.getfield 78, 3) := by decide +kernel
theorem dX8_grammar_62 : decode cX8_grammar 62 = .ok (.aload_n 0, 1) := by decide +kernel
theorem dX8_grammar_63 : decode cX8_grammar 63 = .ok (.getfield 20, 3) := by decide +kernel
theorem dX8_grammar_66 : decode cX8_grammar 66 = .ok (.aload_n 0, 1) := by decide +kernel
theorem dX8_grammar_67 : decode cX8_grammar 67 = .ok (.getfield 30, 3) := by decide +kernel
theorem dX8_grammar_70 : decode cX8_grammar 70 = .ok (.invokevirtual 102, 3) := by decide +kernel
theorem dX8_grammar_73 : decode cX8_grammar 73 = .ok (.aload_n 0, 1) := by decide +kernel
theorem dX8_grammar_74 : decode cX8_grammar 74 = .ok (.getfield 69, 3) := by decide +kernel
theorem dX8_grammar_77 : decode cX8_grammar 77 = .ok (.aload_n 0, 1) := by decide +kernel
theorem dX8_grammar_78 : decode cX8_grammar 78 = .ok (.getfield 20, 3) := by decide +kernel
theorem dX8_grammar_81 : decode cX8_grammar 81 = .ok (.invokevirtual 105, 3) := by decide +kernel
theorem dX8_grammar_84 : decode cX8_grammar 84 = .ok (.aload_n 0, 1) := by decide +kernel
theorem dX8_grammar_85 : decode cX8_grammar 85 = .ok (.getfield 20, 3) := by decide +kernel
theorem dX8_grammar_88 : decode cX8_grammar 88 = .ok (.getfield 108, 3) := by decide +kernel
theorem dX8_grammar_91 : decode cX8_grammar 91 = .ok (.ireturn, 1) := by decide +kernel
theorem dX8_graph_0 : decode cX8_graph 0 = .ok (.iload_n 1, 1) := by decide +kernel
theorem dX8_graph_1 : decode cX8_graph 1 = .ok (.ifCond .lt 41, 3) := by decide +kernel
theorem dX8_graph_4 : decode cX8_graph 4 = .ok (.iload_n 1, 1) := by decide +kernel
theorem dX8_graph_5 : decode cX8_graph 5 = .ok (.aload_n 0, 1) := by decide +kernel
theorem dX8_graph_6 : decode cX8_graph 6 = .ok (.getfield 20, 3) := by decide +kernel
theorem dX8_graph_9 : decode cX8_graph 9 = .ok (.getfield 114, 3) := by decide +kernel
theorem dX8_graph_12 : decode cX8_graph 12 = .ok (.if_icmp .ge 30, 3) := by decide +kernel
theorem dX8_graph_15 : decode cX8_graph 15 = .ok (.aload_n 0, 1) := by decide +kernel
theorem dX8_graph_16 : decode cX8_graph 16 = .ok (.getfield 69, 3) := by decide +kernel
theorem dX8_graph_19 : decode cX8_graph 19 = .ok (.getfield 124, 3) := by decide +kernel
theorem dX8_graph_22 : decode cX8_graph 22 = .ok (.ifCond .ne 20, 3) := by decide +kernel
theorem dX8_graph_25 : decode cX8_graph 25 = .ok (.iload_n 2, 1) := by decide +kernel
theorem dX8_graph_26 : decode cX8_graph 26 = .ok (.ifCond .lt 16, 3) := by decide +kernel
theorem dX8_graph_29 : decode cX8_graph 29 = .ok (.iload_n 2, 1) := by decide +kernel
theorem dX8_graph_30 : decode cX8_graph 30 = .ok (.aload_n 0, 1) := by decide +kernel
theorem dX8_graph_31 : decode cX8_graph 31 = .ok (.getfield 69, 3) := by decide +kernel
theorem dX8_graph_34 : decode cX8_graph 34 = .ok (.getfield 128, 3) := by decide +kernel
theorem dX8_graph_37 : decode cX8_graph 37 = .ok (.iload_n 1, 1) := by decide +kernel
theorem dX8_graph_38 : decode cX8_graph 38 = .ok (.iaload, 1) := by decide +kernel
theorem dX8_graph_39 : decode cX8_graph 39 = .ok (.if_icmp .lt 5, 3) := by decide +kernel
theorem dX8_graph_42 : decode cX8_graph 42 = .ok (.iconst (-1), 1) := by decide +kernel
theorem dX8_graph_43 : decode cX8_graph 43 = .ok (.ireturn, 1) := by decide +kernel
theorem dX8_graph_44 : decode cX8_graph 44 = .ok (.aload_n 0, 1) := by decide +kernel
theorem dX8_graph_45 : decode cX8_graph 45 = .ok (.getfield 69, 3) := by decide +kernel
theorem dX8_graph_48 : decode cX8_graph 48 = .ok (.getfield 138, 3) := by decide +kernel
theorem dX8_graph_51 : decode cX8_graph 51 = .ok (.iload_n 1, 1) := by decide +kernel
theorem dX8_graph_52 : decode cX8_graph 52 = .ok (.sipush 512, 3) := by decide +kernel
theorem dX8_graph_55 : decode cX8_graph 55 = .ok (.imul, 1) := by decide +kernel
theorem dX8_graph_56 : decode cX8_graph 56 = .ok (.iload_n 2, 1) := by decide +kernel
theorem dX8_graph_57 : decode cX8_graph 57 = .ok (.iadd, 1) := by decide +kernel
theorem dX8_graph_58 : decode cX8_graph 58 = .ok (.iaload, 1) := by decide +kernel
theorem dX8_graph_59 : decode cX8_graph 59 = .ok (.ireturn, 1) := by decide +kernel
theorem dX8_inheritance_0 : decode cX8_inheritance 0 = .ok (.iload_n 2, 1) := by decide +kernel
theorem dX8_inheritance_1 : decode cX8_inheritance 1 = .ok (.bipush 100, 2) := by decide +kernel
theorem dX8_inheritance_3 : decode cX8_inheritance 3 = .ok (.if_icmp .lt 19, 3) := by decide +kernel
theorem dX8_inheritance_6 : decode cX8_inheritance 6 = .ok (.iload_n 2, 1) := by decide +kernel
theorem dX8_inheritance_7 : decode cX8_inheritance 7 = .ok (.bipush 100, 2) := by decide +kernel
theorem dX8_inheritance_9 : decode cX8_inheritance 9 = .ok (.aload_n 0, 1) := by decide +kernel
theorem dX8_inheritance_10 : decode cX8_inheritance 10 = .ok (.getfield 20, 3) := by decide +kernel
theorem dX8_inheritance_13 : decode cX8_inheritance 13 = .ok (.getfield 117, 3) := by decide +kernel
theorem dX8_inheritance_16 : decode cX8_inheritance 16 = .ok (.iload_n 1, 1) := by decide +kernel
theorem dX8_inheritance_17 : decode cX8_inheritance 17 = .ok (.iaload, 1) := by decide +kernel
theorem dX8_inheritance_18 : decode cX8_inheritance 18 = .ok (.iadd, 1) := by decide +kernel
theorem dX8_inheritance_19 : decode cX8_inheritance 19 = .ok (.if_icmp .lt 5, 3) := by decide +kernel
theorem dX8_inheritance_22 : decode cX8_inheritance 22 = .ok (.iconst (-1), 1) := by decide +kernel
theorem dX8_inheritance_23 : decode cX8_inheritance 23 = .ok (.ireturn, 1) := by decide +kernel
theorem dX8_inheritance_24 : decode cX8_inheritance 24 = .ok (.aload_n 0, 1) := by decide +kernel
theorem dX8_inheritance_25 : decode cX8_inheritance 25 = .ok (.getfield 20, 3) := by decide +kernel
theorem dX8_inheritance_28 : decode cX8_inheritance 28 = .ok (.iload_n 1, 1) := by decide +kernel
theorem dX8_inheritance_29 : decode cX8_inheritance 29 = .ok (.iload_n 2, 1) := by decide +kernel
theorem dX8_inheritance_30 : decode cX8_inheritance 30 = .ok (.bipush 100, 2) := by decide +kernel
theorem dX8_inheritance_32 : decode cX8_inheritance 32 = .ok (.isub, 1) := by decide +kernel
theorem dX8_inheritance_33 : decode cX8_inheritance 33 = .ok (.invokevirtual 212, 3) := by decide +kernel
theorem dX8_inheritance_36 : decode cX8_inheritance 36 = .ok (.ifCond .eq 7, 3) := by decide +kernel
theorem dX8_inheritance_39 : decode cX8_inheritance 39 = .ok (.iconst 1, 1) := by decide +kernel
theorem dX8_inheritance_40 : decode cX8_inheritance 40 = .ok (.goto 4, 3) := by decide +kernel
theorem dX8_inheritance_43 : decode cX8_inheritance 43 = .ok (.iconst 0, 1) := by decide +kernel
theorem dX8_inheritance_44 : decode cX8_inheritance 44 = .ok (.ireturn, 1) := by decide +kernel
theorem dX8_isItem_0 : decode cX8_isItem 0 = .ok (.aload_n 0, 1) := by decide +kernel
theorem dX8_isItem_1 : decode cX8_isItem 1 = .ok (.iload_n 1, 1) := by decide +kernel
theorem dX8_isItem_2 : decode cX8_isItem 2 = .ok (.invokevirtual 167, 3) := by decide +kernel
theorem dX8_isItem_5 : decode cX8_isItem 5 = .ok (.ifCond .eq 28, 3) := by decide +kernel
theorem dX8_isItem_8 : decode cX8_isItem 8 = .ok (.iload_n 2, 1) := by decide +kernel
theorem dX8_isItem_9 : decode cX8_isItem 9 = .ok (.ifCond .lt 24, 3) := by decide +kernel
theorem dX8_isItem_12 : decode cX8_isItem 12 = .ok (.iload_n 2, 1) := by decide +kernel
theorem dX8_isItem_13 : decode cX8_isItem 13 = .ok (.aload_n 0, 1) := by decide +kernel
theorem dX8_isItem_14 : decode cX8_isItem 14 = .ok (.getfield 20, 3) := by decide +kernel
theorem dX8_isItem_17 : decode cX8_isItem 17 = .ok (.getfield 117, 3) := by decide +kernel
theorem dX8_isItem_20 : decode cX8_isItem 20 = .ok (.aload_n 0, 1) := by decide +kernel
theorem dX8_isItem_21 : decode cX8_isItem 21 = .ok (.iload_n 1, 1) := by decide +kernel
theorem dX8_isItem_22 : decode cX8_isItem 22 = .ok (.invokevirtual 183, 3) := by decide +kernel
theorem dX8_isItem_25 : decode cX8_isItem 25 = .ok (.iaload, 1) := by decide +kernel
theorem dX8_isItem_26 : decode cX8_isItem 26 = .ok (.if_icmp .ge 7, 3) := by decide +kernel
theorem dX8_isItem_29 : decode cX8_isItem 29 = .ok (.iconst 1, 1) := by decide +kernel
theorem dX8_isItem_30 : decode cX8_isItem 30 = .ok (.goto 4, 3) := by decide +kernel
theorem dX8_isItem_33 : decode cX8_isItem 33 = .ok (.iconst 0, 1) := by decide +kernel
theorem dX8_isItem_34 : decode cX8_isItem 34 = .ok (.ireturn, 1) := by decide +kernel
theorem dX8_isNode_0 : decode cX8_isNode 0 = .ok (.iload_n 1, 1) := by decide +kernel
theorem dX8_isNode_1 : decode cX8_isNode 1 = .ok (.ifCond .lt 18, 3) := by decide +kernel
theorem dX8_isNode_4 : decode cX8_isNode 4 = .ok (.iload_n 1, 1) := by decide +kernel
theorem dX8_isNode_5 : decode cX8_isNode 5 = .ok (.aload_n 0, 1) := by decide +kernel
theorem dX8_isNode_6 : decode cX8_isNode 6 = .ok (.getfield 30, 3) := by decide +kernel
theorem dX8_isNode_9 : decode cX8_isNode 9 = .ok (.getfield 99, 3) := by decide +kernel
theorem dX8_isNode_12 : decode cX8_isNode 12 = .ok (.if_icmp .ge 7, 3) := by decide +kernel
theorem dX8_isNode_15 : decode cX8_isNode 15 = .ok (.iconst 1, 1) := by decide +kernel
theorem dX8_isNode_16 : decode cX8_isNode 16 = .ok (.goto 4, 3) := by decide +kernel
theorem dX8_isNode_19 : decode cX8_isNode 19 = .ok (.iconst 0, 1) := by decide +kernel
theorem dX8_isNode_20 : decode cX8_isNode 20 = .ok (.ireturn, 1) := by decide +kernel
theorem dX8_node_0 : decode cX8_node 0 = .ok (.aload_n 0, 1) := by decide +kernel
theorem dX8_node_1 : decode cX8_node 1 = .ok (.iload_n 1, 1) := by decide +kernel
theorem dX8_node_2 : decode cX8_node 2 = .ok (.invokevirtual 167, 3) := by decide +kernel
theorem dX8_node_5 : decode cX8_node 5 = .ok (.ifCond .ne 5, 3) := by decide +kernel
theorem dX8_node_8 : decode cX8_node 8 = .ok (.iconst (-1), 1) := by decide +kernel
theorem dX8_node_9 : decode cX8_node 9 = .ok (.ireturn, 1) := by decide +kernel
theorem dX8_node_10 : decode cX8_node 10 = .ok (.iload_n 2, 1) := by decide +kernel
theorem dX8_node_11 : decode cX8_node 11 = .ok (.tableswitch 79 0 4 #[33, 43, 53, 63, 73], 33) := by decide +kernel
theorem dX8_node_44 : decode cX8_node 44 = .ok (.aload_n 0, 1) := by decide +kernel
theorem dX8_node_45 : decode cX8_node 45 = .ok (.getfield 30, 3) := by decide +kernel
theorem dX8_node_48 : decode cX8_node 48 = .ok (.getfield 171, 3) := by decide +kernel
theorem dX8_node_51 : decode cX8_node 51 = .ok (.iload_n 1, 1) := by decide +kernel
theorem dX8_node_52 : decode cX8_node 52 = .ok (.iaload, 1) := by decide +kernel
theorem dX8_node_53 : decode cX8_node 53 = .ok (.ireturn, 1) := by decide +kernel
theorem dX8_node_54 : decode cX8_node 54 = .ok (.aload_n 0, 1) := by decide +kernel
theorem dX8_node_55 : decode cX8_node 55 = .ok (.getfield 30, 3) := by decide +kernel
theorem dX8_node_58 : decode cX8_node 58 = .ok (.getfield 174, 3) := by decide +kernel
theorem dX8_node_61 : decode cX8_node 61 = .ok (.iload_n 1, 1) := by decide +kernel
theorem dX8_node_62 : decode cX8_node 62 = .ok (.iaload, 1) := by decide +kernel
theorem dX8_node_63 : decode cX8_node 63 = .ok (.ireturn, 1) := by decide +kernel
theorem dX8_node_64 : decode cX8_node 64 = .ok (.aload_n 0, 1) := by decide +kernel
theorem dX8_node_65 : decode cX8_node 65 = .ok (.getfield 30, 3) := by decide +kernel
theorem dX8_node_68 : decode cX8_node 68 = .ok (.getfield 177, 3) := by decide +kernel
theorem dX8_node_71 : decode cX8_node 71 = .ok (.iload_n 1, 1) := by decide +kernel
theorem dX8_node_72 : decode cX8_node 72 = .ok (.iaload, 1) := by decide +kernel
theorem dX8_node_73 : decode cX8_node 73 = .ok (.ireturn, 1) := by decide +kernel
theorem dX8_node_74 : decode cX8_node 74 = .ok (.aload_n 0, 1) := by decide +kernel
theorem dX8_node_75 : decode cX8_node 75 = .ok (.getfield 30, 3) := by decide +kernel
theorem dX8_node_78 : decode cX8_node 78 = .ok (.getfield 180, 3) := by decide +kernel
theorem dX8_node_81 : decode cX8_node 81 = .ok (.iload_n 1, 1) := by decide +kernel
theorem dX8_node_82 : decode cX8_node 82 = .ok (.iaload, 1) := by decide +kernel
theorem dX8_node_83 : decode cX8_node 83 = .ok (.ireturn, 1) := by decide +kernel
theorem dX8_node_84 : decode cX8_node 84 = .ok (.aload_n 0, 1) := by decide +kernel
theorem dX8_node_85 : decode cX8_node 85 = .ok (.iload_n 1, 1) := by decide +kernel
theorem dX8_node_86 : decode cX8_node 86 = .ok (.invokevirtual 183, 3) := by decide +kernel
theorem dX8_node_89 : decode cX8_node 89 = .ok (.ireturn, 1) := by decide +kernel
theorem dX8_node_90 : decode cX8_node 90 = .ok (.iconst (-1), 1) := by decide +kernel
theorem dX8_node_91 : decode cX8_node 91 = .ok (.ireturn, 1) := by decide +kernel
theorem dX8_order_0 : decode cX8_order 0 = .ok (.iload_n 1, 1) := by decide +kernel
theorem dX8_order_1 : decode cX8_order 1 = .ok (.ifCond .lt 14, 3) := by decide +kernel
theorem dX8_order_4 : decode cX8_order 4 = .ok (.iload_n 1, 1) := by decide +kernel
theorem dX8_order_5 : decode cX8_order 5 = .ok (.aload_n 0, 1) := by decide +kernel
theorem dX8_order_6 : decode cX8_order 6 = .ok (.getfield 78, 3) := by decide +kernel
theorem dX8_order_9 : decode cX8_order 9 = .ok (.getfield 203, 3) := by decide +kernel
theorem dX8_order_12 : decode cX8_order 12 = .ok (.if_icmp .lt 7, 3) := by decide +kernel
theorem dX8_order_15 : decode cX8_order 15 = .ok (.iconst (-1), 1) := by decide +kernel
theorem dX8_order_16 : decode cX8_order 16 = .ok (.goto 12, 3) := by decide +kernel
theorem dX8_order_19 : decode cX8_order 19 = .ok (.aload_n 0, 1) := by decide +kernel
theorem dX8_order_20 : decode cX8_order 20 = .ok (.getfield 78, 3) := by decide +kernel
theorem dX8_order_23 : decode cX8_order 23 = .ok (.getfield 206, 3) := by decide +kernel
theorem dX8_order_26 : decode cX8_order 26 = .ok (.iload_n 1, 1) := by decide +kernel
theorem dX8_order_27 : decode cX8_order 27 = .ok (.iaload, 1) := by decide +kernel
theorem dX8_order_28 : decode cX8_order 28 = .ok (.ireturn, 1) := by decide +kernel
theorem dX8_own_0 : decode cX8_own 0 = .ok (.aload_n 0, 1) := by decide +kernel
theorem dX8_own_1 : decode cX8_own 1 = .ok (.iload_n 1, 1) := by decide +kernel
theorem dX8_own_2 : decode cX8_own 2 = .ok (.invokevirtual 167, 3) := by decide +kernel
theorem dX8_own_5 : decode cX8_own 5 = .ok (.ifCond .ne 5, 3) := by decide +kernel
theorem dX8_own_8 : decode cX8_own 8 = .ok (.iconst 0, 1) := by decide +kernel
theorem dX8_own_9 : decode cX8_own 9 = .ok (.ireturn, 1) := by decide +kernel
theorem dX8_own_10 : decode cX8_own 10 = .ok (.aload_n 0, 1) := by decide +kernel
theorem dX8_own_11 : decode cX8_own 11 = .ok (.getfield 30, 3) := by decide +kernel
theorem dX8_own_14 : decode cX8_own 14 = .ok (.getfield 180, 3) := by decide +kernel
theorem dX8_own_17 : decode cX8_own 17 = .ok (.iload_n 1, 1) := by decide +kernel
theorem dX8_own_18 : decode cX8_own 18 = .ok (.iaload, 1) := by decide +kernel
theorem dX8_own_19 : decode cX8_own 19 = .ok (.iload_n 2, 1) := by decide +kernel
theorem dX8_own_20 : decode cX8_own 20 = .ok (.if_icmp .eq 20, 3) := by decide +kernel
theorem dX8_own_23 : decode cX8_own 23 = .ok (.aload_n 0, 1) := by decide +kernel
theorem dX8_own_24 : decode cX8_own 24 = .ok (.getfield 30, 3) := by decide +kernel
theorem dX8_own_27 : decode cX8_own 27 = .ok (.getfield 180, 3) := by decide +kernel
theorem dX8_own_30 : decode cX8_own 30 = .ok (.iload_n 1, 1) := by decide +kernel
theorem dX8_own_31 : decode cX8_own 31 = .ok (.iload_n 2, 1) := by decide +kernel
theorem dX8_own_32 : decode cX8_own 32 = .ok (.iastore, 1) := by decide +kernel
theorem dX8_own_33 : decode cX8_own 33 = .ok (.aload_n 0, 1) := by decide +kernel
theorem dX8_own_34 : decode cX8_own 34 = .ok (.getfield 78, 3) := by decide +kernel
theorem dX8_own_37 : decode cX8_own 37 = .ok (.invokevirtual 187, 3) := by decide +kernel
theorem dX8_own_40 : decode cX8_own 40 = .ok (.iconst 1, 1) := by decide +kernel
theorem dX8_own_41 : decode cX8_own 41 = .ok (.ireturn, 1) := by decide +kernel
theorem dX8_rule_0 : decode cX8_rule 0 = .ok (.iload_n 1, 1) := by decide +kernel
theorem dX8_rule_1 : decode cX8_rule 1 = .ok (.ifCond .lt 14, 3) := by decide +kernel
theorem dX8_rule_4 : decode cX8_rule 4 = .ok (.iload_n 1, 1) := by decide +kernel
theorem dX8_rule_5 : decode cX8_rule 5 = .ok (.aload_n 0, 1) := by decide +kernel
theorem dX8_rule_6 : decode cX8_rule 6 = .ok (.getfield 20, 3) := by decide +kernel
theorem dX8_rule_9 : decode cX8_rule 9 = .ok (.getfield 108, 3) := by decide +kernel
theorem dX8_rule_12 : decode cX8_rule 12 = .ok (.if_icmp .lt 5, 3) := by decide +kernel
theorem dX8_rule_15 : decode cX8_rule 15 = .ok (.iconst (-1), 1) := by decide +kernel
theorem dX8_rule_16 : decode cX8_rule 16 = .ok (.ireturn, 1) := by decide +kernel
theorem dX8_rule_17 : decode cX8_rule 17 = .ok (.iload_n 2, 1) := by decide +kernel
theorem dX8_rule_18 : decode cX8_rule 18 = .ok (.tableswitch 137 0 5 #[38, 48, 58, 68, 86, 104], 38) := by decide +kernel
theorem dX8_rule_56 : decode cX8_rule 56 = .ok (.aload_n 0, 1) := by decide +kernel
theorem dX8_rule_57 : decode cX8_rule 57 = .ok (.getfield 20, 3) := by decide +kernel
theorem dX8_rule_60 : decode cX8_rule 60 = .ok (.iload_n 1, 1) := by decide +kernel
theorem dX8_rule_61 : decode cX8_rule 61 = .ok (.iconst 0, 1) := by decide +kernel
theorem dX8_rule_62 : decode cX8_rule 62 = .ok (.invokevirtual 141, 3) := by decide +kernel
theorem dX8_rule_65 : decode cX8_rule 65 = .ok (.ireturn, 1) := by decide +kernel
theorem dX8_rule_66 : decode cX8_rule 66 = .ok (.aload_n 0, 1) := by decide +kernel
theorem dX8_rule_67 : decode cX8_rule 67 = .ok (.getfield 20, 3) := by decide +kernel
theorem dX8_rule_70 : decode cX8_rule 70 = .ok (.getfield 144, 3) := by decide +kernel
theorem dX8_rule_73 : decode cX8_rule 73 = .ok (.iload_n 1, 1) := by decide +kernel
theorem dX8_rule_74 : decode cX8_rule 74 = .ok (.iaload, 1) := by decide +kernel
theorem dX8_rule_75 : decode cX8_rule 75 = .ok (.ireturn, 1) := by decide +kernel
theorem dX8_rule_76 : decode cX8_rule 76 = .ok (.aload_n 0, 1) := by decide +kernel
theorem dX8_rule_77 : decode cX8_rule 77 = .ok (.getfield 20, 3) := by decide +kernel
theorem dX8_rule_80 : decode cX8_rule 80 = .ok (.getfield 147, 3) := by decide +kernel
theorem dX8_rule_83 : decode cX8_rule 83 = .ok (.iload_n 1, 1) := by decide +kernel
theorem dX8_rule_84 : decode cX8_rule 84 = .ok (.iaload, 1) := by decide +kernel
theorem dX8_rule_85 : decode cX8_rule 85 = .ok (.ireturn, 1) := by decide +kernel
theorem dX8_rule_86 : decode cX8_rule 86 = .ok (.aload_n 0, 1) := by decide +kernel
theorem dX8_rule_87 : decode cX8_rule 87 = .ok (.getfield 69, 3) := by decide +kernel
theorem dX8_rule_90 : decode cX8_rule 90 = .ok (.getfield 150, 3) := by decide +kernel
theorem dX8_rule_93 : decode cX8_rule 93 = .ok (.iload_n 1, 1) := by decide +kernel
theorem dX8_rule_94 : decode cX8_rule 94 = .ok (.baload, 1) := by decide +kernel
theorem dX8_rule_95 : decode cX8_rule 95 = .ok (.ifCond .eq 7, 3) := by decide +kernel
theorem dX8_rule_98 : decode cX8_rule 98 = .ok (.iconst 1, 1) := by decide +kernel
theorem dX8_rule_99 : decode cX8_rule 99 = .ok (.goto 4, 3) := by decide +kernel
theorem dX8_rule_102 : decode cX8_rule 102 = .ok (.iconst 0, 1) := by decide +kernel
theorem dX8_rule_103 : decode cX8_rule 103 = .ok (.ireturn, 1) := by decide +kernel
theorem dX8_rule_104 : decode cX8_rule 104 = .ok (.aload_n 0, 1) := by decide +kernel
theorem dX8_rule_105 : decode cX8_rule 105 = .ok (.getfield 69, 3) := by decide +kernel
theorem dX8_rule_108 : decode cX8_rule 108 = .ok (.getfield 154, 3) := by decide +kernel
theorem dX8_rule_111 : decode cX8_rule 111 = .ok (.iload_n 1, 1) := by decide +kernel
theorem dX8_rule_112 : decode cX8_rule 112 = .ok (.baload, 1) := by decide +kernel
theorem dX8_rule_113 : decode cX8_rule 113 = .ok (.ifCond .eq 7, 3) := by decide +kernel
theorem dX8_rule_116 : decode cX8_rule 116 = .ok (.iconst 1, 1) := by decide +kernel
theorem dX8_rule_117 : decode cX8_rule 117 = .ok (.goto 4, 3) := by decide +kernel
theorem dX8_rule_120 : decode cX8_rule 120 = .ok (.iconst 0, 1) := by decide +kernel
theorem dX8_rule_121 : decode cX8_rule 121 = .ok (.ireturn, 1) := by decide +kernel
theorem dX8_rule_122 : decode cX8_rule 122 = .ok (.aload_n 0, 1) := by decide +kernel
theorem dX8_rule_123 : decode cX8_rule 123 = .ok (.getfield 69, 3) := by decide +kernel
theorem dX8_rule_126 : decode cX8_rule 126 = .ok (.getfield 124, 3) := by decide +kernel
theorem dX8_rule_129 : decode cX8_rule 129 = .ok (.ifCond .eq 8, 3) := by decide +kernel
theorem dX8_rule_132 : decode cX8_rule 132 = .ok (.bipush (-2), 2) := by decide +kernel
theorem dX8_rule_134 : decode cX8_rule 134 = .ok (.goto 20, 3) := by decide +kernel
theorem dX8_rule_137 : decode cX8_rule 137 = .ok (.aload_n 0, 1) := by decide +kernel
theorem dX8_rule_138 : decode cX8_rule 138 = .ok (.getfield 69, 3) := by decide +kernel
theorem dX8_rule_141 : decode cX8_rule 141 = .ok (.getfield 157, 3) := by decide +kernel
theorem dX8_rule_144 : decode cX8_rule 144 = .ok (.iload_n 1, 1) := by decide +kernel
theorem dX8_rule_145 : decode cX8_rule 145 = .ok (.baload, 1) := by decide +kernel
theorem dX8_rule_146 : decode cX8_rule 146 = .ok (.ifCond .eq 7, 3) := by decide +kernel
theorem dX8_rule_149 : decode cX8_rule 149 = .ok (.iconst 1, 1) := by decide +kernel
theorem dX8_rule_150 : decode cX8_rule 150 = .ok (.goto 4, 3) := by decide +kernel
theorem dX8_rule_153 : decode cX8_rule 153 = .ok (.iconst 0, 1) := by decide +kernel
theorem dX8_rule_154 : decode cX8_rule 154 = .ok (.ireturn, 1) := by decide +kernel
theorem dX8_rule_155 : decode cX8_rule 155 = .ok (.iload_n 2, 1) := by decide +kernel
theorem dX8_rule_156 : decode cX8_rule 156 = .ok (.bipush 10, 2) := by decide +kernel
theorem dX8_rule_158 : decode cX8_rule 158 = .ok (.if_icmp .le 34, 3) := by decide +kernel
theorem dX8_rule_161 : decode cX8_rule 161 = .ok (.iload_n 2, 1) := by decide +kernel
theorem dX8_rule_162 : decode cX8_rule 162 = .ok (.bipush 10, 2) := by decide +kernel
theorem dX8_rule_164 : decode cX8_rule 164 = .ok (.aload_n 0, 1) := by decide +kernel
theorem dX8_rule_165 : decode cX8_rule 165 = .ok (.getfield 20, 3) := by decide +kernel
theorem dX8_rule_168 : decode cX8_rule 168 = .ok (.getfield 144, 3) := by decide +kernel
theorem dX8_rule_171 : decode cX8_rule 171 = .ok (.iload_n 1, 1) := by decide +kernel
theorem dX8_rule_172 : decode cX8_rule 172 = .ok (.iaload, 1) := by decide +kernel
theorem dX8_rule_173 : decode cX8_rule 173 = .ok (.iadd, 1) := by decide +kernel
theorem dX8_rule_174 : decode cX8_rule 174 = .ok (.if_icmp .gt 18, 3) := by decide +kernel
theorem dX8_rule_177 : decode cX8_rule 177 = .ok (.aload_n 0, 1) := by decide +kernel
theorem dX8_rule_178 : decode cX8_rule 178 = .ok (.getfield 20, 3) := by decide +kernel
theorem dX8_rule_181 : decode cX8_rule 181 = .ok (.iload_n 1, 1) := by decide +kernel
theorem dX8_rule_182 : decode cX8_rule 182 = .ok (.iload_n 2, 1) := by decide +kernel
theorem dX8_rule_183 : decode cX8_rule 183 = .ok (.bipush 10, 2) := by decide +kernel
theorem dX8_rule_185 : decode cX8_rule 185 = .ok (.isub, 1) := by decide +kernel
theorem dX8_rule_186 : decode cX8_rule 186 = .ok (.invokevirtual 141, 3) := by decide +kernel
theorem dX8_rule_189 : decode cX8_rule 189 = .ok (.goto 4, 3) := by decide +kernel
theorem dX8_rule_192 : decode cX8_rule 192 = .ok (.iconst (-1), 1) := by decide +kernel
theorem dX8_rule_193 : decode cX8_rule 193 = .ok (.ireturn, 1) := by decide +kernel
theorem dX8_symbol_0 : decode cX8_symbol 0 = .ok (.iload_n 1, 1) := by decide +kernel
theorem dX8_symbol_1 : decode cX8_symbol 1 = .ok (.ifCond .lt 14, 3) := by decide +kernel
theorem dX8_symbol_4 : decode cX8_symbol 4 = .ok (.iload_n 1, 1) := by decide +kernel
theorem dX8_symbol_5 : decode cX8_symbol 5 = .ok (.aload_n 0, 1) := by decide +kernel
theorem dX8_symbol_6 : decode cX8_symbol 6 = .ok (.getfield 20, 3) := by decide +kernel
theorem dX8_symbol_9 : decode cX8_symbol 9 = .ok (.getfield 114, 3) := by decide +kernel
theorem dX8_symbol_12 : decode cX8_symbol 12 = .ok (.if_icmp .lt 5, 3) := by decide +kernel
theorem dX8_symbol_15 : decode cX8_symbol 15 = .ok (.iconst (-1), 1) := by decide +kernel
theorem dX8_symbol_16 : decode cX8_symbol 16 = .ok (.ireturn, 1) := by decide +kernel
theorem dX8_symbol_17 : decode cX8_symbol 17 = .ok (.iload_n 2, 1) := by decide +kernel
theorem dX8_symbol_18 : decode cX8_symbol 18 = .ok (.tableswitch 85 0 3 #[30, 40, 50, 75], 30) := by decide +kernel
theorem dX8_symbol_48 : decode cX8_symbol 48 = .ok (.aload_n 0, 1) := by decide +kernel
theorem dX8_symbol_49 : decode cX8_symbol 49 = .ok (.getfield 20, 3) := by decide +kernel
theorem dX8_symbol_52 : decode cX8_symbol 52 = .ok (.getfield 117, 3) := by decide +kernel
theorem dX8_symbol_55 : decode cX8_symbol 55 = .ok (.iload_n 1, 1) := by decide +kernel
theorem dX8_symbol_56 : decode cX8_symbol 56 = .ok (.iaload, 1) := by decide +kernel
theorem dX8_symbol_57 : decode cX8_symbol 57 = .ok (.ireturn, 1) := by decide +kernel
theorem dX8_symbol_58 : decode cX8_symbol 58 = .ok (.aload_n 0, 1) := by decide +kernel
theorem dX8_symbol_59 : decode cX8_symbol 59 = .ok (.getfield 20, 3) := by decide +kernel
theorem dX8_symbol_62 : decode cX8_symbol 62 = .ok (.getfield 121, 3) := by decide +kernel
theorem dX8_symbol_65 : decode cX8_symbol 65 = .ok (.iload_n 1, 1) := by decide +kernel
theorem dX8_symbol_66 : decode cX8_symbol 66 = .ok (.iaload, 1) := by decide +kernel
theorem dX8_symbol_67 : decode cX8_symbol 67 = .ok (.ireturn, 1) := by decide +kernel
theorem dX8_symbol_68 : decode cX8_symbol 68 = .ok (.aload_n 0, 1) := by decide +kernel
theorem dX8_symbol_69 : decode cX8_symbol 69 = .ok (.getfield 69, 3) := by decide +kernel
theorem dX8_symbol_72 : decode cX8_symbol 72 = .ok (.getfield 124, 3) := by decide +kernel
theorem dX8_symbol_75 : decode cX8_symbol 75 = .ok (.ifCond .eq 8, 3) := by decide +kernel
theorem dX8_symbol_78 : decode cX8_symbol 78 = .ok (.bipush (-2), 2) := by decide +kernel
theorem dX8_symbol_80 : decode cX8_symbol 80 = .ok (.goto 12, 3) := by decide +kernel
theorem dX8_symbol_83 : decode cX8_symbol 83 = .ok (.aload_n 0, 1) := by decide +kernel
theorem dX8_symbol_84 : decode cX8_symbol 84 = .ok (.getfield 69, 3) := by decide +kernel
theorem dX8_symbol_87 : decode cX8_symbol 87 = .ok (.getfield 128, 3) := by decide +kernel
theorem dX8_symbol_90 : decode cX8_symbol 90 = .ok (.iload_n 1, 1) := by decide +kernel
theorem dX8_symbol_91 : decode cX8_symbol 91 = .ok (.iaload, 1) := by decide +kernel
theorem dX8_symbol_92 : decode cX8_symbol 92 = .ok (.ireturn, 1) := by decide +kernel
theorem dX8_symbol_93 : decode cX8_symbol 93 = .ok (.aload_n 0, 1) := by decide +kernel
theorem dX8_symbol_94 : decode cX8_symbol 94 = .ok (.getfield 69, 3) := by decide +kernel
theorem dX8_symbol_97 : decode cX8_symbol 97 = .ok (.getfield 131, 3) := by decide +kernel
theorem dX8_symbol_100 : decode cX8_symbol 100 = .ok (.iload_n 1, 1) := by decide +kernel
theorem dX8_symbol_101 : decode cX8_symbol 101 = .ok (.iaload, 1) := by decide +kernel
theorem dX8_symbol_102 : decode cX8_symbol 102 = .ok (.ireturn, 1) := by decide +kernel
theorem dX8_symbol_103 : decode cX8_symbol 103 = .ok (.aload_n 0, 1) := by decide +kernel
theorem dX8_symbol_104 : decode cX8_symbol 104 = .ok (.iload_n 1, 1) := by decide +kernel
theorem dX8_symbol_105 : decode cX8_symbol 105 = .ok (.iload_n 2, 1) := by decide +kernel
theorem dX8_symbol_106 : decode cX8_symbol 106 = .ok (.invokevirtual 134, 3) := by decide +kernel
theorem dX8_symbol_109 : decode cX8_symbol 109 = .ok (.ireturn, 1) := by decide +kernel
theorem dX8_symbolOf_0 : decode cX8_symbolOf 0 = .ok (.aload_n 0, 1) := by decide +kernel
theorem dX8_symbolOf_1 : decode cX8_symbolOf 1 = .ok (.getfield 20, 3) := by decide +kernel
theorem dX8_symbolOf_4 : decode cX8_symbolOf 4 = .ok (.aload_n 0, 1) := by decide +kernel
theorem dX8_symbolOf_5 : decode cX8_symbolOf 5 = .ok (.getfield 30, 3) := by decide +kernel
theorem dX8_symbolOf_8 : decode cX8_symbolOf 8 = .ok (.getfield 171, 3) := by decide +kernel
theorem dX8_symbolOf_11 : decode cX8_symbolOf 11 = .ok (.iload_n 1, 1) := by decide +kernel
theorem dX8_symbolOf_12 : decode cX8_symbolOf 12 = .ok (.iaload, 1) := by decide +kernel
theorem dX8_symbolOf_13 : decode cX8_symbolOf 13 = .ok (.iconst 0, 1) := by decide +kernel
theorem dX8_symbolOf_14 : decode cX8_symbolOf 14 = .ok (.invokevirtual 141, 3) := by decide +kernel
theorem dX8_symbolOf_17 : decode cX8_symbolOf 17 = .ok (.ireturn, 1) := by decide +kernel
theorem dX8_test_0 : decode cX8_test 0 = .ok (.aload_n 0, 1) := by decide +kernel
theorem dX8_test_1 : decode cX8_test 1 = .ok (.getfield 20, 3) := by decide +kernel
theorem dX8_test_4 : decode cX8_test 4 = .ok (.getfield 108, 3) := by decide +kernel
theorem dX8_test_7 : decode cX8_test 7 = .ok (.ifCond .eq 12, 3) := by decide +kernel
theorem dX8_test_10 : decode cX8_test 10 = .ok (.iload_n 1, 1) := by decide +kernel
theorem dX8_test_11 : decode cX8_test 11 = .ok (.ifCond .lt 8, 3) := by decide +kernel
theorem dX8_test_14 : decode cX8_test 14 = .ok (.iload_n 1, 1) := by decide +kernel
theorem dX8_test_15 : decode cX8_test 15 = .ok (.iconst 1, 1) := by decide +kernel
theorem dX8_test_16 : decode cX8_test 16 = .ok (.if_icmp .le 5, 3) := by decide +kernel
theorem dX8_test_19 : decode cX8_test 19 = .ok (.iconst (-1), 1) := by decide +kernel
theorem dX8_test_20 : decode cX8_test 20 = .ok (.ireturn, 1) := by decide +kernel
theorem dX8_test_21 : decode cX8_test 21 = .ok (.iload_n 1, 1) := by decide +kernel
theorem dX8_test_22 : decode cX8_test 22 = .ok (.iconst 1, 1) := by decide +kernel
theorem dX8_test_23 : decode cX8_test 23 = .ok (.if_icmp .ne 19, 3) := by decide +kernel
theorem dX8_test_26 : decode cX8_test 26 = .ok (.aload_n 0, 1) := by decide +kernel
theorem dX8_test_27 : decode cX8_test 27 = .ok (.getfield 69, 3) := by decide +kernel
theorem dX8_test_30 : decode cX8_test 30 = .ok (.invokevirtual 160, 3) := by decide +kernel
theorem dX8_test_33 : decode cX8_test 33 = .ok (.ifCond .eq 7, 3) := by decide +kernel
theorem dX8_test_36 : decode cX8_test 36 = .ok (.iconst 0, 1) := by decide +kernel
theorem dX8_test_37 : decode cX8_test 37 = .ok (.goto 4, 3) := by decide +kernel
theorem dX8_test_40 : decode cX8_test 40 = .ok (.iconst 1, 1) := by decide +kernel
theorem dX8_test_41 : decode cX8_test 41 = .ok (.ireturn, 1) := by decide +kernel
theorem dX8_test_42 : decode cX8_test 42 = .ok (.aload_n 0, 1) := by decide +kernel
theorem dX8_test_43 : decode cX8_test 43 = .ok (.getfield 69, 3) := by decide +kernel
theorem dX8_test_46 : decode cX8_test 46 = .ok (.getfield 124, 3) := by decide +kernel
theorem dX8_test_49 : decode cX8_test 49 = .ok (.ifCond .eq 6, 3) := by decide +kernel
theorem dX8_test_52 : decode cX8_test 52 = .ok (.bipush (-2), 2) := by decide +kernel
theorem dX8_test_54 : decode cX8_test 54 = .ok (.ireturn, 1) := by decide +kernel
theorem dX8_test_55 : decode cX8_test 55 = .ok (.aload_n 0, 1) := by decide +kernel
theorem dX8_test_56 : decode cX8_test 56 = .ok (.getfield 69, 3) := by decide +kernel
theorem dX8_test_59 : decode cX8_test 59 = .ok (.invokevirtual 164, 3) := by decide +kernel
theorem dX8_test_62 : decode cX8_test 62 = .ok (.ifCond .eq 7, 3) := by decide +kernel
theorem dX8_test_65 : decode cX8_test 65 = .ok (.iconst 0, 1) := by decide +kernel
theorem dX8_test_66 : decode cX8_test 66 = .ok (.goto 4, 3) := by decide +kernel
theorem dX8_test_69 : decode cX8_test 69 = .ok (.iconst 1, 1) := by decide +kernel
theorem dX8_test_70 : decode cX8_test 70 = .ok (.ireturn, 1) := by decide +kernel
theorem dX8_tree_0 : decode cX8_tree 0 = .ok (.aload_n 0, 1) := by decide +kernel
theorem dX8_tree_1 : decode cX8_tree 1 = .ok (.getfield 20, 3) := by decide +kernel
theorem dX8_tree_4 : decode cX8_tree 4 = .ok (.getfield 108, 3) := by decide +kernel
theorem dX8_tree_7 : decode cX8_tree 7 = .ok (.ifCond .ne 6, 3) := by decide +kernel
theorem dX8_tree_10 : decode cX8_tree 10 = .ok (.bipush (-2), 2) := by decide +kernel
theorem dX8_tree_12 : decode cX8_tree 12 = .ok (.ireturn, 1) := by decide +kernel
theorem dX8_tree_13 : decode cX8_tree 13 = .ok (.aload_n 0, 1) := by decide +kernel
theorem dX8_tree_14 : decode cX8_tree 14 = .ok (.getfield 60, 3) := by decide +kernel
theorem dX8_tree_17 : decode cX8_tree 17 = .ok (.aload_n 0, 1) := by decide +kernel
theorem dX8_tree_18 : decode cX8_tree 18 = .ok (.getfield 20, 3) := by decide +kernel
theorem dX8_tree_21 : decode cX8_tree 21 = .ok (.aload_n 0, 1) := by decide +kernel
theorem dX8_tree_22 : decode cX8_tree 22 = .ok (.getfield 34, 3) := by decide +kernel
theorem dX8_tree_25 : decode cX8_tree 25 = .ok (.aload_n 0, 1) := by decide +kernel
theorem dX8_tree_26 : decode cX8_tree 26 = .ok (.getfield 13, 3) := by decide +kernel
theorem dX8_tree_29 : decode cX8_tree 29 = .ok (.invokevirtual 111, 3) := by decide +kernel
theorem dX8_tree_32 : decode cX8_tree 32 = .ok (.istore_n 1, 1) := by decide +kernel
theorem dX8_tree_33 : decode cX8_tree 33 = .ok (.aload_n 0, 1) := by decide +kernel
theorem dX8_tree_34 : decode cX8_tree 34 = .ok (.iconst 0, 1) := by decide +kernel
theorem dX8_tree_35 : decode cX8_tree 35 = .ok (.putfield 13, 3) := by decide +kernel
theorem dX8_tree_38 : decode cX8_tree 38 = .ok (.aload_n 0, 1) := by decide +kernel
theorem dX8_tree_39 : decode cX8_tree 39 = .ok (.iload_n 1, 1) := by decide +kernel
theorem dX8_tree_40 : decode cX8_tree 40 = .ok (.invokevirtual 96, 3) := by decide +kernel
theorem dX8_tree_43 : decode cX8_tree 43 = .ok (.iload_n 1, 1) := by decide +kernel
theorem dX8_tree_44 : decode cX8_tree 44 = .ok (.ifCond .eq 5, 3) := by decide +kernel
theorem dX8_tree_47 : decode cX8_tree 47 = .ok (.iconst (-1), 1) := by decide +kernel
theorem dX8_tree_48 : decode cX8_tree 48 = .ok (.ireturn, 1) := by decide +kernel
theorem dX8_tree_49 : decode cX8_tree 49 = .ok (.aload_n 0, 1) := by decide +kernel
theorem dX8_tree_50 : decode cX8_tree 50 = .ok (.getfield 34, 3) := by decide +kernel
theorem dX8_tree_53 : decode cX8_tree 53 = .ok (.astore_n 2, 1) := by decide +kernel
theorem dX8_tree_54 : decode cX8_tree 54 = .ok (.aload_n 0, 1) := by decide +kernel
theorem dX8_tree_55 : decode cX8_tree 55 = .ok (.aload_n 0, 1) := by decide +kernel
theorem dX8_tree_56 : decode cX8_tree 56 = .ok (.getfield 30, 3) := by decide +kernel
theorem dX8_tree_59 : decode cX8_tree 59 = .ok (.putfield 34, 3) := by decide +kernel
theorem dX8_tree_62 : decode cX8_tree 62 = .ok (.aload_n 0, 1) := by decide +kernel
theorem dX8_tree_63 : decode cX8_tree 63 = .ok (.aload_n 2, 1) := by decide +kernel
theorem dX8_tree_64 : decode cX8_tree 64 = .ok (.putfield 30, 3) := by decide +kernel
theorem dX8_tree_67 : decode cX8_tree 67 = .ok (.aload_n 0, 1) := by decide +kernel
theorem dX8_tree_68 : decode cX8_tree 68 = .ok (.getfield 78, 3) := by decide +kernel
theorem dX8_tree_71 : decode cX8_tree 71 = .ok (.aload_n 0, 1) := by decide +kernel
theorem dX8_tree_72 : decode cX8_tree 72 = .ok (.getfield 20, 3) := by decide +kernel
theorem dX8_tree_75 : decode cX8_tree 75 = .ok (.aload_n 0, 1) := by decide +kernel
theorem dX8_tree_76 : decode cX8_tree 76 = .ok (.getfield 30, 3) := by decide +kernel
theorem dX8_tree_79 : decode cX8_tree 79 = .ok (.invokevirtual 102, 3) := by decide +kernel
theorem dX8_tree_82 : decode cX8_tree 82 = .ok (.aload_n 0, 1) := by decide +kernel
theorem dX8_tree_83 : decode cX8_tree 83 = .ok (.getfield 30, 3) := by decide +kernel
theorem dX8_tree_86 : decode cX8_tree 86 = .ok (.getfield 99, 3) := by decide +kernel
theorem dX8_tree_89 : decode cX8_tree 89 = .ok (.ireturn, 1) := by decide +kernel
theorem dX8_value_0 : decode cX8_value 0 = .ok (.aload_n 0, 1) := by decide +kernel
theorem dX8_value_1 : decode cX8_value 1 = .ok (.iload_n 1, 1) := by decide +kernel
theorem dX8_value_2 : decode cX8_value 2 = .ok (.iload_n 2, 1) := by decide +kernel
theorem dX8_value_3 : decode cX8_value 3 = .ok (.invokevirtual 190, 3) := by decide +kernel
theorem dX8_value_6 : decode cX8_value 6 = .ok (.ifCond .eq 12, 3) := by decide +kernel
theorem dX8_value_9 : decode cX8_value 9 = .ok (.iload_n 3, 1) := by decide +kernel
theorem dX8_value_10 : decode cX8_value 10 = .ok (.ifCond .lt 8, 3) := by decide +kernel
theorem dX8_value_13 : decode cX8_value 13 = .ok (.iload_n 3, 1) := by decide +kernel
theorem dX8_value_14 : decode cX8_value 14 = .ok (.iconst 1, 1) := by decide +kernel
theorem dX8_value_15 : decode cX8_value 15 = .ok (.if_icmp .le 5, 3) := by decide +kernel
theorem dX8_value_18 : decode cX8_value 18 = .ok (.iconst (-1), 1) := by decide +kernel
theorem dX8_value_19 : decode cX8_value 19 = .ok (.ireturn, 1) := by decide +kernel
theorem dX8_value_20 : decode cX8_value 20 = .ok (.iload_n 1, 1) := by decide +kernel
theorem dX8_value_21 : decode cX8_value 21 = .ok (.bipush 6, 2) := by decide +kernel
theorem dX8_value_23 : decode cX8_value 23 = .ok (.imul, 1) := by decide +kernel
theorem dX8_value_24 : decode cX8_value 24 = .ok (.iload_n 2, 1) := by decide +kernel
theorem dX8_value_25 : decode cX8_value 25 = .ok (.iadd, 1) := by decide +kernel
theorem dX8_value_26 : decode cX8_value 26 = .ok (.istore 4, 2) := by decide +kernel
theorem dX8_value_28 : decode cX8_value 28 = .ok (.iload_n 3, 1) := by decide +kernel
theorem dX8_value_29 : decode cX8_value 29 = .ok (.ifCond .ne 15, 3) := by decide +kernel
theorem dX8_value_32 : decode cX8_value 32 = .ok (.aload_n 0, 1) := by decide +kernel
theorem dX8_value_33 : decode cX8_value 33 = .ok (.getfield 78, 3) := by decide +kernel
theorem dX8_value_36 : decode cX8_value 36 = .ok (.iload 4, 2) := by decide +kernel
theorem dX8_value_38 : decode cX8_value 38 = .ok (.invokevirtual 197, 3) := by decide +kernel
theorem dX8_value_41 : decode cX8_value 41 = .ok (.goto 13, 3) := by decide +kernel
theorem dX8_value_44 : decode cX8_value 44 = .ok (.aload_n 0, 1) := by decide +kernel
theorem dX8_value_45 : decode cX8_value 45 = .ok (.getfield 78, 3) := by decide +kernel
theorem dX8_value_48 : decode cX8_value 48 = .ok (.getfield 200, 3) := by decide +kernel
theorem dX8_value_51 : decode cX8_value 51 = .ok (.iload 4, 2) := by decide +kernel
theorem dX8_value_53 : decode cX8_value 53 = .ok (.iaload, 1) := by decide +kernel
theorem dX8_value_54 : decode cX8_value 54 = .ok (.ireturn, 1) := by decide +kernel
