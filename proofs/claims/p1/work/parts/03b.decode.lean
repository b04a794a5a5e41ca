theorem dX8_fault_15 : decode cX8_fault 15 = .ok (.getfield 85, 3) := by decide +kernel
theorem dX8_fault_18 : decode cX8_fault 18 = .ok (.goto 4, 3) := by decide +kernel
theorem dX8_fault_21 : decode cX8_fault 21 = .ok (.iconst (-1), 1) := by decide +kernel
theorem dX8_fault_22 : decode cX8_fault 22 = .ok (.ireturn, 1) := by decide +kernel
theorem dX8_feed_0 : decode cX8_feed 0 = .ok (.aload_n 0, 1) := by decide +kernel
theorem dX8_feed_1 : decode cX8_feed 1 = .ok (.getfield 13, 3) := by decide +kernel
theorem dX8_feed_4 : decode cX8_feed 4 = .ok (.sipush 2980, 3) := by decide +kernel
theorem dX8_feed_7 : decode cX8_feed 7 = .ok (.if_icmp .le 5, 3) := by decide +kernel
theorem dX8_feed_12 : decode cX8_feed 12 = .ok (.aload_n 0, 1) := by decide +kernel
theorem dX8_feed_13 : decode cX8_feed 13 = .ok (.iload_n 1, 1) := by decide +kernel
theorem dX8_feed_14 : decode cX8_feed 14 = .ok (.invokevirtual 88, 3) := by decide +kernel
theorem dX8_feed_17 : decode cX8_feed 17 = .ok (.aload_n 0, 1) := by decide +kernel
theorem dX8_feed_18 : decode cX8_feed 18 = .ok (.iload_n 2, 1) := by decide +kernel
theorem dX8_feed_19 : decode cX8_feed 19 = .ok (.invokevirtual 88, 3) := by decide +kernel
theorem dX8_feed_22 : decode cX8_feed 22 = .ok (.aload_n 0, 1) := by decide +kernel
theorem dX8_feed_23 : decode cX8_feed 23 = .ok (.iload_n 3, 1) := by decide +kernel
theorem dX8_feed_24 : decode cX8_feed 24 = .ok (.invokevirtual 88, 3) := by decide +kernel
theorem dX8_feed_27 : decode cX8_feed 27 = .ok (.aload_n 0, 1) := by decide +kernel
theorem dX8_feed_28 : decode cX8_feed 28 = .ok (.iload 4, 2) := by decide +kernel
theorem dX8_feed_30 : decode cX8_feed 30 = .ok (.invokevirtual 88, 3) := by decide +kernel
theorem dX8_feed_33 : decode cX8_feed 33 = .ok (.aload_n 0, 1) := by decide +kernel
theorem dX8_feed_34 : decode cX8_feed 34 = .ok (.iload 5, 2) := by decide +kernel
theorem dX8_feed_36 : decode cX8_feed 36 = .ok (.invokevirtual 88, 3) := by decide +kernel
theorem dX8_feed_39 : decode cX8_feed 39 = .ok (.aload_n 0, 1) := by decide +kernel
theorem dX8_feed_40 : decode cX8_feed 40 = .ok (.getfield 13, 3) := by decide +kernel
theorem dX8_feed_43 : decode cX8_feed 43 = .ok (.ireturn, 1) := by decide +kernel
theorem dX8_grammar_0 : decode cX8_grammar 0 = .ok (.aload_n 0, 1) := by decide +kernel
theorem dX8_grammar_1 : decode cX8_grammar 1 = .ok (.getfield 51, 3) := by decide +kernel
theorem dX8_grammar_4 : decode cX8_grammar 4 = .ok (.aload_n 0, 1) := by decide +kernel
theorem dX8_grammar_5 : decode cX8_grammar 5 = .ok (.getfield 24, 3) := by decide +kernel
theorem dX8_grammar_8 : decode cX8_grammar 8 = .ok (.aload_n 0, 1) := by decide +kernel
theorem dX8_grammar_9 : decode cX8_grammar 9 = .ok (.getfield 13, 3) := by decide +kernel
theorem dX8_grammar_12 : decode cX8_grammar 12 = .ok (.invokevirtual 92, 3) := by decide +kernel
theorem dX8_grammar_15 : decode cX8_grammar 15 = .ok (.istore_n 1, 1) := by decide +kernel
theorem dX8_grammar_16 : decode cX8_grammar 16 = .ok (.aload_n 0, 1) := by decide +kernel
theorem dX8_grammar_17 : decode cX8_grammar 17 = .ok (.iconst 0, 1) := by decide +kernel
theorem dX8_grammar_18 : decode cX8_grammar 18 = .ok (.putfield 13, 3) := by decide +kernel
theorem dX8_grammar_21 : decode cX8_grammar 21 = .ok (.aload_n 0, 1) := by decide +kernel
theorem dX8_grammar_22 : decode cX8_grammar 22 = .ok (.iload_n 1, 1) := by decide +kernel
theorem dX8_grammar_23 : decode cX8_grammar 23 = .ok (.invokevirtual 96, 3) := by decide +kernel
theorem dX8_grammar_26 : decode cX8_grammar 26 = .ok (.iload_n 1, 1) := by decide +kernel
theorem dX8_grammar_27 : decode cX8_grammar 27 = .ok (.ifCond .eq 5, 3) := by decide +kernel
theorem dX8_grammar_30 : decode cX8_grammar 30 = .ok (.iconst (-1), 1) := by decide +kernel
theorem dX8_grammar_31 : decode cX8_grammar 31 = .ok (.ireturn, 1) := by decide +kernel
theorem dX8_graph_0 : decode cX8_graph 0 = .ok (.iload_n 1, 1) := by decide +kernel
theorem dX8_graph_1 : decode cX8_graph 1 = .ok (.ifCond .lt 41, 3) := by decide +kernel
theorem dX8_graph_4 : decode cX8_graph 4 = .ok (.iload_n 1, 1) := by decide +kernel
theorem dX8_graph_5 : decode cX8_graph 5 = .ok (.aload_n 0, 1) := by decide +kernel
theorem dX8_graph_6 : decode cX8_graph 6 = .ok (.getfield 20, 3) := by decide +kernel
theorem dX8_graph_9 : decode cX8_graph 9 = .ok (.getfield 114, 3) := by decide +kernel
theorem dX8_graph_12 : decode cX8_graph 12 = .ok (.if_icmp .ge 30, 3) := by decide +kernel
theorem dX8_graph_42 : decode cX8_graph 42 = .ok (.iconst (-1), 1) := by decide +kernel
theorem dX8_graph_43 : decode cX8_graph 43 = .ok (.ireturn, 1) := by decide +kernel
theorem dX8_init_0 : decode cX8_init 0 = .ok (.aload_n 0, 1) := by decide +kernel
theorem dX8_init_1 : decode cX8_init 1 = .ok (.invokespecial 3, 3) := by decide +kernel
theorem dX8_init_4 : decode cX8_init 4 = .ok (.aload_n 0, 1) := by decide +kernel
theorem dX8_init_5 : decode cX8_init 5 = .ok (.sipush 3000, 3) := by decide +kernel
theorem dX8_init_8 : decode cX8_init 8 = .ok (.newarray .byte, 2) := by decide +kernel
theorem dX8_init_10 : decode cX8_init 10 = .ok (.putfield 9, 3) := by decide +kernel
theorem dX8_init_13 : decode cX8_init 13 = .ok (.aload_n 0, 1) := by decide +kernel
theorem dX8_init_14 : decode cX8_init 14 = .ok (.iconst 0, 1) := by decide +kernel
theorem dX8_init_15 : decode cX8_init 15 = .ok (.putfield 13, 3) := by decide +kernel
theorem dX8_init_18 : decode cX8_init 18 = .ok (.aload_n 0, 1) := by decide +kernel
theorem dX8_init_19 : decode cX8_init 19 = .ok (.new 17, 3) := by decide +kernel
theorem dX8_init_22 : decode cX8_init 22 = .ok (.dup, 1) := by decide +kernel
theorem dX8_init_23 : decode cX8_init 23 = .ok (.invokespecial 19, 3) := by decide +kernel
theorem dX8_init_26 : decode cX8_init 26 = .ok (.putfield 20, 3) := by decide +kernel
theorem dX8_init_29 : decode cX8_init 29 = .ok (.aload_n 0, 1) := by decide +kernel
theorem dX8_init_30 : decode cX8_init 30 = .ok (.new 17, 3) := by decide +kernel
theorem dX8_init_33 : decode cX8_init 33 = .ok (.dup, 1) := by decide +kernel
theorem dX8_init_34 : decode cX8_init 34 = .ok (.invokespecial 19, 3) := by decide +kernel
theorem dX8_init_37 : decode cX8_init 37 = .ok (.putfield 24, 3) := by decide +kernel
theorem dX8_init_40 : decode cX8_init 40 = .ok (.aload_n 0, 1) := by decide +kernel
theorem dX8_init_41 : decode cX8_init 41 = .ok (.new 27, 3) := by decide +kernel
theorem dX8_init_44 : decode cX8_init 44 = .ok (.dup, 1) := by decide +kernel
theorem dX8_init_45 : decode cX8_init 45 = .ok (.invokespecial 29, 3) := by decide +kernel
theorem dX8_init_48 : decode cX8_init 48 = .ok (.putfield 30, 3) := by decide +kernel
theorem dX8_init_51 : decode cX8_init 51 = .ok (.aload_n 0, 1) := by decide +kernel
theorem dX8_init_52 : decode cX8_init 52 = .ok (.new 27, 3) := by decide +kernel
theorem dX8_init_55 : decode cX8_init 55 = .ok (.dup, 1) := by decide +kernel
theorem dX8_init_56 : decode cX8_init 56 = .ok (.invokespecial 29, 3) := by decide +kernel
theorem dX8_init_59 : decode cX8_init 59 = .ok (.putfield 34, 3) := by decide +kernel
theorem dX8_init_62 : decode cX8_init 62 = .ok (.aload_n 0, 1) := by decide +kernel
theorem dX8_init_63 : decode cX8_init 63 = .ok (.new 37, 3) := by decide +kernel
theorem dX8_init_66 : decode cX8_init 66 = .ok (.dup, 1) := by decide +kernel
theorem dX8_init_67 : decode cX8_init 67 = .ok (.aload_n 0, 1) := by decide +kernel
theorem dX8_init_68 : decode cX8_init 68 = .ok (.getfield 9, 3) := by decide +kernel
theorem dX8_init_71 : decode cX8_init 71 = .ok (.invokespecial 39, 3) := by decide +kernel
theorem dX8_init_74 : decode cX8_init 74 = .ok (.putfield 42, 3) := by decide +kernel
theorem dX8_init_77 : decode cX8_init 77 = .ok (.aload_n 0, 1) := by decide +kernel
theorem dX8_init_78 : decode cX8_init 78 = .ok (.new 46, 3) := by decide +kernel
theorem dX8_init_81 : decode cX8_init 81 = .ok (.dup, 1) := by decide +kernel
theorem dX8_init_82 : decode cX8_init 82 = .ok (.aload_n 0, 1) := by decide +kernel
theorem dX8_init_83 : decode cX8_init 83 = .ok (.getfield 42, 3) := by decide +kernel
theorem dX8_init_86 : decode cX8_init 86 = .ok (.aload_n 0, 1) := by decide +kernel
theorem dX8_init_87 : decode cX8_init 87 = .ok (.getfield 24, 3) := by decide +kernel
theorem dX8_init_90 : decode cX8_init 90 = .ok (.invokespecial 48, 3) := by decide +kernel
theorem dX8_init_93 : decode cX8_init 93 = .ok (.putfield 51, 3) := by decide +kernel
theorem dX8_init_96 : decode cX8_init 96 = .ok (.aload_n 0, 1) := by decide +kernel
theorem dX8_init_97 : decode cX8_init 97 = .ok (.new 55, 3) := by decide +kernel
theorem dX8_init_100 : decode cX8_init 100 = .ok (.dup, 1) := by decide +kernel
theorem dX8_init_101 : decode cX8_init 101 = .ok (.aload_n 0, 1) := by decide +kernel
theorem dX8_init_102 : decode cX8_init 102 = .ok (.getfield 42, 3) := by decide +kernel
theorem dX8_init_105 : decode cX8_init 105 = .ok (.aload_n 0, 1) := by decide +kernel
theorem dX8_init_106 : decode cX8_init 106 = .ok (.getfield 20, 3) := by decide +kernel
theorem dX8_init_109 : decode cX8_init 109 = .ok (.aload_n 0, 1) := by decide +kernel
theorem dX8_init_110 : decode cX8_init 110 = .ok (.getfield 34, 3) := by decide +kernel
theorem dX8_init_113 : decode cX8_init 113 = .ok (.invokespecial 57, 3) := by decide +kernel
theorem dX8_init_116 : decode cX8_init 116 = .ok (.putfield 60, 3) := by decide +kernel
theorem dX8_init_119 : decode cX8_init 119 = .ok (.aload_n 0, 1) := by decide +kernel
theorem dX8_init_120 : decode cX8_init 120 = .ok (.new 64, 3) := by decide +kernel
theorem dX8_init_123 : decode cX8_init 123 = .ok (.dup, 1) := by decide +kernel
theorem dX8_init_124 : decode cX8_init 124 = .ok (.aload_n 0, 1) := by decide +kernel
theorem dX8_init_125 : decode cX8_init 125 = .ok (.getfield 20, 3) := by decide +kernel
theorem dX8_init_128 : decode cX8_init 128 = .ok (.invokespecial 66, 3) := by decide +kernel
theorem dX8_init_131 : decode cX8_init 131 = .ok (.putfield 69, 3) := by decide +kernel
theorem dX8_init_134 : decode cX8_init 134 = .ok (.aload_n 0, 1) := by decide +kernel
theorem dX8_init_135 : decode cX8_init 135 = .ok (.new 73, 3) := by decide +kernel
theorem dX8_init_138 : decode cX8_init 138 = .ok (.dup, 1) := by decide +kernel
theorem dX8_init_139 : decode cX8_init 139 = .ok (.aload_n 0, 1) := by decide +kernel
theorem dX8_init_140 : decode cX8_init 140 = .ok (.getfield 20, 3) := by decide +kernel
theorem dX8_init_143 : decode cX8_init 143 = .ok (.aload_n 0, 1) := by decide +kernel
theorem dX8_init_144 : decode cX8_init 144 = .ok (.getfield 30, 3) := by decide +kernel
theorem dX8_init_147 : decode cX8_init 147 = .ok (.invokespecial 75, 3) := by decide +kernel
theorem dX8_init_150 : decode cX8_init 150 = .ok (.putfield 78, 3) := by decide +kernel
theorem dX8_init_153 : decode cX8_init 153 = .ok (.aload_n 0, 1) := by decide +kernel
theorem dX8_init_154 : decode cX8_init 154 = .ok (.iconst (-1), 1) := by decide +kernel
theorem dX8_init_155 : decode cX8_init 155 = .ok (.putfield 82, 3) := by decide +kernel
theorem dX8_init_158 : decode cX8_init 158 = .ok (.aload_n 0, 1) := by decide +kernel
theorem dX8_init_159 : decode cX8_init 159 = .ok (.iconst (-1), 1) := by decide +kernel
theorem dX8_init_160 : decode cX8_init 160 = .ok (.putfield 85, 3) := by decide +kernel
theorem dX8_init_163 : decode cX8_init 163 = .ok (.return_, 1) := by decide +kernel
theorem dX8_isItem_0 : decode cX8_isItem 0 = .ok (.aload_n 0, 1) := by decide +kernel
theorem dX8_isItem_1 : decode cX8_isItem 1 = .ok (.iload_n 1, 1) := by decide +kernel
theorem dX8_isItem_2 : decode cX8_isItem 2 = .ok (.invokevirtual 167, 3) := by decide +kernel
theorem dX8_isItem_5 : decode cX8_isItem 5 = .ok (.ifCond .eq 28, 3) := by decide +kernel
theorem dX8_isItem_33 : decode cX8_isItem 33 = .ok (.iconst 0, 1) := by decide +kernel
theorem dX8_isItem_34 : decode cX8_isItem 34 = .ok (.ireturn, 1) := by decide +kernel
theorem dX8_isNode_0 : decode cX8_isNode 0 = .ok (.iload_n 1, 1) := by decide +kernel
theorem dX8_isNode_1 : decode cX8_isNode 1 = .ok (.ifCond .lt 18, 3) := by decide +kernel
theorem dX8_isNode_4 : decode cX8_isNode 4 = .ok (.iload_n 1, 1) := by decide +kernel
theorem dX8_isNode_5 : decode cX8_isNode 5 = .ok (.aload_n 0, 1) := by decide +kernel
theorem dX8_isNode_6 : decode cX8_isNode 6 = .ok (.getfield 30, 3) := by decide +kernel
theorem dX8_isNode_9 : decode cX8_isNode 9 = .ok (.getfield 99, 3) := by decide +kernel
theorem dX8_isNode_12 : decode cX8_isNode 12 = .ok (.if_icmp .ge 7, 3) := by decide +kernel
theorem dX8_isNode_19 : decode cX8_isNode 19 = .ok (.iconst 0, 1) := by decide +kernel
theorem dX8_isNode_20 : decode cX8_isNode 20 = .ok (.ireturn, 1) := by decide +kernel
theorem dX8_keepFault_0 : decode cX8_keepFault 0 = .ok (.aload_n 0, 1) := by decide +kernel
theorem dX8_keepFault_1 : decode cX8_keepFault 1 = .ok (.iload_n 1, 1) := by decide +kernel
theorem dX8_keepFault_2 : decode cX8_keepFault 2 = .ok (.putfield 82, 3) := by decide +kernel
theorem dX8_keepFault_5 : decode cX8_keepFault 5 = .ok (.aload_n 0, 1) := by decide +kernel
theorem dX8_keepFault_6 : decode cX8_keepFault 6 = .ok (.iload_n 1, 1) := by decide +kernel
theorem dX8_keepFault_7 : decode cX8_keepFault 7 = .ok (.ifCond .ne 7, 3) := by decide +kernel
theorem dX8_keepFault_14 : decode cX8_keepFault 14 = .ok (.aload_n 0, 1) := by decide +kernel
theorem dX8_keepFault_15 : decode cX8_keepFault 15 = .ok (.getfield 42, 3) := by decide +kernel
theorem dX8_keepFault_18 : decode cX8_keepFault 18 = .ok (.getfield 209, 3) := by decide +kernel
theorem dX8_keepFault_21 : decode cX8_keepFault 21 = .ok (.putfield 85, 3) := by decide +kernel
theorem dX8_keepFault_24 : decode cX8_keepFault 24 = .ok (.return_, 1) := by decide +kernel
theorem dX8_node_0 : decode cX8_node 0 = .ok (.aload_n 0, 1) := by decide +kernel
theorem dX8_node_1 : decode cX8_node 1 = .ok (.iload_n 1, 1) := by decide +kernel
theorem dX8_node_2 : decode cX8_node 2 = .ok (.invokevirtual 167, 3) := by decide +kernel
theorem dX8_node_5 : decode cX8_node 5 = .ok (.ifCond .ne 5, 3) := by decide +kernel
theorem dX8_node_8 : decode cX8_node 8 = .ok (.iconst (-1), 1) := by decide +kernel
theorem dX8_node_9 : decode cX8_node 9 = .ok (.ireturn, 1) := by decide +kernel
theorem dX8_order_0 : decode cX8_order 0 = .ok (.iload_n 1, 1) := by decide +kernel
theorem dX8_order_1 : decode cX8_order 1 = .ok (.ifCond .lt 14, 3) := by decide +kernel
theorem dX8_order_4 : decode cX8_order 4 = .ok (.iload_n 1, 1) := by decide +kernel
theorem dX8_order_5 : decode cX8_order 5 = .ok (.aload_n 0, 1) := by decide +kernel
theorem dX8_order_6 : decode cX8_order 6 = .ok (.getfield 78, 3) := by decide +kernel
theorem dX8_order_9 : decode cX8_order 9 = .ok (.getfield 203, 3) := by decide +kernel
theorem dX8_order_12 : decode cX8_order 12 = .ok (.if_icmp .lt 7, 3) := by decide +kernel
theorem dX8_order_15 : decode cX8_order 15 = .ok (.iconst (-1), 1) := by decide +kernel
theorem dX8_order_16 : decode cX8_order 16 = .ok (.goto 12, 3) := by decide +kernel
theorem dX8_order_28 : decode cX8_order 28 = .ok (.ireturn, 1) := by decide +kernel
theorem dX8_own_0 : decode cX8_own 0 = .ok (.aload_n 0, 1) := by decide +kernel
theorem dX8_own_1 : decode cX8_own 1 = .ok (.iload_n 1, 1) := by decide +kernel
theorem dX8_own_2 : decode cX8_own 2 = .ok (.invokevirtual 167, 3) := by decide +kernel
theorem dX8_own_5 : decode cX8_own 5 = .ok (.ifCond .ne 5, 3) := by decide +kernel
theorem dX8_own_8 : decode cX8_own 8 = .ok (.iconst 0, 1) := by decide +kernel
theorem dX8_own_9 : decode cX8_own 9 = .ok (.ireturn, 1) := by decide +kernel
theorem dX8_putWord_0 : decode cX8_putWord 0 = .ok (.bipush 24, 2) := by decide +kernel
theorem dX8_putWord_2 : decode cX8_putWord 2 = .ok (.istore_n 2, 1) := by decide +kernel
theorem dX8_putWord_3 : decode cX8_putWord 3 = .ok (.iload_n 2, 1) := by decide +kernel
theorem dX8_putWord_4 : decode cX8_putWord 4 = .ok (.ifCond .lt 42, 3) := by decide +kernel
theorem dX8_putWord_7 : decode cX8_putWord 7 = .ok (.aload_n 0, 1) := by decide +kernel
theorem dX8_putWord_8 : decode cX8_putWord 8 = .ok (.getfield 13, 3) := by decide +kernel
theorem dX8_putWord_11 : decode cX8_putWord 11 = .ok (.sipush 3000, 3) := by decide +kernel
theorem dX8_putWord_14 : decode cX8_putWord 14 = .ok (.if_icmp .ge 32, 3) := by decide +kernel
theorem dX8_putWord_17 : decode cX8_putWord 17 = .ok (.aload_n 0, 1) := by decide +kernel
theorem dX8_putWord_18 : decode cX8_putWord 18 = .ok (.getfield 9, 3) := by decide +kernel
theorem dX8_putWord_21 : decode cX8_putWord 21 = .ok (.aload_n 0, 1) := by decide +kernel
theorem dX8_putWord_22 : decode cX8_putWord 22 = .ok (.getfield 13, 3) := by decide +kernel
theorem dX8_putWord_25 : decode cX8_putWord 25 = .ok (.iload_n 1, 1) := by decide +kernel
theorem dX8_putWord_26 : decode cX8_putWord 26 = .ok (.iload_n 2, 1) := by decide +kernel
theorem dX8_putWord_27 : decode cX8_putWord 27 = .ok (.ishr, 1) := by decide +kernel
theorem dX8_putWord_28 : decode cX8_putWord 28 = .ok (.i2b, 1) := by decide +kernel
theorem dX8_putWord_29 : decode cX8_putWord 29 = .ok (.bastore, 1) := by decide +kernel
theorem dX8_putWord_30 : decode cX8_putWord 30 = .ok (.aload_n 0, 1) := by decide +kernel
theorem dX8_putWord_31 : decode cX8_putWord 31 = .ok (.dup, 1) := by decide +kernel
theorem dX8_putWord_32 : decode cX8_putWord 32 = .ok (.getfield 13, 3) := by decide +kernel
theorem dX8_putWord_35 : decode cX8_putWord 35 = .ok (.iconst 1, 1) := by decide +kernel
theorem dX8_putWord_36 : decode cX8_putWord 36 = .ok (.iadd, 1) := by decide +kernel
theorem dX8_putWord_37 : decode cX8_putWord 37 = .ok (.putfield 13, 3) := by decide +kernel
theorem dX8_putWord_40 : decode cX8_putWord 40 = .ok (.iinc 2 (-8), 3) := by decide +kernel
theorem dX8_putWord_43 : decode cX8_putWord 43 = .ok (.goto (-40), 3) := by decide +kernel
theorem dX8_putWord_46 : decode cX8_putWord 46 = .ok (.return_, 1) := by decide +kernel
theorem dX8_rule_0 : decode cX8_rule 0 = .ok (.iload_n 1, 1) := by decide +kernel
theorem dX8_rule_1 : decode cX8_rule 1 = .ok (.ifCond .lt 14, 3) := by decide +kernel
theorem dX8_rule_4 : decode cX8_rule 4 = .ok (.iload_n 1, 1) := by decide +kernel
theorem dX8_rule_5 : decode cX8_rule 5 = .ok (.aload_n 0, 1) := by decide +kernel
theorem dX8_rule_6 : decode cX8_rule 6 = .ok (.getfield 20, 3) := by decide +kernel
theorem dX8_rule_9 : decode cX8_rule 9 = .ok (.getfield 108, 3) := by decide +kernel
theorem dX8_rule_12 : decode cX8_rule 12 = .ok (.if_icmp .lt 5, 3) := by decide +kernel
theorem dX8_rule_15 : decode cX8_rule 15 = .ok (.iconst (-1), 1) := by decide +kernel
theorem dX8_rule_16 : decode cX8_rule 16 = .ok (.ireturn, 1) := by decide +kernel
theorem dX8_symbol_0 : decode cX8_symbol 0 = .ok (.iload_n 1, 1) := by decide +kernel
theorem dX8_symbol_1 : decode cX8_symbol 1 = .ok (.ifCond .lt 14, 3) := by decide +kernel
theorem dX8_symbol_4 : decode cX8_symbol 4 = .ok (.iload_n 1, 1) := by decide +kernel
theorem dX8_symbol_5 : decode cX8_symbol 5 = .ok (.aload_n 0, 1) := by decide +kernel
theorem dX8_symbol_6 : decode cX8_symbol 6 = .ok (.getfield 20, 3) := by decide +kernel
theorem dX8_symbol_9 : decode cX8_symbol 9 = .ok (.getfield 114, 3) := by decide +kernel
theorem dX8_symbol_12 : decode cX8_symbol 12 = .ok (.if_icmp .lt 5, 3) := by decide +kernel
theorem dX8_symbol_15 : decode cX8_symbol 15 = .ok (.iconst (-1), 1) := by decide +kernel
theorem dX8_symbol_16 : decode cX8_symbol 16 = .ok (.ireturn, 1) := by decide +kernel
theorem dX8_test_0 : decode cX8_test 0 = .ok (.aload_n 0, 1) := by decide +kernel
theorem dX8_test_1 : decode cX8_test 1 = .ok (.getfield 20, 3) := by decide +kernel
theorem dX8_test_4 : decode cX8_test 4 = .ok (.getfield 108, 3) := by decide +kernel
theorem dX8_test_7 : decode cX8_test 7 = .ok (.ifCond .eq 12, 3) := by decide +kernel
theorem dX8_test_19 : decode cX8_test 19 = .ok (.iconst (-1), 1) := by decide +kernel
theorem dX8_test_20 : decode cX8_test 20 = .ok (.ireturn, 1) := by decide +kernel
theorem dX8_tree_0 : decode cX8_tree 0 = .ok (.aload_n 0, 1) := by decide +kernel
theorem dX8_tree_1 : decode cX8_tree 1 = .ok (.getfield 20, 3) := by decide +kernel
theorem dX8_tree_4 : decode cX8_tree 4 = .ok (.getfield 108, 3) := by decide +kernel
theorem dX8_tree_7 : decode cX8_tree 7 = .ok (.ifCond .ne 6, 3) := by decide +kernel
theorem dX8_tree_10 : decode cX8_tree 10 = .ok (.bipush (-2), 2) := by decide +kernel
theorem dX8_tree_12 : decode cX8_tree 12 = .ok (.ireturn, 1) := by decide +kernel
theorem dX8_value_0 : decode cX8_value 0 = .ok (.aload_n 0, 1) := by decide +kernel
theorem dX8_value_1 : decode cX8_value 1 = .ok (.iload_n 1, 1) := by decide +kernel
theorem dX8_value_2 : decode cX8_value 2 = .ok (.iload_n 2, 1) := by decide +kernel
theorem dX8_value_3 : decode cX8_value 3 = .ok (.invokevirtual 190, 3) := by decide +kernel
theorem dX8_value_6 : decode cX8_value 6 = .ok (.ifCond .eq 12, 3) := by decide +kernel
theorem dX8_value_18 : decode cX8_value 18 = .ok (.iconst (-1), 1) := by decide +kernel
theorem dX8_value_19 : decode cX8_value 19 = .ok (.ireturn, 1) := by decide +kernel
theorem dX9_about_0 : decode cX9_about 0 = .ok (.iload_n 1, 1) := by decide +kernel
theorem dX9_about_1 : decode cX9_about 1 = .ok (.tableswitch 60 0 4 #[35, 40, 45, 50, 55], 35) := by decide +kernel
theorem dX9_about_36 : decode cX9_about 36 = .ok (.aload_n 0, 1) := by decide +kernel
theorem dX9_about_37 : decode cX9_about 37 = .ok (.getfield 173, 3) := by decide +kernel
theorem dX9_about_40 : decode cX9_about 40 = .ok (.ireturn, 1) := by decide +kernel
theorem dX9_about_41 : decode cX9_about 41 = .ok (.aload_n 0, 1) := by decide +kernel
theorem dX9_about_42 : decode cX9_about 42 = .ok (.getfield 248, 3) := by decide +kernel
theorem dX9_about_45 : decode cX9_about 45 = .ok (.ireturn, 1) := by decide +kernel
theorem dX9_about_46 : decode cX9_about 46 = .ok (.aload_n 0, 1) := by decide +kernel
theorem dX9_about_47 : decode cX9_about 47 = .ok (.getfield 272, 3) := by decide +kernel
theorem dX9_about_50 : decode cX9_about 50 = .ok (.ireturn, 1) := by decide +kernel
theorem dX9_about_51 : decode cX9_about 51 = .ok (.aload_n 0, 1) := by decide +kernel
theorem dX9_about_52 : decode cX9_about 52 = .ok (.getfield 396, 3) := by decide +kernel
theorem dX9_about_55 : decode cX9_about 55 = .ok (.ireturn, 1) := by decide +kernel
theorem dX9_about_56 : decode cX9_about 56 = .ok (.aload_n 0, 1) := by decide +kernel
theorem dX9_about_57 : decode cX9_about 57 = .ok (.getfield 399, 3) := by decide +kernel
theorem dX9_about_60 : decode cX9_about 60 = .ok (.ireturn, 1) := by decide +kernel
theorem dX9_about_61 : decode cX9_about 61 = .ok (.iconst (-1), 1) := by decide +kernel
theorem dX9_about_62 : decode cX9_about 62 = .ok (.ireturn, 1) := by decide +kernel
theorem dX9_blanks_0 : decode cX9_blanks 0 = .ok (.aload_n 0, 1) := by decide +kernel
theorem dX9_blanks_1 : decode cX9_blanks 1 = .ok (.getfield 197, 3) := by decide +kernel
theorem dX9_blanks_4 : decode cX9_blanks 4 = .ok (.aload_n 0, 1) := by decide +kernel
theorem dX9_blanks_5 : decode cX9_blanks 5 = .ok (.getfield 200, 3) := by decide +kernel
theorem dX9_blanks_8 : decode cX9_blanks 8 = .ok (.if_icmp .ge 44, 3) := by decide +kernel
theorem dX9_blanks_52 : decode cX9_blanks 52 = .ok (.return_, 1) := by decide +kernel
theorem dX9_demand_0 : decode cX9_demand 0 = .ok (.aload_n 0, 1) := by decide +kernel
theorem dX9_demand_1 : decode cX9_demand 1 = .ok (.iload_n 1, 1) := by decide +kernel
theorem dX9_demand_2 : decode cX9_demand 2 = .ok (.iload_n 2, 1) := by decide +kernel
theorem dX9_demand_3 : decode cX9_demand 3 = .ok (.invokevirtual 473, 3) := by decide +kernel
theorem dX9_demand_6 : decode cX9_demand 6 = .ok (.ifCond .ne 5, 3) := by decide +kernel
theorem dX9_demand_9 : decode cX9_demand 9 = .ok (.iconst (-1), 1) := by decide +kernel
theorem dX9_demand_10 : decode cX9_demand 10 = .ok (.ireturn, 1) := by decide +kernel
theorem dX9_end_0 : decode cX9_end 0 = .ok (.iload_n 1, 1) := by decide +kernel
theorem dX9_end_1 : decode cX9_end 1 = .ok (.iconst 0, 1) := by decide +kernel
theorem dX9_end_2 : decode cX9_end 2 = .ok (.aload_n 0, 1) := by decide +kernel
theorem dX9_end_3 : decode cX9_end 3 = .ok (.getfield 173, 3) := by decide +kernel
theorem dX9_end_6 : decode cX9_end 6 = .ok (.invokestatic 180, 3) := by decide +kernel
theorem dX9_end_9 : decode cX9_end 9 = .ok (.ifCond .ne 5, 3) := by decide +kernel
theorem dX9_end_12 : decode cX9_end 12 = .ok (.iconst (-1), 1) := by decide +kernel
theorem dX9_end_13 : decode cX9_end 13 = .ok (.ireturn, 1) := by decide +kernel
theorem dX9_end_14 : decode cX9_end 14 = .ok (.aload_n 0, 1) := by decide +kernel
theorem dX9_end_15 : decode cX9_end 15 = .ok (.iload_n 1, 1) := by decide +kernel
theorem dX9_end_16 : decode cX9_end 16 = .ok (.putfield 173, 3) := by decide +kernel
theorem dX9_end_19 : decode cX9_end 19 = .ok (.iload_n 1, 1) := by decide +kernel
theorem dX9_end_20 : decode cX9_end 20 = .ok (.ireturn, 1) := by decide +kernel
theorem dX9_fails_0 : decode cX9_fails 0 = .ok (.aload_n 0, 1) := by decide +kernel
theorem dX9_fails_1 : decode cX9_fails 1 = .ok (.getfield 184, 3) := by decide +kernel
theorem dX9_fails_4 : decode cX9_fails 4 = .ok (.ifCond .ne 13, 3) := by decide +kernel
theorem dX9_fails_7 : decode cX9_fails 7 = .ok (.aload_n 0, 1) := by decide +kernel
theorem dX9_fails_8 : decode cX9_fails 8 = .ok (.iload_n 1, 1) := by decide +kernel
theorem dX9_fails_9 : decode cX9_fails 9 = .ok (.putfield 184, 3) := by decide +kernel
theorem dX9_fails_12 : decode cX9_fails 12 = .ok (.aload_n 0, 1) := by decide +kernel
theorem dX9_fails_13 : decode cX9_fails 13 = .ok (.iload_n 2, 1) := by decide +kernel
theorem dX9_fails_14 : decode cX9_fails 14 = .ok (.putfield 187, 3) := by decide +kernel
theorem dX9_fails_17 : decode cX9_fails 17 = .ok (.return_, 1) := by decide +kernel
theorem dX9_fault_0 : decode cX9_fault 0 = .ok (.iload_n 1, 1) := by decide +kernel
theorem dX9_fault_1 : decode cX9_fault 1 = .ok (.ifCond .ne 10, 3) := by decide +kernel
theorem dX9_fault_4 : decode cX9_fault 4 = .ok (.aload_n 0, 1) := by decide +kernel
theorem dX9_fault_5 : decode cX9_fault 5 = .ok (.getfield 19, 3) := by decide +kernel
theorem dX9_fault_8 : decode cX9_fault 8 = .ok (.goto 16, 3) := by decide +kernel
theorem dX9_fault_11 : decode cX9_fault 11 = .ok (.iload_n 1, 1) := by decide +kernel
theorem dX9_fault_12 : decode cX9_fault 12 = .ok (.iconst 1, 1) := by decide +kernel
theorem dX9_fault_13 : decode cX9_fault 13 = .ok (.if_icmp .ne 10, 3) := by decide +kernel
theorem dX9_fault_16 : decode cX9_fault 16 = .ok (.aload_n 0, 1) := by decide +kernel
theorem dX9_fault_17 : decode cX9_fault 17 = .ok (.getfield 23, 3) := by decide +kernel
theorem dX9_fault_20 : decode cX9_fault 20 = .ok (.goto 4, 3) := by decide +kernel
theorem dX9_fault_23 : decode cX9_fault 23 = .ok (.iconst (-1), 1) := by decide +kernel
theorem dX9_fault_24 : decode cX9_fault 24 = .ok (.ireturn, 1) := by decide +kernel
theorem dX9_feed_0 : decode cX9_feed 0 = .ok (.aload_n 0, 1) := by decide +kernel
theorem dX9_feed_1 : decode cX9_feed 1 = .ok (.getfield 173, 3) := by decide +kernel
theorem dX9_feed_4 : decode cX9_feed 4 = .ok (.bipush 20, 2) := by decide +kernel
theorem dX9_feed_6 : decode cX9_feed 6 = .ok (.iadd, 1) := by decide +kernel
theorem dX9_feed_7 : decode cX9_feed 7 = .ok (.sipush 3000, 3) := by decide +kernel
theorem dX9_feed_10 : decode cX9_feed 10 = .ok (.if_icmp .le 5, 3) := by decide +kernel
theorem dX9_feed_15 : decode cX9_feed 15 = .ok (.aload_n 0, 1) := by decide +kernel
theorem dX9_feed_16 : decode cX9_feed 16 = .ok (.iload_n 1, 1) := by decide +kernel
theorem dX9_feed_17 : decode cX9_feed 17 = .ok (.invokevirtual 176, 3) := by decide +kernel
theorem dX9_feed_20 : decode cX9_feed 20 = .ok (.aload_n 0, 1) := by decide +kernel
theorem dX9_feed_21 : decode cX9_feed 21 = .ok (.iload_n 2, 1) := by decide +kernel
theorem dX9_feed_22 : decode cX9_feed 22 = .ok (.invokevirtual 176, 3) := by decide +kernel
theorem dX9_feed_25 : decode cX9_feed 25 = .ok (.aload_n 0, 1) := by decide +kernel
theorem dX9_feed_26 : decode cX9_feed 26 = .ok (.iload_n 3, 1) := by decide +kernel
theorem dX9_feed_27 : decode cX9_feed 27 = .ok (.invokevirtual 176, 3) := by decide +kernel
theorem dX9_feed_30 : decode cX9_feed 30 = .ok (.aload_n 0, 1) := by decide +kernel
theorem dX9_feed_31 : decode cX9_feed 31 = .ok (.iload 4, 2) := by decide +kernel
theorem dX9_feed_33 : decode cX9_feed 33 = .ok (.invokevirtual 176, 3) := by decide +kernel
theorem dX9_feed_36 : decode cX9_feed 36 = .ok (.aload_n 0, 1) := by decide +kernel
theorem dX9_feed_37 : decode cX9_feed 37 = .ok (.iload 5, 2) := by decide +kernel
theorem dX9_feed_39 : decode cX9_feed 39 = .ok (.invokevirtual 176, 3) := by decide +kernel
theorem dX9_feed_42 : decode cX9_feed 42 = .ok (.aload_n 0, 1) := by decide +kernel
theorem dX9_feed_43 : decode cX9_feed 43 = .ok (.getfield 173, 3) := by decide +kernel
theorem dX9_feed_46 : decode cX9_feed 46 = .ok (.ireturn, 1) := by decide +kernel
theorem dX9_grammar_0 : decode cX9_grammar 0 = .ok (.aload_n 0, 1) := by decide +kernel
theorem dX9_grammar_1 : decode cX9_grammar 1 = .ok (.invokevirtual 383, 3) := by decide +kernel
theorem dX9_grammar_4 : decode cX9_grammar 4 = .ok (.aload_n 0, 1) := by decide +kernel
theorem dX9_grammar_5 : decode cX9_grammar 5 = .ok (.invokevirtual 386, 3) := by decide +kernel
theorem dX9_grammar_8 : decode cX9_grammar 8 = .ok (.aload_n 0, 1) := by decide +kernel
theorem dX9_grammar_9 : decode cX9_grammar 9 = .ok (.aload_n 0, 1) := by decide +kernel
theorem dX9_grammar_10 : decode cX9_grammar 10 = .ok (.getfield 184, 3) := by decide +kernel
theorem dX9_grammar_13 : decode cX9_grammar 13 = .ok (.putfield 19, 3) := by decide +kernel
theorem dX9_grammar_16 : decode cX9_grammar 16 = .ok (.aload_n 0, 1) := by decide +kernel
theorem dX9_grammar_17 : decode cX9_grammar 17 = .ok (.aload_n 0, 1) := by decide +kernel
theorem dX9_grammar_18 : decode cX9_grammar 18 = .ok (.getfield 187, 3) := by decide +kernel
theorem dX9_grammar_21 : decode cX9_grammar 21 = .ok (.putfield 23, 3) := by decide +kernel
theorem dX9_grammar_24 : decode cX9_grammar 24 = .ok (.aload_n 0, 1) := by decide +kernel
theorem dX9_grammar_25 : decode cX9_grammar 25 = .ok (.getfield 184, 3) := by decide +kernel
theorem dX9_grammar_28 : decode cX9_grammar 28 = .ok (.ifCond .le 73, 3) := by decide +kernel
theorem dX9_grammar_31 : decode cX9_grammar 31 = .ok (.aload_n 0, 1) := by decide +kernel
theorem dX9_grammar_32 : decode cX9_grammar 32 = .ok (.aload_n 0, 1) := by decide +kernel
theorem dX9_grammar_33 : decode cX9_grammar 33 = .ok (.getfield 389, 3) := by decide +kernel
theorem dX9_grammar_36 : decode cX9_grammar 36 = .ok (.ifCond .eq 10, 3) := by decide +kernel
theorem dX9_grammar_46 : decode cX9_grammar 46 = .ok (.iconst 0, 1) := by decide +kernel
theorem dX9_grammar_47 : decode cX9_grammar 47 = .ok (.putfield 200, 3) := by decide +kernel
theorem dX9_grammar_50 : decode cX9_grammar 50 = .ok (.iconst 0, 1) := by decide +kernel
theorem dX9_grammar_51 : decode cX9_grammar 51 = .ok (.istore_n 1, 1) := by decide +kernel
theorem dX9_grammar_52 : decode cX9_grammar 52 = .ok (.iload_n 1, 1) := by decide +kernel
theorem dX9_grammar_53 : decode cX9_grammar 53 = .ok (.aload_n 0, 1) := by decide +kernel
theorem dX9_grammar_54 : decode cX9_grammar 54 = .ok (.getfield 200, 3) := by decide +kernel
theorem dX9_grammar_57 : decode cX9_grammar 57 = .ok (.if_icmp .ge 21, 3) := by decide +kernel
theorem dX9_grammar_78 : decode cX9_grammar 78 = .ok (.aload_n 0, 1) := by decide +kernel
theorem dX9_grammar_79 : decode cX9_grammar 79 = .ok (.iconst 0, 1) := by decide +kernel
theorem dX9_grammar_80 : decode cX9_grammar 80 = .ok (.putfield 248, 3) := by decide +kernel
theorem dX9_grammar_83 : decode cX9_grammar 83 = .ok (.aload_n 0, 1) := by decide +kernel
theorem dX9_grammar_84 : decode cX9_grammar 84 = .ok (.iconst 0, 1) := by decide +kernel
theorem dX9_grammar_85 : decode cX9_grammar 85 = .ok (.putfield 272, 3) := by decide +kernel
theorem dX9_grammar_88 : decode cX9_grammar 88 = .ok (.aload_n 0, 1) := by decide +kernel
theorem dX9_grammar_89 : decode cX9_grammar 89 = .ok (.getfield 389, 3) := by decide +kernel
theorem dX9_grammar_92 : decode cX9_grammar 92 = .ok (.ifCond .eq 7, 3) := by decide +kernel
theorem dX9_grammar_99 : decode cX9_grammar 99 = .ok (.iconst (-1), 1) := by decide +kernel
theorem dX9_grammar_100 : decode cX9_grammar 100 = .ok (.ireturn, 1) := by decide +kernel
theorem dX9_graph_0 : decode cX9_graph 0 = .ok (.iload_n 1, 1) := by decide +kernel
theorem dX9_graph_1 : decode cX9_graph 1 = .ok (.iconst 0, 1) := by decide +kernel
theorem dX9_graph_2 : decode cX9_graph 2 = .ok (.aload_n 0, 1) := by decide +kernel
theorem dX9_graph_3 : decode cX9_graph 3 = .ok (.getfield 248, 3) := by decide +kernel
theorem dX9_graph_6 : decode cX9_graph 6 = .ok (.iconst 1, 1) := by decide +kernel
theorem dX9_graph_7 : decode cX9_graph 7 = .ok (.isub, 1) := by decide +kernel
theorem dX9_graph_8 : decode cX9_graph 8 = .ok (.invokestatic 180, 3) := by decide +kernel
theorem dX9_graph_11 : decode cX9_graph 11 = .ok (.ifCond .eq 23, 3) := by decide +kernel
theorem dX9_graph_34 : decode cX9_graph 34 = .ok (.iconst (-1), 1) := by decide +kernel
theorem dX9_graph_35 : decode cX9_graph 35 = .ok (.ireturn, 1) := by decide +kernel
theorem dX9_in_0 : decode cX9_in 0 = .ok (.iload_n 0, 1) := by decide +kernel
theorem dX9_in_1 : decode cX9_in 1 = .ok (.iload_n 1, 1) := by decide +kernel
theorem dX9_in_2 : decode cX9_in 2 = .ok (.if_icmp .lt 12, 3) := by decide +kernel
theorem dX9_in_5 : decode cX9_in 5 = .ok (.iload_n 0, 1) := by decide +kernel
theorem dX9_in_6 : decode cX9_in 6 = .ok (.iload_n 2, 1) := by decide +kernel
theorem dX9_in_7 : decode cX9_in 7 = .ok (.if_icmp .gt 7, 3) := by decide +kernel
theorem dX9_in_10 : decode cX9_in 10 = .ok (.iconst 1, 1) := by decide +kernel
theorem dX9_in_11 : decode cX9_in 11 = .ok (.goto 4, 3) := by decide +kernel
theorem dX9_in_14 : decode cX9_in 14 = .ok (.iconst 0, 1) := by decide +kernel
theorem dX9_in_15 : decode cX9_in 15 = .ok (.ireturn, 1) := by decide +kernel
theorem dX9_init_0 : decode cX9_init 0 = .ok (.aload_n 0, 1) := by decide +kernel
theorem dX9_init_1 : decode cX9_init 1 = .ok (.invokespecial 1, 3) := by decide +kernel
theorem dX9_init_4 : decode cX9_init 4 = .ok (.aload_n 0, 1) := by decide +kernel
theorem dX9_init_5 : decode cX9_init 5 = .ok (.sipush 3000, 3) := by decide +kernel
theorem dX9_init_8 : decode cX9_init 8 = .ok (.newarray .byte, 2) := by decide +kernel
theorem dX9_init_10 : decode cX9_init 10 = .ok (.putfield 7, 3) := by decide +kernel
theorem dX9_init_13 : decode cX9_init 13 = .ok (.aload_n 0, 1) := by decide +kernel
theorem dX9_init_14 : decode cX9_init 14 = .ok (.sipush 3000, 3) := by decide +kernel
theorem dX9_init_17 : decode cX9_init 17 = .ok (.newarray .byte, 2) := by decide +kernel
theorem dX9_init_19 : decode cX9_init 19 = .ok (.putfield 13, 3) := by decide +kernel
theorem dX9_init_22 : decode cX9_init 22 = .ok (.aload_n 0, 1) := by decide +kernel
theorem dX9_init_23 : decode cX9_init 23 = .ok (.sipush 3000, 3) := by decide +kernel
theorem dX9_init_26 : decode cX9_init 26 = .ok (.newarray .byte, 2) := by decide +kernel
theorem dX9_init_28 : decode cX9_init 28 = .ok (.putfield 16, 3) := by decide +kernel
theorem dX9_init_31 : decode cX9_init 31 = .ok (.aload_n 0, 1) := by decide +kernel
theorem dX9_init_32 : decode cX9_init 32 = .ok (.iconst (-1), 1) := by decide +kernel
theorem dX9_init_33 : decode cX9_init 33 = .ok (.putfield 19, 3) := by decide +kernel
theorem dX9_init_36 : decode cX9_init 36 = .ok (.aload_n 0, 1) := by decide +kernel
theorem dX9_init_37 : decode cX9_init 37 = .ok (.iconst (-1), 1) := by decide +kernel
theorem dX9_init_38 : decode cX9_init 38 = .ok (.putfield 23, 3) := by decide +kernel
theorem dX9_init_41 : decode cX9_init 41 = .ok (.aload_n 0, 1) := by decide +kernel
theorem dX9_init_42 : decode cX9_init 42 = .ok (.bipush 12, 2) := by decide +kernel
theorem dX9_init_44 : decode cX9_init 44 = .ok (.newarray .long, 2) := by decide +kernel
theorem dX9_init_46 : decode cX9_init 46 = .ok (.putfield 26, 3) := by decide +kernel
theorem dX9_init_49 : decode cX9_init 49 = .ok (.aload_n 0, 1) := by decide +kernel
theorem dX9_init_50 : decode cX9_init 50 = .ok (.bipush 12, 2) := by decide +kernel
theorem dX9_init_52 : decode cX9_init 52 = .ok (.newarray .int, 2) := by decide +kernel
theorem dX9_init_54 : decode cX9_init 54 = .ok (.putfield 30, 3) := by decide +kernel
theorem dX9_init_57 : decode cX9_init 57 = .ok (.aload_n 0, 1) := by decide +kernel
theorem dX9_init_58 : decode cX9_init 58 = .ok (.bipush 72, 2) := by decide +kernel
theorem dX9_init_60 : decode cX9_init 60 = .ok (.newarray .long, 2) := by decide +kernel
theorem dX9_init_62 : decode cX9_init 62 = .ok (.putfield 34, 3) := by decide +kernel
theorem dX9_init_65 : decode cX9_init 65 = .ok (.aload_n 0, 1) := by decide +kernel
theorem dX9_init_66 : decode cX9_init 66 = .ok (.bipush 72, 2) := by decide +kernel
theorem dX9_init_68 : decode cX9_init 68 = .ok (.newarray .boolean, 2) := by decide +kernel
theorem dX9_init_70 : decode cX9_init 70 = .ok (.putfield 37, 3) := by decide +kernel
theorem dX9_init_73 : decode cX9_init 73 = .ok (.aload_n 0, 1) := by decide +kernel
theorem dX9_init_74 : decode cX9_init 74 = .ok (.bipush 30, 2) := by decide +kernel
theorem dX9_init_76 : decode cX9_init 76 = .ok (.newarray .long, 2) := by decide +kernel
theorem dX9_init_78 : decode cX9_init 78 = .ok (.putfield 41, 3) := by decide +kernel
theorem dX9_init_81 : decode cX9_init 81 = .ok (.aload_n 0, 1) := by decide +kernel
theorem dX9_init_82 : decode cX9_init 82 = .ok (.bipush 30, 2) := by decide +kernel
theorem dX9_init_84 : decode cX9_init 84 = .ok (.newarray .int, 2) := by decide +kernel
theorem dX9_init_86 : decode cX9_init 86 = .ok (.putfield 44, 3) := by decide +kernel
theorem dX9_init_89 : decode cX9_init 89 = .ok (.aload_n 0, 1) := by decide +kernel
theorem dX9_init_90 : decode cX9_init 90 = .ok (.bipush 120, 2) := by decide +kernel
theorem dX9_init_92 : decode cX9_init 92 = .ok (.newarray .int, 2) := by decide +kernel
theorem dX9_init_94 : decode cX9_init 94 = .ok (.putfield 47, 3) := by decide +kernel
theorem dX9_init_97 : decode cX9_init 97 = .ok (.aload_n 0, 1) := by decide +kernel
theorem dX9_init_98 : decode cX9_init 98 = .ok (.bipush 30, 2) := by decide +kernel
theorem dX9_init_100 : decode cX9_init 100 = .ok (.newarray .int, 2) := by decide +kernel
theorem dX9_init_102 : decode cX9_init 102 = .ok (.putfield 50, 3) := by decide +kernel
theorem dX9_init_105 : decode cX9_init 105 = .ok (.aload_n 0, 1) := by decide +kernel
theorem dX9_init_106 : decode cX9_init 106 = .ok (.sipush 720, 3) := by decide +kernel
theorem dX9_init_109 : decode cX9_init 109 = .ok (.newarray .int, 2) := by decide +kernel
theorem dX9_init_111 : decode cX9_init 111 = .ok (.putfield 53, 3) := by decide +kernel
theorem dX9_init_114 : decode cX9_init 114 = .ok (.aload_n 0, 1) := by decide +kernel
theorem dX9_init_115 : decode cX9_init 115 = .ok (.sipush 720, 3) := by decide +kernel
theorem dX9_init_118 : decode cX9_init 118 = .ok (.newarray .int, 2) := by decide +kernel
theorem dX9_init_120 : decode cX9_init 120 = .ok (.putfield 56, 3) := by decide +kernel
theorem dX9_init_123 : decode cX9_init 123 = .ok (.aload_n 0, 1) := by decide +kernel
theorem dX9_init_124 : decode cX9_init 124 = .ok (.sipush 720, 3) := by decide +kernel
theorem dX9_init_127 : decode cX9_init 127 = .ok (.newarray .int, 2) := by decide +kernel
theorem dX9_init_129 : decode cX9_init 129 = .ok (.putfield 59, 3) := by decide +kernel
theorem dX9_init_132 : decode cX9_init 132 = .ok (.aload_n 0, 1) := by decide +kernel
theorem dX9_init_133 : decode cX9_init 133 = .ok (.sipush 4000, 3) := by decide +kernel
theorem dX9_init_136 : decode cX9_init 136 = .ok (.newarray .int, 2) := by decide +kernel
theorem dX9_init_138 : decode cX9_init 138 = .ok (.putfield 62, 3) := by decide +kernel
theorem dX9_init_141 : decode cX9_init 141 = .ok (.aload_n 0, 1) := by decide +kernel
theorem dX9_init_142 : decode cX9_init 142 = .ok (.sipush 4000, 3) := by decide +kernel
theorem dX9_init_145 : decode cX9_init 145 = .ok (.newarray .int, 2) := by decide +kernel
theorem dX9_init_147 : decode cX9_init 147 = .ok (.putfield 65, 3) := by decide +kernel
theorem dX9_init_150 : decode cX9_init 150 = .ok (.aload_n 0, 1) := by decide +kernel
theorem dX9_init_151 : decode cX9_init 151 = .ok (.sipush 3000, 3) := by decide +kernel
theorem dX9_init_154 : decode cX9_init 154 = .ok (.newarray .int, 2) := by decide +kernel
theorem dX9_init_156 : decode cX9_init 156 = .ok (.putfield 68, 3) := by decide +kernel
theorem dX9_init_159 : decode cX9_init 159 = .ok (.aload_n 0, 1) := by decide +kernel
theorem dX9_init_160 : decode cX9_init 160 = .ok (.sipush 3000, 3) := by decide +kernel
theorem dX9_init_163 : decode cX9_init 163 = .ok (.newarray .int, 2) := by decide +kernel
theorem dX9_init_165 : decode cX9_init 165 = .ok (.putfield 71, 3) := by decide +kernel
theorem dX9_init_168 : decode cX9_init 168 = .ok (.aload_n 0, 1) := by decide +kernel
theorem dX9_init_169 : decode cX9_init 169 = .ok (.bipush 120, 2) := by decide +kernel
theorem dX9_init_171 : decode cX9_init 171 = .ok (.newarray .int, 2) := by decide +kernel
theorem dX9_init_173 : decode cX9_init 173 = .ok (.putfield 74, 3) := by decide +kernel
theorem dX9_init_176 : decode cX9_init 176 = .ok (.aload_n 0, 1) := by decide +kernel
theorem dX9_init_177 : decode cX9_init 177 = .ok (.bipush 120, 2) := by decide +kernel
theorem dX9_init_179 : decode cX9_init 179 = .ok (.newarray .int, 2) := by decide +kernel
theorem dX9_init_181 : decode cX9_init 181 = .ok (.putfield 77, 3) := by decide +kernel
theorem dX9_init_184 : decode cX9_init 184 = .ok (.aload_n 0, 1) := by decide +kernel
theorem dX9_init_185 : decode cX9_init 185 = .ok (.sipush 200, 3) := by decide +kernel
theorem dX9_init_188 : decode cX9_init 188 = .ok (.newarray .int, 2) := by decide +kernel
theorem dX9_init_190 : decode cX9_init 190 = .ok (.putfield 80, 3) := by decide +kernel
theorem dX9_init_193 : decode cX9_init 193 = .ok (.aload_n 0, 1) := by decide +kernel
theorem dX9_init_194 : decode cX9_init 194 = .ok (.sipush 200, 3) := by decide +kernel
theorem dX9_init_197 : decode cX9_init 197 = .ok (.newarray .int, 2) := by decide +kernel
theorem dX9_init_199 : decode cX9_init 199 = .ok (.putfield 83, 3) := by decide +kernel
theorem dX9_init_202 : decode cX9_init 202 = .ok (.aload_n 0, 1) := by decide +kernel
theorem dX9_init_203 : decode cX9_init 203 = .ok (.sipush 200, 3) := by decide +kernel
theorem dX9_init_206 : decode cX9_init 206 = .ok (.newarray .int, 2) := by decide +kernel
theorem dX9_init_208 : decode cX9_init 208 = .ok (.putfield 86, 3) := by decide +kernel
theorem dX9_init_211 : decode cX9_init 211 = .ok (.aload_n 0, 1) := by decide +kernel
theorem dX9_init_212 : decode cX9_init 212 = .ok (.sipush 200, 3) := by decide +kernel
theorem dX9_init_215 : decode cX9_init 215 = .ok (.newarray .int, 2) := by decide +kernel
theorem dX9_init_217 : decode cX9_init 217 = .ok (.putfield 89, 3) := by decide +kernel
theorem dX9_init_220 : decode cX9_init 220 = .ok (.aload_n 0, 1) := by decide +kernel
theorem dX9_init_221 : decode cX9_init 221 = .ok (.sipush 800, 3) := by decide +kernel
theorem dX9_init_224 : decode cX9_init 224 = .ok (.newarray .int, 2) := by decide +kernel
theorem dX9_init_226 : decode cX9_init 226 = .ok (.putfield 92, 3) := by decide +kernel
theorem dX9_init_229 : decode cX9_init 229 = .ok (.aload_n 0, 1) := by decide +kernel
theorem dX9_init_230 : decode cX9_init 230 = .ok (.sipush 200, 3) := by decide +kernel
theorem dX9_init_233 : decode cX9_init 233 = .ok (.newarray .int, 2) := by decide +kernel
theorem dX9_init_235 : decode cX9_init 235 = .ok (.putfield 95, 3) := by decide +kernel
theorem dX9_init_238 : decode cX9_init 238 = .ok (.aload_n 0, 1) := by decide +kernel
theorem dX9_init_239 : decode cX9_init 239 = .ok (.sipush 200, 3) := by decide +kernel
theorem dX9_init_242 : decode cX9_init 242 = .ok (.newarray .int, 2) := by decide +kernel
theorem dX9_init_244 : decode cX9_init 244 = .ok (.putfield 98, 3) := by decide +kernel
theorem dX9_init_247 : decode cX9_init 247 = .ok (.aload_n 0, 1) := by decide +kernel
theorem dX9_init_248 : decode cX9_init 248 = .ok (.sipush 200, 3) := by decide +kernel
theorem dX9_init_251 : decode cX9_init 251 = .ok (.newarray .int, 2) := by decide +kernel
theorem dX9_init_253 : decode cX9_init 253 = .ok (.putfield 101, 3) := by decide +kernel
theorem dX9_init_256 : decode cX9_init 256 = .ok (.aload_n 0, 1) := by decide +kernel
theorem dX9_init_257 : decode cX9_init 257 = .ok (.sipush 200, 3) := by decide +kernel
theorem dX9_init_260 : decode cX9_init 260 = .ok (.newarray .int, 2) := by decide +kernel
theorem dX9_init_262 : decode cX9_init 262 = .ok (.putfield 104, 3) := by decide +kernel
theorem dX9_init_265 : decode cX9_init 265 = .ok (.aload_n 0, 1) := by decide +kernel
theorem dX9_init_266 : decode cX9_init 266 = .ok (.sipush 200, 3) := by decide +kernel
theorem dX9_init_269 : decode cX9_init 269 = .ok (.newarray .int, 2) := by decide +kernel
theorem dX9_init_271 : decode cX9_init 271 = .ok (.putfield 107, 3) := by decide +kernel
theorem dX9_init_274 : decode cX9_init 274 = .ok (.aload_n 0, 1) := by decide +kernel
theorem dX9_init_275 : decode cX9_init 275 = .ok (.sipush 800, 3) := by decide +kernel
theorem dX9_init_278 : decode cX9_init 278 = .ok (.newarray .int, 2) := by decide +kernel
theorem dX9_init_280 : decode cX9_init 280 = .ok (.putfield 110, 3) := by decide +kernel
theorem dX9_init_283 : decode cX9_init 283 = .ok (.aload_n 0, 1) := by decide +kernel
theorem dX9_init_284 : decode cX9_init 284 = .ok (.bipush 12, 2) := by decide +kernel
theorem dX9_init_286 : decode cX9_init 286 = .ok (.newarray .boolean, 2) := by decide +kernel
theorem dX9_init_288 : decode cX9_init 288 = .ok (.putfield 113, 3) := by decide +kernel
theorem dX9_init_291 : decode cX9_init 291 = .ok (.aload_n 0, 1) := by decide +kernel
theorem dX9_init_292 : decode cX9_init 292 = .ok (.bipush 30, 2) := by decide +kernel
theorem dX9_init_294 : decode cX9_init 294 = .ok (.newarray .boolean, 2) := by decide +kernel
theorem dX9_init_296 : decode cX9_init 296 = .ok (.putfield 116, 3) := by decide +kernel
theorem dX9_init_299 : decode cX9_init 299 = .ok (.aload_n 0, 1) := by decide +kernel
theorem dX9_init_300 : decode cX9_init 300 = .ok (.bipush 12, 2) := by decide +kernel
theorem dX9_init_302 : decode cX9_init 302 = .ok (.newarray .boolean, 2) := by decide +kernel
theorem dX9_init_304 : decode cX9_init 304 = .ok (.putfield 119, 3) := by decide +kernel
theorem dX9_init_307 : decode cX9_init 307 = .ok (.aload_n 0, 1) := by decide +kernel
theorem dX9_init_308 : decode cX9_init 308 = .ok (.sipush 6144, 3) := by decide +kernel
theorem dX9_init_311 : decode cX9_init 311 = .ok (.newarray .boolean, 2) := by decide +kernel
theorem dX9_init_313 : decode cX9_init 313 = .ok (.putfield 122, 3) := by decide +kernel
theorem dX9_init_316 : decode cX9_init 316 = .ok (.aload_n 0, 1) := by decide +kernel
theorem dX9_init_317 : decode cX9_init 317 = .ok (.bipush 12, 2) := by decide +kernel
theorem dX9_init_319 : decode cX9_init 319 = .ok (.newarray .int, 2) := by decide +kernel
theorem dX9_init_321 : decode cX9_init 321 = .ok (.putfield 125, 3) := by decide +kernel
theorem dX9_init_324 : decode cX9_init 324 = .ok (.aload_n 0, 1) := by decide +kernel
theorem dX9_init_325 : decode cX9_init 325 = .ok (.bipush 12, 2) := by decide +kernel
theorem dX9_init_327 : decode cX9_init 327 = .ok (.newarray .int, 2) := by decide +kernel
theorem dX9_init_329 : decode cX9_init 329 = .ok (.putfield 128, 3) := by decide +kernel
theorem dX9_init_332 : decode cX9_init 332 = .ok (.aload_n 0, 1) := by decide +kernel
theorem dX9_init_333 : decode cX9_init 333 = .ok (.bipush 30, 2) := by decide +kernel
theorem dX9_init_335 : decode cX9_init 335 = .ok (.newarray .boolean, 2) := by decide +kernel
theorem dX9_init_337 : decode cX9_init 337 = .ok (.putfield 131, 3) := by decide +kernel
theorem dX9_init_340 : decode cX9_init 340 = .ok (.aload_n 0, 1) := by decide +kernel
theorem dX9_init_341 : decode cX9_init 341 = .ok (.bipush 30, 2) := by decide +kernel
theorem dX9_init_343 : decode cX9_init 343 = .ok (.newarray .boolean, 2) := by decide +kernel
theorem dX9_init_345 : decode cX9_init 345 = .ok (.putfield 134, 3) := by decide +kernel
theorem dX9_init_348 : decode cX9_init 348 = .ok (.aload_n 0, 1) := by decide +kernel
theorem dX9_init_349 : decode cX9_init 349 = .ok (.bipush 24, 2) := by decide +kernel
theorem dX9_init_351 : decode cX9_init 351 = .ok (.newarray .int, 2) := by decide +kernel
theorem dX9_init_353 : decode cX9_init 353 = .ok (.putfield 137, 3) := by decide +kernel
theorem dX9_init_356 : decode cX9_init 356 = .ok (.aload_n 0, 1) := by decide +kernel
theorem dX9_init_357 : decode cX9_init 357 = .ok (.iconst 4, 1) := by decide +kernel
theorem dX9_init_358 : decode cX9_init 358 = .ok (.newarray .int, 2) := by decide +kernel
theorem dX9_init_360 : decode cX9_init 360 = .ok (.putfield 140, 3) := by decide +kernel
theorem dX9_init_363 : decode cX9_init 363 = .ok (.aload_n 0, 1) := by decide +kernel
theorem dX9_init_364 : decode cX9_init 364 = .ok (.sipush 2100, 3) := by decide +kernel
theorem dX9_init_367 : decode cX9_init 367 = .ok (.newarray .int, 2) := by decide +kernel
theorem dX9_init_369 : decode cX9_init 369 = .ok (.putfield 143, 3) := by decide +kernel
theorem dX9_init_372 : decode cX9_init 372 = .ok (.aload_n 0, 1) := by decide +kernel
theorem dX9_init_373 : decode cX9_init 373 = .ok (.sipush 1200, 3) := by decide +kernel
theorem dX9_init_376 : decode cX9_init 376 = .ok (.newarray .int, 2) := by decide +kernel
theorem dX9_init_378 : decode cX9_init 378 = .ok (.putfield 146, 3) := by decide +kernel
theorem dX9_init_381 : decode cX9_init 381 = .ok (.aload_n 0, 1) := by decide +kernel
theorem dX9_init_382 : decode cX9_init 382 = .ok (.sipush 1200, 3) := by decide +kernel
theorem dX9_init_385 : decode cX9_init 385 = .ok (.newarray .boolean, 2) := by decide +kernel
theorem dX9_init_387 : decode cX9_init 387 = .ok (.putfield 149, 3) := by decide +kernel
theorem dX9_init_390 : decode cX9_init 390 = .ok (.aload_n 0, 1) := by decide +kernel
theorem dX9_init_391 : decode cX9_init 391 = .ok (.sipush 1200, 3) := by decide +kernel
theorem dX9_init_394 : decode cX9_init 394 = .ok (.newarray .boolean, 2) := by decide +kernel
theorem dX9_init_396 : decode cX9_init 396 = .ok (.putfield 152, 3) := by decide +kernel
theorem dX9_init_399 : decode cX9_init 399 = .ok (.aload_n 0, 1) := by decide +kernel
theorem dX9_init_400 : decode cX9_init 400 = .ok (.sipush 1200, 3) := by decide +kernel
theorem dX9_init_403 : decode cX9_init 403 = .ok (.newarray .int, 2) := by decide +kernel
theorem dX9_init_405 : decode cX9_init 405 = .ok (.putfield 155, 3) := by decide +kernel
theorem dX9_init_408 : decode cX9_init 408 = .ok (.aload_n 0, 1) := by decide +kernel
theorem dX9_init_409 : decode cX9_init 409 = .ok (.sipush 1200, 3) := by decide +kernel
theorem dX9_init_412 : decode cX9_init 412 = .ok (.newarray .boolean, 2) := by decide +kernel
theorem dX9_init_414 : decode cX9_init 414 = .ok (.putfield 158, 3) := by decide +kernel
theorem dX9_init_417 : decode cX9_init 417 = .ok (.aload_n 0, 1) := by decide +kernel
theorem dX9_init_418 : decode cX9_init 418 = .ok (.sipush 1200, 3) := by decide +kernel
theorem dX9_init_421 : decode cX9_init 421 = .ok (.newarray .int, 2) := by decide +kernel
theorem dX9_init_423 : decode cX9_init 423 = .ok (.putfield 161, 3) := by decide +kernel
theorem dX9_init_426 : decode cX9_init 426 = .ok (.aload_n 0, 1) := by decide +kernel
theorem dX9_init_427 : decode cX9_init 427 = .ok (.sipush 1200, 3) := by decide +kernel
theorem dX9_init_430 : decode cX9_init 430 = .ok (.newarray .int, 2) := by decide +kernel
theorem dX9_init_432 : decode cX9_init 432 = .ok (.putfield 164, 3) := by decide +kernel
theorem dX9_init_435 : decode cX9_init 435 = .ok (.aload_n 0, 1) := by decide +kernel
theorem dX9_init_436 : decode cX9_init 436 = .ok (.bipush 60, 2) := by decide +kernel
theorem dX9_init_438 : decode cX9_init 438 = .ok (.newarray .int, 2) := by decide +kernel
theorem dX9_init_440 : decode cX9_init 440 = .ok (.putfield 167, 3) := by decide +kernel
theorem dX9_init_443 : decode cX9_init 443 = .ok (.aload_n 0, 1) := by decide +kernel
theorem dX9_init_444 : decode cX9_init 444 = .ok (.bipush 60, 2) := by decide +kernel
theorem dX9_init_446 : decode cX9_init 446 = .ok (.newarray .boolean, 2) := by decide +kernel
theorem dX9_init_448 : decode cX9_init 448 = .ok (.putfield 170, 3) := by decide +kernel
theorem dX9_init_451 : decode cX9_init 451 = .ok (.return_, 1) := by decide +kernel
theorem dX9_isAttribute_0 : decode cX9_isAttribute 0 = .ok (.iload_n 1, 1) := by decide +kernel
theorem dX9_isAttribute_1 : decode cX9_isAttribute 1 = .ok (.iconst 0, 1) := by decide +kernel
theorem dX9_isAttribute_2 : decode cX9_isAttribute 2 = .ok (.aload_n 0, 1) := by decide +kernel
theorem dX9_isAttribute_3 : decode cX9_isAttribute 3 = .ok (.getfield 396, 3) := by decide +kernel
theorem dX9_isAttribute_6 : decode cX9_isAttribute 6 = .ok (.iconst 1, 1) := by decide +kernel
theorem dX9_isAttribute_7 : decode cX9_isAttribute 7 = .ok (.isub, 1) := by decide +kernel
theorem dX9_isAttribute_8 : decode cX9_isAttribute 8 = .ok (.invokestatic 180, 3) := by decide +kernel
theorem dX9_isAttribute_11 : decode cX9_isAttribute 11 = .ok (.ifCond .eq 35, 3) := by decide +kernel
theorem dX9_isAttribute_46 : decode cX9_isAttribute 46 = .ok (.iconst 0, 1) := by decide +kernel
theorem dX9_isAttribute_47 : decode cX9_isAttribute 47 = .ok (.ireturn, 1) := by decide +kernel
theorem dX9_isWell_0 : decode cX9_isWell 0 = .ok (.aload_n 0, 1) := by decide +kernel
theorem dX9_isWell_1 : decode cX9_isWell 1 = .ok (.getfield 184, 3) := by decide +kernel
theorem dX9_isWell_4 : decode cX9_isWell 4 = .ok (.ifCond .ne 7, 3) := by decide +kernel
theorem dX9_isWell_7 : decode cX9_isWell 7 = .ok (.iconst 1, 1) := by decide +kernel
theorem dX9_isWell_8 : decode cX9_isWell 8 = .ok (.goto 4, 3) := by decide +kernel
theorem dX9_isWell_11 : decode cX9_isWell 11 = .ok (.iconst 0, 1) := by decide +kernel
theorem dX9_isWell_12 : decode cX9_isWell 12 = .ok (.ireturn, 1) := by decide +kernel
theorem dX9_isWord_0 : decode cX9_isWord 0 = .ok (.aload_n 0, 1) := by decide +kernel
theorem dX9_isWord_1 : decode cX9_isWord 1 = .ok (.invokevirtual 234, 3) := by decide +kernel
theorem dX9_isWord_4 : decode cX9_isWord 4 = .ok (.ifCond .eq 25, 3) := by decide +kernel
theorem dX9_isWord_7 : decode cX9_isWord 7 = .ok (.aload_n 0, 1) := by decide +kernel
theorem dX9_isWord_8 : decode cX9_isWord 8 = .ok (.getfield 210, 3) := by decide +kernel
theorem dX9_isWord_11 : decode cX9_isWord 11 = .ok (.iconst 2, 1) := by decide +kernel
theorem dX9_isWord_12 : decode cX9_isWord 12 = .ok (.if_icmp .ne 17, 3) := by decide +kernel
theorem dX9_isWord_29 : decode cX9_isWord 29 = .ok (.iconst 0, 1) := by decide +kernel
theorem dX9_isWord_30 : decode cX9_isWord 30 = .ok (.ireturn, 1) := by decide +kernel
theorem dX9_next_0 : decode cX9_next 0 = .ok (.aload_n 0, 1) := by decide +kernel
theorem dX9_next_1 : decode cX9_next 1 = .ok (.invokevirtual 203, 3) := by decide +kernel
theorem dX9_next_4 : decode cX9_next 4 = .ok (.aload_n 0, 1) := by decide +kernel
theorem dX9_next_5 : decode cX9_next 5 = .ok (.aload_n 0, 1) := by decide +kernel
theorem dX9_next_6 : decode cX9_next 6 = .ok (.getfield 197, 3) := by decide +kernel
theorem dX9_next_9 : decode cX9_next 9 = .ok (.putfield 190, 3) := by decide +kernel
theorem dX9_next_12 : decode cX9_next 12 = .ok (.aload_n 0, 1) := by decide +kernel
theorem dX9_next_13 : decode cX9_next 13 = .ok (.lconst 0, 1) := by decide +kernel
theorem dX9_next_14 : decode cX9_next 14 = .ok (.putfield 206, 3) := by decide +kernel
theorem dX9_next_17 : decode cX9_next 17 = .ok (.aload_n 0, 1) := by decide +kernel
theorem dX9_next_18 : decode cX9_next 18 = .ok (.getfield 197, 3) := by decide +kernel
theorem dX9_next_21 : decode cX9_next 21 = .ok (.aload_n 0, 1) := by decide +kernel
theorem dX9_next_22 : decode cX9_next 22 = .ok (.getfield 200, 3) := by decide +kernel
theorem dX9_next_25 : decode cX9_next 25 = .ok (.if_icmp .ne 9, 3) := by decide +kernel
theorem dX9_next_28 : decode cX9_next 28 = .ok (.aload_n 0, 1) := by decide +kernel
theorem dX9_next_29 : decode cX9_next 29 = .ok (.iconst 0, 1) := by decide +kernel
theorem dX9_next_30 : decode cX9_next 30 = .ok (.putfield 210, 3) := by decide +kernel
theorem dX9_next_33 : decode cX9_next 33 = .ok (.return_, 1) := by decide +kernel
theorem dX9_node_0 : decode cX9_node 0 = .ok (.iload_n 1, 1) := by decide +kernel
theorem dX9_node_1 : decode cX9_node 1 = .ok (.iconst 0, 1) := by decide +kernel
theorem dX9_node_2 : decode cX9_node 2 = .ok (.aload_n 0, 1) := by decide +kernel
theorem dX9_node_3 : decode cX9_node 3 = .ok (.getfield 396, 3) := by decide +kernel
theorem dX9_node_6 : decode cX9_node 6 = .ok (.iconst 1, 1) := by decide +kernel
theorem dX9_node_7 : decode cX9_node 7 = .ok (.isub, 1) := by decide +kernel
theorem dX9_node_8 : decode cX9_node 8 = .ok (.invokestatic 180, 3) := by decide +kernel
theorem dX9_node_11 : decode cX9_node 11 = .ok (.ifCond .ne 5, 3) := by decide +kernel
theorem dX9_node_14 : decode cX9_node 14 = .ok (.iconst (-1), 1) := by decide +kernel
theorem dX9_node_15 : decode cX9_node 15 = .ok (.ireturn, 1) := by decide +kernel
theorem dX9_order__0 : decode cX9_order_ 0 = .ok (.iload_n 1, 1) := by decide +kernel
theorem dX9_order__1 : decode cX9_order_ 1 = .ok (.iconst 0, 1) := by decide +kernel
theorem dX9_order__2 : decode cX9_order_ 2 = .ok (.aload_n 0, 1) := by decide +kernel
theorem dX9_order__3 : decode cX9_order_ 3 = .ok (.getfield 399, 3) := by decide +kernel
theorem dX9_order__6 : decode cX9_order_ 6 = .ok (.iconst 1, 1) := by decide +kernel
theorem dX9_order__7 : decode cX9_order_ 7 = .ok (.isub, 1) := by decide +kernel
theorem dX9_order__8 : decode cX9_order_ 8 = .ok (.invokestatic 180, 3) := by decide +kernel
theorem dX9_order__11 : decode cX9_order_ 11 = .ok (.ifCond .eq 12, 3) := by decide +kernel
theorem dX9_order__23 : decode cX9_order_ 23 = .ok (.iconst (-1), 1) := by decide +kernel
theorem dX9_order__24 : decode cX9_order_ 24 = .ok (.ireturn, 1) := by decide +kernel
theorem dX9_own_0 : decode cX9_own 0 = .ok (.iload_n 1, 1) := by decide +kernel
theorem dX9_own_1 : decode cX9_own 1 = .ok (.iconst 0, 1) := by decide +kernel
theorem dX9_own_2 : decode cX9_own 2 = .ok (.aload_n 0, 1) := by decide +kernel
theorem dX9_own_3 : decode cX9_own 3 = .ok (.getfield 396, 3) := by decide +kernel
theorem dX9_own_6 : decode cX9_own 6 = .ok (.iconst 1, 1) := by decide +kernel
theorem dX9_own_7 : decode cX9_own 7 = .ok (.isub, 1) := by decide +kernel
theorem dX9_own_8 : decode cX9_own 8 = .ok (.invokestatic 180, 3) := by decide +kernel
theorem dX9_own_11 : decode cX9_own 11 = .ok (.ifCond .ne 5, 3) := by decide +kernel
theorem dX9_own_14 : decode cX9_own 14 = .ok (.iconst 0, 1) := by decide +kernel
theorem dX9_own_15 : decode cX9_own 15 = .ok (.ireturn, 1) := by decide +kernel
theorem dX9_put_0 : decode cX9_put 0 = .ok (.aload_n 0, 1) := by decide +kernel
theorem dX9_put_1 : decode cX9_put 1 = .ok (.getfield 7, 3) := by decide +kernel
theorem dX9_put_4 : decode cX9_put 4 = .ok (.aload_n 0, 1) := by decide +kernel
theorem dX9_put_5 : decode cX9_put 5 = .ok (.getfield 173, 3) := by decide +kernel
theorem dX9_put_8 : decode cX9_put 8 = .ok (.iload_n 1, 1) := by decide +kernel
theorem dX9_put_9 : decode cX9_put 9 = .ok (.bipush 24, 2) := by decide +kernel
theorem dX9_put_11 : decode cX9_put 11 = .ok (.ishr, 1) := by decide +kernel
theorem dX9_put_12 : decode cX9_put 12 = .ok (.i2b, 1) := by decide +kernel
theorem dX9_put_13 : decode cX9_put 13 = .ok (.bastore, 1) := by decide +kernel
theorem dX9_put_14 : decode cX9_put 14 = .ok (.aload_n 0, 1) := by decide +kernel
theorem dX9_put_15 : decode cX9_put 15 = .ok (.getfield 7, 3) := by decide +kernel
theorem dX9_put_18 : decode cX9_put 18 = .ok (.aload_n 0, 1) := by decide +kernel
theorem dX9_put_19 : decode cX9_put 19 = .ok (.getfield 173, 3) := by decide +kernel
theorem dX9_put_22 : decode cX9_put 22 = .ok (.iconst 1, 1) := by decide +kernel
theorem dX9_put_23 : decode cX9_put 23 = .ok (.iadd, 1) := by decide +kernel
theorem dX9_put_24 : decode cX9_put 24 = .ok (.iload_n 1, 1) := by decide +kernel
theorem dX9_put_25 : decode cX9_put 25 = .ok (.bipush 16, 2) := by decide +kernel
theorem dX9_put_27 : decode cX9_put 27 = .ok (.ishr, 1) := by decide +kernel
theorem dX9_put_28 : decode cX9_put 28 = .ok (.i2b, 1) := by decide +kernel
theorem dX9_put_29 : decode cX9_put 29 = .ok (.bastore, 1) := by decide +kernel
theorem dX9_put_30 : decode cX9_put 30 = .ok (.aload_n 0, 1) := by decide +kernel
theorem dX9_put_31 : decode cX9_put 31 = .ok (.getfield 7, 3) := by decide +kernel
theorem dX9_put_34 : decode cX9_put 34 = .ok (.aload_n 0, 1) := by decide +kernel
theorem dX9_put_35 : decode cX9_put 35 = .ok (.getfield 173, 3) := by decide +kernel
theorem dX9_put_38 : decode cX9_put 38 = .ok (.iconst 2, 1) := by decide +kernel
theorem dX9_put_39 : decode cX9_put 39 = .ok (.iadd, 1) := by decide +kernel
theorem dX9_put_40 : decode cX9_put 40 = .ok (.iload_n 1, 1) := by decide +kernel
theorem dX9_put_41 : decode cX9_put 41 = .ok (.bipush 8, 2) := by decide +kernel
theorem dX9_put_43 : decode cX9_put 43 = .ok (.ishr, 1) := by decide +kernel
theorem dX9_put_44 : decode cX9_put 44 = .ok (.i2b, 1) := by decide +kernel
theorem dX9_put_45 : decode cX9_put 45 = .ok (.bastore, 1) := by decide +kernel
theorem dX9_put_46 : decode cX9_put 46 = .ok (.aload_n 0, 1) := by decide +kernel
theorem dX9_put_47 : decode cX9_put 47 = .ok (.getfield 7, 3) := by decide +kernel
theorem dX9_put_50 : decode cX9_put 50 = .ok (.aload_n 0, 1) := by decide +kernel
theorem dX9_put_51 : decode cX9_put 51 = .ok (.getfield 173, 3) := by decide +kernel
theorem dX9_put_54 : decode cX9_put 54 = .ok (.iconst 3, 1) := by decide +kernel
theorem dX9_put_55 : decode cX9_put 55 = .ok (.iadd, 1) := by decide +kernel
theorem dX9_put_56 : decode cX9_put 56 = .ok (.iload_n 1, 1) := by decide +kernel
theorem dX9_put_57 : decode cX9_put 57 = .ok (.i2b, 1) := by decide +kernel
theorem dX9_put_58 : decode cX9_put 58 = .ok (.bastore, 1) := by decide +kernel
theorem dX9_put_59 : decode cX9_put 59 = .ok (.aload_n 0, 1) := by decide +kernel
theorem dX9_put_60 : decode cX9_put 60 = .ok (.dup, 1) := by decide +kernel
theorem dX9_put_61 : decode cX9_put 61 = .ok (.getfield 173, 3) := by decide +kernel
theorem dX9_put_64 : decode cX9_put 64 = .ok (.iconst 4, 1) := by decide +kernel
theorem dX9_put_65 : decode cX9_put 65 = .ok (.iadd, 1) := by decide +kernel
theorem dX9_put_66 : decode cX9_put 66 = .ok (.putfield 173, 3) := by decide +kernel
theorem dX9_put_69 : decode cX9_put 69 = .ok (.return_, 1) := by decide +kernel
theorem dX9_reads_0 : decode cX9_reads 0 = .ok (.aload_n 0, 1) := by decide +kernel
theorem dX9_reads_1 : decode cX9_reads 1 = .ok (.iconst 0, 1) := by decide +kernel
theorem dX9_reads_2 : decode cX9_reads 2 = .ok (.putfield 197, 3) := by decide +kernel
theorem dX9_reads_5 : decode cX9_reads 5 = .ok (.aload_n 0, 1) := by decide +kernel
theorem dX9_reads_6 : decode cX9_reads 6 = .ok (.iconst 0, 1) := by decide +kernel
theorem dX9_reads_7 : decode cX9_reads 7 = .ok (.putfield 184, 3) := by decide +kernel
theorem dX9_reads_10 : decode cX9_reads 10 = .ok (.aload_n 0, 1) := by decide +kernel
theorem dX9_reads_11 : decode cX9_reads 11 = .ok (.iconst (-1), 1) := by decide +kernel
theorem dX9_reads_12 : decode cX9_reads 12 = .ok (.putfield 187, 3) := by decide +kernel
theorem dX9_reads_15 : decode cX9_reads 15 = .ok (.aload_n 0, 1) := by decide +kernel
theorem dX9_reads_16 : decode cX9_reads 16 = .ok (.iconst 0, 1) := by decide +kernel
theorem dX9_reads_17 : decode cX9_reads 17 = .ok (.putfield 248, 3) := by decide +kernel
theorem dX9_reads_20 : decode cX9_reads 20 = .ok (.aload_n 0, 1) := by decide +kernel
theorem dX9_reads_21 : decode cX9_reads 21 = .ok (.iconst 0, 1) := by decide +kernel
theorem dX9_reads_22 : decode cX9_reads 22 = .ok (.putfield 272, 3) := by decide +kernel
theorem dX9_reads_25 : decode cX9_reads 25 = .ok (.aload_n 0, 1) := by decide +kernel
theorem dX9_reads_26 : decode cX9_reads 26 = .ok (.iconst 0, 1) := by decide +kernel
theorem dX9_reads_27 : decode cX9_reads 27 = .ok (.putfield 302, 3) := by decide +kernel
theorem dX9_reads_30 : decode cX9_reads 30 = .ok (.aload_n 0, 1) := by decide +kernel
theorem dX9_reads_31 : decode cX9_reads 31 = .ok (.iconst 0, 1) := by decide +kernel
theorem dX9_reads_32 : decode cX9_reads 32 = .ok (.putfield 305, 3) := by decide +kernel
theorem dX9_reads_35 : decode cX9_reads 35 = .ok (.aload_n 0, 1) := by decide +kernel
theorem dX9_reads_36 : decode cX9_reads 36 = .ok (.invokevirtual 242, 3) := by decide +kernel
theorem dX9_reads_39 : decode cX9_reads 39 = .ok (.aload_n 0, 1) := by decide +kernel
theorem dX9_reads_40 : decode cX9_reads 40 = .ok (.iconst 0, 1) := by decide +kernel
theorem dX9_reads_41 : decode cX9_reads 41 = .ok (.invokevirtual 258, 3) := by decide +kernel
theorem dX9_reads_44 : decode cX9_reads 44 = .ok (.ifCond .ne 7, 3) := by decide +kernel
theorem dX9_reads_47 : decode cX9_reads 47 = .ok (.aload_n 0, 1) := by decide +kernel
theorem dX9_reads_48 : decode cX9_reads 48 = .ok (.invokevirtual 245, 3) := by decide +kernel
theorem dX9_reads_51 : decode cX9_reads 51 = .ok (.aload_n 0, 1) := by decide +kernel
theorem dX9_reads_52 : decode cX9_reads 52 = .ok (.iconst 0, 1) := by decide +kernel
theorem dX9_reads_53 : decode cX9_reads 53 = .ok (.invokevirtual 258, 3) := by decide +kernel
theorem dX9_reads_56 : decode cX9_reads 56 = .ok (.ifCond .eq 10, 3) := by decide +kernel
theorem dX9_reads_66 : decode cX9_reads 66 = .ok (.aload_n 0, 1) := by decide +kernel
theorem dX9_reads_67 : decode cX9_reads 67 = .ok (.iconst 3, 1) := by decide +kernel
theorem dX9_reads_68 : decode cX9_reads 68 = .ok (.invokevirtual 258, 3) := by decide +kernel
theorem dX9_reads_71 : decode cX9_reads 71 = .ok (.ifCond .ne 7, 3) := by decide +kernel
theorem dX9_reads_74 : decode cX9_reads 74 = .ok (.aload_n 0, 1) := by decide +kernel
theorem dX9_reads_75 : decode cX9_reads 75 = .ok (.invokevirtual 245, 3) := by decide +kernel
theorem dX9_reads_78 : decode cX9_reads 78 = .ok (.aload_n 0, 1) := by decide +kernel
theorem dX9_reads_79 : decode cX9_reads 79 = .ok (.iconst 3, 1) := by decide +kernel
theorem dX9_reads_80 : decode cX9_reads 80 = .ok (.invokevirtual 258, 3) := by decide +kernel
theorem dX9_reads_83 : decode cX9_reads 83 = .ok (.ifCond .eq 10, 3) := by decide +kernel
theorem dX9_reads_93 : decode cX9_reads 93 = .ok (.aload_n 0, 1) := by decide +kernel
theorem dX9_reads_94 : decode cX9_reads 94 = .ok (.invokevirtual 234, 3) := by decide +kernel
theorem dX9_reads_97 : decode cX9_reads 97 = .ok (.ifCond .eq 14, 3) := by decide +kernel
theorem dX9_reads_111 : decode cX9_reads 111 = .ok (.iconst 0, 1) := by decide +kernel
theorem dX9_reads_112 : decode cX9_reads 112 = .ok (.istore_n 1, 1) := by decide +kernel
theorem dX9_reads_113 : decode cX9_reads 113 = .ok (.iconst 0, 1) := by decide +kernel
theorem dX9_reads_114 : decode cX9_reads 114 = .ok (.istore_n 2, 1) := by decide +kernel
theorem dX9_reads_115 : decode cX9_reads 115 = .ok (.iload_n 2, 1) := by decide +kernel
theorem dX9_reads_116 : decode cX9_reads 116 = .ok (.aload_n 0, 1) := by decide +kernel
theorem dX9_reads_117 : decode cX9_reads 117 = .ok (.getfield 30, 3) := by decide +kernel
theorem dX9_reads_120 : decode cX9_reads 120 = .ok (.iconst 0, 1) := by decide +kernel
theorem dX9_reads_121 : decode cX9_reads 121 = .ok (.iaload, 1) := by decide +kernel
theorem dX9_reads_122 : decode cX9_reads 122 = .ok (.if_icmp .ge 35, 3) := by decide +kernel
theorem dX9_reads_157 : decode cX9_reads 157 = .ok (.iload_n 1, 1) := by decide +kernel
theorem dX9_reads_158 : decode cX9_reads 158 = .ok (.ifCond .eq 13, 3) := by decide +kernel
theorem dX9_reads_171 : decode cX9_reads 171 = .ok (.return_, 1) := by decide +kernel
theorem dX9_rule__0 : decode cX9_rule_ 0 = .ok (.iload_n 1, 1) := by decide +kernel
theorem dX9_rule__1 : decode cX9_rule_ 1 = .ok (.iconst 0, 1) := by decide +kernel
theorem dX9_rule__2 : decode cX9_rule_ 2 = .ok (.aload_n 0, 1) := by decide +kernel
theorem dX9_rule__3 : decode cX9_rule_ 3 = .ok (.getfield 272, 3) := by decide +kernel
theorem dX9_rule__6 : decode cX9_rule_ 6 = .ok (.iconst 1, 1) := by decide +kernel
theorem dX9_rule__7 : decode cX9_rule_ 7 = .ok (.isub, 1) := by decide +kernel
theorem dX9_rule__8 : decode cX9_rule_ 8 = .ok (.invokestatic 180, 3) := by decide +kernel
theorem dX9_rule__11 : decode cX9_rule_ 11 = .ok (.ifCond .ne 5, 3) := by decide +kernel
theorem dX9_rule__14 : decode cX9_rule_ 14 = .ok (.iconst (-1), 1) := by decide +kernel
theorem dX9_rule__15 : decode cX9_rule_ 15 = .ok (.ireturn, 1) := by decide +kernel
theorem dX9_stray_0 : decode cX9_stray 0 = .ok (.aload_n 0, 1) := by decide +kernel
theorem dX9_stray_1 : decode cX9_stray 1 = .ok (.iconst 1, 1) := by decide +kernel
theorem dX9_stray_2 : decode cX9_stray 2 = .ok (.aload_n 0, 1) := by decide +kernel
theorem dX9_stray_3 : decode cX9_stray 3 = .ok (.getfield 190, 3) := by decide +kernel
theorem dX9_stray_6 : decode cX9_stray 6 = .ok (.invokevirtual 193, 3) := by decide +kernel
theorem dX9_stray_9 : decode cX9_stray 9 = .ok (.return_, 1) := by decide +kernel
theorem dX9_symbol__0 : decode cX9_symbol_ 0 = .ok (.iload_n 1, 1) := by decide +kernel
theorem dX9_symbol__1 : decode cX9_symbol_ 1 = .ok (.iconst 0, 1) := by decide +kernel
theorem dX9_symbol__2 : decode cX9_symbol_ 2 = .ok (.aload_n 0, 1) := by decide +kernel
theorem dX9_symbol__3 : decode cX9_symbol_ 3 = .ok (.getfield 248, 3) := by decide +kernel
theorem dX9_symbol__6 : decode cX9_symbol_ 6 = .ok (.iconst 1, 1) := by decide +kernel
theorem dX9_symbol__7 : decode cX9_symbol_ 7 = .ok (.isub, 1) := by decide +kernel
theorem dX9_symbol__8 : decode cX9_symbol_ 8 = .ok (.invokestatic 180, 3) := by decide +kernel
theorem dX9_symbol__11 : decode cX9_symbol_ 11 = .ok (.ifCond .ne 5, 3) := by decide +kernel
theorem dX9_symbol__14 : decode cX9_symbol_ 14 = .ok (.iconst (-1), 1) := by decide +kernel
theorem dX9_symbol__15 : decode cX9_symbol_ 15 = .ok (.ireturn, 1) := by decide +kernel
theorem dX9_takesTape_0 : decode cX9_takesTape 0 = .ok (.aload_n 0, 1) := by decide +kernel
theorem dX9_takesTape_1 : decode cX9_takesTape 1 = .ok (.aload_n 0, 1) := by decide +kernel
theorem dX9_takesTape_2 : decode cX9_takesTape 2 = .ok (.getfield 173, 3) := by decide +kernel
theorem dX9_takesTape_5 : decode cX9_takesTape 5 = .ok (.putfield 200, 3) := by decide +kernel
theorem dX9_takesTape_8 : decode cX9_takesTape 8 = .ok (.iconst 0, 1) := by decide +kernel
theorem dX9_takesTape_9 : decode cX9_takesTape 9 = .ok (.istore_n 1, 1) := by decide +kernel
theorem dX9_takesTape_10 : decode cX9_takesTape 10 = .ok (.iload_n 1, 1) := by decide +kernel
theorem dX9_takesTape_11 : decode cX9_takesTape 11 = .ok (.aload_n 0, 1) := by decide +kernel
theorem dX9_takesTape_12 : decode cX9_takesTape 12 = .ok (.getfield 173, 3) := by decide +kernel
theorem dX9_takesTape_15 : decode cX9_takesTape 15 = .ok (.if_icmp .ge 21, 3) := by decide +kernel
theorem dX9_takesTape_36 : decode cX9_takesTape 36 = .ok (.aload_n 0, 1) := by decide +kernel
theorem dX9_takesTape_37 : decode cX9_takesTape 37 = .ok (.iconst 0, 1) := by decide +kernel
theorem dX9_takesTape_38 : decode cX9_takesTape 38 = .ok (.putfield 173, 3) := by decide +kernel
theorem dX9_takesTape_41 : decode cX9_takesTape 41 = .ok (.return_, 1) := by decide +kernel
theorem dX9_test_0 : decode cX9_test 0 = .ok (.aload_n 0, 1) := by decide +kernel
theorem dX9_test_1 : decode cX9_test 1 = .ok (.getfield 389, 3) := by decide +kernel
theorem dX9_test_4 : decode cX9_test 4 = .ok (.ifCond .eq 12, 3) := by decide +kernel
theorem dX9_test_16 : decode cX9_test 16 = .ok (.iconst (-1), 1) := by decide +kernel
theorem dX9_test_17 : decode cX9_test 17 = .ok (.ireturn, 1) := by decide +kernel
theorem dX9_tree_0 : decode cX9_tree 0 = .ok (.aload_n 0, 1) := by decide +kernel
theorem dX9_tree_1 : decode cX9_tree 1 = .ok (.getfield 389, 3) := by decide +kernel
theorem dX9_tree_4 : decode cX9_tree 4 = .ok (.ifCond .ne 6, 3) := by decide +kernel
theorem dX9_tree_7 : decode cX9_tree 7 = .ok (.bipush (-2), 2) := by decide +kernel
theorem dX9_tree_9 : decode cX9_tree 9 = .ok (.ireturn, 1) := by decide +kernel
theorem dX9_value__0 : decode cX9_value_ 0 = .ok (.aload_n 0, 1) := by decide +kernel
theorem dX9_value__1 : decode cX9_value_ 1 = .ok (.iload_n 1, 1) := by decide +kernel
theorem dX9_value__2 : decode cX9_value_ 2 = .ok (.iload_n 2, 1) := by decide +kernel
theorem dX9_value__3 : decode cX9_value_ 3 = .ok (.invokevirtual 473, 3) := by decide +kernel
theorem dX9_value__6 : decode cX9_value_ 6 = .ok (.ifCond .eq 12, 3) := by decide +kernel
theorem dX9_value__18 : decode cX9_value_ 18 = .ok (.iconst (-1), 1) := by decide +kernel
theorem dX9_value__19 : decode cX9_value_ 19 = .ok (.ireturn, 1) := by decide +kernel
