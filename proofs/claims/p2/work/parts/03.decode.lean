theorem dX0_await_0 : decode cX0_await 0 = .ok (.aload_n 0, 1) := by decide +kernel
theorem dX0_await_1 : decode cX0_await 1 = .ok (.getfield 31, 3) := by decide +kernel
theorem dX0_await_4 : decode cX0_await 4 = .ok (.bipush 40, 2) := by decide +kernel
theorem dX0_await_6 : decode cX0_await 6 = .ok (.if_icmp .lt 5, 3) := by decide +kernel
theorem dX0_await_9 : decode cX0_await 9 = .ok (.iconst 4, 1) := by decide +kernel
theorem dX0_await_10 : decode cX0_await 10 = .ok (.ireturn, 1) := by decide +kernel
theorem dX0_await_11 : decode cX0_await 11 = .ok (.aload_n 0, 1) := by decide +kernel
theorem dX0_await_12 : decode cX0_await 12 = .ok (.getfield 27, 3) := by decide +kernel
theorem dX0_await_15 : decode cX0_await 15 = .ok (.aload_n 0, 1) := by decide +kernel
theorem dX0_await_16 : decode cX0_await 16 = .ok (.getfield 31, 3) := by decide +kernel
theorem dX0_await_19 : decode cX0_await 19 = .ok (.iload_n 1, 1) := by decide +kernel
theorem dX0_await_20 : decode cX0_await 20 = .ok (.iastore, 1) := by decide +kernel
theorem dX0_await_21 : decode cX0_await 21 = .ok (.aload_n 0, 1) := by decide +kernel
theorem dX0_await_22 : decode cX0_await 22 = .ok (.dup, 1) := by decide +kernel
theorem dX0_await_23 : decode cX0_await 23 = .ok (.getfield 31, 3) := by decide +kernel
theorem dX0_await_26 : decode cX0_await 26 = .ok (.iconst 1, 1) := by decide +kernel
theorem dX0_await_27 : decode cX0_await 27 = .ok (.iadd, 1) := by decide +kernel
theorem dX0_await_28 : decode cX0_await 28 = .ok (.putfield 31, 3) := by decide +kernel
theorem dX0_await_31 : decode cX0_await 31 = .ok (.aload_n 0, 1) := by decide +kernel
theorem dX0_await_32 : decode cX0_await 32 = .ok (.iconst 0, 1) := by decide +kernel
theorem dX0_await_33 : decode cX0_await 33 = .ok (.putfield 18, 3) := by decide +kernel
theorem dX0_await_36 : decode cX0_await 36 = .ok (.iconst 0, 1) := by decide +kernel
theorem dX0_await_37 : decode cX0_await 37 = .ok (.ireturn, 1) := by decide +kernel
theorem dX0_binary_0 : decode cX0_binary 0 = .ok (.aload_n 0, 1) := by decide +kernel
theorem dX0_binary_1 : decode cX0_binary 1 = .ok (.iload_n 1, 1) := by decide +kernel
theorem dX0_binary_2 : decode cX0_binary 2 = .ok (.invokevirtual 122, 3) := by decide +kernel
theorem dX0_binary_5 : decode cX0_binary 5 = .ok (.aload_n 0, 1) := by decide +kernel
theorem dX0_binary_6 : decode cX0_binary 6 = .ok (.invokevirtual 100, 3) := by decide +kernel
theorem dX0_binary_9 : decode cX0_binary 9 = .ok (.ifCond .eq 7, 3) := by decide +kernel
theorem dX0_binary_12 : decode cX0_binary 12 = .ok (.iconst 4, 1) := by decide +kernel
theorem dX0_binary_13 : decode cX0_binary 13 = .ok (.goto 14, 3) := by decide +kernel
theorem dX0_binary_16 : decode cX0_binary 16 = .ok (.aload_n 0, 1) := by decide +kernel
theorem dX0_binary_17 : decode cX0_binary 17 = .ok (.aload_n 0, 1) := by decide +kernel
theorem dX0_binary_18 : decode cX0_binary 18 = .ok (.getfield 41, 3) := by decide +kernel
theorem dX0_binary_21 : decode cX0_binary 21 = .ok (.getfield 70, 3) := by decide +kernel
theorem dX0_binary_24 : decode cX0_binary 24 = .ok (.invokevirtual 126, 3) := by decide +kernel
theorem dX0_binary_27 : decode cX0_binary 27 = .ok (.ireturn, 1) := by decide +kernel
theorem dX0_bindingOf_0 : decode cX0_bindingOf 0 = .ok (.iload_n 0, 1) := by decide +kernel
theorem dX0_bindingOf_1 : decode cX0_bindingOf 1 = .ok (.lookupswitch 93 #[(11, 91), (37, 85), (42, 85), (43, 87), (45, 87), (47, 85), (60, 89), (61, 89), (126, 83)], 83) := by decide +kernel
theorem dX0_bindingOf_84 : decode cX0_bindingOf 84 = .ok (.iconst 5, 1) := by decide +kernel
theorem dX0_bindingOf_85 : decode cX0_bindingOf 85 = .ok (.ireturn, 1) := by decide +kernel
theorem dX0_bindingOf_86 : decode cX0_bindingOf 86 = .ok (.iconst 4, 1) := by decide +kernel
theorem dX0_bindingOf_87 : decode cX0_bindingOf 87 = .ok (.ireturn, 1) := by decide +kernel
theorem dX0_bindingOf_88 : decode cX0_bindingOf 88 = .ok (.iconst 3, 1) := by decide +kernel
theorem dX0_bindingOf_89 : decode cX0_bindingOf 89 = .ok (.ireturn, 1) := by decide +kernel
theorem dX0_bindingOf_90 : decode cX0_bindingOf 90 = .ok (.iconst 2, 1) := by decide +kernel
theorem dX0_bindingOf_91 : decode cX0_bindingOf 91 = .ok (.ireturn, 1) := by decide +kernel
theorem dX0_bindingOf_92 : decode cX0_bindingOf 92 = .ok (.iconst 1, 1) := by decide +kernel
theorem dX0_bindingOf_93 : decode cX0_bindingOf 93 = .ok (.ireturn, 1) := by decide +kernel
theorem dX0_bindingOf_94 : decode cX0_bindingOf 94 = .ok (.iconst 0, 1) := by decide +kernel
theorem dX0_bindingOf_95 : decode cX0_bindingOf 95 = .ok (.ireturn, 1) := by decide +kernel
theorem dX0_closeParenthesis_0 : decode cX0_closeParenthesis 0 = .ok (.aload_n 0, 1) := by decide +kernel
theorem dX0_closeParenthesis_1 : decode cX0_closeParenthesis 1 = .ok (.iconst 1, 1) := by decide +kernel
theorem dX0_closeParenthesis_2 : decode cX0_closeParenthesis 2 = .ok (.invokevirtual 122, 3) := by decide +kernel
theorem dX0_closeParenthesis_5 : decode cX0_closeParenthesis 5 = .ok (.aload_n 0, 1) := by decide +kernel
theorem dX0_closeParenthesis_6 : decode cX0_closeParenthesis 6 = .ok (.invokevirtual 144, 3) := by decide +kernel
theorem dX0_closeParenthesis_9 : decode cX0_closeParenthesis 9 = .ok (.bipush 40, 2) := by decide +kernel
theorem dX0_closeParenthesis_11 : decode cX0_closeParenthesis 11 = .ok (.if_icmp .eq 5, 3) := by decide +kernel
theorem dX0_closeParenthesis_14 : decode cX0_closeParenthesis 14 = .ok (.iconst 1, 1) := by decide +kernel
theorem dX0_closeParenthesis_15 : decode cX0_closeParenthesis 15 = .ok (.ireturn, 1) := by decide +kernel
theorem dX0_closeParenthesis_16 : decode cX0_closeParenthesis 16 = .ok (.aload_n 0, 1) := by decide +kernel
theorem dX0_closeParenthesis_17 : decode cX0_closeParenthesis 17 = .ok (.dup, 1) := by decide +kernel
theorem dX0_closeParenthesis_18 : decode cX0_closeParenthesis 18 = .ok (.getfield 31, 3) := by decide +kernel
theorem dX0_closeParenthesis_21 : decode cX0_closeParenthesis 21 = .ok (.iconst 1, 1) := by decide +kernel
theorem dX0_closeParenthesis_22 : decode cX0_closeParenthesis 22 = .ok (.isub, 1) := by decide +kernel
theorem dX0_closeParenthesis_23 : decode cX0_closeParenthesis 23 = .ok (.putfield 31, 3) := by decide +kernel
theorem dX0_closeParenthesis_26 : decode cX0_closeParenthesis 26 = .ok (.aload_n 0, 1) := by decide +kernel
theorem dX0_closeParenthesis_27 : decode cX0_closeParenthesis 27 = .ok (.dup, 1) := by decide +kernel
theorem dX0_closeParenthesis_28 : decode cX0_closeParenthesis 28 = .ok (.getfield 34, 3) := by decide +kernel
theorem dX0_closeParenthesis_31 : decode cX0_closeParenthesis 31 = .ok (.iconst 1, 1) := by decide +kernel
theorem dX0_closeParenthesis_32 : decode cX0_closeParenthesis 32 = .ok (.isub, 1) := by decide +kernel
theorem dX0_closeParenthesis_33 : decode cX0_closeParenthesis 33 = .ok (.putfield 34, 3) := by decide +kernel
theorem dX0_closeParenthesis_36 : decode cX0_closeParenthesis 36 = .ok (.aload_n 0, 1) := by decide +kernel
theorem dX0_closeParenthesis_37 : decode cX0_closeParenthesis 37 = .ok (.iconst 5, 1) := by decide +kernel
theorem dX0_closeParenthesis_38 : decode cX0_closeParenthesis 38 = .ok (.invokevirtual 122, 3) := by decide +kernel
theorem dX0_closeParenthesis_41 : decode cX0_closeParenthesis 41 = .ok (.aload_n 0, 1) := by decide +kernel
theorem dX0_closeParenthesis_42 : decode cX0_closeParenthesis 42 = .ok (.iconst 3, 1) := by decide +kernel
theorem dX0_closeParenthesis_43 : decode cX0_closeParenthesis 43 = .ok (.putfield 18, 3) := by decide +kernel
theorem dX0_closeParenthesis_46 : decode cX0_closeParenthesis 46 = .ok (.aload_n 0, 1) := by decide +kernel
theorem dX0_closeParenthesis_47 : decode cX0_closeParenthesis 47 = .ok (.invokevirtual 100, 3) := by decide +kernel
theorem dX0_closeParenthesis_50 : decode cX0_closeParenthesis 50 = .ok (.ifCond .eq 7, 3) := by decide +kernel
theorem dX0_closeParenthesis_53 : decode cX0_closeParenthesis 53 = .ok (.iconst 4, 1) := by decide +kernel
theorem dX0_closeParenthesis_54 : decode cX0_closeParenthesis 54 = .ok (.goto 4, 3) := by decide +kernel
theorem dX0_closeParenthesis_57 : decode cX0_closeParenthesis 57 = .ok (.iconst 0, 1) := by decide +kernel
theorem dX0_closeParenthesis_58 : decode cX0_closeParenthesis 58 = .ok (.ireturn, 1) := by decide +kernel
theorem dX0_compare_0 : decode cX0_compare 0 = .ok (.aload_n 0, 1) := by decide +kernel
theorem dX0_compare_1 : decode cX0_compare 1 = .ok (.iconst 3, 1) := by decide +kernel
theorem dX0_compare_2 : decode cX0_compare 2 = .ok (.invokevirtual 122, 3) := by decide +kernel
theorem dX0_compare_5 : decode cX0_compare 5 = .ok (.aload_n 0, 1) := by decide +kernel
theorem dX0_compare_6 : decode cX0_compare 6 = .ok (.invokevirtual 94, 3) := by decide +kernel
theorem dX0_compare_9 : decode cX0_compare 9 = .ok (.iconst 2, 1) := by decide +kernel
theorem dX0_compare_10 : decode cX0_compare 10 = .ok (.if_icmp .ne 5, 3) := by decide +kernel
theorem dX0_compare_13 : decode cX0_compare 13 = .ok (.iconst 1, 1) := by decide +kernel
theorem dX0_compare_14 : decode cX0_compare 14 = .ok (.ireturn, 1) := by decide +kernel
theorem dX0_compare_15 : decode cX0_compare 15 = .ok (.aload_n 0, 1) := by decide +kernel
theorem dX0_compare_16 : decode cX0_compare 16 = .ok (.invokevirtual 100, 3) := by decide +kernel
theorem dX0_compare_19 : decode cX0_compare 19 = .ok (.ifCond .eq 7, 3) := by decide +kernel
theorem dX0_compare_22 : decode cX0_compare 22 = .ok (.iconst 4, 1) := by decide +kernel
theorem dX0_compare_23 : decode cX0_compare 23 = .ok (.goto 14, 3) := by decide +kernel
theorem dX0_compare_26 : decode cX0_compare 26 = .ok (.aload_n 0, 1) := by decide +kernel
theorem dX0_compare_27 : decode cX0_compare 27 = .ok (.aload_n 0, 1) := by decide +kernel
theorem dX0_compare_28 : decode cX0_compare 28 = .ok (.getfield 41, 3) := by decide +kernel
theorem dX0_compare_31 : decode cX0_compare 31 = .ok (.getfield 70, 3) := by decide +kernel
theorem dX0_compare_34 : decode cX0_compare 34 = .ok (.invokevirtual 126, 3) := by decide +kernel
theorem dX0_compare_37 : decode cX0_compare 37 = .ok (.ireturn, 1) := by decide +kernel
theorem dX0_emitOperand_0 : decode cX0_emitOperand 0 = .ok (.aload_n 0, 1) := by decide +kernel
theorem dX0_emitOperand_1 : decode cX0_emitOperand 1 = .ok (.invokevirtual 100, 3) := by decide +kernel
theorem dX0_emitOperand_4 : decode cX0_emitOperand 4 = .ok (.ifCond .eq 5, 3) := by decide +kernel
theorem dX0_emitOperand_7 : decode cX0_emitOperand 7 = .ok (.iconst 4, 1) := by decide +kernel
theorem dX0_emitOperand_8 : decode cX0_emitOperand 8 = .ok (.ireturn, 1) := by decide +kernel
theorem dX0_emitOperand_9 : decode cX0_emitOperand 9 = .ok (.lload_n 2, 1) := by decide +kernel
theorem dX0_emitOperand_10 : decode cX0_emitOperand 10 = .ok (.ldc2_w 116, 3) := by decide +kernel
theorem dX0_emitOperand_13 : decode cX0_emitOperand 13 = .ok (.lcmp, 1) := by decide +kernel
theorem dX0_emitOperand_14 : decode cX0_emitOperand 14 = .ok (.ifCond .le 5, 3) := by decide +kernel
theorem dX0_emitOperand_17 : decode cX0_emitOperand 17 = .ok (.iconst 5, 1) := by decide +kernel
theorem dX0_emitOperand_18 : decode cX0_emitOperand 18 = .ok (.ireturn, 1) := by decide +kernel
theorem dX0_emitOperand_19 : decode cX0_emitOperand 19 = .ok (.aload_n 0, 1) := by decide +kernel
theorem dX0_emitOperand_20 : decode cX0_emitOperand 20 = .ok (.getfield 45, 3) := by decide +kernel
theorem dX0_emitOperand_23 : decode cX0_emitOperand 23 = .ok (.iload_n 1, 1) := by decide +kernel
theorem dX0_emitOperand_24 : decode cX0_emitOperand 24 = .ok (.lload_n 2, 1) := by decide +kernel
theorem dX0_emitOperand_25 : decode cX0_emitOperand 25 = .ok (.l2i, 1) := by decide +kernel
theorem dX0_emitOperand_26 : decode cX0_emitOperand 26 = .ok (.invokevirtual 118, 3) := by decide +kernel
theorem dX0_emitOperand_29 : decode cX0_emitOperand 29 = .ok (.aload_n 0, 1) := by decide +kernel
theorem dX0_emitOperand_30 : decode cX0_emitOperand 30 = .ok (.iconst 5, 1) := by decide +kernel
theorem dX0_emitOperand_31 : decode cX0_emitOperand 31 = .ok (.invokevirtual 122, 3) := by decide +kernel
theorem dX0_emitOperand_34 : decode cX0_emitOperand 34 = .ok (.aload_n 0, 1) := by decide +kernel
theorem dX0_emitOperand_35 : decode cX0_emitOperand 35 = .ok (.iconst 3, 1) := by decide +kernel
theorem dX0_emitOperand_36 : decode cX0_emitOperand 36 = .ok (.putfield 18, 3) := by decide +kernel
theorem dX0_emitOperand_39 : decode cX0_emitOperand 39 = .ok (.iconst 0, 1) := by decide +kernel
theorem dX0_emitOperand_40 : decode cX0_emitOperand 40 = .ok (.ireturn, 1) := by decide +kernel
theorem dX0_finish_0 : decode cX0_finish 0 = .ok (.aload_n 0, 1) := by decide +kernel
theorem dX0_finish_1 : decode cX0_finish 1 = .ok (.iconst 1, 1) := by decide +kernel
theorem dX0_finish_2 : decode cX0_finish 2 = .ok (.invokevirtual 122, 3) := by decide +kernel
theorem dX0_finish_5 : decode cX0_finish 5 = .ok (.aload_n 0, 1) := by decide +kernel
theorem dX0_finish_6 : decode cX0_finish 6 = .ok (.getfield 31, 3) := by decide +kernel
theorem dX0_finish_9 : decode cX0_finish 9 = .ok (.ifCond .le 5, 3) := by decide +kernel
theorem dX0_finish_12 : decode cX0_finish 12 = .ok (.iconst 1, 1) := by decide +kernel
theorem dX0_finish_13 : decode cX0_finish 13 = .ok (.ireturn, 1) := by decide +kernel
theorem dX0_finish_14 : decode cX0_finish 14 = .ok (.aload_n 0, 1) := by decide +kernel
theorem dX0_finish_15 : decode cX0_finish 15 = .ok (.getfield 45, 3) := by decide +kernel
theorem dX0_finish_18 : decode cX0_finish 18 = .ok (.getfield 147, 3) := by decide +kernel
theorem dX0_finish_21 : decode cX0_finish 21 = .ok (.aload_n 0, 1) := by decide +kernel
theorem dX0_finish_22 : decode cX0_finish 22 = .ok (.getfield 15, 3) := by decide +kernel
theorem dX0_finish_25 : decode cX0_finish 25 = .ok (.aload_n 0, 1) := by decide +kernel
theorem dX0_finish_26 : decode cX0_finish 26 = .ok (.getfield 45, 3) := by decide +kernel
theorem dX0_finish_29 : decode cX0_finish 29 = .ok (.getfield 54, 3) := by decide +kernel
theorem dX0_finish_32 : decode cX0_finish 32 = .ok (.iastore, 1) := by decide +kernel
theorem dX0_finish_33 : decode cX0_finish 33 = .ok (.aload_n 0, 1) := by decide +kernel
theorem dX0_finish_34 : decode cX0_finish 34 = .ok (.getfield 45, 3) := by decide +kernel
theorem dX0_finish_37 : decode cX0_finish 37 = .ok (.getfield 150, 3) := by decide +kernel
theorem dX0_finish_40 : decode cX0_finish 40 = .ok (.aload_n 0, 1) := by decide +kernel
theorem dX0_finish_41 : decode cX0_finish 41 = .ok (.getfield 9, 3) := by decide +kernel
theorem dX0_finish_44 : decode cX0_finish 44 = .ok (.dup2, 1) := by decide +kernel
theorem dX0_finish_45 : decode cX0_finish 45 = .ok (.iaload, 1) := by decide +kernel
theorem dX0_finish_46 : decode cX0_finish 46 = .ok (.iconst 1, 1) := by decide +kernel
theorem dX0_finish_47 : decode cX0_finish 47 = .ok (.iadd, 1) := by decide +kernel
theorem dX0_finish_48 : decode cX0_finish 48 = .ok (.iastore, 1) := by decide +kernel
theorem dX0_finish_49 : decode cX0_finish 49 = .ok (.aload_n 0, 1) := by decide +kernel
theorem dX0_finish_50 : decode cX0_finish 50 = .ok (.iconst 1, 1) := by decide +kernel
theorem dX0_finish_51 : decode cX0_finish 51 = .ok (.putfield 37, 3) := by decide +kernel
theorem dX0_finish_54 : decode cX0_finish 54 = .ok (.iconst 0, 1) := by decide +kernel
theorem dX0_finish_55 : decode cX0_finish 55 = .ok (.ireturn, 1) := by decide +kernel
theorem dX0_isOneTooMany_0 : decode cX0_isOneTooMany 0 = .ok (.aload_n 0, 1) := by decide +kernel
theorem dX0_isOneTooMany_1 : decode cX0_isOneTooMany 1 = .ok (.dup, 1) := by decide +kernel
theorem dX0_isOneTooMany_2 : decode cX0_isOneTooMany 2 = .ok (.getfield 21, 3) := by decide +kernel
theorem dX0_isOneTooMany_5 : decode cX0_isOneTooMany 5 = .ok (.iconst 1, 1) := by decide +kernel
theorem dX0_isOneTooMany_6 : decode cX0_isOneTooMany 6 = .ok (.iadd, 1) := by decide +kernel
theorem dX0_isOneTooMany_7 : decode cX0_isOneTooMany 7 = .ok (.putfield 21, 3) := by decide +kernel
theorem dX0_isOneTooMany_10 : decode cX0_isOneTooMany 10 = .ok (.aload_n 0, 1) := by decide +kernel
theorem dX0_isOneTooMany_11 : decode cX0_isOneTooMany 11 = .ok (.getfield 21, 3) := by decide +kernel
theorem dX0_isOneTooMany_14 : decode cX0_isOneTooMany 14 = .ok (.bipush 40, 2) := by decide +kernel
theorem dX0_isOneTooMany_16 : decode cX0_isOneTooMany 16 = .ok (.if_icmp .le 7, 3) := by decide +kernel
theorem dX0_isOneTooMany_19 : decode cX0_isOneTooMany 19 = .ok (.iconst 1, 1) := by decide +kernel
theorem dX0_isOneTooMany_20 : decode cX0_isOneTooMany 20 = .ok (.goto 4, 3) := by decide +kernel
theorem dX0_isOneTooMany_23 : decode cX0_isOneTooMany 23 = .ok (.iconst 0, 1) := by decide +kernel
theorem dX0_isOneTooMany_24 : decode cX0_isOneTooMany 24 = .ok (.ireturn, 1) := by decide +kernel
theorem dX0_occDot_0 : decode cX0_occDot 0 = .ok (.aload_n 0, 1) := by decide +kernel
theorem dX0_occDot_1 : decode cX0_occDot 1 = .ok (.getfield 41, 3) := by decide +kernel
theorem dX0_occDot_4 : decode cX0_occDot 4 = .ok (.getfield 70, 3) := by decide +kernel
theorem dX0_occDot_7 : decode cX0_occDot 7 = .ok (.bipush 46, 2) := by decide +kernel
theorem dX0_occDot_9 : decode cX0_occDot 9 = .ok (.if_icmp .eq 5, 3) := by decide +kernel
theorem dX0_occDot_12 : decode cX0_occDot 12 = .ok (.iconst 1, 1) := by decide +kernel
theorem dX0_occDot_13 : decode cX0_occDot 13 = .ok (.ireturn, 1) := by decide +kernel
theorem dX0_occDot_14 : decode cX0_occDot 14 = .ok (.aload_n 0, 1) := by decide +kernel
theorem dX0_occDot_15 : decode cX0_occDot 15 = .ok (.iconst 2, 1) := by decide +kernel
theorem dX0_occDot_16 : decode cX0_occDot 16 = .ok (.putfield 18, 3) := by decide +kernel
theorem dX0_occDot_19 : decode cX0_occDot 19 = .ok (.aload_n 0, 1) := by decide +kernel
theorem dX0_occDot_20 : decode cX0_occDot 20 = .ok (.invokevirtual 100, 3) := by decide +kernel
theorem dX0_occDot_23 : decode cX0_occDot 23 = .ok (.ifCond .eq 7, 3) := by decide +kernel
theorem dX0_occDot_26 : decode cX0_occDot 26 = .ok (.iconst 4, 1) := by decide +kernel
theorem dX0_occDot_27 : decode cX0_occDot 27 = .ok (.goto 4, 3) := by decide +kernel
theorem dX0_occDot_30 : decode cX0_occDot 30 = .ok (.iconst 0, 1) := by decide +kernel
theorem dX0_occDot_31 : decode cX0_occDot 31 = .ok (.ireturn, 1) := by decide +kernel
theorem dX0_occName_0 : decode cX0_occName 0 = .ok (.aload_n 0, 1) := by decide +kernel
theorem dX0_occName_1 : decode cX0_occName 1 = .ok (.getfield 41, 3) := by decide +kernel
theorem dX0_occName_4 : decode cX0_occName 4 = .ok (.getfield 70, 3) := by decide +kernel
theorem dX0_occName_7 : decode cX0_occName 7 = .ok (.iconst 1, 1) := by decide +kernel
theorem dX0_occName_8 : decode cX0_occName 8 = .ok (.if_icmp .eq 5, 3) := by decide +kernel
theorem dX0_occName_11 : decode cX0_occName 11 = .ok (.iconst 1, 1) := by decide +kernel
theorem dX0_occName_12 : decode cX0_occName 12 = .ok (.ireturn, 1) := by decide +kernel
theorem dX0_occName_13 : decode cX0_occName 13 = .ok (.aload_n 0, 1) := by decide +kernel
theorem dX0_occName_14 : decode cX0_occName 14 = .ok (.getfield 45, 3) := by decide +kernel
theorem dX0_occName_17 : decode cX0_occName 17 = .ok (.aload_n 0, 1) := by decide +kernel
theorem dX0_occName_18 : decode cX0_occName 18 = .ok (.getfield 45, 3) := by decide +kernel
theorem dX0_occName_21 : decode cX0_occName 21 = .ok (.aload_n 0, 1) := by decide +kernel
theorem dX0_occName_22 : decode cX0_occName 22 = .ok (.getfield 9, 3) := by decide +kernel
theorem dX0_occName_25 : decode cX0_occName 25 = .ok (.aload_n 0, 1) := by decide +kernel
theorem dX0_occName_26 : decode cX0_occName 26 = .ok (.getfield 24, 3) := by decide +kernel
theorem dX0_occName_29 : decode cX0_occName 29 = .ok (.invokevirtual 103, 3) := by decide +kernel
theorem dX0_occName_32 : decode cX0_occName 32 = .ok (.aload_n 0, 1) := by decide +kernel
theorem dX0_occName_33 : decode cX0_occName 33 = .ok (.getfield 41, 3) := by decide +kernel
theorem dX0_occName_36 : decode cX0_occName 36 = .ok (.getfield 107, 3) := by decide +kernel
theorem dX0_occName_39 : decode cX0_occName 39 = .ok (.invokevirtual 110, 3) := by decide +kernel
theorem dX0_occName_42 : decode cX0_occName 42 = .ok (.istore_n 1, 1) := by decide +kernel
theorem dX0_occName_43 : decode cX0_occName 43 = .ok (.iload_n 1, 1) := by decide +kernel
theorem dX0_occName_44 : decode cX0_occName 44 = .ok (.iconst (-1), 1) := by decide +kernel
theorem dX0_occName_45 : decode cX0_occName 45 = .ok (.if_icmp .ne 5, 3) := by decide +kernel
theorem dX0_occName_48 : decode cX0_occName 48 = .ok (.iconst 3, 1) := by decide +kernel
theorem dX0_occName_49 : decode cX0_occName 49 = .ok (.ireturn, 1) := by decide +kernel
theorem dX0_occName_50 : decode cX0_occName 50 = .ok (.aload_n 0, 1) := by decide +kernel
theorem dX0_occName_51 : decode cX0_occName 51 = .ok (.getfield 24, 3) := by decide +kernel
theorem dX0_occName_54 : decode cX0_occName 54 = .ok (.bipush 6, 2) := by decide +kernel
theorem dX0_occName_56 : decode cX0_occName 56 = .ok (.imul, 1) := by decide +kernel
theorem dX0_occName_57 : decode cX0_occName 57 = .ok (.iload_n 1, 1) := by decide +kernel
theorem dX0_occName_58 : decode cX0_occName 58 = .ok (.iadd, 1) := by decide +kernel
theorem dX0_occName_59 : decode cX0_occName 59 = .ok (.istore_n 2, 1) := by decide +kernel
theorem dX0_occName_60 : decode cX0_occName 60 = .ok (.aload_n 0, 1) := by decide +kernel
theorem dX0_occName_61 : decode cX0_occName 61 = .ok (.getfield 45, 3) := by decide +kernel
theorem dX0_occName_64 : decode cX0_occName 64 = .ok (.getfield 113, 3) := by decide +kernel
theorem dX0_occName_67 : decode cX0_occName 67 = .ok (.aload_n 0, 1) := by decide +kernel
theorem dX0_occName_68 : decode cX0_occName 68 = .ok (.getfield 15, 3) := by decide +kernel
theorem dX0_occName_71 : decode cX0_occName 71 = .ok (.dup2, 1) := by decide +kernel
theorem dX0_occName_72 : decode cX0_occName 72 = .ok (.iaload, 1) := by decide +kernel
theorem dX0_occName_73 : decode cX0_occName 73 = .ok (.iconst 1, 1) := by decide +kernel
theorem dX0_occName_74 : decode cX0_occName 74 = .ok (.iload_n 2, 1) := by decide +kernel
theorem dX0_occName_75 : decode cX0_occName 75 = .ok (.ishl, 1) := by decide +kernel
theorem dX0_occName_76 : decode cX0_occName 76 = .ok (.ior, 1) := by decide +kernel
theorem dX0_occName_77 : decode cX0_occName 77 = .ok (.iastore, 1) := by decide +kernel
theorem dX0_occName_78 : decode cX0_occName 78 = .ok (.aload_n 0, 1) := by decide +kernel
theorem dX0_occName_79 : decode cX0_occName 79 = .ok (.bipush 46, 2) := by decide +kernel
theorem dX0_occName_81 : decode cX0_occName 81 = .ok (.iload_n 2, 1) := by decide +kernel
theorem dX0_occName_82 : decode cX0_occName 82 = .ok (.i2l, 1) := by decide +kernel
theorem dX0_occName_83 : decode cX0_occName 83 = .ok (.invokevirtual 86, 3) := by decide +kernel
theorem dX0_occName_86 : decode cX0_occName 86 = .ok (.ireturn, 1) := by decide +kernel
theorem dX0_occNumber_0 : decode cX0_occNumber 0 = .ok (.aload_n 0, 1) := by decide +kernel
theorem dX0_occNumber_1 : decode cX0_occNumber 1 = .ok (.getfield 41, 3) := by decide +kernel
theorem dX0_occNumber_4 : decode cX0_occNumber 4 = .ok (.getfield 82, 3) := by decide +kernel
theorem dX0_occNumber_7 : decode cX0_occNumber 7 = .ok (.aload_n 0, 1) := by decide +kernel
theorem dX0_occNumber_8 : decode cX0_occNumber 8 = .ok (.getfield 45, 3) := by decide +kernel
theorem dX0_occNumber_11 : decode cX0_occNumber 11 = .ok (.getfield 97, 3) := by decide +kernel
theorem dX0_occNumber_14 : decode cX0_occNumber 14 = .ok (.aload_n 0, 1) := by decide +kernel
theorem dX0_occNumber_15 : decode cX0_occNumber 15 = .ok (.getfield 9, 3) := by decide +kernel
theorem dX0_occNumber_18 : decode cX0_occNumber 18 = .ok (.iaload, 1) := by decide +kernel
theorem dX0_occNumber_19 : decode cX0_occNumber 19 = .ok (.i2l, 1) := by decide +kernel
theorem dX0_occNumber_20 : decode cX0_occNumber 20 = .ok (.lcmp, 1) := by decide +kernel
theorem dX0_occNumber_21 : decode cX0_occNumber 21 = .ok (.ifCond .le 5, 3) := by decide +kernel
theorem dX0_occNumber_24 : decode cX0_occNumber 24 = .ok (.iconst 3, 1) := by decide +kernel
theorem dX0_occNumber_25 : decode cX0_occNumber 25 = .ok (.ireturn, 1) := by decide +kernel
theorem dX0_occNumber_26 : decode cX0_occNumber 26 = .ok (.aload_n 0, 1) := by decide +kernel
theorem dX0_occNumber_27 : decode cX0_occNumber 27 = .ok (.invokevirtual 100, 3) := by decide +kernel
theorem dX0_occNumber_30 : decode cX0_occNumber 30 = .ok (.ifCond .eq 5, 3) := by decide +kernel
theorem dX0_occNumber_33 : decode cX0_occNumber 33 = .ok (.iconst 4, 1) := by decide +kernel
theorem dX0_occNumber_34 : decode cX0_occNumber 34 = .ok (.ireturn, 1) := by decide +kernel
theorem dX0_occNumber_35 : decode cX0_occNumber 35 = .ok (.aload_n 0, 1) := by decide +kernel
theorem dX0_occNumber_36 : decode cX0_occNumber 36 = .ok (.aload_n 0, 1) := by decide +kernel
theorem dX0_occNumber_37 : decode cX0_occNumber 37 = .ok (.getfield 41, 3) := by decide +kernel
theorem dX0_occNumber_40 : decode cX0_occNumber 40 = .ok (.getfield 82, 3) := by decide +kernel
theorem dX0_occNumber_43 : decode cX0_occNumber 43 = .ok (.l2i, 1) := by decide +kernel
theorem dX0_occNumber_44 : decode cX0_occNumber 44 = .ok (.putfield 24, 3) := by decide +kernel
theorem dX0_occNumber_47 : decode cX0_occNumber 47 = .ok (.aload_n 0, 1) := by decide +kernel
theorem dX0_occNumber_48 : decode cX0_occNumber 48 = .ok (.iconst 1, 1) := by decide +kernel
theorem dX0_occNumber_49 : decode cX0_occNumber 49 = .ok (.putfield 18, 3) := by decide +kernel
theorem dX0_occNumber_52 : decode cX0_occNumber 52 = .ok (.iconst 0, 1) := by decide +kernel
theorem dX0_occNumber_53 : decode cX0_occNumber 53 = .ok (.ireturn, 1) := by decide +kernel
theorem dX0_open_0 : decode cX0_open 0 = .ok (.aload_n 0, 1) := by decide +kernel
theorem dX0_open_1 : decode cX0_open 1 = .ok (.invokevirtual 100, 3) := by decide +kernel
theorem dX0_open_4 : decode cX0_open 4 = .ok (.ifCond .ne 12, 3) := by decide +kernel
theorem dX0_open_7 : decode cX0_open 7 = .ok (.aload_n 0, 1) := by decide +kernel
theorem dX0_open_8 : decode cX0_open 8 = .ok (.getfield 34, 3) := by decide +kernel
theorem dX0_open_11 : decode cX0_open 11 = .ok (.bipush 20, 2) := by decide +kernel
theorem dX0_open_13 : decode cX0_open 13 = .ok (.if_icmp .lt 5, 3) := by decide +kernel
theorem dX0_open_16 : decode cX0_open 16 = .ok (.iconst 4, 1) := by decide +kernel
theorem dX0_open_17 : decode cX0_open 17 = .ok (.ireturn, 1) := by decide +kernel
theorem dX0_open_18 : decode cX0_open 18 = .ok (.aload_n 0, 1) := by decide +kernel
theorem dX0_open_19 : decode cX0_open 19 = .ok (.dup, 1) := by decide +kernel
theorem dX0_open_20 : decode cX0_open 20 = .ok (.getfield 34, 3) := by decide +kernel
theorem dX0_open_23 : decode cX0_open 23 = .ok (.iconst 1, 1) := by decide +kernel
theorem dX0_open_24 : decode cX0_open 24 = .ok (.iadd, 1) := by decide +kernel
theorem dX0_open_25 : decode cX0_open 25 = .ok (.putfield 34, 3) := by decide +kernel
theorem dX0_open_28 : decode cX0_open 28 = .ok (.aload_n 0, 1) := by decide +kernel
theorem dX0_open_29 : decode cX0_open 29 = .ok (.iload_n 1, 1) := by decide +kernel
theorem dX0_open_30 : decode cX0_open 30 = .ok (.invokevirtual 126, 3) := by decide +kernel
theorem dX0_open_33 : decode cX0_open 33 = .ok (.ireturn, 1) := by decide +kernel
theorem dX0_operand_0 : decode cX0_operand 0 = .ok (.aload_n 0, 1) := by decide +kernel
theorem dX0_operand_1 : decode cX0_operand 1 = .ok (.getfield 41, 3) := by decide +kernel
theorem dX0_operand_4 : decode cX0_operand 4 = .ok (.getfield 70, 3) := by decide +kernel
theorem dX0_operand_7 : decode cX0_operand 7 = .ok (.lookupswitch 120 #[(2, 49), (8, 79), (9, 101), (40, 87), (45, 94)], 49) := by decide +kernel
theorem dX0_operand_56 : decode cX0_operand 56 = .ok (.aload_n 0, 1) := by decide +kernel
theorem dX0_operand_57 : decode cX0_operand 57 = .ok (.getfield 41, 3) := by decide +kernel
theorem dX0_operand_60 : decode cX0_operand 60 = .ok (.invokevirtual 75, 3) := by decide +kernel
theorem dX0_operand_63 : decode cX0_operand 63 = .ok (.ifCond .eq 10, 3) := by decide +kernel
theorem dX0_operand_66 : decode cX0_operand 66 = .ok (.aload_n 0, 1) := by decide +kernel
theorem dX0_operand_67 : decode cX0_operand 67 = .ok (.invokevirtual 79, 3) := by decide +kernel
theorem dX0_operand_70 : decode cX0_operand 70 = .ok (.goto 15, 3) := by decide +kernel
theorem dX0_operand_73 : decode cX0_operand 73 = .ok (.aload_n 0, 1) := by decide +kernel
theorem dX0_operand_74 : decode cX0_operand 74 = .ok (.iconst 2, 1) := by decide +kernel
theorem dX0_operand_75 : decode cX0_operand 75 = .ok (.aload_n 0, 1) := by decide +kernel
theorem dX0_operand_76 : decode cX0_operand 76 = .ok (.getfield 41, 3) := by decide +kernel
theorem dX0_operand_79 : decode cX0_operand 79 = .ok (.getfield 82, 3) := by decide +kernel
theorem dX0_operand_82 : decode cX0_operand 82 = .ok (.invokevirtual 86, 3) := by decide +kernel
theorem dX0_operand_85 : decode cX0_operand 85 = .ok (.ireturn, 1) := by decide +kernel
theorem dX0_operand_86 : decode cX0_operand 86 = .ok (.aload_n 0, 1) := by decide +kernel
theorem dX0_operand_87 : decode cX0_operand 87 = .ok (.bipush 8, 2) := by decide +kernel
theorem dX0_operand_89 : decode cX0_operand 89 = .ok (.lconst 0, 1) := by decide +kernel
theorem dX0_operand_90 : decode cX0_operand 90 = .ok (.invokevirtual 86, 3) := by decide +kernel
theorem dX0_operand_93 : decode cX0_operand 93 = .ok (.ireturn, 1) := by decide +kernel
theorem dX0_operand_94 : decode cX0_operand 94 = .ok (.aload_n 0, 1) := by decide +kernel
theorem dX0_operand_95 : decode cX0_operand 95 = .ok (.bipush 40, 2) := by decide +kernel
theorem dX0_operand_97 : decode cX0_operand 97 = .ok (.invokevirtual 90, 3) := by decide +kernel
theorem dX0_operand_100 : decode cX0_operand 100 = .ok (.ireturn, 1) := by decide +kernel
theorem dX0_operand_101 : decode cX0_operand 101 = .ok (.aload_n 0, 1) := by decide +kernel
theorem dX0_operand_102 : decode cX0_operand 102 = .ok (.bipush 126, 2) := by decide +kernel
theorem dX0_operand_104 : decode cX0_operand 104 = .ok (.invokevirtual 90, 3) := by decide +kernel
theorem dX0_operand_107 : decode cX0_operand 107 = .ok (.ireturn, 1) := by decide +kernel
theorem dX0_operand_108 : decode cX0_operand 108 = .ok (.aload_n 0, 1) := by decide +kernel
theorem dX0_operand_109 : decode cX0_operand 109 = .ok (.invokevirtual 94, 3) := by decide +kernel
theorem dX0_operand_112 : decode cX0_operand 112 = .ok (.iconst 1, 1) := by decide +kernel
theorem dX0_operand_113 : decode cX0_operand 113 = .ok (.if_icmp .gt 12, 3) := by decide +kernel
theorem dX0_operand_116 : decode cX0_operand 116 = .ok (.aload_n 0, 1) := by decide +kernel
theorem dX0_operand_117 : decode cX0_operand 117 = .ok (.bipush 9, 2) := by decide +kernel
theorem dX0_operand_119 : decode cX0_operand 119 = .ok (.invokevirtual 90, 3) := by decide +kernel
theorem dX0_operand_122 : decode cX0_operand 122 = .ok (.goto 4, 3) := by decide +kernel
theorem dX0_operand_125 : decode cX0_operand 125 = .ok (.iconst 1, 1) := by decide +kernel
theorem dX0_operand_126 : decode cX0_operand 126 = .ok (.ireturn, 1) := by decide +kernel
theorem dX0_operand_127 : decode cX0_operand 127 = .ok (.iconst 1, 1) := by decide +kernel
theorem dX0_operand_128 : decode cX0_operand 128 = .ok (.ireturn, 1) := by decide +kernel
theorem dX0_operator_0 : decode cX0_operator 0 = .ok (.aload_n 0, 1) := by decide +kernel
theorem dX0_operator_1 : decode cX0_operator 1 = .ok (.getfield 41, 3) := by decide +kernel
theorem dX0_operator_4 : decode cX0_operator 4 = .ok (.getfield 70, 3) := by decide +kernel
theorem dX0_operator_7 : decode cX0_operator 7 = .ok (.lookupswitch 142 #[(10, 119), (11, 128), (37, 97), (41, 114), (42, 97), (43, 103), (45, 103), (47, 97), (59, 137), (60, 109), (61, 109)], 97) := by decide +kernel
theorem dX0_operator_104 : decode cX0_operator 104 = .ok (.aload_n 0, 1) := by decide +kernel
theorem dX0_operator_105 : decode cX0_operator 105 = .ok (.iconst 4, 1) := by decide +kernel
theorem dX0_operator_106 : decode cX0_operator 106 = .ok (.invokevirtual 129, 3) := by decide +kernel
theorem dX0_operator_109 : decode cX0_operator 109 = .ok (.ireturn, 1) := by decide +kernel
theorem dX0_operator_110 : decode cX0_operator 110 = .ok (.aload_n 0, 1) := by decide +kernel
theorem dX0_operator_111 : decode cX0_operator 111 = .ok (.iconst 3, 1) := by decide +kernel
theorem dX0_operator_112 : decode cX0_operator 112 = .ok (.invokevirtual 129, 3) := by decide +kernel
theorem dX0_operator_115 : decode cX0_operator 115 = .ok (.ireturn, 1) := by decide +kernel
theorem dX0_operator_116 : decode cX0_operator 116 = .ok (.aload_n 0, 1) := by decide +kernel
theorem dX0_operator_117 : decode cX0_operator 117 = .ok (.invokevirtual 132, 3) := by decide +kernel
theorem dX0_operator_120 : decode cX0_operator 120 = .ok (.ireturn, 1) := by decide +kernel
theorem dX0_operator_121 : decode cX0_operator 121 = .ok (.aload_n 0, 1) := by decide +kernel
theorem dX0_operator_122 : decode cX0_operator 122 = .ok (.invokevirtual 135, 3) := by decide +kernel
theorem dX0_operator_125 : decode cX0_operator 125 = .ok (.ireturn, 1) := by decide +kernel
theorem dX0_operator_126 : decode cX0_operator 126 = .ok (.aload_n 0, 1) := by decide +kernel
theorem dX0_operator_127 : decode cX0_operator 127 = .ok (.bipush 9, 2) := by decide +kernel
theorem dX0_operator_129 : decode cX0_operator 129 = .ok (.bipush 10, 2) := by decide +kernel
theorem dX0_operator_131 : decode cX0_operator 131 = .ok (.invokevirtual 138, 3) := by decide +kernel
theorem dX0_operator_134 : decode cX0_operator 134 = .ok (.ireturn, 1) := by decide +kernel
theorem dX0_operator_135 : decode cX0_operator 135 = .ok (.aload_n 0, 1) := by decide +kernel
theorem dX0_operator_136 : decode cX0_operator 136 = .ok (.bipush 10, 2) := by decide +kernel
theorem dX0_operator_138 : decode cX0_operator 138 = .ok (.bipush 11, 2) := by decide +kernel
theorem dX0_operator_140 : decode cX0_operator 140 = .ok (.invokevirtual 138, 3) := by decide +kernel
theorem dX0_operator_143 : decode cX0_operator 143 = .ok (.ireturn, 1) := by decide +kernel
theorem dX0_operator_144 : decode cX0_operator 144 = .ok (.aload_n 0, 1) := by decide +kernel
theorem dX0_operator_145 : decode cX0_operator 145 = .ok (.invokevirtual 141, 3) := by decide +kernel
theorem dX0_operator_148 : decode cX0_operator 148 = .ok (.ireturn, 1) := by decide +kernel
theorem dX0_operator_149 : decode cX0_operator 149 = .ok (.iconst 1, 1) := by decide +kernel
theorem dX0_operator_150 : decode cX0_operator 150 = .ok (.ireturn, 1) := by decide +kernel
theorem dX0_settle_0 : decode cX0_settle 0 = .ok (.aload_n 0, 1) := by decide +kernel
theorem dX0_settle_1 : decode cX0_settle 1 = .ok (.getfield 31, 3) := by decide +kernel
theorem dX0_settle_4 : decode cX0_settle 4 = .ok (.istore_n 2, 1) := by decide +kernel
theorem dX0_settle_5 : decode cX0_settle 5 = .ok (.iload_n 2, 1) := by decide +kernel
theorem dX0_settle_6 : decode cX0_settle 6 = .ok (.ifCond .le 71, 3) := by decide +kernel
theorem dX0_settle_9 : decode cX0_settle 9 = .ok (.aload_n 0, 1) := by decide +kernel
theorem dX0_settle_10 : decode cX0_settle 10 = .ok (.getfield 27, 3) := by decide +kernel
theorem dX0_settle_13 : decode cX0_settle 13 = .ok (.iload_n 2, 1) := by decide +kernel
theorem dX0_settle_14 : decode cX0_settle 14 = .ok (.iconst 1, 1) := by decide +kernel
theorem dX0_settle_15 : decode cX0_settle 15 = .ok (.isub, 1) := by decide +kernel
theorem dX0_settle_16 : decode cX0_settle 16 = .ok (.iaload, 1) := by decide +kernel
theorem dX0_settle_17 : decode cX0_settle 17 = .ok (.invokestatic 153, 3) := by decide +kernel
theorem dX0_settle_20 : decode cX0_settle 20 = .ok (.iload_n 1, 1) := by decide +kernel
theorem dX0_settle_21 : decode cX0_settle 21 = .ok (.if_icmp .lt 56, 3) := by decide +kernel
theorem dX0_settle_24 : decode cX0_settle 24 = .ok (.aload_n 0, 1) := by decide +kernel
theorem dX0_settle_25 : decode cX0_settle 25 = .ok (.getfield 27, 3) := by decide +kernel
theorem dX0_settle_28 : decode cX0_settle 28 = .ok (.iload_n 2, 1) := by decide +kernel
theorem dX0_settle_29 : decode cX0_settle 29 = .ok (.iconst 1, 1) := by decide +kernel
theorem dX0_settle_30 : decode cX0_settle 30 = .ok (.isub, 1) := by decide +kernel
theorem dX0_settle_31 : decode cX0_settle 31 = .ok (.iaload, 1) := by decide +kernel
theorem dX0_settle_32 : decode cX0_settle 32 = .ok (.istore_n 3, 1) := by decide +kernel
theorem dX0_settle_33 : decode cX0_settle 33 = .ok (.aload_n 0, 1) := by decide +kernel
theorem dX0_settle_34 : decode cX0_settle 34 = .ok (.getfield 45, 3) := by decide +kernel
theorem dX0_settle_37 : decode cX0_settle 37 = .ok (.iload_n 3, 1) := by decide +kernel
theorem dX0_settle_38 : decode cX0_settle 38 = .ok (.iconst 0, 1) := by decide +kernel
theorem dX0_settle_39 : decode cX0_settle 39 = .ok (.invokevirtual 118, 3) := by decide +kernel
theorem dX0_settle_42 : decode cX0_settle 42 = .ok (.aload_n 0, 1) := by decide +kernel
theorem dX0_settle_43 : decode cX0_settle 43 = .ok (.iload_n 2, 1) := by decide +kernel
theorem dX0_settle_44 : decode cX0_settle 44 = .ok (.iconst 1, 1) := by decide +kernel
theorem dX0_settle_45 : decode cX0_settle 45 = .ok (.isub, 1) := by decide +kernel
theorem dX0_settle_46 : decode cX0_settle 46 = .ok (.putfield 31, 3) := by decide +kernel
theorem dX0_settle_49 : decode cX0_settle 49 = .ok (.iload_n 3, 1) := by decide +kernel
theorem dX0_settle_50 : decode cX0_settle 50 = .ok (.bipush 126, 2) := by decide +kernel
theorem dX0_settle_52 : decode cX0_settle 52 = .ok (.if_icmp .eq 9, 3) := by decide +kernel
theorem dX0_settle_55 : decode cX0_settle 55 = .ok (.iload_n 3, 1) := by decide +kernel
theorem dX0_settle_56 : decode cX0_settle 56 = .ok (.bipush 11, 2) := by decide +kernel
theorem dX0_settle_58 : decode cX0_settle 58 = .ok (.if_icmp .ne 13, 3) := by decide +kernel
theorem dX0_settle_61 : decode cX0_settle 61 = .ok (.aload_n 0, 1) := by decide +kernel
theorem dX0_settle_62 : decode cX0_settle 62 = .ok (.dup, 1) := by decide +kernel
theorem dX0_settle_63 : decode cX0_settle 63 = .ok (.getfield 34, 3) := by decide +kernel
theorem dX0_settle_66 : decode cX0_settle 66 = .ok (.iconst 1, 1) := by decide +kernel
theorem dX0_settle_67 : decode cX0_settle 67 = .ok (.isub, 1) := by decide +kernel
theorem dX0_settle_68 : decode cX0_settle 68 = .ok (.putfield 34, 3) := by decide +kernel
theorem dX0_settle_71 : decode cX0_settle 71 = .ok (.iinc 2 (-1), 3) := by decide +kernel
theorem dX0_settle_74 : decode cX0_settle 74 = .ok (.goto (-69), 3) := by decide +kernel
theorem dX0_settle_77 : decode cX0_settle 77 = .ok (.return_, 1) := by decide +kernel
theorem dX0_top_0 : decode cX0_top 0 = .ok (.aload_n 0, 1) := by decide +kernel
theorem dX0_top_1 : decode cX0_top 1 = .ok (.getfield 31, 3) := by decide +kernel
theorem dX0_top_4 : decode cX0_top 4 = .ok (.ifCond .le 17, 3) := by decide +kernel
theorem dX0_top_7 : decode cX0_top 7 = .ok (.aload_n 0, 1) := by decide +kernel
theorem dX0_top_8 : decode cX0_top 8 = .ok (.getfield 27, 3) := by decide +kernel
theorem dX0_top_11 : decode cX0_top 11 = .ok (.aload_n 0, 1) := by decide +kernel
theorem dX0_top_12 : decode cX0_top 12 = .ok (.getfield 31, 3) := by decide +kernel
theorem dX0_top_15 : decode cX0_top 15 = .ok (.iconst 1, 1) := by decide +kernel
theorem dX0_top_16 : decode cX0_top 16 = .ok (.isub, 1) := by decide +kernel
theorem dX0_top_17 : decode cX0_top 17 = .ok (.iaload, 1) := by decide +kernel
theorem dX0_top_18 : decode cX0_top 18 = .ok (.goto 4, 3) := by decide +kernel
theorem dX0_top_21 : decode cX0_top 21 = .ok (.iconst (-1), 1) := by decide +kernel
theorem dX0_top_22 : decode cX0_top 22 = .ok (.ireturn, 1) := by decide +kernel
theorem dX0_topBinds_0 : decode cX0_topBinds 0 = .ok (.aload_n 0, 1) := by decide +kernel
theorem dX0_topBinds_1 : decode cX0_topBinds 1 = .ok (.invokevirtual 144, 3) := by decide +kernel
theorem dX0_topBinds_4 : decode cX0_topBinds 4 = .ok (.invokestatic 153, 3) := by decide +kernel
theorem dX0_topBinds_7 : decode cX0_topBinds 7 = .ok (.ireturn, 1) := by decide +kernel
theorem dX0_turn_0 : decode cX0_turn 0 = .ok (.aload_n 0, 1) := by decide +kernel
theorem dX0_turn_1 : decode cX0_turn 1 = .ok (.iconst 1, 1) := by decide +kernel
theorem dX0_turn_2 : decode cX0_turn 2 = .ok (.invokevirtual 122, 3) := by decide +kernel
theorem dX0_turn_5 : decode cX0_turn 5 = .ok (.aload_n 0, 1) := by decide +kernel
theorem dX0_turn_6 : decode cX0_turn 6 = .ok (.invokevirtual 144, 3) := by decide +kernel
theorem dX0_turn_9 : decode cX0_turn 9 = .ok (.iload_n 1, 1) := by decide +kernel
theorem dX0_turn_10 : decode cX0_turn 10 = .ok (.if_icmp .eq 5, 3) := by decide +kernel
theorem dX0_turn_13 : decode cX0_turn 13 = .ok (.iconst 1, 1) := by decide +kernel
theorem dX0_turn_14 : decode cX0_turn 14 = .ok (.ireturn, 1) := by decide +kernel
theorem dX0_turn_15 : decode cX0_turn 15 = .ok (.aload_n 0, 1) := by decide +kernel
theorem dX0_turn_16 : decode cX0_turn 16 = .ok (.dup, 1) := by decide +kernel
theorem dX0_turn_17 : decode cX0_turn 17 = .ok (.getfield 31, 3) := by decide +kernel
theorem dX0_turn_20 : decode cX0_turn 20 = .ok (.iconst 1, 1) := by decide +kernel
theorem dX0_turn_21 : decode cX0_turn 21 = .ok (.isub, 1) := by decide +kernel
theorem dX0_turn_22 : decode cX0_turn 22 = .ok (.putfield 31, 3) := by decide +kernel
theorem dX0_turn_25 : decode cX0_turn 25 = .ok (.aload_n 0, 1) := by decide +kernel
theorem dX0_turn_26 : decode cX0_turn 26 = .ok (.invokevirtual 100, 3) := by decide +kernel
theorem dX0_turn_29 : decode cX0_turn 29 = .ok (.ifCond .eq 7, 3) := by decide +kernel
theorem dX0_turn_32 : decode cX0_turn 32 = .ok (.iconst 4, 1) := by decide +kernel
theorem dX0_turn_33 : decode cX0_turn 33 = .ok (.goto 8, 3) := by decide +kernel
theorem dX0_turn_36 : decode cX0_turn 36 = .ok (.aload_n 0, 1) := by decide +kernel
theorem dX0_turn_37 : decode cX0_turn 37 = .ok (.iload_n 2, 1) := by decide +kernel
theorem dX0_turn_38 : decode cX0_turn 38 = .ok (.invokevirtual 126, 3) := by decide +kernel
theorem dX0_turn_41 : decode cX0_turn 41 = .ok (.ireturn, 1) := by decide +kernel
theorem dX1_addAttribute_0 : decode cX1_addAttribute 0 = .ok (.aload_n 0, 1) := by decide +kernel
theorem dX1_addAttribute_1 : decode cX1_addAttribute 1 = .ok (.getfield 19, 3) := by decide +kernel
theorem dX1_addAttribute_4 : decode cX1_addAttribute 4 = .ok (.iload_n 1, 1) := by decide +kernel
theorem dX1_addAttribute_5 : decode cX1_addAttribute 5 = .ok (.iaload, 1) := by decide +kernel
theorem dX1_addAttribute_6 : decode cX1_addAttribute 6 = .ok (.istore 5, 2) := by decide +kernel
theorem dX1_addAttribute_8 : decode cX1_addAttribute 8 = .ok (.iload 5, 2) := by decide +kernel
theorem dX1_addAttribute_10 : decode cX1_addAttribute 10 = .ok (.bipush 6, 2) := by decide +kernel
theorem dX1_addAttribute_12 : decode cX1_addAttribute 12 = .ok (.if_icmp .ge 88, 3) := by decide +kernel
theorem dX1_addAttribute_15 : decode cX1_addAttribute 15 = .ok (.iload_n 1, 1) := by decide +kernel
theorem dX1_addAttribute_16 : decode cX1_addAttribute 16 = .ok (.bipush 6, 2) := by decide +kernel
theorem dX1_addAttribute_18 : decode cX1_addAttribute 18 = .ok (.imul, 1) := by decide +kernel
theorem dX1_addAttribute_19 : decode cX1_addAttribute 19 = .ok (.iload 5, 2) := by decide +kernel
theorem dX1_addAttribute_21 : decode cX1_addAttribute 21 = .ok (.iadd, 1) := by decide +kernel
theorem dX1_addAttribute_22 : decode cX1_addAttribute 22 = .ok (.istore 6, 2) := by decide +kernel
theorem dX1_addAttribute_24 : decode cX1_addAttribute 24 = .ok (.aload_n 0, 1) := by decide +kernel
theorem dX1_addAttribute_25 : decode cX1_addAttribute 25 = .ok (.getfield 26, 3) := by decide +kernel
theorem dX1_addAttribute_28 : decode cX1_addAttribute 28 = .ok (.iload 6, 2) := by decide +kernel
theorem dX1_addAttribute_30 : decode cX1_addAttribute 30 = .ok (.lload_n 2, 1) := by decide +kernel
theorem dX1_addAttribute_31 : decode cX1_addAttribute 31 = .ok (.lastore, 1) := by decide +kernel
theorem dX1_addAttribute_32 : decode cX1_addAttribute 32 = .ok (.aload_n 0, 1) := by decide +kernel
theorem dX1_addAttribute_33 : decode cX1_addAttribute 33 = .ok (.getfield 29, 3) := by decide +kernel
theorem dX1_addAttribute_36 : decode cX1_addAttribute 36 = .ok (.iload 6, 2) := by decide +kernel
theorem dX1_addAttribute_38 : decode cX1_addAttribute 38 = .ok (.iload 4, 2) := by decide +kernel
theorem dX1_addAttribute_40 : decode cX1_addAttribute 40 = .ok (.bastore, 1) := by decide +kernel
theorem dX1_addAttribute_41 : decode cX1_addAttribute 41 = .ok (.aload_n 0, 1) := by decide +kernel
theorem dX1_addAttribute_42 : decode cX1_addAttribute 42 = .ok (.getfield 33, 3) := by decide +kernel
theorem dX1_addAttribute_45 : decode cX1_addAttribute 45 = .ok (.iload 6, 2) := by decide +kernel
theorem dX1_addAttribute_47 : decode cX1_addAttribute 47 = .ok (.iload 4, 2) := by decide +kernel
theorem dX1_addAttribute_49 : decode cX1_addAttribute 49 = .ok (.ifCond .eq 12, 3) := by decide +kernel
theorem dX1_addAttribute_52 : decode cX1_addAttribute 52 = .ok (.aload_n 0, 1) := by decide +kernel
theorem dX1_addAttribute_53 : decode cX1_addAttribute 53 = .ok (.getfield 23, 3) := by decide +kernel
theorem dX1_addAttribute_56 : decode cX1_addAttribute 56 = .ok (.iload_n 1, 1) := by decide +kernel
theorem dX1_addAttribute_57 : decode cX1_addAttribute 57 = .ok (.iaload, 1) := by decide +kernel
theorem dX1_addAttribute_58 : decode cX1_addAttribute 58 = .ok (.goto 12, 3) := by decide +kernel
theorem dX1_addAttribute_61 : decode cX1_addAttribute 61 = .ok (.iload 5, 2) := by decide +kernel
theorem dX1_addAttribute_63 : decode cX1_addAttribute 63 = .ok (.aload_n 0, 1) := by decide +kernel
theorem dX1_addAttribute_64 : decode cX1_addAttribute 64 = .ok (.getfield 23, 3) := by decide +kernel
theorem dX1_addAttribute_67 : decode cX1_addAttribute 67 = .ok (.iload_n 1, 1) := by decide +kernel
theorem dX1_addAttribute_68 : decode cX1_addAttribute 68 = .ok (.iaload, 1) := by decide +kernel
theorem dX1_addAttribute_69 : decode cX1_addAttribute 69 = .ok (.isub, 1) := by decide +kernel
theorem dX1_addAttribute_70 : decode cX1_addAttribute 70 = .ok (.iastore, 1) := by decide +kernel
theorem dX1_addAttribute_71 : decode cX1_addAttribute 71 = .ok (.aload_n 0, 1) := by decide +kernel
theorem dX1_addAttribute_72 : decode cX1_addAttribute 72 = .ok (.getfield 19, 3) := by decide +kernel
theorem dX1_addAttribute_75 : decode cX1_addAttribute 75 = .ok (.iload_n 1, 1) := by decide +kernel
theorem dX1_addAttribute_76 : decode cX1_addAttribute 76 = .ok (.iload 5, 2) := by decide +kernel
theorem dX1_addAttribute_78 : decode cX1_addAttribute 78 = .ok (.iconst 1, 1) := by decide +kernel
theorem dX1_addAttribute_79 : decode cX1_addAttribute 79 = .ok (.iadd, 1) := by decide +kernel
theorem dX1_addAttribute_80 : decode cX1_addAttribute 80 = .ok (.iastore, 1) := by decide +kernel
theorem dX1_addAttribute_81 : decode cX1_addAttribute 81 = .ok (.aload_n 0, 1) := by decide +kernel
theorem dX1_addAttribute_82 : decode cX1_addAttribute 82 = .ok (.getfield 23, 3) := by decide +kernel
theorem dX1_addAttribute_85 : decode cX1_addAttribute 85 = .ok (.iload_n 1, 1) := by decide +kernel
theorem dX1_addAttribute_86 : decode cX1_addAttribute 86 = .ok (.dup2, 1) := by decide +kernel
theorem dX1_addAttribute_87 : decode cX1_addAttribute 87 = .ok (.iaload, 1) := by decide +kernel
theorem dX1_addAttribute_88 : decode cX1_addAttribute 88 = .ok (.iload 4, 2) := by decide +kernel
theorem dX1_addAttribute_90 : decode cX1_addAttribute 90 = .ok (.ifCond .eq 7, 3) := by decide +kernel
theorem dX1_addAttribute_93 : decode cX1_addAttribute 93 = .ok (.iconst 1, 1) := by decide +kernel
theorem dX1_addAttribute_94 : decode cX1_addAttribute 94 = .ok (.goto 4, 3) := by decide +kernel
theorem dX1_addAttribute_97 : decode cX1_addAttribute 97 = .ok (.iconst 0, 1) := by decide +kernel
theorem dX1_addAttribute_98 : decode cX1_addAttribute 98 = .ok (.iadd, 1) := by decide +kernel
theorem dX1_addAttribute_99 : decode cX1_addAttribute 99 = .ok (.iastore, 1) := by decide +kernel
theorem dX1_addAttribute_100 : decode cX1_addAttribute 100 = .ok (.return_, 1) := by decide +kernel
theorem dX1_addCode_0 : decode cX1_addCode 0 = .ok (.aload_n 0, 1) := by decide +kernel
theorem dX1_addCode_1 : decode cX1_addCode 1 = .ok (.getfield 66, 3) := by decide +kernel
theorem dX1_addCode_4 : decode cX1_addCode 4 = .ok (.sipush 3000, 3) := by decide +kernel
theorem dX1_addCode_7 : decode cX1_addCode 7 = .ok (.if_icmp .ge 33, 3) := by decide +kernel
theorem dX1_addCode_10 : decode cX1_addCode 10 = .ok (.aload_n 0, 1) := by decide +kernel
theorem dX1_addCode_11 : decode cX1_addCode 11 = .ok (.getfield 60, 3) := by decide +kernel
theorem dX1_addCode_14 : decode cX1_addCode 14 = .ok (.aload_n 0, 1) := by decide +kernel
theorem dX1_addCode_15 : decode cX1_addCode 15 = .ok (.getfield 66, 3) := by decide +kernel
theorem dX1_addCode_18 : decode cX1_addCode 18 = .ok (.iload_n 1, 1) := by decide +kernel
theorem dX1_addCode_19 : decode cX1_addCode 19 = .ok (.iastore, 1) := by decide +kernel
theorem dX1_addCode_20 : decode cX1_addCode 20 = .ok (.aload_n 0, 1) := by decide +kernel
theorem dX1_addCode_21 : decode cX1_addCode 21 = .ok (.getfield 63, 3) := by decide +kernel
theorem dX1_addCode_24 : decode cX1_addCode 24 = .ok (.aload_n 0, 1) := by decide +kernel
theorem dX1_addCode_25 : decode cX1_addCode 25 = .ok (.getfield 66, 3) := by decide +kernel
theorem dX1_addCode_28 : decode cX1_addCode 28 = .ok (.iload_n 2, 1) := by decide +kernel
theorem dX1_addCode_29 : decode cX1_addCode 29 = .ok (.iastore, 1) := by decide +kernel
theorem dX1_addCode_30 : decode cX1_addCode 30 = .ok (.aload_n 0, 1) := by decide +kernel
theorem dX1_addCode_31 : decode cX1_addCode 31 = .ok (.dup, 1) := by decide +kernel
theorem dX1_addCode_32 : decode cX1_addCode 32 = .ok (.getfield 66, 3) := by decide +kernel
theorem dX1_addCode_35 : decode cX1_addCode 35 = .ok (.iconst 1, 1) := by decide +kernel
theorem dX1_addCode_36 : decode cX1_addCode 36 = .ok (.iadd, 1) := by decide +kernel
theorem dX1_addCode_37 : decode cX1_addCode 37 = .ok (.putfield 66, 3) := by decide +kernel
theorem dX1_addCode_40 : decode cX1_addCode 40 = .ok (.return_, 1) := by decide +kernel
theorem dX1_addRule_0 : decode cX1_addRule 0 = .ok (.aload_n 0, 1) := by decide +kernel
theorem dX1_addRule_1 : decode cX1_addRule 1 = .ok (.getfield 36, 3) := by decide +kernel
theorem dX1_addRule_4 : decode cX1_addRule 4 = .ok (.bipush 30, 2) := by decide +kernel
theorem dX1_addRule_6 : decode cX1_addRule 6 = .ok (.if_icmp .ge 91, 3) := by decide +kernel
theorem dX1_addRule_9 : decode cX1_addRule 9 = .ok (.aload_n 0, 1) := by decide +kernel
theorem dX1_addRule_10 : decode cX1_addRule 10 = .ok (.getfield 39, 3) := by decide +kernel
theorem dX1_addRule_13 : decode cX1_addRule 13 = .ok (.aload_n 0, 1) := by decide +kernel
theorem dX1_addRule_14 : decode cX1_addRule 14 = .ok (.getfield 36, 3) := by decide +kernel
theorem dX1_addRule_17 : decode cX1_addRule 17 = .ok (.lload_n 1, 1) := by decide +kernel
theorem dX1_addRule_18 : decode cX1_addRule 18 = .ok (.lastore, 1) := by decide +kernel
theorem dX1_addRule_19 : decode cX1_addRule 19 = .ok (.aload_n 0, 1) := by decide +kernel
theorem dX1_addRule_20 : decode cX1_addRule 20 = .ok (.getfield 45, 3) := by decide +kernel
theorem dX1_addRule_23 : decode cX1_addRule 23 = .ok (.aload_n 0, 1) := by decide +kernel
theorem dX1_addRule_24 : decode cX1_addRule 24 = .ok (.getfield 36, 3) := by decide +kernel
theorem dX1_addRule_27 : decode cX1_addRule 27 = .ok (.iconst 0, 1) := by decide +kernel
theorem dX1_addRule_28 : decode cX1_addRule 28 = .ok (.iastore, 1) := by decide +kernel
theorem dX1_addRule_29 : decode cX1_addRule 29 = .ok (.aload_n 0, 1) := by decide +kernel
theorem dX1_addRule_30 : decode cX1_addRule 30 = .ok (.getfield 48, 3) := by decide +kernel
theorem dX1_addRule_33 : decode cX1_addRule 33 = .ok (.aload_n 0, 1) := by decide +kernel
theorem dX1_addRule_34 : decode cX1_addRule 34 = .ok (.getfield 36, 3) := by decide +kernel
theorem dX1_addRule_37 : decode cX1_addRule 37 = .ok (.iconst 0, 1) := by decide +kernel
theorem dX1_addRule_38 : decode cX1_addRule 38 = .ok (.iastore, 1) := by decide +kernel
theorem dX1_addRule_39 : decode cX1_addRule 39 = .ok (.aload_n 0, 1) := by decide +kernel
theorem dX1_addRule_40 : decode cX1_addRule 40 = .ok (.getfield 36, 3) := by decide +kernel
theorem dX1_addRule_43 : decode cX1_addRule 43 = .ok (.bipush 24, 2) := by decide +kernel
theorem dX1_addRule_45 : decode cX1_addRule 45 = .ok (.imul, 1) := by decide +kernel
theorem dX1_addRule_46 : decode cX1_addRule 46 = .ok (.istore_n 3, 1) := by decide +kernel
theorem dX1_addRule_47 : decode cX1_addRule 47 = .ok (.iload_n 3, 1) := by decide +kernel
theorem dX1_addRule_48 : decode cX1_addRule 48 = .ok (.aload_n 0, 1) := by decide +kernel
theorem dX1_addRule_49 : decode cX1_addRule 49 = .ok (.getfield 36, 3) := by decide +kernel
theorem dX1_addRule_52 : decode cX1_addRule 52 = .ok (.iconst 1, 1) := by decide +kernel
theorem dX1_addRule_53 : decode cX1_addRule 53 = .ok (.iadd, 1) := by decide +kernel
theorem dX1_addRule_54 : decode cX1_addRule 54 = .ok (.bipush 24, 2) := by decide +kernel
theorem dX1_addRule_56 : decode cX1_addRule 56 = .ok (.imul, 1) := by decide +kernel
theorem dX1_addRule_57 : decode cX1_addRule 57 = .ok (.if_icmp .ge 30, 3) := by decide +kernel
theorem dX1_addRule_60 : decode cX1_addRule 60 = .ok (.aload_n 0, 1) := by decide +kernel
theorem dX1_addRule_61 : decode cX1_addRule 61 = .ok (.getfield 51, 3) := by decide +kernel
theorem dX1_addRule_64 : decode cX1_addRule 64 = .ok (.iload_n 3, 1) := by decide +kernel
theorem dX1_addRule_65 : decode cX1_addRule 65 = .ok (.iconst (-1), 1) := by decide +kernel
theorem dX1_addRule_66 : decode cX1_addRule 66 = .ok (.iastore, 1) := by decide +kernel
theorem dX1_addRule_67 : decode cX1_addRule 67 = .ok (.aload_n 0, 1) := by decide +kernel
theorem dX1_addRule_68 : decode cX1_addRule 68 = .ok (.getfield 54, 3) := by decide +kernel
theorem dX1_addRule_71 : decode cX1_addRule 71 = .ok (.iload_n 3, 1) := by decide +kernel
theorem dX1_addRule_72 : decode cX1_addRule 72 = .ok (.iconst (-1), 1) := by decide +kernel
theorem dX1_addRule_73 : decode cX1_addRule 73 = .ok (.iastore, 1) := by decide +kernel
theorem dX1_addRule_74 : decode cX1_addRule 74 = .ok (.aload_n 0, 1) := by decide +kernel
theorem dX1_addRule_75 : decode cX1_addRule 75 = .ok (.getfield 57, 3) := by decide +kernel
theorem dX1_addRule_78 : decode cX1_addRule 78 = .ok (.iload_n 3, 1) := by decide +kernel
theorem dX1_addRule_79 : decode cX1_addRule 79 = .ok (.iconst 0, 1) := by decide +kernel
theorem dX1_addRule_80 : decode cX1_addRule 80 = .ok (.iastore, 1) := by decide +kernel
theorem dX1_addRule_81 : decode cX1_addRule 81 = .ok (.iinc 3 1, 3) := by decide +kernel
theorem dX1_addRule_84 : decode cX1_addRule 84 = .ok (.goto (-37), 3) := by decide +kernel
theorem dX1_addRule_87 : decode cX1_addRule 87 = .ok (.aload_n 0, 1) := by decide +kernel
theorem dX1_addRule_88 : decode cX1_addRule 88 = .ok (.dup, 1) := by decide +kernel
theorem dX1_addRule_89 : decode cX1_addRule 89 = .ok (.getfield 36, 3) := by decide +kernel
theorem dX1_addRule_92 : decode cX1_addRule 92 = .ok (.iconst 1, 1) := by decide +kernel
theorem dX1_addRule_93 : decode cX1_addRule 93 = .ok (.iadd, 1) := by decide +kernel
theorem dX1_addRule_94 : decode cX1_addRule 94 = .ok (.putfield 36, 3) := by decide +kernel
theorem dX1_addRule_97 : decode cX1_addRule 97 = .ok (.return_, 1) := by decide +kernel
theorem dX1_addSymbol_0 : decode cX1_addSymbol 0 = .ok (.aload_n 0, 1) := by decide +kernel
theorem dX1_addSymbol_1 : decode cX1_addSymbol 1 = .ok (.getfield 9, 3) := by decide +kernel
theorem dX1_addSymbol_4 : decode cX1_addSymbol 4 = .ok (.bipush 12, 2) := by decide +kernel
theorem dX1_addSymbol_6 : decode cX1_addSymbol 6 = .ok (.if_icmp .ge 43, 3) := by decide +kernel
theorem dX1_addSymbol_9 : decode cX1_addSymbol 9 = .ok (.aload_n 0, 1) := by decide +kernel
theorem dX1_addSymbol_10 : decode cX1_addSymbol 10 = .ok (.getfield 15, 3) := by decide +kernel
theorem dX1_addSymbol_13 : decode cX1_addSymbol 13 = .ok (.aload_n 0, 1) := by decide +kernel
theorem dX1_addSymbol_14 : decode cX1_addSymbol 14 = .ok (.getfield 9, 3) := by decide +kernel
theorem dX1_addSymbol_17 : decode cX1_addSymbol 17 = .ok (.lload_n 1, 1) := by decide +kernel
theorem dX1_addSymbol_18 : decode cX1_addSymbol 18 = .ok (.lastore, 1) := by decide +kernel
theorem dX1_addSymbol_19 : decode cX1_addSymbol 19 = .ok (.aload_n 0, 1) := by decide +kernel
theorem dX1_addSymbol_20 : decode cX1_addSymbol 20 = .ok (.getfield 19, 3) := by decide +kernel
theorem dX1_addSymbol_23 : decode cX1_addSymbol 23 = .ok (.aload_n 0, 1) := by decide +kernel
theorem dX1_addSymbol_24 : decode cX1_addSymbol 24 = .ok (.getfield 9, 3) := by decide +kernel
theorem dX1_addSymbol_27 : decode cX1_addSymbol 27 = .ok (.iconst 0, 1) := by decide +kernel
theorem dX1_addSymbol_28 : decode cX1_addSymbol 28 = .ok (.iastore, 1) := by decide +kernel
theorem dX1_addSymbol_29 : decode cX1_addSymbol 29 = .ok (.aload_n 0, 1) := by decide +kernel
theorem dX1_addSymbol_30 : decode cX1_addSymbol 30 = .ok (.getfield 23, 3) := by decide +kernel
theorem dX1_addSymbol_33 : decode cX1_addSymbol 33 = .ok (.aload_n 0, 1) := by decide +kernel
theorem dX1_addSymbol_34 : decode cX1_addSymbol 34 = .ok (.getfield 9, 3) := by decide +kernel
theorem dX1_addSymbol_37 : decode cX1_addSymbol 37 = .ok (.iconst 0, 1) := by decide +kernel
theorem dX1_addSymbol_38 : decode cX1_addSymbol 38 = .ok (.iastore, 1) := by decide +kernel
theorem dX1_addSymbol_39 : decode cX1_addSymbol 39 = .ok (.aload_n 0, 1) := by decide +kernel
theorem dX1_addSymbol_40 : decode cX1_addSymbol 40 = .ok (.dup, 1) := by decide +kernel
theorem dX1_addSymbol_41 : decode cX1_addSymbol 41 = .ok (.getfield 9, 3) := by decide +kernel
theorem dX1_addSymbol_44 : decode cX1_addSymbol 44 = .ok (.iconst 1, 1) := by decide +kernel
theorem dX1_addSymbol_45 : decode cX1_addSymbol 45 = .ok (.iadd, 1) := by decide +kernel
theorem dX1_addSymbol_46 : decode cX1_addSymbol 46 = .ok (.putfield 9, 3) := by decide +kernel
theorem dX1_addSymbol_49 : decode cX1_addSymbol 49 = .ok (.return_, 1) := by decide +kernel
theorem dX1_clear_0 : decode cX1_clear 0 = .ok (.aload_n 0, 1) := by decide +kernel
theorem dX1_clear_1 : decode cX1_clear 1 = .ok (.iconst 0, 1) := by decide +kernel
theorem dX1_clear_2 : decode cX1_clear 2 = .ok (.putfield 9, 3) := by decide +kernel
theorem dX1_clear_5 : decode cX1_clear 5 = .ok (.aload_n 0, 1) := by decide +kernel
theorem dX1_clear_6 : decode cX1_clear 6 = .ok (.iconst 0, 1) := by decide +kernel
theorem dX1_clear_7 : decode cX1_clear 7 = .ok (.putfield 36, 3) := by decide +kernel
theorem dX1_clear_10 : decode cX1_clear 10 = .ok (.aload_n 0, 1) := by decide +kernel
theorem dX1_clear_11 : decode cX1_clear 11 = .ok (.iconst 0, 1) := by decide +kernel
theorem dX1_clear_12 : decode cX1_clear 12 = .ok (.putfield 66, 3) := by decide +kernel
theorem dX1_clear_15 : decode cX1_clear 15 = .ok (.return_, 1) := by decide +kernel
theorem dX1_findAttribute_0 : decode cX1_findAttribute 0 = .ok (.iconst 0, 1) := by decide +kernel
theorem dX1_findAttribute_1 : decode cX1_findAttribute 1 = .ok (.istore 4, 2) := by decide +kernel
theorem dX1_findAttribute_3 : decode cX1_findAttribute 3 = .ok (.iload 4, 2) := by decide +kernel
theorem dX1_findAttribute_5 : decode cX1_findAttribute 5 = .ok (.aload_n 0, 1) := by decide +kernel
theorem dX1_findAttribute_6 : decode cX1_findAttribute 6 = .ok (.getfield 19, 3) := by decide +kernel
theorem dX1_findAttribute_9 : decode cX1_findAttribute 9 = .ok (.iload_n 1, 1) := by decide +kernel
theorem dX1_findAttribute_10 : decode cX1_findAttribute 10 = .ok (.iaload, 1) := by decide +kernel
theorem dX1_findAttribute_11 : decode cX1_findAttribute 11 = .ok (.if_icmp .ge 29, 3) := by decide +kernel
theorem dX1_findAttribute_14 : decode cX1_findAttribute 14 = .ok (.aload_n 0, 1) := by decide +kernel
theorem dX1_findAttribute_15 : decode cX1_findAttribute 15 = .ok (.getfield 26, 3) := by decide +kernel
theorem dX1_findAttribute_18 : decode cX1_findAttribute 18 = .ok (.iload_n 1, 1) := by decide +kernel
theorem dX1_findAttribute_19 : decode cX1_findAttribute 19 = .ok (.bipush 6, 2) := by decide +kernel
theorem dX1_findAttribute_21 : decode cX1_findAttribute 21 = .ok (.imul, 1) := by decide +kernel
theorem dX1_findAttribute_22 : decode cX1_findAttribute 22 = .ok (.iload 4, 2) := by decide +kernel
theorem dX1_findAttribute_24 : decode cX1_findAttribute 24 = .ok (.iadd, 1) := by decide +kernel
theorem dX1_findAttribute_25 : decode cX1_findAttribute 25 = .ok (.laload, 1) := by decide +kernel
theorem dX1_findAttribute_26 : decode cX1_findAttribute 26 = .ok (.lload_n 2, 1) := by decide +kernel
theorem dX1_findAttribute_27 : decode cX1_findAttribute 27 = .ok (.lcmp, 1) := by decide +kernel
theorem dX1_findAttribute_28 : decode cX1_findAttribute 28 = .ok (.ifCond .ne 6, 3) := by decide +kernel
theorem dX1_findAttribute_31 : decode cX1_findAttribute 31 = .ok (.iload 4, 2) := by decide +kernel
theorem dX1_findAttribute_33 : decode cX1_findAttribute 33 = .ok (.ireturn, 1) := by decide +kernel
theorem dX1_findAttribute_34 : decode cX1_findAttribute 34 = .ok (.iinc 4 1, 3) := by decide +kernel
theorem dX1_findAttribute_37 : decode cX1_findAttribute 37 = .ok (.goto (-34), 3) := by decide +kernel
theorem dX1_findAttribute_40 : decode cX1_findAttribute 40 = .ok (.iconst (-1), 1) := by decide +kernel
theorem dX1_findAttribute_41 : decode cX1_findAttribute 41 = .ok (.ireturn, 1) := by decide +kernel
theorem dX1_findRule_0 : decode cX1_findRule 0 = .ok (.iconst 0, 1) := by decide +kernel
theorem dX1_findRule_1 : decode cX1_findRule 1 = .ok (.istore_n 3, 1) := by decide +kernel
theorem dX1_findRule_2 : decode cX1_findRule 2 = .ok (.iload_n 3, 1) := by decide +kernel
theorem dX1_findRule_3 : decode cX1_findRule 3 = .ok (.aload_n 0, 1) := by decide +kernel
theorem dX1_findRule_4 : decode cX1_findRule 4 = .ok (.getfield 36, 3) := by decide +kernel
theorem dX1_findRule_7 : decode cX1_findRule 7 = .ok (.if_icmp .ge 22, 3) := by decide +kernel
theorem dX1_findRule_10 : decode cX1_findRule 10 = .ok (.aload_n 0, 1) := by decide +kernel
theorem dX1_findRule_11 : decode cX1_findRule 11 = .ok (.getfield 39, 3) := by decide +kernel
theorem dX1_findRule_14 : decode cX1_findRule 14 = .ok (.iload_n 3, 1) := by decide +kernel
theorem dX1_findRule_15 : decode cX1_findRule 15 = .ok (.laload, 1) := by decide +kernel
theorem dX1_findRule_16 : decode cX1_findRule 16 = .ok (.lload_n 1, 1) := by decide +kernel
theorem dX1_findRule_17 : decode cX1_findRule 17 = .ok (.lcmp, 1) := by decide +kernel
theorem dX1_findRule_18 : decode cX1_findRule 18 = .ok (.ifCond .ne 5, 3) := by decide +kernel
theorem dX1_findRule_21 : decode cX1_findRule 21 = .ok (.iload_n 3, 1) := by decide +kernel
theorem dX1_findRule_22 : decode cX1_findRule 22 = .ok (.ireturn, 1) := by decide +kernel
theorem dX1_findRule_23 : decode cX1_findRule 23 = .ok (.iinc 3 1, 3) := by decide +kernel
theorem dX1_findRule_26 : decode cX1_findRule 26 = .ok (.goto (-24), 3) := by decide +kernel
theorem dX1_findRule_29 : decode cX1_findRule 29 = .ok (.iconst (-1), 1) := by decide +kernel
theorem dX1_findRule_30 : decode cX1_findRule 30 = .ok (.ireturn, 1) := by decide +kernel
theorem dX1_findSymbol_0 : decode cX1_findSymbol 0 = .ok (.iconst 0, 1) := by decide +kernel
theorem dX1_findSymbol_1 : decode cX1_findSymbol 1 = .ok (.istore_n 3, 1) := by decide +kernel
theorem dX1_findSymbol_2 : decode cX1_findSymbol 2 = .ok (.iload_n 3, 1) := by decide +kernel
theorem dX1_findSymbol_3 : decode cX1_findSymbol 3 = .ok (.aload_n 0, 1) := by decide +kernel
theorem dX1_findSymbol_4 : decode cX1_findSymbol 4 = .ok (.getfield 9, 3) := by decide +kernel
theorem dX1_findSymbol_7 : decode cX1_findSymbol 7 = .ok (.if_icmp .ge 22, 3) := by decide +kernel
theorem dX1_findSymbol_10 : decode cX1_findSymbol 10 = .ok (.aload_n 0, 1) := by decide +kernel
theorem dX1_findSymbol_11 : decode cX1_findSymbol 11 = .ok (.getfield 15, 3) := by decide +kernel
theorem dX1_findSymbol_14 : decode cX1_findSymbol 14 = .ok (.iload_n 3, 1) := by decide +kernel
theorem dX1_findSymbol_15 : decode cX1_findSymbol 15 = .ok (.laload, 1) := by decide +kernel
theorem dX1_findSymbol_16 : decode cX1_findSymbol 16 = .ok (.lload_n 1, 1) := by decide +kernel
theorem dX1_findSymbol_17 : decode cX1_findSymbol 17 = .ok (.lcmp, 1) := by decide +kernel
theorem dX1_findSymbol_18 : decode cX1_findSymbol 18 = .ok (.ifCond .ne 5, 3) := by decide +kernel
theorem dX1_findSymbol_21 : decode cX1_findSymbol 21 = .ok (.iload_n 3, 1) := by decide +kernel
theorem dX1_findSymbol_22 : decode cX1_findSymbol 22 = .ok (.ireturn, 1) := by decide +kernel
theorem dX1_findSymbol_23 : decode cX1_findSymbol 23 = .ok (.iinc 3 1, 3) := by decide +kernel
theorem dX1_findSymbol_26 : decode cX1_findSymbol 26 = .ok (.goto (-24), 3) := by decide +kernel
theorem dX1_findSymbol_29 : decode cX1_findSymbol 29 = .ok (.iconst (-1), 1) := by decide +kernel
theorem dX1_findSymbol_30 : decode cX1_findSymbol 30 = .ok (.ireturn, 1) := by decide +kernel
theorem dX1_isInherited_0 : decode cX1_isInherited 0 = .ok (.aload_n 0, 1) := by decide +kernel
theorem dX1_isInherited_1 : decode cX1_isInherited 1 = .ok (.getfield 29, 3) := by decide +kernel
theorem dX1_isInherited_4 : decode cX1_isInherited 4 = .ok (.iload_n 1, 1) := by decide +kernel
theorem dX1_isInherited_5 : decode cX1_isInherited 5 = .ok (.bipush 6, 2) := by decide +kernel
theorem dX1_isInherited_7 : decode cX1_isInherited 7 = .ok (.imul, 1) := by decide +kernel
theorem dX1_isInherited_8 : decode cX1_isInherited 8 = .ok (.iload_n 2, 1) := by decide +kernel
theorem dX1_isInherited_9 : decode cX1_isInherited 9 = .ok (.iadd, 1) := by decide +kernel
theorem dX1_isInherited_10 : decode cX1_isInherited 10 = .ok (.baload, 1) := by decide +kernel
theorem dX1_isInherited_11 : decode cX1_isInherited 11 = .ok (.ireturn, 1) := by decide +kernel
theorem dX1_mayTell_0 : decode cX1_mayTell 0 = .ok (.aload_n 0, 1) := by decide +kernel
theorem dX1_mayTell_1 : decode cX1_mayTell 1 = .ok (.getfield 29, 3) := by decide +kernel
theorem dX1_mayTell_4 : decode cX1_mayTell 4 = .ok (.iload_n 2, 1) := by decide +kernel
theorem dX1_mayTell_5 : decode cX1_mayTell 5 = .ok (.bipush 6, 2) := by decide +kernel
theorem dX1_mayTell_7 : decode cX1_mayTell 7 = .ok (.imul, 1) := by decide +kernel
theorem dX1_mayTell_8 : decode cX1_mayTell 8 = .ok (.iload_n 3, 1) := by decide +kernel
theorem dX1_mayTell_9 : decode cX1_mayTell 9 = .ok (.iadd, 1) := by decide +kernel
theorem dX1_mayTell_10 : decode cX1_mayTell 10 = .ok (.baload, 1) := by decide +kernel
theorem dX1_mayTell_11 : decode cX1_mayTell 11 = .ok (.iload_n 1, 1) := by decide +kernel
theorem dX1_mayTell_12 : decode cX1_mayTell 12 = .ok (.ifCond .le 7, 3) := by decide +kernel
theorem dX1_mayTell_15 : decode cX1_mayTell 15 = .ok (.iconst 1, 1) := by decide +kernel
theorem dX1_mayTell_16 : decode cX1_mayTell 16 = .ok (.goto 4, 3) := by decide +kernel
theorem dX1_mayTell_19 : decode cX1_mayTell 19 = .ok (.iconst 0, 1) := by decide +kernel
theorem dX1_mayTell_20 : decode cX1_mayTell 20 = .ok (.if_icmp .ne 7, 3) := by decide +kernel
theorem dX1_mayTell_23 : decode cX1_mayTell 23 = .ok (.iconst 1, 1) := by decide +kernel
theorem dX1_mayTell_24 : decode cX1_mayTell 24 = .ok (.goto 4, 3) := by decide +kernel
theorem dX1_mayTell_27 : decode cX1_mayTell 27 = .ok (.iconst 0, 1) := by decide +kernel
theorem dX1_mayTell_28 : decode cX1_mayTell 28 = .ok (.ireturn, 1) := by decide +kernel
theorem dX1_symbolAt_0 : decode cX1_symbolAt 0 = .ok (.aload_n 0, 1) := by decide +kernel
theorem dX1_symbolAt_1 : decode cX1_symbolAt 1 = .ok (.getfield 42, 3) := by decide +kernel
theorem dX1_symbolAt_4 : decode cX1_symbolAt 4 = .ok (.iload_n 1, 1) := by decide +kernel
theorem dX1_symbolAt_5 : decode cX1_symbolAt 5 = .ok (.iconst 4, 1) := by decide +kernel
theorem dX1_symbolAt_6 : decode cX1_symbolAt 6 = .ok (.imul, 1) := by decide +kernel
theorem dX1_symbolAt_7 : decode cX1_symbolAt 7 = .ok (.iload_n 2, 1) := by decide +kernel
theorem dX1_symbolAt_8 : decode cX1_symbolAt 8 = .ok (.iadd, 1) := by decide +kernel
theorem dX1_symbolAt_9 : decode cX1_symbolAt 9 = .ok (.iaload, 1) := by decide +kernel
theorem dX1_symbolAt_10 : decode cX1_symbolAt 10 = .ok (.ireturn, 1) := by decide +kernel
theorem dX3_begin_0 : decode cX3_begin 0 = .ok (.aload_n 0, 1) := by decide +kernel
theorem dX3_begin_1 : decode cX3_begin 1 = .ok (.iload_n 1, 1) := by decide +kernel
theorem dX3_begin_2 : decode cX3_begin 2 = .ok (.aload_n 0, 1) := by decide +kernel
theorem dX3_begin_3 : decode cX3_begin 3 = .ok (.getfield 31, 3) := by decide +kernel
theorem dX3_begin_6 : decode cX3_begin 6 = .ok (.arraylength, 1) := by decide +kernel
theorem dX3_begin_7 : decode cX3_begin 7 = .ok (.invokestatic 35, 3) := by decide +kernel
theorem dX3_begin_10 : decode cX3_begin 10 = .ok (.putfield 9, 3) := by decide +kernel
theorem dX3_begin_13 : decode cX3_begin 13 = .ok (.aload_n 0, 1) := by decide +kernel
theorem dX3_begin_14 : decode cX3_begin 14 = .ok (.iconst 0, 1) := by decide +kernel
theorem dX3_begin_15 : decode cX3_begin 15 = .ok (.putfield 15, 3) := by decide +kernel
theorem dX3_begin_18 : decode cX3_begin 18 = .ok (.return_, 1) := by decide +kernel
theorem dX3_hasDotBehind_0 : decode cX3_hasDotBehind 0 = .ok (.aload_n 0, 1) := by decide +kernel
theorem dX3_hasDotBehind_1 : decode cX3_hasDotBehind 1 = .ok (.aload_n 0, 1) := by decide +kernel
theorem dX3_hasDotBehind_2 : decode cX3_hasDotBehind 2 = .ok (.getfield 15, 3) := by decide +kernel
theorem dX3_hasDotBehind_5 : decode cX3_hasDotBehind 5 = .ok (.invokevirtual 41, 3) := by decide +kernel
theorem dX3_hasDotBehind_8 : decode cX3_hasDotBehind 8 = .ok (.istore_n 1, 1) := by decide +kernel
theorem dX3_hasDotBehind_9 : decode cX3_hasDotBehind 9 = .ok (.iload_n 1, 1) := by decide +kernel
theorem dX3_hasDotBehind_10 : decode cX3_hasDotBehind 10 = .ok (.aload_n 0, 1) := by decide +kernel
theorem dX3_hasDotBehind_11 : decode cX3_hasDotBehind 11 = .ok (.getfield 9, 3) := by decide +kernel
theorem dX3_hasDotBehind_14 : decode cX3_hasDotBehind 14 = .ok (.if_icmp .ge 18, 3) := by decide +kernel
theorem dX3_hasDotBehind_17 : decode cX3_hasDotBehind 17 = .ok (.aload_n 0, 1) := by decide +kernel
theorem dX3_hasDotBehind_18 : decode cX3_hasDotBehind 18 = .ok (.getfield 31, 3) := by decide +kernel
theorem dX3_hasDotBehind_21 : decode cX3_hasDotBehind 21 = .ok (.iload_n 1, 1) := by decide +kernel
theorem dX3_hasDotBehind_22 : decode cX3_hasDotBehind 22 = .ok (.baload, 1) := by decide +kernel
theorem dX3_hasDotBehind_23 : decode cX3_hasDotBehind 23 = .ok (.bipush 46, 2) := by decide +kernel
theorem dX3_hasDotBehind_25 : decode cX3_hasDotBehind 25 = .ok (.if_icmp .ne 7, 3) := by decide +kernel
theorem dX3_hasDotBehind_28 : decode cX3_hasDotBehind 28 = .ok (.iconst 1, 1) := by decide +kernel
theorem dX3_hasDotBehind_29 : decode cX3_hasDotBehind 29 = .ok (.goto 4, 3) := by decide +kernel
theorem dX3_hasDotBehind_32 : decode cX3_hasDotBehind 32 = .ok (.iconst 0, 1) := by decide +kernel
theorem dX3_hasDotBehind_33 : decode cX3_hasDotBehind 33 = .ok (.ireturn, 1) := by decide +kernel
theorem dX3_isDigit_0 : decode cX3_isDigit 0 = .ok (.iload_n 0, 1) := by decide +kernel
theorem dX3_isDigit_1 : decode cX3_isDigit 1 = .ok (.bipush 48, 2) := by decide +kernel
theorem dX3_isDigit_3 : decode cX3_isDigit 3 = .ok (.if_icmp .lt 13, 3) := by decide +kernel
theorem dX3_isDigit_6 : decode cX3_isDigit 6 = .ok (.iload_n 0, 1) := by decide +kernel
theorem dX3_isDigit_7 : decode cX3_isDigit 7 = .ok (.bipush 57, 2) := by decide +kernel
theorem dX3_isDigit_9 : decode cX3_isDigit 9 = .ok (.if_icmp .gt 7, 3) := by decide +kernel
theorem dX3_isDigit_12 : decode cX3_isDigit 12 = .ok (.iconst 1, 1) := by decide +kernel
theorem dX3_isDigit_13 : decode cX3_isDigit 13 = .ok (.goto 4, 3) := by decide +kernel
theorem dX3_isDigit_16 : decode cX3_isDigit 16 = .ok (.iconst 0, 1) := by decide +kernel
theorem dX3_isDigit_17 : decode cX3_isDigit 17 = .ok (.ireturn, 1) := by decide +kernel
theorem dX3_isLetter_0 : decode cX3_isLetter 0 = .ok (.iload_n 0, 1) := by decide +kernel
theorem dX3_isLetter_1 : decode cX3_isLetter 1 = .ok (.bipush 97, 2) := by decide +kernel
theorem dX3_isLetter_3 : decode cX3_isLetter 3 = .ok (.if_icmp .lt 9, 3) := by decide +kernel
theorem dX3_isLetter_6 : decode cX3_isLetter 6 = .ok (.iload_n 0, 1) := by decide +kernel
theorem dX3_isLetter_7 : decode cX3_isLetter 7 = .ok (.bipush 122, 2) := by decide +kernel
theorem dX3_isLetter_9 : decode cX3_isLetter 9 = .ok (.if_icmp .le 15, 3) := by decide +kernel
theorem dX3_isLetter_12 : decode cX3_isLetter 12 = .ok (.iload_n 0, 1) := by decide +kernel
theorem dX3_isLetter_13 : decode cX3_isLetter 13 = .ok (.bipush 65, 2) := by decide +kernel
theorem dX3_isLetter_15 : decode cX3_isLetter 15 = .ok (.if_icmp .lt 13, 3) := by decide +kernel
theorem dX3_isLetter_18 : decode cX3_isLetter 18 = .ok (.iload_n 0, 1) := by decide +kernel
theorem dX3_isLetter_19 : decode cX3_isLetter 19 = .ok (.bipush 90, 2) := by decide +kernel
theorem dX3_isLetter_21 : decode cX3_isLetter 21 = .ok (.if_icmp .gt 7, 3) := by decide +kernel
theorem dX3_isLetter_24 : decode cX3_isLetter 24 = .ok (.iconst 1, 1) := by decide +kernel
theorem dX3_isLetter_25 : decode cX3_isLetter 25 = .ok (.goto 4, 3) := by decide +kernel
theorem dX3_isLetter_28 : decode cX3_isLetter 28 = .ok (.iconst 0, 1) := by decide +kernel
theorem dX3_isLetter_29 : decode cX3_isLetter 29 = .ok (.ireturn, 1) := by decide +kernel
theorem dX3_isSign_0 : decode cX3_isSign 0 = .ok (.iload_n 0, 1) := by decide +kernel
theorem dX3_isSign_1 : decode cX3_isSign 1 = .ok (.tableswitch 117 37 61 #[115, 117, 117, 115, 115, 115, 115, 117, 115, 115, 115, 117, 117, 117, 117, 117, 117, 117, 117, 117, 117, 115, 115, 115, 115], 115) := by decide +kernel
theorem dX3_isSign_116 : decode cX3_isSign 116 = .ok (.iconst 1, 1) := by decide +kernel
theorem dX3_isSign_117 : decode cX3_isSign 117 = .ok (.ireturn, 1) := by decide +kernel
theorem dX3_isSign_118 : decode cX3_isSign 118 = .ok (.iconst 0, 1) := by decide +kernel
theorem dX3_isSign_119 : decode cX3_isSign 119 = .ok (.ireturn, 1) := by decide +kernel
theorem dX3_keywordOrName_0 : decode cX3_keywordOrName 0 = .ok (.iload_n 0, 1) := by decide +kernel
theorem dX3_keywordOrName_1 : decode cX3_keywordOrName 1 = .ok (.lookupswitch 107 #[(26982, 98), (6647396, 92), (6909544, 85), (7305070, 95), (7567725, 83), (7567726, 87), (1701606245, 104), (1920298085, 89), (1952998766, 101)], 83) := by decide +kernel
theorem dX3_keywordOrName_84 : decode cX3_keywordOrName 84 = .ok (.iconst 3, 1) := by decide +kernel
theorem dX3_keywordOrName_85 : decode cX3_keywordOrName 85 = .ok (.ireturn, 1) := by decide +kernel
theorem dX3_keywordOrName_86 : decode cX3_keywordOrName 86 = .ok (.iconst 4, 1) := by decide +kernel
theorem dX3_keywordOrName_87 : decode cX3_keywordOrName 87 = .ok (.ireturn, 1) := by decide +kernel
theorem dX3_keywordOrName_88 : decode cX3_keywordOrName 88 = .ok (.iconst 5, 1) := by decide +kernel
theorem dX3_keywordOrName_89 : decode cX3_keywordOrName 89 = .ok (.ireturn, 1) := by decide +kernel
theorem dX3_keywordOrName_90 : decode cX3_keywordOrName 90 = .ok (.bipush 6, 2) := by decide +kernel
theorem dX3_keywordOrName_92 : decode cX3_keywordOrName 92 = .ok (.ireturn, 1) := by decide +kernel
theorem dX3_keywordOrName_93 : decode cX3_keywordOrName 93 = .ok (.bipush 7, 2) := by decide +kernel
theorem dX3_keywordOrName_95 : decode cX3_keywordOrName 95 = .ok (.ireturn, 1) := by decide +kernel
theorem dX3_keywordOrName_96 : decode cX3_keywordOrName 96 = .ok (.bipush 8, 2) := by decide +kernel
theorem dX3_keywordOrName_98 : decode cX3_keywordOrName 98 = .ok (.ireturn, 1) := by decide +kernel
theorem dX3_keywordOrName_99 : decode cX3_keywordOrName 99 = .ok (.bipush 9, 2) := by decide +kernel
theorem dX3_keywordOrName_101 : decode cX3_keywordOrName 101 = .ok (.ireturn, 1) := by decide +kernel
theorem dX3_keywordOrName_102 : decode cX3_keywordOrName 102 = .ok (.bipush 10, 2) := by decide +kernel
theorem dX3_keywordOrName_104 : decode cX3_keywordOrName 104 = .ok (.ireturn, 1) := by decide +kernel
theorem dX3_keywordOrName_105 : decode cX3_keywordOrName 105 = .ok (.bipush 11, 2) := by decide +kernel
theorem dX3_keywordOrName_107 : decode cX3_keywordOrName 107 = .ok (.ireturn, 1) := by decide +kernel
theorem dX3_keywordOrName_108 : decode cX3_keywordOrName 108 = .ok (.iconst 1, 1) := by decide +kernel
theorem dX3_keywordOrName_109 : decode cX3_keywordOrName 109 = .ok (.ireturn, 1) := by decide +kernel
theorem dX3_next_0 : decode cX3_next 0 = .ok (.aload_n 0, 1) := by decide +kernel
theorem dX3_next_1 : decode cX3_next 1 = .ok (.aload_n 0, 1) := by decide +kernel
theorem dX3_next_2 : decode cX3_next 2 = .ok (.aload_n 0, 1) := by decide +kernel
theorem dX3_next_3 : decode cX3_next 3 = .ok (.getfield 15, 3) := by decide +kernel
theorem dX3_next_6 : decode cX3_next 6 = .ok (.invokevirtual 41, 3) := by decide +kernel
theorem dX3_next_9 : decode cX3_next 9 = .ok (.putfield 21, 3) := by decide +kernel
theorem dX3_next_12 : decode cX3_next 12 = .ok (.aload_n 0, 1) := by decide +kernel
theorem dX3_next_13 : decode cX3_next 13 = .ok (.getfield 21, 3) := by decide +kernel
theorem dX3_next_16 : decode cX3_next 16 = .ok (.aload_n 0, 1) := by decide +kernel
theorem dX3_next_17 : decode cX3_next 17 = .ok (.getfield 9, 3) := by decide +kernel
theorem dX3_next_20 : decode cX3_next 20 = .ok (.if_icmp .lt 17, 3) := by decide +kernel
theorem dX3_next_23 : decode cX3_next 23 = .ok (.aload_n 0, 1) := by decide +kernel
theorem dX3_next_24 : decode cX3_next 24 = .ok (.iconst 0, 1) := by decide +kernel
theorem dX3_next_25 : decode cX3_next 25 = .ok (.putfield 18, 3) := by decide +kernel
theorem dX3_next_28 : decode cX3_next 28 = .ok (.aload_n 0, 1) := by decide +kernel
theorem dX3_next_29 : decode cX3_next 29 = .ok (.aload_n 0, 1) := by decide +kernel
theorem dX3_next_30 : decode cX3_next 30 = .ok (.getfield 9, 3) := by decide +kernel
theorem dX3_next_33 : decode cX3_next 33 = .ok (.putfield 15, 3) := by decide +kernel
theorem dX3_next_36 : decode cX3_next 36 = .ok (.return_, 1) := by decide +kernel
theorem dX3_next_37 : decode cX3_next 37 = .ok (.aload_n 0, 1) := by decide +kernel
theorem dX3_next_38 : decode cX3_next 38 = .ok (.getfield 31, 3) := by decide +kernel
theorem dX3_next_41 : decode cX3_next 41 = .ok (.aload_n 0, 1) := by decide +kernel
theorem dX3_next_42 : decode cX3_next 42 = .ok (.getfield 21, 3) := by decide +kernel
theorem dX3_next_45 : decode cX3_next 45 = .ok (.baload, 1) := by decide +kernel
theorem dX3_next_46 : decode cX3_next 46 = .ok (.istore_n 1, 1) := by decide +kernel
theorem dX3_next_47 : decode cX3_next 47 = .ok (.iload_n 1, 1) := by decide +kernel
theorem dX3_next_48 : decode cX3_next 48 = .ok (.invokestatic 45, 3) := by decide +kernel
theorem dX3_next_51 : decode cX3_next 51 = .ok (.ifCond .eq 10, 3) := by decide +kernel
theorem dX3_next_54 : decode cX3_next 54 = .ok (.aload_n 0, 1) := by decide +kernel
theorem dX3_next_55 : decode cX3_next 55 = .ok (.invokevirtual 49, 3) := by decide +kernel
theorem dX3_next_58 : decode cX3_next 58 = .ok (.goto 43, 3) := by decide +kernel
theorem dX3_next_61 : decode cX3_next 61 = .ok (.iload_n 1, 1) := by decide +kernel
theorem dX3_next_62 : decode cX3_next 62 = .ok (.invokestatic 52, 3) := by decide +kernel
theorem dX3_next_65 : decode cX3_next 65 = .ok (.ifCond .eq 10, 3) := by decide +kernel
theorem dX3_next_68 : decode cX3_next 68 = .ok (.aload_n 0, 1) := by decide +kernel
theorem dX3_next_69 : decode cX3_next 69 = .ok (.invokevirtual 55, 3) := by decide +kernel
theorem dX3_next_72 : decode cX3_next 72 = .ok (.goto 29, 3) := by decide +kernel
theorem dX3_next_75 : decode cX3_next 75 = .ok (.aload_n 0, 1) := by decide +kernel
theorem dX3_next_76 : decode cX3_next 76 = .ok (.iload_n 1, 1) := by decide +kernel
theorem dX3_next_77 : decode cX3_next 77 = .ok (.invokestatic 58, 3) := by decide +kernel
theorem dX3_next_80 : decode cX3_next 80 = .ok (.ifCond .eq 7, 3) := by decide +kernel
theorem dX3_next_83 : decode cX3_next 83 = .ok (.iload_n 1, 1) := by decide +kernel
theorem dX3_next_84 : decode cX3_next 84 = .ok (.goto 4, 3) := by decide +kernel
theorem dX3_next_87 : decode cX3_next 87 = .ok (.iconst (-1), 1) := by decide +kernel
theorem dX3_next_88 : decode cX3_next 88 = .ok (.putfield 18, 3) := by decide +kernel
theorem dX3_next_91 : decode cX3_next 91 = .ok (.aload_n 0, 1) := by decide +kernel
theorem dX3_next_92 : decode cX3_next 92 = .ok (.aload_n 0, 1) := by decide +kernel
theorem dX3_next_93 : decode cX3_next 93 = .ok (.getfield 21, 3) := by decide +kernel
theorem dX3_next_96 : decode cX3_next 96 = .ok (.iconst 1, 1) := by decide +kernel
theorem dX3_next_97 : decode cX3_next 97 = .ok (.iadd, 1) := by decide +kernel
theorem dX3_next_98 : decode cX3_next 98 = .ok (.putfield 15, 3) := by decide +kernel
theorem dX3_next_101 : decode cX3_next 101 = .ok (.return_, 1) := by decide +kernel
theorem dX3_skipBlanks_0 : decode cX3_skipBlanks 0 = .ok (.iload_n 1, 1) := by decide +kernel
theorem dX3_skipBlanks_1 : decode cX3_skipBlanks 1 = .ok (.istore_n 2, 1) := by decide +kernel
theorem dX3_skipBlanks_2 : decode cX3_skipBlanks 2 = .ok (.iload_n 2, 1) := by decide +kernel
theorem dX3_skipBlanks_3 : decode cX3_skipBlanks 3 = .ok (.aload_n 0, 1) := by decide +kernel
theorem dX3_skipBlanks_4 : decode cX3_skipBlanks 4 = .ok (.getfield 9, 3) := by decide +kernel
theorem dX3_skipBlanks_7 : decode cX3_skipBlanks 7 = .ok (.if_icmp .ge 31, 3) := by decide +kernel
theorem dX3_skipBlanks_10 : decode cX3_skipBlanks 10 = .ok (.aload_n 0, 1) := by decide +kernel
theorem dX3_skipBlanks_11 : decode cX3_skipBlanks 11 = .ok (.getfield 31, 3) := by decide +kernel
theorem dX3_skipBlanks_14 : decode cX3_skipBlanks 14 = .ok (.iload_n 2, 1) := by decide +kernel
theorem dX3_skipBlanks_15 : decode cX3_skipBlanks 15 = .ok (.baload, 1) := by decide +kernel
theorem dX3_skipBlanks_16 : decode cX3_skipBlanks 16 = .ok (.bipush 32, 2) := by decide +kernel
theorem dX3_skipBlanks_18 : decode cX3_skipBlanks 18 = .ok (.if_icmp .eq 14, 3) := by decide +kernel
theorem dX3_skipBlanks_21 : decode cX3_skipBlanks 21 = .ok (.aload_n 0, 1) := by decide +kernel
theorem dX3_skipBlanks_22 : decode cX3_skipBlanks 22 = .ok (.getfield 31, 3) := by decide +kernel
theorem dX3_skipBlanks_25 : decode cX3_skipBlanks 25 = .ok (.iload_n 2, 1) := by decide +kernel
theorem dX3_skipBlanks_26 : decode cX3_skipBlanks 26 = .ok (.baload, 1) := by decide +kernel
theorem dX3_skipBlanks_27 : decode cX3_skipBlanks 27 = .ok (.bipush 10, 2) := by decide +kernel
theorem dX3_skipBlanks_29 : decode cX3_skipBlanks 29 = .ok (.if_icmp .ne 9, 3) := by decide +kernel
theorem dX3_skipBlanks_32 : decode cX3_skipBlanks 32 = .ok (.iinc 2 1, 3) := by decide +kernel
theorem dX3_skipBlanks_35 : decode cX3_skipBlanks 35 = .ok (.goto (-33), 3) := by decide +kernel
theorem dX3_skipBlanks_38 : decode cX3_skipBlanks 38 = .ok (.iload_n 2, 1) := by decide +kernel
theorem dX3_skipBlanks_39 : decode cX3_skipBlanks 39 = .ok (.ireturn, 1) := by decide +kernel
theorem dX3_takeDigits_0 : decode cX3_takeDigits 0 = .ok (.lconst 0, 1) := by decide +kernel
theorem dX3_takeDigits_1 : decode cX3_takeDigits 1 = .ok (.lstore_n 1, 1) := by decide +kernel
theorem dX3_takeDigits_2 : decode cX3_takeDigits 2 = .ok (.aload_n 0, 1) := by decide +kernel
theorem dX3_takeDigits_3 : decode cX3_takeDigits 3 = .ok (.getfield 21, 3) := by decide +kernel
theorem dX3_takeDigits_6 : decode cX3_takeDigits 6 = .ok (.istore_n 3, 1) := by decide +kernel
theorem dX3_takeDigits_7 : decode cX3_takeDigits 7 = .ok (.iload_n 3, 1) := by decide +kernel
theorem dX3_takeDigits_8 : decode cX3_takeDigits 8 = .ok (.aload_n 0, 1) := by decide +kernel
theorem dX3_takeDigits_9 : decode cX3_takeDigits 9 = .ok (.getfield 9, 3) := by decide +kernel
theorem dX3_takeDigits_12 : decode cX3_takeDigits 12 = .ok (.if_icmp .ge 46, 3) := by decide +kernel
theorem dX3_takeDigits_15 : decode cX3_takeDigits 15 = .ok (.aload_n 0, 1) := by decide +kernel
theorem dX3_takeDigits_16 : decode cX3_takeDigits 16 = .ok (.getfield 31, 3) := by decide +kernel
theorem dX3_takeDigits_19 : decode cX3_takeDigits 19 = .ok (.iload_n 3, 1) := by decide +kernel
theorem dX3_takeDigits_20 : decode cX3_takeDigits 20 = .ok (.baload, 1) := by decide +kernel
theorem dX3_takeDigits_21 : decode cX3_takeDigits 21 = .ok (.invokestatic 52, 3) := by decide +kernel
theorem dX3_takeDigits_24 : decode cX3_takeDigits 24 = .ok (.ifCond .eq 34, 3) := by decide +kernel
theorem dX3_takeDigits_27 : decode cX3_takeDigits 27 = .ok (.lload_n 1, 1) := by decide +kernel
theorem dX3_takeDigits_28 : decode cX3_takeDigits 28 = .ok (.ldc2_w 64, 3) := by decide +kernel
theorem dX3_takeDigits_31 : decode cX3_takeDigits 31 = .ok (.lcmp, 1) := by decide +kernel
theorem dX3_takeDigits_32 : decode cX3_takeDigits 32 = .ok (.ifCond .gt 20, 3) := by decide +kernel
theorem dX3_takeDigits_35 : decode cX3_takeDigits 35 = .ok (.lload_n 1, 1) := by decide +kernel
theorem dX3_takeDigits_36 : decode cX3_takeDigits 36 = .ok (.ldc2_w 66, 3) := by decide +kernel
theorem dX3_takeDigits_39 : decode cX3_takeDigits 39 = .ok (.lmul, 1) := by decide +kernel
theorem dX3_takeDigits_40 : decode cX3_takeDigits 40 = .ok (.aload_n 0, 1) := by decide +kernel
theorem dX3_takeDigits_41 : decode cX3_takeDigits 41 = .ok (.getfield 31, 3) := by decide +kernel
theorem dX3_takeDigits_44 : decode cX3_takeDigits 44 = .ok (.iload_n 3, 1) := by decide +kernel
theorem dX3_takeDigits_45 : decode cX3_takeDigits 45 = .ok (.baload, 1) := by decide +kernel
theorem dX3_takeDigits_46 : decode cX3_takeDigits 46 = .ok (.bipush 48, 2) := by decide +kernel
theorem dX3_takeDigits_48 : decode cX3_takeDigits 48 = .ok (.isub, 1) := by decide +kernel
theorem dX3_takeDigits_49 : decode cX3_takeDigits 49 = .ok (.i2l, 1) := by decide +kernel
theorem dX3_takeDigits_50 : decode cX3_takeDigits 50 = .ok (.ladd, 1) := by decide +kernel
theorem dX3_takeDigits_51 : decode cX3_takeDigits 51 = .ok (.lstore_n 1, 1) := by decide +kernel
theorem dX3_takeDigits_52 : decode cX3_takeDigits 52 = .ok (.iinc 3 1, 3) := by decide +kernel
theorem dX3_takeDigits_55 : decode cX3_takeDigits 55 = .ok (.goto (-48), 3) := by decide +kernel
theorem dX3_takeDigits_58 : decode cX3_takeDigits 58 = .ok (.aload_n 0, 1) := by decide +kernel
theorem dX3_takeDigits_59 : decode cX3_takeDigits 59 = .ok (.iload_n 3, 1) := by decide +kernel
theorem dX3_takeDigits_60 : decode cX3_takeDigits 60 = .ok (.putfield 15, 3) := by decide +kernel
theorem dX3_takeDigits_63 : decode cX3_takeDigits 63 = .ok (.aload_n 0, 1) := by decide +kernel
theorem dX3_takeDigits_64 : decode cX3_takeDigits 64 = .ok (.lload_n 1, 1) := by decide +kernel
theorem dX3_takeDigits_65 : decode cX3_takeDigits 65 = .ok (.putfield 28, 3) := by decide +kernel
theorem dX3_takeDigits_68 : decode cX3_takeDigits 68 = .ok (.aload_n 0, 1) := by decide +kernel
theorem dX3_takeDigits_69 : decode cX3_takeDigits 69 = .ok (.iconst 2, 1) := by decide +kernel
theorem dX3_takeDigits_70 : decode cX3_takeDigits 70 = .ok (.putfield 18, 3) := by decide +kernel
theorem dX3_takeDigits_73 : decode cX3_takeDigits 73 = .ok (.return_, 1) := by decide +kernel
theorem dX3_takeLetters_0 : decode cX3_takeLetters 0 = .ok (.lconst 0, 1) := by decide +kernel
theorem dX3_takeLetters_1 : decode cX3_takeLetters 1 = .ok (.lstore_n 1, 1) := by decide +kernel
theorem dX3_takeLetters_2 : decode cX3_takeLetters 2 = .ok (.aload_n 0, 1) := by decide +kernel
theorem dX3_takeLetters_3 : decode cX3_takeLetters 3 = .ok (.getfield 21, 3) := by decide +kernel
theorem dX3_takeLetters_6 : decode cX3_takeLetters 6 = .ok (.istore_n 3, 1) := by decide +kernel
theorem dX3_takeLetters_7 : decode cX3_takeLetters 7 = .ok (.iload_n 3, 1) := by decide +kernel
theorem dX3_takeLetters_8 : decode cX3_takeLetters 8 = .ok (.aload_n 0, 1) := by decide +kernel
theorem dX3_takeLetters_9 : decode cX3_takeLetters 9 = .ok (.getfield 9, 3) := by decide +kernel
theorem dX3_takeLetters_12 : decode cX3_takeLetters 12 = .ok (.if_icmp .ge 34, 3) := by decide +kernel
theorem dX3_takeLetters_15 : decode cX3_takeLetters 15 = .ok (.aload_n 0, 1) := by decide +kernel
theorem dX3_takeLetters_16 : decode cX3_takeLetters 16 = .ok (.getfield 31, 3) := by decide +kernel
theorem dX3_takeLetters_19 : decode cX3_takeLetters 19 = .ok (.iload_n 3, 1) := by decide +kernel
theorem dX3_takeLetters_20 : decode cX3_takeLetters 20 = .ok (.baload, 1) := by decide +kernel
theorem dX3_takeLetters_21 : decode cX3_takeLetters 21 = .ok (.invokestatic 45, 3) := by decide +kernel
theorem dX3_takeLetters_24 : decode cX3_takeLetters 24 = .ok (.ifCond .eq 22, 3) := by decide +kernel
theorem dX3_takeLetters_27 : decode cX3_takeLetters 27 = .ok (.lload_n 1, 1) := by decide +kernel
theorem dX3_takeLetters_28 : decode cX3_takeLetters 28 = .ok (.bipush 8, 2) := by decide +kernel
theorem dX3_takeLetters_30 : decode cX3_takeLetters 30 = .ok (.lshl, 1) := by decide +kernel
theorem dX3_takeLetters_31 : decode cX3_takeLetters 31 = .ok (.aload_n 0, 1) := by decide +kernel
theorem dX3_takeLetters_32 : decode cX3_takeLetters 32 = .ok (.getfield 31, 3) := by decide +kernel
theorem dX3_takeLetters_35 : decode cX3_takeLetters 35 = .ok (.iload_n 3, 1) := by decide +kernel
theorem dX3_takeLetters_36 : decode cX3_takeLetters 36 = .ok (.baload, 1) := by decide +kernel
theorem dX3_takeLetters_37 : decode cX3_takeLetters 37 = .ok (.i2l, 1) := by decide +kernel
theorem dX3_takeLetters_38 : decode cX3_takeLetters 38 = .ok (.lor, 1) := by decide +kernel
theorem dX3_takeLetters_39 : decode cX3_takeLetters 39 = .ok (.lstore_n 1, 1) := by decide +kernel
theorem dX3_takeLetters_40 : decode cX3_takeLetters 40 = .ok (.iinc 3 1, 3) := by decide +kernel
theorem dX3_takeLetters_43 : decode cX3_takeLetters 43 = .ok (.goto (-36), 3) := by decide +kernel
theorem dX3_takeLetters_46 : decode cX3_takeLetters 46 = .ok (.aload_n 0, 1) := by decide +kernel
theorem dX3_takeLetters_47 : decode cX3_takeLetters 47 = .ok (.iload_n 3, 1) := by decide +kernel
theorem dX3_takeLetters_48 : decode cX3_takeLetters 48 = .ok (.putfield 15, 3) := by decide +kernel
theorem dX3_takeLetters_51 : decode cX3_takeLetters 51 = .ok (.aload_n 0, 1) := by decide +kernel
theorem dX3_takeLetters_52 : decode cX3_takeLetters 52 = .ok (.lload_n 1, 1) := by decide +kernel
theorem dX3_takeLetters_53 : decode cX3_takeLetters 53 = .ok (.putfield 24, 3) := by decide +kernel
theorem dX3_takeLetters_56 : decode cX3_takeLetters 56 = .ok (.iload_n 3, 1) := by decide +kernel
theorem dX3_takeLetters_57 : decode cX3_takeLetters 57 = .ok (.aload_n 0, 1) := by decide +kernel
theorem dX3_takeLetters_58 : decode cX3_takeLetters 58 = .ok (.getfield 21, 3) := by decide +kernel
theorem dX3_takeLetters_61 : decode cX3_takeLetters 61 = .ok (.isub, 1) := by decide +kernel
theorem dX3_takeLetters_62 : decode cX3_takeLetters 62 = .ok (.istore 4, 2) := by decide +kernel
theorem dX3_takeLetters_64 : decode cX3_takeLetters 64 = .ok (.aload_n 0, 1) := by decide +kernel
theorem dX3_takeLetters_65 : decode cX3_takeLetters 65 = .ok (.iload 4, 2) := by decide +kernel
theorem dX3_takeLetters_67 : decode cX3_takeLetters 67 = .ok (.bipush 8, 2) := by decide +kernel
theorem dX3_takeLetters_69 : decode cX3_takeLetters 69 = .ok (.if_icmp .le 7, 3) := by decide +kernel
theorem dX3_takeLetters_72 : decode cX3_takeLetters 72 = .ok (.iconst (-1), 1) := by decide +kernel
theorem dX3_takeLetters_73 : decode cX3_takeLetters 73 = .ok (.goto 18, 3) := by decide +kernel
theorem dX3_takeLetters_76 : decode cX3_takeLetters 76 = .ok (.iload 4, 2) := by decide +kernel
theorem dX3_takeLetters_78 : decode cX3_takeLetters 78 = .ok (.iconst 4, 1) := by decide +kernel
theorem dX3_takeLetters_79 : decode cX3_takeLetters 79 = .ok (.if_icmp .le 7, 3) := by decide +kernel
theorem dX3_takeLetters_82 : decode cX3_takeLetters 82 = .ok (.iconst 1, 1) := by decide +kernel
theorem dX3_takeLetters_83 : decode cX3_takeLetters 83 = .ok (.goto 8, 3) := by decide +kernel
theorem dX3_takeLetters_86 : decode cX3_takeLetters 86 = .ok (.lload_n 1, 1) := by decide +kernel
theorem dX3_takeLetters_87 : decode cX3_takeLetters 87 = .ok (.l2i, 1) := by decide +kernel
theorem dX3_takeLetters_88 : decode cX3_takeLetters 88 = .ok (.invokestatic 61, 3) := by decide +kernel
theorem dX3_takeLetters_91 : decode cX3_takeLetters 91 = .ok (.putfield 18, 3) := by decide +kernel
theorem dX3_takeLetters_94 : decode cX3_takeLetters 94 = .ok (.return_, 1) := by decide +kernel
