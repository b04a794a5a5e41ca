theorem dX0_await_0 : decode cX0_await 0 = .ok (.aload_n 0, 1) := by decide +kernel
theorem dX0_await_1 : decode cX0_await 1 = .ok (.getfield 31, 3) := by decide +kernel
theorem dX0_await_4 : decode cX0_await 4 = .ok (.bipush 40, 2) := by decide +kernel
theorem dX0_await_6 : decode cX0_await 6 = .ok (.if_icmp .lt 5, 3) := by decide +kernel
theorem dX0_await_9 : decode cX0_await 9 = .ok (.iconst 4, 1) := by decide +kernel
theorem dX0_await_10 : decode cX0_await 10 = .ok (.ireturn, 1) := by decide +kernel
theorem dX0_await_11 : decode cX0_await 11 = .ok (.aload_n 0, 1) := by decide +kernel
theorem dX0_await_12 : decode cX0_await 12 = .ok (.getfield 27, 3) := by decide +kernel
theorem dX0_await_15 : decode cX0_await 15 = .ok (.aload_n 0, 1) := by decide +kernel
theorem dX0_await_16 : decode cX0_await 16 = .ok (.getfield 31, 3) := by decide +kernel
theorem dX0_await_19 : decode cX0_await 19 = .ok (.iload_n 1, 1) := by decide +kernel
theorem dX0_await_20 : decode cX0_await 20 = .ok (.iastore, 1) := by decide +kernel
theorem dX0_await_21 : decode cX0_await 21 = .ok (.aload_n 0, 1) := by decide +kernel
theorem dX0_await_22 : decode cX0_await 22 = .ok (.dup, 1) := by decide +kernel
theorem dX0_await_23 : decode cX0_await 23 = .ok (.getfield 31, 3) := by decide +kernel
theorem dX0_await_26 : decode cX0_await 26 = .ok (.iconst 1, 1) := by decide +kernel
theorem dX0_await_27 : decode cX0_await 27 = .ok (.iadd, 1) := by decide +kernel
theorem dX0_await_28 : decode cX0_await 28 = .ok (.putfield 31, 3) := by decide +kernel
theorem dX0_await_31 : decode cX0_await 31 = .ok (.aload_n 0, 1) := by decide +kernel
theorem dX0_await_32 : decode cX0_await 32 = .ok (.iconst 0, 1) := by decide +kernel
theorem dX0_await_33 : decode cX0_await 33 = .ok (.putfield 18, 3) := by decide +kernel
theorem dX0_await_36 : decode cX0_await 36 = .ok (.iconst 0, 1) := by decide +kernel
theorem dX0_await_37 : decode cX0_await 37 = .ok (.ireturn, 1) := by decide +kernel
theorem dX0_begin_0 : decode cX0_begin 0 = .ok (.aload_n 0, 1) := by decide +kernel
theorem dX0_begin_1 : decode cX0_begin 1 = .ok (.aload_n 1, 1) := by decide +kernel
theorem dX0_begin_2 : decode cX0_begin 2 = .ok (.putfield 45, 3) := by decide +kernel
theorem dX0_begin_5 : decode cX0_begin 5 = .ok (.aload_n 0, 1) := by decide +kernel
theorem dX0_begin_6 : decode cX0_begin 6 = .ok (.iload_n 2, 1) := by decide +kernel
theorem dX0_begin_7 : decode cX0_begin 7 = .ok (.putfield 9, 3) := by decide +kernel
theorem dX0_begin_10 : decode cX0_begin 10 = .ok (.aload_n 0, 1) := by decide +kernel
theorem dX0_begin_11 : decode cX0_begin 11 = .ok (.iload_n 3, 1) := by decide +kernel
theorem dX0_begin_12 : decode cX0_begin 12 = .ok (.putfield 15, 3) := by decide +kernel
theorem dX0_begin_15 : decode cX0_begin 15 = .ok (.aload_n 0, 1) := by decide +kernel
theorem dX0_begin_16 : decode cX0_begin 16 = .ok (.iconst 0, 1) := by decide +kernel
theorem dX0_begin_17 : decode cX0_begin 17 = .ok (.putfield 18, 3) := by decide +kernel
theorem dX0_begin_20 : decode cX0_begin 20 = .ok (.aload_n 0, 1) := by decide +kernel
theorem dX0_begin_21 : decode cX0_begin 21 = .ok (.iconst 0, 1) := by decide +kernel
theorem dX0_begin_22 : decode cX0_begin 22 = .ok (.putfield 21, 3) := by decide +kernel
theorem dX0_begin_25 : decode cX0_begin 25 = .ok (.aload_n 0, 1) := by decide +kernel
theorem dX0_begin_26 : decode cX0_begin 26 = .ok (.iconst 0, 1) := by decide +kernel
theorem dX0_begin_27 : decode cX0_begin 27 = .ok (.putfield 31, 3) := by decide +kernel
theorem dX0_begin_30 : decode cX0_begin 30 = .ok (.aload_n 0, 1) := by decide +kernel
theorem dX0_begin_31 : decode cX0_begin 31 = .ok (.iconst 0, 1) := by decide +kernel
theorem dX0_begin_32 : decode cX0_begin 32 = .ok (.putfield 34, 3) := by decide +kernel
theorem dX0_begin_35 : decode cX0_begin 35 = .ok (.aload_n 0, 1) := by decide +kernel
theorem dX0_begin_36 : decode cX0_begin 36 = .ok (.iconst 0, 1) := by decide +kernel
theorem dX0_begin_37 : decode cX0_begin 37 = .ok (.putfield 37, 3) := by decide +kernel
theorem dX0_begin_40 : decode cX0_begin 40 = .ok (.aload_n 0, 1) := by decide +kernel
theorem dX0_begin_41 : decode cX0_begin 41 = .ok (.getfield 45, 3) := by decide +kernel
theorem dX0_begin_44 : decode cX0_begin 44 = .ok (.getfield 49, 3) := by decide +kernel
theorem dX0_begin_47 : decode cX0_begin 47 = .ok (.aload_n 0, 1) := by decide +kernel
theorem dX0_begin_48 : decode cX0_begin 48 = .ok (.getfield 15, 3) := by decide +kernel
theorem dX0_begin_51 : decode cX0_begin 51 = .ok (.aload_n 0, 1) := by decide +kernel
theorem dX0_begin_52 : decode cX0_begin 52 = .ok (.getfield 45, 3) := by decide +kernel
theorem dX0_begin_55 : decode cX0_begin 55 = .ok (.getfield 54, 3) := by decide +kernel
theorem dX0_begin_58 : decode cX0_begin 58 = .ok (.iastore, 1) := by decide +kernel
theorem dX0_begin_59 : decode cX0_begin 59 = .ok (.return_, 1) := by decide +kernel
theorem dX0_binary_0 : decode cX0_binary 0 = .ok (.aload_n 0, 1) := by decide +kernel
theorem dX0_binary_1 : decode cX0_binary 1 = .ok (.iload_n 1, 1) := by decide +kernel
theorem dX0_binary_2 : decode cX0_binary 2 = .ok (.invokevirtual 122, 3) := by decide +kernel
theorem dX0_binary_5 : decode cX0_binary 5 = .ok (.aload_n 0, 1) := by decide +kernel
theorem dX0_binary_6 : decode cX0_binary 6 = .ok (.invokevirtual 100, 3) := by decide +kernel
theorem dX0_binary_9 : decode cX0_binary 9 = .ok (.ifCond .eq 7, 3) := by decide +kernel
theorem dX0_binary_12 : decode cX0_binary 12 = .ok (.iconst 4, 1) := by decide +kernel
theorem dX0_binary_13 : decode cX0_binary 13 = .ok (.goto 14, 3) := by decide +kernel
theorem dX0_binary_16 : decode cX0_binary 16 = .ok (.aload_n 0, 1) := by decide +kernel
theorem dX0_binary_17 : decode cX0_binary 17 = .ok (.aload_n 0, 1) := by decide +kernel
theorem dX0_binary_18 : decode cX0_binary 18 = .ok (.getfield 41, 3) := by decide +kernel
theorem dX0_binary_21 : decode cX0_binary 21 = .ok (.getfield 70, 3) := by decide +kernel
theorem dX0_binary_24 : decode cX0_binary 24 = .ok (.invokevirtual 126, 3) := by decide +kernel
theorem dX0_binary_27 : decode cX0_binary 27 = .ok (.ireturn, 1) := by decide +kernel
theorem dX0_bindingOf_0 : decode cX0_bindingOf 0 = .ok (.iload_n 0, 1) := by decide +kernel
theorem dX0_bindingOf_1 : decode cX0_bindingOf 1 = .ok (.lookupswitch 93 #[(11, 91), (37, 85), (42, 85), (43, 87), (45, 87), (47, 85), (60, 89), (61, 89), (126, 83)], 83) := by decide +kernel
theorem dX0_bindingOf_84 : decode cX0_bindingOf 84 = .ok (.iconst 5, 1) := by decide +kernel
theorem dX0_bindingOf_85 : decode cX0_bindingOf 85 = .ok (.ireturn, 1) := by decide +kernel
theorem dX0_bindingOf_86 : decode cX0_bindingOf 86 = .ok (.iconst 4, 1) := by decide +kernel
theorem dX0_bindingOf_87 : decode cX0_bindingOf 87 = .ok (.ireturn, 1) := by decide +kernel
theorem dX0_bindingOf_88 : decode cX0_bindingOf 88 = .ok (.iconst 3, 1) := by decide +kernel
theorem dX0_bindingOf_89 : decode cX0_bindingOf 89 = .ok (.ireturn, 1) := by decide +kernel
theorem dX0_bindingOf_90 : decode cX0_bindingOf 90 = .ok (.iconst 2, 1) := by decide +kernel
theorem dX0_bindingOf_91 : decode cX0_bindingOf 91 = .ok (.ireturn, 1) := by decide +kernel
theorem dX0_bindingOf_92 : decode cX0_bindingOf 92 = .ok (.iconst 1, 1) := by decide +kernel
theorem dX0_bindingOf_93 : decode cX0_bindingOf 93 = .ok (.ireturn, 1) := by decide +kernel
theorem dX0_bindingOf_94 : decode cX0_bindingOf 94 = .ok (.iconst 0, 1) := by decide +kernel
theorem dX0_bindingOf_95 : decode cX0_bindingOf 95 = .ok (.ireturn, 1) := by decide +kernel
theorem dX0_closeParenthesis_0 : decode cX0_closeParenthesis 0 = .ok (.aload_n 0, 1) := by decide +kernel
theorem dX0_closeParenthesis_1 : decode cX0_closeParenthesis 1 = .ok (.iconst 1, 1) := by decide +kernel
theorem dX0_closeParenthesis_2 : decode cX0_closeParenthesis 2 = .ok (.invokevirtual 122, 3) := by decide +kernel
theorem dX0_closeParenthesis_5 : decode cX0_closeParenthesis 5 = .ok (.aload_n 0, 1) := by decide +kernel
theorem dX0_closeParenthesis_6 : decode cX0_closeParenthesis 6 = .ok (.invokevirtual 144, 3) := by decide +kernel
theorem dX0_closeParenthesis_9 : decode cX0_closeParenthesis 9 = .ok (.bipush 40, 2) := by decide +kernel
theorem dX0_closeParenthesis_11 : decode cX0_closeParenthesis 11 = .ok (.if_icmp .eq 5, 3) := by decide +kernel
theorem dX0_closeParenthesis_14 : decode cX0_closeParenthesis 14 = .ok (.iconst 1, 1) := by decide +kernel
theorem dX0_closeParenthesis_15 : decode cX0_closeParenthesis 15 = .ok (.ireturn, 1) := by decide +kernel
theorem dX0_closeParenthesis_16 : decode cX0_closeParenthesis 16 = .ok (.aload_n 0, 1) := by decide +kernel
theorem dX0_closeParenthesis_17 : decode cX0_closeParenthesis 17 = .ok (.dup, 1) := by decide +kernel
theorem dX0_closeParenthesis_18 : decode cX0_closeParenthesis 18 = .ok (.getfield 31, 3) := by decide +kernel
theorem dX0_closeParenthesis_21 : decode cX0_closeParenthesis 21 = .ok (.iconst 1, 1) := by decide +kernel
theorem dX0_closeParenthesis_22 : decode cX0_closeParenthesis 22 = .ok (.isub, 1) := by decide +kernel
theorem dX0_closeParenthesis_23 : decode cX0_closeParenthesis 23 = .ok (.putfield 31, 3) := by decide +kernel
theorem dX0_closeParenthesis_26 : decode cX0_closeParenthesis 26 = .ok (.aload_n 0, 1) := by decide +kernel
theorem dX0_closeParenthesis_27 : decode cX0_closeParenthesis 27 = .ok (.dup, 1) := by decide +kernel
theorem dX0_closeParenthesis_28 : decode cX0_closeParenthesis 28 = .ok (.getfield 34, 3) := by decide +kernel
theorem dX0_closeParenthesis_31 : decode cX0_closeParenthesis 31 = .ok (.iconst 1, 1) := by decide +kernel
theorem dX0_closeParenthesis_32 : decode cX0_closeParenthesis 32 = .ok (.isub, 1) := by decide +kernel
theorem dX0_closeParenthesis_33 : decode cX0_closeParenthesis 33 = .ok (.putfield 34, 3) := by decide +kernel
theorem dX0_closeParenthesis_36 : decode cX0_closeParenthesis 36 = .ok (.aload_n 0, 1) := by decide +kernel
theorem dX0_closeParenthesis_37 : decode cX0_closeParenthesis 37 = .ok (.iconst 5, 1) := by decide +kernel
theorem dX0_closeParenthesis_38 : decode cX0_closeParenthesis 38 = .ok (.invokevirtual 122, 3) := by decide +kernel
theorem dX0_closeParenthesis_41 : decode cX0_closeParenthesis 41 = .ok (.aload_n 0, 1) := by decide +kernel
theorem dX0_closeParenthesis_42 : decode cX0_closeParenthesis 42 = .ok (.iconst 3, 1) := by decide +kernel
theorem dX0_closeParenthesis_43 : decode cX0_closeParenthesis 43 = .ok (.putfield 18, 3) := by decide +kernel
theorem dX0_closeParenthesis_46 : decode cX0_closeParenthesis 46 = .ok (.aload_n 0, 1) := by decide +kernel
theorem dX0_closeParenthesis_47 : decode cX0_closeParenthesis 47 = .ok (.invokevirtual 100, 3) := by decide +kernel
theorem dX0_closeParenthesis_50 : decode cX0_closeParenthesis 50 = .ok (.ifCond .eq 7, 3) := by decide +kernel
theorem dX0_closeParenthesis_53 : decode cX0_closeParenthesis 53 = .ok (.iconst 4, 1) := by decide +kernel
theorem dX0_closeParenthesis_54 : decode cX0_closeParenthesis 54 = .ok (.goto 4, 3) := by decide +kernel
theorem dX0_closeParenthesis_57 : decode cX0_closeParenthesis 57 = .ok (.iconst 0, 1) := by decide +kernel
theorem dX0_closeParenthesis_58 : decode cX0_closeParenthesis 58 = .ok (.ireturn, 1) := by decide +kernel
theorem dX0_compare_0 : decode cX0_compare 0 = .ok (.aload_n 0, 1) := by decide +kernel
theorem dX0_compare_1 : decode cX0_compare 1 = .ok (.iconst 3, 1) := by decide +kernel
theorem dX0_compare_2 : decode cX0_compare 2 = .ok (.invokevirtual 122, 3) := by decide +kernel
theorem dX0_compare_5 : decode cX0_compare 5 = .ok (.aload_n 0, 1) := by decide +kernel
theorem dX0_compare_6 : decode cX0_compare 6 = .ok (.invokevirtual 94, 3) := by decide +kernel
theorem dX0_compare_9 : decode cX0_compare 9 = .ok (.iconst 2, 1) := by decide +kernel
theorem dX0_compare_10 : decode cX0_compare 10 = .ok (.if_icmp .ne 5, 3) := by decide +kernel
theorem dX0_compare_13 : decode cX0_compare 13 = .ok (.iconst 1, 1) := by decide +kernel
theorem dX0_compare_14 : decode cX0_compare 14 = .ok (.ireturn, 1) := by decide +kernel
theorem dX0_compare_15 : decode cX0_compare 15 = .ok (.aload_n 0, 1) := by decide +kernel
theorem dX0_compare_16 : decode cX0_compare 16 = .ok (.invokevirtual 100, 3) := by decide +kernel
theorem dX0_compare_19 : decode cX0_compare 19 = .ok (.ifCond .eq 7, 3) := by decide +kernel
theorem dX0_compare_22 : decode cX0_compare 22 = .ok (.iconst 4, 1) := by decide +kernel
theorem dX0_compare_23 : decode cX0_compare 23 = .ok (.goto 14, 3) := by decide +kernel
theorem dX0_compare_26 : decode cX0_compare 26 = .ok (.aload_n 0, 1) := by decide +kernel
theorem dX0_compare_27 : decode cX0_compare 27 = .ok (.aload_n 0, 1) := by decide +kernel
theorem dX0_compare_28 : decode cX0_compare 28 = .ok (.getfield 41, 3) := by decide +kernel
theorem dX0_compare_31 : decode cX0_compare 31 = .ok (.getfield 70, 3) := by decide +kernel
theorem dX0_compare_34 : decode cX0_compare 34 = .ok (.invokevirtual 126, 3) := by decide +kernel
theorem dX0_compare_37 : decode cX0_compare 37 = .ok (.ireturn, 1) := by decide +kernel
theorem dX0_emitOperand_0 : decode cX0_emitOperand 0 = .ok (.aload_n 0, 1) := by decide +kernel
theorem dX0_emitOperand_1 : decode cX0_emitOperand 1 = .ok (.invokevirtual 100, 3) := by decide +kernel
theorem dX0_emitOperand_4 : decode cX0_emitOperand 4 = .ok (.ifCond .eq 5, 3) := by decide +kernel
theorem dX0_emitOperand_7 : decode cX0_emitOperand 7 = .ok (.iconst 4, 1) := by decide +kernel
theorem dX0_emitOperand_8 : decode cX0_emitOperand 8 = .ok (.ireturn, 1) := by decide +kernel
theorem dX0_emitOperand_9 : decode cX0_emitOperand 9 = .ok (.lload_n 2, 1) := by decide +kernel
theorem dX0_emitOperand_10 : decode cX0_emitOperand 10 = .ok (.ldc2_w 116, 3) := by decide +kernel
theorem dX0_emitOperand_13 : decode cX0_emitOperand 13 = .ok (.lcmp, 1) := by decide +kernel
theorem dX0_emitOperand_14 : decode cX0_emitOperand 14 = .ok (.ifCond .le 5, 3) := by decide +kernel
theorem dX0_emitOperand_17 : decode cX0_emitOperand 17 = .ok (.iconst 5, 1) := by decide +kernel
theorem dX0_emitOperand_18 : decode cX0_emitOperand 18 = .ok (.ireturn, 1) := by decide +kernel
theorem dX0_emitOperand_19 : decode cX0_emitOperand 19 = .ok (.aload_n 0, 1) := by decide +kernel
theorem dX0_emitOperand_20 : decode cX0_emitOperand 20 = .ok (.getfield 45, 3) := by decide +kernel
theorem dX0_emitOperand_23 : decode cX0_emitOperand 23 = .ok (.iload_n 1, 1) := by decide +kernel
theorem dX0_emitOperand_24 : decode cX0_emitOperand 24 = .ok (.lload_n 2, 1) := by decide +kernel
theorem dX0_emitOperand_25 : decode cX0_emitOperand 25 = .ok (.l2i, 1) := by decide +kernel
theorem dX0_emitOperand_26 : decode cX0_emitOperand 26 = .ok (.invokevirtual 118, 3) := by decide +kernel
theorem dX0_emitOperand_29 : decode cX0_emitOperand 29 = .ok (.aload_n 0, 1) := by decide +kernel
theorem dX0_emitOperand_30 : decode cX0_emitOperand 30 = .ok (.iconst 5, 1) := by decide +kernel
theorem dX0_emitOperand_31 : decode cX0_emitOperand 31 = .ok (.invokevirtual 122, 3) := by decide +kernel
theorem dX0_emitOperand_34 : decode cX0_emitOperand 34 = .ok (.aload_n 0, 1) := by decide +kernel
theorem dX0_emitOperand_35 : decode cX0_emitOperand 35 = .ok (.iconst 3, 1) := by decide +kernel
theorem dX0_emitOperand_36 : decode cX0_emitOperand 36 = .ok (.putfield 18, 3) := by decide +kernel
theorem dX0_emitOperand_39 : decode cX0_emitOperand 39 = .ok (.iconst 0, 1) := by decide +kernel
theorem dX0_emitOperand_40 : decode cX0_emitOperand 40 = .ok (.ireturn, 1) := by decide +kernel
theorem dX0_finish_0 : decode cX0_finish 0 = .ok (.aload_n 0, 1) := by decide +kernel
theorem dX0_finish_1 : decode cX0_finish 1 = .ok (.iconst 1, 1) := by decide +kernel
theorem dX0_finish_2 : decode cX0_finish 2 = .ok (.invokevirtual 122, 3) := by decide +kernel
theorem dX0_finish_5 : decode cX0_finish 5 = .ok (.aload_n 0, 1) := by decide +kernel
theorem dX0_finish_6 : decode cX0_finish 6 = .ok (.getfield 31, 3) := by decide +kernel
theorem dX0_finish_9 : decode cX0_finish 9 = .ok (.ifCond .le 5, 3) := by decide +kernel
theorem dX0_finish_12 : decode cX0_finish 12 = .ok (.iconst 1, 1) := by decide +kernel
theorem dX0_finish_13 : decode cX0_finish 13 = .ok (.ireturn, 1) := by decide +kernel
theorem dX0_finish_14 : decode cX0_finish 14 = .ok (.aload_n 0, 1) := by decide +kernel
theorem dX0_finish_15 : decode cX0_finish 15 = .ok (.getfield 45, 3) := by decide +kernel
theorem dX0_finish_18 : decode cX0_finish 18 = .ok (.getfield 147, 3) := by decide +kernel
theorem dX0_finish_21 : decode cX0_finish 21 = .ok (.aload_n 0, 1) := by decide +kernel
theorem dX0_finish_22 : decode cX0_finish 22 = .ok (.getfield 15, 3) := by decide +kernel
theorem dX0_finish_25 : decode cX0_finish 25 = .ok (.aload_n 0, 1) := by decide +kernel
theorem dX0_finish_26 : decode cX0_finish 26 = .ok (.getfield 45, 3) := by decide +kernel
theorem dX0_finish_29 : decode cX0_finish 29 = .ok (.getfield 54, 3) := by decide +kernel
theorem dX0_finish_32 : decode cX0_finish 32 = .ok (.iastore, 1) := by decide +kernel
theorem dX0_finish_33 : decode cX0_finish 33 = .ok (.aload_n 0, 1) := by decide +kernel
theorem dX0_finish_34 : decode cX0_finish 34 = .ok (.getfield 45, 3) := by decide +kernel
theorem dX0_finish_37 : decode cX0_finish 37 = .ok (.getfield 150, 3) := by decide +kernel
theorem dX0_finish_40 : decode cX0_finish 40 = .ok (.aload_n 0, 1) := by decide +kernel
theorem dX0_finish_41 : decode cX0_finish 41 = .ok (.getfield 9, 3) := by decide +kernel
theorem dX0_finish_44 : decode cX0_finish 44 = .ok (.dup2, 1) := by decide +kernel
theorem dX0_finish_45 : decode cX0_finish 45 = .ok (.iaload, 1) := by decide +kernel
theorem dX0_finish_46 : decode cX0_finish 46 = .ok (.iconst 1, 1) := by decide +kernel
theorem dX0_finish_47 : decode cX0_finish 47 = .ok (.iadd, 1) := by decide +kernel
theorem dX0_finish_48 : decode cX0_finish 48 = .ok (.iastore, 1) := by decide +kernel
theorem dX0_finish_49 : decode cX0_finish 49 = .ok (.aload_n 0, 1) := by decide +kernel
theorem dX0_finish_50 : decode cX0_finish 50 = .ok (.iconst 1, 1) := by decide +kernel
theorem dX0_finish_51 : decode cX0_finish 51 = .ok (.putfield 37, 3) := by decide +kernel
theorem dX0_finish_54 : decode cX0_finish 54 = .ok (.iconst 0, 1) := by decide +kernel
theorem dX0_finish_55 : decode cX0_finish 55 = .ok (.ireturn, 1) := by decide +kernel
theorem dX0_init_0 : decode cX0_init 0 = .ok (.aload_n 0, 1) := by decide +kernel
theorem dX0_init_1 : decode cX0_init 1 = .ok (.invokespecial 3, 3) := by decide +kernel
theorem dX0_init_4 : decode cX0_init 4 = .ok (.aload_n 0, 1) := by decide +kernel
theorem dX0_init_5 : decode cX0_init 5 = .ok (.iconst 0, 1) := by decide +kernel
theorem dX0_init_6 : decode cX0_init 6 = .ok (.putfield 9, 3) := by decide +kernel
theorem dX0_init_9 : decode cX0_init 9 = .ok (.aload_n 0, 1) := by decide +kernel
theorem dX0_init_10 : decode cX0_init 10 = .ok (.iconst 0, 1) := by decide +kernel
theorem dX0_init_11 : decode cX0_init 11 = .ok (.putfield 15, 3) := by decide +kernel
theorem dX0_init_14 : decode cX0_init 14 = .ok (.aload_n 0, 1) := by decide +kernel
theorem dX0_init_15 : decode cX0_init 15 = .ok (.iconst 0, 1) := by decide +kernel
theorem dX0_init_16 : decode cX0_init 16 = .ok (.putfield 18, 3) := by decide +kernel
theorem dX0_init_19 : decode cX0_init 19 = .ok (.aload_n 0, 1) := by decide +kernel
theorem dX0_init_20 : decode cX0_init 20 = .ok (.iconst 0, 1) := by decide +kernel
theorem dX0_init_21 : decode cX0_init 21 = .ok (.putfield 21, 3) := by decide +kernel
theorem dX0_init_24 : decode cX0_init 24 = .ok (.aload_n 0, 1) := by decide +kernel
theorem dX0_init_25 : decode cX0_init 25 = .ok (.iconst 0, 1) := by decide +kernel
theorem dX0_init_26 : decode cX0_init 26 = .ok (.putfield 24, 3) := by decide +kernel
theorem dX0_init_29 : decode cX0_init 29 = .ok (.aload_n 0, 1) := by decide +kernel
theorem dX0_init_30 : decode cX0_init 30 = .ok (.bipush 40, 2) := by decide +kernel
theorem dX0_init_32 : decode cX0_init 32 = .ok (.newarray .int, 2) := by decide +kernel
theorem dX0_init_34 : decode cX0_init 34 = .ok (.putfield 27, 3) := by decide +kernel
theorem dX0_init_37 : decode cX0_init 37 = .ok (.aload_n 0, 1) := by decide +kernel
theorem dX0_init_38 : decode cX0_init 38 = .ok (.iconst 0, 1) := by decide +kernel
theorem dX0_init_39 : decode cX0_init 39 = .ok (.putfield 31, 3) := by decide +kernel
theorem dX0_init_42 : decode cX0_init 42 = .ok (.aload_n 0, 1) := by decide +kernel
theorem dX0_init_43 : decode cX0_init 43 = .ok (.iconst 0, 1) := by decide +kernel
theorem dX0_init_44 : decode cX0_init 44 = .ok (.putfield 34, 3) := by decide +kernel
theorem dX0_init_47 : decode cX0_init 47 = .ok (.aload_n 0, 1) := by decide +kernel
theorem dX0_init_48 : decode cX0_init 48 = .ok (.iconst 0, 1) := by decide +kernel
theorem dX0_init_49 : decode cX0_init 49 = .ok (.putfield 37, 3) := by decide +kernel
theorem dX0_init_52 : decode cX0_init 52 = .ok (.aload_n 0, 1) := by decide +kernel
theorem dX0_init_53 : decode cX0_init 53 = .ok (.aload_n 1, 1) := by decide +kernel
theorem dX0_init_54 : decode cX0_init 54 = .ok (.putfield 41, 3) := by decide +kernel
theorem dX0_init_57 : decode cX0_init 57 = .ok (.aload_n 0, 1) := by decide +kernel
theorem dX0_init_58 : decode cX0_init 58 = .ok (.aload_n 2, 1) := by decide +kernel
theorem dX0_init_59 : decode cX0_init 59 = .ok (.putfield 45, 3) := by decide +kernel
theorem dX0_init_62 : decode cX0_init 62 = .ok (.return_, 1) := by decide +kernel
theorem dX0_isOneTooMany_0 : decode cX0_isOneTooMany 0 = .ok (.aload_n 0, 1) := by decide +kernel
theorem dX0_isOneTooMany_1 : decode cX0_isOneTooMany 1 = .ok (.dup, 1) := by decide +kernel
theorem dX0_isOneTooMany_2 : decode cX0_isOneTooMany 2 = .ok (.getfield 21, 3) := by decide +kernel
theorem dX0_isOneTooMany_5 : decode cX0_isOneTooMany 5 = .ok (.iconst 1, 1) := by decide +kernel
theorem dX0_isOneTooMany_6 : decode cX0_isOneTooMany 6 = .ok (.iadd, 1) := by decide +kernel
theorem dX0_isOneTooMany_7 : decode cX0_isOneTooMany 7 = .ok (.putfield 21, 3) := by decide +kernel
theorem dX0_isOneTooMany_10 : decode cX0_isOneTooMany 10 = .ok (.aload_n 0, 1) := by decide +kernel
theorem dX0_isOneTooMany_11 : decode cX0_isOneTooMany 11 = .ok (.getfield 21, 3) := by decide +kernel
theorem dX0_isOneTooMany_14 : decode cX0_isOneTooMany 14 = .ok (.bipush 40, 2) := by decide +kernel
theorem dX0_isOneTooMany_16 : decode cX0_isOneTooMany 16 = .ok (.if_icmp .le 7, 3) := by decide +kernel
theorem dX0_isOneTooMany_19 : decode cX0_isOneTooMany 19 = .ok (.iconst 1, 1) := by decide +kernel
theorem dX0_isOneTooMany_20 : decode cX0_isOneTooMany 20 = .ok (.goto 4, 3) := by decide +kernel
theorem dX0_isOneTooMany_23 : decode cX0_isOneTooMany 23 = .ok (.iconst 0, 1) := by decide +kernel
theorem dX0_isOneTooMany_24 : decode cX0_isOneTooMany 24 = .ok (.ireturn, 1) := by decide +kernel
theorem dX0_occDot_0 : decode cX0_occDot 0 = .ok (.aload_n 0, 1) := by decide +kernel
theorem dX0_occDot_1 : decode cX0_occDot 1 = .ok (.getfield 41, 3) := by decide +kernel
theorem dX0_occDot_4 : decode cX0_occDot 4 = .ok (.getfield 70, 3) := by decide +kernel
theorem dX0_occDot_7 : decode cX0_occDot 7 = .ok (.bipush 46, 2) := by decide +kernel
theorem dX0_occDot_9 : decode cX0_occDot 9 = .ok (.if_icmp .eq 5, 3) := by decide +kernel
theorem dX0_occDot_12 : decode cX0_occDot 12 = .ok (.iconst 1, 1) := by decide +kernel
theorem dX0_occDot_13 : decode cX0_occDot 13 = .ok (.ireturn, 1) := by decide +kernel
theorem dX0_occDot_14 : decode cX0_occDot 14 = .ok (.aload_n 0, 1) := by decide +kernel
theorem dX0_occDot_15 : decode cX0_occDot 15 = .ok (.iconst 2, 1) := by decide +kernel
theorem dX0_occDot_16 : decode cX0_occDot 16 = .ok (.putfield 18, 3) := by decide +kernel
theorem dX0_occDot_19 : decode cX0_occDot 19 = .ok (.aload_n 0, 1) := by decide +kernel
theorem dX0_occDot_20 : decode cX0_occDot 20 = .ok (.invokevirtual 100, 3) := by decide +kernel
theorem dX0_occDot_23 : decode cX0_occDot 23 = .ok (.ifCond .eq 7, 3) := by decide +kernel
theorem dX0_occDot_26 : decode cX0_occDot 26 = .ok (.iconst 4, 1) := by decide +kernel
theorem dX0_occDot_27 : decode cX0_occDot 27 = .ok (.goto 4, 3) := by decide +kernel
theorem dX0_occDot_30 : decode cX0_occDot 30 = .ok (.iconst 0, 1) := by decide +kernel
theorem dX0_occDot_31 : decode cX0_occDot 31 = .ok (.ireturn, 1) := by decide +kernel
theorem dX0_occName_0 : decode cX0_occName 0 = .ok (.aload_n 0, 1) := by decide +kernel
theorem dX0_occName_1 : decode cX0_occName 1 = .ok (.getfield 41, 3) := by decide +kernel
theorem dX0_occName_4 : decode cX0_occName 4 = .ok (.getfield 70, 3) := by decide +kernel
theorem dX0_occName_7 : decode cX0_occName 7 = .ok (.iconst 1, 1) := by decide +kernel
theorem dX0_occName_8 : decode cX0_occName 8 = .ok (.if_icmp .eq 5, 3) := by decide +kernel
theorem dX0_occName_11 : decode cX0_occName 11 = .ok (.iconst 1, 1) := by decide +kernel
theorem dX0_occName_12 : decode cX0_occName 12 = .ok (.ireturn, 1) := by decide +kernel
theorem dX0_occName_13 : decode cX0_occName 13 = .ok (.aload_n 0, 1) := by decide +kernel
theorem dX0_occName_14 : decode cX0_occName 14 = .ok (.getfield 45, 3) := by decide +kernel
theorem dX0_occName_17 : decode cX0_occName 17 = .ok (.aload_n 0, 1) := by decide +kernel
theorem dX0_occName_18 : decode cX0_occName 18 = .ok (.getfield 45, 3) := by decide +kernel
theorem dX0_occName_21 : decode cX0_occName 21 = .ok (.aload_n 0, 1) := by decide +kernel
theorem dX0_occName_22 : decode cX0_occName 22 = .ok (.getfield 9, 3) := by decide +kernel
theorem dX0_occName_25 : decode cX0_occName 25 = .ok (.aload_n 0, 1) := by decide +kernel
theorem dX0_occName_26 : decode cX0_occName 26 = .ok (.getfield 24, 3) := by decide +kernel
theorem dX0_occName_29 : decode cX0_occName 29 = .ok (.invokevirtual 103, 3) := by decide +kernel
theorem dX0_occName_32 : decode cX0_occName 32 = .ok (.aload_n 0, 1) := by decide +kernel
theorem dX0_occName_33 : decode cX0_occName 33 = .ok (.getfield 41, 3) := by decide +kernel
theorem dX0_occName_36 : decode cX0_occName 36 = .ok (.getfield 107, 3) := by decide +kernel
theorem dX0_occName_39 : decode cX0_occName 39 = .ok (.invokevirtual 110, 3) := by decide +kernel
theorem dX0_occName_42 : decode cX0_occName 42 = .ok (.istore_n 1, 1) := by decide +kernel
theorem dX0_occName_43 : decode cX0_occName 43 = .ok (.iload_n 1, 1) := by decide +kernel
theorem dX0_occName_44 : decode cX0_occName 44 = .ok (.iconst (-1), 1) := by decide +kernel
theorem dX0_occName_45 : decode cX0_occName 45 = .ok (.if_icmp .ne 5, 3) := by decide +kernel
theorem dX0_occName_48 : decode cX0_occName 48 = .ok (.iconst 3, 1) := by decide +kernel
theorem dX0_occName_49 : decode cX0_occName 49 = .ok (.ireturn, 1) := by decide +kernel
theorem dX0_occName_50 : decode cX0_occName 50 = .ok (.aload_n 0, 1) := by decide +kernel
theorem dX0_occName_51 : decode cX0_occName 51 = .ok (.getfield 24, 3) := by decide +kernel
theorem dX0_occName_54 : decode cX0_occName 54 = .ok (.bipush 6, 2) := by decide +kernel
theorem dX0_occName_56 : decode cX0_occName 56 = .ok (.imul, 1) := by decide +kernel
theorem dX0_occName_57 : decode cX0_occName 57 = .ok (.iload_n 1, 1) := by decide +kernel
theorem dX0_occName_58 : decode cX0_occName 58 = .ok (.iadd, 1) := by decide +kernel
theorem dX0_occName_59 : decode cX0_occName 59 = .ok (.istore_n 2, 1) := by decide +kernel
theorem dX0_occName_60 : decode cX0_occName 60 = .ok (.aload_n 0, 1) := by decide +kernel
theorem dX0_occName_61 : decode cX0_occName 61 = .ok (.getfield 45, 3) := by decide +kernel
theorem dX0_occName_64 : decode cX0_occName 64 = .ok (.getfield 113, 3) := by decide +kernel
theorem dX0_occName_67 : decode cX0_occName 67 = .ok (.aload_n 0, 1) := by decide +kernel
theorem dX0_occName_68 : decode cX0_occName 68 = .ok (.getfield 15, 3) := by decide +kernel
theorem dX0_occName_71 : decode cX0_occName 71 = .ok (.dup2, 1) := by decide +kernel
theorem dX0_occName_72 : decode cX0_occName 72 = .ok (.iaload, 1) := by decide +kernel
theorem dX0_occName_73 : decode cX0_occName 73 = .ok (.iconst 1, 1) := by decide +kernel
theorem dX0_occName_74 : decode cX0_occName 74 = .ok (.iload_n 2, 1) := by decide +kernel
theorem dX0_occName_75 : decode cX0_occName 75 = .ok (.ishl, 1) := by decide +kernel
theorem dX0_occName_76 : decode cX0_occName 76 = .ok (.ior, 1) := by decide +kernel
theorem dX0_occName_77 : decode cX0_occName 77 = .ok (.iastore, 1) := by decide +kernel
theorem dX0_occName_78 : decode cX0_occName 78 = .ok (.aload_n 0, 1) := by decide +kernel
theorem dX0_occName_79 : decode cX0_occName 79 = .ok (.bipush 46, 2) := by decide +kernel
theorem dX0_occName_81 : decode cX0_occName 81 = .ok (.iload_n 2, 1) := by decide +kernel
theorem dX0_occName_82 : decode cX0_occName 82 = .ok (.i2l, 1) := by decide +kernel
theorem dX0_occName_83 : decode cX0_occName 83 = .ok (.invokevirtual 86, 3) := by decide +kernel
theorem dX0_occName_86 : decode cX0_occName 86 = .ok (.ireturn, 1) := by decide +kernel
theorem dX0_occNumber_0 : decode cX0_occNumber 0 = .ok (.aload_n 0, 1) := by decide +kernel
theorem dX0_occNumber_1 : decode cX0_occNumber 1 = .ok (.getfield 41, 3) := by decide +kernel
theorem dX0_occNumber_4 : decode cX0_occNumber 4 = .ok (.getfield 82, 3) := by decide +kernel
theorem dX0_occNumber_7 : decode cX0_occNumber 7 = .ok (.aload_n 0, 1) := by decide +kernel
theorem dX0_occNumber_8 : decode cX0_occNumber 8 = .ok (.getfield 45, 3) := by decide +kernel
theorem dX0_occNumber_11 : decode cX0_occNumber 11 = .ok (.getfield 97, 3) := by decide +kernel
theorem dX0_occNumber_14 : decode cX0_occNumber 14 = .ok (.aload_n 0, 1) := by decide +kernel
theorem dX0_occNumber_15 : decode cX0_occNumber 15 = .ok (.getfield 9, 3) := by decide +kernel
theorem dX0_occNumber_18 : decode cX0_occNumber 18 = .ok (.iaload, 1) := by decide +kernel
theorem dX0_occNumber_19 : decode cX0_occNumber 19 = .ok (.i2l, 1) := by decide +kernel
theorem dX0_occNumber_20 : decode cX0_occNumber 20 = .ok (.lcmp, 1) := by decide +kernel
theorem dX0_occNumber_21 : decode cX0_occNumber 21 = .ok (.ifCond .le 5, 3) := by decide +kernel
theorem dX0_occNumber_24 : decode cX0_occNumber 24 = .ok (.iconst 3, 1) := by decide +kernel
theorem dX0_occNumber_25 : decode cX0_occNumber 25 = .ok (.ireturn, 1) := by decide +kernel
theorem dX0_occNumber_26 : decode cX0_occNumber 26 = .ok (.aload_n 0, 1) := by decide +kernel
theorem dX0_occNumber_27 : decode cX0_occNumber 27 = .ok (.invokevirtual 100, 3) := by decide +kernel
theorem dX0_occNumber_30 : decode cX0_occNumber 30 = .ok (.ifCond .eq 5, 3) := by decide +kernel
theorem dX0_occNumber_33 : decode cX0_occNumber 33 = .ok (.iconst 4, 1) := by decide +kernel
theorem dX0_occNumber_34 : decode cX0_occNumber 34 = .ok (.ireturn, 1) := by decide +kernel
theorem dX0_occNumber_35 : decode cX0_occNumber 35 = .ok (.aload_n 0, 1) := by decide +kernel
theorem dX0_occNumber_36 : decode cX0_occNumber 36 = .ok (.aload_n 0, 1) := by decide +kernel
theorem dX0_occNumber_37 : decode cX0_occNumber 37 = .ok (.getfield 41, 3) := by decide +kernel
theorem dX0_occNumber_40 : decode cX0_occNumber 40 = .ok (.getfield 82, 3) := by decide +kernel
theorem dX0_occNumber_43 : decode cX0_occNumber 43 = .ok (.l2i, 1) := by decide +kernel
theorem dX0_occNumber_44 : decode cX0_occNumber 44 = .ok (.putfield 24, 3) := by decide +kernel
theorem dX0_occNumber_47 : decode cX0_occNumber 47 = .ok (.aload_n 0, 1) := by decide +kernel
theorem dX0_occNumber_48 : decode cX0_occNumber 48 = .ok (.iconst 1, 1) := by decide +kernel
theorem dX0_occNumber_49 : decode cX0_occNumber 49 = .ok (.putfield 18, 3) := by decide +kernel
theorem dX0_occNumber_52 : decode cX0_occNumber 52 = .ok (.iconst 0, 1) := by decide +kernel
theorem dX0_occNumber_53 : decode cX0_occNumber 53 = .ok (.ireturn, 1) := by decide +kernel
theorem dX0_open_0 : decode cX0_open 0 = .ok (.aload_n 0, 1) := by decide +kernel
theorem dX0_open_1 : decode cX0_open 1 = .ok (.invokevirtual 100, 3) := by decide +kernel
theorem dX0_open_4 : decode cX0_open 4 = .ok (.ifCond .ne 12, 3) := by decide +kernel
theorem dX0_open_7 : decode cX0_open 7 = .ok (.aload_n 0, 1) := by decide +kernel
theorem dX0_open_8 : decode cX0_open 8 = .ok (.getfield 34, 3) := by decide +kernel
theorem dX0_open_11 : decode cX0_open 11 = .ok (.bipush 20, 2) := by decide +kernel
theorem dX0_open_13 : decode cX0_open 13 = .ok (.if_icmp .lt 5, 3) := by decide +kernel
theorem dX0_open_16 : decode cX0_open 16 = .ok (.iconst 4, 1) := by decide +kernel
theorem dX0_open_17 : decode cX0_open 17 = .ok (.ireturn, 1) := by decide +kernel
theorem dX0_open_18 : decode cX0_open 18 = .ok (.aload_n 0, 1) := by decide +kernel
theorem dX0_open_19 : decode cX0_open 19 = .ok (.dup, 1) := by decide +kernel
theorem dX0_open_20 : decode cX0_open 20 = .ok (.getfield 34, 3) := by decide +kernel
theorem dX0_open_23 : decode cX0_open 23 = .ok (.iconst 1, 1) := by decide +kernel
theorem dX0_open_24 : decode cX0_open 24 = .ok (.iadd, 1) := by decide +kernel
theorem dX0_open_25 : decode cX0_open 25 = .ok (.putfield 34, 3) := by decide +kernel
theorem dX0_open_28 : decode cX0_open 28 = .ok (.aload_n 0, 1) := by decide +kernel
theorem dX0_open_29 : decode cX0_open 29 = .ok (.iload_n 1, 1) := by decide +kernel
theorem dX0_open_30 : decode cX0_open 30 = .ok (.invokevirtual 126, 3) := by decide +kernel
theorem dX0_open_33 : decode cX0_open 33 = .ok (.ireturn, 1) := by decide +kernel
theorem dX0_operand_0 : decode cX0_operand 0 = .ok (.aload_n 0, 1) := by decide +kernel
theorem dX0_operand_1 : decode cX0_operand 1 = .ok (.getfield 41, 3) := by decide +kernel
theorem dX0_operand_4 : decode cX0_operand 4 = .ok (.getfield 70, 3) := by decide +kernel
theorem dX0_operand_7 : decode cX0_operand 7 = .ok (.lookupswitch 120 #[(2, 49), (8, 79), (9, 101), (40, 87), (45, 94)], 49) := by decide +kernel
theorem dX0_operand_56 : decode cX0_operand 56 = .ok (.aload_n 0, 1) := by decide +kernel
theorem dX0_operand_57 : decode cX0_operand 57 = .ok (.getfield 41, 3) := by decide +kernel
theorem dX0_operand_60 : decode cX0_operand 60 = .ok (.invokevirtual 75, 3) := by decide +kernel
theorem dX0_operand_63 : decode cX0_operand 63 = .ok (.ifCond .eq 10, 3) := by decide +kernel
theorem dX0_operand_66 : decode cX0_operand 66 = .ok (.aload_n 0, 1) := by decide +kernel
theorem dX0_operand_67 : decode cX0_operand 67 = .ok (.invokevirtual 79, 3) := by decide +kernel
theorem dX0_operand_70 : decode cX0_operand 70 = .ok (.goto 15, 3) := by decide +kernel
theorem dX0_operand_73 : decode cX0_operand 73 = .ok (.aload_n 0, 1) := by decide +kernel
theorem dX0_operand_74 : decode cX0_operand 74 = .ok (.iconst 2, 1) := by decide +kernel
theorem dX0_operand_75 : decode cX0_operand 75 = .ok (.aload_n 0, 1) := by decide +kernel
theorem dX0_operand_76 : decode cX0_operand 76 = .ok (.getfield 41, 3) := by decide +kernel
theorem dX0_operand_79 : decode cX0_operand 79 = .ok (.getfield 82, 3) := by decide +kernel
theorem dX0_operand_82 : decode cX0_operand 82 = .ok (.invokevirtual 86, 3) := by decide +kernel
theorem dX0_operand_85 : decode cX0_operand 85 = .ok (.ireturn, 1) := by decide +kernel
theorem dX0_operand_86 : decode cX0_operand 86 = .ok (.aload_n 0, 1) := by decide +kernel
theorem dX0_operand_87 : decode cX0_operand 87 = .ok (.bipush 8, 2) := by decide +kernel
theorem dX0_operand_89 : decode cX0_operand 89 = .ok (.lconst 0, 1) := by decide +kernel
theorem dX0_operand_90 : decode cX0_operand 90 = .ok (.invokevirtual 86, 3) := by decide +kernel
theorem dX0_operand_93 : decode cX0_operand 93 = .ok (.ireturn, 1) := by decide +kernel
theorem dX0_operand_94 : decode cX0_operand 94 = .ok (.aload_n 0, 1) := by decide +kernel
theorem dX0_operand_95 : decode cX0_operand 95 = .ok (.bipush 40, 2) := by decide +kernel
theorem dX0_operand_97 : decode cX0_operand 97 = .ok (.invokevirtual 90, 3) := by decide +kernel
theorem dX0_operand_100 : decode cX0_operand 100 = .ok (.ireturn, 1) := by decide +kernel
theorem dX0_operand_101 : decode cX0_operand 101 = .ok (.aload_n 0, 1) := by decide +kernel
theorem dX0_operand_102 : decode cX0_operand 102 = .ok (.bipush 126, 2) := by decide +kernel
theorem dX0_operand_104 : decode cX0_operand 104 = .ok (.invokevirtual 90, 3) := by decide +kernel
theorem dX0_operand_107 : decode cX0_operand 107 = .ok (.ireturn, 1) := by decide +kernel
theorem dX0_operand_108 : decode cX0_operand 108 = .ok (.aload_n 0, 1) := by decide +kernel
theorem dX0_operand_109 : decode cX0_operand 109 = .ok (.invokevirtual 94, 3) := by decide +kernel
theorem dX0_operand_112 : decode cX0_operand 112 = .ok (.iconst 1, 1) := by decide +kernel
theorem dX0_operand_113 : decode cX0_operand 113 = .ok (.if_icmp .gt 12, 3) := by decide +kernel
theorem dX0_operand_116 : decode cX0_operand 116 = .ok (.aload_n 0, 1) := by decide +kernel
theorem dX0_operand_117 : decode cX0_operand 117 = .ok (.bipush 9, 2) := by decide +kernel
theorem dX0_operand_119 : decode cX0_operand 119 = .ok (.invokevirtual 90, 3) := by decide +kernel
theorem dX0_operand_122 : decode cX0_operand 122 = .ok (.goto 4, 3) := by decide +kernel
theorem dX0_operand_125 : decode cX0_operand 125 = .ok (.iconst 1, 1) := by decide +kernel
theorem dX0_operand_126 : decode cX0_operand 126 = .ok (.ireturn, 1) := by decide +kernel
theorem dX0_operand_127 : decode cX0_operand 127 = .ok (.iconst 1, 1) := by decide +kernel
theorem dX0_operand_128 : decode cX0_operand 128 = .ok (.ireturn, 1) := by decide +kernel
theorem dX0_operator_0 : decode cX0_operator 0 = .ok (.aload_n 0, 1) := by decide +kernel
theorem dX0_operator_1 : decode cX0_operator 1 = .ok (.getfield 41, 3) := by decide +kernel
theorem dX0_operator_4 : decode cX0_operator 4 = .ok (.getfield 70, 3) := by decide +kernel
theorem dX0_operator_7 : decode cX0_operator 7 = .ok (.lookupswitch 142 #[(10, 119), (11, 128), (37, 97), (41, 114), (42, 97), (43, 103), (45, 103), (47, 97), (59, 137), (60, 109), (61, 109)], 97) := by decide +kernel
theorem dX0_operator_104 : decode cX0_operator 104 = .ok (.aload_n 0, 1) := by decide +kernel
theorem dX0_operator_105 : decode cX0_operator 105 = .ok (.iconst 4, 1) := by decide +kernel
theorem dX0_operator_106 : decode cX0_operator 106 = .ok (.invokevirtual 129, 3) := by decide +kernel
theorem dX0_operator_109 : decode cX0_operator 109 = .ok (.ireturn, 1) := by decide +kernel
theorem dX0_operator_110 : decode cX0_operator 110 = .ok (.aload_n 0, 1) := by decide +kernel
theorem dX0_operator_111 : decode cX0_operator 111 = .ok (.iconst 3, 1) := by decide +kernel
theorem dX0_operator_112 : decode cX0_operator 112 = .ok (.invokevirtual 129, 3) := by decide +kernel
theorem dX0_operator_115 : decode cX0_operator 115 = .ok (.ireturn, 1) := by decide +kernel
theorem dX0_operator_116 : decode cX0_operator 116 = .ok (.aload_n 0, 1) := by decide +kernel
theorem dX0_operator_117 : decode cX0_operator 117 = .ok (.invokevirtual 132, 3) := by decide +kernel
theorem dX0_operator_120 : decode cX0_operator 120 = .ok (.ireturn, 1) := by decide +kernel
theorem dX0_operator_121 : decode cX0_operator 121 = .ok (.aload_n 0, 1) := by decide +kernel
theorem dX0_operator_122 : decode cX0_operator 122 = .ok (.invokevirtual 135, 3) := by decide +kernel
theorem dX0_operator_125 : decode cX0_operator 125 = .ok (.ireturn, 1) := by decide +kernel
theorem dX0_operator_126 : decode cX0_operator 126 = .ok (.aload_n 0, 1) := by decide +kernel
theorem dX0_operator_127 : decode cX0_operator 127 = .ok (.bipush 9, 2) := by decide +kernel
theorem dX0_operator_129 : decode cX0_operator 129 = .ok (.bipush 10, 2) := by decide +kernel
theorem dX0_operator_131 : decode cX0_operator 131 = .ok (.invokevirtual 138, 3) := by decide +kernel
theorem dX0_operator_134 : decode cX0_operator 134 = .ok (.ireturn, 1) := by decide +kernel
theorem dX0_operator_135 : decode cX0_operator 135 = .ok (.aload_n 0, 1) := by decide +kernel
theorem dX0_operator_136 : decode cX0_operator 136 = .ok (.bipush 10, 2) := by decide +kernel
theorem dX0_operator_138 : decode cX0_operator 138 = .ok (.bipush 11, 2) := by decide +kernel
theorem dX0_operator_140 : decode cX0_operator 140 = .ok (.invokevirtual 138, 3) := by decide +kernel
theorem dX0_operator_143 : decode cX0_operator 143 = .ok (.ireturn, 1) := by decide +kernel
theorem dX0_operator_144 : decode cX0_operator 144 = .ok (.aload_n 0, 1) := by decide +kernel
theorem dX0_operator_145 : decode cX0_operator 145 = .ok (.invokevirtual 141, 3) := by decide +kernel
theorem dX0_operator_148 : decode cX0_operator 148 = .ok (.ireturn, 1) := by decide +kernel
theorem dX0_operator_149 : decode cX0_operator 149 = .ok (.iconst 1, 1) := by decide +kernel
theorem dX0_operator_150 : decode cX0_operator 150 = .ok (.ireturn, 1) := by decide +kernel
theorem dX0_settle_0 : decode cX0_settle 0 = .ok (.aload_n 0, 1) := by decide +kernel
theorem dX0_settle_1 : decode cX0_settle 1 = .ok (.getfield 31, 3) := by decide +kernel
theorem dX0_settle_4 : decode cX0_settle 4 = .ok (.istore_n 2, 1) := by decide +kernel
theorem dX0_settle_5 : decode cX0_settle 5 = .ok (.iload_n 2, 1) := by decide +kernel
theorem dX0_settle_6 : decode cX0_settle 6 = .ok (.ifCond .le 71, 3) := by decide +kernel
theorem dX0_settle_9 : decode cX0_settle 9 = .ok (.aload_n 0, 1) := by decide +kernel
theorem dX0_settle_10 : decode cX0_settle 10 = .ok (.getfield 27, 3) := by decide +kernel
theorem dX0_settle_13 : decode cX0_settle 13 = .ok (.iload_n 2, 1) := by decide +kernel
theorem dX0_settle_14 : decode cX0_settle 14 = .ok (.iconst 1, 1) := by decide +kernel
theorem dX0_settle_15 : decode cX0_settle 15 = .ok (.isub, 1) := by decide +kernel
theorem dX0_settle_16 : decode cX0_settle 16 = .ok (.iaload, 1) := by decide +kernel
theorem dX0_settle_17 : decode cX0_settle 17 = .ok (.invokestatic 153, 3) := by decide +kernel
theorem dX0_settle_20 : decode cX0_settle 20 = .ok (.iload_n 1, 1) := by decide +kernel
theorem dX0_settle_21 : decode cX0_settle 21 = .ok (.if_icmp .lt 56, 3) := by decide +kernel
theorem dX0_settle_24 : decode cX0_settle 24 = .ok (.aload_n 0, 1) := by decide +kernel
theorem dX0_settle_25 : decode cX0_settle 25 = .ok (.getfield 27, 3) := by decide +kernel
theorem dX0_settle_28 : decode cX0_settle 28 = .ok (.iload_n 2, 1) := by decide +kernel
theorem dX0_settle_29 : decode cX0_settle 29 = .ok (.iconst 1, 1) := by decide +kernel
theorem dX0_settle_30 : decode cX0_settle 30 = .ok (.isub, 1) := by decide +kernel
theorem dX0_settle_31 : decode cX0_settle 31 = .ok (.iaload, 1) := by decide +kernel
theorem dX0_settle_32 : decode cX0_settle 32 = .ok (.istore_n 3, 1) := by decide +kernel
theorem dX0_settle_33 : decode cX0_settle 33 = .ok (.aload_n 0, 1) := by decide +kernel
theorem dX0_settle_34 : decode cX0_settle 34 = .ok (.getfield 45, 3) := by decide +kernel
theorem dX0_settle_37 : decode cX0_settle 37 = .ok (.iload_n 3, 1) := by decide +kernel
theorem dX0_settle_38 : decode cX0_settle 38 = .ok (.iconst 0, 1) := by decide +kernel
theorem dX0_settle_39 : decode cX0_settle 39 = .ok (.invokevirtual 118, 3) := by decide +kernel
theorem dX0_settle_42 : decode cX0_settle 42 = .ok (.aload_n 0, 1) := by decide +kernel
theorem dX0_settle_43 : decode cX0_settle 43 = .ok (.iload_n 2, 1) := by decide +kernel
theorem dX0_settle_44 : decode cX0_settle 44 = .ok (.iconst 1, 1) := by decide +kernel
theorem dX0_settle_45 : decode cX0_settle 45 = .ok (.isub, 1) := by decide +kernel
theorem dX0_settle_46 : decode cX0_settle 46 = .ok (.putfield 31, 3) := by decide +kernel
theorem dX0_settle_49 : decode cX0_settle 49 = .ok (.iload_n 3, 1) := by decide +kernel
theorem dX0_settle_50 : decode cX0_settle 50 = .ok (.bipush 126, 2) := by decide +kernel
theorem dX0_settle_52 : decode cX0_settle 52 = .ok (.if_icmp .eq 9, 3) := by decide +kernel
theorem dX0_settle_55 : decode cX0_settle 55 = .ok (.iload_n 3, 1) := by decide +kernel
theorem dX0_settle_56 : decode cX0_settle 56 = .ok (.bipush 11, 2) := by decide +kernel
theorem dX0_settle_58 : decode cX0_settle 58 = .ok (.if_icmp .ne 13, 3) := by decide +kernel
theorem dX0_settle_61 : decode cX0_settle 61 = .ok (.aload_n 0, 1) := by decide +kernel
theorem dX0_settle_62 : decode cX0_settle 62 = .ok (.dup, 1) := by decide +kernel
theorem dX0_settle_63 : decode cX0_settle 63 = .ok (.getfield 34, 3) := by decide +kernel
theorem dX0_settle_66 : decode cX0_settle 66 = .ok (.iconst 1, 1) := by decide +kernel
theorem dX0_settle_67 : decode cX0_settle 67 = .ok (.isub, 1) := by decide +kernel
theorem dX0_settle_68 : decode cX0_settle 68 = .ok (.putfield 34, 3) := by decide +kernel
theorem dX0_settle_71 : decode cX0_settle 71 = .ok (.iinc 2 (-1), 3) := by decide +kernel
theorem dX0_settle_74 : decode cX0_settle 74 = .ok (.goto (-69), 3) := by decide +kernel
theorem dX0_settle_77 : decode cX0_settle 77 = .ok (.return_, 1) := by decide +kernel
theorem dX0_step_0 : decode cX0_step 0 = .ok (.aload_n 0, 1) := by decide +kernel
theorem dX0_step_1 : decode cX0_step 1 = .ok (.getfield 18, 3) := by decide +kernel
theorem dX0_step_4 : decode cX0_step 4 = .ok (.tableswitch 43 0 2 #[28, 33, 38], 28) := by decide +kernel
theorem dX0_step_32 : decode cX0_step 32 = .ok (.aload_n 0, 1) := by decide +kernel
theorem dX0_step_33 : decode cX0_step 33 = .ok (.invokevirtual 57, 3) := by decide +kernel
theorem dX0_step_36 : decode cX0_step 36 = .ok (.ireturn, 1) := by decide +kernel
theorem dX0_step_37 : decode cX0_step 37 = .ok (.aload_n 0, 1) := by decide +kernel
theorem dX0_step_38 : decode cX0_step 38 = .ok (.invokevirtual 61, 3) := by decide +kernel
theorem dX0_step_41 : decode cX0_step 41 = .ok (.ireturn, 1) := by decide +kernel
theorem dX0_step_42 : decode cX0_step 42 = .ok (.aload_n 0, 1) := by decide +kernel
theorem dX0_step_43 : decode cX0_step 43 = .ok (.invokevirtual 64, 3) := by decide +kernel
theorem dX0_step_46 : decode cX0_step 46 = .ok (.ireturn, 1) := by decide +kernel
theorem dX0_step_47 : decode cX0_step 47 = .ok (.aload_n 0, 1) := by decide +kernel
theorem dX0_step_48 : decode cX0_step 48 = .ok (.invokevirtual 67, 3) := by decide +kernel
theorem dX0_step_51 : decode cX0_step 51 = .ok (.ireturn, 1) := by decide +kernel
theorem dX0_top_0 : decode cX0_top 0 = .ok (.aload_n 0, 1) := by decide +kernel
theorem dX0_top_1 : decode cX0_top 1 = .ok (.getfield 31, 3) := by decide +kernel
theorem dX0_top_4 : decode cX0_top 4 = .ok (.ifCond .le 17, 3) := by decide +kernel
theorem dX0_top_7 : decode cX0_top 7 = .ok (.aload_n 0, 1) := by decide +kernel
theorem dX0_top_8 : decode cX0_top 8 = .ok (.getfield 27, 3) := by decide +kernel
theorem dX0_top_11 : decode cX0_top 11 = .ok (.aload_n 0, 1) := by decide +kernel
theorem dX0_top_12 : decode cX0_top 12 = .ok (.getfield 31, 3) := by decide +kernel
theorem dX0_top_15 : decode cX0_top 15 = .ok (.iconst 1, 1) := by decide +kernel
theorem dX0_top_16 : decode cX0_top 16 = .ok (.isub, 1) := by decide +kernel
theorem dX0_top_17 : decode cX0_top 17 = .ok (.iaload, 1) := by decide +kernel
theorem dX0_top_18 : decode cX0_top 18 = .ok (.goto 4, 3) := by decide +kernel
theorem dX0_top_21 : decode cX0_top 21 = .ok (.iconst (-1), 1) := by decide +kernel
theorem dX0_top_22 : decode cX0_top 22 = .ok (.ireturn, 1) := by decide +kernel
theorem dX0_topBinds_0 : decode cX0_topBinds 0 = .ok (.aload_n 0, 1) := by decide +kernel
theorem dX0_topBinds_1 : decode cX0_topBinds 1 = .ok (.invokevirtual 144, 3) := by decide +kernel
theorem dX0_topBinds_4 : decode cX0_topBinds 4 = .ok (.invokestatic 153, 3) := by decide +kernel
theorem dX0_topBinds_7 : decode cX0_topBinds 7 = .ok (.ireturn, 1) := by decide +kernel
theorem dX0_turn_0 : decode cX0_turn 0 = .ok (.aload_n 0, 1) := by decide +kernel
theorem dX0_turn_1 : decode cX0_turn 1 = .ok (.iconst 1, 1) := by decide +kernel
theorem dX0_turn_2 : decode cX0_turn 2 = .ok (.invokevirtual 122, 3) := by decide +kernel
theorem dX0_turn_5 : decode cX0_turn 5 = .ok (.aload_n 0, 1) := by decide +kernel
theorem dX0_turn_6 : decode cX0_turn 6 = .ok (.invokevirtual 144, 3) := by decide +kernel
theorem dX0_turn_9 : decode cX0_turn 9 = .ok (.iload_n 1, 1) := by decide +kernel
theorem dX0_turn_10 : decode cX0_turn 10 = .ok (.if_icmp .eq 5, 3) := by decide +kernel
theorem dX0_turn_13 : decode cX0_turn 13 = .ok (.iconst 1, 1) := by decide +kernel
theorem dX0_turn_14 : decode cX0_turn 14 = .ok (.ireturn, 1) := by decide +kernel
theorem dX0_turn_15 : decode cX0_turn 15 = .ok (.aload_n 0, 1) := by decide +kernel
theorem dX0_turn_16 : decode cX0_turn 16 = .ok (.dup, 1) := by decide +kernel
theorem dX0_turn_17 : decode cX0_turn 17 = .ok (.getfield 31, 3) := by decide +kernel
theorem dX0_turn_20 : decode cX0_turn 20 = .ok (.iconst 1, 1) := by decide +kernel
theorem dX0_turn_21 : decode cX0_turn 21 = .ok (.isub, 1) := by decide +kernel
theorem dX0_turn_22 : decode cX0_turn 22 = .ok (.putfield 31, 3) := by decide +kernel
theorem dX0_turn_25 : decode cX0_turn 25 = .ok (.aload_n 0, 1) := by decide +kernel
theorem dX0_turn_26 : decode cX0_turn 26 = .ok (.invokevirtual 100, 3) := by decide +kernel
theorem dX0_turn_29 : decode cX0_turn 29 = .ok (.ifCond .eq 7, 3) := by decide +kernel
theorem dX0_turn_32 : decode cX0_turn 32 = .ok (.iconst 4, 1) := by decide +kernel
theorem dX0_turn_33 : decode cX0_turn 33 = .ok (.goto 8, 3) := by decide +kernel
theorem dX0_turn_36 : decode cX0_turn 36 = .ok (.aload_n 0, 1) := by decide +kernel
theorem dX0_turn_37 : decode cX0_turn 37 = .ok (.iload_n 2, 1) := by decide +kernel
theorem dX0_turn_38 : decode cX0_turn 38 = .ok (.invokevirtual 126, 3) := by decide +kernel
theorem dX0_turn_41 : decode cX0_turn 41 = .ok (.ireturn, 1) := by decide +kernel
