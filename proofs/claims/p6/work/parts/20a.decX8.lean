theorem dX8_end_0 : decode cX8_end 0 = .ok (.iload_n 1, 1) := by decide +kernel
theorem dX8_end_1 : decode cX8_end 1 = .ok (.ifCond .lt 11, 3) := by decide +kernel
theorem dX8_end_4 : decode cX8_end 4 = .ok (.iload_n 1, 1) := by decide +kernel
theorem dX8_end_5 : decode cX8_end 5 = .ok (.aload_n 0, 1) := by decide +kernel
theorem dX8_end_6 : decode cX8_end 6 = .ok (.getfield 13, 3) := by decide +kernel
theorem dX8_end_9 : decode cX8_end 9 = .ok (.if_icmp .le 5, 3) := by decide +kernel
theorem dX8_end_12 : decode cX8_end 12 = .ok (.iconst (-1), 1) := by decide +kernel
theorem dX8_end_13 : decode cX8_end 13 = .ok (.ireturn, 1) := by decide +kernel
theorem dX8_end_14 : decode cX8_end 14 = .ok (.aload_n 0, 1) := by decide +kernel
theorem dX8_end_15 : decode cX8_end 15 = .ok (.iload_n 1, 1) := by decide +kernel
theorem dX8_end_16 : decode cX8_end 16 = .ok (.putfield 13, 3) := by decide +kernel
theorem dX8_end_19 : decode cX8_end 19 = .ok (.iload_n 1, 1) := by decide +kernel
theorem dX8_end_20 : decode cX8_end 20 = .ok (.ireturn, 1) := by decide +kernel
theorem dX8_fault_0 : decode cX8_fault 0 = .ok (.iload_n 1, 1) := by decide +kernel
theorem dX8_fault_1 : decode cX8_fault 1 = .ok (.ifCond .ne 8, 3) := by decide +kernel
theorem dX8_fault_4 : decode cX8_fault 4 = .ok (.aload_n 0, 1) := by decide +kernel
theorem dX8_fault_5 : decode cX8_fault 5 = .ok (.getfield 82, 3) := by decide +kernel
theorem dX8_fault_8 : decode cX8_fault 8 = .ok (.ireturn, 1) := by decide +kernel
theorem dX8_fault_9 : decode cX8_fault 9 = .ok (.iload_n 1, 1) := by decide +kernel
theorem dX8_fault_10 : decode cX8_fault 10 = .ok (.iconst 1, 1) := by decide +kernel
theorem dX8_fault_11 : decode cX8_fault 11 = .ok (.if_icmp .ne 10, 3) := by decide +kernel
theorem dX8_fault_14 : decode cX8_fault 14 = .ok (.aload_n 0, 1) := by decide +kernel
theorem dX8_fault_15 : decode cX8_fault 15 = .ok (.getfield 85, 3) := by decide +kernel
theorem dX8_fault_18 : decode cX8_fault 18 = .ok (.goto 4, 3) := by decide +kernel
theorem dX8_fault_21 : decode cX8_fault 21 = .ok (.iconst (-1), 1) := by decide +kernel
theorem dX8_fault_22 : decode cX8_fault 22 = .ok (.ireturn, 1) := by decide +kernel
theorem dX8_feed_0 : decode cX8_feed 0 = .ok (.aload_n 0, 1) := by decide +kernel
theorem dX8_feed_1 : decode cX8_feed 1 = .ok (.getfield 13, 3) := by decide +kernel
theorem dX8_feed_4 : decode cX8_feed 4 = .ok (.sipush 2980, 3) := by decide +kernel
theorem dX8_feed_7 : decode cX8_feed 7 = .ok (.if_icmp .le 5, 3) := by decide +kernel
theorem dX8_feed_10 : decode cX8_feed 10 = .ok (.iconst (-1), 1) := by decide +kernel
theorem dX8_feed_11 : decode cX8_feed 11 = .ok (.ireturn, 1) := by decide +kernel
theorem dX8_feed_12 : decode cX8_feed 12 = .ok (.aload_n 0, 1) := by decide +kernel
theorem dX8_feed_13 : decode cX8_feed 13 = .ok (.iload_n 1, 1) := by decide +kernel
theorem dX8_feed_14 : decode cX8_feed 14 = .ok (.invokevirtual 88, 3) := by decide +kernel
theorem dX8_feed_17 : decode cX8_feed 17 = .ok (.aload_n 0, 1) := by decide +kernel
theorem dX8_feed_18 : decode cX8_feed 18 = .ok (.iload_n 2, 1) := by decide +kernel
theorem dX8_feed_19 : decode cX8_feed 19 = .ok (.invokevirtual 88, 3) := by decide +kernel
theorem dX8_feed_22 : decode cX8_feed 22 = .ok (.aload_n 0, 1) := by decide +kernel
theorem dX8_feed_23 : decode cX8_feed 23 = .ok (.iload_n 3, 1) := by decide +kernel
theorem dX8_feed_24 : decode cX8_feed 24 = .ok (.invokevirtual 88, 3) := by decide +kernel
theorem dX8_feed_27 : decode cX8_feed 27 = .ok (.aload_n 0, 1) := by decide +kernel
theorem dX8_feed_28 : decode cX8_feed 28 = .ok (.iload 4, 2) := by decide +kernel
theorem dX8_feed_30 : decode cX8_feed 30 = .ok (.invokevirtual 88, 3) := by decide +kernel
theorem dX8_feed_33 : decode cX8_feed 33 = .ok (.aload_n 0, 1) := by decide +kernel
theorem dX8_feed_34 : decode cX8_feed 34 = .ok (.iload 5, 2) := by decide +kernel
theorem dX8_feed_36 : decode cX8_feed 36 = .ok (.invokevirtual 88, 3) := by decide +kernel
theorem dX8_feed_39 : decode cX8_feed 39 = .ok (.aload_n 0, 1) := by decide +kernel
theorem dX8_feed_40 : decode cX8_feed 40 = .ok (.getfield 13, 3) := by decide +kernel
theorem dX8_feed_43 : decode cX8_feed 43 = .ok (.ireturn, 1) := by decide +kernel
theorem dX8_keepFault_0 : decode cX8_keepFault 0 = .ok (.aload_n 0, 1) := by decide +kernel
theorem dX8_keepFault_1 : decode cX8_keepFault 1 = .ok (.iload_n 1, 1) := by decide +kernel
theorem dX8_keepFault_2 : decode cX8_keepFault 2 = .ok (.putfield 82, 3) := by decide +kernel
theorem dX8_keepFault_5 : decode cX8_keepFault 5 = .ok (.aload_n 0, 1) := by decide +kernel
theorem dX8_keepFault_6 : decode cX8_keepFault 6 = .ok (.iload_n 1, 1) := by decide +kernel
theorem dX8_keepFault_7 : decode cX8_keepFault 7 = .ok (.ifCond .ne 7, 3) := by decide +kernel
theorem dX8_keepFault_10 : decode cX8_keepFault 10 = .ok (.iconst (-1), 1) := by decide +kernel
theorem dX8_keepFault_11 : decode cX8_keepFault 11 = .ok (.goto 10, 3) := by decide +kernel
theorem dX8_keepFault_14 : decode cX8_keepFault 14 = .ok (.aload_n 0, 1) := by decide +kernel
theorem dX8_keepFault_15 : decode cX8_keepFault 15 = .ok (.getfield 42, 3) := by decide +kernel
theorem dX8_keepFault_18 : decode cX8_keepFault 18 = .ok (.getfield 209, 3) := by decide +kernel
theorem dX8_keepFault_21 : decode cX8_keepFault 21 = .ok (.putfield 85, 3) := by decide +kernel
theorem dX8_keepFault_24 : decode cX8_keepFault 24 = .ok (.return_, 1) := by decide +kernel
theorem dX8_putWord_0 : decode cX8_putWord 0 = .ok (.bipush 24, 2) := by decide +kernel
theorem dX8_putWord_2 : decode cX8_putWord 2 = .ok (.istore_n 2, 1) := by decide +kernel
theorem dX8_putWord_3 : decode cX8_putWord 3 = .ok (.iload_n 2, 1) := by decide +kernel
theorem dX8_putWord_4 : decode cX8_putWord 4 = .ok (.ifCond .lt 42, 3) := by decide +kernel
theorem dX8_putWord_7 : decode cX8_putWord 7 = .ok (.aload_n 0, 1) := by decide +kernel
theorem dX8_putWord_8 : decode cX8_putWord 8 = .ok (.getfield 13, 3) := by decide +kernel
theorem dX8_putWord_11 : decode cX8_putWord 11 = .ok (.sipush 3000, 3) := by decide +kernel
theorem dX8_putWord_14 : decode cX8_putWord 14 = .ok (.if_icmp .ge 32, 3) := by decide +kernel
theorem dX8_putWord_17 : decode cX8_putWord 17 = .ok (.aload_n 0, 1) := by decide +kernel
theorem dX8_putWord_18 : decode cX8_putWord 18 = .ok (.getfield 9, 3) := by decide +kernel
theorem dX8_putWord_21 : decode cX8_putWord 21 = .ok (.aload_n 0, 1) := by decide +kernel
theorem dX8_putWord_22 : decode cX8_putWord 22 = .ok (.getfield 13, 3) := by decide +kernel
theorem dX8_putWord_25 : decode cX8_putWord 25 = .ok (.iload_n 1, 1) := by decide +kernel
theorem dX8_putWord_26 : decode cX8_putWord 26 = .ok (.iload_n 2, 1) := by decide +kernel
theorem dX8_putWord_27 : decode cX8_putWord 27 = .ok (.ishr, 1) := by decide +kernel
theorem dX8_putWord_28 : decode cX8_putWord 28 = .ok (.i2b, 1) := by decide +kernel
theorem dX8_putWord_29 : decode cX8_putWord 29 = .ok (.bastore, 1) := by decide +kernel
theorem dX8_putWord_30 : decode cX8_putWord 30 = .ok (.aload_n 0, 1) := by decide +kernel
theorem dX8_putWord_31 : decode cX8_putWord 31 = .ok (.dup, 1) := by decide +kernel
theorem dX8_putWord_32 : decode cX8_putWord 32 = .ok (.getfield 13, 3) := by decide +kernel
theorem dX8_putWord_35 : decode cX8_putWord 35 = .ok (.iconst 1, 1) := by decide +kernel
theorem dX8_putWord_36 : decode cX8_putWord 36 = .ok (.iadd, 1) := by decide +kernel
theorem dX8_putWord_37 : decode cX8_putWord 37 = .ok (.putfield 13, 3) := by decide +kernel
theorem dX8_putWord_40 : decode cX8_putWord 40 = .ok (.iinc 2 (-8), 3) := by decide +kernel
theorem dX8_putWord_43 : decode cX8_putWord 43 = .ok (.goto (-40), 3) := by decide +kernel
theorem dX8_putWord_46 : decode cX8_putWord 46 = .ok (.return_, 1) := by decide +kernel
