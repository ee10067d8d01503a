theorem dX9_eventAt_33 : decode cX9_eventAt 33 = .ok (.getfield 162, 3) := by decide +kernel
theorem dX9_eventAt_36 : decode cX9_eventAt 36 = .ok (.invokevirtual 207, 3) := by decide +kernel
theorem dX9_eventAt_39 : decode cX9_eventAt 39 = .ok (.ifCond .ne 13, 3) := by decide +kernel
theorem dX9_eventAt_42 : decode cX9_eventAt 42 = .ok (.new 62, 3) := by decide +kernel
theorem dX9_eventAt_45 : decode cX9_eventAt 45 = .ok (.dup, 1) := by decide +kernel
theorem dX9_eventAt_46 : decode cX9_eventAt 46 = .ok (.ldc 213, 2) := by decide +kernel
theorem dX9_eventAt_48 : decode cX9_eventAt 48 = .ok (.invokespecial 66, 3) := by decide +kernel
theorem dX9_eventAt_51 : decode cX9_eventAt 51 = .ok (.athrow, 1) := by decide +kernel
theorem dX9_eventAt_52 : decode cX9_eventAt 52 = .ok (.aload_n 0, 1) := by decide +kernel
theorem dX9_eventAt_53 : decode cX9_eventAt 53 = .ok (.getfield 39, 3) := by decide +kernel
theorem dX9_eventAt_56 : decode cX9_eventAt 56 = .ok (.getfield 215, 3) := by decide +kernel
theorem dX9_eventAt_59 : decode cX9_eventAt 59 = .ok (.iload_n 1, 1) := by decide +kernel
theorem dX9_eventAt_60 : decode cX9_eventAt 60 = .ok (.invokevirtual 125, 3) := by decide +kernel
theorem dX9_eventAt_63 : decode cX9_eventAt 63 = .ok (.ireturn, 1) := by decide +kernel
theorem dX9_needEvent_0 : decode cX9_needEvent 0 = .ok (.iload_n 1, 1) := by decide +kernel
theorem dX9_needEvent_1 : decode cX9_needEvent 1 = .ok (.ifCond .lt 14, 3) := by decide +kernel
theorem dX9_needEvent_4 : decode cX9_needEvent 4 = .ok (.iload_n 1, 1) := by decide +kernel
theorem dX9_needEvent_5 : decode cX9_needEvent 5 = .ok (.aload_n 0, 1) := by decide +kernel
theorem dX9_needEvent_6 : decode cX9_needEvent 6 = .ok (.getfield 35, 3) := by decide +kernel
theorem dX9_needEvent_9 : decode cX9_needEvent 9 = .ok (.getfield 98, 3) := by decide +kernel
theorem dX9_needEvent_12 : decode cX9_needEvent 12 = .ok (.if_icmp .lt 13, 3) := by decide +kernel
theorem dX9_needEvent_15 : decode cX9_needEvent 15 = .ok (.new 149, 3) := by decide +kernel
theorem dX9_needEvent_18 : decode cX9_needEvent 18 = .ok (.dup, 1) := by decide +kernel
theorem dX9_needEvent_19 : decode cX9_needEvent 19 = .ok (.ldc 218, 2) := by decide +kernel
theorem dX9_needEvent_21 : decode cX9_needEvent 21 = .ok (.invokespecial 153, 3) := by decide +kernel
theorem dX9_needEvent_24 : decode cX9_needEvent 24 = .ok (.athrow, 1) := by decide +kernel
theorem dX9_needEvent_25 : decode cX9_needEvent 25 = .ok (.return_, 1) := by decide +kernel
theorem dX9_needWindow_0 : decode cX9_needWindow 0 = .ok (.aload_n 0, 1) := by decide +kernel
theorem dX9_needWindow_1 : decode cX9_needWindow 1 = .ok (.getfield 39, 3) := by decide +kernel
theorem dX9_needWindow_4 : decode cX9_needWindow 4 = .ok (.iload_n 1, 1) := by decide +kernel
theorem dX9_needWindow_5 : decode cX9_needWindow 5 = .ok (.aload_n 0, 1) := by decide +kernel
theorem dX9_needWindow_6 : decode cX9_needWindow 6 = .ok (.getfield 48, 3) := by decide +kernel
theorem dX9_needWindow_9 : decode cX9_needWindow 9 = .ok (.getfield 162, 3) := by decide +kernel
theorem dX9_needWindow_12 : decode cX9_needWindow 12 = .ok (.invokevirtual 195, 3) := by decide +kernel
theorem dX9_needWindow_15 : decode cX9_needWindow 15 = .ok (.ifCond .ne 13, 3) := by decide +kernel
theorem dX9_needWindow_18 : decode cX9_needWindow 18 = .ok (.new 62, 3) := by decide +kernel
theorem dX9_needWindow_21 : decode cX9_needWindow 21 = .ok (.dup, 1) := by decide +kernel
theorem dX9_needWindow_22 : decode cX9_needWindow 22 = .ok (.ldc 220, 2) := by decide +kernel
theorem dX9_needWindow_24 : decode cX9_needWindow 24 = .ok (.invokespecial 66, 3) := by decide +kernel
theorem dX9_needWindow_27 : decode cX9_needWindow 27 = .ok (.athrow, 1) := by decide +kernel
theorem dX9_needWindow_28 : decode cX9_needWindow 28 = .ok (.return_, 1) := by decide +kernel
theorem dX9_claimHours_0 : decode cX9_claimHours 0 = .ok (.aload_n 0, 1) := by decide +kernel
theorem dX9_claimHours_1 : decode cX9_claimHours 1 = .ok (.iload_n 1, 1) := by decide +kernel
theorem dX9_claimHours_2 : decode cX9_claimHours 2 = .ok (.invokevirtual 156, 3) := by decide +kernel
theorem dX9_claimHours_5 : decode cX9_claimHours 5 = .ok (.aload_n 0, 1) := by decide +kernel
theorem dX9_claimHours_6 : decode cX9_claimHours 6 = .ok (.iload_n 2, 1) := by decide +kernel
theorem dX9_claimHours_7 : decode cX9_claimHours 7 = .ok (.invokevirtual 192, 3) := by decide +kernel
theorem dX9_claimHours_10 : decode cX9_claimHours 10 = .ok (.iload_n 3, 1) := by decide +kernel
theorem dX9_claimHours_11 : decode cX9_claimHours 11 = .ok (.ifCond .lt 16, 3) := by decide +kernel
theorem dX9_claimHours_14 : decode cX9_claimHours 14 = .ok (.iload 4, 2) := by decide +kernel
theorem dX9_claimHours_16 : decode cX9_claimHours 16 = .ok (.bipush 99, 2) := by decide +kernel
theorem dX9_claimHours_18 : decode cX9_claimHours 18 = .ok (.if_icmp .gt 9, 3) := by decide +kernel
theorem dX9_claimHours_21 : decode cX9_claimHours 21 = .ok (.iload 4, 2) := by decide +kernel
theorem dX9_claimHours_23 : decode cX9_claimHours 23 = .ok (.iload_n 3, 1) := by decide +kernel
theorem dX9_claimHours_24 : decode cX9_claimHours 24 = .ok (.if_icmp .ge 13, 3) := by decide +kernel
theorem dX9_claimHours_27 : decode cX9_claimHours 27 = .ok (.new 76, 3) := by decide +kernel
theorem dX9_claimHours_30 : decode cX9_claimHours 30 = .ok (.dup, 1) := by decide +kernel
theorem dX9_claimHours_31 : decode cX9_claimHours 31 = .ok (.ldc 222, 2) := by decide +kernel
theorem dX9_claimHours_33 : decode cX9_claimHours 33 = .ok (.invokespecial 80, 3) := by decide +kernel
theorem dX9_claimHours_36 : decode cX9_claimHours 36 = .ok (.athrow, 1) := by decide +kernel
theorem dX9_claimHours_37 : decode cX9_claimHours 37 = .ok (.aload_n 0, 1) := by decide +kernel
theorem dX9_claimHours_38 : decode cX9_claimHours 38 = .ok (.iload_n 1, 1) := by decide +kernel
theorem dX9_claimHours_39 : decode cX9_claimHours 39 = .ok (.iconst 0, 1) := by decide +kernel
theorem dX9_claimHours_40 : decode cX9_claimHours 40 = .ok (.iload_n 2, 1) := by decide +kernel
theorem dX9_claimHours_41 : decode cX9_claimHours 41 = .ok (.iload_n 3, 1) := by decide +kernel
theorem dX9_claimHours_42 : decode cX9_claimHours 42 = .ok (.iload 4, 2) := by decide +kernel
theorem dX9_claimHours_44 : decode cX9_claimHours 44 = .ok (.invokevirtual 224, 3) := by decide +kernel
theorem dX9_claimHours_47 : decode cX9_claimHours 47 = .ok (.ireturn, 1) := by decide +kernel
theorem dX9_claimBefore_0 : decode cX9_claimBefore 0 = .ok (.aload_n 0, 1) := by decide +kernel
theorem dX9_claimBefore_1 : decode cX9_claimBefore 1 = .ok (.iload_n 1, 1) := by decide +kernel
theorem dX9_claimBefore_2 : decode cX9_claimBefore 2 = .ok (.invokevirtual 156, 3) := by decide +kernel
theorem dX9_claimBefore_5 : decode cX9_claimBefore 5 = .ok (.aload_n 0, 1) := by decide +kernel
theorem dX9_claimBefore_6 : decode cX9_claimBefore 6 = .ok (.iload_n 2, 1) := by decide +kernel
theorem dX9_claimBefore_7 : decode cX9_claimBefore 7 = .ok (.iload_n 3, 1) := by decide +kernel
theorem dX9_claimBefore_8 : decode cX9_claimBefore 8 = .ok (.invokevirtual 228, 3) := by decide +kernel
theorem dX9_claimBefore_11 : decode cX9_claimBefore 11 = .ok (.aload_n 0, 1) := by decide +kernel
theorem dX9_claimBefore_12 : decode cX9_claimBefore 12 = .ok (.iload_n 1, 1) := by decide +kernel
theorem dX9_claimBefore_13 : decode cX9_claimBefore 13 = .ok (.iconst 1, 1) := by decide +kernel
theorem dX9_claimBefore_14 : decode cX9_claimBefore 14 = .ok (.iload_n 2, 1) := by decide +kernel
theorem dX9_claimBefore_15 : decode cX9_claimBefore 15 = .ok (.iload_n 3, 1) := by decide +kernel
theorem dX9_claimBefore_16 : decode cX9_claimBefore 16 = .ok (.iconst 0, 1) := by decide +kernel
theorem dX9_claimBefore_17 : decode cX9_claimBefore 17 = .ok (.invokevirtual 224, 3) := by decide +kernel
theorem dX9_claimBefore_20 : decode cX9_claimBefore 20 = .ok (.ireturn, 1) := by decide +kernel
theorem dX9_claimTogether_0 : decode cX9_claimTogether 0 = .ok (.aload_n 0, 1) := by decide +kernel
theorem dX9_claimTogether_1 : decode cX9_claimTogether 1 = .ok (.iload_n 1, 1) := by decide +kernel
theorem dX9_claimTogether_2 : decode cX9_claimTogether 2 = .ok (.invokevirtual 156, 3) := by decide +kernel
theorem dX9_claimTogether_5 : decode cX9_claimTogether 5 = .ok (.aload_n 0, 1) := by decide +kernel
theorem dX9_claimTogether_6 : decode cX9_claimTogether 6 = .ok (.iload_n 2, 1) := by decide +kernel
theorem dX9_claimTogether_7 : decode cX9_claimTogether 7 = .ok (.iload_n 3, 1) := by decide +kernel
theorem dX9_claimTogether_8 : decode cX9_claimTogether 8 = .ok (.invokevirtual 228, 3) := by decide +kernel
theorem dX9_claimTogether_11 : decode cX9_claimTogether 11 = .ok (.aload_n 0, 1) := by decide +kernel
theorem dX9_claimTogether_12 : decode cX9_claimTogether 12 = .ok (.iload_n 1, 1) := by decide +kernel
theorem dX9_claimTogether_13 : decode cX9_claimTogether 13 = .ok (.iconst 2, 1) := by decide +kernel
theorem dX9_claimTogether_14 : decode cX9_claimTogether 14 = .ok (.iload_n 2, 1) := by decide +kernel
theorem dX9_claimTogether_15 : decode cX9_claimTogether 15 = .ok (.iload_n 3, 1) := by decide +kernel
theorem dX9_claimTogether_16 : decode cX9_claimTogether 16 = .ok (.iconst 0, 1) := by decide +kernel
theorem dX9_claimTogether_17 : decode cX9_claimTogether 17 = .ok (.invokevirtual 224, 3) := by decide +kernel
theorem dX9_claimTogether_20 : decode cX9_claimTogether 20 = .ok (.ireturn, 1) := by decide +kernel
theorem dX9_takeBack_0 : decode cX9_takeBack 0 = .ok (.aload_n 0, 1) := by decide +kernel
theorem dX9_takeBack_1 : decode cX9_takeBack 1 = .ok (.iload_n 1, 1) := by decide +kernel
theorem dX9_takeBack_2 : decode cX9_takeBack 2 = .ok (.invokevirtual 119, 3) := by decide +kernel
theorem dX9_takeBack_5 : decode cX9_takeBack 5 = .ok (.aload_n 0, 1) := by decide +kernel
theorem dX9_takeBack_6 : decode cX9_takeBack 6 = .ok (.getfield 35, 3) := by decide +kernel
theorem dX9_takeBack_9 : decode cX9_takeBack 9 = .ok (.getfield 104, 3) := by decide +kernel
theorem dX9_takeBack_12 : decode cX9_takeBack 12 = .ok (.getfield 122, 3) := by decide +kernel
theorem dX9_takeBack_15 : decode cX9_takeBack 15 = .ok (.iload_n 1, 1) := by decide +kernel
theorem dX9_takeBack_16 : decode cX9_takeBack 16 = .ok (.invokevirtual 125, 3) := by decide +kernel
theorem dX9_takeBack_19 : decode cX9_takeBack 19 = .ok (.istore_n 2, 1) := by decide +kernel
theorem dX9_takeBack_20 : decode cX9_takeBack 20 = .ok (.aload_n 0, 1) := by decide +kernel
theorem dX9_takeBack_21 : decode cX9_takeBack 21 = .ok (.getfield 35, 3) := by decide +kernel
theorem dX9_takeBack_24 : decode cX9_takeBack 24 = .ok (.getfield 104, 3) := by decide +kernel
theorem dX9_takeBack_27 : decode cX9_takeBack 27 = .ok (.iload_n 1, 1) := by decide +kernel
theorem dX9_takeBack_28 : decode cX9_takeBack 28 = .ok (.invokevirtual 231, 3) := by decide +kernel
theorem dX9_takeBack_31 : decode cX9_takeBack 31 = .ok (.aload_n 0, 1) := by decide +kernel
theorem dX9_takeBack_32 : decode cX9_takeBack 32 = .ok (.getfield 39, 3) := by decide +kernel
theorem dX9_takeBack_35 : decode cX9_takeBack 35 = .ok (.invokevirtual 92, 3) := by decide +kernel
theorem dX9_takeBack_38 : decode cX9_takeBack 38 = .ok (.iload_n 2, 1) := by decide +kernel
theorem dX9_takeBack_39 : decode cX9_takeBack 39 = .ok (.ireturn, 1) := by decide +kernel
theorem dX9_turnDoubt_0 : decode cX9_turnDoubt 0 = .ok (.aload_n 0, 1) := by decide +kernel
theorem dX9_turnDoubt_1 : decode cX9_turnDoubt 1 = .ok (.iload_n 1, 1) := by decide +kernel
theorem dX9_turnDoubt_2 : decode cX9_turnDoubt 2 = .ok (.invokevirtual 156, 3) := by decide +kernel
theorem dX9_turnDoubt_5 : decode cX9_turnDoubt 5 = .ok (.aload_n 0, 1) := by decide +kernel
theorem dX9_turnDoubt_6 : decode cX9_turnDoubt 6 = .ok (.getfield 48, 3) := by decide +kernel
theorem dX9_turnDoubt_9 : decode cX9_turnDoubt 9 = .ok (.aload_n 0, 1) := by decide +kernel
theorem dX9_turnDoubt_10 : decode cX9_turnDoubt 10 = .ok (.getfield 48, 3) := by decide +kernel
theorem dX9_turnDoubt_13 : decode cX9_turnDoubt 13 = .ok (.getfield 162, 3) := by decide +kernel
theorem dX9_turnDoubt_16 : decode cX9_turnDoubt 16 = .ok (.iconst 1, 1) := by decide +kernel
theorem dX9_turnDoubt_17 : decode cX9_turnDoubt 17 = .ok (.iload_n 1, 1) := by decide +kernel
theorem dX9_turnDoubt_18 : decode cX9_turnDoubt 18 = .ok (.ishl, 1) := by decide +kernel
theorem dX9_turnDoubt_19 : decode cX9_turnDoubt 19 = .ok (.ixor, 1) := by decide +kernel
theorem dX9_turnDoubt_20 : decode cX9_turnDoubt 20 = .ok (.putfield 162, 3) := by decide +kernel
theorem dX9_turnDoubt_23 : decode cX9_turnDoubt 23 = .ok (.aload_n 0, 1) := by decide +kernel
theorem dX9_turnDoubt_24 : decode cX9_turnDoubt 24 = .ok (.getfield 48, 3) := by decide +kernel
theorem dX9_turnDoubt_27 : decode cX9_turnDoubt 27 = .ok (.getfield 162, 3) := by decide +kernel
theorem dX9_turnDoubt_30 : decode cX9_turnDoubt 30 = .ok (.iload_n 1, 1) := by decide +kernel
theorem dX9_turnDoubt_31 : decode cX9_turnDoubt 31 = .ok (.invokestatic 165, 3) := by decide +kernel
theorem dX9_turnDoubt_34 : decode cX9_turnDoubt 34 = .ok (.ireturn, 1) := by decide +kernel
theorem dX9_needTwoEvents_0 : decode cX9_needTwoEvents 0 = .ok (.aload_n 0, 1) := by decide +kernel
theorem dX9_needTwoEvents_1 : decode cX9_needTwoEvents 1 = .ok (.iload_n 1, 1) := by decide +kernel
theorem dX9_needTwoEvents_2 : decode cX9_needTwoEvents 2 = .ok (.invokevirtual 192, 3) := by decide +kernel
theorem dX9_needTwoEvents_5 : decode cX9_needTwoEvents 5 = .ok (.aload_n 0, 1) := by decide +kernel
theorem dX9_needTwoEvents_6 : decode cX9_needTwoEvents 6 = .ok (.iload_n 2, 1) := by decide +kernel
theorem dX9_needTwoEvents_7 : decode cX9_needTwoEvents 7 = .ok (.invokevirtual 192, 3) := by decide +kernel
theorem dX9_needTwoEvents_10 : decode cX9_needTwoEvents 10 = .ok (.iload_n 1, 1) := by decide +kernel
theorem dX9_needTwoEvents_11 : decode cX9_needTwoEvents 11 = .ok (.iload_n 2, 1) := by decide +kernel
theorem dX9_needTwoEvents_12 : decode cX9_needTwoEvents 12 = .ok (.if_icmp .ne 13, 3) := by decide +kernel
theorem dX9_needTwoEvents_15 : decode cX9_needTwoEvents 15 = .ok (.new 76, 3) := by decide +kernel
theorem dX9_needTwoEvents_18 : decode cX9_needTwoEvents 18 = .ok (.dup, 1) := by decide +kernel
theorem dX9_needTwoEvents_19 : decode cX9_needTwoEvents 19 = .ok (.ldc 234, 2) := by decide +kernel
theorem dX9_needTwoEvents_21 : decode cX9_needTwoEvents 21 = .ok (.invokespecial 80, 3) := by decide +kernel
theorem dX9_needTwoEvents_24 : decode cX9_needTwoEvents 24 = .ok (.athrow, 1) := by decide +kernel
theorem dX9_needTwoEvents_25 : decode cX9_needTwoEvents 25 = .ok (.return_, 1) := by decide +kernel
theorem dX9_claimByHand_0 : decode cX9_claimByHand 0 = .ok (.aload_n 0, 1) := by decide +kernel
theorem dX9_claimByHand_1 : decode cX9_claimByHand 1 = .ok (.getfield 35, 3) := by decide +kernel
theorem dX9_claimByHand_4 : decode cX9_claimByHand 4 = .ok (.getfield 104, 3) := by decide +kernel
theorem dX9_claimByHand_7 : decode cX9_claimByHand 7 = .ok (.invokevirtual 236, 3) := by decide +kernel
theorem dX9_claimByHand_10 : decode cX9_claimByHand 10 = .ok (.ifCond .eq 13, 3) := by decide +kernel
theorem dX9_claimByHand_13 : decode cX9_claimByHand 13 = .ok (.new 62, 3) := by decide +kernel
theorem dX9_claimByHand_16 : decode cX9_claimByHand 16 = .ok (.dup, 1) := by decide +kernel
theorem dX9_claimByHand_17 : decode cX9_claimByHand 17 = .ok (.ldc 240, 2) := by decide +kernel
theorem dX9_claimByHand_19 : decode cX9_claimByHand 19 = .ok (.invokespecial 66, 3) := by decide +kernel
theorem dX9_claimByHand_22 : decode cX9_claimByHand 22 = .ok (.athrow, 1) := by decide +kernel
theorem dX9_claimByHand_23 : decode cX9_claimByHand 23 = .ok (.aload_n 0, 1) := by decide +kernel
theorem dX9_claimByHand_24 : decode cX9_claimByHand 24 = .ok (.getfield 35, 3) := by decide +kernel
theorem dX9_claimByHand_27 : decode cX9_claimByHand 27 = .ok (.getfield 104, 3) := by decide +kernel
theorem dX9_claimByHand_30 : decode cX9_claimByHand 30 = .ok (.iload_n 1, 1) := by decide +kernel
theorem dX9_claimByHand_31 : decode cX9_claimByHand 31 = .ok (.iload_n 2, 1) := by decide +kernel
theorem dX9_claimByHand_32 : decode cX9_claimByHand 32 = .ok (.iload_n 3, 1) := by decide +kernel
theorem dX9_claimByHand_33 : decode cX9_claimByHand 33 = .ok (.iload 4, 2) := by decide +kernel
theorem dX9_claimByHand_35 : decode cX9_claimByHand 35 = .ok (.iload 5, 2) := by decide +kernel
theorem dX9_claimByHand_37 : decode cX9_claimByHand 37 = .ok (.invokevirtual 242, 3) := by decide +kernel
theorem dX9_claimByHand_40 : decode cX9_claimByHand 40 = .ok (.aload_n 0, 1) := by decide +kernel
theorem dX9_claimByHand_41 : decode cX9_claimByHand 41 = .ok (.getfield 39, 3) := by decide +kernel
theorem dX9_claimByHand_44 : decode cX9_claimByHand 44 = .ok (.invokevirtual 92, 3) := by decide +kernel
theorem dX9_claimByHand_47 : decode cX9_claimByHand 47 = .ok (.aload_n 0, 1) := by decide +kernel
theorem dX9_claimByHand_48 : decode cX9_claimByHand 48 = .ok (.getfield 35, 3) := by decide +kernel
theorem dX9_claimByHand_51 : decode cX9_claimByHand 51 = .ok (.getfield 104, 3) := by decide +kernel
theorem dX9_claimByHand_54 : decode cX9_claimByHand 54 = .ok (.getfield 108, 3) := by decide +kernel
theorem dX9_claimByHand_57 : decode cX9_claimByHand 57 = .ok (.iconst 1, 1) := by decide +kernel
theorem dX9_claimByHand_58 : decode cX9_claimByHand 58 = .ok (.isub, 1) := by decide +kernel
theorem dX9_claimByHand_59 : decode cX9_claimByHand 59 = .ok (.ireturn, 1) := by decide +kernel
theorem dX9_passEvenings_0 : decode cX9_passEvenings 0 = .ok (.aload_n 0, 1) := by decide +kernel
theorem dX9_passEvenings_1 : decode cX9_passEvenings 1 = .ok (.iload_n 1, 1) := by decide +kernel
theorem dX9_passEvenings_2 : decode cX9_passEvenings 2 = .ok (.invokevirtual 246, 3) := by decide +kernel
theorem dX9_passEvenings_5 : decode cX9_passEvenings 5 = .ok (.aload_n 0, 1) := by decide +kernel
theorem dX9_passEvenings_6 : decode cX9_passEvenings 6 = .ok (.getfield 48, 3) := by decide +kernel
theorem dX9_passEvenings_9 : decode cX9_passEvenings 9 = .ok (.getfield 116, 3) := by decide +kernel
theorem dX9_passEvenings_12 : decode cX9_passEvenings 12 = .ok (.istore_n 2, 1) := by decide +kernel
theorem dX9_passEvenings_13 : decode cX9_passEvenings 13 = .ok (.iconst 0, 1) := by decide +kernel
theorem dX9_passEvenings_14 : decode cX9_passEvenings 14 = .ok (.istore_n 3, 1) := by decide +kernel
theorem dX9_passEvenings_15 : decode cX9_passEvenings 15 = .ok (.iload_n 3, 1) := by decide +kernel
theorem dX9_passEvenings_16 : decode cX9_passEvenings 16 = .ok (.iload_n 1, 1) := by decide +kernel
theorem dX9_passEvenings_17 : decode cX9_passEvenings 17 = .ok (.if_icmp .ge 16, 3) := by decide +kernel
theorem dX9_passEvenings_20 : decode cX9_passEvenings 20 = .ok (.aload_n 0, 1) := by decide +kernel
theorem dX9_passEvenings_21 : decode cX9_passEvenings 21 = .ok (.getfield 48, 3) := by decide +kernel
theorem dX9_passEvenings_24 : decode cX9_passEvenings 24 = .ok (.invokevirtual 249, 3) := by decide +kernel
theorem dX9_passEvenings_27 : decode cX9_passEvenings 27 = .ok (.iinc 3 1, 3) := by decide +kernel
theorem dX9_passEvenings_30 : decode cX9_passEvenings 30 = .ok (.goto (-15), 3) := by decide +kernel
theorem dX9_passEvenings_33 : decode cX9_passEvenings 33 = .ok (.aload_n 0, 1) := by decide +kernel
theorem dX9_passEvenings_34 : decode cX9_passEvenings 34 = .ok (.getfield 48, 3) := by decide +kernel
theorem dX9_passEvenings_37 : decode cX9_passEvenings 37 = .ok (.getfield 116, 3) := by decide +kernel
theorem dX9_passEvenings_40 : decode cX9_passEvenings 40 = .ok (.iload_n 2, 1) := by decide +kernel
theorem dX9_passEvenings_41 : decode cX9_passEvenings 41 = .ok (.isub, 1) := by decide +kernel
theorem dX9_passEvenings_42 : decode cX9_passEvenings 42 = .ok (.ireturn, 1) := by decide +kernel
theorem dX9_liarsAfter_0 : decode cX9_liarsAfter 0 = .ok (.aload_n 0, 1) := by decide +kernel
theorem dX9_liarsAfter_1 : decode cX9_liarsAfter 1 = .ok (.iload_n 1, 1) := by decide +kernel
theorem dX9_liarsAfter_2 : decode cX9_liarsAfter 2 = .ok (.invokevirtual 246, 3) := by decide +kernel
theorem dX9_liarsAfter_5 : decode cX9_liarsAfter 5 = .ok (.aload_n 0, 1) := by decide +kernel
theorem dX9_liarsAfter_6 : decode cX9_liarsAfter 6 = .ok (.getfield 52, 3) := by decide +kernel
theorem dX9_liarsAfter_9 : decode cX9_liarsAfter 9 = .ok (.aload_n 0, 1) := by decide +kernel
theorem dX9_liarsAfter_10 : decode cX9_liarsAfter 10 = .ok (.getfield 48, 3) := by decide +kernel
theorem dX9_liarsAfter_13 : decode cX9_liarsAfter 13 = .ok (.invokevirtual 252, 3) := by decide +kernel
theorem dX9_liarsAfter_16 : decode cX9_liarsAfter 16 = .ok (.iconst 0, 1) := by decide +kernel
theorem dX9_liarsAfter_17 : decode cX9_liarsAfter 17 = .ok (.istore_n 2, 1) := by decide +kernel
theorem dX9_liarsAfter_18 : decode cX9_liarsAfter 18 = .ok (.iload_n 2, 1) := by decide +kernel
theorem dX9_liarsAfter_19 : decode cX9_liarsAfter 19 = .ok (.iload_n 1, 1) := by decide +kernel
theorem dX9_liarsAfter_20 : decode cX9_liarsAfter 20 = .ok (.if_icmp .ge 16, 3) := by decide +kernel
theorem dX9_liarsAfter_23 : decode cX9_liarsAfter 23 = .ok (.aload_n 0, 1) := by decide +kernel
theorem dX9_liarsAfter_24 : decode cX9_liarsAfter 24 = .ok (.getfield 52, 3) := by decide +kernel
theorem dX9_liarsAfter_27 : decode cX9_liarsAfter 27 = .ok (.invokevirtual 249, 3) := by decide +kernel
theorem dX9_liarsAfter_30 : decode cX9_liarsAfter 30 = .ok (.iinc 2 1, 3) := by decide +kernel
theorem dX9_liarsAfter_33 : decode cX9_liarsAfter 33 = .ok (.goto (-15), 3) := by decide +kernel
theorem dX9_liarsAfter_36 : decode cX9_liarsAfter 36 = .ok (.aload_n 0, 1) := by decide +kernel
theorem dX9_liarsAfter_37 : decode cX9_liarsAfter 37 = .ok (.getfield 39, 3) := by decide +kernel
theorem dX9_liarsAfter_40 : decode cX9_liarsAfter 40 = .ok (.aload_n 0, 1) := by decide +kernel
theorem dX9_liarsAfter_41 : decode cX9_liarsAfter 41 = .ok (.getfield 52, 3) := by decide +kernel
theorem dX9_liarsAfter_44 : decode cX9_liarsAfter 44 = .ok (.getfield 162, 3) := by decide +kernel
theorem dX9_liarsAfter_47 : decode cX9_liarsAfter 47 = .ok (.invokevirtual 179, 3) := by decide +kernel
theorem dX9_liarsAfter_50 : decode cX9_liarsAfter 50 = .ok (.invokestatic 182, 3) := by decide +kernel
theorem dX9_liarsAfter_53 : decode cX9_liarsAfter 53 = .ok (.ireturn, 1) := by decide +kernel
theorem dX9_eveningsUntilOneStory_0 : decode cX9_eveningsUntilOneStory 0 = .ok (.aload_n 0, 1) := by decide +kernel
theorem dX9_eveningsUntilOneStory_1 : decode cX9_eveningsUntilOneStory 1 = .ok (.getfield 52, 3) := by decide +kernel
theorem dX9_eveningsUntilOneStory_4 : decode cX9_eveningsUntilOneStory 4 = .ok (.aload_n 0, 1) := by decide +kernel
theorem dX9_eveningsUntilOneStory_5 : decode cX9_eveningsUntilOneStory 5 = .ok (.getfield 48, 3) := by decide +kernel
theorem dX9_eveningsUntilOneStory_8 : decode cX9_eveningsUntilOneStory 8 = .ok (.invokevirtual 252, 3) := by decide +kernel
theorem dX9_eveningsUntilOneStory_11 : decode cX9_eveningsUntilOneStory 11 = .ok (.iconst 0, 1) := by decide +kernel
theorem dX9_eveningsUntilOneStory_12 : decode cX9_eveningsUntilOneStory 12 = .ok (.istore_n 1, 1) := by decide +kernel
theorem dX9_eveningsUntilOneStory_13 : decode cX9_eveningsUntilOneStory 13 = .ok (.iload_n 1, 1) := by decide +kernel
theorem dX9_eveningsUntilOneStory_14 : decode cX9_eveningsUntilOneStory 14 = .ok (.bipush 30, 2) := by decide +kernel
theorem dX9_eveningsUntilOneStory_16 : decode cX9_eveningsUntilOneStory 16 = .ok (.if_icmp .ge 35, 3) := by decide +kernel
theorem dX9_eveningsUntilOneStory_19 : decode cX9_eveningsUntilOneStory 19 = .ok (.aload_n 0, 1) := by decide +kernel
theorem dX9_eveningsUntilOneStory_20 : decode cX9_eveningsUntilOneStory 20 = .ok (.getfield 39, 3) := by decide +kernel
theorem dX9_eveningsUntilOneStory_23 : decode cX9_eveningsUntilOneStory 23 = .ok (.aload_n 0, 1) := by decide +kernel
theorem dX9_eveningsUntilOneStory_24 : decode cX9_eveningsUntilOneStory 24 = .ok (.getfield 52, 3) := by decide +kernel
theorem dX9_eveningsUntilOneStory_27 : decode cX9_eveningsUntilOneStory 27 = .ok (.getfield 162, 3) := by decide +kernel
theorem dX9_eveningsUntilOneStory_30 : decode cX9_eveningsUntilOneStory 30 = .ok (.invokevirtual 179, 3) := by decide +kernel
theorem dX9_eveningsUntilOneStory_33 : decode cX9_eveningsUntilOneStory 33 = .ok (.ifCond .ne 5, 3) := by decide +kernel
theorem dX9_eveningsUntilOneStory_36 : decode cX9_eveningsUntilOneStory 36 = .ok (.iload_n 1, 1) := by decide +kernel
theorem dX9_eveningsUntilOneStory_37 : decode cX9_eveningsUntilOneStory 37 = .ok (.ireturn, 1) := by decide +kernel
theorem dX9_eveningsUntilOneStory_38 : decode cX9_eveningsUntilOneStory 38 = .ok (.aload_n 0, 1) := by decide +kernel
theorem dX9_eveningsUntilOneStory_39 : decode cX9_eveningsUntilOneStory 39 = .ok (.getfield 52, 3) := by decide +kernel
theorem dX9_eveningsUntilOneStory_42 : decode cX9_eveningsUntilOneStory 42 = .ok (.invokevirtual 249, 3) := by decide +kernel
theorem dX9_eveningsUntilOneStory_45 : decode cX9_eveningsUntilOneStory 45 = .ok (.iinc 1 1, 3) := by decide +kernel
theorem dX9_eveningsUntilOneStory_48 : decode cX9_eveningsUntilOneStory 48 = .ok (.goto (-35), 3) := by decide +kernel
theorem dX9_eveningsUntilOneStory_51 : decode cX9_eveningsUntilOneStory 51 = .ok (.aload_n 0, 1) := by decide +kernel
theorem dX9_eveningsUntilOneStory_52 : decode cX9_eveningsUntilOneStory 52 = .ok (.getfield 39, 3) := by decide +kernel
theorem dX9_eveningsUntilOneStory_55 : decode cX9_eveningsUntilOneStory 55 = .ok (.aload_n 0, 1) := by decide +kernel
theorem dX9_eveningsUntilOneStory_56 : decode cX9_eveningsUntilOneStory 56 = .ok (.getfield 52, 3) := by decide +kernel
theorem dX9_eveningsUntilOneStory_59 : decode cX9_eveningsUntilOneStory 59 = .ok (.getfield 162, 3) := by decide +kernel
theorem dX9_eveningsUntilOneStory_62 : decode cX9_eveningsUntilOneStory 62 = .ok (.invokevirtual 179, 3) := by decide +kernel
theorem dX9_eveningsUntilOneStory_65 : decode cX9_eveningsUntilOneStory 65 = .ok (.ifCond .ne 8, 3) := by decide +kernel
theorem dX9_eveningsUntilOneStory_68 : decode cX9_eveningsUntilOneStory 68 = .ok (.bipush 30, 2) := by decide +kernel
theorem dX9_eveningsUntilOneStory_70 : decode cX9_eveningsUntilOneStory 70 = .ok (.goto 4, 3) := by decide +kernel
theorem dX9_eveningsUntilOneStory_73 : decode cX9_eveningsUntilOneStory 73 = .ok (.iconst (-1), 1) := by decide +kernel
theorem dX9_eveningsUntilOneStory_74 : decode cX9_eveningsUntilOneStory 74 = .ok (.ireturn, 1) := by decide +kernel
theorem dX9_bestToDoubt_0 : decode cX9_bestToDoubt 0 = .ok (.iconst (-1), 1) := by decide +kernel
theorem dX9_bestToDoubt_1 : decode cX9_bestToDoubt 1 = .ok (.istore_n 1, 1) := by decide +kernel
theorem dX9_bestToDoubt_2 : decode cX9_bestToDoubt 2 = .ok (.aload_n 0, 1) := by decide +kernel
theorem dX9_bestToDoubt_3 : decode cX9_bestToDoubt 3 = .ok (.getfield 39, 3) := by decide +kernel
theorem dX9_bestToDoubt_6 : decode cX9_bestToDoubt 6 = .ok (.aload_n 0, 1) := by decide +kernel
theorem dX9_bestToDoubt_7 : decode cX9_bestToDoubt 7 = .ok (.getfield 48, 3) := by decide +kernel
theorem dX9_bestToDoubt_10 : decode cX9_bestToDoubt 10 = .ok (.getfield 162, 3) := by decide +kernel
theorem dX9_bestToDoubt_13 : decode cX9_bestToDoubt 13 = .ok (.invokevirtual 176, 3) := by decide +kernel
theorem dX9_bestToDoubt_16 : decode cX9_bestToDoubt 16 = .ok (.istore_n 2, 1) := by decide +kernel
theorem dX9_bestToDoubt_17 : decode cX9_bestToDoubt 17 = .ok (.iconst 0, 1) := by decide +kernel
theorem dX9_bestToDoubt_18 : decode cX9_bestToDoubt 18 = .ok (.istore_n 3, 1) := by decide +kernel
theorem dX9_bestToDoubt_19 : decode cX9_bestToDoubt 19 = .ok (.iload_n 3, 1) := by decide +kernel
theorem dX9_bestToDoubt_20 : decode cX9_bestToDoubt 20 = .ok (.aload_n 0, 1) := by decide +kernel
theorem dX9_bestToDoubt_21 : decode cX9_bestToDoubt 21 = .ok (.getfield 35, 3) := by decide +kernel
theorem dX9_bestToDoubt_24 : decode cX9_bestToDoubt 24 = .ok (.getfield 101, 3) := by decide +kernel
theorem dX9_bestToDoubt_27 : decode cX9_bestToDoubt 27 = .ok (.if_icmp .ge 40, 3) := by decide +kernel
theorem dX9_bestToDoubt_30 : decode cX9_bestToDoubt 30 = .ok (.aload_n 0, 1) := by decide +kernel
theorem dX9_bestToDoubt_31 : decode cX9_bestToDoubt 31 = .ok (.getfield 39, 3) := by decide +kernel
theorem dX9_bestToDoubt_34 : decode cX9_bestToDoubt 34 = .ok (.aload_n 0, 1) := by decide +kernel
theorem dX9_bestToDoubt_35 : decode cX9_bestToDoubt 35 = .ok (.getfield 48, 3) := by decide +kernel
theorem dX9_bestToDoubt_38 : decode cX9_bestToDoubt 38 = .ok (.getfield 162, 3) := by decide +kernel
theorem dX9_bestToDoubt_41 : decode cX9_bestToDoubt 41 = .ok (.iconst 1, 1) := by decide +kernel
theorem dX9_bestToDoubt_42 : decode cX9_bestToDoubt 42 = .ok (.iload_n 3, 1) := by decide +kernel
theorem dX9_bestToDoubt_43 : decode cX9_bestToDoubt 43 = .ok (.ishl, 1) := by decide +kernel
theorem dX9_bestToDoubt_44 : decode cX9_bestToDoubt 44 = .ok (.ior, 1) := by decide +kernel
theorem dX9_bestToDoubt_45 : decode cX9_bestToDoubt 45 = .ok (.invokevirtual 176, 3) := by decide +kernel
theorem dX9_bestToDoubt_48 : decode cX9_bestToDoubt 48 = .ok (.istore 4, 2) := by decide +kernel
theorem dX9_bestToDoubt_50 : decode cX9_bestToDoubt 50 = .ok (.iload 4, 2) := by decide +kernel
theorem dX9_bestToDoubt_52 : decode cX9_bestToDoubt 52 = .ok (.iload_n 2, 1) := by decide +kernel
theorem dX9_bestToDoubt_53 : decode cX9_bestToDoubt 53 = .ok (.if_icmp .ge 8, 3) := by decide +kernel
theorem dX9_bestToDoubt_56 : decode cX9_bestToDoubt 56 = .ok (.iload 4, 2) := by decide +kernel
theorem dX9_bestToDoubt_58 : decode cX9_bestToDoubt 58 = .ok (.istore_n 2, 1) := by decide +kernel
theorem dX9_bestToDoubt_59 : decode cX9_bestToDoubt 59 = .ok (.iload_n 3, 1) := by decide +kernel
theorem dX9_bestToDoubt_60 : decode cX9_bestToDoubt 60 = .ok (.istore_n 1, 1) := by decide +kernel
theorem dX9_bestToDoubt_61 : decode cX9_bestToDoubt 61 = .ok (.iinc 3 1, 3) := by decide +kernel
theorem dX9_bestToDoubt_64 : decode cX9_bestToDoubt 64 = .ok (.goto (-45), 3) := by decide +kernel
theorem dX9_bestToDoubt_67 : decode cX9_bestToDoubt 67 = .ok (.iload_n 1, 1) := by decide +kernel
theorem dX9_bestToDoubt_68 : decode cX9_bestToDoubt 68 = .ok (.ireturn, 1) := by decide +kernel
theorem dX9_meanClaims_0 : decode cX9_meanClaims 0 = .ok (.aload_n 0, 1) := by decide +kernel
theorem dX9_meanClaims_1 : decode cX9_meanClaims 1 = .ok (.getfield 35, 3) := by decide +kernel
theorem dX9_meanClaims_4 : decode cX9_meanClaims 4 = .ok (.getfield 101, 3) := by decide +kernel
theorem dX9_meanClaims_7 : decode cX9_meanClaims 7 = .ok (.ifCond .gt 5, 3) := by decide +kernel
theorem dX9_meanClaims_10 : decode cX9_meanClaims 10 = .ok (.dconst 0, 1) := by decide +kernel
theorem dX9_meanClaims_11 : decode cX9_meanClaims 11 = .ok (.dreturn, 1) := by decide +kernel
theorem dX9_meanClaims_12 : decode cX9_meanClaims 12 = .ok (.aload_n 0, 1) := by decide +kernel
theorem dX9_meanClaims_13 : decode cX9_meanClaims 13 = .ok (.getfield 35, 3) := by decide +kernel
theorem dX9_meanClaims_16 : decode cX9_meanClaims 16 = .ok (.getfield 104, 3) := by decide +kernel
theorem dX9_meanClaims_19 : decode cX9_meanClaims 19 = .ok (.getfield 108, 3) := by decide +kernel
theorem dX9_meanClaims_22 : decode cX9_meanClaims 22 = .ok (.i2d, 1) := by decide +kernel
theorem dX9_meanClaims_23 : decode cX9_meanClaims 23 = .ok (.aload_n 0, 1) := by decide +kernel
theorem dX9_meanClaims_24 : decode cX9_meanClaims 24 = .ok (.getfield 35, 3) := by decide +kernel
theorem dX9_meanClaims_27 : decode cX9_meanClaims 27 = .ok (.getfield 101, 3) := by decide +kernel
theorem dX9_meanClaims_30 : decode cX9_meanClaims 30 = .ok (.i2d, 1) := by decide +kernel
theorem dX9_meanClaims_31 : decode cX9_meanClaims 31 = .ok (.ddiv, 1) := by decide +kernel
theorem dX9_meanClaims_32 : decode cX9_meanClaims 32 = .ok (.dreturn, 1) := by decide +kernel
theorem dX9_digest_0 : decode cX9_digest 0 = .ok (.ldc2_w 255, 3) := by decide +kernel
theorem dX9_digest_3 : decode cX9_digest 3 = .ok (.lstore_n 1, 1) := by decide +kernel
theorem dX9_digest_4 : decode cX9_digest 4 = .ok (.lload_n 1, 1) := by decide +kernel
theorem dX9_digest_5 : decode cX9_digest 5 = .ok (.ldc2_w 257, 3) := by decide +kernel
theorem dX9_digest_8 : decode cX9_digest 8 = .ok (.lmul, 1) := by decide +kernel
theorem dX9_digest_9 : decode cX9_digest 9 = .ok (.aload_n 0, 1) := by decide +kernel
theorem dX9_digest_10 : decode cX9_digest 10 = .ok (.invokevirtual 259, 3) := by decide +kernel
theorem dX9_digest_13 : decode cX9_digest 13 = .ok (.i2l, 1) := by decide +kernel
theorem dX9_digest_14 : decode cX9_digest 14 = .ok (.ladd, 1) := by decide +kernel
theorem dX9_digest_15 : decode cX9_digest 15 = .ok (.lstore_n 1, 1) := by decide +kernel
theorem dX9_digest_16 : decode cX9_digest 16 = .ok (.lload_n 1, 1) := by decide +kernel
theorem dX9_digest_17 : decode cX9_digest 17 = .ok (.ldc2_w 257, 3) := by decide +kernel
theorem dX9_digest_20 : decode cX9_digest 20 = .ok (.lmul, 1) := by decide +kernel
theorem dX9_digest_21 : decode cX9_digest 21 = .ok (.aload_n 0, 1) := by decide +kernel
theorem dX9_digest_22 : decode cX9_digest 22 = .ok (.invokevirtual 262, 3) := by decide +kernel
theorem dX9_digest_25 : decode cX9_digest 25 = .ok (.i2l, 1) := by decide +kernel
theorem dX9_digest_26 : decode cX9_digest 26 = .ok (.ladd, 1) := by decide +kernel
theorem dX9_digest_27 : decode cX9_digest 27 = .ok (.lstore_n 1, 1) := by decide +kernel
theorem dX9_digest_28 : decode cX9_digest 28 = .ok (.lload_n 1, 1) := by decide +kernel
theorem dX9_digest_29 : decode cX9_digest 29 = .ok (.ldc2_w 257, 3) := by decide +kernel
theorem dX9_digest_32 : decode cX9_digest 32 = .ok (.lmul, 1) := by decide +kernel
theorem dX9_digest_33 : decode cX9_digest 33 = .ok (.aload_n 0, 1) := by decide +kernel
theorem dX9_digest_34 : decode cX9_digest 34 = .ok (.invokevirtual 264, 3) := by decide +kernel
theorem dX9_digest_37 : decode cX9_digest 37 = .ok (.i2l, 1) := by decide +kernel
theorem dX9_digest_38 : decode cX9_digest 38 = .ok (.ladd, 1) := by decide +kernel
theorem dX9_digest_39 : decode cX9_digest 39 = .ok (.lstore_n 1, 1) := by decide +kernel
theorem dX9_digest_40 : decode cX9_digest 40 = .ok (.lload_n 1, 1) := by decide +kernel
theorem dX9_digest_41 : decode cX9_digest 41 = .ok (.ldc2_w 257, 3) := by decide +kernel
theorem dX9_digest_44 : decode cX9_digest 44 = .ok (.lmul, 1) := by decide +kernel
theorem dX9_digest_45 : decode cX9_digest 45 = .ok (.aload_n 0, 1) := by decide +kernel
theorem dX9_digest_46 : decode cX9_digest 46 = .ok (.invokevirtual 266, 3) := by decide +kernel
theorem dX9_digest_49 : decode cX9_digest 49 = .ok (.i2l, 1) := by decide +kernel
theorem dX9_digest_50 : decode cX9_digest 50 = .ok (.ladd, 1) := by decide +kernel
theorem dX9_digest_51 : decode cX9_digest 51 = .ok (.lstore_n 1, 1) := by decide +kernel
theorem dX9_digest_52 : decode cX9_digest 52 = .ok (.lload_n 1, 1) := by decide +kernel
theorem dX9_digest_53 : decode cX9_digest 53 = .ok (.ldc2_w 257, 3) := by decide +kernel
theorem dX9_digest_56 : decode cX9_digest 56 = .ok (.lmul, 1) := by decide +kernel
theorem dX9_digest_57 : decode cX9_digest 57 = .ok (.aload_n 0, 1) := by decide +kernel
theorem dX9_digest_58 : decode cX9_digest 58 = .ok (.invokevirtual 269, 3) := by decide +kernel
theorem dX9_digest_61 : decode cX9_digest 61 = .ok (.i2l, 1) := by decide +kernel
theorem dX9_digest_62 : decode cX9_digest 62 = .ok (.ladd, 1) := by decide +kernel
theorem dX9_digest_63 : decode cX9_digest 63 = .ok (.lstore_n 1, 1) := by decide +kernel
theorem dX9_digest_64 : decode cX9_digest 64 = .ok (.lload_n 1, 1) := by decide +kernel
theorem dX9_digest_65 : decode cX9_digest 65 = .ok (.ldc2_w 257, 3) := by decide +kernel
theorem dX9_digest_68 : decode cX9_digest 68 = .ok (.lmul, 1) := by decide +kernel
theorem dX9_digest_69 : decode cX9_digest 69 = .ok (.aload_n 0, 1) := by decide +kernel
theorem dX9_digest_70 : decode cX9_digest 70 = .ok (.invokevirtual 272, 3) := by decide +kernel
theorem dX9_digest_73 : decode cX9_digest 73 = .ok (.i2l, 1) := by decide +kernel
theorem dX9_digest_74 : decode cX9_digest 74 = .ok (.ladd, 1) := by decide +kernel
theorem dX9_digest_75 : decode cX9_digest 75 = .ok (.lstore_n 1, 1) := by decide +kernel
theorem dX9_digest_76 : decode cX9_digest 76 = .ok (.lload_n 1, 1) := by decide +kernel
theorem dX9_digest_77 : decode cX9_digest 77 = .ok (.ldc2_w 257, 3) := by decide +kernel
theorem dX9_digest_80 : decode cX9_digest 80 = .ok (.lmul, 1) := by decide +kernel
theorem dX9_digest_81 : decode cX9_digest 81 = .ok (.aload_n 0, 1) := by decide +kernel
theorem dX9_digest_82 : decode cX9_digest 82 = .ok (.invokevirtual 275, 3) := by decide +kernel
theorem dX9_digest_85 : decode cX9_digest 85 = .ok (.i2l, 1) := by decide +kernel
theorem dX9_digest_86 : decode cX9_digest 86 = .ok (.ladd, 1) := by decide +kernel
theorem dX9_digest_87 : decode cX9_digest 87 = .ok (.lstore_n 1, 1) := by decide +kernel
theorem dX9_digest_88 : decode cX9_digest 88 = .ok (.lload_n 1, 1) := by decide +kernel
theorem dX9_digest_89 : decode cX9_digest 89 = .ok (.ldc2_w 257, 3) := by decide +kernel
theorem dX9_digest_92 : decode cX9_digest 92 = .ok (.lmul, 1) := by decide +kernel
theorem dX9_digest_93 : decode cX9_digest 93 = .ok (.aload_n 0, 1) := by decide +kernel
theorem dX9_digest_94 : decode cX9_digest 94 = .ok (.invokevirtual 278, 3) := by decide +kernel
theorem dX9_digest_97 : decode cX9_digest 97 = .ok (.i2l, 1) := by decide +kernel
theorem dX9_digest_98 : decode cX9_digest 98 = .ok (.ladd, 1) := by decide +kernel
theorem dX9_digest_99 : decode cX9_digest 99 = .ok (.lstore_n 1, 1) := by decide +kernel
theorem dX9_digest_100 : decode cX9_digest 100 = .ok (.lload_n 1, 1) := by decide +kernel
theorem dX9_digest_101 : decode cX9_digest 101 = .ok (.ldc2_w 257, 3) := by decide +kernel
theorem dX9_digest_104 : decode cX9_digest 104 = .ok (.lmul, 1) := by decide +kernel
theorem dX9_digest_105 : decode cX9_digest 105 = .ok (.aload_n 0, 1) := by decide +kernel
theorem dX9_digest_106 : decode cX9_digest 106 = .ok (.invokevirtual 281, 3) := by decide +kernel
theorem dX9_digest_109 : decode cX9_digest 109 = .ok (.invokestatic 284, 3) := by decide +kernel
theorem dX9_digest_112 : decode cX9_digest 112 = .ok (.i2l, 1) := by decide +kernel
theorem dX9_digest_113 : decode cX9_digest 113 = .ok (.ladd, 1) := by decide +kernel
theorem dX9_digest_114 : decode cX9_digest 114 = .ok (.lstore_n 1, 1) := by decide +kernel
theorem dX9_digest_115 : decode cX9_digest 115 = .ok (.aload_n 0, 1) := by decide +kernel
theorem dX9_digest_116 : decode cX9_digest 116 = .ok (.aload_n 0, 1) := by decide +kernel
theorem dX9_digest_117 : decode cX9_digest 117 = .ok (.aload_n 0, 1) := by decide +kernel
theorem dX9_digest_118 : decode cX9_digest 118 = .ok (.lload_n 1, 1) := by decide +kernel
theorem dX9_digest_119 : decode cX9_digest 119 = .ok (.invokevirtual 288, 3) := by decide +kernel
theorem dX9_digest_122 : decode cX9_digest 122 = .ok (.invokevirtual 292, 3) := by decide +kernel
theorem dX9_digest_125 : decode cX9_digest 125 = .ok (.invokevirtual 295, 3) := by decide +kernel
theorem dX9_digest_128 : decode cX9_digest 128 = .ok (.lreturn, 1) := by decide +kernel
theorem dX9_digestClaims_0 : decode cX9_digestClaims 0 = .ok (.lload_n 1, 1) := by decide +kernel
theorem dX9_digestClaims_1 : decode cX9_digestClaims 1 = .ok (.lstore_n 3, 1) := by decide +kernel
theorem dX9_digestClaims_2 : decode cX9_digestClaims 2 = .ok (.iconst 0, 1) := by decide +kernel
theorem dX9_digestClaims_3 : decode cX9_digestClaims 3 = .ok (.istore 5, 2) := by decide +kernel
theorem dX9_digestClaims_5 : decode cX9_digestClaims 5 = .ok (.iload 5, 2) := by decide +kernel
theorem dX9_digestClaims_7 : decode cX9_digestClaims 7 = .ok (.aload_n 0, 1) := by decide +kernel
theorem dX9_digestClaims_8 : decode cX9_digestClaims 8 = .ok (.getfield 35, 3) := by decide +kernel
theorem dX9_digestClaims_11 : decode cX9_digestClaims 11 = .ok (.getfield 104, 3) := by decide +kernel
theorem dX9_digestClaims_14 : decode cX9_digestClaims 14 = .ok (.getfield 108, 3) := by decide +kernel
theorem dX9_digestClaims_17 : decode cX9_digestClaims 17 = .ok (.if_icmp .ge 78, 3) := by decide +kernel
theorem dX9_digestClaims_20 : decode cX9_digestClaims 20 = .ok (.lload_n 3, 1) := by decide +kernel
theorem dX9_digestClaims_21 : decode cX9_digestClaims 21 = .ok (.ldc2_w 257, 3) := by decide +kernel
theorem dX9_digestClaims_24 : decode cX9_digestClaims 24 = .ok (.lmul, 1) := by decide +kernel
theorem dX9_digestClaims_25 : decode cX9_digestClaims 25 = .ok (.aload_n 0, 1) := by decide +kernel
theorem dX9_digestClaims_26 : decode cX9_digestClaims 26 = .ok (.getfield 35, 3) := by decide +kernel
theorem dX9_digestClaims_29 : decode cX9_digestClaims 29 = .ok (.getfield 104, 3) := by decide +kernel
theorem dX9_digestClaims_32 : decode cX9_digestClaims 32 = .ok (.getfield 122, 3) := by decide +kernel
theorem dX9_digestClaims_35 : decode cX9_digestClaims 35 = .ok (.iload 5, 2) := by decide +kernel
theorem dX9_digestClaims_37 : decode cX9_digestClaims 37 = .ok (.invokevirtual 125, 3) := by decide +kernel
theorem dX9_digestClaims_40 : decode cX9_digestClaims 40 = .ok (.i2l, 1) := by decide +kernel
theorem dX9_digestClaims_41 : decode cX9_digestClaims 41 = .ok (.ladd, 1) := by decide +kernel
theorem dX9_digestClaims_42 : decode cX9_digestClaims 42 = .ok (.lstore_n 3, 1) := by decide +kernel
theorem dX9_digestClaims_43 : decode cX9_digestClaims 43 = .ok (.lload_n 3, 1) := by decide +kernel
theorem dX9_digestClaims_44 : decode cX9_digestClaims 44 = .ok (.ldc2_w 257, 3) := by decide +kernel
theorem dX9_digestClaims_47 : decode cX9_digestClaims 47 = .ok (.lmul, 1) := by decide +kernel
theorem dX9_digestClaims_48 : decode cX9_digestClaims 48 = .ok (.aload_n 0, 1) := by decide +kernel
theorem dX9_digestClaims_49 : decode cX9_digestClaims 49 = .ok (.getfield 35, 3) := by decide +kernel
theorem dX9_digestClaims_52 : decode cX9_digestClaims 52 = .ok (.getfield 104, 3) := by decide +kernel
theorem dX9_digestClaims_55 : decode cX9_digestClaims 55 = .ok (.getfield 128, 3) := by decide +kernel
theorem dX9_digestClaims_58 : decode cX9_digestClaims 58 = .ok (.iload 5, 2) := by decide +kernel
theorem dX9_digestClaims_60 : decode cX9_digestClaims 60 = .ok (.invokevirtual 125, 3) := by decide +kernel
theorem dX9_digestClaims_63 : decode cX9_digestClaims 63 = .ok (.i2l, 1) := by decide +kernel
theorem dX9_digestClaims_64 : decode cX9_digestClaims 64 = .ok (.ladd, 1) := by decide +kernel
theorem dX9_digestClaims_65 : decode cX9_digestClaims 65 = .ok (.lstore_n 3, 1) := by decide +kernel
theorem dX9_digestClaims_66 : decode cX9_digestClaims 66 = .ok (.lload_n 3, 1) := by decide +kernel
theorem dX9_digestClaims_67 : decode cX9_digestClaims 67 = .ok (.ldc2_w 257, 3) := by decide +kernel
theorem dX9_digestClaims_70 : decode cX9_digestClaims 70 = .ok (.lmul, 1) := by decide +kernel
theorem dX9_digestClaims_71 : decode cX9_digestClaims 71 = .ok (.aload_n 0, 1) := by decide +kernel
theorem dX9_digestClaims_72 : decode cX9_digestClaims 72 = .ok (.getfield 35, 3) := by decide +kernel
theorem dX9_digestClaims_75 : decode cX9_digestClaims 75 = .ok (.getfield 104, 3) := by decide +kernel
theorem dX9_digestClaims_78 : decode cX9_digestClaims 78 = .ok (.getfield 131, 3) := by decide +kernel
theorem dX9_digestClaims_81 : decode cX9_digestClaims 81 = .ok (.iload 5, 2) := by decide +kernel
theorem dX9_digestClaims_83 : decode cX9_digestClaims 83 = .ok (.invokevirtual 125, 3) := by decide +kernel
theorem dX9_digestClaims_86 : decode cX9_digestClaims 86 = .ok (.i2l, 1) := by decide +kernel
theorem dX9_digestClaims_87 : decode cX9_digestClaims 87 = .ok (.ladd, 1) := by decide +kernel
theorem dX9_digestClaims_88 : decode cX9_digestClaims 88 = .ok (.lstore_n 3, 1) := by decide +kernel
theorem dX9_digestClaims_89 : decode cX9_digestClaims 89 = .ok (.iinc 5 1, 3) := by decide +kernel
theorem dX9_digestClaims_92 : decode cX9_digestClaims 92 = .ok (.goto (-87), 3) := by decide +kernel
theorem dX9_digestClaims_95 : decode cX9_digestClaims 95 = .ok (.lload_n 3, 1) := by decide +kernel
theorem dX9_digestClaims_96 : decode cX9_digestClaims 96 = .ok (.lreturn, 1) := by decide +kernel
theorem dX9_digestTellers_0 : decode cX9_digestTellers 0 = .ok (.lload_n 1, 1) := by decide +kernel
theorem dX9_digestTellers_1 : decode cX9_digestTellers 1 = .ok (.lstore_n 3, 1) := by decide +kernel
theorem dX9_digestTellers_2 : decode cX9_digestTellers 2 = .ok (.aload_n 0, 1) := by decide +kernel
theorem dX9_digestTellers_3 : decode cX9_digestTellers 3 = .ok (.getfield 48, 3) := by decide +kernel
theorem dX9_digestTellers_6 : decode cX9_digestTellers 6 = .ok (.getfield 162, 3) := by decide +kernel
theorem dX9_digestTellers_9 : decode cX9_digestTellers 9 = .ok (.istore 5, 2) := by decide +kernel
theorem dX9_digestTellers_11 : decode cX9_digestTellers 11 = .ok (.iconst 0, 1) := by decide +kernel
theorem dX9_digestTellers_12 : decode cX9_digestTellers 12 = .ok (.istore 6, 2) := by decide +kernel
theorem dX9_digestTellers_14 : decode cX9_digestTellers 14 = .ok (.iload 6, 2) := by decide +kernel
theorem dX9_digestTellers_16 : decode cX9_digestTellers 16 = .ok (.aload_n 0, 1) := by decide +kernel
theorem dX9_digestTellers_17 : decode cX9_digestTellers 17 = .ok (.getfield 35, 3) := by decide +kernel
theorem dX9_digestTellers_20 : decode cX9_digestTellers 20 = .ok (.getfield 101, 3) := by decide +kernel
theorem dX9_digestTellers_23 : decode cX9_digestTellers 23 = .ok (.if_icmp .ge 117, 3) := by decide +kernel
theorem dX9_digestTellers_26 : decode cX9_digestTellers 26 = .ok (.lload_n 3, 1) := by decide +kernel
theorem dX9_digestTellers_27 : decode cX9_digestTellers 27 = .ok (.ldc2_w 257, 3) := by decide +kernel
theorem dX9_digestTellers_30 : decode cX9_digestTellers 30 = .ok (.lmul, 1) := by decide +kernel
theorem dX9_digestTellers_31 : decode cX9_digestTellers 31 = .ok (.aload_n 0, 1) := by decide +kernel
theorem dX9_digestTellers_32 : decode cX9_digestTellers 32 = .ok (.getfield 35, 3) := by decide +kernel
theorem dX9_digestTellers_35 : decode cX9_digestTellers 35 = .ok (.getfield 104, 3) := by decide +kernel
theorem dX9_digestTellers_38 : decode cX9_digestTellers 38 = .ok (.iload 6, 2) := by decide +kernel
theorem dX9_digestTellers_40 : decode cX9_digestTellers 40 = .ok (.invokevirtual 159, 3) := by decide +kernel
theorem dX9_digestTellers_43 : decode cX9_digestTellers 43 = .ok (.i2l, 1) := by decide +kernel
theorem dX9_digestTellers_44 : decode cX9_digestTellers 44 = .ok (.ladd, 1) := by decide +kernel
theorem dX9_digestTellers_45 : decode cX9_digestTellers 45 = .ok (.lstore_n 3, 1) := by decide +kernel
theorem dX9_digestTellers_46 : decode cX9_digestTellers 46 = .ok (.lload_n 3, 1) := by decide +kernel
theorem dX9_digestTellers_47 : decode cX9_digestTellers 47 = .ok (.ldc2_w 257, 3) := by decide +kernel
theorem dX9_digestTellers_50 : decode cX9_digestTellers 50 = .ok (.lmul, 1) := by decide +kernel
theorem dX9_digestTellers_51 : decode cX9_digestTellers 51 = .ok (.iload 5, 2) := by decide +kernel
theorem dX9_digestTellers_53 : decode cX9_digestTellers 53 = .ok (.iload 6, 2) := by decide +kernel
theorem dX9_digestTellers_55 : decode cX9_digestTellers 55 = .ok (.invokestatic 165, 3) := by decide +kernel
theorem dX9_digestTellers_58 : decode cX9_digestTellers 58 = .ok (.invokestatic 284, 3) := by decide +kernel
theorem dX9_digestTellers_61 : decode cX9_digestTellers 61 = .ok (.i2l, 1) := by decide +kernel
theorem dX9_digestTellers_62 : decode cX9_digestTellers 62 = .ok (.ladd, 1) := by decide +kernel
theorem dX9_digestTellers_63 : decode cX9_digestTellers 63 = .ok (.lstore_n 3, 1) := by decide +kernel
theorem dX9_digestTellers_64 : decode cX9_digestTellers 64 = .ok (.lload_n 3, 1) := by decide +kernel
theorem dX9_digestTellers_65 : decode cX9_digestTellers 65 = .ok (.ldc2_w 257, 3) := by decide +kernel
theorem dX9_digestTellers_68 : decode cX9_digestTellers 68 = .ok (.lmul, 1) := by decide +kernel
theorem dX9_digestTellers_69 : decode cX9_digestTellers 69 = .ok (.aload_n 0, 1) := by decide +kernel
theorem dX9_digestTellers_70 : decode cX9_digestTellers 70 = .ok (.getfield 39, 3) := by decide +kernel
theorem dX9_digestTellers_73 : decode cX9_digestTellers 73 = .ok (.iload 5, 2) := by decide +kernel
theorem dX9_digestTellers_75 : decode cX9_digestTellers 75 = .ok (.invokevirtual 179, 3) := by decide +kernel
theorem dX9_digestTellers_78 : decode cX9_digestTellers 78 = .ok (.iload 6, 2) := by decide +kernel
theorem dX9_digestTellers_80 : decode cX9_digestTellers 80 = .ok (.invokestatic 165, 3) := by decide +kernel
theorem dX9_digestTellers_83 : decode cX9_digestTellers 83 = .ok (.invokestatic 284, 3) := by decide +kernel
theorem dX9_digestTellers_86 : decode cX9_digestTellers 86 = .ok (.i2l, 1) := by decide +kernel
theorem dX9_digestTellers_87 : decode cX9_digestTellers 87 = .ok (.ladd, 1) := by decide +kernel
theorem dX9_digestTellers_88 : decode cX9_digestTellers 88 = .ok (.lstore_n 3, 1) := by decide +kernel
theorem dX9_digestTellers_89 : decode cX9_digestTellers 89 = .ok (.iconst 0, 1) := by decide +kernel
theorem dX9_digestTellers_90 : decode cX9_digestTellers 90 = .ok (.istore 7, 2) := by decide +kernel
theorem dX9_digestTellers_92 : decode cX9_digestTellers 92 = .ok (.iload 7, 2) := by decide +kernel
theorem dX9_digestTellers_94 : decode cX9_digestTellers 94 = .ok (.aload_n 0, 1) := by decide +kernel
theorem dX9_digestTellers_95 : decode cX9_digestTellers 95 = .ok (.getfield 35, 3) := by decide +kernel
theorem dX9_digestTellers_98 : decode cX9_digestTellers 98 = .ok (.getfield 101, 3) := by decide +kernel
theorem dX9_digestTellers_101 : decode cX9_digestTellers 101 = .ok (.if_icmp .ge 33, 3) := by decide +kernel
theorem dX9_digestTellers_104 : decode cX9_digestTellers 104 = .ok (.lload_n 3, 1) := by decide +kernel
theorem dX9_digestTellers_105 : decode cX9_digestTellers 105 = .ok (.ldc2_w 257, 3) := by decide +kernel
theorem dX9_digestTellers_108 : decode cX9_digestTellers 108 = .ok (.lmul, 1) := by decide +kernel
theorem dX9_digestTellers_109 : decode cX9_digestTellers 109 = .ok (.aload_n 0, 1) := by decide +kernel
theorem dX9_digestTellers_110 : decode cX9_digestTellers 110 = .ok (.getfield 39, 3) := by decide +kernel
theorem dX9_digestTellers_113 : decode cX9_digestTellers 113 = .ok (.iload 6, 2) := by decide +kernel
theorem dX9_digestTellers_115 : decode cX9_digestTellers 115 = .ok (.iload 7, 2) := by decide +kernel
theorem dX9_digestTellers_117 : decode cX9_digestTellers 117 = .ok (.iload 5, 2) := by decide +kernel
theorem dX9_digestTellers_119 : decode cX9_digestTellers 119 = .ok (.invokevirtual 168, 3) := by decide +kernel
theorem dX9_digestTellers_122 : decode cX9_digestTellers 122 = .ok (.invokestatic 284, 3) := by decide +kernel
theorem dX9_digestTellers_125 : decode cX9_digestTellers 125 = .ok (.i2l, 1) := by decide +kernel
theorem dX9_digestTellers_126 : decode cX9_digestTellers 126 = .ok (.ladd, 1) := by decide +kernel
theorem dX9_digestTellers_127 : decode cX9_digestTellers 127 = .ok (.lstore_n 3, 1) := by decide +kernel
theorem dX9_digestTellers_128 : decode cX9_digestTellers 128 = .ok (.iinc 7 1, 3) := by decide +kernel
theorem dX9_digestTellers_131 : decode cX9_digestTellers 131 = .ok (.goto (-39), 3) := by decide +kernel
theorem dX9_digestTellers_134 : decode cX9_digestTellers 134 = .ok (.iinc 6 1, 3) := by decide +kernel
theorem dX9_digestTellers_137 : decode cX9_digestTellers 137 = .ok (.goto (-123), 3) := by decide +kernel
theorem dX9_digestTellers_140 : decode cX9_digestTellers 140 = .ok (.lload_n 3, 1) := by decide +kernel
theorem dX9_digestTellers_141 : decode cX9_digestTellers 141 = .ok (.lreturn, 1) := by decide +kernel
theorem dX9_digestEvents_0 : decode cX9_digestEvents 0 = .ok (.lload_n 1, 1) := by decide +kernel
theorem dX9_digestEvents_1 : decode cX9_digestEvents 1 = .ok (.lstore_n 3, 1) := by decide +kernel
theorem dX9_digestEvents_2 : decode cX9_digestEvents 2 = .ok (.aload_n 0, 1) := by decide +kernel
theorem dX9_digestEvents_3 : decode cX9_digestEvents 3 = .ok (.getfield 39, 3) := by decide +kernel
theorem dX9_digestEvents_6 : decode cX9_digestEvents 6 = .ok (.aload_n 0, 1) := by decide +kernel
theorem dX9_digestEvents_7 : decode cX9_digestEvents 7 = .ok (.getfield 48, 3) := by decide +kernel
theorem dX9_digestEvents_10 : decode cX9_digestEvents 10 = .ok (.getfield 162, 3) := by decide +kernel
theorem dX9_digestEvents_13 : decode cX9_digestEvents 13 = .ok (.invokevirtual 207, 3) := by decide +kernel
theorem dX9_digestEvents_16 : decode cX9_digestEvents 16 = .ok (.istore 5, 2) := by decide +kernel
theorem dX9_digestEvents_18 : decode cX9_digestEvents 18 = .ok (.iconst 0, 1) := by decide +kernel
theorem dX9_digestEvents_19 : decode cX9_digestEvents 19 = .ok (.istore 6, 2) := by decide +kernel
theorem dX9_digestEvents_21 : decode cX9_digestEvents 21 = .ok (.iload 6, 2) := by decide +kernel
theorem dX9_digestEvents_23 : decode cX9_digestEvents 23 = .ok (.aload_n 0, 1) := by decide +kernel
theorem dX9_digestEvents_24 : decode cX9_digestEvents 24 = .ok (.getfield 35, 3) := by decide +kernel
theorem dX9_digestEvents_27 : decode cX9_digestEvents 27 = .ok (.getfield 98, 3) := by decide +kernel
theorem dX9_digestEvents_30 : decode cX9_digestEvents 30 = .ok (.if_icmp .ge 143, 3) := by decide +kernel
theorem dX9_digestEvents_33 : decode cX9_digestEvents 33 = .ok (.aload_n 0, 1) := by decide +kernel
theorem dX9_digestEvents_34 : decode cX9_digestEvents 34 = .ok (.getfield 39, 3) := by decide +kernel
theorem dX9_digestEvents_37 : decode cX9_digestEvents 37 = .ok (.iload 6, 2) := by decide +kernel
theorem dX9_digestEvents_39 : decode cX9_digestEvents 39 = .ok (.aload_n 0, 1) := by decide +kernel
theorem dX9_digestEvents_40 : decode cX9_digestEvents 40 = .ok (.getfield 48, 3) := by decide +kernel
theorem dX9_digestEvents_43 : decode cX9_digestEvents 43 = .ok (.getfield 162, 3) := by decide +kernel
theorem dX9_digestEvents_46 : decode cX9_digestEvents 46 = .ok (.invokevirtual 195, 3) := by decide +kernel
theorem dX9_digestEvents_49 : decode cX9_digestEvents 49 = .ok (.ifCond .le 7, 3) := by decide +kernel
theorem dX9_digestEvents_52 : decode cX9_digestEvents 52 = .ok (.iconst 1, 1) := by decide +kernel
theorem dX9_digestEvents_53 : decode cX9_digestEvents 53 = .ok (.goto 4, 3) := by decide +kernel
theorem dX9_digestEvents_56 : decode cX9_digestEvents 56 = .ok (.iconst 0, 1) := by decide +kernel
theorem dX9_digestEvents_57 : decode cX9_digestEvents 57 = .ok (.istore 7, 2) := by decide +kernel
theorem dX9_digestEvents_59 : decode cX9_digestEvents 59 = .ok (.lload_n 3, 1) := by decide +kernel
theorem dX9_digestEvents_60 : decode cX9_digestEvents 60 = .ok (.ldc2_w 257, 3) := by decide +kernel
theorem dX9_digestEvents_63 : decode cX9_digestEvents 63 = .ok (.lmul, 1) := by decide +kernel
theorem dX9_digestEvents_64 : decode cX9_digestEvents 64 = .ok (.iload 7, 2) := by decide +kernel
theorem dX9_digestEvents_66 : decode cX9_digestEvents 66 = .ok (.invokestatic 284, 3) := by decide +kernel
theorem dX9_digestEvents_69 : decode cX9_digestEvents 69 = .ok (.i2l, 1) := by decide +kernel
theorem dX9_digestEvents_70 : decode cX9_digestEvents 70 = .ok (.ladd, 1) := by decide +kernel
theorem dX9_digestEvents_71 : decode cX9_digestEvents 71 = .ok (.lstore_n 3, 1) := by decide +kernel
theorem dX9_digestEvents_72 : decode cX9_digestEvents 72 = .ok (.lload_n 3, 1) := by decide +kernel
theorem dX9_digestEvents_73 : decode cX9_digestEvents 73 = .ok (.ldc2_w 257, 3) := by decide +kernel
theorem dX9_digestEvents_76 : decode cX9_digestEvents 76 = .ok (.lmul, 1) := by decide +kernel
theorem dX9_digestEvents_77 : decode cX9_digestEvents 77 = .ok (.iload 7, 2) := by decide +kernel
theorem dX9_digestEvents_79 : decode cX9_digestEvents 79 = .ok (.ifCond .eq 22, 3) := by decide +kernel
theorem dX9_digestEvents_82 : decode cX9_digestEvents 82 = .ok (.aload_n 0, 1) := by decide +kernel
theorem dX9_digestEvents_83 : decode cX9_digestEvents 83 = .ok (.getfield 39, 3) := by decide +kernel
theorem dX9_digestEvents_86 : decode cX9_digestEvents 86 = .ok (.iload 6, 2) := by decide +kernel
theorem dX9_digestEvents_88 : decode cX9_digestEvents 88 = .ok (.aload_n 0, 1) := by decide +kernel
theorem dX9_digestEvents_89 : decode cX9_digestEvents 89 = .ok (.getfield 48, 3) := by decide +kernel
theorem dX9_digestEvents_92 : decode cX9_digestEvents 92 = .ok (.getfield 162, 3) := by decide +kernel
theorem dX9_digestEvents_95 : decode cX9_digestEvents 95 = .ok (.invokevirtual 201, 3) := by decide +kernel
theorem dX9_digestEvents_98 : decode cX9_digestEvents 98 = .ok (.goto 4, 3) := by decide +kernel
theorem dX9_digestEvents_101 : decode cX9_digestEvents 101 = .ok (.iconst (-1), 1) := by decide +kernel
theorem dX9_digestEvents_102 : decode cX9_digestEvents 102 = .ok (.i2l, 1) := by decide +kernel
theorem dX9_digestEvents_103 : decode cX9_digestEvents 103 = .ok (.ladd, 1) := by decide +kernel
theorem dX9_digestEvents_104 : decode cX9_digestEvents 104 = .ok (.lstore_n 3, 1) := by decide +kernel
theorem dX9_digestEvents_105 : decode cX9_digestEvents 105 = .ok (.lload_n 3, 1) := by decide +kernel
theorem dX9_digestEvents_106 : decode cX9_digestEvents 106 = .ok (.ldc2_w 257, 3) := by decide +kernel
theorem dX9_digestEvents_109 : decode cX9_digestEvents 109 = .ok (.lmul, 1) := by decide +kernel
theorem dX9_digestEvents_110 : decode cX9_digestEvents 110 = .ok (.iload 7, 2) := by decide +kernel
theorem dX9_digestEvents_112 : decode cX9_digestEvents 112 = .ok (.ifCond .eq 22, 3) := by decide +kernel
theorem dX9_digestEvents_115 : decode cX9_digestEvents 115 = .ok (.aload_n 0, 1) := by decide +kernel
theorem dX9_digestEvents_116 : decode cX9_digestEvents 116 = .ok (.getfield 39, 3) := by decide +kernel
theorem dX9_digestEvents_119 : decode cX9_digestEvents 119 = .ok (.iload 6, 2) := by decide +kernel
theorem dX9_digestEvents_121 : decode cX9_digestEvents 121 = .ok (.aload_n 0, 1) := by decide +kernel
theorem dX9_digestEvents_122 : decode cX9_digestEvents 122 = .ok (.getfield 48, 3) := by decide +kernel
theorem dX9_digestEvents_125 : decode cX9_digestEvents 125 = .ok (.getfield 162, 3) := by decide +kernel
theorem dX9_digestEvents_128 : decode cX9_digestEvents 128 = .ok (.invokevirtual 204, 3) := by decide +kernel
theorem dX9_digestEvents_131 : decode cX9_digestEvents 131 = .ok (.goto 4, 3) := by decide +kernel
theorem dX9_digestEvents_134 : decode cX9_digestEvents 134 = .ok (.iconst (-1), 1) := by decide +kernel
theorem dX9_digestEvents_135 : decode cX9_digestEvents 135 = .ok (.i2l, 1) := by decide +kernel
theorem dX9_digestEvents_136 : decode cX9_digestEvents 136 = .ok (.ladd, 1) := by decide +kernel
theorem dX9_digestEvents_137 : decode cX9_digestEvents 137 = .ok (.lstore_n 3, 1) := by decide +kernel
theorem dX9_digestEvents_138 : decode cX9_digestEvents 138 = .ok (.lload_n 3, 1) := by decide +kernel
theorem dX9_digestEvents_139 : decode cX9_digestEvents 139 = .ok (.ldc2_w 257, 3) := by decide +kernel
theorem dX9_digestEvents_142 : decode cX9_digestEvents 142 = .ok (.lmul, 1) := by decide +kernel
theorem dX9_digestEvents_143 : decode cX9_digestEvents 143 = .ok (.iload 5, 2) := by decide +kernel
theorem dX9_digestEvents_145 : decode cX9_digestEvents 145 = .ok (.ifCond .eq 18, 3) := by decide +kernel
theorem dX9_digestEvents_148 : decode cX9_digestEvents 148 = .ok (.aload_n 0, 1) := by decide +kernel
theorem dX9_digestEvents_149 : decode cX9_digestEvents 149 = .ok (.getfield 39, 3) := by decide +kernel
theorem dX9_digestEvents_152 : decode cX9_digestEvents 152 = .ok (.getfield 215, 3) := by decide +kernel
theorem dX9_digestEvents_155 : decode cX9_digestEvents 155 = .ok (.iload 6, 2) := by decide +kernel
theorem dX9_digestEvents_157 : decode cX9_digestEvents 157 = .ok (.invokevirtual 125, 3) := by decide +kernel
theorem dX9_digestEvents_160 : decode cX9_digestEvents 160 = .ok (.goto 4, 3) := by decide +kernel
theorem dX9_digestEvents_163 : decode cX9_digestEvents 163 = .ok (.iconst (-1), 1) := by decide +kernel
theorem dX9_digestEvents_164 : decode cX9_digestEvents 164 = .ok (.i2l, 1) := by decide +kernel
theorem dX9_digestEvents_165 : decode cX9_digestEvents 165 = .ok (.ladd, 1) := by decide +kernel
theorem dX9_digestEvents_166 : decode cX9_digestEvents 166 = .ok (.lstore_n 3, 1) := by decide +kernel
theorem dX9_digestEvents_167 : decode cX9_digestEvents 167 = .ok (.iinc 6 1, 3) := by decide +kernel
theorem dX9_digestEvents_170 : decode cX9_digestEvents 170 = .ok (.goto (-149), 3) := by decide +kernel
theorem dX9_digestEvents_173 : decode cX9_digestEvents 173 = .ok (.lload_n 3, 1) := by decide +kernel
theorem dX9_digestEvents_174 : decode cX9_digestEvents 174 = .ok (.lreturn, 1) := by decide +kernel
theorem dX9_needEvenings_0 : decode cX9_needEvenings 0 = .ok (.iload_n 1, 1) := by decide +kernel
theorem dX9_needEvenings_1 : decode cX9_needEvenings 1 = .ok (.iconst 1, 1) := by decide +kernel
theorem dX9_needEvenings_2 : decode cX9_needEvenings 2 = .ok (.if_icmp .lt 9, 3) := by decide +kernel
theorem dX9_needEvenings_5 : decode cX9_needEvenings 5 = .ok (.iload_n 1, 1) := by decide +kernel
theorem dX9_needEvenings_6 : decode cX9_needEvenings 6 = .ok (.bipush 30, 2) := by decide +kernel
theorem dX9_needEvenings_8 : decode cX9_needEvenings 8 = .ok (.if_icmp .le 14, 3) := by decide +kernel
theorem dX9_needEvenings_11 : decode cX9_needEvenings 11 = .ok (.new 76, 3) := by decide +kernel
theorem dX9_needEvenings_14 : decode cX9_needEvenings 14 = .ok (.dup, 1) := by decide +kernel
theorem dX9_needEvenings_15 : decode cX9_needEvenings 15 = .ok (.ldc_w 298, 3) := by decide +kernel
theorem dX9_needEvenings_18 : decode cX9_needEvenings 18 = .ok (.invokespecial 80, 3) := by decide +kernel
theorem dX9_needEvenings_21 : decode cX9_needEvenings 21 = .ok (.athrow, 1) := by decide +kernel
theorem dX9_needEvenings_22 : decode cX9_needEvenings 22 = .ok (.return_, 1) := by decide +kernel
theorem dX9_has_0 : decode cX9_has 0 = .ok (.iload_n 0, 1) := by decide +kernel
theorem dX9_has_1 : decode cX9_has 1 = .ok (.iload_n 1, 1) := by decide +kernel
theorem dX9_has_2 : decode cX9_has 2 = .ok (.ishr, 1) := by decide +kernel
theorem dX9_has_3 : decode cX9_has 3 = .ok (.iconst 1, 1) := by decide +kernel
theorem dX9_has_4 : decode cX9_has 4 = .ok (.iand, 1) := by decide +kernel
theorem dX9_has_5 : decode cX9_has 5 = .ok (.ifCond .eq 7, 3) := by decide +kernel
theorem dX9_has_8 : decode cX9_has 8 = .ok (.iconst 1, 1) := by decide +kernel
theorem dX9_has_9 : decode cX9_has 9 = .ok (.goto 4, 3) := by decide +kernel
theorem dX9_has_12 : decode cX9_has 12 = .ok (.iconst 0, 1) := by decide +kernel
theorem dX9_has_13 : decode cX9_has 13 = .ok (.ireturn, 1) := by decide +kernel
theorem dX9_one_0 : decode cX9_one 0 = .ok (.iload_n 0, 1) := by decide +kernel
theorem dX9_one_1 : decode cX9_one 1 = .ok (.ifCond .eq 7, 3) := by decide +kernel
theorem dX9_one_4 : decode cX9_one 4 = .ok (.iconst 1, 1) := by decide +kernel
theorem dX9_one_5 : decode cX9_one 5 = .ok (.goto 4, 3) := by decide +kernel
theorem dX9_one_8 : decode cX9_one 8 = .ok (.iconst 0, 1) := by decide +kernel
theorem dX9_one_9 : decode cX9_one 9 = .ok (.ireturn, 1) := by decide +kernel
theorem dX10_init_0 : decode cX10_init 0 = .ok (.aload_n 0, 1) := by decide +kernel
theorem dX10_init_1 : decode cX10_init 1 = .ok (.invokespecial 3, 3) := by decide +kernel
theorem dX10_init_4 : decode cX10_init 4 = .ok (.aload_n 0, 1) := by decide +kernel
theorem dX10_init_5 : decode cX10_init 5 = .ok (.bipush 8, 2) := by decide +kernel
theorem dX10_init_7 : decode cX10_init 7 = .ok (.newarray .long, 2) := by decide +kernel
theorem dX10_init_9 : decode cX10_init 9 = .ok (.putfield 9, 3) := by decide +kernel
theorem dX10_init_12 : decode cX10_init 12 = .ok (.aload_n 0, 1) := by decide +kernel
theorem dX10_init_13 : decode cX10_init 13 = .ok (.bipush 10, 2) := by decide +kernel
theorem dX10_init_15 : decode cX10_init 15 = .ok (.newarray .long, 2) := by decide +kernel
theorem dX10_init_17 : decode cX10_init 17 = .ok (.putfield 15, 3) := by decide +kernel
theorem dX10_init_20 : decode cX10_init 20 = .ok (.aload_n 0, 1) := by decide +kernel
theorem dX10_init_21 : decode cX10_init 21 = .ok (.bipush 40, 2) := by decide +kernel
theorem dX10_init_23 : decode cX10_init 23 = .ok (.newarray .int, 2) := by decide +kernel
theorem dX10_init_25 : decode cX10_init 25 = .ok (.putfield 18, 3) := by decide +kernel
theorem dX10_init_28 : decode cX10_init 28 = .ok (.aload_n 0, 1) := by decide +kernel
theorem dX10_init_29 : decode cX10_init 29 = .ok (.bipush 40, 2) := by decide +kernel
theorem dX10_init_31 : decode cX10_init 31 = .ok (.newarray .int, 2) := by decide +kernel
theorem dX10_init_33 : decode cX10_init 33 = .ok (.putfield 22, 3) := by decide +kernel
theorem dX10_init_36 : decode cX10_init 36 = .ok (.aload_n 0, 1) := by decide +kernel
theorem dX10_init_37 : decode cX10_init 37 = .ok (.bipush 40, 2) := by decide +kernel
theorem dX10_init_39 : decode cX10_init 39 = .ok (.newarray .int, 2) := by decide +kernel
theorem dX10_init_41 : decode cX10_init 41 = .ok (.putfield 25, 3) := by decide +kernel
theorem dX10_init_44 : decode cX10_init 44 = .ok (.aload_n 0, 1) := by decide +kernel
theorem dX10_init_45 : decode cX10_init 45 = .ok (.bipush 40, 2) := by decide +kernel
theorem dX10_init_47 : decode cX10_init 47 = .ok (.newarray .int, 2) := by decide +kernel
theorem dX10_init_49 : decode cX10_init 49 = .ok (.putfield 28, 3) := by decide +kernel
theorem dX10_init_52 : decode cX10_init 52 = .ok (.aload_n 0, 1) := by decide +kernel
theorem dX10_init_53 : decode cX10_init 53 = .ok (.bipush 40, 2) := by decide +kernel
theorem dX10_init_55 : decode cX10_init 55 = .ok (.newarray .int, 2) := by decide +kernel
theorem dX10_init_57 : decode cX10_init 57 = .ok (.putfield 31, 3) := by decide +kernel
theorem dX10_init_60 : decode cX10_init 60 = .ok (.aload_n 0, 1) := by decide +kernel
theorem dX10_init_61 : decode cX10_init 61 = .ok (.bipush 16, 2) := by decide +kernel
theorem dX10_init_63 : decode cX10_init 63 = .ok (.newarray .int, 2) := by decide +kernel
theorem dX10_init_65 : decode cX10_init 65 = .ok (.putfield 34, 3) := by decide +kernel
theorem dX10_init_68 : decode cX10_init 68 = .ok (.aload_n 0, 1) := by decide +kernel
theorem dX10_init_69 : decode cX10_init 69 = .ok (.bipush 16, 2) := by decide +kernel
theorem dX10_init_71 : decode cX10_init 71 = .ok (.newarray .int, 2) := by decide +kernel
theorem dX10_init_73 : decode cX10_init 73 = .ok (.putfield 37, 3) := by decide +kernel
theorem dX10_init_76 : decode cX10_init 76 = .ok (.aload_n 0, 1) := by decide +kernel
theorem dX10_init_77 : decode cX10_init 77 = .ok (.bipush 16, 2) := by decide +kernel
theorem dX10_init_79 : decode cX10_init 79 = .ok (.newarray .int, 2) := by decide +kernel
theorem dX10_init_81 : decode cX10_init 81 = .ok (.putfield 40, 3) := by decide +kernel
theorem dX10_init_84 : decode cX10_init 84 = .ok (.aload_n 0, 1) := by decide +kernel
theorem dX10_init_85 : decode cX10_init 85 = .ok (.bipush 16, 2) := by decide +kernel
theorem dX10_init_87 : decode cX10_init 87 = .ok (.newarray .int, 2) := by decide +kernel
theorem dX10_init_89 : decode cX10_init 89 = .ok (.putfield 43, 3) := by decide +kernel
theorem dX10_init_92 : decode cX10_init 92 = .ok (.aload_n 0, 1) := by decide +kernel
theorem dX10_init_93 : decode cX10_init 93 = .ok (.sipush 800, 3) := by decide +kernel
theorem dX10_init_96 : decode cX10_init 96 = .ok (.newarray .int, 2) := by decide +kernel
theorem dX10_init_98 : decode cX10_init 98 = .ok (.putfield 46, 3) := by decide +kernel
theorem dX10_init_101 : decode cX10_init 101 = .ok (.aload_n 0, 1) := by decide +kernel
theorem dX10_init_102 : decode cX10_init 102 = .ok (.sipush 800, 3) := by decide +kernel
theorem dX10_init_105 : decode cX10_init 105 = .ok (.newarray .int, 2) := by decide +kernel
theorem dX10_init_107 : decode cX10_init 107 = .ok (.putfield 49, 3) := by decide +kernel
theorem dX10_init_110 : decode cX10_init 110 = .ok (.aload_n 0, 1) := by decide +kernel
theorem dX10_init_111 : decode cX10_init 111 = .ok (.sipush 800, 3) := by decide +kernel
theorem dX10_init_114 : decode cX10_init 114 = .ok (.newarray .int, 2) := by decide +kernel
theorem dX10_init_116 : decode cX10_init 116 = .ok (.putfield 52, 3) := by decide +kernel
theorem dX10_init_119 : decode cX10_init 119 = .ok (.return_, 1) := by decide +kernel
theorem dX11_init_0 : decode cX11_init 0 = .ok (.aload_n 0, 1) := by decide +kernel
theorem dX11_init_1 : decode cX11_init 1 = .ok (.invokespecial 1, 3) := by decide +kernel
theorem dX11_init_4 : decode cX11_init 4 = .ok (.aload_n 0, 1) := by decide +kernel
theorem dX11_init_5 : decode cX11_init 5 = .ok (.sipush 2000, 3) := by decide +kernel
theorem dX11_init_8 : decode cX11_init 8 = .ok (.newarray .int, 2) := by decide +kernel
theorem dX11_init_10 : decode cX11_init 10 = .ok (.putfield 9, 3) := by decide +kernel
theorem dX11_init_13 : decode cX11_init 13 = .ok (.aload_n 0, 1) := by decide +kernel
theorem dX11_init_14 : decode cX11_init 14 = .ok (.iconst (-1), 1) := by decide +kernel
theorem dX11_init_15 : decode cX11_init 15 = .ok (.putfield 13, 3) := by decide +kernel
theorem dX11_init_18 : decode cX11_init 18 = .ok (.aload_n 0, 1) := by decide +kernel
theorem dX11_init_19 : decode cX11_init 19 = .ok (.new 17, 3) := by decide +kernel
theorem dX11_init_22 : decode cX11_init 22 = .ok (.dup, 1) := by decide +kernel
theorem dX11_init_23 : decode cX11_init 23 = .ok (.invokespecial 19, 3) := by decide +kernel
theorem dX11_init_26 : decode cX11_init 26 = .ok (.putfield 20, 3) := by decide +kernel
theorem dX11_init_29 : decode cX11_init 29 = .ok (.aload_n 0, 1) := by decide +kernel
theorem dX11_init_30 : decode cX11_init 30 = .ok (.sipush 401, 3) := by decide +kernel
theorem dX11_init_33 : decode cX11_init 33 = .ok (.newarray .int, 2) := by decide +kernel
theorem dX11_init_35 : decode cX11_init 35 = .ok (.putfield 24, 3) := by decide +kernel
theorem dX11_init_38 : decode cX11_init 38 = .ok (.aload_n 0, 1) := by decide +kernel
theorem dX11_init_39 : decode cX11_init 39 = .ok (.sipush 401, 3) := by decide +kernel
theorem dX11_init_42 : decode cX11_init 42 = .ok (.newarray .int, 2) := by decide +kernel
theorem dX11_init_44 : decode cX11_init 44 = .ok (.putfield 27, 3) := by decide +kernel
theorem dX11_init_47 : decode cX11_init 47 = .ok (.aload_n 0, 1) := by decide +kernel
theorem dX11_init_48 : decode cX11_init 48 = .ok (.sipush 401, 3) := by decide +kernel
theorem dX11_init_51 : decode cX11_init 51 = .ok (.newarray .int, 2) := by decide +kernel
theorem dX11_init_53 : decode cX11_init 53 = .ok (.putfield 30, 3) := by decide +kernel
theorem dX11_init_56 : decode cX11_init 56 = .ok (.aload_n 0, 1) := by decide +kernel
theorem dX11_init_57 : decode cX11_init 57 = .ok (.sipush 401, 3) := by decide +kernel
theorem dX11_init_60 : decode cX11_init 60 = .ok (.newarray .long, 2) := by decide +kernel
theorem dX11_init_62 : decode cX11_init 62 = .ok (.putfield 33, 3) := by decide +kernel
theorem dX11_init_65 : decode cX11_init 65 = .ok (.aload_n 0, 1) := by decide +kernel
theorem dX11_init_66 : decode cX11_init 66 = .ok (.sipush 401, 3) := by decide +kernel
theorem dX11_init_69 : decode cX11_init 69 = .ok (.newarray .int, 2) := by decide +kernel
theorem dX11_init_71 : decode cX11_init 71 = .ok (.putfield 37, 3) := by decide +kernel
theorem dX11_init_74 : decode cX11_init 74 = .ok (.aload_n 0, 1) := by decide +kernel
theorem dX11_init_75 : decode cX11_init 75 = .ok (.bipush 10, 2) := by decide +kernel
theorem dX11_init_77 : decode cX11_init 77 = .ok (.newarray .int, 2) := by decide +kernel
theorem dX11_init_79 : decode cX11_init 79 = .ok (.putfield 40, 3) := by decide +kernel
theorem dX11_init_82 : decode cX11_init 82 = .ok (.aload_n 0, 1) := by decide +kernel
theorem dX11_init_83 : decode cX11_init 83 = .ok (.iconst (-1), 1) := by decide +kernel
theorem dX11_init_84 : decode cX11_init 84 = .ok (.putfield 43, 3) := by decide +kernel
theorem dX11_init_87 : decode cX11_init 87 = .ok (.aload_n 0, 1) := by decide +kernel
theorem dX11_init_88 : decode cX11_init 88 = .ok (.bipush 8, 2) := by decide +kernel
theorem dX11_init_90 : decode cX11_init 90 = .ok (.newarray .int, 2) := by decide +kernel
theorem dX11_init_92 : decode cX11_init 92 = .ok (.putfield 46, 3) := by decide +kernel
theorem dX11_init_95 : decode cX11_init 95 = .ok (.aload_n 0, 1) := by decide +kernel
theorem dX11_init_96 : decode cX11_init 96 = .ok (.sipush 800, 3) := by decide +kernel
theorem dX11_init_99 : decode cX11_init 99 = .ok (.newarray .int, 2) := by decide +kernel
theorem dX11_init_101 : decode cX11_init 101 = .ok (.putfield 49, 3) := by decide +kernel
theorem dX11_init_104 : decode cX11_init 104 = .ok (.return_, 1) := by decide +kernel
theorem dX11_thrown_0 : decode cX11_thrown 0 = .ok (.aload_n 0, 1) := by decide +kernel
theorem dX11_thrown_1 : decode cX11_thrown 1 = .ok (.getfield 52, 3) := by decide +kernel
theorem dX11_thrown_4 : decode cX11_thrown 4 = .ok (.ireturn, 1) := by decide +kernel
theorem dX11_no_0 : decode cX11_no 0 = .ok (.aload_n 0, 1) := by decide +kernel
theorem dX11_no_1 : decode cX11_no 1 = .ok (.iload_n 1, 1) := by decide +kernel
theorem dX11_no_2 : decode cX11_no 2 = .ok (.putfield 52, 3) := by decide +kernel
theorem dX11_no_5 : decode cX11_no 5 = .ok (.iconst 0, 1) := by decide +kernel
theorem dX11_no_6 : decode cX11_no 6 = .ok (.ireturn, 1) := by decide +kernel
theorem dX11_isNot_0 : decode cX11_isNot 0 = .ok (.aload_n 0, 1) := by decide +kernel
theorem dX11_isNot_1 : decode cX11_isNot 1 = .ok (.iload_n 1, 1) := by decide +kernel
theorem dX11_isNot_2 : decode cX11_isNot 2 = .ok (.putfield 52, 3) := by decide +kernel
theorem dX11_isNot_5 : decode cX11_isNot 5 = .ok (.iconst 0, 1) := by decide +kernel
theorem dX11_isNot_6 : decode cX11_isNot 6 = .ok (.ireturn, 1) := by decide +kernel
theorem dX11_ok_0 : decode cX11_ok 0 = .ok (.aload_n 0, 1) := by decide +kernel
theorem dX11_ok_1 : decode cX11_ok 1 = .ok (.iconst 0, 1) := by decide +kernel
theorem dX11_ok_2 : decode cX11_ok 2 = .ok (.putfield 52, 3) := by decide +kernel
theorem dX11_ok_5 : decode cX11_ok 5 = .ok (.iload_n 1, 1) := by decide +kernel
theorem dX11_ok_6 : decode cX11_ok 6 = .ok (.ireturn, 1) := by decide +kernel
theorem dX11_isIn_0 : decode cX11_isIn 0 = .ok (.iload_n 0, 1) := by decide +kernel
theorem dX11_isIn_1 : decode cX11_isIn 1 = .ok (.iload_n 1, 1) := by decide +kernel
theorem dX11_isIn_2 : decode cX11_isIn 2 = .ok (.if_icmp .lt 12, 3) := by decide +kernel
theorem dX11_isIn_5 : decode cX11_isIn 5 = .ok (.iload_n 0, 1) := by decide +kernel
theorem dX11_isIn_6 : decode cX11_isIn 6 = .ok (.iload_n 2, 1) := by decide +kernel
theorem dX11_isIn_7 : decode cX11_isIn 7 = .ok (.if_icmp .gt 7, 3) := by decide +kernel
theorem dX11_isIn_10 : decode cX11_isIn 10 = .ok (.iconst 1, 1) := by decide +kernel
theorem dX11_isIn_11 : decode cX11_isIn 11 = .ok (.goto 4, 3) := by decide +kernel
theorem dX11_isIn_14 : decode cX11_isIn 14 = .ok (.iconst 0, 1) := by decide +kernel
theorem dX11_isIn_15 : decode cX11_isIn 15 = .ok (.ireturn, 1) := by decide +kernel
theorem dX11_has_0 : decode cX11_has 0 = .ok (.iload_n 0, 1) := by decide +kernel
theorem dX11_has_1 : decode cX11_has 1 = .ok (.iload_n 1, 1) := by decide +kernel
theorem dX11_has_2 : decode cX11_has 2 = .ok (.ishr, 1) := by decide +kernel
theorem dX11_has_3 : decode cX11_has 3 = .ok (.iconst 1, 1) := by decide +kernel
theorem dX11_has_4 : decode cX11_has 4 = .ok (.iand, 1) := by decide +kernel
theorem dX11_has_5 : decode cX11_has 5 = .ok (.iconst 1, 1) := by decide +kernel
theorem dX11_has_6 : decode cX11_has 6 = .ok (.if_icmp .ne 7, 3) := by decide +kernel
theorem dX11_has_9 : decode cX11_has 9 = .ok (.iconst 1, 1) := by decide +kernel
theorem dX11_has_10 : decode cX11_has 10 = .ok (.goto 4, 3) := by decide +kernel
theorem dX11_has_13 : decode cX11_has 13 = .ok (.iconst 0, 1) := by decide +kernel
theorem dX11_has_14 : decode cX11_has 14 = .ok (.ireturn, 1) := by decide +kernel
theorem dX11_isEvent_0 : decode cX11_isEvent 0 = .ok (.iload_n 1, 1) := by decide +kernel
theorem dX11_isEvent_1 : decode cX11_isEvent 1 = .ok (.iconst 0, 1) := by decide +kernel
theorem dX11_isEvent_2 : decode cX11_isEvent 2 = .ok (.aload_n 0, 1) := by decide +kernel
theorem dX11_isEvent_3 : decode cX11_isEvent 3 = .ok (.getfield 20, 3) := by decide +kernel
theorem dX11_isEvent_6 : decode cX11_isEvent 6 = .ok (.getfield 55, 3) := by decide +kernel
theorem dX11_isEvent_9 : decode cX11_isEvent 9 = .ok (.iconst 1, 1) := by decide +kernel
theorem dX11_isEvent_10 : decode cX11_isEvent 10 = .ok (.isub, 1) := by decide +kernel
theorem dX11_isEvent_11 : decode cX11_isEvent 11 = .ok (.invokestatic 58, 3) := by decide +kernel
theorem dX11_isEvent_14 : decode cX11_isEvent 14 = .ok (.ireturn, 1) := by decide +kernel
theorem dX11_isTeller_0 : decode cX11_isTeller 0 = .ok (.iload_n 1, 1) := by decide +kernel
theorem dX11_isTeller_1 : decode cX11_isTeller 1 = .ok (.iconst 0, 1) := by decide +kernel
theorem dX11_isTeller_2 : decode cX11_isTeller 2 = .ok (.aload_n 0, 1) := by decide +kernel
theorem dX11_isTeller_3 : decode cX11_isTeller 3 = .ok (.getfield 20, 3) := by decide +kernel
theorem dX11_isTeller_6 : decode cX11_isTeller 6 = .ok (.getfield 62, 3) := by decide +kernel
theorem dX11_isTeller_9 : decode cX11_isTeller 9 = .ok (.iconst 1, 1) := by decide +kernel
theorem dX11_isTeller_10 : decode cX11_isTeller 10 = .ok (.isub, 1) := by decide +kernel
theorem dX11_isTeller_11 : decode cX11_isTeller 11 = .ok (.invokestatic 58, 3) := by decide +kernel
theorem dX11_isTeller_14 : decode cX11_isTeller 14 = .ok (.ireturn, 1) := by decide +kernel
theorem dX11_isClaim_0 : decode cX11_isClaim 0 = .ok (.iload_n 1, 1) := by decide +kernel
theorem dX11_isClaim_1 : decode cX11_isClaim 1 = .ok (.iconst 0, 1) := by decide +kernel
theorem dX11_isClaim_2 : decode cX11_isClaim 2 = .ok (.aload_n 0, 1) := by decide +kernel
theorem dX11_isClaim_3 : decode cX11_isClaim 3 = .ok (.getfield 20, 3) := by decide +kernel
theorem dX11_isClaim_6 : decode cX11_isClaim 6 = .ok (.getfield 65, 3) := by decide +kernel
theorem dX11_isClaim_9 : decode cX11_isClaim 9 = .ok (.iconst 1, 1) := by decide +kernel
theorem dX11_isClaim_10 : decode cX11_isClaim 10 = .ok (.isub, 1) := by decide +kernel
theorem dX11_isClaim_11 : decode cX11_isClaim 11 = .ok (.invokestatic 58, 3) := by decide +kernel
theorem dX11_isClaim_14 : decode cX11_isClaim 14 = .ok (.ireturn, 1) := by decide +kernel
theorem dX11_contrary_0 : decode cX11_contrary 0 = .ok (.aload_n 0, 1) := by decide +kernel
theorem dX11_contrary_1 : decode cX11_contrary 1 = .ok (.getfield 20, 3) := by decide +kernel
theorem dX11_contrary_4 : decode cX11_contrary 4 = .ok (.getfield 68, 3) := by decide +kernel
theorem dX11_contrary_7 : decode cX11_contrary 7 = .ok (.iload_n 1, 1) := by decide +kernel
theorem dX11_contrary_8 : decode cX11_contrary 8 = .ok (.iaload, 1) := by decide +kernel
theorem dX11_contrary_9 : decode cX11_contrary 9 = .ok (.aload_n 0, 1) := by decide +kernel
theorem dX11_contrary_10 : decode cX11_contrary 10 = .ok (.getfield 20, 3) := by decide +kernel
theorem dX11_contrary_13 : decode cX11_contrary 13 = .ok (.getfield 68, 3) := by decide +kernel
theorem dX11_contrary_16 : decode cX11_contrary 16 = .ok (.iload_n 2, 1) := by decide +kernel
theorem dX11_contrary_17 : decode cX11_contrary 17 = .ok (.iaload, 1) := by decide +kernel
theorem dX11_contrary_18 : decode cX11_contrary 18 = .ok (.if_icmp .le 10, 3) := by decide +kernel
theorem dX11_contrary_21 : decode cX11_contrary 21 = .ok (.aload_n 0, 1) := by decide +kernel
theorem dX11_contrary_22 : decode cX11_contrary 22 = .ok (.iload_n 2, 1) := by decide +kernel
theorem dX11_contrary_23 : decode cX11_contrary 23 = .ok (.iload_n 1, 1) := by decide +kernel
theorem dX11_contrary_24 : decode cX11_contrary 24 = .ok (.invokevirtual 69, 3) := by decide +kernel
theorem dX11_contrary_27 : decode cX11_contrary 27 = .ok (.ireturn, 1) := by decide +kernel
theorem dX11_contrary_28 : decode cX11_contrary 28 = .ok (.aload_n 0, 1) := by decide +kernel
theorem dX11_contrary_29 : decode cX11_contrary 29 = .ok (.getfield 20, 3) := by decide +kernel
theorem dX11_contrary_32 : decode cX11_contrary 32 = .ok (.getfield 73, 3) := by decide +kernel
theorem dX11_contrary_35 : decode cX11_contrary 35 = .ok (.iload_n 1, 1) := by decide +kernel
theorem dX11_contrary_36 : decode cX11_contrary 36 = .ok (.iaload, 1) := by decide +kernel
theorem dX11_contrary_37 : decode cX11_contrary 37 = .ok (.aload_n 0, 1) := by decide +kernel
theorem dX11_contrary_38 : decode cX11_contrary 38 = .ok (.getfield 20, 3) := by decide +kernel
theorem dX11_contrary_41 : decode cX11_contrary 41 = .ok (.getfield 73, 3) := by decide +kernel
theorem dX11_contrary_44 : decode cX11_contrary 44 = .ok (.iload_n 2, 1) := by decide +kernel
theorem dX11_contrary_45 : decode cX11_contrary 45 = .ok (.iaload, 1) := by decide +kernel
theorem dX11_contrary_46 : decode cX11_contrary 46 = .ok (.if_icmp .ne 7, 3) := by decide +kernel
theorem dX11_contrary_49 : decode cX11_contrary 49 = .ok (.iconst 1, 1) := by decide +kernel
theorem dX11_contrary_50 : decode cX11_contrary 50 = .ok (.goto 4, 3) := by decide +kernel
theorem dX11_contrary_53 : decode cX11_contrary 53 = .ok (.iconst 0, 1) := by decide +kernel
theorem dX11_contrary_54 : decode cX11_contrary 54 = .ok (.istore_n 3, 1) := by decide +kernel
theorem dX11_contrary_55 : decode cX11_contrary 55 = .ok (.aload_n 0, 1) := by decide +kernel
theorem dX11_contrary_56 : decode cX11_contrary 56 = .ok (.getfield 20, 3) := by decide +kernel
theorem dX11_contrary_59 : decode cX11_contrary 59 = .ok (.getfield 68, 3) := by decide +kernel
theorem dX11_contrary_62 : decode cX11_contrary 62 = .ok (.iload_n 2, 1) := by decide +kernel
theorem dX11_contrary_63 : decode cX11_contrary 63 = .ok (.iaload, 1) := by decide +kernel
theorem dX11_contrary_64 : decode cX11_contrary 64 = .ok (.ifCond .ne 55, 3) := by decide +kernel
theorem dX11_contrary_67 : decode cX11_contrary 67 = .ok (.iload_n 3, 1) := by decide +kernel
theorem dX11_contrary_68 : decode cX11_contrary 68 = .ok (.ifCond .eq 49, 3) := by decide +kernel
theorem dX11_contrary_71 : decode cX11_contrary 71 = .ok (.aload_n 0, 1) := by decide +kernel
theorem dX11_contrary_72 : decode cX11_contrary 72 = .ok (.getfield 20, 3) := by decide +kernel
theorem dX11_contrary_75 : decode cX11_contrary 75 = .ok (.getfield 76, 3) := by decide +kernel
theorem dX11_contrary_78 : decode cX11_contrary 78 = .ok (.iload_n 1, 1) := by decide +kernel
theorem dX11_contrary_79 : decode cX11_contrary 79 = .ok (.iaload, 1) := by decide +kernel
theorem dX11_contrary_80 : decode cX11_contrary 80 = .ok (.aload_n 0, 1) := by decide +kernel
theorem dX11_contrary_81 : decode cX11_contrary 81 = .ok (.getfield 20, 3) := by decide +kernel
theorem dX11_contrary_84 : decode cX11_contrary 84 = .ok (.getfield 79, 3) := by decide +kernel
theorem dX11_contrary_87 : decode cX11_contrary 87 = .ok (.iload_n 2, 1) := by decide +kernel
theorem dX11_contrary_88 : decode cX11_contrary 88 = .ok (.iaload, 1) := by decide +kernel
theorem dX11_contrary_89 : decode cX11_contrary 89 = .ok (.if_icmp .lt 24, 3) := by decide +kernel
theorem dX11_contrary_92 : decode cX11_contrary 92 = .ok (.aload_n 0, 1) := by decide +kernel
theorem dX11_contrary_93 : decode cX11_contrary 93 = .ok (.getfield 20, 3) := by decide +kernel
theorem dX11_contrary_96 : decode cX11_contrary 96 = .ok (.getfield 76, 3) := by decide +kernel
theorem dX11_contrary_99 : decode cX11_contrary 99 = .ok (.iload_n 2, 1) := by decide +kernel
theorem dX11_contrary_100 : decode cX11_contrary 100 = .ok (.iaload, 1) := by decide +kernel
theorem dX11_contrary_101 : decode cX11_contrary 101 = .ok (.aload_n 0, 1) := by decide +kernel
theorem dX11_contrary_102 : decode cX11_contrary 102 = .ok (.getfield 20, 3) := by decide +kernel
theorem dX11_contrary_105 : decode cX11_contrary 105 = .ok (.getfield 79, 3) := by decide +kernel
theorem dX11_contrary_108 : decode cX11_contrary 108 = .ok (.iload_n 1, 1) := by decide +kernel
theorem dX11_contrary_109 : decode cX11_contrary 109 = .ok (.iaload, 1) := by decide +kernel
theorem dX11_contrary_110 : decode cX11_contrary 110 = .ok (.if_icmp .ge 7, 3) := by decide +kernel
theorem dX11_contrary_113 : decode cX11_contrary 113 = .ok (.iconst 1, 1) := by decide +kernel
theorem dX11_contrary_114 : decode cX11_contrary 114 = .ok (.goto 4, 3) := by decide +kernel
theorem dX11_contrary_117 : decode cX11_contrary 117 = .ok (.iconst 0, 1) := by decide +kernel
theorem dX11_contrary_118 : decode cX11_contrary 118 = .ok (.ireturn, 1) := by decide +kernel
theorem dX11_contrary_119 : decode cX11_contrary 119 = .ok (.aload_n 0, 1) := by decide +kernel
theorem dX11_contrary_120 : decode cX11_contrary 120 = .ok (.getfield 20, 3) := by decide +kernel
theorem dX11_contrary_123 : decode cX11_contrary 123 = .ok (.getfield 68, 3) := by decide +kernel
theorem dX11_contrary_126 : decode cX11_contrary 126 = .ok (.iload_n 1, 1) := by decide +kernel
theorem dX11_contrary_127 : decode cX11_contrary 127 = .ok (.iaload, 1) := by decide +kernel
theorem dX11_contrary_128 : decode cX11_contrary 128 = .ok (.iconst 1, 1) := by decide +kernel
theorem dX11_contrary_129 : decode cX11_contrary 129 = .ok (.if_icmp .eq 5, 3) := by decide +kernel
theorem dX11_contrary_132 : decode cX11_contrary 132 = .ok (.iconst 0, 1) := by decide +kernel
theorem dX11_contrary_133 : decode cX11_contrary 133 = .ok (.ireturn, 1) := by decide +kernel
theorem dX11_contrary_134 : decode cX11_contrary 134 = .ok (.aload_n 0, 1) := by decide +kernel
theorem dX11_contrary_135 : decode cX11_contrary 135 = .ok (.getfield 20, 3) := by decide +kernel
theorem dX11_contrary_138 : decode cX11_contrary 138 = .ok (.getfield 73, 3) := by decide +kernel
theorem dX11_contrary_141 : decode cX11_contrary 141 = .ok (.iload_n 1, 1) := by decide +kernel
theorem dX11_contrary_142 : decode cX11_contrary 142 = .ok (.iaload, 1) := by decide +kernel
theorem dX11_contrary_143 : decode cX11_contrary 143 = .ok (.aload_n 0, 1) := by decide +kernel
theorem dX11_contrary_144 : decode cX11_contrary 144 = .ok (.getfield 20, 3) := by decide +kernel
theorem dX11_contrary_147 : decode cX11_contrary 147 = .ok (.getfield 79, 3) := by decide +kernel
theorem dX11_contrary_150 : decode cX11_contrary 150 = .ok (.iload_n 2, 1) := by decide +kernel
theorem dX11_contrary_151 : decode cX11_contrary 151 = .ok (.iaload, 1) := by decide +kernel
theorem dX11_contrary_152 : decode cX11_contrary 152 = .ok (.if_icmp .ne 28, 3) := by decide +kernel
theorem dX11_contrary_155 : decode cX11_contrary 155 = .ok (.aload_n 0, 1) := by decide +kernel
theorem dX11_contrary_156 : decode cX11_contrary 156 = .ok (.getfield 20, 3) := by decide +kernel
theorem dX11_contrary_159 : decode cX11_contrary 159 = .ok (.getfield 79, 3) := by decide +kernel
theorem dX11_contrary_162 : decode cX11_contrary 162 = .ok (.iload_n 1, 1) := by decide +kernel
theorem dX11_contrary_163 : decode cX11_contrary 163 = .ok (.iaload, 1) := by decide +kernel
theorem dX11_contrary_164 : decode cX11_contrary 164 = .ok (.aload_n 0, 1) := by decide +kernel
theorem dX11_contrary_165 : decode cX11_contrary 165 = .ok (.getfield 20, 3) := by decide +kernel
theorem dX11_contrary_168 : decode cX11_contrary 168 = .ok (.getfield 73, 3) := by decide +kernel
theorem dX11_contrary_171 : decode cX11_contrary 171 = .ok (.iload_n 2, 1) := by decide +kernel
theorem dX11_contrary_172 : decode cX11_contrary 172 = .ok (.iaload, 1) := by decide +kernel
theorem dX11_contrary_173 : decode cX11_contrary 173 = .ok (.if_icmp .ne 7, 3) := by decide +kernel
theorem dX11_contrary_176 : decode cX11_contrary 176 = .ok (.iconst 1, 1) := by decide +kernel
theorem dX11_contrary_177 : decode cX11_contrary 177 = .ok (.goto 4, 3) := by decide +kernel
theorem dX11_contrary_180 : decode cX11_contrary 180 = .ok (.iconst 0, 1) := by decide +kernel
theorem dX11_contrary_181 : decode cX11_contrary 181 = .ok (.istore 4, 2) := by decide +kernel
theorem dX11_contrary_183 : decode cX11_contrary 183 = .ok (.iload 4, 2) := by decide +kernel
theorem dX11_contrary_185 : decode cX11_contrary 185 = .ok (.ifCond .ne 41, 3) := by decide +kernel
theorem dX11_contrary_188 : decode cX11_contrary 188 = .ok (.aload_n 0, 1) := by decide +kernel
theorem dX11_contrary_189 : decode cX11_contrary 189 = .ok (.getfield 20, 3) := by decide +kernel
theorem dX11_contrary_192 : decode cX11_contrary 192 = .ok (.getfield 68, 3) := by decide +kernel
theorem dX11_contrary_195 : decode cX11_contrary 195 = .ok (.iload_n 2, 1) := by decide +kernel
theorem dX11_contrary_196 : decode cX11_contrary 196 = .ok (.iaload, 1) := by decide +kernel
theorem dX11_contrary_197 : decode cX11_contrary 197 = .ok (.iconst 2, 1) := by decide +kernel
theorem dX11_contrary_198 : decode cX11_contrary 198 = .ok (.if_icmp .ne 32, 3) := by decide +kernel
theorem dX11_contrary_201 : decode cX11_contrary 201 = .ok (.iload_n 3, 1) := by decide +kernel
theorem dX11_contrary_202 : decode cX11_contrary 202 = .ok (.ifCond .eq 28, 3) := by decide +kernel
theorem dX11_contrary_205 : decode cX11_contrary 205 = .ok (.aload_n 0, 1) := by decide +kernel
theorem dX11_contrary_206 : decode cX11_contrary 206 = .ok (.getfield 20, 3) := by decide +kernel
theorem dX11_contrary_209 : decode cX11_contrary 209 = .ok (.getfield 79, 3) := by decide +kernel
theorem dX11_contrary_212 : decode cX11_contrary 212 = .ok (.iload_n 1, 1) := by decide +kernel
theorem dX11_contrary_213 : decode cX11_contrary 213 = .ok (.iaload, 1) := by decide +kernel
theorem dX11_contrary_214 : decode cX11_contrary 214 = .ok (.aload_n 0, 1) := by decide +kernel
theorem dX11_contrary_215 : decode cX11_contrary 215 = .ok (.getfield 20, 3) := by decide +kernel
theorem dX11_contrary_218 : decode cX11_contrary 218 = .ok (.getfield 79, 3) := by decide +kernel
theorem dX11_contrary_221 : decode cX11_contrary 221 = .ok (.iload_n 2, 1) := by decide +kernel
theorem dX11_contrary_222 : decode cX11_contrary 222 = .ok (.iaload, 1) := by decide +kernel
theorem dX11_contrary_223 : decode cX11_contrary 223 = .ok (.if_icmp .ne 7, 3) := by decide +kernel
theorem dX11_contrary_226 : decode cX11_contrary 226 = .ok (.iconst 1, 1) := by decide +kernel
theorem dX11_contrary_227 : decode cX11_contrary 227 = .ok (.goto 4, 3) := by decide +kernel
theorem dX11_contrary_230 : decode cX11_contrary 230 = .ok (.iconst 0, 1) := by decide +kernel
theorem dX11_contrary_231 : decode cX11_contrary 231 = .ok (.ireturn, 1) := by decide +kernel
theorem dX11_weave_0 : decode cX11_weave 0 = .ok (.aload_n 0, 1) := by decide +kernel
theorem dX11_weave_1 : decode cX11_weave 1 = .ok (.iconst (-1), 1) := by decide +kernel
theorem dX11_weave_2 : decode cX11_weave 2 = .ok (.putfield 43, 3) := by decide +kernel
theorem dX11_weave_5 : decode cX11_weave 5 = .ok (.iconst 0, 1) := by decide +kernel
theorem dX11_weave_6 : decode cX11_weave 6 = .ok (.istore_n 1, 1) := by decide +kernel
theorem dX11_weave_7 : decode cX11_weave 7 = .ok (.iload_n 1, 1) := by decide +kernel
theorem dX11_weave_8 : decode cX11_weave 8 = .ok (.bipush 10, 2) := by decide +kernel
theorem dX11_weave_10 : decode cX11_weave 10 = .ok (.if_icmp .ge 16, 3) := by decide +kernel
theorem dX11_weave_13 : decode cX11_weave 13 = .ok (.aload_n 0, 1) := by decide +kernel
theorem dX11_weave_14 : decode cX11_weave 14 = .ok (.getfield 40, 3) := by decide +kernel
theorem dX11_weave_17 : decode cX11_weave 17 = .ok (.iload_n 1, 1) := by decide +kernel
theorem dX11_weave_18 : decode cX11_weave 18 = .ok (.iconst 0, 1) := by decide +kernel
theorem dX11_weave_19 : decode cX11_weave 19 = .ok (.iastore, 1) := by decide +kernel
theorem dX11_weave_20 : decode cX11_weave 20 = .ok (.iinc 1 1, 3) := by decide +kernel
theorem dX11_weave_23 : decode cX11_weave 23 = .ok (.goto (-16), 3) := by decide +kernel
theorem dX11_weave_26 : decode cX11_weave 26 = .ok (.iconst 0, 1) := by decide +kernel
theorem dX11_weave_27 : decode cX11_weave 27 = .ok (.istore_n 1, 1) := by decide +kernel
theorem dX11_weave_28 : decode cX11_weave 28 = .ok (.iload_n 1, 1) := by decide +kernel
theorem dX11_weave_29 : decode cX11_weave 29 = .ok (.aload_n 0, 1) := by decide +kernel
theorem dX11_weave_30 : decode cX11_weave 30 = .ok (.getfield 20, 3) := by decide +kernel
theorem dX11_weave_33 : decode cX11_weave 33 = .ok (.getfield 65, 3) := by decide +kernel
theorem dX11_weave_36 : decode cX11_weave 36 = .ok (.if_icmp .ge 90, 3) := by decide +kernel
theorem dX11_weave_39 : decode cX11_weave 39 = .ok (.iconst 0, 1) := by decide +kernel
theorem dX11_weave_40 : decode cX11_weave 40 = .ok (.istore_n 2, 1) := by decide +kernel
theorem dX11_weave_41 : decode cX11_weave 41 = .ok (.iload_n 2, 1) := by decide +kernel
theorem dX11_weave_42 : decode cX11_weave 42 = .ok (.iload_n 1, 1) := by decide +kernel
theorem dX11_weave_43 : decode cX11_weave 43 = .ok (.if_icmp .ge 77, 3) := by decide +kernel
theorem dX11_weave_46 : decode cX11_weave 46 = .ok (.aload_n 0, 1) := by decide +kernel
theorem dX11_weave_47 : decode cX11_weave 47 = .ok (.iload_n 1, 1) := by decide +kernel
theorem dX11_weave_48 : decode cX11_weave 48 = .ok (.iload_n 2, 1) := by decide +kernel
theorem dX11_weave_49 : decode cX11_weave 49 = .ok (.invokevirtual 69, 3) := by decide +kernel
theorem dX11_weave_52 : decode cX11_weave 52 = .ok (.ifCond .ne 6, 3) := by decide +kernel
theorem dX11_weave_55 : decode cX11_weave 55 = .ok (.goto 59, 3) := by decide +kernel
theorem dX11_weave_58 : decode cX11_weave 58 = .ok (.aload_n 0, 1) := by decide +kernel
theorem dX11_weave_59 : decode cX11_weave 59 = .ok (.getfield 40, 3) := by decide +kernel
theorem dX11_weave_62 : decode cX11_weave 62 = .ok (.aload_n 0, 1) := by decide +kernel
theorem dX11_weave_63 : decode cX11_weave 63 = .ok (.getfield 20, 3) := by decide +kernel
theorem dX11_weave_66 : decode cX11_weave 66 = .ok (.getfield 82, 3) := by decide +kernel
theorem dX11_weave_69 : decode cX11_weave 69 = .ok (.iload_n 1, 1) := by decide +kernel
theorem dX11_weave_70 : decode cX11_weave 70 = .ok (.iaload, 1) := by decide +kernel
theorem dX11_weave_71 : decode cX11_weave 71 = .ok (.dup2, 1) := by decide +kernel
theorem dX11_weave_72 : decode cX11_weave 72 = .ok (.iaload, 1) := by decide +kernel
theorem dX11_weave_73 : decode cX11_weave 73 = .ok (.iconst 1, 1) := by decide +kernel
theorem dX11_weave_74 : decode cX11_weave 74 = .ok (.aload_n 0, 1) := by decide +kernel
theorem dX11_weave_75 : decode cX11_weave 75 = .ok (.getfield 20, 3) := by decide +kernel
theorem dX11_weave_78 : decode cX11_weave 78 = .ok (.getfield 82, 3) := by decide +kernel
theorem dX11_weave_81 : decode cX11_weave 81 = .ok (.iload_n 2, 1) := by decide +kernel
theorem dX11_weave_82 : decode cX11_weave 82 = .ok (.iaload, 1) := by decide +kernel
theorem dX11_weave_83 : decode cX11_weave 83 = .ok (.ishl, 1) := by decide +kernel
theorem dX11_weave_84 : decode cX11_weave 84 = .ok (.ior, 1) := by decide +kernel
theorem dX11_weave_85 : decode cX11_weave 85 = .ok (.iastore, 1) := by decide +kernel
theorem dX11_weave_86 : decode cX11_weave 86 = .ok (.aload_n 0, 1) := by decide +kernel
theorem dX11_weave_87 : decode cX11_weave 87 = .ok (.getfield 40, 3) := by decide +kernel
theorem dX11_weave_90 : decode cX11_weave 90 = .ok (.aload_n 0, 1) := by decide +kernel
theorem dX11_weave_91 : decode cX11_weave 91 = .ok (.getfield 20, 3) := by decide +kernel
theorem dX11_weave_94 : decode cX11_weave 94 = .ok (.getfield 82, 3) := by decide +kernel
theorem dX11_weave_97 : decode cX11_weave 97 = .ok (.iload_n 2, 1) := by decide +kernel
theorem dX11_weave_98 : decode cX11_weave 98 = .ok (.iaload, 1) := by decide +kernel
theorem dX11_weave_99 : decode cX11_weave 99 = .ok (.dup2, 1) := by decide +kernel
theorem dX11_weave_100 : decode cX11_weave 100 = .ok (.iaload, 1) := by decide +kernel
theorem dX11_weave_101 : decode cX11_weave 101 = .ok (.iconst 1, 1) := by decide +kernel
theorem dX11_weave_102 : decode cX11_weave 102 = .ok (.aload_n 0, 1) := by decide +kernel
theorem dX11_weave_103 : decode cX11_weave 103 = .ok (.getfield 20, 3) := by decide +kernel
theorem dX11_weave_106 : decode cX11_weave 106 = .ok (.getfield 82, 3) := by decide +kernel
theorem dX11_weave_109 : decode cX11_weave 109 = .ok (.iload_n 1, 1) := by decide +kernel
theorem dX11_weave_110 : decode cX11_weave 110 = .ok (.iaload, 1) := by decide +kernel
theorem dX11_weave_111 : decode cX11_weave 111 = .ok (.ishl, 1) := by decide +kernel
theorem dX11_weave_112 : decode cX11_weave 112 = .ok (.ior, 1) := by decide +kernel
theorem dX11_weave_113 : decode cX11_weave 113 = .ok (.iastore, 1) := by decide +kernel
theorem dX11_weave_114 : decode cX11_weave 114 = .ok (.iinc 2 1, 3) := by decide +kernel
theorem dX11_weave_117 : decode cX11_weave 117 = .ok (.goto (-76), 3) := by decide +kernel
theorem dX11_weave_120 : decode cX11_weave 120 = .ok (.iinc 1 1, 3) := by decide +kernel
theorem dX11_weave_123 : decode cX11_weave 123 = .ok (.goto (-95), 3) := by decide +kernel
theorem dX11_weave_126 : decode cX11_weave 126 = .ok (.return_, 1) := by decide +kernel
theorem dX11_believed_0 : decode cX11_believed 0 = .ok (.iconst 1, 1) := by decide +kernel
theorem dX11_believed_1 : decode cX11_believed 1 = .ok (.aload_n 0, 1) := by decide +kernel
theorem dX11_believed_2 : decode cX11_believed 2 = .ok (.getfield 20, 3) := by decide +kernel
theorem dX11_believed_5 : decode cX11_believed 5 = .ok (.getfield 62, 3) := by decide +kernel
theorem dX11_believed_8 : decode cX11_believed 8 = .ok (.ishl, 1) := by decide +kernel
theorem dX11_believed_9 : decode cX11_believed 9 = .ok (.iconst 1, 1) := by decide +kernel
theorem dX11_believed_10 : decode cX11_believed 10 = .ok (.isub, 1) := by decide +kernel
theorem dX11_believed_11 : decode cX11_believed 11 = .ok (.aload_n 0, 1) := by decide +kernel
theorem dX11_believed_12 : decode cX11_believed 12 = .ok (.getfield 85, 3) := by decide +kernel
theorem dX11_believed_15 : decode cX11_believed 15 = .ok (.iconst (-1), 1) := by decide +kernel
theorem dX11_believed_16 : decode cX11_believed 16 = .ok (.ixor, 1) := by decide +kernel
theorem dX11_believed_17 : decode cX11_believed 17 = .ok (.iand, 1) := by decide +kernel
theorem dX11_believed_18 : decode cX11_believed 18 = .ok (.ireturn, 1) := by decide +kernel
theorem dX11_doContradictNow_0 : decode cX11_doContradictNow 0 = .ok (.aload_n 0, 1) := by decide +kernel
theorem dX11_doContradictNow_1 : decode cX11_doContradictNow 1 = .ok (.getfield 85, 3) := by decide +kernel
theorem dX11_doContradictNow_4 : decode cX11_doContradictNow 4 = .ok (.iload_n 1, 1) := by decide +kernel
theorem dX11_doContradictNow_5 : decode cX11_doContradictNow 5 = .ok (.invokestatic 88, 3) := by decide +kernel
theorem dX11_doContradictNow_8 : decode cX11_doContradictNow 8 = .ok (.ifCond .ne 31, 3) := by decide +kernel
theorem dX11_doContradictNow_11 : decode cX11_doContradictNow 11 = .ok (.aload_n 0, 1) := by decide +kernel
theorem dX11_doContradictNow_12 : decode cX11_doContradictNow 12 = .ok (.getfield 85, 3) := by decide +kernel
theorem dX11_doContradictNow_15 : decode cX11_doContradictNow 15 = .ok (.iload_n 2, 1) := by decide +kernel
theorem dX11_doContradictNow_16 : decode cX11_doContradictNow 16 = .ok (.invokestatic 88, 3) := by decide +kernel
theorem dX11_doContradictNow_19 : decode cX11_doContradictNow 19 = .ok (.ifCond .ne 20, 3) := by decide +kernel
theorem dX11_doContradictNow_22 : decode cX11_doContradictNow 22 = .ok (.aload_n 0, 1) := by decide +kernel
theorem dX11_doContradictNow_23 : decode cX11_doContradictNow 23 = .ok (.getfield 40, 3) := by decide +kernel
theorem dX11_doContradictNow_26 : decode cX11_doContradictNow 26 = .ok (.iload_n 1, 1) := by decide +kernel
theorem dX11_doContradictNow_27 : decode cX11_doContradictNow 27 = .ok (.iaload, 1) := by decide +kernel
theorem dX11_doContradictNow_28 : decode cX11_doContradictNow 28 = .ok (.iload_n 2, 1) := by decide +kernel
theorem dX11_doContradictNow_29 : decode cX11_doContradictNow 29 = .ok (.invokestatic 88, 3) := by decide +kernel
theorem dX11_doContradictNow_32 : decode cX11_doContradictNow 32 = .ok (.ifCond .eq 7, 3) := by decide +kernel
theorem dX11_doContradictNow_35 : decode cX11_doContradictNow 35 = .ok (.iconst 1, 1) := by decide +kernel
theorem dX11_doContradictNow_36 : decode cX11_doContradictNow 36 = .ok (.goto 4, 3) := by decide +kernel
theorem dX11_doContradictNow_39 : decode cX11_doContradictNow 39 = .ok (.iconst 0, 1) := by decide +kernel
theorem dX11_doContradictNow_40 : decode cX11_doContradictNow 40 = .ok (.ireturn, 1) := by decide +kernel
theorem dX11_pairsNow_0 : decode cX11_pairsNow 0 = .ok (.iconst 0, 1) := by decide +kernel
theorem dX11_pairsNow_1 : decode cX11_pairsNow 1 = .ok (.istore_n 2, 1) := by decide +kernel
theorem dX11_pairsNow_2 : decode cX11_pairsNow 2 = .ok (.iconst 0, 1) := by decide +kernel
theorem dX11_pairsNow_3 : decode cX11_pairsNow 3 = .ok (.istore_n 3, 1) := by decide +kernel
theorem dX11_pairsNow_4 : decode cX11_pairsNow 4 = .ok (.iload_n 3, 1) := by decide +kernel
theorem dX11_pairsNow_5 : decode cX11_pairsNow 5 = .ok (.aload_n 0, 1) := by decide +kernel
theorem dX11_pairsNow_6 : decode cX11_pairsNow 6 = .ok (.getfield 20, 3) := by decide +kernel
theorem dX11_pairsNow_9 : decode cX11_pairsNow 9 = .ok (.getfield 62, 3) := by decide +kernel
theorem dX11_pairsNow_12 : decode cX11_pairsNow 12 = .ok (.if_icmp .ge 63, 3) := by decide +kernel
theorem dX11_pairsNow_15 : decode cX11_pairsNow 15 = .ok (.iconst 0, 1) := by decide +kernel
theorem dX11_pairsNow_16 : decode cX11_pairsNow 16 = .ok (.istore 4, 2) := by decide +kernel
theorem dX11_pairsNow_18 : decode cX11_pairsNow 18 = .ok (.iload 4, 2) := by decide +kernel
theorem dX11_pairsNow_20 : decode cX11_pairsNow 20 = .ok (.iload_n 3, 1) := by decide +kernel
theorem dX11_pairsNow_21 : decode cX11_pairsNow 21 = .ok (.if_icmp .ge 48, 3) := by decide +kernel
theorem dX11_pairsNow_24 : decode cX11_pairsNow 24 = .ok (.iload_n 2, 1) := by decide +kernel
theorem dX11_pairsNow_25 : decode cX11_pairsNow 25 = .ok (.iload_n 1, 1) := by decide +kernel
theorem dX11_pairsNow_26 : decode cX11_pairsNow 26 = .ok (.iload_n 3, 1) := by decide +kernel
theorem dX11_pairsNow_27 : decode cX11_pairsNow 27 = .ok (.invokestatic 88, 3) := by decide +kernel
theorem dX11_pairsNow_30 : decode cX11_pairsNow 30 = .ok (.ifCond .eq 30, 3) := by decide +kernel
theorem dX11_pairsNow_33 : decode cX11_pairsNow 33 = .ok (.iload_n 1, 1) := by decide +kernel
theorem dX11_pairsNow_34 : decode cX11_pairsNow 34 = .ok (.iload 4, 2) := by decide +kernel
theorem dX11_pairsNow_36 : decode cX11_pairsNow 36 = .ok (.invokestatic 88, 3) := by decide +kernel
theorem dX11_pairsNow_39 : decode cX11_pairsNow 39 = .ok (.ifCond .eq 21, 3) := by decide +kernel
theorem dX11_pairsNow_42 : decode cX11_pairsNow 42 = .ok (.aload_n 0, 1) := by decide +kernel
theorem dX11_pairsNow_43 : decode cX11_pairsNow 43 = .ok (.getfield 40, 3) := by decide +kernel
theorem dX11_pairsNow_46 : decode cX11_pairsNow 46 = .ok (.iload_n 3, 1) := by decide +kernel
theorem dX11_pairsNow_47 : decode cX11_pairsNow 47 = .ok (.iaload, 1) := by decide +kernel
theorem dX11_pairsNow_48 : decode cX11_pairsNow 48 = .ok (.iload 4, 2) := by decide +kernel
theorem dX11_pairsNow_50 : decode cX11_pairsNow 50 = .ok (.invokestatic 88, 3) := by decide +kernel
theorem dX11_pairsNow_53 : decode cX11_pairsNow 53 = .ok (.ifCond .eq 7, 3) := by decide +kernel
theorem dX11_pairsNow_56 : decode cX11_pairsNow 56 = .ok (.iconst 1, 1) := by decide +kernel
theorem dX11_pairsNow_57 : decode cX11_pairsNow 57 = .ok (.goto 4, 3) := by decide +kernel
theorem dX11_pairsNow_60 : decode cX11_pairsNow 60 = .ok (.iconst 0, 1) := by decide +kernel
theorem dX11_pairsNow_61 : decode cX11_pairsNow 61 = .ok (.iadd, 1) := by decide +kernel
theorem dX11_pairsNow_62 : decode cX11_pairsNow 62 = .ok (.istore_n 2, 1) := by decide +kernel
theorem dX11_pairsNow_63 : decode cX11_pairsNow 63 = .ok (.iinc 4 1, 3) := by decide +kernel
theorem dX11_pairsNow_66 : decode cX11_pairsNow 66 = .ok (.goto (-48), 3) := by decide +kernel
theorem dX11_pairsNow_69 : decode cX11_pairsNow 69 = .ok (.iinc 3 1, 3) := by decide +kernel
theorem dX11_pairsNow_72 : decode cX11_pairsNow 72 = .ok (.goto (-68), 3) := by decide +kernel
theorem dX11_pairsNow_75 : decode cX11_pairsNow 75 = .ok (.iload_n 2, 1) := by decide +kernel
theorem dX11_pairsNow_76 : decode cX11_pairsNow 76 = .ok (.ireturn, 1) := by decide +kernel
theorem dX11_pairs_0 : decode cX11_pairs 0 = .ok (.iconst 0, 1) := by decide +kernel
theorem dX11_pairs_1 : decode cX11_pairs 1 = .ok (.istore_n 3, 1) := by decide +kernel
theorem dX11_pairs_2 : decode cX11_pairs 2 = .ok (.iconst 0, 1) := by decide +kernel
theorem dX11_pairs_3 : decode cX11_pairs 3 = .ok (.istore 4, 2) := by decide +kernel
theorem dX11_pairs_5 : decode cX11_pairs 5 = .ok (.iload 4, 2) := by decide +kernel
theorem dX11_pairs_7 : decode cX11_pairs 7 = .ok (.aload_n 0, 1) := by decide +kernel
theorem dX11_pairs_8 : decode cX11_pairs 8 = .ok (.getfield 20, 3) := by decide +kernel
theorem dX11_pairs_11 : decode cX11_pairs 11 = .ok (.getfield 65, 3) := by decide +kernel
theorem dX11_pairs_14 : decode cX11_pairs 14 = .ok (.if_icmp .ge 89, 3) := by decide +kernel
theorem dX11_pairs_17 : decode cX11_pairs 17 = .ok (.iconst 0, 1) := by decide +kernel
theorem dX11_pairs_18 : decode cX11_pairs 18 = .ok (.istore 5, 2) := by decide +kernel
theorem dX11_pairs_20 : decode cX11_pairs 20 = .ok (.iload 5, 2) := by decide +kernel
theorem dX11_pairs_22 : decode cX11_pairs 22 = .ok (.aload_n 0, 1) := by decide +kernel
theorem dX11_pairs_23 : decode cX11_pairs 23 = .ok (.getfield 20, 3) := by decide +kernel
theorem dX11_pairs_26 : decode cX11_pairs 26 = .ok (.getfield 65, 3) := by decide +kernel
theorem dX11_pairs_29 : decode cX11_pairs 29 = .ok (.if_icmp .ge 68, 3) := by decide +kernel
theorem dX11_pairs_32 : decode cX11_pairs 32 = .ok (.iload_n 3, 1) := by decide +kernel
theorem dX11_pairs_33 : decode cX11_pairs 33 = .ok (.aload_n 0, 1) := by decide +kernel
theorem dX11_pairs_34 : decode cX11_pairs 34 = .ok (.getfield 20, 3) := by decide +kernel
theorem dX11_pairs_37 : decode cX11_pairs 37 = .ok (.getfield 82, 3) := by decide +kernel
theorem dX11_pairs_40 : decode cX11_pairs 40 = .ok (.iload 4, 2) := by decide +kernel
theorem dX11_pairs_42 : decode cX11_pairs 42 = .ok (.iaload, 1) := by decide +kernel
theorem dX11_pairs_43 : decode cX11_pairs 43 = .ok (.iload_n 1, 1) := by decide +kernel
theorem dX11_pairs_44 : decode cX11_pairs 44 = .ok (.if_icmp .ne 44, 3) := by decide +kernel
theorem dX11_pairs_47 : decode cX11_pairs 47 = .ok (.aload_n 0, 1) := by decide +kernel
theorem dX11_pairs_48 : decode cX11_pairs 48 = .ok (.getfield 20, 3) := by decide +kernel
theorem dX11_pairs_51 : decode cX11_pairs 51 = .ok (.getfield 82, 3) := by decide +kernel
theorem dX11_pairs_54 : decode cX11_pairs 54 = .ok (.iload 5, 2) := by decide +kernel
theorem dX11_pairs_56 : decode cX11_pairs 56 = .ok (.iaload, 1) := by decide +kernel
theorem dX11_pairs_57 : decode cX11_pairs 57 = .ok (.iload_n 2, 1) := by decide +kernel
theorem dX11_pairs_58 : decode cX11_pairs 58 = .ok (.if_icmp .ne 30, 3) := by decide +kernel
theorem dX11_pairs_61 : decode cX11_pairs 61 = .ok (.iload_n 1, 1) := by decide +kernel
theorem dX11_pairs_62 : decode cX11_pairs 62 = .ok (.iload_n 2, 1) := by decide +kernel
theorem dX11_pairs_63 : decode cX11_pairs 63 = .ok (.if_icmp .ne 10, 3) := by decide +kernel
theorem dX11_pairs_66 : decode cX11_pairs 66 = .ok (.iload 5, 2) := by decide +kernel
theorem dX11_pairs_68 : decode cX11_pairs 68 = .ok (.iload 4, 2) := by decide +kernel
theorem dX11_pairs_70 : decode cX11_pairs 70 = .ok (.if_icmp .ge 18, 3) := by decide +kernel
theorem dX11_pairs_73 : decode cX11_pairs 73 = .ok (.aload_n 0, 1) := by decide +kernel
theorem dX11_pairs_74 : decode cX11_pairs 74 = .ok (.iload 4, 2) := by decide +kernel
theorem dX11_pairs_76 : decode cX11_pairs 76 = .ok (.iload 5, 2) := by decide +kernel
theorem dX11_pairs_78 : decode cX11_pairs 78 = .ok (.invokevirtual 69, 3) := by decide +kernel
theorem dX11_pairs_81 : decode cX11_pairs 81 = .ok (.ifCond .eq 7, 3) := by decide +kernel
theorem dX11_pairs_84 : decode cX11_pairs 84 = .ok (.iconst 1, 1) := by decide +kernel
theorem dX11_pairs_85 : decode cX11_pairs 85 = .ok (.goto 4, 3) := by decide +kernel
theorem dX11_pairs_88 : decode cX11_pairs 88 = .ok (.iconst 0, 1) := by decide +kernel
theorem dX11_pairs_89 : decode cX11_pairs 89 = .ok (.iadd, 1) := by decide +kernel
theorem dX11_pairs_90 : decode cX11_pairs 90 = .ok (.istore_n 3, 1) := by decide +kernel
theorem dX11_pairs_91 : decode cX11_pairs 91 = .ok (.iinc 5 1, 3) := by decide +kernel
theorem dX11_pairs_94 : decode cX11_pairs 94 = .ok (.goto (-74), 3) := by decide +kernel
theorem dX11_pairs_97 : decode cX11_pairs 97 = .ok (.iinc 4 1, 3) := by decide +kernel
theorem dX11_pairs_100 : decode cX11_pairs 100 = .ok (.goto (-95), 3) := by decide +kernel
theorem dX11_pairs_103 : decode cX11_pairs 103 = .ok (.iload_n 3, 1) := by decide +kernel
theorem dX11_pairs_104 : decode cX11_pairs 104 = .ok (.ireturn, 1) := by decide +kernel
theorem dX11_isEnough_0 : decode cX11_isEnough 0 = .ok (.iload_n 2, 1) := by decide +kernel
theorem dX11_isEnough_1 : decode cX11_isEnough 1 = .ok (.iload_n 1, 1) := by decide +kernel
theorem dX11_isEnough_2 : decode cX11_isEnough 2 = .ok (.iconst (-1), 1) := by decide +kernel
theorem dX11_isEnough_3 : decode cX11_isEnough 3 = .ok (.ixor, 1) := by decide +kernel
theorem dX11_isEnough_4 : decode cX11_isEnough 4 = .ok (.iand, 1) := by decide +kernel
theorem dX11_isEnough_5 : decode cX11_isEnough 5 = .ok (.istore_n 3, 1) := by decide +kernel
theorem dX11_isEnough_6 : decode cX11_isEnough 6 = .ok (.iconst 0, 1) := by decide +kernel
theorem dX11_isEnough_7 : decode cX11_isEnough 7 = .ok (.istore 4, 2) := by decide +kernel
theorem dX11_isEnough_9 : decode cX11_isEnough 9 = .ok (.iload 4, 2) := by decide +kernel
theorem dX11_isEnough_11 : decode cX11_isEnough 11 = .ok (.aload_n 0, 1) := by decide +kernel
theorem dX11_isEnough_12 : decode cX11_isEnough 12 = .ok (.getfield 20, 3) := by decide +kernel
theorem dX11_isEnough_15 : decode cX11_isEnough 15 = .ok (.getfield 62, 3) := by decide +kernel
theorem dX11_isEnough_18 : decode cX11_isEnough 18 = .ok (.if_icmp .ge 32, 3) := by decide +kernel
theorem dX11_isEnough_21 : decode cX11_isEnough 21 = .ok (.iload_n 3, 1) := by decide +kernel
theorem dX11_isEnough_22 : decode cX11_isEnough 22 = .ok (.iload 4, 2) := by decide +kernel
theorem dX11_isEnough_24 : decode cX11_isEnough 24 = .ok (.invokestatic 88, 3) := by decide +kernel
theorem dX11_isEnough_27 : decode cX11_isEnough 27 = .ok (.ifCond .eq 17, 3) := by decide +kernel
theorem dX11_isEnough_30 : decode cX11_isEnough 30 = .ok (.aload_n 0, 1) := by decide +kernel
theorem dX11_isEnough_31 : decode cX11_isEnough 31 = .ok (.getfield 40, 3) := by decide +kernel
theorem dX11_isEnough_34 : decode cX11_isEnough 34 = .ok (.iload 4, 2) := by decide +kernel
theorem dX11_isEnough_36 : decode cX11_isEnough 36 = .ok (.iaload, 1) := by decide +kernel
theorem dX11_isEnough_37 : decode cX11_isEnough 37 = .ok (.iload_n 3, 1) := by decide +kernel
theorem dX11_isEnough_38 : decode cX11_isEnough 38 = .ok (.iand, 1) := by decide +kernel
theorem dX11_isEnough_39 : decode cX11_isEnough 39 = .ok (.ifCond .eq 5, 3) := by decide +kernel
theorem dX11_isEnough_42 : decode cX11_isEnough 42 = .ok (.iconst 0, 1) := by decide +kernel
theorem dX11_isEnough_43 : decode cX11_isEnough 43 = .ok (.ireturn, 1) := by decide +kernel
theorem dX11_isEnough_44 : decode cX11_isEnough 44 = .ok (.iinc 4 1, 3) := by decide +kernel
theorem dX11_isEnough_47 : decode cX11_isEnough 47 = .ok (.goto (-38), 3) := by decide +kernel
theorem dX11_isEnough_50 : decode cX11_isEnough 50 = .ok (.iconst 1, 1) := by decide +kernel
theorem dX11_isEnough_51 : decode cX11_isEnough 51 = .ok (.ireturn, 1) := by decide +kernel
theorem dX11_isAhead_0 : decode cX11_isAhead 0 = .ok (.iload_n 0, 1) := by decide +kernel
theorem dX11_isAhead_1 : decode cX11_isAhead 1 = .ok (.iload_n 1, 1) := by decide +kernel
theorem dX11_isAhead_2 : decode cX11_isAhead 2 = .ok (.ixor, 1) := by decide +kernel
theorem dX11_isAhead_3 : decode cX11_isAhead 3 = .ok (.istore_n 2, 1) := by decide +kernel
theorem dX11_isAhead_4 : decode cX11_isAhead 4 = .ok (.iload_n 2, 1) := by decide +kernel
theorem dX11_isAhead_5 : decode cX11_isAhead 5 = .ok (.iload_n 2, 1) := by decide +kernel
theorem dX11_isAhead_6 : decode cX11_isAhead 6 = .ok (.ineg, 1) := by decide +kernel
theorem dX11_isAhead_7 : decode cX11_isAhead 7 = .ok (.iand, 1) := by decide +kernel
theorem dX11_isAhead_8 : decode cX11_isAhead 8 = .ok (.iload_n 1, 1) := by decide +kernel
theorem dX11_isAhead_9 : decode cX11_isAhead 9 = .ok (.iand, 1) := by decide +kernel
theorem dX11_isAhead_10 : decode cX11_isAhead 10 = .ok (.ifCond .eq 7, 3) := by decide +kernel
theorem dX11_isAhead_13 : decode cX11_isAhead 13 = .ok (.iconst 1, 1) := by decide +kernel
theorem dX11_isAhead_14 : decode cX11_isAhead 14 = .ok (.goto 4, 3) := by decide +kernel
theorem dX11_isAhead_17 : decode cX11_isAhead 17 = .ok (.iconst 0, 1) := by decide +kernel
theorem dX11_isAhead_18 : decode cX11_isAhead 18 = .ok (.ireturn, 1) := by decide +kernel
theorem dX11_look_0 : decode cX11_look 0 = .ok (.aload_n 0, 1) := by decide +kernel
theorem dX11_look_1 : decode cX11_look 1 = .ok (.getfield 43, 3) := by decide +kernel
theorem dX11_look_4 : decode cX11_look 4 = .ok (.aload_n 0, 1) := by decide +kernel
theorem dX11_look_5 : decode cX11_look 5 = .ok (.getfield 85, 3) := by decide +kernel
theorem dX11_look_8 : decode cX11_look 8 = .ok (.if_icmp .ne 4, 3) := by decide +kernel
theorem dX11_look_11 : decode cX11_look 11 = .ok (.return_, 1) := by decide +kernel
theorem dX11_look_12 : decode cX11_look 12 = .ok (.aload_n 0, 1) := by decide +kernel
theorem dX11_look_13 : decode cX11_look 13 = .ok (.aload_n 0, 1) := by decide +kernel
theorem dX11_look_14 : decode cX11_look 14 = .ok (.getfield 85, 3) := by decide +kernel
theorem dX11_look_17 : decode cX11_look 17 = .ok (.putfield 43, 3) := by decide +kernel
theorem dX11_look_20 : decode cX11_look 20 = .ok (.aload_n 0, 1) := by decide +kernel
theorem dX11_look_21 : decode cX11_look 21 = .ok (.invokevirtual 91, 3) := by decide +kernel
theorem dX11_look_24 : decode cX11_look 24 = .ok (.istore_n 1, 1) := by decide +kernel
theorem dX11_look_25 : decode cX11_look 25 = .ok (.aload_n 0, 1) := by decide +kernel
theorem dX11_look_26 : decode cX11_look 26 = .ok (.bipush 11, 2) := by decide +kernel
theorem dX11_look_28 : decode cX11_look 28 = .ok (.putfield 95, 3) := by decide +kernel
theorem dX11_look_31 : decode cX11_look 31 = .ok (.iconst 0, 1) := by decide +kernel
theorem dX11_look_32 : decode cX11_look 32 = .ok (.istore_n 2, 1) := by decide +kernel
theorem dX11_look_33 : decode cX11_look 33 = .ok (.iload_n 2, 1) := by decide +kernel
theorem dX11_look_34 : decode cX11_look 34 = .ok (.iload_n 1, 1) := by decide +kernel
theorem dX11_look_35 : decode cX11_look 35 = .ok (.if_icmp .gt 94, 3) := by decide +kernel
theorem dX11_look_38 : decode cX11_look 38 = .ok (.iload_n 2, 1) := by decide +kernel
theorem dX11_look_39 : decode cX11_look 39 = .ok (.invokestatic 98, 3) := by decide +kernel
theorem dX11_look_42 : decode cX11_look 42 = .ok (.istore_n 3, 1) := by decide +kernel
theorem dX11_look_43 : decode cX11_look 43 = .ok (.iload_n 2, 1) := by decide +kernel
theorem dX11_look_44 : decode cX11_look 44 = .ok (.iload_n 1, 1) := by decide +kernel
theorem dX11_look_45 : decode cX11_look 45 = .ok (.iconst (-1), 1) := by decide +kernel
theorem dX11_look_46 : decode cX11_look 46 = .ok (.ixor, 1) := by decide +kernel
theorem dX11_look_47 : decode cX11_look 47 = .ok (.iand, 1) := by decide +kernel
theorem dX11_look_48 : decode cX11_look 48 = .ok (.ifCond .ne 75, 3) := by decide +kernel
theorem dX11_look_51 : decode cX11_look 51 = .ok (.iload_n 3, 1) := by decide +kernel
theorem dX11_look_52 : decode cX11_look 52 = .ok (.aload_n 0, 1) := by decide +kernel
theorem dX11_look_53 : decode cX11_look 53 = .ok (.getfield 95, 3) := by decide +kernel
theorem dX11_look_56 : decode cX11_look 56 = .ok (.if_icmp .gt 67, 3) := by decide +kernel
theorem dX11_look_59 : decode cX11_look 59 = .ok (.aload_n 0, 1) := by decide +kernel
theorem dX11_look_60 : decode cX11_look 60 = .ok (.iload_n 2, 1) := by decide +kernel
theorem dX11_look_61 : decode cX11_look 61 = .ok (.iload_n 1, 1) := by decide +kernel
theorem dX11_look_62 : decode cX11_look 62 = .ok (.invokevirtual 104, 3) := by decide +kernel
theorem dX11_look_65 : decode cX11_look 65 = .ok (.ifCond .ne 6, 3) := by decide +kernel
theorem dX11_look_68 : decode cX11_look 68 = .ok (.goto 55, 3) := by decide +kernel
theorem dX11_look_71 : decode cX11_look 71 = .ok (.iload_n 3, 1) := by decide +kernel
theorem dX11_look_72 : decode cX11_look 72 = .ok (.aload_n 0, 1) := by decide +kernel
theorem dX11_look_73 : decode cX11_look 73 = .ok (.getfield 95, 3) := by decide +kernel
theorem dX11_look_76 : decode cX11_look 76 = .ok (.if_icmp .ge 8, 3) := by decide +kernel
theorem dX11_look_79 : decode cX11_look 79 = .ok (.aload_n 0, 1) := by decide +kernel
theorem dX11_look_80 : decode cX11_look 80 = .ok (.iconst 0, 1) := by decide +kernel
theorem dX11_look_81 : decode cX11_look 81 = .ok (.putfield 107, 3) := by decide +kernel
theorem dX11_look_84 : decode cX11_look 84 = .ok (.iload_n 3, 1) := by decide +kernel
theorem dX11_look_85 : decode cX11_look 85 = .ok (.aload_n 0, 1) := by decide +kernel
theorem dX11_look_86 : decode cX11_look 86 = .ok (.getfield 95, 3) := by decide +kernel
theorem dX11_look_89 : decode cX11_look 89 = .ok (.if_icmp .lt 14, 3) := by decide +kernel
theorem dX11_look_92 : decode cX11_look 92 = .ok (.iload_n 2, 1) := by decide +kernel
theorem dX11_look_93 : decode cX11_look 93 = .ok (.aload_n 0, 1) := by decide +kernel
theorem dX11_look_94 : decode cX11_look 94 = .ok (.getfield 110, 3) := by decide +kernel
theorem dX11_look_97 : decode cX11_look 97 = .ok (.invokestatic 113, 3) := by decide +kernel
theorem dX11_look_100 : decode cX11_look 100 = .ok (.ifCond .eq 8, 3) := by decide +kernel
theorem dX11_look_103 : decode cX11_look 103 = .ok (.aload_n 0, 1) := by decide +kernel
theorem dX11_look_104 : decode cX11_look 104 = .ok (.iload_n 2, 1) := by decide +kernel
theorem dX11_look_105 : decode cX11_look 105 = .ok (.putfield 110, 3) := by decide +kernel
theorem dX11_look_108 : decode cX11_look 108 = .ok (.aload_n 0, 1) := by decide +kernel
theorem dX11_look_109 : decode cX11_look 109 = .ok (.iload_n 3, 1) := by decide +kernel
theorem dX11_look_110 : decode cX11_look 110 = .ok (.putfield 95, 3) := by decide +kernel
theorem dX11_look_113 : decode cX11_look 113 = .ok (.aload_n 0, 1) := by decide +kernel
theorem dX11_look_114 : decode cX11_look 114 = .ok (.dup, 1) := by decide +kernel
theorem dX11_look_115 : decode cX11_look 115 = .ok (.getfield 107, 3) := by decide +kernel
theorem dX11_look_118 : decode cX11_look 118 = .ok (.iconst 1, 1) := by decide +kernel
theorem dX11_look_119 : decode cX11_look 119 = .ok (.iadd, 1) := by decide +kernel
theorem dX11_look_120 : decode cX11_look 120 = .ok (.putfield 107, 3) := by decide +kernel
theorem dX11_look_123 : decode cX11_look 123 = .ok (.iinc 2 1, 3) := by decide +kernel
theorem dX11_look_126 : decode cX11_look 126 = .ok (.goto (-93), 3) := by decide +kernel
theorem dX11_look_129 : decode cX11_look 129 = .ok (.return_, 1) := by decide +kernel
theorem dX11_liarsNow_0 : decode cX11_liarsNow 0 = .ok (.aload_n 0, 1) := by decide +kernel
theorem dX11_liarsNow_1 : decode cX11_liarsNow 1 = .ok (.invokevirtual 116, 3) := by decide +kernel
theorem dX11_liarsNow_4 : decode cX11_liarsNow 4 = .ok (.aload_n 0, 1) := by decide +kernel
theorem dX11_liarsNow_5 : decode cX11_liarsNow 5 = .ok (.getfield 95, 3) := by decide +kernel
theorem dX11_liarsNow_8 : decode cX11_liarsNow 8 = .ok (.ireturn, 1) := by decide +kernel
theorem dX11_lies_0 : decode cX11_lies 0 = .ok (.aload_n 0, 1) := by decide +kernel
theorem dX11_lies_1 : decode cX11_lies 1 = .ok (.invokevirtual 116, 3) := by decide +kernel
theorem dX11_lies_4 : decode cX11_lies 4 = .ok (.aload_n 0, 1) := by decide +kernel
theorem dX11_lies_5 : decode cX11_lies 5 = .ok (.getfield 110, 3) := by decide +kernel
theorem dX11_lies_8 : decode cX11_lies 8 = .ok (.iload_n 1, 1) := by decide +kernel
theorem dX11_lies_9 : decode cX11_lies 9 = .ok (.invokestatic 88, 3) := by decide +kernel
theorem dX11_lies_12 : decode cX11_lies 12 = .ok (.ireturn, 1) := by decide +kernel
theorem dX11_isTruthful_0 : decode cX11_isTruthful 0 = .ok (.aload_n 0, 1) := by decide +kernel
theorem dX11_isTruthful_1 : decode cX11_isTruthful 1 = .ok (.invokevirtual 116, 3) := by decide +kernel
theorem dX11_isTruthful_4 : decode cX11_isTruthful 4 = .ok (.aload_n 0, 1) := by decide +kernel
theorem dX11_isTruthful_5 : decode cX11_isTruthful 5 = .ok (.getfield 85, 3) := by decide +kernel
theorem dX11_isTruthful_8 : decode cX11_isTruthful 8 = .ok (.iload_n 1, 1) := by decide +kernel
theorem dX11_isTruthful_9 : decode cX11_isTruthful 9 = .ok (.invokestatic 88, 3) := by decide +kernel
theorem dX11_isTruthful_12 : decode cX11_isTruthful 12 = .ok (.ifCond .ne 18, 3) := by decide +kernel
theorem dX11_isTruthful_15 : decode cX11_isTruthful 15 = .ok (.aload_n 0, 1) := by decide +kernel
theorem dX11_isTruthful_16 : decode cX11_isTruthful 16 = .ok (.getfield 110, 3) := by decide +kernel
theorem dX11_isTruthful_19 : decode cX11_isTruthful 19 = .ok (.iload_n 1, 1) := by decide +kernel
theorem dX11_isTruthful_20 : decode cX11_isTruthful 20 = .ok (.invokestatic 88, 3) := by decide +kernel
theorem dX11_isTruthful_23 : decode cX11_isTruthful 23 = .ok (.ifCond .ne 7, 3) := by decide +kernel
theorem dX11_isTruthful_26 : decode cX11_isTruthful 26 = .ok (.iconst 1, 1) := by decide +kernel
theorem dX11_isTruthful_27 : decode cX11_isTruthful 27 = .ok (.goto 4, 3) := by decide +kernel
theorem dX11_isTruthful_30 : decode cX11_isTruthful 30 = .ok (.iconst 0, 1) := by decide +kernel
theorem dX11_isTruthful_31 : decode cX11_isTruthful 31 = .ok (.ireturn, 1) := by decide +kernel
theorem dX11_windowBegins_0 : decode cX11_windowBegins 0 = .ok (.iconst 0, 1) := by decide +kernel
theorem dX11_windowBegins_1 : decode cX11_windowBegins 1 = .ok (.istore_n 2, 1) := by decide +kernel
theorem dX11_windowBegins_2 : decode cX11_windowBegins 2 = .ok (.iconst 0, 1) := by decide +kernel
theorem dX11_windowBegins_3 : decode cX11_windowBegins 3 = .ok (.istore_n 3, 1) := by decide +kernel
theorem dX11_windowBegins_4 : decode cX11_windowBegins 4 = .ok (.iload_n 3, 1) := by decide +kernel
theorem dX11_windowBegins_5 : decode cX11_windowBegins 5 = .ok (.aload_n 0, 1) := by decide +kernel
theorem dX11_windowBegins_6 : decode cX11_windowBegins 6 = .ok (.getfield 20, 3) := by decide +kernel
theorem dX11_windowBegins_9 : decode cX11_windowBegins 9 = .ok (.getfield 65, 3) := by decide +kernel
theorem dX11_windowBegins_12 : decode cX11_windowBegins 12 = .ok (.if_icmp .ge 67, 3) := by decide +kernel
theorem dX11_windowBegins_15 : decode cX11_windowBegins 15 = .ok (.aload_n 0, 1) := by decide +kernel
theorem dX11_windowBegins_16 : decode cX11_windowBegins 16 = .ok (.getfield 20, 3) := by decide +kernel
theorem dX11_windowBegins_19 : decode cX11_windowBegins 19 = .ok (.getfield 68, 3) := by decide +kernel
theorem dX11_windowBegins_22 : decode cX11_windowBegins 22 = .ok (.iload_n 3, 1) := by decide +kernel
theorem dX11_windowBegins_23 : decode cX11_windowBegins 23 = .ok (.iaload, 1) := by decide +kernel
theorem dX11_windowBegins_24 : decode cX11_windowBegins 24 = .ok (.ifCond .ne 49, 3) := by decide +kernel
theorem dX11_windowBegins_27 : decode cX11_windowBegins 27 = .ok (.aload_n 0, 1) := by decide +kernel
theorem dX11_windowBegins_28 : decode cX11_windowBegins 28 = .ok (.getfield 20, 3) := by decide +kernel
theorem dX11_windowBegins_31 : decode cX11_windowBegins 31 = .ok (.getfield 73, 3) := by decide +kernel
theorem dX11_windowBegins_34 : decode cX11_windowBegins 34 = .ok (.iload_n 3, 1) := by decide +kernel
theorem dX11_windowBegins_35 : decode cX11_windowBegins 35 = .ok (.iaload, 1) := by decide +kernel
theorem dX11_windowBegins_36 : decode cX11_windowBegins 36 = .ok (.iload_n 1, 1) := by decide +kernel
theorem dX11_windowBegins_37 : decode cX11_windowBegins 37 = .ok (.if_icmp .ne 36, 3) := by decide +kernel
theorem dX11_windowBegins_40 : decode cX11_windowBegins 40 = .ok (.aload_n 0, 1) := by decide +kernel
theorem dX11_windowBegins_41 : decode cX11_windowBegins 41 = .ok (.getfield 85, 3) := by decide +kernel
theorem dX11_windowBegins_44 : decode cX11_windowBegins 44 = .ok (.aload_n 0, 1) := by decide +kernel
theorem dX11_windowBegins_45 : decode cX11_windowBegins 45 = .ok (.getfield 20, 3) := by decide +kernel
theorem dX11_windowBegins_48 : decode cX11_windowBegins 48 = .ok (.getfield 82, 3) := by decide +kernel
theorem dX11_windowBegins_51 : decode cX11_windowBegins 51 = .ok (.iload_n 3, 1) := by decide +kernel
theorem dX11_windowBegins_52 : decode cX11_windowBegins 52 = .ok (.iaload, 1) := by decide +kernel
theorem dX11_windowBegins_53 : decode cX11_windowBegins 53 = .ok (.invokestatic 88, 3) := by decide +kernel
theorem dX11_windowBegins_56 : decode cX11_windowBegins 56 = .ok (.ifCond .ne 17, 3) := by decide +kernel
theorem dX11_windowBegins_59 : decode cX11_windowBegins 59 = .ok (.iload_n 2, 1) := by decide +kernel
theorem dX11_windowBegins_60 : decode cX11_windowBegins 60 = .ok (.aload_n 0, 1) := by decide +kernel
theorem dX11_windowBegins_61 : decode cX11_windowBegins 61 = .ok (.getfield 20, 3) := by decide +kernel
theorem dX11_windowBegins_64 : decode cX11_windowBegins 64 = .ok (.getfield 79, 3) := by decide +kernel
theorem dX11_windowBegins_67 : decode cX11_windowBegins 67 = .ok (.iload_n 3, 1) := by decide +kernel
theorem dX11_windowBegins_68 : decode cX11_windowBegins 68 = .ok (.iaload, 1) := by decide +kernel
theorem dX11_windowBegins_69 : decode cX11_windowBegins 69 = .ok (.invokestatic 119, 3) := by decide +kernel
theorem dX11_windowBegins_72 : decode cX11_windowBegins 72 = .ok (.istore_n 2, 1) := by decide +kernel
theorem dX11_windowBegins_73 : decode cX11_windowBegins 73 = .ok (.iinc 3 1, 3) := by decide +kernel
theorem dX11_windowBegins_76 : decode cX11_windowBegins 76 = .ok (.goto (-72), 3) := by decide +kernel
theorem dX11_windowBegins_79 : decode cX11_windowBegins 79 = .ok (.iload_n 2, 1) := by decide +kernel
theorem dX11_windowBegins_80 : decode cX11_windowBegins 80 = .ok (.ireturn, 1) := by decide +kernel
theorem dX11_windowEnds_0 : decode cX11_windowEnds 0 = .ok (.bipush 99, 2) := by decide +kernel
theorem dX11_windowEnds_2 : decode cX11_windowEnds 2 = .ok (.istore_n 2, 1) := by decide +kernel
theorem dX11_windowEnds_3 : decode cX11_windowEnds 3 = .ok (.iconst 0, 1) := by decide +kernel
theorem dX11_windowEnds_4 : decode cX11_windowEnds 4 = .ok (.istore_n 3, 1) := by decide +kernel
theorem dX11_windowEnds_5 : decode cX11_windowEnds 5 = .ok (.iload_n 3, 1) := by decide +kernel
theorem dX11_windowEnds_6 : decode cX11_windowEnds 6 = .ok (.aload_n 0, 1) := by decide +kernel
theorem dX11_windowEnds_7 : decode cX11_windowEnds 7 = .ok (.getfield 20, 3) := by decide +kernel
theorem dX11_windowEnds_10 : decode cX11_windowEnds 10 = .ok (.getfield 65, 3) := by decide +kernel
theorem dX11_windowEnds_13 : decode cX11_windowEnds 13 = .ok (.if_icmp .ge 67, 3) := by decide +kernel
theorem dX11_windowEnds_16 : decode cX11_windowEnds 16 = .ok (.aload_n 0, 1) := by decide +kernel
theorem dX11_windowEnds_17 : decode cX11_windowEnds 17 = .ok (.getfield 20, 3) := by decide +kernel
theorem dX11_windowEnds_20 : decode cX11_windowEnds 20 = .ok (.getfield 68, 3) := by decide +kernel
theorem dX11_windowEnds_23 : decode cX11_windowEnds 23 = .ok (.iload_n 3, 1) := by decide +kernel
theorem dX11_windowEnds_24 : decode cX11_windowEnds 24 = .ok (.iaload, 1) := by decide +kernel
theorem dX11_windowEnds_25 : decode cX11_windowEnds 25 = .ok (.ifCond .ne 49, 3) := by decide +kernel
theorem dX11_windowEnds_28 : decode cX11_windowEnds 28 = .ok (.aload_n 0, 1) := by decide +kernel
theorem dX11_windowEnds_29 : decode cX11_windowEnds 29 = .ok (.getfield 20, 3) := by decide +kernel
theorem dX11_windowEnds_32 : decode cX11_windowEnds 32 = .ok (.getfield 73, 3) := by decide +kernel
theorem dX11_windowEnds_35 : decode cX11_windowEnds 35 = .ok (.iload_n 3, 1) := by decide +kernel
theorem dX11_windowEnds_36 : decode cX11_windowEnds 36 = .ok (.iaload, 1) := by decide +kernel
theorem dX11_windowEnds_37 : decode cX11_windowEnds 37 = .ok (.iload_n 1, 1) := by decide +kernel
theorem dX11_windowEnds_38 : decode cX11_windowEnds 38 = .ok (.if_icmp .ne 36, 3) := by decide +kernel
theorem dX11_windowEnds_41 : decode cX11_windowEnds 41 = .ok (.aload_n 0, 1) := by decide +kernel
theorem dX11_windowEnds_42 : decode cX11_windowEnds 42 = .ok (.getfield 85, 3) := by decide +kernel
theorem dX11_windowEnds_45 : decode cX11_windowEnds 45 = .ok (.aload_n 0, 1) := by decide +kernel
theorem dX11_windowEnds_46 : decode cX11_windowEnds 46 = .ok (.getfield 20, 3) := by decide +kernel
theorem dX11_windowEnds_49 : decode cX11_windowEnds 49 = .ok (.getfield 82, 3) := by decide +kernel
theorem dX11_windowEnds_52 : decode cX11_windowEnds 52 = .ok (.iload_n 3, 1) := by decide +kernel
theorem dX11_windowEnds_53 : decode cX11_windowEnds 53 = .ok (.iaload, 1) := by decide +kernel
theorem dX11_windowEnds_54 : decode cX11_windowEnds 54 = .ok (.invokestatic 88, 3) := by decide +kernel
theorem dX11_windowEnds_57 : decode cX11_windowEnds 57 = .ok (.ifCond .ne 17, 3) := by decide +kernel
theorem dX11_windowEnds_60 : decode cX11_windowEnds 60 = .ok (.iload_n 2, 1) := by decide +kernel
theorem dX11_windowEnds_61 : decode cX11_windowEnds 61 = .ok (.aload_n 0, 1) := by decide +kernel
theorem dX11_windowEnds_62 : decode cX11_windowEnds 62 = .ok (.getfield 20, 3) := by decide +kernel
theorem dX11_windowEnds_65 : decode cX11_windowEnds 65 = .ok (.getfield 76, 3) := by decide +kernel
theorem dX11_windowEnds_68 : decode cX11_windowEnds 68 = .ok (.iload_n 3, 1) := by decide +kernel
theorem dX11_windowEnds_69 : decode cX11_windowEnds 69 = .ok (.iaload, 1) := by decide +kernel
theorem dX11_windowEnds_70 : decode cX11_windowEnds 70 = .ok (.invokestatic 125, 3) := by decide +kernel
theorem dX11_windowEnds_73 : decode cX11_windowEnds 73 = .ok (.istore_n 2, 1) := by decide +kernel
theorem dX11_windowEnds_74 : decode cX11_windowEnds 74 = .ok (.iinc 3 1, 3) := by decide +kernel
theorem dX11_windowEnds_77 : decode cX11_windowEnds 77 = .ok (.goto (-72), 3) := by decide +kernel
theorem dX11_windowEnds_80 : decode cX11_windowEnds 80 = .ok (.iload_n 2, 1) := by decide +kernel
theorem dX11_windowEnds_81 : decode cX11_windowEnds 81 = .ok (.ireturn, 1) := by decide +kernel
theorem dX11_hours_0 : decode cX11_hours 0 = .ok (.iconst 0, 1) := by decide +kernel
theorem dX11_hours_1 : decode cX11_hours 1 = .ok (.aload_n 0, 1) := by decide +kernel
theorem dX11_hours_2 : decode cX11_hours 2 = .ok (.iload_n 1, 1) := by decide +kernel
theorem dX11_hours_3 : decode cX11_hours 3 = .ok (.invokevirtual 128, 3) := by decide +kernel
theorem dX11_hours_6 : decode cX11_hours 6 = .ok (.aload_n 0, 1) := by decide +kernel
theorem dX11_hours_7 : decode cX11_hours 7 = .ok (.iload_n 1, 1) := by decide +kernel
theorem dX11_hours_8 : decode cX11_hours 8 = .ok (.invokevirtual 131, 3) := by decide +kernel
theorem dX11_hours_11 : decode cX11_hours 11 = .ok (.isub, 1) := by decide +kernel
theorem dX11_hours_12 : decode cX11_hours 12 = .ok (.iconst 1, 1) := by decide +kernel
theorem dX11_hours_13 : decode cX11_hours 13 = .ok (.iadd, 1) := by decide +kernel
theorem dX11_hours_14 : decode cX11_hours 14 = .ok (.invokestatic 119, 3) := by decide +kernel
theorem dX11_hours_17 : decode cX11_hours 17 = .ok (.ireturn, 1) := by decide +kernel
theorem dX11_isBehind_0 : decode cX11_isBehind 0 = .ok (.iconst 0, 1) := by decide +kernel
theorem dX11_isBehind_1 : decode cX11_isBehind 1 = .ok (.istore_n 3, 1) := by decide +kernel
theorem dX11_isBehind_2 : decode cX11_isBehind 2 = .ok (.iload_n 3, 1) := by decide +kernel
theorem dX11_isBehind_3 : decode cX11_isBehind 3 = .ok (.aload_n 0, 1) := by decide +kernel
theorem dX11_isBehind_4 : decode cX11_isBehind 4 = .ok (.getfield 20, 3) := by decide +kernel
theorem dX11_isBehind_7 : decode cX11_isBehind 7 = .ok (.getfield 65, 3) := by decide +kernel
theorem dX11_isBehind_10 : decode cX11_isBehind 10 = .ok (.if_icmp .ge 69, 3) := by decide +kernel
theorem dX11_isBehind_13 : decode cX11_isBehind 13 = .ok (.aload_n 0, 1) := by decide +kernel
theorem dX11_isBehind_14 : decode cX11_isBehind 14 = .ok (.getfield 20, 3) := by decide +kernel
theorem dX11_isBehind_17 : decode cX11_isBehind 17 = .ok (.getfield 68, 3) := by decide +kernel
theorem dX11_isBehind_20 : decode cX11_isBehind 20 = .ok (.iload_n 3, 1) := by decide +kernel
theorem dX11_isBehind_21 : decode cX11_isBehind 21 = .ok (.iaload, 1) := by decide +kernel
theorem dX11_isBehind_22 : decode cX11_isBehind 22 = .ok (.iconst 1, 1) := by decide +kernel
theorem dX11_isBehind_23 : decode cX11_isBehind 23 = .ok (.if_icmp .ne 50, 3) := by decide +kernel
theorem dX11_isBehind_26 : decode cX11_isBehind 26 = .ok (.aload_n 0, 1) := by decide +kernel
theorem dX11_isBehind_27 : decode cX11_isBehind 27 = .ok (.getfield 20, 3) := by decide +kernel
theorem dX11_isBehind_30 : decode cX11_isBehind 30 = .ok (.getfield 79, 3) := by decide +kernel
theorem dX11_isBehind_33 : decode cX11_isBehind 33 = .ok (.iload_n 3, 1) := by decide +kernel
theorem dX11_isBehind_34 : decode cX11_isBehind 34 = .ok (.iaload, 1) := by decide +kernel
theorem dX11_isBehind_35 : decode cX11_isBehind 35 = .ok (.iload_n 1, 1) := by decide +kernel
theorem dX11_isBehind_36 : decode cX11_isBehind 36 = .ok (.if_icmp .ne 37, 3) := by decide +kernel
theorem dX11_isBehind_39 : decode cX11_isBehind 39 = .ok (.iload_n 2, 1) := by decide +kernel
theorem dX11_isBehind_40 : decode cX11_isBehind 40 = .ok (.aload_n 0, 1) := by decide +kernel
theorem dX11_isBehind_41 : decode cX11_isBehind 41 = .ok (.getfield 20, 3) := by decide +kernel
theorem dX11_isBehind_44 : decode cX11_isBehind 44 = .ok (.getfield 73, 3) := by decide +kernel
theorem dX11_isBehind_47 : decode cX11_isBehind 47 = .ok (.iload_n 3, 1) := by decide +kernel
theorem dX11_isBehind_48 : decode cX11_isBehind 48 = .ok (.iaload, 1) := by decide +kernel
theorem dX11_isBehind_49 : decode cX11_isBehind 49 = .ok (.invokestatic 88, 3) := by decide +kernel
theorem dX11_isBehind_52 : decode cX11_isBehind 52 = .ok (.ifCond .ne 21, 3) := by decide +kernel
theorem dX11_isBehind_55 : decode cX11_isBehind 55 = .ok (.aload_n 0, 1) := by decide +kernel
theorem dX11_isBehind_56 : decode cX11_isBehind 56 = .ok (.aload_n 0, 1) := by decide +kernel
theorem dX11_isBehind_57 : decode cX11_isBehind 57 = .ok (.getfield 20, 3) := by decide +kernel
theorem dX11_isBehind_60 : decode cX11_isBehind 60 = .ok (.getfield 82, 3) := by decide +kernel
theorem dX11_isBehind_63 : decode cX11_isBehind 63 = .ok (.iload_n 3, 1) := by decide +kernel
theorem dX11_isBehind_64 : decode cX11_isBehind 64 = .ok (.iaload, 1) := by decide +kernel
theorem dX11_isBehind_65 : decode cX11_isBehind 65 = .ok (.invokevirtual 134, 3) := by decide +kernel
theorem dX11_isBehind_68 : decode cX11_isBehind 68 = .ok (.ifCond .eq 5, 3) := by decide +kernel
theorem dX11_isBehind_71 : decode cX11_isBehind 71 = .ok (.iconst 1, 1) := by decide +kernel
theorem dX11_isBehind_72 : decode cX11_isBehind 72 = .ok (.ireturn, 1) := by decide +kernel
theorem dX11_isBehind_73 : decode cX11_isBehind 73 = .ok (.iinc 3 1, 3) := by decide +kernel
theorem dX11_isBehind_76 : decode cX11_isBehind 76 = .ok (.goto (-74), 3) := by decide +kernel
theorem dX11_isBehind_79 : decode cX11_isBehind 79 = .ok (.iconst 0, 1) := by decide +kernel
theorem dX11_isBehind_80 : decode cX11_isBehind 80 = .ok (.ireturn, 1) := by decide +kernel
theorem dX11_isOrdered_0 : decode cX11_isOrdered 0 = .ok (.iconst 0, 1) := by decide +kernel
theorem dX11_isOrdered_1 : decode cX11_isOrdered 1 = .ok (.istore_n 1, 1) := by decide +kernel
theorem dX11_isOrdered_2 : decode cX11_isOrdered 2 = .ok (.iconst 0, 1) := by decide +kernel
theorem dX11_isOrdered_3 : decode cX11_isOrdered 3 = .ok (.istore_n 2, 1) := by decide +kernel
theorem dX11_isOrdered_4 : decode cX11_isOrdered 4 = .ok (.iload_n 2, 1) := by decide +kernel
theorem dX11_isOrdered_5 : decode cX11_isOrdered 5 = .ok (.aload_n 0, 1) := by decide +kernel
theorem dX11_isOrdered_6 : decode cX11_isOrdered 6 = .ok (.getfield 20, 3) := by decide +kernel
theorem dX11_isOrdered_9 : decode cX11_isOrdered 9 = .ok (.getfield 55, 3) := by decide +kernel
theorem dX11_isOrdered_12 : decode cX11_isOrdered 12 = .ok (.if_icmp .ge 71, 3) := by decide +kernel
theorem dX11_isOrdered_15 : decode cX11_isOrdered 15 = .ok (.iconst 0, 1) := by decide +kernel
theorem dX11_isOrdered_16 : decode cX11_isOrdered 16 = .ok (.istore_n 3, 1) := by decide +kernel
theorem dX11_isOrdered_17 : decode cX11_isOrdered 17 = .ok (.iload_n 3, 1) := by decide +kernel
theorem dX11_isOrdered_18 : decode cX11_isOrdered 18 = .ok (.aload_n 0, 1) := by decide +kernel
theorem dX11_isOrdered_19 : decode cX11_isOrdered 19 = .ok (.getfield 20, 3) := by decide +kernel
theorem dX11_isOrdered_22 : decode cX11_isOrdered 22 = .ok (.getfield 55, 3) := by decide +kernel
theorem dX11_isOrdered_25 : decode cX11_isOrdered 25 = .ok (.if_icmp .ge 26, 3) := by decide +kernel
theorem dX11_isOrdered_28 : decode cX11_isOrdered 28 = .ok (.iload_n 1, 1) := by decide +kernel
theorem dX11_isOrdered_29 : decode cX11_isOrdered 29 = .ok (.iload_n 3, 1) := by decide +kernel
theorem dX11_isOrdered_30 : decode cX11_isOrdered 30 = .ok (.invokestatic 88, 3) := by decide +kernel
theorem dX11_isOrdered_33 : decode cX11_isOrdered 33 = .ok (.ifCond .ne 12, 3) := by decide +kernel
theorem dX11_isOrdered_36 : decode cX11_isOrdered 36 = .ok (.aload_n 0, 1) := by decide +kernel
theorem dX11_isOrdered_37 : decode cX11_isOrdered 37 = .ok (.iload_n 3, 1) := by decide +kernel
theorem dX11_isOrdered_38 : decode cX11_isOrdered 38 = .ok (.iload_n 1, 1) := by decide +kernel
theorem dX11_isOrdered_39 : decode cX11_isOrdered 39 = .ok (.invokevirtual 138, 3) := by decide +kernel
theorem dX11_isOrdered_42 : decode cX11_isOrdered 42 = .ok (.ifCond .eq 9, 3) := by decide +kernel
theorem dX11_isOrdered_45 : decode cX11_isOrdered 45 = .ok (.iinc 3 1, 3) := by decide +kernel
theorem dX11_isOrdered_48 : decode cX11_isOrdered 48 = .ok (.goto (-31), 3) := by decide +kernel
theorem dX11_isOrdered_51 : decode cX11_isOrdered 51 = .ok (.iload_n 3, 1) := by decide +kernel
theorem dX11_isOrdered_52 : decode cX11_isOrdered 52 = .ok (.aload_n 0, 1) := by decide +kernel
theorem dX11_isOrdered_53 : decode cX11_isOrdered 53 = .ok (.getfield 20, 3) := by decide +kernel
theorem dX11_isOrdered_56 : decode cX11_isOrdered 56 = .ok (.getfield 55, 3) := by decide +kernel
theorem dX11_isOrdered_59 : decode cX11_isOrdered 59 = .ok (.if_icmp .ne 5, 3) := by decide +kernel
theorem dX11_isOrdered_62 : decode cX11_isOrdered 62 = .ok (.iconst 0, 1) := by decide +kernel
theorem dX11_isOrdered_63 : decode cX11_isOrdered 63 = .ok (.ireturn, 1) := by decide +kernel
theorem dX11_isOrdered_64 : decode cX11_isOrdered 64 = .ok (.aload_n 0, 1) := by decide +kernel
theorem dX11_isOrdered_65 : decode cX11_isOrdered 65 = .ok (.getfield 46, 3) := by decide +kernel
theorem dX11_isOrdered_68 : decode cX11_isOrdered 68 = .ok (.iload_n 2, 1) := by decide +kernel
theorem dX11_isOrdered_69 : decode cX11_isOrdered 69 = .ok (.iload_n 3, 1) := by decide +kernel
theorem dX11_isOrdered_70 : decode cX11_isOrdered 70 = .ok (.iastore, 1) := by decide +kernel
theorem dX11_isOrdered_71 : decode cX11_isOrdered 71 = .ok (.iload_n 1, 1) := by decide +kernel
theorem dX11_isOrdered_72 : decode cX11_isOrdered 72 = .ok (.iconst 1, 1) := by decide +kernel
theorem dX11_isOrdered_73 : decode cX11_isOrdered 73 = .ok (.iload_n 3, 1) := by decide +kernel
theorem dX11_isOrdered_74 : decode cX11_isOrdered 74 = .ok (.ishl, 1) := by decide +kernel
theorem dX11_isOrdered_75 : decode cX11_isOrdered 75 = .ok (.ior, 1) := by decide +kernel
theorem dX11_isOrdered_76 : decode cX11_isOrdered 76 = .ok (.istore_n 1, 1) := by decide +kernel
theorem dX11_isOrdered_77 : decode cX11_isOrdered 77 = .ok (.iinc 2 1, 3) := by decide +kernel
theorem dX11_isOrdered_80 : decode cX11_isOrdered 80 = .ok (.goto (-76), 3) := by decide +kernel
theorem dX11_isOrdered_83 : decode cX11_isOrdered 83 = .ok (.iconst 1, 1) := by decide +kernel
theorem dX11_isOrdered_84 : decode cX11_isOrdered 84 = .ok (.ireturn, 1) := by decide +kernel
theorem dX11_pass_0 : decode cX11_pass 0 = .ok (.aload_n 0, 1) := by decide +kernel
theorem dX11_pass_1 : decode cX11_pass 1 = .ok (.getfield 141, 3) := by decide +kernel
theorem dX11_pass_4 : decode cX11_pass 4 = .ok (.istore_n 2, 1) := by decide +kernel
theorem dX11_pass_5 : decode cX11_pass 5 = .ok (.iconst 0, 1) := by decide +kernel
theorem dX11_pass_6 : decode cX11_pass 6 = .ok (.istore_n 3, 1) := by decide +kernel
theorem dX11_pass_7 : decode cX11_pass 7 = .ok (.iload_n 3, 1) := by decide +kernel
theorem dX11_pass_8 : decode cX11_pass 8 = .ok (.iload_n 1, 1) := by decide +kernel
theorem dX11_pass_9 : decode cX11_pass 9 = .ok (.if_icmp .ge 133, 3) := by decide +kernel
theorem dX11_pass_12 : decode cX11_pass 12 = .ok (.iconst 0, 1) := by decide +kernel
theorem dX11_pass_13 : decode cX11_pass 13 = .ok (.istore 4, 2) := by decide +kernel
theorem dX11_pass_15 : decode cX11_pass 15 = .ok (.iload 4, 2) := by decide +kernel
theorem dX11_pass_17 : decode cX11_pass 17 = .ok (.aload_n 0, 1) := by decide +kernel
theorem dX11_pass_18 : decode cX11_pass 18 = .ok (.getfield 20, 3) := by decide +kernel
theorem dX11_pass_21 : decode cX11_pass 21 = .ok (.getfield 144, 3) := by decide +kernel
theorem dX11_pass_24 : decode cX11_pass 24 = .ok (.if_icmp .ge 102, 3) := by decide +kernel
theorem dX11_pass_27 : decode cX11_pass 27 = .ok (.aload_n 0, 1) := by decide +kernel
theorem dX11_pass_28 : decode cX11_pass 28 = .ok (.iload 4, 2) := by decide +kernel
theorem dX11_pass_30 : decode cX11_pass 30 = .ok (.invokevirtual 147, 3) := by decide +kernel
theorem dX11_pass_33 : decode cX11_pass 33 = .ok (.ifCond .ne 6, 3) := by decide +kernel
theorem dX11_pass_36 : decode cX11_pass 36 = .ok (.goto 84, 3) := by decide +kernel
theorem dX11_pass_39 : decode cX11_pass 39 = .ok (.aload_n 0, 1) := by decide +kernel
theorem dX11_pass_40 : decode cX11_pass 40 = .ok (.getfield 85, 3) := by decide +kernel
theorem dX11_pass_43 : decode cX11_pass 43 = .ok (.istore 5, 2) := by decide +kernel
theorem dX11_pass_45 : decode cX11_pass 45 = .ok (.iconst 1, 1) := by decide +kernel
theorem dX11_pass_46 : decode cX11_pass 46 = .ok (.aload_n 0, 1) := by decide +kernel
theorem dX11_pass_47 : decode cX11_pass 47 = .ok (.getfield 20, 3) := by decide +kernel
theorem dX11_pass_50 : decode cX11_pass 50 = .ok (.getfield 150, 3) := by decide +kernel
theorem dX11_pass_53 : decode cX11_pass 53 = .ok (.iload 4, 2) := by decide +kernel
theorem dX11_pass_55 : decode cX11_pass 55 = .ok (.iaload, 1) := by decide +kernel
theorem dX11_pass_56 : decode cX11_pass 56 = .ok (.ishl, 1) := by decide +kernel
theorem dX11_pass_57 : decode cX11_pass 57 = .ok (.istore 6, 2) := by decide +kernel
theorem dX11_pass_59 : decode cX11_pass 59 = .ok (.aload_n 0, 1) := by decide +kernel
theorem dX11_pass_60 : decode cX11_pass 60 = .ok (.aload_n 0, 1) := by decide +kernel
theorem dX11_pass_61 : decode cX11_pass 61 = .ok (.getfield 20, 3) := by decide +kernel
theorem dX11_pass_64 : decode cX11_pass 64 = .ok (.getfield 153, 3) := by decide +kernel
theorem dX11_pass_67 : decode cX11_pass 67 = .ok (.iload 4, 2) := by decide +kernel
theorem dX11_pass_69 : decode cX11_pass 69 = .ok (.iaload, 1) := by decide +kernel
theorem dX11_pass_70 : decode cX11_pass 70 = .ok (.bipush 7, 2) := by decide +kernel
theorem dX11_pass_72 : decode cX11_pass 72 = .ok (.if_icmp .ne 13, 3) := by decide +kernel
theorem dX11_pass_75 : decode cX11_pass 75 = .ok (.aload_n 0, 1) := by decide +kernel
theorem dX11_pass_76 : decode cX11_pass 76 = .ok (.getfield 85, 3) := by decide +kernel
theorem dX11_pass_79 : decode cX11_pass 79 = .ok (.iload 6, 2) := by decide +kernel
theorem dX11_pass_81 : decode cX11_pass 81 = .ok (.ior, 1) := by decide +kernel
theorem dX11_pass_82 : decode cX11_pass 82 = .ok (.goto 12, 3) := by decide +kernel
theorem dX11_pass_85 : decode cX11_pass 85 = .ok (.aload_n 0, 1) := by decide +kernel
theorem dX11_pass_86 : decode cX11_pass 86 = .ok (.getfield 85, 3) := by decide +kernel
theorem dX11_pass_89 : decode cX11_pass 89 = .ok (.iload 6, 2) := by decide +kernel
theorem dX11_pass_91 : decode cX11_pass 91 = .ok (.iconst (-1), 1) := by decide +kernel
theorem dX11_pass_92 : decode cX11_pass 92 = .ok (.ixor, 1) := by decide +kernel
theorem dX11_pass_93 : decode cX11_pass 93 = .ok (.iand, 1) := by decide +kernel
theorem dX11_pass_94 : decode cX11_pass 94 = .ok (.putfield 85, 3) := by decide +kernel
theorem dX11_pass_97 : decode cX11_pass 97 = .ok (.aload_n 0, 1) := by decide +kernel
theorem dX11_pass_98 : decode cX11_pass 98 = .ok (.dup, 1) := by decide +kernel
theorem dX11_pass_99 : decode cX11_pass 99 = .ok (.getfield 141, 3) := by decide +kernel
theorem dX11_pass_102 : decode cX11_pass 102 = .ok (.aload_n 0, 1) := by decide +kernel
theorem dX11_pass_103 : decode cX11_pass 103 = .ok (.getfield 85, 3) := by decide +kernel
theorem dX11_pass_106 : decode cX11_pass 106 = .ok (.iload 5, 2) := by decide +kernel
theorem dX11_pass_108 : decode cX11_pass 108 = .ok (.if_icmp .ne 7, 3) := by decide +kernel
theorem dX11_pass_111 : decode cX11_pass 111 = .ok (.iconst 0, 1) := by decide +kernel
theorem dX11_pass_112 : decode cX11_pass 112 = .ok (.goto 4, 3) := by decide +kernel
theorem dX11_pass_115 : decode cX11_pass 115 = .ok (.iconst 1, 1) := by decide +kernel
theorem dX11_pass_116 : decode cX11_pass 116 = .ok (.iadd, 1) := by decide +kernel
theorem dX11_pass_117 : decode cX11_pass 117 = .ok (.putfield 141, 3) := by decide +kernel
theorem dX11_pass_120 : decode cX11_pass 120 = .ok (.iinc 4 1, 3) := by decide +kernel
theorem dX11_pass_123 : decode cX11_pass 123 = .ok (.goto (-108), 3) := by decide +kernel
theorem dX11_pass_126 : decode cX11_pass 126 = .ok (.aload_n 0, 1) := by decide +kernel
theorem dX11_pass_127 : decode cX11_pass 127 = .ok (.dup, 1) := by decide +kernel
theorem dX11_pass_128 : decode cX11_pass 128 = .ok (.getfield 156, 3) := by decide +kernel
theorem dX11_pass_131 : decode cX11_pass 131 = .ok (.iconst 1, 1) := by decide +kernel
theorem dX11_pass_132 : decode cX11_pass 132 = .ok (.iadd, 1) := by decide +kernel
theorem dX11_pass_133 : decode cX11_pass 133 = .ok (.putfield 156, 3) := by decide +kernel
theorem dX11_pass_136 : decode cX11_pass 136 = .ok (.iinc 3 1, 3) := by decide +kernel
theorem dX11_pass_139 : decode cX11_pass 139 = .ok (.goto (-132), 3) := by decide +kernel
theorem dX11_pass_142 : decode cX11_pass 142 = .ok (.aload_n 0, 1) := by decide +kernel
theorem dX11_pass_143 : decode cX11_pass 143 = .ok (.getfield 141, 3) := by decide +kernel
theorem dX11_pass_146 : decode cX11_pass 146 = .ok (.iload_n 2, 1) := by decide +kernel
theorem dX11_pass_147 : decode cX11_pass 147 = .ok (.isub, 1) := by decide +kernel
theorem dX11_pass_148 : decode cX11_pass 148 = .ok (.ireturn, 1) := by decide +kernel
theorem dX11_one_0 : decode cX11_one 0 = .ok (.iload_n 0, 1) := by decide +kernel
theorem dX11_one_1 : decode cX11_one 1 = .ok (.ifCond .eq 7, 3) := by decide +kernel
theorem dX11_one_4 : decode cX11_one 4 = .ok (.iconst 1, 1) := by decide +kernel
theorem dX11_one_5 : decode cX11_one 5 = .ok (.goto 4, 3) := by decide +kernel
theorem dX11_one_8 : decode cX11_one 8 = .ok (.iconst 0, 1) := by decide +kernel
theorem dX11_one_9 : decode cX11_one 9 = .ok (.ireturn, 1) := by decide +kernel
theorem dX11_claimsBy_0 : decode cX11_claimsBy 0 = .ok (.iconst 0, 1) := by decide +kernel
theorem dX11_claimsBy_1 : decode cX11_claimsBy 1 = .ok (.istore_n 2, 1) := by decide +kernel
theorem dX11_claimsBy_2 : decode cX11_claimsBy 2 = .ok (.iconst 0, 1) := by decide +kernel
theorem dX11_claimsBy_3 : decode cX11_claimsBy 3 = .ok (.istore_n 3, 1) := by decide +kernel
theorem dX11_claimsBy_4 : decode cX11_claimsBy 4 = .ok (.iload_n 3, 1) := by decide +kernel
theorem dX11_claimsBy_5 : decode cX11_claimsBy 5 = .ok (.aload_n 0, 1) := by decide +kernel
theorem dX11_claimsBy_6 : decode cX11_claimsBy 6 = .ok (.getfield 20, 3) := by decide +kernel
theorem dX11_claimsBy_9 : decode cX11_claimsBy 9 = .ok (.getfield 65, 3) := by decide +kernel
theorem dX11_claimsBy_12 : decode cX11_claimsBy 12 = .ok (.if_icmp .ge 30, 3) := by decide +kernel
theorem dX11_claimsBy_15 : decode cX11_claimsBy 15 = .ok (.iload_n 2, 1) := by decide +kernel
theorem dX11_claimsBy_16 : decode cX11_claimsBy 16 = .ok (.aload_n 0, 1) := by decide +kernel
theorem dX11_claimsBy_17 : decode cX11_claimsBy 17 = .ok (.getfield 20, 3) := by decide +kernel
theorem dX11_claimsBy_20 : decode cX11_claimsBy 20 = .ok (.getfield 82, 3) := by decide +kernel
theorem dX11_claimsBy_23 : decode cX11_claimsBy 23 = .ok (.iload_n 3, 1) := by decide +kernel
theorem dX11_claimsBy_24 : decode cX11_claimsBy 24 = .ok (.iaload, 1) := by decide +kernel
theorem dX11_claimsBy_25 : decode cX11_claimsBy 25 = .ok (.iload_n 1, 1) := by decide +kernel
theorem dX11_claimsBy_26 : decode cX11_claimsBy 26 = .ok (.if_icmp .ne 7, 3) := by decide +kernel
theorem dX11_claimsBy_29 : decode cX11_claimsBy 29 = .ok (.iconst 1, 1) := by decide +kernel
theorem dX11_claimsBy_30 : decode cX11_claimsBy 30 = .ok (.goto 4, 3) := by decide +kernel
theorem dX11_claimsBy_33 : decode cX11_claimsBy 33 = .ok (.iconst 0, 1) := by decide +kernel
theorem dX11_claimsBy_34 : decode cX11_claimsBy 34 = .ok (.iadd, 1) := by decide +kernel
theorem dX11_claimsBy_35 : decode cX11_claimsBy 35 = .ok (.istore_n 2, 1) := by decide +kernel
theorem dX11_claimsBy_36 : decode cX11_claimsBy 36 = .ok (.iinc 3 1, 3) := by decide +kernel
theorem dX11_claimsBy_39 : decode cX11_claimsBy 39 = .ok (.goto (-35), 3) := by decide +kernel
theorem dX11_claimsBy_42 : decode cX11_claimsBy 42 = .ok (.iload_n 2, 1) := by decide +kernel
theorem dX11_claimsBy_43 : decode cX11_claimsBy 43 = .ok (.ireturn, 1) := by decide +kernel
theorem dX11_ask_0 : decode cX11_ask 0 = .ok (.iload_n 1, 1) := by decide +kernel
theorem dX11_ask_1 : decode cX11_ask 1 = .ok (.lookupswitch 147 #[(10, 85), (11, 90), (12, 95), (13, 104), (14, 116), (15, 122), (17, 128), (18, 138), (100, 83)], 83) := by decide +kernel
theorem dX11_ask_84 : decode cX11_ask 84 = .ok (.iload_n 2, 1) := by decide +kernel
theorem dX11_ask_85 : decode cX11_ask 85 = .ok (.ireturn, 1) := by decide +kernel
theorem dX11_ask_86 : decode cX11_ask 86 = .ok (.aload_n 0, 1) := by decide +kernel
theorem dX11_ask_87 : decode cX11_ask 87 = .ok (.getfield 156, 3) := by decide +kernel
theorem dX11_ask_90 : decode cX11_ask 90 = .ok (.ireturn, 1) := by decide +kernel
theorem dX11_ask_91 : decode cX11_ask 91 = .ok (.aload_n 0, 1) := by decide +kernel
theorem dX11_ask_92 : decode cX11_ask 92 = .ok (.invokevirtual 159, 3) := by decide +kernel
theorem dX11_ask_95 : decode cX11_ask 95 = .ok (.ireturn, 1) := by decide +kernel
theorem dX11_ask_96 : decode cX11_ask 96 = .ok (.aload_n 0, 1) := by decide +kernel
theorem dX11_ask_97 : decode cX11_ask 97 = .ok (.aload_n 0, 1) := by decide +kernel
theorem dX11_ask_98 : decode cX11_ask 98 = .ok (.invokevirtual 91, 3) := by decide +kernel
theorem dX11_ask_101 : decode cX11_ask 101 = .ok (.invokevirtual 162, 3) := by decide +kernel
theorem dX11_ask_104 : decode cX11_ask 104 = .ok (.ireturn, 1) := by decide +kernel
theorem dX11_ask_105 : decode cX11_ask 105 = .ok (.aload_n 0, 1) := by decide +kernel
theorem dX11_ask_106 : decode cX11_ask 106 = .ok (.getfield 85, 3) := by decide +kernel
theorem dX11_ask_109 : decode cX11_ask 109 = .ok (.iload_n 2, 1) := by decide +kernel
theorem dX11_ask_110 : decode cX11_ask 110 = .ok (.invokestatic 88, 3) := by decide +kernel
theorem dX11_ask_113 : decode cX11_ask 113 = .ok (.invokestatic 165, 3) := by decide +kernel
theorem dX11_ask_116 : decode cX11_ask 116 = .ok (.ireturn, 1) := by decide +kernel
theorem dX11_ask_117 : decode cX11_ask 117 = .ok (.aload_n 0, 1) := by decide +kernel
theorem dX11_ask_118 : decode cX11_ask 118 = .ok (.iload_n 2, 1) := by decide +kernel
theorem dX11_ask_119 : decode cX11_ask 119 = .ok (.invokevirtual 169, 3) := by decide +kernel
theorem dX11_ask_122 : decode cX11_ask 122 = .ok (.ireturn, 1) := by decide +kernel
theorem dX11_ask_123 : decode cX11_ask 123 = .ok (.aload_n 0, 1) := by decide +kernel
theorem dX11_ask_124 : decode cX11_ask 124 = .ok (.iload_n 2, 1) := by decide +kernel
theorem dX11_ask_125 : decode cX11_ask 125 = .ok (.invokevirtual 172, 3) := by decide +kernel
theorem dX11_ask_128 : decode cX11_ask 128 = .ok (.ireturn, 1) := by decide +kernel
theorem dX11_ask_129 : decode cX11_ask 129 = .ok (.aload_n 0, 1) := by decide +kernel
theorem dX11_ask_130 : decode cX11_ask 130 = .ok (.iload_n 2, 1) := by decide +kernel
theorem dX11_ask_131 : decode cX11_ask 131 = .ok (.iload_n 3, 1) := by decide +kernel
theorem dX11_ask_132 : decode cX11_ask 132 = .ok (.invokevirtual 175, 3) := by decide +kernel
theorem dX11_ask_135 : decode cX11_ask 135 = .ok (.invokestatic 165, 3) := by decide +kernel
theorem dX11_ask_138 : decode cX11_ask 138 = .ok (.ireturn, 1) := by decide +kernel
theorem dX11_ask_139 : decode cX11_ask 139 = .ok (.aload_n 0, 1) := by decide +kernel
theorem dX11_ask_140 : decode cX11_ask 140 = .ok (.iload_n 2, 1) := by decide +kernel
theorem dX11_ask_141 : decode cX11_ask 141 = .ok (.invokevirtual 178, 3) := by decide +kernel
theorem dX11_ask_144 : decode cX11_ask 144 = .ok (.invokestatic 165, 3) := by decide +kernel
theorem dX11_ask_147 : decode cX11_ask 147 = .ok (.ireturn, 1) := by decide +kernel
theorem dX11_ask_148 : decode cX11_ask 148 = .ok (.aload_n 0, 1) := by decide +kernel
theorem dX11_ask_149 : decode cX11_ask 149 = .ok (.iload_n 2, 1) := by decide +kernel
theorem dX11_ask_150 : decode cX11_ask 150 = .ok (.invokevirtual 172, 3) := by decide +kernel
theorem dX11_ask_153 : decode cX11_ask 153 = .ok (.ifCond .le 7, 3) := by decide +kernel
theorem dX11_ask_156 : decode cX11_ask 156 = .ok (.iconst 1, 1) := by decide +kernel
theorem dX11_ask_157 : decode cX11_ask 157 = .ok (.goto 4, 3) := by decide +kernel
theorem dX11_ask_160 : decode cX11_ask 160 = .ok (.iconst 0, 1) := by decide +kernel
theorem dX11_ask_161 : decode cX11_ask 161 = .ok (.invokestatic 165, 3) := by decide +kernel
theorem dX11_ask_164 : decode cX11_ask 164 = .ok (.ireturn, 1) := by decide +kernel
theorem dX11_isAsked_0 : decode cX11_isAsked 0 = .ok (.iload_n 0, 1) := by decide +kernel
theorem dX11_isAsked_1 : decode cX11_isAsked 1 = .ok (.bipush 100, 2) := by decide +kernel
theorem dX11_isAsked_3 : decode cX11_isAsked 3 = .ok (.if_icmp .eq 25, 3) := by decide +kernel
theorem dX11_isAsked_6 : decode cX11_isAsked 6 = .ok (.iload_n 0, 1) := by decide +kernel
theorem dX11_isAsked_7 : decode cX11_isAsked 7 = .ok (.bipush 10, 2) := by decide +kernel
theorem dX11_isAsked_9 : decode cX11_isAsked 9 = .ok (.bipush 15, 2) := by decide +kernel
theorem dX11_isAsked_11 : decode cX11_isAsked 11 = .ok (.invokestatic 58, 3) := by decide +kernel
theorem dX11_isAsked_14 : decode cX11_isAsked 14 = .ok (.ifCond .ne 14, 3) := by decide +kernel
theorem dX11_isAsked_17 : decode cX11_isAsked 17 = .ok (.iload_n 0, 1) := by decide +kernel
theorem dX11_isAsked_18 : decode cX11_isAsked 18 = .ok (.bipush 17, 2) := by decide +kernel
theorem dX11_isAsked_20 : decode cX11_isAsked 20 = .ok (.bipush 19, 2) := by decide +kernel
theorem dX11_isAsked_22 : decode cX11_isAsked 22 = .ok (.invokestatic 58, 3) := by decide +kernel
theorem dX11_isAsked_25 : decode cX11_isAsked 25 = .ok (.ifCond .eq 7, 3) := by decide +kernel
theorem dX11_isAsked_28 : decode cX11_isAsked 28 = .ok (.iconst 1, 1) := by decide +kernel
theorem dX11_isAsked_29 : decode cX11_isAsked 29 = .ok (.goto 4, 3) := by decide +kernel
theorem dX11_isAsked_32 : decode cX11_isAsked 32 = .ok (.iconst 0, 1) := by decide +kernel
theorem dX11_isAsked_33 : decode cX11_isAsked 33 = .ok (.ireturn, 1) := by decide +kernel
theorem dX11_reckon_0 : decode cX11_reckon 0 = .ok (.iload_n 0, 1) := by decide +kernel
theorem dX11_reckon_1 : decode cX11_reckon 1 = .ok (.lookupswitch 217 #[(21, 213), (23, 131), (24, 137), (101, 107), (102, 111), (103, 115), (104, 119), (106, 143), (107, 157), (108, 171), (109, 185), (110, 199)], 107) := by decide +kernel
theorem dX11_reckon_108 : decode cX11_reckon 108 = .ok (.iload_n 1, 1) := by decide +kernel
theorem dX11_reckon_109 : decode cX11_reckon 109 = .ok (.iload_n 2, 1) := by decide +kernel
theorem dX11_reckon_110 : decode cX11_reckon 110 = .ok (.iadd, 1) := by decide +kernel
theorem dX11_reckon_111 : decode cX11_reckon 111 = .ok (.ireturn, 1) := by decide +kernel
theorem dX11_reckon_112 : decode cX11_reckon 112 = .ok (.iload_n 1, 1) := by decide +kernel
theorem dX11_reckon_113 : decode cX11_reckon 113 = .ok (.iload_n 2, 1) := by decide +kernel
theorem dX11_reckon_114 : decode cX11_reckon 114 = .ok (.isub, 1) := by decide +kernel
theorem dX11_reckon_115 : decode cX11_reckon 115 = .ok (.ireturn, 1) := by decide +kernel
theorem dX11_reckon_116 : decode cX11_reckon 116 = .ok (.iload_n 1, 1) := by decide +kernel
theorem dX11_reckon_117 : decode cX11_reckon 117 = .ok (.iload_n 2, 1) := by decide +kernel
theorem dX11_reckon_118 : decode cX11_reckon 118 = .ok (.imul, 1) := by decide +kernel
theorem dX11_reckon_119 : decode cX11_reckon 119 = .ok (.ireturn, 1) := by decide +kernel
theorem dX11_reckon_120 : decode cX11_reckon 120 = .ok (.iload_n 2, 1) := by decide +kernel
theorem dX11_reckon_121 : decode cX11_reckon 121 = .ok (.ifCond .ne 7, 3) := by decide +kernel
theorem dX11_reckon_124 : decode cX11_reckon 124 = .ok (.iconst 0, 1) := by decide +kernel
theorem dX11_reckon_125 : decode cX11_reckon 125 = .ok (.goto 6, 3) := by decide +kernel
theorem dX11_reckon_128 : decode cX11_reckon 128 = .ok (.iload_n 1, 1) := by decide +kernel
theorem dX11_reckon_129 : decode cX11_reckon 129 = .ok (.iload_n 2, 1) := by decide +kernel
theorem dX11_reckon_130 : decode cX11_reckon 130 = .ok (.idiv, 1) := by decide +kernel
theorem dX11_reckon_131 : decode cX11_reckon 131 = .ok (.ireturn, 1) := by decide +kernel
theorem dX11_reckon_132 : decode cX11_reckon 132 = .ok (.iload_n 1, 1) := by decide +kernel
theorem dX11_reckon_133 : decode cX11_reckon 133 = .ok (.iload_n 2, 1) := by decide +kernel
theorem dX11_reckon_134 : decode cX11_reckon 134 = .ok (.invokestatic 125, 3) := by decide +kernel
theorem dX11_reckon_137 : decode cX11_reckon 137 = .ok (.ireturn, 1) := by decide +kernel
theorem dX11_reckon_138 : decode cX11_reckon 138 = .ok (.iload_n 1, 1) := by decide +kernel
theorem dX11_reckon_139 : decode cX11_reckon 139 = .ok (.iload_n 2, 1) := by decide +kernel
theorem dX11_reckon_140 : decode cX11_reckon 140 = .ok (.invokestatic 119, 3) := by decide +kernel
theorem dX11_reckon_143 : decode cX11_reckon 143 = .ok (.ireturn, 1) := by decide +kernel
theorem dX11_reckon_144 : decode cX11_reckon 144 = .ok (.iload_n 1, 1) := by decide +kernel
theorem dX11_reckon_145 : decode cX11_reckon 145 = .ok (.iload_n 2, 1) := by decide +kernel
theorem dX11_reckon_146 : decode cX11_reckon 146 = .ok (.if_icmp .ge 7, 3) := by decide +kernel
theorem dX11_reckon_149 : decode cX11_reckon 149 = .ok (.iconst 1, 1) := by decide +kernel
theorem dX11_reckon_150 : decode cX11_reckon 150 = .ok (.goto 4, 3) := by decide +kernel
theorem dX11_reckon_153 : decode cX11_reckon 153 = .ok (.iconst 0, 1) := by decide +kernel
theorem dX11_reckon_154 : decode cX11_reckon 154 = .ok (.invokestatic 165, 3) := by decide +kernel
theorem dX11_reckon_157 : decode cX11_reckon 157 = .ok (.ireturn, 1) := by decide +kernel
theorem dX11_reckon_158 : decode cX11_reckon 158 = .ok (.iload_n 1, 1) := by decide +kernel
theorem dX11_reckon_159 : decode cX11_reckon 159 = .ok (.iload_n 2, 1) := by decide +kernel
theorem dX11_reckon_160 : decode cX11_reckon 160 = .ok (.if_icmp .le 7, 3) := by decide +kernel
theorem dX11_reckon_163 : decode cX11_reckon 163 = .ok (.iconst 1, 1) := by decide +kernel
theorem dX11_reckon_164 : decode cX11_reckon 164 = .ok (.goto 4, 3) := by decide +kernel
theorem dX11_reckon_167 : decode cX11_reckon 167 = .ok (.iconst 0, 1) := by decide +kernel
theorem dX11_reckon_168 : decode cX11_reckon 168 = .ok (.invokestatic 165, 3) := by decide +kernel
theorem dX11_reckon_171 : decode cX11_reckon 171 = .ok (.ireturn, 1) := by decide +kernel
theorem dX11_reckon_172 : decode cX11_reckon 172 = .ok (.iload_n 1, 1) := by decide +kernel
theorem dX11_reckon_173 : decode cX11_reckon 173 = .ok (.iload_n 2, 1) := by decide +kernel
theorem dX11_reckon_174 : decode cX11_reckon 174 = .ok (.if_icmp .ne 7, 3) := by decide +kernel
theorem dX11_reckon_177 : decode cX11_reckon 177 = .ok (.iconst 1, 1) := by decide +kernel
theorem dX11_reckon_178 : decode cX11_reckon 178 = .ok (.goto 4, 3) := by decide +kernel
theorem dX11_reckon_181 : decode cX11_reckon 181 = .ok (.iconst 0, 1) := by decide +kernel
theorem dX11_reckon_182 : decode cX11_reckon 182 = .ok (.invokestatic 165, 3) := by decide +kernel
theorem dX11_reckon_185 : decode cX11_reckon 185 = .ok (.ireturn, 1) := by decide +kernel
theorem dX11_reckon_186 : decode cX11_reckon 186 = .ok (.iload_n 1, 1) := by decide +kernel
theorem dX11_reckon_187 : decode cX11_reckon 187 = .ok (.iload_n 2, 1) := by decide +kernel
theorem dX11_reckon_188 : decode cX11_reckon 188 = .ok (.if_icmp .gt 7, 3) := by decide +kernel
theorem dX11_reckon_191 : decode cX11_reckon 191 = .ok (.iconst 1, 1) := by decide +kernel
theorem dX11_reckon_192 : decode cX11_reckon 192 = .ok (.goto 4, 3) := by decide +kernel
theorem dX11_reckon_195 : decode cX11_reckon 195 = .ok (.iconst 0, 1) := by decide +kernel
theorem dX11_reckon_196 : decode cX11_reckon 196 = .ok (.invokestatic 165, 3) := by decide +kernel
theorem dX11_reckon_199 : decode cX11_reckon 199 = .ok (.ireturn, 1) := by decide +kernel
theorem dX11_reckon_200 : decode cX11_reckon 200 = .ok (.iload_n 1, 1) := by decide +kernel
theorem dX11_reckon_201 : decode cX11_reckon 201 = .ok (.iload_n 2, 1) := by decide +kernel
theorem dX11_reckon_202 : decode cX11_reckon 202 = .ok (.if_icmp .lt 7, 3) := by decide +kernel
theorem dX11_reckon_205 : decode cX11_reckon 205 = .ok (.iconst 1, 1) := by decide +kernel
theorem dX11_reckon_206 : decode cX11_reckon 206 = .ok (.goto 4, 3) := by decide +kernel
theorem dX11_reckon_209 : decode cX11_reckon 209 = .ok (.iconst 0, 1) := by decide +kernel
theorem dX11_reckon_210 : decode cX11_reckon 210 = .ok (.invokestatic 165, 3) := by decide +kernel
theorem dX11_reckon_213 : decode cX11_reckon 213 = .ok (.ireturn, 1) := by decide +kernel
theorem dX11_reckon_214 : decode cX11_reckon 214 = .ok (.iload_n 1, 1) := by decide +kernel
theorem dX11_reckon_215 : decode cX11_reckon 215 = .ok (.iload_n 2, 1) := by decide +kernel
theorem dX11_reckon_216 : decode cX11_reckon 216 = .ok (.iand, 1) := by decide +kernel
theorem dX11_reckon_217 : decode cX11_reckon 217 = .ok (.ireturn, 1) := by decide +kernel
theorem dX11_reckon_218 : decode cX11_reckon 218 = .ok (.iload_n 1, 1) := by decide +kernel
theorem dX11_reckon_219 : decode cX11_reckon 219 = .ok (.iload_n 2, 1) := by decide +kernel
theorem dX11_reckon_220 : decode cX11_reckon 220 = .ok (.ior, 1) := by decide +kernel
theorem dX11_reckon_221 : decode cX11_reckon 221 = .ok (.ireturn, 1) := by decide +kernel
theorem dX11_holds_0 : decode cX11_holds 0 = .ok (.iconst 0, 1) := by decide +kernel
theorem dX11_holds_1 : decode cX11_holds 1 = .ok (.istore_n 2, 1) := by decide +kernel
theorem dX11_holds_2 : decode cX11_holds 2 = .ok (.aload_n 0, 1) := by decide +kernel
theorem dX11_holds_3 : decode cX11_holds 3 = .ok (.getfield 20, 3) := by decide +kernel
theorem dX11_holds_6 : decode cX11_holds 6 = .ok (.getfield 181, 3) := by decide +kernel
theorem dX11_holds_9 : decode cX11_holds 9 = .ok (.iload_n 1, 1) := by decide +kernel
theorem dX11_holds_10 : decode cX11_holds 10 = .ok (.iaload, 1) := by decide +kernel
theorem dX11_holds_11 : decode cX11_holds 11 = .ok (.istore_n 3, 1) := by decide +kernel
theorem dX11_holds_12 : decode cX11_holds 12 = .ok (.iload_n 3, 1) := by decide +kernel
theorem dX11_holds_13 : decode cX11_holds 13 = .ok (.aload_n 0, 1) := by decide +kernel
theorem dX11_holds_14 : decode cX11_holds 14 = .ok (.getfield 20, 3) := by decide +kernel
theorem dX11_holds_17 : decode cX11_holds 17 = .ok (.getfield 184, 3) := by decide +kernel
theorem dX11_holds_20 : decode cX11_holds 20 = .ok (.iload_n 1, 1) := by decide +kernel
theorem dX11_holds_21 : decode cX11_holds 21 = .ok (.iaload, 1) := by decide +kernel
theorem dX11_holds_22 : decode cX11_holds 22 = .ok (.if_icmp .ge 149, 3) := by decide +kernel
theorem dX11_holds_25 : decode cX11_holds 25 = .ok (.aload_n 0, 1) := by decide +kernel
theorem dX11_holds_26 : decode cX11_holds 26 = .ok (.getfield 20, 3) := by decide +kernel
theorem dX11_holds_29 : decode cX11_holds 29 = .ok (.getfield 187, 3) := by decide +kernel
theorem dX11_holds_32 : decode cX11_holds 32 = .ok (.iload_n 3, 1) := by decide +kernel
theorem dX11_holds_33 : decode cX11_holds 33 = .ok (.iaload, 1) := by decide +kernel
theorem dX11_holds_34 : decode cX11_holds 34 = .ok (.istore 4, 2) := by decide +kernel
theorem dX11_holds_36 : decode cX11_holds 36 = .ok (.iload 4, 2) := by decide +kernel
theorem dX11_holds_38 : decode cX11_holds 38 = .ok (.invokestatic 190, 3) := by decide +kernel
theorem dX11_holds_41 : decode cX11_holds 41 = .ok (.ifCond .eq 39, 3) := by decide +kernel
theorem dX11_holds_44 : decode cX11_holds 44 = .ok (.aload_n 0, 1) := by decide +kernel
theorem dX11_holds_45 : decode cX11_holds 45 = .ok (.getfield 49, 3) := by decide +kernel
theorem dX11_holds_48 : decode cX11_holds 48 = .ok (.iload_n 2, 1) := by decide +kernel
theorem dX11_holds_49 : decode cX11_holds 49 = .ok (.aload_n 0, 1) := by decide +kernel
theorem dX11_holds_50 : decode cX11_holds 50 = .ok (.iload 4, 2) := by decide +kernel
theorem dX11_holds_52 : decode cX11_holds 52 = .ok (.aload_n 0, 1) := by decide +kernel
theorem dX11_holds_53 : decode cX11_holds 53 = .ok (.getfield 20, 3) := by decide +kernel
theorem dX11_holds_56 : decode cX11_holds 56 = .ok (.getfield 193, 3) := by decide +kernel
theorem dX11_holds_59 : decode cX11_holds 59 = .ok (.iload_n 3, 1) := by decide +kernel
theorem dX11_holds_60 : decode cX11_holds 60 = .ok (.iaload, 1) := by decide +kernel
theorem dX11_holds_61 : decode cX11_holds 61 = .ok (.aload_n 0, 1) := by decide +kernel
theorem dX11_holds_62 : decode cX11_holds 62 = .ok (.getfield 20, 3) := by decide +kernel
theorem dX11_holds_65 : decode cX11_holds 65 = .ok (.getfield 196, 3) := by decide +kernel
theorem dX11_holds_68 : decode cX11_holds 68 = .ok (.iload_n 3, 1) := by decide +kernel
theorem dX11_holds_69 : decode cX11_holds 69 = .ok (.iaload, 1) := by decide +kernel
theorem dX11_holds_70 : decode cX11_holds 70 = .ok (.invokevirtual 199, 3) := by decide +kernel
theorem dX11_holds_73 : decode cX11_holds 73 = .ok (.iastore, 1) := by decide +kernel
theorem dX11_holds_74 : decode cX11_holds 74 = .ok (.iinc 2 1, 3) := by decide +kernel
theorem dX11_holds_77 : decode cX11_holds 77 = .ok (.goto 88, 3) := by decide +kernel
theorem dX11_holds_80 : decode cX11_holds 80 = .ok (.iload 4, 2) := by decide +kernel
theorem dX11_holds_82 : decode cX11_holds 82 = .ok (.bipush 105, 2) := by decide +kernel
theorem dX11_holds_84 : decode cX11_holds 84 = .ok (.if_icmp .ne 23, 3) := by decide +kernel
theorem dX11_holds_87 : decode cX11_holds 87 = .ok (.aload_n 0, 1) := by decide +kernel
theorem dX11_holds_88 : decode cX11_holds 88 = .ok (.getfield 49, 3) := by decide +kernel
theorem dX11_holds_91 : decode cX11_holds 91 = .ok (.iload_n 2, 1) := by decide +kernel
theorem dX11_holds_92 : decode cX11_holds 92 = .ok (.iconst 1, 1) := by decide +kernel
theorem dX11_holds_93 : decode cX11_holds 93 = .ok (.isub, 1) := by decide +kernel
theorem dX11_holds_94 : decode cX11_holds 94 = .ok (.aload_n 0, 1) := by decide +kernel
theorem dX11_holds_95 : decode cX11_holds 95 = .ok (.getfield 49, 3) := by decide +kernel
theorem dX11_holds_98 : decode cX11_holds 98 = .ok (.iload_n 2, 1) := by decide +kernel
theorem dX11_holds_99 : decode cX11_holds 99 = .ok (.iconst 1, 1) := by decide +kernel
theorem dX11_holds_100 : decode cX11_holds 100 = .ok (.isub, 1) := by decide +kernel
theorem dX11_holds_101 : decode cX11_holds 101 = .ok (.iaload, 1) := by decide +kernel
theorem dX11_holds_102 : decode cX11_holds 102 = .ok (.ineg, 1) := by decide +kernel
theorem dX11_holds_103 : decode cX11_holds 103 = .ok (.iastore, 1) := by decide +kernel
theorem dX11_holds_104 : decode cX11_holds 104 = .ok (.goto 61, 3) := by decide +kernel
theorem dX11_holds_107 : decode cX11_holds 107 = .ok (.iload 4, 2) := by decide +kernel
theorem dX11_holds_109 : decode cX11_holds 109 = .ok (.bipush 20, 2) := by decide +kernel
theorem dX11_holds_111 : decode cX11_holds 111 = .ok (.if_icmp .ne 24, 3) := by decide +kernel
theorem dX11_holds_114 : decode cX11_holds 114 = .ok (.aload_n 0, 1) := by decide +kernel
theorem dX11_holds_115 : decode cX11_holds 115 = .ok (.getfield 49, 3) := by decide +kernel
theorem dX11_holds_118 : decode cX11_holds 118 = .ok (.iload_n 2, 1) := by decide +kernel
theorem dX11_holds_119 : decode cX11_holds 119 = .ok (.iconst 1, 1) := by decide +kernel
theorem dX11_holds_120 : decode cX11_holds 120 = .ok (.isub, 1) := by decide +kernel
theorem dX11_holds_121 : decode cX11_holds 121 = .ok (.iconst 1, 1) := by decide +kernel
theorem dX11_holds_122 : decode cX11_holds 122 = .ok (.aload_n 0, 1) := by decide +kernel
theorem dX11_holds_123 : decode cX11_holds 123 = .ok (.getfield 49, 3) := by decide +kernel
theorem dX11_holds_126 : decode cX11_holds 126 = .ok (.iload_n 2, 1) := by decide +kernel
theorem dX11_holds_127 : decode cX11_holds 127 = .ok (.iconst 1, 1) := by decide +kernel
theorem dX11_holds_128 : decode cX11_holds 128 = .ok (.isub, 1) := by decide +kernel
theorem dX11_holds_129 : decode cX11_holds 129 = .ok (.iaload, 1) := by decide +kernel
theorem dX11_holds_130 : decode cX11_holds 130 = .ok (.isub, 1) := by decide +kernel
theorem dX11_holds_131 : decode cX11_holds 131 = .ok (.iastore, 1) := by decide +kernel
theorem dX11_holds_132 : decode cX11_holds 132 = .ok (.goto 33, 3) := by decide +kernel
theorem dX11_holds_135 : decode cX11_holds 135 = .ok (.iinc 2 (-1), 3) := by decide +kernel
theorem dX11_holds_138 : decode cX11_holds 138 = .ok (.aload_n 0, 1) := by decide +kernel
theorem dX11_holds_139 : decode cX11_holds 139 = .ok (.getfield 49, 3) := by decide +kernel
theorem dX11_holds_142 : decode cX11_holds 142 = .ok (.iload_n 2, 1) := by decide +kernel
theorem dX11_holds_143 : decode cX11_holds 143 = .ok (.iconst 1, 1) := by decide +kernel
theorem dX11_holds_144 : decode cX11_holds 144 = .ok (.isub, 1) := by decide +kernel
theorem dX11_holds_145 : decode cX11_holds 145 = .ok (.iload 4, 2) := by decide +kernel
theorem dX11_holds_147 : decode cX11_holds 147 = .ok (.aload_n 0, 1) := by decide +kernel
theorem dX11_holds_148 : decode cX11_holds 148 = .ok (.getfield 49, 3) := by decide +kernel
theorem dX11_holds_151 : decode cX11_holds 151 = .ok (.iload_n 2, 1) := by decide +kernel
theorem dX11_holds_152 : decode cX11_holds 152 = .ok (.iconst 1, 1) := by decide +kernel
theorem dX11_holds_153 : decode cX11_holds 153 = .ok (.isub, 1) := by decide +kernel
theorem dX11_holds_154 : decode cX11_holds 154 = .ok (.iaload, 1) := by decide +kernel
theorem dX11_holds_155 : decode cX11_holds 155 = .ok (.aload_n 0, 1) := by decide +kernel
theorem dX11_holds_156 : decode cX11_holds 156 = .ok (.getfield 49, 3) := by decide +kernel
theorem dX11_holds_159 : decode cX11_holds 159 = .ok (.iload_n 2, 1) := by decide +kernel
theorem dX11_holds_160 : decode cX11_holds 160 = .ok (.iaload, 1) := by decide +kernel
theorem dX11_holds_161 : decode cX11_holds 161 = .ok (.invokestatic 203, 3) := by decide +kernel
theorem dX11_holds_164 : decode cX11_holds 164 = .ok (.iastore, 1) := by decide +kernel
theorem dX11_holds_165 : decode cX11_holds 165 = .ok (.iinc 3 1, 3) := by decide +kernel
theorem dX11_holds_168 : decode cX11_holds 168 = .ok (.goto (-156), 3) := by decide +kernel
theorem dX11_holds_171 : decode cX11_holds 171 = .ok (.iload_n 2, 1) := by decide +kernel
theorem dX11_holds_172 : decode cX11_holds 172 = .ok (.ifCond .eq 13, 3) := by decide +kernel
theorem dX11_holds_175 : decode cX11_holds 175 = .ok (.aload_n 0, 1) := by decide +kernel
theorem dX11_holds_176 : decode cX11_holds 176 = .ok (.getfield 49, 3) := by decide +kernel
theorem dX11_holds_179 : decode cX11_holds 179 = .ok (.iconst 0, 1) := by decide +kernel
theorem dX11_holds_180 : decode cX11_holds 180 = .ok (.iaload, 1) := by decide +kernel
theorem dX11_holds_181 : decode cX11_holds 181 = .ok (.iconst 1, 1) := by decide +kernel
theorem dX11_holds_182 : decode cX11_holds 182 = .ok (.if_icmp .ne 7, 3) := by decide +kernel
theorem dX11_holds_185 : decode cX11_holds 185 = .ok (.iconst 1, 1) := by decide +kernel
theorem dX11_holds_186 : decode cX11_holds 186 = .ok (.goto 4, 3) := by decide +kernel
theorem dX11_holds_189 : decode cX11_holds 189 = .ok (.iconst 0, 1) := by decide +kernel
theorem dX11_holds_190 : decode cX11_holds 190 = .ok (.ireturn, 1) := by decide +kernel
theorem dX11_byteOf_0 : decode cX11_byteOf 0 = .ok (.iload_n 1, 1) := by decide +kernel
theorem dX11_byteOf_1 : decode cX11_byteOf 1 = .ok (.aload_n 0, 1) := by decide +kernel
theorem dX11_byteOf_2 : decode cX11_byteOf 2 = .ok (.getfield 206, 3) := by decide +kernel
theorem dX11_byteOf_5 : decode cX11_byteOf 5 = .ok (.if_icmp .ge 12, 3) := by decide +kernel
theorem dX11_byteOf_8 : decode cX11_byteOf 8 = .ok (.aload_n 0, 1) := by decide +kernel
theorem dX11_byteOf_9 : decode cX11_byteOf 9 = .ok (.getfield 9, 3) := by decide +kernel
theorem dX11_byteOf_12 : decode cX11_byteOf 12 = .ok (.iload_n 1, 1) := by decide +kernel
theorem dX11_byteOf_13 : decode cX11_byteOf 13 = .ok (.iaload, 1) := by decide +kernel
theorem dX11_byteOf_14 : decode cX11_byteOf 14 = .ok (.goto 4, 3) := by decide +kernel
theorem dX11_byteOf_17 : decode cX11_byteOf 17 = .ok (.iconst (-1), 1) := by decide +kernel
theorem dX11_byteOf_18 : decode cX11_byteOf 18 = .ok (.ireturn, 1) := by decide +kernel
theorem dX11_isSmall_0 : decode cX11_isSmall 0 = .ok (.iload_n 0, 1) := by decide +kernel
theorem dX11_isSmall_1 : decode cX11_isSmall 1 = .ok (.bipush 97, 2) := by decide +kernel
theorem dX11_isSmall_3 : decode cX11_isSmall 3 = .ok (.if_icmp .lt 13, 3) := by decide +kernel
theorem dX11_isSmall_6 : decode cX11_isSmall 6 = .ok (.iload_n 0, 1) := by decide +kernel
theorem dX11_isSmall_7 : decode cX11_isSmall 7 = .ok (.bipush 122, 2) := by decide +kernel
theorem dX11_isSmall_9 : decode cX11_isSmall 9 = .ok (.if_icmp .gt 7, 3) := by decide +kernel
theorem dX11_isSmall_12 : decode cX11_isSmall 12 = .ok (.iconst 1, 1) := by decide +kernel
theorem dX11_isSmall_13 : decode cX11_isSmall 13 = .ok (.goto 4, 3) := by decide +kernel
theorem dX11_isSmall_16 : decode cX11_isSmall 16 = .ok (.iconst 0, 1) := by decide +kernel
theorem dX11_isSmall_17 : decode cX11_isSmall 17 = .ok (.ireturn, 1) := by decide +kernel
theorem dX11_isDigit_0 : decode cX11_isDigit 0 = .ok (.iload_n 0, 1) := by decide +kernel
theorem dX11_isDigit_1 : decode cX11_isDigit 1 = .ok (.bipush 48, 2) := by decide +kernel
theorem dX11_isDigit_3 : decode cX11_isDigit 3 = .ok (.if_icmp .lt 13, 3) := by decide +kernel
theorem dX11_isDigit_6 : decode cX11_isDigit 6 = .ok (.iload_n 0, 1) := by decide +kernel
theorem dX11_isDigit_7 : decode cX11_isDigit 7 = .ok (.bipush 57, 2) := by decide +kernel
theorem dX11_isDigit_9 : decode cX11_isDigit 9 = .ok (.if_icmp .gt 7, 3) := by decide +kernel
theorem dX11_isDigit_12 : decode cX11_isDigit 12 = .ok (.iconst 1, 1) := by decide +kernel
theorem dX11_isDigit_13 : decode cX11_isDigit 13 = .ok (.goto 4, 3) := by decide +kernel
theorem dX11_isDigit_16 : decode cX11_isDigit 16 = .ok (.iconst 0, 1) := by decide +kernel
theorem dX11_isDigit_17 : decode cX11_isDigit 17 = .ok (.ireturn, 1) := by decide +kernel
theorem dX11_endOf_0 : decode cX11_endOf 0 = .ok (.aload_n 0, 1) := by decide +kernel
theorem dX11_endOf_1 : decode cX11_endOf 1 = .ok (.iload_n 1, 1) := by decide +kernel
theorem dX11_endOf_2 : decode cX11_endOf 2 = .ok (.invokevirtual 209, 3) := by decide +kernel
theorem dX11_endOf_5 : decode cX11_endOf 5 = .ok (.istore_n 2, 1) := by decide +kernel
theorem dX11_endOf_6 : decode cX11_endOf 6 = .ok (.iload_n 1, 1) := by decide +kernel
theorem dX11_endOf_7 : decode cX11_endOf 7 = .ok (.iconst 1, 1) := by decide +kernel
theorem dX11_endOf_8 : decode cX11_endOf 8 = .ok (.iadd, 1) := by decide +kernel
theorem dX11_endOf_9 : decode cX11_endOf 9 = .ok (.istore_n 3, 1) := by decide +kernel
theorem dX11_endOf_10 : decode cX11_endOf 10 = .ok (.iload_n 2, 1) := by decide +kernel
theorem dX11_endOf_11 : decode cX11_endOf 11 = .ok (.invokestatic 212, 3) := by decide +kernel
theorem dX11_endOf_14 : decode cX11_endOf 14 = .ok (.ifCond .eq 31, 3) := by decide +kernel
theorem dX11_endOf_17 : decode cX11_endOf 17 = .ok (.aload_n 0, 1) := by decide +kernel
theorem dX11_endOf_18 : decode cX11_endOf 18 = .ok (.iload_n 3, 1) := by decide +kernel
theorem dX11_endOf_19 : decode cX11_endOf 19 = .ok (.invokevirtual 209, 3) := by decide +kernel
theorem dX11_endOf_22 : decode cX11_endOf 22 = .ok (.invokestatic 212, 3) := by decide +kernel
theorem dX11_endOf_25 : decode cX11_endOf 25 = .ok (.ifCond .ne 14, 3) := by decide +kernel
theorem dX11_endOf_28 : decode cX11_endOf 28 = .ok (.aload_n 0, 1) := by decide +kernel
theorem dX11_endOf_29 : decode cX11_endOf 29 = .ok (.iload_n 3, 1) := by decide +kernel
theorem dX11_endOf_30 : decode cX11_endOf 30 = .ok (.invokevirtual 209, 3) := by decide +kernel
theorem dX11_endOf_33 : decode cX11_endOf 33 = .ok (.invokestatic 215, 3) := by decide +kernel
theorem dX11_endOf_36 : decode cX11_endOf 36 = .ok (.ifCond .eq 9, 3) := by decide +kernel
theorem dX11_endOf_39 : decode cX11_endOf 39 = .ok (.iinc 3 1, 3) := by decide +kernel
theorem dX11_endOf_42 : decode cX11_endOf 42 = .ok (.goto (-25), 3) := by decide +kernel
theorem dX11_endOf_45 : decode cX11_endOf 45 = .ok (.iload_n 2, 1) := by decide +kernel
theorem dX11_endOf_46 : decode cX11_endOf 46 = .ok (.invokestatic 215, 3) := by decide +kernel
theorem dX11_endOf_49 : decode cX11_endOf 49 = .ok (.ifCond .eq 20, 3) := by decide +kernel
theorem dX11_endOf_52 : decode cX11_endOf 52 = .ok (.aload_n 0, 1) := by decide +kernel
theorem dX11_endOf_53 : decode cX11_endOf 53 = .ok (.iload_n 3, 1) := by decide +kernel
theorem dX11_endOf_54 : decode cX11_endOf 54 = .ok (.invokevirtual 209, 3) := by decide +kernel
theorem dX11_endOf_57 : decode cX11_endOf 57 = .ok (.invokestatic 215, 3) := by decide +kernel
theorem dX11_endOf_60 : decode cX11_endOf 60 = .ok (.ifCond .eq 9, 3) := by decide +kernel
theorem dX11_endOf_63 : decode cX11_endOf 63 = .ok (.iinc 3 1, 3) := by decide +kernel
theorem dX11_endOf_66 : decode cX11_endOf 66 = .ok (.goto (-14), 3) := by decide +kernel
theorem dX11_endOf_69 : decode cX11_endOf 69 = .ok (.iload_n 2, 1) := by decide +kernel
theorem dX11_endOf_70 : decode cX11_endOf 70 = .ok (.bipush 60, 2) := by decide +kernel
theorem dX11_endOf_72 : decode cX11_endOf 72 = .ok (.if_icmp .eq 9, 3) := by decide +kernel
theorem dX11_endOf_75 : decode cX11_endOf 75 = .ok (.iload_n 2, 1) := by decide +kernel
theorem dX11_endOf_76 : decode cX11_endOf 76 = .ok (.bipush 62, 2) := by decide +kernel
theorem dX11_endOf_78 : decode cX11_endOf 78 = .ok (.if_icmp .ne 16, 3) := by decide +kernel
theorem dX11_endOf_81 : decode cX11_endOf 81 = .ok (.aload_n 0, 1) := by decide +kernel
theorem dX11_endOf_82 : decode cX11_endOf 82 = .ok (.iload_n 3, 1) := by decide +kernel
theorem dX11_endOf_83 : decode cX11_endOf 83 = .ok (.invokevirtual 209, 3) := by decide +kernel
theorem dX11_endOf_86 : decode cX11_endOf 86 = .ok (.bipush 61, 2) := by decide +kernel
theorem dX11_endOf_88 : decode cX11_endOf 88 = .ok (.if_icmp .ne 6, 3) := by decide +kernel
theorem dX11_endOf_91 : decode cX11_endOf 91 = .ok (.iinc 3 1, 3) := by decide +kernel
theorem dX11_endOf_94 : decode cX11_endOf 94 = .ok (.iload_n 3, 1) := by decide +kernel
theorem dX11_endOf_95 : decode cX11_endOf 95 = .ok (.ireturn, 1) := by decide +kernel
theorem dX11_kindOf_0 : decode cX11_kindOf 0 = .ok (.aload_n 0, 1) := by decide +kernel
theorem dX11_kindOf_1 : decode cX11_kindOf 1 = .ok (.iload_n 2, 1) := by decide +kernel
theorem dX11_kindOf_2 : decode cX11_kindOf 2 = .ok (.invokevirtual 209, 3) := by decide +kernel
theorem dX11_kindOf_5 : decode cX11_kindOf 5 = .ok (.istore 4, 2) := by decide +kernel
theorem dX11_kindOf_7 : decode cX11_kindOf 7 = .ok (.iload 4, 2) := by decide +kernel
theorem dX11_kindOf_9 : decode cX11_kindOf 9 = .ok (.iconst (-1), 1) := by decide +kernel
theorem dX11_kindOf_10 : decode cX11_kindOf 10 = .ok (.if_icmp .ne 6, 3) := by decide +kernel
theorem dX11_kindOf_13 : decode cX11_kindOf 13 = .ok (.bipush 33, 2) := by decide +kernel
theorem dX11_kindOf_15 : decode cX11_kindOf 15 = .ok (.ireturn, 1) := by decide +kernel
theorem dX11_kindOf_16 : decode cX11_kindOf 16 = .ok (.iload 4, 2) := by decide +kernel
theorem dX11_kindOf_18 : decode cX11_kindOf 18 = .ok (.invokestatic 215, 3) := by decide +kernel
theorem dX11_kindOf_21 : decode cX11_kindOf 21 = .ok (.ifCond .eq 24, 3) := by decide +kernel
theorem dX11_kindOf_24 : decode cX11_kindOf 24 = .ok (.iload_n 3, 1) := by decide +kernel
theorem dX11_kindOf_25 : decode cX11_kindOf 25 = .ok (.iload_n 2, 1) := by decide +kernel
theorem dX11_kindOf_26 : decode cX11_kindOf 26 = .ok (.isub, 1) := by decide +kernel
theorem dX11_kindOf_27 : decode cX11_kindOf 27 = .ok (.bipush 6, 2) := by decide +kernel
theorem dX11_kindOf_29 : decode cX11_kindOf 29 = .ok (.if_icmp .le 8, 3) := by decide +kernel
theorem dX11_kindOf_32 : decode cX11_kindOf 32 = .ok (.bipush 32, 2) := by decide +kernel
theorem dX11_kindOf_34 : decode cX11_kindOf 34 = .ok (.goto 10, 3) := by decide +kernel
theorem dX11_kindOf_37 : decode cX11_kindOf 37 = .ok (.aload_n 0, 1) := by decide +kernel
theorem dX11_kindOf_38 : decode cX11_kindOf 38 = .ok (.iload_n 1, 1) := by decide +kernel
theorem dX11_kindOf_39 : decode cX11_kindOf 39 = .ok (.iload_n 2, 1) := by decide +kernel
theorem dX11_kindOf_40 : decode cX11_kindOf 40 = .ok (.iload_n 3, 1) := by decide +kernel
theorem dX11_kindOf_41 : decode cX11_kindOf 41 = .ok (.invokevirtual 218, 3) := by decide +kernel
theorem dX11_kindOf_44 : decode cX11_kindOf 44 = .ok (.ireturn, 1) := by decide +kernel
theorem dX11_kindOf_45 : decode cX11_kindOf 45 = .ok (.iload 4, 2) := by decide +kernel
theorem dX11_kindOf_47 : decode cX11_kindOf 47 = .ok (.invokestatic 212, 3) := by decide +kernel
theorem dX11_kindOf_50 : decode cX11_kindOf 50 = .ok (.ifCond .eq 24, 3) := by decide +kernel
theorem dX11_kindOf_53 : decode cX11_kindOf 53 = .ok (.iload_n 3, 1) := by decide +kernel
theorem dX11_kindOf_54 : decode cX11_kindOf 54 = .ok (.iload_n 2, 1) := by decide +kernel
theorem dX11_kindOf_55 : decode cX11_kindOf 55 = .ok (.isub, 1) := by decide +kernel
theorem dX11_kindOf_56 : decode cX11_kindOf 56 = .ok (.bipush 10, 2) := by decide +kernel
theorem dX11_kindOf_58 : decode cX11_kindOf 58 = .ok (.if_icmp .le 8, 3) := by decide +kernel
theorem dX11_kindOf_61 : decode cX11_kindOf 61 = .ok (.bipush 32, 2) := by decide +kernel
theorem dX11_kindOf_63 : decode cX11_kindOf 63 = .ok (.goto 10, 3) := by decide +kernel
theorem dX11_kindOf_66 : decode cX11_kindOf 66 = .ok (.aload_n 0, 1) := by decide +kernel
theorem dX11_kindOf_67 : decode cX11_kindOf 67 = .ok (.iload_n 1, 1) := by decide +kernel
theorem dX11_kindOf_68 : decode cX11_kindOf 68 = .ok (.iload_n 2, 1) := by decide +kernel
theorem dX11_kindOf_69 : decode cX11_kindOf 69 = .ok (.iload_n 3, 1) := by decide +kernel
theorem dX11_kindOf_70 : decode cX11_kindOf 70 = .ok (.invokevirtual 221, 3) := by decide +kernel
theorem dX11_kindOf_73 : decode cX11_kindOf 73 = .ok (.ireturn, 1) := by decide +kernel
theorem dX11_kindOf_74 : decode cX11_kindOf 74 = .ok (.iload_n 3, 1) := by decide +kernel
theorem dX11_kindOf_75 : decode cX11_kindOf 75 = .ok (.iload_n 2, 1) := by decide +kernel
theorem dX11_kindOf_76 : decode cX11_kindOf 76 = .ok (.isub, 1) := by decide +kernel
theorem dX11_kindOf_77 : decode cX11_kindOf 77 = .ok (.iconst 2, 1) := by decide +kernel
theorem dX11_kindOf_78 : decode cX11_kindOf 78 = .ok (.if_icmp .ne 10, 3) := by decide +kernel
theorem dX11_kindOf_81 : decode cX11_kindOf 81 = .ok (.sipush 256, 3) := by decide +kernel
theorem dX11_kindOf_84 : decode cX11_kindOf 84 = .ok (.iload 4, 2) := by decide +kernel
theorem dX11_kindOf_86 : decode cX11_kindOf 86 = .ok (.iadd, 1) := by decide +kernel
theorem dX11_kindOf_87 : decode cX11_kindOf 87 = .ok (.ireturn, 1) := by decide +kernel
theorem dX11_kindOf_88 : decode cX11_kindOf 88 = .ok (.iload 4, 2) := by decide +kernel
theorem dX11_kindOf_90 : decode cX11_kindOf 90 = .ok (.bipush 40, 2) := by decide +kernel
theorem dX11_kindOf_92 : decode cX11_kindOf 92 = .ok (.if_icmp .eq 87, 3) := by decide +kernel
theorem dX11_kindOf_95 : decode cX11_kindOf 95 = .ok (.iload 4, 2) := by decide +kernel
theorem dX11_kindOf_97 : decode cX11_kindOf 97 = .ok (.bipush 41, 2) := by decide +kernel
theorem dX11_kindOf_99 : decode cX11_kindOf 99 = .ok (.if_icmp .eq 80, 3) := by decide +kernel
theorem dX11_kindOf_102 : decode cX11_kindOf 102 = .ok (.iload 4, 2) := by decide +kernel
theorem dX11_kindOf_104 : decode cX11_kindOf 104 = .ok (.bipush 91, 2) := by decide +kernel
theorem dX11_kindOf_106 : decode cX11_kindOf 106 = .ok (.if_icmp .eq 73, 3) := by decide +kernel
theorem dX11_kindOf_109 : decode cX11_kindOf 109 = .ok (.iload 4, 2) := by decide +kernel
theorem dX11_kindOf_111 : decode cX11_kindOf 111 = .ok (.bipush 93, 2) := by decide +kernel
theorem dX11_kindOf_113 : decode cX11_kindOf 113 = .ok (.if_icmp .eq 66, 3) := by decide +kernel
theorem dX11_kindOf_116 : decode cX11_kindOf 116 = .ok (.iload 4, 2) := by decide +kernel
theorem dX11_kindOf_118 : decode cX11_kindOf 118 = .ok (.bipush 59, 2) := by decide +kernel
theorem dX11_kindOf_120 : decode cX11_kindOf 120 = .ok (.if_icmp .eq 59, 3) := by decide +kernel
theorem dX11_kindOf_123 : decode cX11_kindOf 123 = .ok (.iload 4, 2) := by decide +kernel
theorem dX11_kindOf_125 : decode cX11_kindOf 125 = .ok (.bipush 44, 2) := by decide +kernel
theorem dX11_kindOf_127 : decode cX11_kindOf 127 = .ok (.if_icmp .eq 52, 3) := by decide +kernel
theorem dX11_kindOf_130 : decode cX11_kindOf 130 = .ok (.iload 4, 2) := by decide +kernel
theorem dX11_kindOf_132 : decode cX11_kindOf 132 = .ok (.bipush 43, 2) := by decide +kernel
theorem dX11_kindOf_134 : decode cX11_kindOf 134 = .ok (.if_icmp .eq 45, 3) := by decide +kernel
theorem dX11_kindOf_137 : decode cX11_kindOf 137 = .ok (.iload 4, 2) := by decide +kernel
theorem dX11_kindOf_139 : decode cX11_kindOf 139 = .ok (.bipush 45, 2) := by decide +kernel
theorem dX11_kindOf_141 : decode cX11_kindOf 141 = .ok (.if_icmp .eq 38, 3) := by decide +kernel
theorem dX11_kindOf_144 : decode cX11_kindOf 144 = .ok (.iload 4, 2) := by decide +kernel
theorem dX11_kindOf_146 : decode cX11_kindOf 146 = .ok (.bipush 42, 2) := by decide +kernel
theorem dX11_kindOf_148 : decode cX11_kindOf 148 = .ok (.if_icmp .eq 31, 3) := by decide +kernel
theorem dX11_kindOf_151 : decode cX11_kindOf 151 = .ok (.iload 4, 2) := by decide +kernel
theorem dX11_kindOf_153 : decode cX11_kindOf 153 = .ok (.bipush 47, 2) := by decide +kernel
theorem dX11_kindOf_155 : decode cX11_kindOf 155 = .ok (.if_icmp .eq 24, 3) := by decide +kernel
theorem dX11_kindOf_158 : decode cX11_kindOf 158 = .ok (.iload 4, 2) := by decide +kernel
theorem dX11_kindOf_160 : decode cX11_kindOf 160 = .ok (.bipush 60, 2) := by decide +kernel
theorem dX11_kindOf_162 : decode cX11_kindOf 162 = .ok (.if_icmp .eq 17, 3) := by decide +kernel
theorem dX11_kindOf_165 : decode cX11_kindOf 165 = .ok (.iload 4, 2) := by decide +kernel
theorem dX11_kindOf_167 : decode cX11_kindOf 167 = .ok (.bipush 62, 2) := by decide +kernel
theorem dX11_kindOf_169 : decode cX11_kindOf 169 = .ok (.if_icmp .eq 10, 3) := by decide +kernel
theorem dX11_kindOf_172 : decode cX11_kindOf 172 = .ok (.iload 4, 2) := by decide +kernel
theorem dX11_kindOf_174 : decode cX11_kindOf 174 = .ok (.bipush 61, 2) := by decide +kernel
theorem dX11_kindOf_176 : decode cX11_kindOf 176 = .ok (.if_icmp .ne 8, 3) := by decide +kernel
theorem dX11_kindOf_179 : decode cX11_kindOf 179 = .ok (.iload 4, 2) := by decide +kernel
theorem dX11_kindOf_181 : decode cX11_kindOf 181 = .ok (.goto 5, 3) := by decide +kernel
theorem dX11_kindOf_184 : decode cX11_kindOf 184 = .ok (.bipush 32, 2) := by decide +kernel
theorem dX11_kindOf_186 : decode cX11_kindOf 186 = .ok (.ireturn, 1) := by decide +kernel
theorem dX11_numberAt_0 : decode cX11_numberAt 0 = .ok (.iconst 0, 1) := by decide +kernel
theorem dX11_numberAt_1 : decode cX11_numberAt 1 = .ok (.istore 4, 2) := by decide +kernel
theorem dX11_numberAt_3 : decode cX11_numberAt 3 = .ok (.iload_n 2, 1) := by decide +kernel
theorem dX11_numberAt_4 : decode cX11_numberAt 4 = .ok (.istore 5, 2) := by decide +kernel
theorem dX11_numberAt_6 : decode cX11_numberAt 6 = .ok (.iload 5, 2) := by decide +kernel
theorem dX11_numberAt_8 : decode cX11_numberAt 8 = .ok (.iload_n 3, 1) := by decide +kernel
theorem dX11_numberAt_9 : decode cX11_numberAt 9 = .ok (.if_icmp .ge 27, 3) := by decide +kernel
theorem dX11_numberAt_12 : decode cX11_numberAt 12 = .ok (.bipush 10, 2) := by decide +kernel
theorem dX11_numberAt_14 : decode cX11_numberAt 14 = .ok (.iload 4, 2) := by decide +kernel
theorem dX11_numberAt_16 : decode cX11_numberAt 16 = .ok (.imul, 1) := by decide +kernel
theorem dX11_numberAt_17 : decode cX11_numberAt 17 = .ok (.aload_n 0, 1) := by decide +kernel
theorem dX11_numberAt_18 : decode cX11_numberAt 18 = .ok (.getfield 9, 3) := by decide +kernel
theorem dX11_numberAt_21 : decode cX11_numberAt 21 = .ok (.iload 5, 2) := by decide +kernel
theorem dX11_numberAt_23 : decode cX11_numberAt 23 = .ok (.iaload, 1) := by decide +kernel
theorem dX11_numberAt_24 : decode cX11_numberAt 24 = .ok (.iadd, 1) := by decide +kernel
theorem dX11_numberAt_25 : decode cX11_numberAt 25 = .ok (.bipush 48, 2) := by decide +kernel
theorem dX11_numberAt_27 : decode cX11_numberAt 27 = .ok (.isub, 1) := by decide +kernel
theorem dX11_numberAt_28 : decode cX11_numberAt 28 = .ok (.istore 4, 2) := by decide +kernel
theorem dX11_numberAt_30 : decode cX11_numberAt 30 = .ok (.iinc 5 1, 3) := by decide +kernel
theorem dX11_numberAt_33 : decode cX11_numberAt 33 = .ok (.goto (-27), 3) := by decide +kernel
theorem dX11_numberAt_36 : decode cX11_numberAt 36 = .ok (.aload_n 0, 1) := by decide +kernel
theorem dX11_numberAt_37 : decode cX11_numberAt 37 = .ok (.getfield 33, 3) := by decide +kernel
theorem dX11_numberAt_40 : decode cX11_numberAt 40 = .ok (.iload_n 1, 1) := by decide +kernel
theorem dX11_numberAt_41 : decode cX11_numberAt 41 = .ok (.iload 4, 2) := by decide +kernel
theorem dX11_numberAt_43 : decode cX11_numberAt 43 = .ok (.i2l, 1) := by decide +kernel
theorem dX11_numberAt_44 : decode cX11_numberAt 44 = .ok (.lastore, 1) := by decide +kernel
theorem dX11_numberAt_45 : decode cX11_numberAt 45 = .ok (.bipush 31, 2) := by decide +kernel
theorem dX11_numberAt_47 : decode cX11_numberAt 47 = .ok (.ireturn, 1) := by decide +kernel
theorem dX11_letter_0 : decode cX11_letter 0 = .ok (.iload_n 0, 1) := by decide +kernel
theorem dX11_letter_1 : decode cX11_letter 1 = .ok (.invokestatic 212, 3) := by decide +kernel
theorem dX11_letter_4 : decode cX11_letter 4 = .ok (.ifCond .eq 12, 3) := by decide +kernel
theorem dX11_letter_7 : decode cX11_letter 7 = .ok (.iload_n 0, 1) := by decide +kernel
theorem dX11_letter_8 : decode cX11_letter 8 = .ok (.bipush 97, 2) := by decide +kernel
theorem dX11_letter_10 : decode cX11_letter 10 = .ok (.isub, 1) := by decide +kernel
theorem dX11_letter_11 : decode cX11_letter 11 = .ok (.iconst 1, 1) := by decide +kernel
theorem dX11_letter_12 : decode cX11_letter 12 = .ok (.iadd, 1) := by decide +kernel
theorem dX11_letter_13 : decode cX11_letter 13 = .ok (.goto 10, 3) := by decide +kernel
theorem dX11_letter_16 : decode cX11_letter 16 = .ok (.iload_n 0, 1) := by decide +kernel
theorem dX11_letter_17 : decode cX11_letter 17 = .ok (.bipush 48, 2) := by decide +kernel
theorem dX11_letter_19 : decode cX11_letter 19 = .ok (.isub, 1) := by decide +kernel
theorem dX11_letter_20 : decode cX11_letter 20 = .ok (.bipush 27, 2) := by decide +kernel
theorem dX11_letter_22 : decode cX11_letter 22 = .ok (.iadd, 1) := by decide +kernel
theorem dX11_letter_23 : decode cX11_letter 23 = .ok (.ireturn, 1) := by decide +kernel
theorem dX11_nameOf_0 : decode cX11_nameOf 0 = .ok (.lconst 0, 1) := by decide +kernel
theorem dX11_nameOf_1 : decode cX11_nameOf 1 = .ok (.lstore_n 1, 1) := by decide +kernel
theorem dX11_nameOf_2 : decode cX11_nameOf 2 = .ok (.iconst 0, 1) := by decide +kernel
theorem dX11_nameOf_3 : decode cX11_nameOf 3 = .ok (.istore_n 3, 1) := by decide +kernel
theorem dX11_nameOf_4 : decode cX11_nameOf 4 = .ok (.iload_n 3, 1) := by decide +kernel
theorem dX11_nameOf_5 : decode cX11_nameOf 5 = .ok (.aload_n 0, 1) := by decide +kernel
theorem dX11_nameOf_6 : decode cX11_nameOf 6 = .ok (.invokevirtual 224, 3) := by decide +kernel
theorem dX11_nameOf_9 : decode cX11_nameOf 9 = .ok (.if_icmp .ge 25, 3) := by decide +kernel
theorem dX11_nameOf_12 : decode cX11_nameOf 12 = .ok (.ldc2_w 229, 3) := by decide +kernel
theorem dX11_nameOf_15 : decode cX11_nameOf 15 = .ok (.lload_n 1, 1) := by decide +kernel
theorem dX11_nameOf_16 : decode cX11_nameOf 16 = .ok (.lmul, 1) := by decide +kernel
theorem dX11_nameOf_17 : decode cX11_nameOf 17 = .ok (.aload_n 0, 1) := by decide +kernel
theorem dX11_nameOf_18 : decode cX11_nameOf 18 = .ok (.iload_n 3, 1) := by decide +kernel
theorem dX11_nameOf_19 : decode cX11_nameOf 19 = .ok (.invokevirtual 231, 3) := by decide +kernel
theorem dX11_nameOf_22 : decode cX11_nameOf 22 = .ok (.invokestatic 235, 3) := by decide +kernel
theorem dX11_nameOf_25 : decode cX11_nameOf 25 = .ok (.i2l, 1) := by decide +kernel
theorem dX11_nameOf_26 : decode cX11_nameOf 26 = .ok (.ladd, 1) := by decide +kernel
theorem dX11_nameOf_27 : decode cX11_nameOf 27 = .ok (.lstore_n 1, 1) := by decide +kernel
theorem dX11_nameOf_28 : decode cX11_nameOf 28 = .ok (.iinc 3 1, 3) := by decide +kernel
theorem dX11_nameOf_31 : decode cX11_nameOf 31 = .ok (.goto (-27), 3) := by decide +kernel
theorem dX11_nameOf_34 : decode cX11_nameOf 34 = .ok (.lload_n 1, 1) := by decide +kernel
theorem dX11_nameOf_35 : decode cX11_nameOf 35 = .ok (.lreturn, 1) := by decide +kernel
theorem dX11_wordAt_0 : decode cX11_wordAt 0 = .ok (.lconst 0, 1) := by decide +kernel
theorem dX11_wordAt_1 : decode cX11_wordAt 1 = .ok (.lstore 4, 2) := by decide +kernel
theorem dX11_wordAt_3 : decode cX11_wordAt 3 = .ok (.iload_n 2, 1) := by decide +kernel
theorem dX11_wordAt_4 : decode cX11_wordAt 4 = .ok (.istore 6, 2) := by decide +kernel
theorem dX11_wordAt_6 : decode cX11_wordAt 6 = .ok (.iload 6, 2) := by decide +kernel
theorem dX11_wordAt_8 : decode cX11_wordAt 8 = .ok (.iload_n 3, 1) := by decide +kernel
theorem dX11_wordAt_9 : decode cX11_wordAt 9 = .ok (.if_icmp .ge 29, 3) := by decide +kernel
theorem dX11_wordAt_12 : decode cX11_wordAt 12 = .ok (.ldc2_w 229, 3) := by decide +kernel
theorem dX11_wordAt_15 : decode cX11_wordAt 15 = .ok (.lload 4, 2) := by decide +kernel
theorem dX11_wordAt_17 : decode cX11_wordAt 17 = .ok (.lmul, 1) := by decide +kernel
theorem dX11_wordAt_18 : decode cX11_wordAt 18 = .ok (.aload_n 0, 1) := by decide +kernel
theorem dX11_wordAt_19 : decode cX11_wordAt 19 = .ok (.getfield 9, 3) := by decide +kernel
theorem dX11_wordAt_22 : decode cX11_wordAt 22 = .ok (.iload 6, 2) := by decide +kernel
theorem dX11_wordAt_24 : decode cX11_wordAt 24 = .ok (.iaload, 1) := by decide +kernel
theorem dX11_wordAt_25 : decode cX11_wordAt 25 = .ok (.invokestatic 235, 3) := by decide +kernel
theorem dX11_wordAt_28 : decode cX11_wordAt 28 = .ok (.i2l, 1) := by decide +kernel
theorem dX11_wordAt_29 : decode cX11_wordAt 29 = .ok (.ladd, 1) := by decide +kernel
theorem dX11_wordAt_30 : decode cX11_wordAt 30 = .ok (.lstore 4, 2) := by decide +kernel
theorem dX11_wordAt_32 : decode cX11_wordAt 32 = .ok (.iinc 6 1, 3) := by decide +kernel
theorem dX11_wordAt_35 : decode cX11_wordAt 35 = .ok (.goto (-29), 3) := by decide +kernel
theorem dX11_wordAt_38 : decode cX11_wordAt 38 = .ok (.aload_n 0, 1) := by decide +kernel
theorem dX11_wordAt_39 : decode cX11_wordAt 39 = .ok (.getfield 33, 3) := by decide +kernel
theorem dX11_wordAt_42 : decode cX11_wordAt 42 = .ok (.iload_n 1, 1) := by decide +kernel
theorem dX11_wordAt_43 : decode cX11_wordAt 43 = .ok (.lload 4, 2) := by decide +kernel
theorem dX11_wordAt_45 : decode cX11_wordAt 45 = .ok (.lastore, 1) := by decide +kernel
theorem dX11_wordAt_46 : decode cX11_wordAt 46 = .ok (.iconst 0, 1) := by decide +kernel
theorem dX11_wordAt_47 : decode cX11_wordAt 47 = .ok (.istore 6, 2) := by decide +kernel
theorem dX11_wordAt_49 : decode cX11_wordAt 49 = .ok (.iload 6, 2) := by decide +kernel
theorem dX11_wordAt_51 : decode cX11_wordAt 51 = .ok (.getstatic 238, 3) := by decide +kernel
theorem dX11_wordAt_54 : decode cX11_wordAt 54 = .ok (.arraylength, 1) := by decide +kernel
theorem dX11_wordAt_55 : decode cX11_wordAt 55 = .ok (.if_icmp .ge 27, 3) := by decide +kernel
theorem dX11_wordAt_58 : decode cX11_wordAt 58 = .ok (.getstatic 238, 3) := by decide +kernel
theorem dX11_wordAt_61 : decode cX11_wordAt 61 = .ok (.iload 6, 2) := by decide +kernel
theorem dX11_wordAt_63 : decode cX11_wordAt 63 = .ok (.aaload, 1) := by decide +kernel
theorem dX11_wordAt_64 : decode cX11_wordAt 64 = .ok (.invokestatic 242, 3) := by decide +kernel
theorem dX11_wordAt_67 : decode cX11_wordAt 67 = .ok (.lload 4, 2) := by decide +kernel
theorem dX11_wordAt_69 : decode cX11_wordAt 69 = .ok (.lcmp, 1) := by decide +kernel
theorem dX11_wordAt_70 : decode cX11_wordAt 70 = .ok (.ifCond .ne 6, 3) := by decide +kernel
theorem dX11_wordAt_73 : decode cX11_wordAt 73 = .ok (.iload 6, 2) := by decide +kernel
theorem dX11_wordAt_75 : decode cX11_wordAt 75 = .ok (.ireturn, 1) := by decide +kernel
theorem dX11_wordAt_76 : decode cX11_wordAt 76 = .ok (.iinc 6 1, 3) := by decide +kernel
theorem dX11_wordAt_79 : decode cX11_wordAt 79 = .ok (.goto (-30), 3) := by decide +kernel
theorem dX11_wordAt_82 : decode cX11_wordAt 82 = .ok (.bipush 30, 2) := by decide +kernel
theorem dX11_wordAt_84 : decode cX11_wordAt 84 = .ok (.ireturn, 1) := by decide +kernel
theorem dX11_cutIntoTokens_0 : decode cX11_cutIntoTokens 0 = .ok (.iconst 0, 1) := by decide +kernel
theorem dX11_cutIntoTokens_1 : decode cX11_cutIntoTokens 1 = .ok (.istore_n 1, 1) := by decide +kernel
theorem dX11_cutIntoTokens_2 : decode cX11_cutIntoTokens 2 = .ok (.iconst 0, 1) := by decide +kernel
theorem dX11_cutIntoTokens_3 : decode cX11_cutIntoTokens 3 = .ok (.istore_n 2, 1) := by decide +kernel
theorem dX11_cutIntoTokens_4 : decode cX11_cutIntoTokens 4 = .ok (.iload_n 2, 1) := by decide +kernel
theorem dX11_cutIntoTokens_5 : decode cX11_cutIntoTokens 5 = .ok (.sipush 400, 3) := by decide +kernel
theorem dX11_cutIntoTokens_8 : decode cX11_cutIntoTokens 8 = .ok (.if_icmp .gt 119, 3) := by decide +kernel
theorem dX11_cutIntoTokens_11 : decode cX11_cutIntoTokens 11 = .ok (.aload_n 0, 1) := by decide +kernel
theorem dX11_cutIntoTokens_12 : decode cX11_cutIntoTokens 12 = .ok (.iload_n 1, 1) := by decide +kernel
theorem dX11_cutIntoTokens_13 : decode cX11_cutIntoTokens 13 = .ok (.invokevirtual 209, 3) := by decide +kernel
theorem dX11_cutIntoTokens_16 : decode cX11_cutIntoTokens 16 = .ok (.bipush 32, 2) := by decide +kernel
theorem dX11_cutIntoTokens_18 : decode cX11_cutIntoTokens 18 = .ok (.if_icmp .eq 13, 3) := by decide +kernel
theorem dX11_cutIntoTokens_21 : decode cX11_cutIntoTokens 21 = .ok (.aload_n 0, 1) := by decide +kernel
theorem dX11_cutIntoTokens_22 : decode cX11_cutIntoTokens 22 = .ok (.iload_n 1, 1) := by decide +kernel
theorem dX11_cutIntoTokens_23 : decode cX11_cutIntoTokens 23 = .ok (.invokevirtual 209, 3) := by decide +kernel
theorem dX11_cutIntoTokens_26 : decode cX11_cutIntoTokens 26 = .ok (.bipush 10, 2) := by decide +kernel
theorem dX11_cutIntoTokens_28 : decode cX11_cutIntoTokens 28 = .ok (.if_icmp .ne 9, 3) := by decide +kernel
theorem dX11_cutIntoTokens_31 : decode cX11_cutIntoTokens 31 = .ok (.iinc 1 1, 3) := by decide +kernel
theorem dX11_cutIntoTokens_34 : decode cX11_cutIntoTokens 34 = .ok (.goto (-23), 3) := by decide +kernel
theorem dX11_cutIntoTokens_37 : decode cX11_cutIntoTokens 37 = .ok (.aload_n 0, 1) := by decide +kernel
theorem dX11_cutIntoTokens_38 : decode cX11_cutIntoTokens 38 = .ok (.iload_n 1, 1) := by decide +kernel
theorem dX11_cutIntoTokens_39 : decode cX11_cutIntoTokens 39 = .ok (.invokevirtual 246, 3) := by decide +kernel
theorem dX11_cutIntoTokens_42 : decode cX11_cutIntoTokens 42 = .ok (.istore_n 3, 1) := by decide +kernel
theorem dX11_cutIntoTokens_43 : decode cX11_cutIntoTokens 43 = .ok (.aload_n 0, 1) := by decide +kernel
theorem dX11_cutIntoTokens_44 : decode cX11_cutIntoTokens 44 = .ok (.getfield 27, 3) := by decide +kernel
theorem dX11_cutIntoTokens_47 : decode cX11_cutIntoTokens 47 = .ok (.iload_n 2, 1) := by decide +kernel
theorem dX11_cutIntoTokens_48 : decode cX11_cutIntoTokens 48 = .ok (.iload_n 1, 1) := by decide +kernel
theorem dX11_cutIntoTokens_49 : decode cX11_cutIntoTokens 49 = .ok (.iastore, 1) := by decide +kernel
theorem dX11_cutIntoTokens_50 : decode cX11_cutIntoTokens 50 = .ok (.aload_n 0, 1) := by decide +kernel
theorem dX11_cutIntoTokens_51 : decode cX11_cutIntoTokens 51 = .ok (.getfield 30, 3) := by decide +kernel
theorem dX11_cutIntoTokens_54 : decode cX11_cutIntoTokens 54 = .ok (.iload_n 2, 1) := by decide +kernel
theorem dX11_cutIntoTokens_55 : decode cX11_cutIntoTokens 55 = .ok (.iconst 0, 1) := by decide +kernel
theorem dX11_cutIntoTokens_56 : decode cX11_cutIntoTokens 56 = .ok (.iastore, 1) := by decide +kernel
theorem dX11_cutIntoTokens_57 : decode cX11_cutIntoTokens 57 = .ok (.aload_n 0, 1) := by decide +kernel
theorem dX11_cutIntoTokens_58 : decode cX11_cutIntoTokens 58 = .ok (.getfield 24, 3) := by decide +kernel
theorem dX11_cutIntoTokens_61 : decode cX11_cutIntoTokens 61 = .ok (.iload_n 2, 1) := by decide +kernel
theorem dX11_cutIntoTokens_62 : decode cX11_cutIntoTokens 62 = .ok (.aload_n 0, 1) := by decide +kernel
theorem dX11_cutIntoTokens_63 : decode cX11_cutIntoTokens 63 = .ok (.iload_n 2, 1) := by decide +kernel
theorem dX11_cutIntoTokens_64 : decode cX11_cutIntoTokens 64 = .ok (.iload_n 1, 1) := by decide +kernel
theorem dX11_cutIntoTokens_65 : decode cX11_cutIntoTokens 65 = .ok (.iload_n 3, 1) := by decide +kernel
theorem dX11_cutIntoTokens_66 : decode cX11_cutIntoTokens 66 = .ok (.invokevirtual 249, 3) := by decide +kernel
theorem dX11_cutIntoTokens_69 : decode cX11_cutIntoTokens 69 = .ok (.iastore, 1) := by decide +kernel
theorem dX11_cutIntoTokens_70 : decode cX11_cutIntoTokens 70 = .ok (.iload_n 2, 1) := by decide +kernel
theorem dX11_cutIntoTokens_71 : decode cX11_cutIntoTokens 71 = .ok (.sipush 400, 3) := by decide +kernel
theorem dX11_cutIntoTokens_74 : decode cX11_cutIntoTokens 74 = .ok (.if_icmp .ne 22, 3) := by decide +kernel
theorem dX11_cutIntoTokens_77 : decode cX11_cutIntoTokens 77 = .ok (.aload_n 0, 1) := by decide +kernel
theorem dX11_cutIntoTokens_78 : decode cX11_cutIntoTokens 78 = .ok (.getfield 24, 3) := by decide +kernel
theorem dX11_cutIntoTokens_81 : decode cX11_cutIntoTokens 81 = .ok (.iload_n 2, 1) := by decide +kernel
theorem dX11_cutIntoTokens_82 : decode cX11_cutIntoTokens 82 = .ok (.iaload, 1) := by decide +kernel
theorem dX11_cutIntoTokens_83 : decode cX11_cutIntoTokens 83 = .ok (.bipush 33, 2) := by decide +kernel
theorem dX11_cutIntoTokens_85 : decode cX11_cutIntoTokens 85 = .ok (.if_icmp .eq 11, 3) := by decide +kernel
theorem dX11_cutIntoTokens_88 : decode cX11_cutIntoTokens 88 = .ok (.aload_n 0, 1) := by decide +kernel
theorem dX11_cutIntoTokens_89 : decode cX11_cutIntoTokens 89 = .ok (.getfield 24, 3) := by decide +kernel
theorem dX11_cutIntoTokens_92 : decode cX11_cutIntoTokens 92 = .ok (.iload_n 2, 1) := by decide +kernel
theorem dX11_cutIntoTokens_93 : decode cX11_cutIntoTokens 93 = .ok (.bipush 32, 2) := by decide +kernel
theorem dX11_cutIntoTokens_95 : decode cX11_cutIntoTokens 95 = .ok (.iastore, 1) := by decide +kernel
theorem dX11_cutIntoTokens_96 : decode cX11_cutIntoTokens 96 = .ok (.aload_n 0, 1) := by decide +kernel
theorem dX11_cutIntoTokens_97 : decode cX11_cutIntoTokens 97 = .ok (.getfield 24, 3) := by decide +kernel
theorem dX11_cutIntoTokens_100 : decode cX11_cutIntoTokens 100 = .ok (.iload_n 2, 1) := by decide +kernel
theorem dX11_cutIntoTokens_101 : decode cX11_cutIntoTokens 101 = .ok (.iaload, 1) := by decide +kernel
theorem dX11_cutIntoTokens_102 : decode cX11_cutIntoTokens 102 = .ok (.bipush 32, 2) := by decide +kernel
theorem dX11_cutIntoTokens_104 : decode cX11_cutIntoTokens 104 = .ok (.if_icmp .eq 14, 3) := by decide +kernel
theorem dX11_cutIntoTokens_107 : decode cX11_cutIntoTokens 107 = .ok (.aload_n 0, 1) := by decide +kernel
theorem dX11_cutIntoTokens_108 : decode cX11_cutIntoTokens 108 = .ok (.getfield 24, 3) := by decide +kernel
theorem dX11_cutIntoTokens_111 : decode cX11_cutIntoTokens 111 = .ok (.iload_n 2, 1) := by decide +kernel
theorem dX11_cutIntoTokens_112 : decode cX11_cutIntoTokens 112 = .ok (.iaload, 1) := by decide +kernel
theorem dX11_cutIntoTokens_113 : decode cX11_cutIntoTokens 113 = .ok (.bipush 33, 2) := by decide +kernel
theorem dX11_cutIntoTokens_115 : decode cX11_cutIntoTokens 115 = .ok (.if_icmp .ne 4, 3) := by decide +kernel
theorem dX11_cutIntoTokens_118 : decode cX11_cutIntoTokens 118 = .ok (.return_, 1) := by decide +kernel
theorem dX11_cutIntoTokens_119 : decode cX11_cutIntoTokens 119 = .ok (.iload_n 3, 1) := by decide +kernel
theorem dX11_cutIntoTokens_120 : decode cX11_cutIntoTokens 120 = .ok (.istore_n 1, 1) := by decide +kernel
theorem dX11_cutIntoTokens_121 : decode cX11_cutIntoTokens 121 = .ok (.iinc 2 1, 3) := by decide +kernel
theorem dX11_cutIntoTokens_124 : decode cX11_cutIntoTokens 124 = .ok (.goto (-120), 3) := by decide +kernel
theorem dX11_cutIntoTokens_127 : decode cX11_cutIntoTokens 127 = .ok (.return_, 1) := by decide +kernel
theorem dX11_eat_0 : decode cX11_eat 0 = .ok (.aload_n 0, 1) := by decide +kernel
theorem dX11_eat_1 : decode cX11_eat 1 = .ok (.getfield 24, 3) := by decide +kernel
theorem dX11_eat_4 : decode cX11_eat 4 = .ok (.aload_n 0, 1) := by decide +kernel
theorem dX11_eat_5 : decode cX11_eat 5 = .ok (.getfield 252, 3) := by decide +kernel
theorem dX11_eat_8 : decode cX11_eat 8 = .ok (.iaload, 1) := by decide +kernel
theorem dX11_eat_9 : decode cX11_eat 9 = .ok (.iload_n 1, 1) := by decide +kernel
theorem dX11_eat_10 : decode cX11_eat 10 = .ok (.if_icmp .eq 5, 3) := by decide +kernel
theorem dX11_eat_13 : decode cX11_eat 13 = .ok (.iconst 0, 1) := by decide +kernel
theorem dX11_eat_14 : decode cX11_eat 14 = .ok (.ireturn, 1) := by decide +kernel
theorem dX11_eat_15 : decode cX11_eat 15 = .ok (.aload_n 0, 1) := by decide +kernel
theorem dX11_eat_16 : decode cX11_eat 16 = .ok (.dup, 1) := by decide +kernel
theorem dX11_eat_17 : decode cX11_eat 17 = .ok (.getfield 252, 3) := by decide +kernel
theorem dX11_eat_20 : decode cX11_eat 20 = .ok (.iconst 1, 1) := by decide +kernel
theorem dX11_eat_21 : decode cX11_eat 21 = .ok (.iadd, 1) := by decide +kernel
theorem dX11_eat_22 : decode cX11_eat 22 = .ok (.putfield 252, 3) := by decide +kernel
theorem dX11_eat_25 : decode cX11_eat 25 = .ok (.iconst 1, 1) := by decide +kernel
theorem dX11_eat_26 : decode cX11_eat 26 = .ok (.ireturn, 1) := by decide +kernel
theorem dX11_eatAs_0 : decode cX11_eatAs 0 = .ok (.aload_n 0, 1) := by decide +kernel
theorem dX11_eatAs_1 : decode cX11_eatAs 1 = .ok (.getfield 30, 3) := by decide +kernel
theorem dX11_eatAs_4 : decode cX11_eatAs 4 = .ok (.aload_n 0, 1) := by decide +kernel
theorem dX11_eatAs_5 : decode cX11_eatAs 5 = .ok (.getfield 252, 3) := by decide +kernel
theorem dX11_eatAs_8 : decode cX11_eatAs 8 = .ok (.iload_n 2, 1) := by decide +kernel
theorem dX11_eatAs_9 : decode cX11_eatAs 9 = .ok (.iastore, 1) := by decide +kernel
theorem dX11_eatAs_10 : decode cX11_eatAs 10 = .ok (.aload_n 0, 1) := by decide +kernel
theorem dX11_eatAs_11 : decode cX11_eatAs 11 = .ok (.iload_n 1, 1) := by decide +kernel
theorem dX11_eatAs_12 : decode cX11_eatAs 12 = .ok (.invokevirtual 255, 3) := by decide +kernel
theorem dX11_eatAs_15 : decode cX11_eatAs 15 = .ok (.ireturn, 1) := by decide +kernel
theorem dX11_deeper_0 : decode cX11_deeper 0 = .ok (.aload_n 0, 1) := by decide +kernel
theorem dX11_deeper_1 : decode cX11_deeper 1 = .ok (.getfield 258, 3) := by decide +kernel
theorem dX11_deeper_4 : decode cX11_deeper 4 = .ok (.bipush 8, 2) := by decide +kernel
theorem dX11_deeper_6 : decode cX11_deeper 6 = .ok (.if_icmp .eq 11, 3) := by decide +kernel
theorem dX11_deeper_9 : decode cX11_deeper 9 = .ok (.aload_n 0, 1) := by decide +kernel
theorem dX11_deeper_10 : decode cX11_deeper 10 = .ok (.iload_n 1, 1) := by decide +kernel
theorem dX11_deeper_11 : decode cX11_deeper 11 = .ok (.invokevirtual 255, 3) := by decide +kernel
theorem dX11_deeper_14 : decode cX11_deeper 14 = .ok (.ifCond .ne 5, 3) := by decide +kernel
theorem dX11_deeper_17 : decode cX11_deeper 17 = .ok (.iconst 0, 1) := by decide +kernel
theorem dX11_deeper_18 : decode cX11_deeper 18 = .ok (.ireturn, 1) := by decide +kernel
theorem dX11_deeper_19 : decode cX11_deeper 19 = .ok (.aload_n 0, 1) := by decide +kernel
theorem dX11_deeper_20 : decode cX11_deeper 20 = .ok (.dup, 1) := by decide +kernel
theorem dX11_deeper_21 : decode cX11_deeper 21 = .ok (.getfield 258, 3) := by decide +kernel
theorem dX11_deeper_24 : decode cX11_deeper 24 = .ok (.iconst 1, 1) := by decide +kernel
theorem dX11_deeper_25 : decode cX11_deeper 25 = .ok (.iadd, 1) := by decide +kernel
theorem dX11_deeper_26 : decode cX11_deeper 26 = .ok (.putfield 258, 3) := by decide +kernel
theorem dX11_deeper_29 : decode cX11_deeper 29 = .ok (.iconst 1, 1) := by decide +kernel
theorem dX11_deeper_30 : decode cX11_deeper 30 = .ok (.ireturn, 1) := by decide +kernel
theorem dX11_closes_0 : decode cX11_closes 0 = .ok (.aload_n 0, 1) := by decide +kernel
theorem dX11_closes_1 : decode cX11_closes 1 = .ok (.iload_n 1, 1) := by decide +kernel
theorem dX11_closes_2 : decode cX11_closes 2 = .ok (.invokevirtual 255, 3) := by decide +kernel
theorem dX11_closes_5 : decode cX11_closes 5 = .ok (.ifCond .ne 5, 3) := by decide +kernel
theorem dX11_closes_8 : decode cX11_closes 8 = .ok (.iconst 0, 1) := by decide +kernel
theorem dX11_closes_9 : decode cX11_closes 9 = .ok (.ireturn, 1) := by decide +kernel
theorem dX11_closes_10 : decode cX11_closes 10 = .ok (.aload_n 0, 1) := by decide +kernel
theorem dX11_closes_11 : decode cX11_closes 11 = .ok (.dup, 1) := by decide +kernel
theorem dX11_closes_12 : decode cX11_closes 12 = .ok (.getfield 258, 3) := by decide +kernel
theorem dX11_closes_15 : decode cX11_closes 15 = .ok (.iconst 1, 1) := by decide +kernel
theorem dX11_closes_16 : decode cX11_closes 16 = .ok (.isub, 1) := by decide +kernel
theorem dX11_closes_17 : decode cX11_closes 17 = .ok (.putfield 258, 3) := by decide +kernel
theorem dX11_closes_20 : decode cX11_closes 20 = .ok (.iconst 1, 1) := by decide +kernel
theorem dX11_closes_21 : decode cX11_closes 21 = .ok (.ireturn, 1) := by decide +kernel
theorem dX11_put_0 : decode cX11_put 0 = .ok (.aload_n 1, 1) := by decide +kernel
theorem dX11_put_1 : decode cX11_put 1 = .ok (.getfield 187, 3) := by decide +kernel
theorem dX11_put_4 : decode cX11_put 4 = .ok (.aload_n 1, 1) := by decide +kernel
theorem dX11_put_5 : decode cX11_put 5 = .ok (.getfield 261, 3) := by decide +kernel
theorem dX11_put_8 : decode cX11_put 8 = .ok (.iload_n 2, 1) := by decide +kernel
theorem dX11_put_9 : decode cX11_put 9 = .ok (.iastore, 1) := by decide +kernel
theorem dX11_put_10 : decode cX11_put 10 = .ok (.aload_n 1, 1) := by decide +kernel
theorem dX11_put_11 : decode cX11_put 11 = .ok (.getfield 193, 3) := by decide +kernel
theorem dX11_put_14 : decode cX11_put 14 = .ok (.aload_n 1, 1) := by decide +kernel
theorem dX11_put_15 : decode cX11_put 15 = .ok (.getfield 261, 3) := by decide +kernel
theorem dX11_put_18 : decode cX11_put 18 = .ok (.iload_n 3, 1) := by decide +kernel
theorem dX11_put_19 : decode cX11_put 19 = .ok (.iastore, 1) := by decide +kernel
theorem dX11_put_20 : decode cX11_put 20 = .ok (.aload_n 1, 1) := by decide +kernel
theorem dX11_put_21 : decode cX11_put 21 = .ok (.dup, 1) := by decide +kernel
theorem dX11_put_22 : decode cX11_put 22 = .ok (.getfield 261, 3) := by decide +kernel
theorem dX11_put_25 : decode cX11_put 25 = .ok (.iconst 1, 1) := by decide +kernel
theorem dX11_put_26 : decode cX11_put 26 = .ok (.iadd, 1) := by decide +kernel
theorem dX11_put_27 : decode cX11_put 27 = .ok (.putfield 261, 3) := by decide +kernel
theorem dX11_put_30 : decode cX11_put 30 = .ok (.return_, 1) := by decide +kernel
theorem dX11_isAbout_0 : decode cX11_isAbout 0 = .ok (.aload_n 0, 1) := by decide +kernel
theorem dX11_isAbout_1 : decode cX11_isAbout 1 = .ok (.dup, 1) := by decide +kernel
theorem dX11_isAbout_2 : decode cX11_isAbout 2 = .ok (.getfield 252, 3) := by decide +kernel
theorem dX11_isAbout_5 : decode cX11_isAbout 5 = .ok (.iconst 1, 1) := by decide +kernel
theorem dX11_isAbout_6 : decode cX11_isAbout 6 = .ok (.iadd, 1) := by decide +kernel
theorem dX11_isAbout_7 : decode cX11_isAbout 7 = .ok (.putfield 252, 3) := by decide +kernel
theorem dX11_isAbout_10 : decode cX11_isAbout 10 = .ok (.iload_n 2, 1) := by decide +kernel
theorem dX11_isAbout_11 : decode cX11_isAbout 11 = .ok (.bipush 14, 2) := by decide +kernel
theorem dX11_isAbout_13 : decode cX11_isAbout 13 = .ok (.if_icmp .eq 9, 3) := by decide +kernel
theorem dX11_isAbout_16 : decode cX11_isAbout 16 = .ok (.iload_n 2, 1) := by decide +kernel
theorem dX11_isAbout_17 : decode cX11_isAbout 17 = .ok (.bipush 15, 2) := by decide +kernel
theorem dX11_isAbout_19 : decode cX11_isAbout 19 = .ok (.if_icmp .ne 14, 3) := by decide +kernel
theorem dX11_isAbout_22 : decode cX11_isAbout 22 = .ok (.aload_n 0, 1) := by decide +kernel
theorem dX11_isAbout_23 : decode cX11_isAbout 23 = .ok (.bipush 16, 2) := by decide +kernel
theorem dX11_isAbout_25 : decode cX11_isAbout 25 = .ok (.invokevirtual 255, 3) := by decide +kernel
theorem dX11_isAbout_28 : decode cX11_isAbout 28 = .ok (.ifCond .ne 5, 3) := by decide +kernel
theorem dX11_isAbout_31 : decode cX11_isAbout 31 = .ok (.iconst 0, 1) := by decide +kernel
theorem dX11_isAbout_32 : decode cX11_isAbout 32 = .ok (.ireturn, 1) := by decide +kernel
theorem dX11_isAbout_33 : decode cX11_isAbout 33 = .ok (.aload_n 0, 1) := by decide +kernel
theorem dX11_isAbout_34 : decode cX11_isAbout 34 = .ok (.getfield 252, 3) := by decide +kernel
theorem dX11_isAbout_37 : decode cX11_isAbout 37 = .ok (.istore 5, 2) := by decide +kernel
theorem dX11_isAbout_39 : decode cX11_isAbout 39 = .ok (.aload_n 0, 1) := by decide +kernel
theorem dX11_isAbout_40 : decode cX11_isAbout 40 = .ok (.bipush 30, 2) := by decide +kernel
theorem dX11_isAbout_42 : decode cX11_isAbout 42 = .ok (.iload_n 3, 1) := by decide +kernel
theorem dX11_isAbout_43 : decode cX11_isAbout 43 = .ok (.invokevirtual 264, 3) := by decide +kernel
theorem dX11_isAbout_46 : decode cX11_isAbout 46 = .ok (.ifCond .ne 5, 3) := by decide +kernel
theorem dX11_isAbout_49 : decode cX11_isAbout 49 = .ok (.iconst 0, 1) := by decide +kernel
theorem dX11_isAbout_50 : decode cX11_isAbout 50 = .ok (.ireturn, 1) := by decide +kernel
theorem dX11_isAbout_51 : decode cX11_isAbout 51 = .ok (.aload_n 1, 1) := by decide +kernel
theorem dX11_isAbout_52 : decode cX11_isAbout 52 = .ok (.getfield 196, 3) := by decide +kernel
theorem dX11_isAbout_55 : decode cX11_isAbout 55 = .ok (.aload_n 1, 1) := by decide +kernel
theorem dX11_isAbout_56 : decode cX11_isAbout 56 = .ok (.getfield 261, 3) := by decide +kernel
theorem dX11_isAbout_59 : decode cX11_isAbout 59 = .ok (.aload_n 0, 1) := by decide +kernel
theorem dX11_isAbout_60 : decode cX11_isAbout 60 = .ok (.getfield 252, 3) := by decide +kernel
theorem dX11_isAbout_63 : decode cX11_isAbout 63 = .ok (.iastore, 1) := by decide +kernel
theorem dX11_isAbout_64 : decode cX11_isAbout 64 = .ok (.iload 4, 2) := by decide +kernel
theorem dX11_isAbout_66 : decode cX11_isAbout 66 = .ok (.ifCond .eq 15, 3) := by decide +kernel
theorem dX11_isAbout_69 : decode cX11_isAbout 69 = .ok (.aload_n 0, 1) := by decide +kernel
theorem dX11_isAbout_70 : decode cX11_isAbout 70 = .ok (.bipush 30, 2) := by decide +kernel
theorem dX11_isAbout_72 : decode cX11_isAbout 72 = .ok (.iload_n 3, 1) := by decide +kernel
theorem dX11_isAbout_73 : decode cX11_isAbout 73 = .ok (.invokevirtual 264, 3) := by decide +kernel
theorem dX11_isAbout_76 : decode cX11_isAbout 76 = .ok (.ifCond .ne 5, 3) := by decide +kernel
theorem dX11_isAbout_79 : decode cX11_isAbout 79 = .ok (.iconst 0, 1) := by decide +kernel
theorem dX11_isAbout_80 : decode cX11_isAbout 80 = .ok (.ireturn, 1) := by decide +kernel
theorem dX11_isAbout_81 : decode cX11_isAbout 81 = .ok (.aload_n 0, 1) := by decide +kernel
theorem dX11_isAbout_82 : decode cX11_isAbout 82 = .ok (.aload_n 1, 1) := by decide +kernel
theorem dX11_isAbout_83 : decode cX11_isAbout 83 = .ok (.iload_n 2, 1) := by decide +kernel
theorem dX11_isAbout_84 : decode cX11_isAbout 84 = .ok (.iload 5, 2) := by decide +kernel
theorem dX11_isAbout_86 : decode cX11_isAbout 86 = .ok (.invokevirtual 267, 3) := by decide +kernel
theorem dX11_isAbout_89 : decode cX11_isAbout 89 = .ok (.iconst 1, 1) := by decide +kernel
theorem dX11_isAbout_90 : decode cX11_isAbout 90 = .ok (.ireturn, 1) := by decide +kernel
theorem dX11_isTest_0 : decode cX11_isTest 0 = .ok (.aload_n 0, 1) := by decide +kernel
theorem dX11_isTest_1 : decode cX11_isTest 1 = .ok (.aload_n 1, 1) := by decide +kernel
theorem dX11_isTest_2 : decode cX11_isTest 2 = .ok (.invokevirtual 271, 3) := by decide +kernel
theorem dX11_isTest_5 : decode cX11_isTest 5 = .ok (.ifCond .ne 5, 3) := by decide +kernel
theorem dX11_isTest_8 : decode cX11_isTest 8 = .ok (.iconst 0, 1) := by decide +kernel
theorem dX11_isTest_9 : decode cX11_isTest 9 = .ok (.ireturn, 1) := by decide +kernel
theorem dX11_isTest_10 : decode cX11_isTest 10 = .ok (.aload_n 0, 1) := by decide +kernel
theorem dX11_isTest_11 : decode cX11_isTest 11 = .ok (.bipush 22, 2) := by decide +kernel
theorem dX11_isTest_13 : decode cX11_isTest 13 = .ok (.invokevirtual 255, 3) := by decide +kernel
theorem dX11_isTest_16 : decode cX11_isTest 16 = .ok (.ifCond .eq 24, 3) := by decide +kernel
theorem dX11_isTest_19 : decode cX11_isTest 19 = .ok (.aload_n 0, 1) := by decide +kernel
theorem dX11_isTest_20 : decode cX11_isTest 20 = .ok (.aload_n 1, 1) := by decide +kernel
theorem dX11_isTest_21 : decode cX11_isTest 21 = .ok (.invokevirtual 271, 3) := by decide +kernel
theorem dX11_isTest_24 : decode cX11_isTest 24 = .ok (.ifCond .ne 5, 3) := by decide +kernel
theorem dX11_isTest_27 : decode cX11_isTest 27 = .ok (.iconst 0, 1) := by decide +kernel
theorem dX11_isTest_28 : decode cX11_isTest 28 = .ok (.ireturn, 1) := by decide +kernel
theorem dX11_isTest_29 : decode cX11_isTest 29 = .ok (.aload_n 0, 1) := by decide +kernel
theorem dX11_isTest_30 : decode cX11_isTest 30 = .ok (.aload_n 1, 1) := by decide +kernel
theorem dX11_isTest_31 : decode cX11_isTest 31 = .ok (.bipush 22, 2) := by decide +kernel
theorem dX11_isTest_33 : decode cX11_isTest 33 = .ok (.iconst 0, 1) := by decide +kernel
theorem dX11_isTest_34 : decode cX11_isTest 34 = .ok (.invokevirtual 267, 3) := by decide +kernel
theorem dX11_isTest_37 : decode cX11_isTest 37 = .ok (.goto (-27), 3) := by decide +kernel
theorem dX11_isTest_40 : decode cX11_isTest 40 = .ok (.iconst 1, 1) := by decide +kernel
theorem dX11_isTest_41 : decode cX11_isTest 41 = .ok (.ireturn, 1) := by decide +kernel
theorem dX11_isBoth_0 : decode cX11_isBoth 0 = .ok (.aload_n 0, 1) := by decide +kernel
theorem dX11_isBoth_1 : decode cX11_isBoth 1 = .ok (.aload_n 1, 1) := by decide +kernel
theorem dX11_isBoth_2 : decode cX11_isBoth 2 = .ok (.invokevirtual 275, 3) := by decide +kernel
theorem dX11_isBoth_5 : decode cX11_isBoth 5 = .ok (.ifCond .ne 5, 3) := by decide +kernel
theorem dX11_isBoth_8 : decode cX11_isBoth 8 = .ok (.iconst 0, 1) := by decide +kernel
theorem dX11_isBoth_9 : decode cX11_isBoth 9 = .ok (.ireturn, 1) := by decide +kernel
theorem dX11_isBoth_10 : decode cX11_isBoth 10 = .ok (.aload_n 0, 1) := by decide +kernel
theorem dX11_isBoth_11 : decode cX11_isBoth 11 = .ok (.bipush 21, 2) := by decide +kernel
theorem dX11_isBoth_13 : decode cX11_isBoth 13 = .ok (.invokevirtual 255, 3) := by decide +kernel
theorem dX11_isBoth_16 : decode cX11_isBoth 16 = .ok (.ifCond .eq 24, 3) := by decide +kernel
theorem dX11_isBoth_19 : decode cX11_isBoth 19 = .ok (.aload_n 0, 1) := by decide +kernel
theorem dX11_isBoth_20 : decode cX11_isBoth 20 = .ok (.aload_n 1, 1) := by decide +kernel
theorem dX11_isBoth_21 : decode cX11_isBoth 21 = .ok (.invokevirtual 275, 3) := by decide +kernel
theorem dX11_isBoth_24 : decode cX11_isBoth 24 = .ok (.ifCond .ne 5, 3) := by decide +kernel
theorem dX11_isBoth_27 : decode cX11_isBoth 27 = .ok (.iconst 0, 1) := by decide +kernel
theorem dX11_isBoth_28 : decode cX11_isBoth 28 = .ok (.ireturn, 1) := by decide +kernel
theorem dX11_isBoth_29 : decode cX11_isBoth 29 = .ok (.aload_n 0, 1) := by decide +kernel
theorem dX11_isBoth_30 : decode cX11_isBoth 30 = .ok (.aload_n 1, 1) := by decide +kernel
theorem dX11_isBoth_31 : decode cX11_isBoth 31 = .ok (.bipush 21, 2) := by decide +kernel
theorem dX11_isBoth_33 : decode cX11_isBoth 33 = .ok (.iconst 0, 1) := by decide +kernel
theorem dX11_isBoth_34 : decode cX11_isBoth 34 = .ok (.invokevirtual 267, 3) := by decide +kernel
theorem dX11_isBoth_37 : decode cX11_isBoth 37 = .ok (.goto (-27), 3) := by decide +kernel
theorem dX11_isBoth_40 : decode cX11_isBoth 40 = .ok (.iconst 1, 1) := by decide +kernel
theorem dX11_isBoth_41 : decode cX11_isBoth 41 = .ok (.ireturn, 1) := by decide +kernel
theorem dX11_isSingle_0 : decode cX11_isSingle 0 = .ok (.aload_n 0, 1) := by decide +kernel
theorem dX11_isSingle_1 : decode cX11_isSingle 1 = .ok (.getfield 24, 3) := by decide +kernel
theorem dX11_isSingle_4 : decode cX11_isSingle 4 = .ok (.aload_n 0, 1) := by decide +kernel
theorem dX11_isSingle_5 : decode cX11_isSingle 5 = .ok (.getfield 252, 3) := by decide +kernel
theorem dX11_isSingle_8 : decode cX11_isSingle 8 = .ok (.iaload, 1) := by decide +kernel
theorem dX11_isSingle_9 : decode cX11_isSingle 9 = .ok (.istore_n 2, 1) := by decide +kernel
theorem dX11_isSingle_10 : decode cX11_isSingle 10 = .ok (.iload_n 2, 1) := by decide +kernel
theorem dX11_isSingle_11 : decode cX11_isSingle 11 = .ok (.bipush 20, 2) := by decide +kernel
theorem dX11_isSingle_13 : decode cX11_isSingle 13 = .ok (.if_icmp .ne 42, 3) := by decide +kernel
theorem dX11_isSingle_16 : decode cX11_isSingle 16 = .ok (.aload_n 0, 1) := by decide +kernel
theorem dX11_isSingle_17 : decode cX11_isSingle 17 = .ok (.bipush 20, 2) := by decide +kernel
theorem dX11_isSingle_19 : decode cX11_isSingle 19 = .ok (.invokevirtual 278, 3) := by decide +kernel
theorem dX11_isSingle_22 : decode cX11_isSingle 22 = .ok (.ifCond .eq 11, 3) := by decide +kernel
theorem dX11_isSingle_25 : decode cX11_isSingle 25 = .ok (.aload_n 0, 1) := by decide +kernel
theorem dX11_isSingle_26 : decode cX11_isSingle 26 = .ok (.aload_n 1, 1) := by decide +kernel
theorem dX11_isSingle_27 : decode cX11_isSingle 27 = .ok (.invokevirtual 275, 3) := by decide +kernel
theorem dX11_isSingle_30 : decode cX11_isSingle 30 = .ok (.ifCond .ne 5, 3) := by decide +kernel
theorem dX11_isSingle_33 : decode cX11_isSingle 33 = .ok (.iconst 0, 1) := by decide +kernel
theorem dX11_isSingle_34 : decode cX11_isSingle 34 = .ok (.ireturn, 1) := by decide +kernel
theorem dX11_isSingle_35 : decode cX11_isSingle 35 = .ok (.aload_n 0, 1) := by decide +kernel
theorem dX11_isSingle_36 : decode cX11_isSingle 36 = .ok (.dup, 1) := by decide +kernel
theorem dX11_isSingle_37 : decode cX11_isSingle 37 = .ok (.getfield 258, 3) := by decide +kernel
theorem dX11_isSingle_40 : decode cX11_isSingle 40 = .ok (.iconst 1, 1) := by decide +kernel
theorem dX11_isSingle_41 : decode cX11_isSingle 41 = .ok (.isub, 1) := by decide +kernel
theorem dX11_isSingle_42 : decode cX11_isSingle 42 = .ok (.putfield 258, 3) := by decide +kernel
theorem dX11_isSingle_45 : decode cX11_isSingle 45 = .ok (.aload_n 0, 1) := by decide +kernel
theorem dX11_isSingle_46 : decode cX11_isSingle 46 = .ok (.aload_n 1, 1) := by decide +kernel
theorem dX11_isSingle_47 : decode cX11_isSingle 47 = .ok (.bipush 20, 2) := by decide +kernel
theorem dX11_isSingle_49 : decode cX11_isSingle 49 = .ok (.iconst 0, 1) := by decide +kernel
theorem dX11_isSingle_50 : decode cX11_isSingle 50 = .ok (.invokevirtual 267, 3) := by decide +kernel
theorem dX11_isSingle_53 : decode cX11_isSingle 53 = .ok (.iconst 1, 1) := by decide +kernel
theorem dX11_isSingle_54 : decode cX11_isSingle 54 = .ok (.ireturn, 1) := by decide +kernel
theorem dX11_isSingle_55 : decode cX11_isSingle 55 = .ok (.iload_n 2, 1) := by decide +kernel
theorem dX11_isSingle_56 : decode cX11_isSingle 56 = .ok (.bipush 91, 2) := by decide +kernel
theorem dX11_isSingle_58 : decode cX11_isSingle 58 = .ok (.if_icmp .ne 35, 3) := by decide +kernel
theorem dX11_isSingle_61 : decode cX11_isSingle 61 = .ok (.aload_n 0, 1) := by decide +kernel
theorem dX11_isSingle_62 : decode cX11_isSingle 62 = .ok (.bipush 91, 2) := by decide +kernel
theorem dX11_isSingle_64 : decode cX11_isSingle 64 = .ok (.invokevirtual 278, 3) := by decide +kernel
theorem dX11_isSingle_67 : decode cX11_isSingle 67 = .ok (.ifCond .eq 24, 3) := by decide +kernel
theorem dX11_isSingle_70 : decode cX11_isSingle 70 = .ok (.aload_n 0, 1) := by decide +kernel
theorem dX11_isSingle_71 : decode cX11_isSingle 71 = .ok (.aload_n 1, 1) := by decide +kernel
theorem dX11_isSingle_72 : decode cX11_isSingle 72 = .ok (.invokevirtual 281, 3) := by decide +kernel
theorem dX11_isSingle_75 : decode cX11_isSingle 75 = .ok (.ifCond .eq 16, 3) := by decide +kernel
theorem dX11_isSingle_78 : decode cX11_isSingle 78 = .ok (.aload_n 0, 1) := by decide +kernel
theorem dX11_isSingle_79 : decode cX11_isSingle 79 = .ok (.bipush 93, 2) := by decide +kernel
theorem dX11_isSingle_81 : decode cX11_isSingle 81 = .ok (.invokevirtual 284, 3) := by decide +kernel
theorem dX11_isSingle_84 : decode cX11_isSingle 84 = .ok (.ifCond .eq 7, 3) := by decide +kernel
theorem dX11_isSingle_87 : decode cX11_isSingle 87 = .ok (.iconst 1, 1) := by decide +kernel
theorem dX11_isSingle_88 : decode cX11_isSingle 88 = .ok (.goto 4, 3) := by decide +kernel
theorem dX11_isSingle_91 : decode cX11_isSingle 91 = .ok (.iconst 0, 1) := by decide +kernel
theorem dX11_isSingle_92 : decode cX11_isSingle 92 = .ok (.ireturn, 1) := by decide +kernel
theorem dX11_isSingle_93 : decode cX11_isSingle 93 = .ok (.iload_n 2, 1) := by decide +kernel
theorem dX11_isSingle_94 : decode cX11_isSingle 94 = .ok (.bipush 17, 2) := by decide +kernel
theorem dX11_isSingle_96 : decode cX11_isSingle 96 = .ok (.if_icmp .ne 13, 3) := by decide +kernel
theorem dX11_isSingle_99 : decode cX11_isSingle 99 = .ok (.aload_n 0, 1) := by decide +kernel
theorem dX11_isSingle_100 : decode cX11_isSingle 100 = .ok (.aload_n 1, 1) := by decide +kernel
theorem dX11_isSingle_101 : decode cX11_isSingle 101 = .ok (.iload_n 2, 1) := by decide +kernel
theorem dX11_isSingle_102 : decode cX11_isSingle 102 = .ok (.bipush 12, 2) := by decide +kernel
theorem dX11_isSingle_104 : decode cX11_isSingle 104 = .ok (.iconst 1, 1) := by decide +kernel
theorem dX11_isSingle_105 : decode cX11_isSingle 105 = .ok (.invokevirtual 287, 3) := by decide +kernel
theorem dX11_isSingle_108 : decode cX11_isSingle 108 = .ok (.ireturn, 1) := by decide +kernel
theorem dX11_isSingle_109 : decode cX11_isSingle 109 = .ok (.iload_n 2, 1) := by decide +kernel
theorem dX11_isSingle_110 : decode cX11_isSingle 110 = .ok (.bipush 18, 2) := by decide +kernel
theorem dX11_isSingle_112 : decode cX11_isSingle 112 = .ok (.if_icmp .eq 9, 3) := by decide +kernel
theorem dX11_isSingle_115 : decode cX11_isSingle 115 = .ok (.iload_n 2, 1) := by decide +kernel
theorem dX11_isSingle_116 : decode cX11_isSingle 116 = .ok (.bipush 13, 2) := by decide +kernel
theorem dX11_isSingle_118 : decode cX11_isSingle 118 = .ok (.if_icmp .ne 13, 3) := by decide +kernel
theorem dX11_isSingle_121 : decode cX11_isSingle 121 = .ok (.aload_n 0, 1) := by decide +kernel
theorem dX11_isSingle_122 : decode cX11_isSingle 122 = .ok (.aload_n 1, 1) := by decide +kernel
theorem dX11_isSingle_123 : decode cX11_isSingle 123 = .ok (.iload_n 2, 1) := by decide +kernel
theorem dX11_isSingle_124 : decode cX11_isSingle 124 = .ok (.bipush 12, 2) := by decide +kernel
theorem dX11_isSingle_126 : decode cX11_isSingle 126 = .ok (.iconst 0, 1) := by decide +kernel
theorem dX11_isSingle_127 : decode cX11_isSingle 127 = .ok (.invokevirtual 287, 3) := by decide +kernel
theorem dX11_isSingle_130 : decode cX11_isSingle 130 = .ok (.ireturn, 1) := by decide +kernel
theorem dX11_isSingle_131 : decode cX11_isSingle 131 = .ok (.iload_n 2, 1) := by decide +kernel
theorem dX11_isSingle_132 : decode cX11_isSingle 132 = .ok (.bipush 19, 2) := by decide +kernel
theorem dX11_isSingle_134 : decode cX11_isSingle 134 = .ok (.if_icmp .ne 15, 3) := by decide +kernel
theorem dX11_isSingle_137 : decode cX11_isSingle 137 = .ok (.aload_n 0, 1) := by decide +kernel
theorem dX11_isSingle_138 : decode cX11_isSingle 138 = .ok (.aload_n 1, 1) := by decide +kernel
theorem dX11_isSingle_139 : decode cX11_isSingle 139 = .ok (.iload_n 2, 1) := by decide +kernel
theorem dX11_isSingle_140 : decode cX11_isSingle 140 = .ok (.bipush 11, 2) := by decide +kernel
theorem dX11_isSingle_142 : decode cX11_isSingle 142 = .ok (.iconst 0, 1) := by decide +kernel
theorem dX11_isSingle_143 : decode cX11_isSingle 143 = .ok (.invokevirtual 287, 3) := by decide +kernel
theorem dX11_isSingle_146 : decode cX11_isSingle 146 = .ok (.goto 8, 3) := by decide +kernel
theorem dX11_isSingle_149 : decode cX11_isSingle 149 = .ok (.aload_n 0, 1) := by decide +kernel
theorem dX11_isSingle_150 : decode cX11_isSingle 150 = .ok (.aload_n 1, 1) := by decide +kernel
theorem dX11_isSingle_151 : decode cX11_isSingle 151 = .ok (.invokevirtual 291, 3) := by decide +kernel
theorem dX11_isSingle_154 : decode cX11_isSingle 154 = .ok (.ireturn, 1) := by decide +kernel
theorem dX11_isCompare_0 : decode cX11_isCompare 0 = .ok (.aload_n 0, 1) := by decide +kernel
theorem dX11_isCompare_1 : decode cX11_isCompare 1 = .ok (.aload_n 1, 1) := by decide +kernel
theorem dX11_isCompare_2 : decode cX11_isCompare 2 = .ok (.invokevirtual 294, 3) := by decide +kernel
theorem dX11_isCompare_5 : decode cX11_isCompare 5 = .ok (.ifCond .ne 5, 3) := by decide +kernel
theorem dX11_isCompare_8 : decode cX11_isCompare 8 = .ok (.iconst 0, 1) := by decide +kernel
theorem dX11_isCompare_9 : decode cX11_isCompare 9 = .ok (.ireturn, 1) := by decide +kernel
theorem dX11_isCompare_10 : decode cX11_isCompare 10 = .ok (.aload_n 0, 1) := by decide +kernel
theorem dX11_isCompare_11 : decode cX11_isCompare 11 = .ok (.getfield 24, 3) := by decide +kernel
theorem dX11_isCompare_14 : decode cX11_isCompare 14 = .ok (.aload_n 0, 1) := by decide +kernel
theorem dX11_isCompare_15 : decode cX11_isCompare 15 = .ok (.getfield 252, 3) := by decide +kernel
theorem dX11_isCompare_18 : decode cX11_isCompare 18 = .ok (.iaload, 1) := by decide +kernel
theorem dX11_isCompare_19 : decode cX11_isCompare 19 = .ok (.istore_n 2, 1) := by decide +kernel
theorem dX11_isCompare_20 : decode cX11_isCompare 20 = .ok (.iload_n 2, 1) := by decide +kernel
theorem dX11_isCompare_21 : decode cX11_isCompare 21 = .ok (.bipush 60, 2) := by decide +kernel
theorem dX11_isCompare_23 : decode cX11_isCompare 23 = .ok (.if_icmp .ne 8, 3) := by decide +kernel
theorem dX11_isCompare_26 : decode cX11_isCompare 26 = .ok (.bipush 106, 2) := by decide +kernel
theorem dX11_isCompare_28 : decode cX11_isCompare 28 = .ok (.goto 50, 3) := by decide +kernel
theorem dX11_isCompare_31 : decode cX11_isCompare 31 = .ok (.iload_n 2, 1) := by decide +kernel
theorem dX11_isCompare_32 : decode cX11_isCompare 32 = .ok (.bipush 62, 2) := by decide +kernel
theorem dX11_isCompare_34 : decode cX11_isCompare 34 = .ok (.if_icmp .ne 8, 3) := by decide +kernel
theorem dX11_isCompare_37 : decode cX11_isCompare 37 = .ok (.bipush 107, 2) := by decide +kernel
theorem dX11_isCompare_39 : decode cX11_isCompare 39 = .ok (.goto 39, 3) := by decide +kernel
theorem dX11_isCompare_42 : decode cX11_isCompare 42 = .ok (.iload_n 2, 1) := by decide +kernel
theorem dX11_isCompare_43 : decode cX11_isCompare 43 = .ok (.bipush 61, 2) := by decide +kernel
theorem dX11_isCompare_45 : decode cX11_isCompare 45 = .ok (.if_icmp .ne 8, 3) := by decide +kernel
theorem dX11_isCompare_48 : decode cX11_isCompare 48 = .ok (.bipush 108, 2) := by decide +kernel
theorem dX11_isCompare_50 : decode cX11_isCompare 50 = .ok (.goto 28, 3) := by decide +kernel
theorem dX11_isCompare_53 : decode cX11_isCompare 53 = .ok (.iload_n 2, 1) := by decide +kernel
theorem dX11_isCompare_54 : decode cX11_isCompare 54 = .ok (.sipush 316, 3) := by decide +kernel
theorem dX11_isCompare_57 : decode cX11_isCompare 57 = .ok (.if_icmp .ne 8, 3) := by decide +kernel
theorem dX11_isCompare_60 : decode cX11_isCompare 60 = .ok (.bipush 109, 2) := by decide +kernel
theorem dX11_isCompare_62 : decode cX11_isCompare 62 = .ok (.goto 16, 3) := by decide +kernel
theorem dX11_isCompare_65 : decode cX11_isCompare 65 = .ok (.iload_n 2, 1) := by decide +kernel
theorem dX11_isCompare_66 : decode cX11_isCompare 66 = .ok (.sipush 318, 3) := by decide +kernel
theorem dX11_isCompare_69 : decode cX11_isCompare 69 = .ok (.if_icmp .ne 8, 3) := by decide +kernel
theorem dX11_isCompare_72 : decode cX11_isCompare 72 = .ok (.bipush 110, 2) := by decide +kernel
theorem dX11_isCompare_74 : decode cX11_isCompare 74 = .ok (.goto 4, 3) := by decide +kernel
theorem dX11_isCompare_77 : decode cX11_isCompare 77 = .ok (.iconst (-1), 1) := by decide +kernel
theorem dX11_isCompare_78 : decode cX11_isCompare 78 = .ok (.istore_n 3, 1) := by decide +kernel
theorem dX11_isCompare_79 : decode cX11_isCompare 79 = .ok (.iload_n 3, 1) := by decide +kernel
theorem dX11_isCompare_80 : decode cX11_isCompare 80 = .ok (.iconst (-1), 1) := by decide +kernel
theorem dX11_isCompare_81 : decode cX11_isCompare 81 = .ok (.if_icmp .ne 5, 3) := by decide +kernel
theorem dX11_isCompare_84 : decode cX11_isCompare 84 = .ok (.iconst 0, 1) := by decide +kernel
theorem dX11_isCompare_85 : decode cX11_isCompare 85 = .ok (.ireturn, 1) := by decide +kernel
theorem dX11_isCompare_86 : decode cX11_isCompare 86 = .ok (.aload_n 0, 1) := by decide +kernel
theorem dX11_isCompare_87 : decode cX11_isCompare 87 = .ok (.dup, 1) := by decide +kernel
theorem dX11_isCompare_88 : decode cX11_isCompare 88 = .ok (.getfield 252, 3) := by decide +kernel
theorem dX11_isCompare_91 : decode cX11_isCompare 91 = .ok (.iconst 1, 1) := by decide +kernel
theorem dX11_isCompare_92 : decode cX11_isCompare 92 = .ok (.iadd, 1) := by decide +kernel
theorem dX11_isCompare_93 : decode cX11_isCompare 93 = .ok (.putfield 252, 3) := by decide +kernel
theorem dX11_isCompare_96 : decode cX11_isCompare 96 = .ok (.aload_n 0, 1) := by decide +kernel
theorem dX11_isCompare_97 : decode cX11_isCompare 97 = .ok (.aload_n 1, 1) := by decide +kernel
theorem dX11_isCompare_98 : decode cX11_isCompare 98 = .ok (.invokevirtual 294, 3) := by decide +kernel
theorem dX11_isCompare_101 : decode cX11_isCompare 101 = .ok (.ifCond .ne 5, 3) := by decide +kernel
theorem dX11_isCompare_104 : decode cX11_isCompare 104 = .ok (.iconst 0, 1) := by decide +kernel
theorem dX11_isCompare_105 : decode cX11_isCompare 105 = .ok (.ireturn, 1) := by decide +kernel
theorem dX11_isCompare_106 : decode cX11_isCompare 106 = .ok (.aload_n 0, 1) := by decide +kernel
theorem dX11_isCompare_107 : decode cX11_isCompare 107 = .ok (.aload_n 1, 1) := by decide +kernel
theorem dX11_isCompare_108 : decode cX11_isCompare 108 = .ok (.iload_n 3, 1) := by decide +kernel
theorem dX11_isCompare_109 : decode cX11_isCompare 109 = .ok (.iconst 0, 1) := by decide +kernel
theorem dX11_isCompare_110 : decode cX11_isCompare 110 = .ok (.invokevirtual 267, 3) := by decide +kernel
theorem dX11_isCompare_113 : decode cX11_isCompare 113 = .ok (.iconst 1, 1) := by decide +kernel
theorem dX11_isCompare_114 : decode cX11_isCompare 114 = .ok (.ireturn, 1) := by decide +kernel
theorem dX11_isSum_0 : decode cX11_isSum 0 = .ok (.aload_n 0, 1) := by decide +kernel
theorem dX11_isSum_1 : decode cX11_isSum 1 = .ok (.aload_n 1, 1) := by decide +kernel
theorem dX11_isSum_2 : decode cX11_isSum 2 = .ok (.invokevirtual 297, 3) := by decide +kernel
theorem dX11_isSum_5 : decode cX11_isSum 5 = .ok (.ifCond .ne 5, 3) := by decide +kernel
theorem dX11_isSum_8 : decode cX11_isSum 8 = .ok (.iconst 0, 1) := by decide +kernel
theorem dX11_isSum_9 : decode cX11_isSum 9 = .ok (.ireturn, 1) := by decide +kernel
theorem dX11_isSum_10 : decode cX11_isSum 10 = .ok (.aload_n 0, 1) := by decide +kernel
theorem dX11_isSum_11 : decode cX11_isSum 11 = .ok (.getfield 24, 3) := by decide +kernel
theorem dX11_isSum_14 : decode cX11_isSum 14 = .ok (.aload_n 0, 1) := by decide +kernel
theorem dX11_isSum_15 : decode cX11_isSum 15 = .ok (.getfield 252, 3) := by decide +kernel
theorem dX11_isSum_18 : decode cX11_isSum 18 = .ok (.iaload, 1) := by decide +kernel
theorem dX11_isSum_19 : decode cX11_isSum 19 = .ok (.bipush 43, 2) := by decide +kernel
theorem dX11_isSum_21 : decode cX11_isSum 21 = .ok (.if_icmp .eq 17, 3) := by decide +kernel
theorem dX11_isSum_24 : decode cX11_isSum 24 = .ok (.aload_n 0, 1) := by decide +kernel
theorem dX11_isSum_25 : decode cX11_isSum 25 = .ok (.getfield 24, 3) := by decide +kernel
theorem dX11_isSum_28 : decode cX11_isSum 28 = .ok (.aload_n 0, 1) := by decide +kernel
theorem dX11_isSum_29 : decode cX11_isSum 29 = .ok (.getfield 252, 3) := by decide +kernel
theorem dX11_isSum_32 : decode cX11_isSum 32 = .ok (.iaload, 1) := by decide +kernel
theorem dX11_isSum_33 : decode cX11_isSum 33 = .ok (.bipush 45, 2) := by decide +kernel
theorem dX11_isSum_35 : decode cX11_isSum 35 = .ok (.if_icmp .ne 55, 3) := by decide +kernel
theorem dX11_isSum_38 : decode cX11_isSum 38 = .ok (.aload_n 0, 1) := by decide +kernel
theorem dX11_isSum_39 : decode cX11_isSum 39 = .ok (.getfield 24, 3) := by decide +kernel
theorem dX11_isSum_42 : decode cX11_isSum 42 = .ok (.aload_n 0, 1) := by decide +kernel
theorem dX11_isSum_43 : decode cX11_isSum 43 = .ok (.getfield 252, 3) := by decide +kernel
theorem dX11_isSum_46 : decode cX11_isSum 46 = .ok (.iaload, 1) := by decide +kernel
theorem dX11_isSum_47 : decode cX11_isSum 47 = .ok (.bipush 43, 2) := by decide +kernel
theorem dX11_isSum_49 : decode cX11_isSum 49 = .ok (.if_icmp .ne 8, 3) := by decide +kernel
theorem dX11_isSum_52 : decode cX11_isSum 52 = .ok (.bipush 101, 2) := by decide +kernel
theorem dX11_isSum_54 : decode cX11_isSum 54 = .ok (.goto 5, 3) := by decide +kernel
theorem dX11_isSum_57 : decode cX11_isSum 57 = .ok (.bipush 102, 2) := by decide +kernel
theorem dX11_isSum_59 : decode cX11_isSum 59 = .ok (.istore_n 2, 1) := by decide +kernel
theorem dX11_isSum_60 : decode cX11_isSum 60 = .ok (.aload_n 0, 1) := by decide +kernel
theorem dX11_isSum_61 : decode cX11_isSum 61 = .ok (.dup, 1) := by decide +kernel
theorem dX11_isSum_62 : decode cX11_isSum 62 = .ok (.getfield 252, 3) := by decide +kernel
theorem dX11_isSum_65 : decode cX11_isSum 65 = .ok (.iconst 1, 1) := by decide +kernel
theorem dX11_isSum_66 : decode cX11_isSum 66 = .ok (.iadd, 1) := by decide +kernel
theorem dX11_isSum_67 : decode cX11_isSum 67 = .ok (.putfield 252, 3) := by decide +kernel
theorem dX11_isSum_70 : decode cX11_isSum 70 = .ok (.aload_n 0, 1) := by decide +kernel
theorem dX11_isSum_71 : decode cX11_isSum 71 = .ok (.aload_n 1, 1) := by decide +kernel
theorem dX11_isSum_72 : decode cX11_isSum 72 = .ok (.invokevirtual 297, 3) := by decide +kernel
theorem dX11_isSum_75 : decode cX11_isSum 75 = .ok (.ifCond .ne 5, 3) := by decide +kernel
theorem dX11_isSum_78 : decode cX11_isSum 78 = .ok (.iconst 0, 1) := by decide +kernel
theorem dX11_isSum_79 : decode cX11_isSum 79 = .ok (.ireturn, 1) := by decide +kernel
theorem dX11_isSum_80 : decode cX11_isSum 80 = .ok (.aload_n 0, 1) := by decide +kernel
theorem dX11_isSum_81 : decode cX11_isSum 81 = .ok (.aload_n 1, 1) := by decide +kernel
theorem dX11_isSum_82 : decode cX11_isSum 82 = .ok (.iload_n 2, 1) := by decide +kernel
theorem dX11_isSum_83 : decode cX11_isSum 83 = .ok (.iconst 0, 1) := by decide +kernel
theorem dX11_isSum_84 : decode cX11_isSum 84 = .ok (.invokevirtual 267, 3) := by decide +kernel
theorem dX11_isSum_87 : decode cX11_isSum 87 = .ok (.goto (-77), 3) := by decide +kernel
theorem dX11_isSum_90 : decode cX11_isSum 90 = .ok (.iconst 1, 1) := by decide +kernel
theorem dX11_isSum_91 : decode cX11_isSum 91 = .ok (.ireturn, 1) := by decide +kernel
theorem dX11_isProduct_0 : decode cX11_isProduct 0 = .ok (.aload_n 0, 1) := by decide +kernel
theorem dX11_isProduct_1 : decode cX11_isProduct 1 = .ok (.aload_n 1, 1) := by decide +kernel
theorem dX11_isProduct_2 : decode cX11_isProduct 2 = .ok (.invokevirtual 300, 3) := by decide +kernel
theorem dX11_isProduct_5 : decode cX11_isProduct 5 = .ok (.ifCond .ne 5, 3) := by decide +kernel
theorem dX11_isProduct_8 : decode cX11_isProduct 8 = .ok (.iconst 0, 1) := by decide +kernel
theorem dX11_isProduct_9 : decode cX11_isProduct 9 = .ok (.ireturn, 1) := by decide +kernel
theorem dX11_isProduct_10 : decode cX11_isProduct 10 = .ok (.aload_n 0, 1) := by decide +kernel
theorem dX11_isProduct_11 : decode cX11_isProduct 11 = .ok (.getfield 24, 3) := by decide +kernel
theorem dX11_isProduct_14 : decode cX11_isProduct 14 = .ok (.aload_n 0, 1) := by decide +kernel
theorem dX11_isProduct_15 : decode cX11_isProduct 15 = .ok (.getfield 252, 3) := by decide +kernel
theorem dX11_isProduct_18 : decode cX11_isProduct 18 = .ok (.iaload, 1) := by decide +kernel
theorem dX11_isProduct_19 : decode cX11_isProduct 19 = .ok (.bipush 42, 2) := by decide +kernel
theorem dX11_isProduct_21 : decode cX11_isProduct 21 = .ok (.if_icmp .eq 17, 3) := by decide +kernel
theorem dX11_isProduct_24 : decode cX11_isProduct 24 = .ok (.aload_n 0, 1) := by decide +kernel
theorem dX11_isProduct_25 : decode cX11_isProduct 25 = .ok (.getfield 24, 3) := by decide +kernel
theorem dX11_isProduct_28 : decode cX11_isProduct 28 = .ok (.aload_n 0, 1) := by decide +kernel
theorem dX11_isProduct_29 : decode cX11_isProduct 29 = .ok (.getfield 252, 3) := by decide +kernel
theorem dX11_isProduct_32 : decode cX11_isProduct 32 = .ok (.iaload, 1) := by decide +kernel
theorem dX11_isProduct_33 : decode cX11_isProduct 33 = .ok (.bipush 47, 2) := by decide +kernel
theorem dX11_isProduct_35 : decode cX11_isProduct 35 = .ok (.if_icmp .ne 55, 3) := by decide +kernel
theorem dX11_isProduct_38 : decode cX11_isProduct 38 = .ok (.aload_n 0, 1) := by decide +kernel
theorem dX11_isProduct_39 : decode cX11_isProduct 39 = .ok (.getfield 24, 3) := by decide +kernel
theorem dX11_isProduct_42 : decode cX11_isProduct 42 = .ok (.aload_n 0, 1) := by decide +kernel
theorem dX11_isProduct_43 : decode cX11_isProduct 43 = .ok (.getfield 252, 3) := by decide +kernel
theorem dX11_isProduct_46 : decode cX11_isProduct 46 = .ok (.iaload, 1) := by decide +kernel
theorem dX11_isProduct_47 : decode cX11_isProduct 47 = .ok (.bipush 42, 2) := by decide +kernel
theorem dX11_isProduct_49 : decode cX11_isProduct 49 = .ok (.if_icmp .ne 8, 3) := by decide +kernel
theorem dX11_isProduct_52 : decode cX11_isProduct 52 = .ok (.bipush 103, 2) := by decide +kernel
theorem dX11_isProduct_54 : decode cX11_isProduct 54 = .ok (.goto 5, 3) := by decide +kernel
theorem dX11_isProduct_57 : decode cX11_isProduct 57 = .ok (.bipush 104, 2) := by decide +kernel
theorem dX11_isProduct_59 : decode cX11_isProduct 59 = .ok (.istore_n 2, 1) := by decide +kernel
theorem dX11_isProduct_60 : decode cX11_isProduct 60 = .ok (.aload_n 0, 1) := by decide +kernel
theorem dX11_isProduct_61 : decode cX11_isProduct 61 = .ok (.dup, 1) := by decide +kernel
theorem dX11_isProduct_62 : decode cX11_isProduct 62 = .ok (.getfield 252, 3) := by decide +kernel
theorem dX11_isProduct_65 : decode cX11_isProduct 65 = .ok (.iconst 1, 1) := by decide +kernel
theorem dX11_isProduct_66 : decode cX11_isProduct 66 = .ok (.iadd, 1) := by decide +kernel
theorem dX11_isProduct_67 : decode cX11_isProduct 67 = .ok (.putfield 252, 3) := by decide +kernel
theorem dX11_isProduct_70 : decode cX11_isProduct 70 = .ok (.aload_n 0, 1) := by decide +kernel
theorem dX11_isProduct_71 : decode cX11_isProduct 71 = .ok (.aload_n 1, 1) := by decide +kernel
theorem dX11_isProduct_72 : decode cX11_isProduct 72 = .ok (.invokevirtual 300, 3) := by decide +kernel
theorem dX11_isProduct_75 : decode cX11_isProduct 75 = .ok (.ifCond .ne 5, 3) := by decide +kernel
theorem dX11_isProduct_78 : decode cX11_isProduct 78 = .ok (.iconst 0, 1) := by decide +kernel
theorem dX11_isProduct_79 : decode cX11_isProduct 79 = .ok (.ireturn, 1) := by decide +kernel
theorem dX11_isProduct_80 : decode cX11_isProduct 80 = .ok (.aload_n 0, 1) := by decide +kernel
theorem dX11_isProduct_81 : decode cX11_isProduct 81 = .ok (.aload_n 1, 1) := by decide +kernel
theorem dX11_isProduct_82 : decode cX11_isProduct 82 = .ok (.iload_n 2, 1) := by decide +kernel
theorem dX11_isProduct_83 : decode cX11_isProduct 83 = .ok (.iconst 0, 1) := by decide +kernel
theorem dX11_isProduct_84 : decode cX11_isProduct 84 = .ok (.invokevirtual 267, 3) := by decide +kernel
theorem dX11_isProduct_87 : decode cX11_isProduct 87 = .ok (.goto (-77), 3) := by decide +kernel
theorem dX11_isProduct_90 : decode cX11_isProduct 90 = .ok (.iconst 1, 1) := by decide +kernel
theorem dX11_isProduct_91 : decode cX11_isProduct 91 = .ok (.ireturn, 1) := by decide +kernel
theorem dX11_isValue_0 : decode cX11_isValue 0 = .ok (.aload_n 0, 1) := by decide +kernel
theorem dX11_isValue_1 : decode cX11_isValue 1 = .ok (.getfield 24, 3) := by decide +kernel
theorem dX11_isValue_4 : decode cX11_isValue 4 = .ok (.aload_n 0, 1) := by decide +kernel
theorem dX11_isValue_5 : decode cX11_isValue 5 = .ok (.getfield 252, 3) := by decide +kernel
theorem dX11_isValue_8 : decode cX11_isValue 8 = .ok (.iaload, 1) := by decide +kernel
theorem dX11_isValue_9 : decode cX11_isValue 9 = .ok (.istore_n 2, 1) := by decide +kernel
theorem dX11_isValue_10 : decode cX11_isValue 10 = .ok (.iload_n 2, 1) := by decide +kernel
theorem dX11_isValue_11 : decode cX11_isValue 11 = .ok (.bipush 45, 2) := by decide +kernel
theorem dX11_isValue_13 : decode cX11_isValue 13 = .ok (.if_icmp .ne 42, 3) := by decide +kernel
theorem dX11_isValue_16 : decode cX11_isValue 16 = .ok (.aload_n 0, 1) := by decide +kernel
theorem dX11_isValue_17 : decode cX11_isValue 17 = .ok (.bipush 45, 2) := by decide +kernel
theorem dX11_isValue_19 : decode cX11_isValue 19 = .ok (.invokevirtual 278, 3) := by decide +kernel
theorem dX11_isValue_22 : decode cX11_isValue 22 = .ok (.ifCond .eq 11, 3) := by decide +kernel
theorem dX11_isValue_25 : decode cX11_isValue 25 = .ok (.aload_n 0, 1) := by decide +kernel
theorem dX11_isValue_26 : decode cX11_isValue 26 = .ok (.aload_n 1, 1) := by decide +kernel
theorem dX11_isValue_27 : decode cX11_isValue 27 = .ok (.invokevirtual 300, 3) := by decide +kernel
theorem dX11_isValue_30 : decode cX11_isValue 30 = .ok (.ifCond .ne 5, 3) := by decide +kernel
theorem dX11_isValue_33 : decode cX11_isValue 33 = .ok (.iconst 0, 1) := by decide +kernel
theorem dX11_isValue_34 : decode cX11_isValue 34 = .ok (.ireturn, 1) := by decide +kernel
theorem dX11_isValue_35 : decode cX11_isValue 35 = .ok (.aload_n 0, 1) := by decide +kernel
theorem dX11_isValue_36 : decode cX11_isValue 36 = .ok (.dup, 1) := by decide +kernel
theorem dX11_isValue_37 : decode cX11_isValue 37 = .ok (.getfield 258, 3) := by decide +kernel
theorem dX11_isValue_40 : decode cX11_isValue 40 = .ok (.iconst 1, 1) := by decide +kernel
theorem dX11_isValue_41 : decode cX11_isValue 41 = .ok (.isub, 1) := by decide +kernel
theorem dX11_isValue_42 : decode cX11_isValue 42 = .ok (.putfield 258, 3) := by decide +kernel
theorem dX11_isValue_45 : decode cX11_isValue 45 = .ok (.aload_n 0, 1) := by decide +kernel
theorem dX11_isValue_46 : decode cX11_isValue 46 = .ok (.aload_n 1, 1) := by decide +kernel
theorem dX11_isValue_47 : decode cX11_isValue 47 = .ok (.bipush 105, 2) := by decide +kernel
theorem dX11_isValue_49 : decode cX11_isValue 49 = .ok (.iconst 0, 1) := by decide +kernel
theorem dX11_isValue_50 : decode cX11_isValue 50 = .ok (.invokevirtual 267, 3) := by decide +kernel
theorem dX11_isValue_53 : decode cX11_isValue 53 = .ok (.iconst 1, 1) := by decide +kernel
theorem dX11_isValue_54 : decode cX11_isValue 54 = .ok (.ireturn, 1) := by decide +kernel
theorem dX11_isValue_55 : decode cX11_isValue 55 = .ok (.iload_n 2, 1) := by decide +kernel
theorem dX11_isValue_56 : decode cX11_isValue 56 = .ok (.bipush 40, 2) := by decide +kernel
theorem dX11_isValue_58 : decode cX11_isValue 58 = .ok (.if_icmp .ne 35, 3) := by decide +kernel
theorem dX11_isValue_61 : decode cX11_isValue 61 = .ok (.aload_n 0, 1) := by decide +kernel
theorem dX11_isValue_62 : decode cX11_isValue 62 = .ok (.bipush 40, 2) := by decide +kernel
theorem dX11_isValue_64 : decode cX11_isValue 64 = .ok (.invokevirtual 278, 3) := by decide +kernel
theorem dX11_isValue_67 : decode cX11_isValue 67 = .ok (.ifCond .eq 24, 3) := by decide +kernel
theorem dX11_isValue_70 : decode cX11_isValue 70 = .ok (.aload_n 0, 1) := by decide +kernel
theorem dX11_isValue_71 : decode cX11_isValue 71 = .ok (.aload_n 1, 1) := by decide +kernel
theorem dX11_isValue_72 : decode cX11_isValue 72 = .ok (.invokevirtual 294, 3) := by decide +kernel
theorem dX11_isValue_75 : decode cX11_isValue 75 = .ok (.ifCond .eq 16, 3) := by decide +kernel
theorem dX11_isValue_78 : decode cX11_isValue 78 = .ok (.aload_n 0, 1) := by decide +kernel
theorem dX11_isValue_79 : decode cX11_isValue 79 = .ok (.bipush 41, 2) := by decide +kernel
theorem dX11_isValue_81 : decode cX11_isValue 81 = .ok (.invokevirtual 284, 3) := by decide +kernel
theorem dX11_isValue_84 : decode cX11_isValue 84 = .ok (.ifCond .eq 7, 3) := by decide +kernel
theorem dX11_isValue_87 : decode cX11_isValue 87 = .ok (.iconst 1, 1) := by decide +kernel
theorem dX11_isValue_88 : decode cX11_isValue 88 = .ok (.goto 4, 3) := by decide +kernel
theorem dX11_isValue_91 : decode cX11_isValue 91 = .ok (.iconst 0, 1) := by decide +kernel
theorem dX11_isValue_92 : decode cX11_isValue 92 = .ok (.ireturn, 1) := by decide +kernel
theorem dX11_isValue_93 : decode cX11_isValue 93 = .ok (.iload_n 2, 1) := by decide +kernel
theorem dX11_isValue_94 : decode cX11_isValue 94 = .ok (.bipush 23, 2) := by decide +kernel
theorem dX11_isValue_96 : decode cX11_isValue 96 = .ok (.if_icmp .eq 9, 3) := by decide +kernel
theorem dX11_isValue_99 : decode cX11_isValue 99 = .ok (.iload_n 2, 1) := by decide +kernel
theorem dX11_isValue_100 : decode cX11_isValue 100 = .ok (.bipush 24, 2) := by decide +kernel
theorem dX11_isValue_102 : decode cX11_isValue 102 = .ok (.if_icmp .ne 10, 3) := by decide +kernel
theorem dX11_isValue_105 : decode cX11_isValue 105 = .ok (.aload_n 0, 1) := by decide +kernel
theorem dX11_isValue_106 : decode cX11_isValue 106 = .ok (.aload_n 1, 1) := by decide +kernel
theorem dX11_isValue_107 : decode cX11_isValue 107 = .ok (.iload_n 2, 1) := by decide +kernel
theorem dX11_isValue_108 : decode cX11_isValue 108 = .ok (.invokevirtual 303, 3) := by decide +kernel
theorem dX11_isValue_111 : decode cX11_isValue 111 = .ok (.ireturn, 1) := by decide +kernel
theorem dX11_isValue_112 : decode cX11_isValue 112 = .ok (.iload_n 2, 1) := by decide +kernel
theorem dX11_isValue_113 : decode cX11_isValue 113 = .ok (.bipush 14, 2) := by decide +kernel
theorem dX11_isValue_115 : decode cX11_isValue 115 = .ok (.if_icmp .ne 13, 3) := by decide +kernel
theorem dX11_isValue_118 : decode cX11_isValue 118 = .ok (.aload_n 0, 1) := by decide +kernel
theorem dX11_isValue_119 : decode cX11_isValue 119 = .ok (.aload_n 1, 1) := by decide +kernel
theorem dX11_isValue_120 : decode cX11_isValue 120 = .ok (.iload_n 2, 1) := by decide +kernel
theorem dX11_isValue_121 : decode cX11_isValue 121 = .ok (.bipush 12, 2) := by decide +kernel
theorem dX11_isValue_123 : decode cX11_isValue 123 = .ok (.iconst 0, 1) := by decide +kernel
theorem dX11_isValue_124 : decode cX11_isValue 124 = .ok (.invokevirtual 287, 3) := by decide +kernel
theorem dX11_isValue_127 : decode cX11_isValue 127 = .ok (.ireturn, 1) := by decide +kernel
theorem dX11_isValue_128 : decode cX11_isValue 128 = .ok (.iload_n 2, 1) := by decide +kernel
theorem dX11_isValue_129 : decode cX11_isValue 129 = .ok (.bipush 15, 2) := by decide +kernel
theorem dX11_isValue_131 : decode cX11_isValue 131 = .ok (.if_icmp .ne 13, 3) := by decide +kernel
theorem dX11_isValue_134 : decode cX11_isValue 134 = .ok (.aload_n 0, 1) := by decide +kernel
theorem dX11_isValue_135 : decode cX11_isValue 135 = .ok (.aload_n 1, 1) := by decide +kernel
theorem dX11_isValue_136 : decode cX11_isValue 136 = .ok (.iload_n 2, 1) := by decide +kernel
theorem dX11_isValue_137 : decode cX11_isValue 137 = .ok (.bipush 11, 2) := by decide +kernel
theorem dX11_isValue_139 : decode cX11_isValue 139 = .ok (.iconst 0, 1) := by decide +kernel
theorem dX11_isValue_140 : decode cX11_isValue 140 = .ok (.invokevirtual 287, 3) := by decide +kernel
theorem dX11_isValue_143 : decode cX11_isValue 143 = .ok (.ireturn, 1) := by decide +kernel
theorem dX11_isValue_144 : decode cX11_isValue 144 = .ok (.iload_n 2, 1) := by decide +kernel
theorem dX11_isValue_145 : decode cX11_isValue 145 = .ok (.bipush 31, 2) := by decide +kernel
theorem dX11_isValue_147 : decode cX11_isValue 147 = .ok (.if_icmp .ne 23, 3) := by decide +kernel
theorem dX11_isValue_150 : decode cX11_isValue 150 = .ok (.aload_n 0, 1) := by decide +kernel
theorem dX11_isValue_151 : decode cX11_isValue 151 = .ok (.aload_n 1, 1) := by decide +kernel
theorem dX11_isValue_152 : decode cX11_isValue 152 = .ok (.bipush 100, 2) := by decide +kernel
theorem dX11_isValue_154 : decode cX11_isValue 154 = .ok (.aload_n 0, 1) := by decide +kernel
theorem dX11_isValue_155 : decode cX11_isValue 155 = .ok (.getfield 33, 3) := by decide +kernel
theorem dX11_isValue_158 : decode cX11_isValue 158 = .ok (.aload_n 0, 1) := by decide +kernel
theorem dX11_isValue_159 : decode cX11_isValue 159 = .ok (.getfield 252, 3) := by decide +kernel
theorem dX11_isValue_162 : decode cX11_isValue 162 = .ok (.laload, 1) := by decide +kernel
theorem dX11_isValue_163 : decode cX11_isValue 163 = .ok (.l2i, 1) := by decide +kernel
theorem dX11_isValue_164 : decode cX11_isValue 164 = .ok (.invokevirtual 267, 3) := by decide +kernel
theorem dX11_isValue_167 : decode cX11_isValue 167 = .ok (.goto 26, 3) := by decide +kernel
theorem dX11_isValue_170 : decode cX11_isValue 170 = .ok (.iload_n 2, 1) := by decide +kernel
theorem dX11_isValue_171 : decode cX11_isValue 171 = .ok (.bipush 10, 2) := by decide +kernel
theorem dX11_isValue_173 : decode cX11_isValue 173 = .ok (.bipush 12, 2) := by decide +kernel
theorem dX11_isValue_175 : decode cX11_isValue 175 = .ok (.invokestatic 58, 3) := by decide +kernel
theorem dX11_isValue_178 : decode cX11_isValue 178 = .ok (.ifCond .eq 13, 3) := by decide +kernel
theorem dX11_isValue_181 : decode cX11_isValue 181 = .ok (.aload_n 0, 1) := by decide +kernel
theorem dX11_isValue_182 : decode cX11_isValue 182 = .ok (.aload_n 1, 1) := by decide +kernel
theorem dX11_isValue_183 : decode cX11_isValue 183 = .ok (.iload_n 2, 1) := by decide +kernel
theorem dX11_isValue_184 : decode cX11_isValue 184 = .ok (.iconst 0, 1) := by decide +kernel
theorem dX11_isValue_185 : decode cX11_isValue 185 = .ok (.invokevirtual 267, 3) := by decide +kernel
theorem dX11_isValue_188 : decode cX11_isValue 188 = .ok (.goto 5, 3) := by decide +kernel
theorem dX11_isValue_191 : decode cX11_isValue 191 = .ok (.iconst 0, 1) := by decide +kernel
theorem dX11_isValue_192 : decode cX11_isValue 192 = .ok (.ireturn, 1) := by decide +kernel
theorem dX11_isValue_193 : decode cX11_isValue 193 = .ok (.aload_n 0, 1) := by decide +kernel
theorem dX11_isValue_194 : decode cX11_isValue 194 = .ok (.dup, 1) := by decide +kernel
theorem dX11_isValue_195 : decode cX11_isValue 195 = .ok (.getfield 252, 3) := by decide +kernel
theorem dX11_isValue_198 : decode cX11_isValue 198 = .ok (.iconst 1, 1) := by decide +kernel
theorem dX11_isValue_199 : decode cX11_isValue 199 = .ok (.iadd, 1) := by decide +kernel
theorem dX11_isValue_200 : decode cX11_isValue 200 = .ok (.putfield 252, 3) := by decide +kernel
theorem dX11_isValue_203 : decode cX11_isValue 203 = .ok (.iconst 1, 1) := by decide +kernel
theorem dX11_isValue_204 : decode cX11_isValue 204 = .ok (.ireturn, 1) := by decide +kernel
theorem dX11_isOfTwo_0 : decode cX11_isOfTwo 0 = .ok (.aload_n 0, 1) := by decide +kernel
theorem dX11_isOfTwo_1 : decode cX11_isOfTwo 1 = .ok (.dup, 1) := by decide +kernel
theorem dX11_isOfTwo_2 : decode cX11_isOfTwo 2 = .ok (.getfield 252, 3) := by decide +kernel
theorem dX11_isOfTwo_5 : decode cX11_isOfTwo 5 = .ok (.iconst 1, 1) := by decide +kernel
theorem dX11_isOfTwo_6 : decode cX11_isOfTwo 6 = .ok (.iadd, 1) := by decide +kernel
theorem dX11_isOfTwo_7 : decode cX11_isOfTwo 7 = .ok (.putfield 252, 3) := by decide +kernel
theorem dX11_isOfTwo_10 : decode cX11_isOfTwo 10 = .ok (.aload_n 0, 1) := by decide +kernel
theorem dX11_isOfTwo_11 : decode cX11_isOfTwo 11 = .ok (.bipush 40, 2) := by decide +kernel
theorem dX11_isOfTwo_13 : decode cX11_isOfTwo 13 = .ok (.invokevirtual 278, 3) := by decide +kernel
theorem dX11_isOfTwo_16 : decode cX11_isOfTwo 16 = .ok (.ifCond .eq 37, 3) := by decide +kernel
theorem dX11_isOfTwo_19 : decode cX11_isOfTwo 19 = .ok (.aload_n 0, 1) := by decide +kernel
theorem dX11_isOfTwo_20 : decode cX11_isOfTwo 20 = .ok (.aload_n 1, 1) := by decide +kernel
theorem dX11_isOfTwo_21 : decode cX11_isOfTwo 21 = .ok (.invokevirtual 294, 3) := by decide +kernel
theorem dX11_isOfTwo_24 : decode cX11_isOfTwo 24 = .ok (.ifCond .eq 29, 3) := by decide +kernel
theorem dX11_isOfTwo_27 : decode cX11_isOfTwo 27 = .ok (.aload_n 0, 1) := by decide +kernel
theorem dX11_isOfTwo_28 : decode cX11_isOfTwo 28 = .ok (.bipush 44, 2) := by decide +kernel
theorem dX11_isOfTwo_30 : decode cX11_isOfTwo 30 = .ok (.invokevirtual 255, 3) := by decide +kernel
theorem dX11_isOfTwo_33 : decode cX11_isOfTwo 33 = .ok (.ifCond .eq 20, 3) := by decide +kernel
theorem dX11_isOfTwo_36 : decode cX11_isOfTwo 36 = .ok (.aload_n 0, 1) := by decide +kernel
theorem dX11_isOfTwo_37 : decode cX11_isOfTwo 37 = .ok (.aload_n 1, 1) := by decide +kernel
theorem dX11_isOfTwo_38 : decode cX11_isOfTwo 38 = .ok (.invokevirtual 294, 3) := by decide +kernel
theorem dX11_isOfTwo_41 : decode cX11_isOfTwo 41 = .ok (.ifCond .eq 12, 3) := by decide +kernel
theorem dX11_isOfTwo_44 : decode cX11_isOfTwo 44 = .ok (.aload_n 0, 1) := by decide +kernel
theorem dX11_isOfTwo_45 : decode cX11_isOfTwo 45 = .ok (.bipush 41, 2) := by decide +kernel
theorem dX11_isOfTwo_47 : decode cX11_isOfTwo 47 = .ok (.invokevirtual 284, 3) := by decide +kernel
theorem dX11_isOfTwo_50 : decode cX11_isOfTwo 50 = .ok (.ifCond .ne 5, 3) := by decide +kernel
theorem dX11_isOfTwo_53 : decode cX11_isOfTwo 53 = .ok (.iconst 0, 1) := by decide +kernel
theorem dX11_isOfTwo_54 : decode cX11_isOfTwo 54 = .ok (.ireturn, 1) := by decide +kernel
theorem dX11_isOfTwo_55 : decode cX11_isOfTwo 55 = .ok (.aload_n 0, 1) := by decide +kernel
theorem dX11_isOfTwo_56 : decode cX11_isOfTwo 56 = .ok (.aload_n 1, 1) := by decide +kernel
theorem dX11_isOfTwo_57 : decode cX11_isOfTwo 57 = .ok (.iload_n 2, 1) := by decide +kernel
theorem dX11_isOfTwo_58 : decode cX11_isOfTwo 58 = .ok (.iconst 0, 1) := by decide +kernel
theorem dX11_isOfTwo_59 : decode cX11_isOfTwo 59 = .ok (.invokevirtual 267, 3) := by decide +kernel
theorem dX11_isOfTwo_62 : decode cX11_isOfTwo 62 = .ok (.iconst 1, 1) := by decide +kernel
theorem dX11_isOfTwo_63 : decode cX11_isOfTwo 63 = .ok (.ireturn, 1) := by decide +kernel
theorem dX11_isTold_0 : decode cX11_isTold 0 = .ok (.aload_n 0, 1) := by decide +kernel
theorem dX11_isTold_1 : decode cX11_isTold 1 = .ok (.getfield 30, 3) := by decide +kernel
theorem dX11_isTold_4 : decode cX11_isTold 4 = .ok (.aload_n 0, 1) := by decide +kernel
theorem dX11_isTold_5 : decode cX11_isTold 5 = .ok (.getfield 252, 3) := by decide +kernel
theorem dX11_isTold_8 : decode cX11_isTold 8 = .ok (.iconst 3, 1) := by decide +kernel
theorem dX11_isTold_9 : decode cX11_isTold 9 = .ok (.iastore, 1) := by decide +kernel
theorem dX11_isTold_10 : decode cX11_isTold 10 = .ok (.aload_n 0, 1) := by decide +kernel
theorem dX11_isTold_11 : decode cX11_isTold 11 = .ok (.dup, 1) := by decide +kernel
theorem dX11_isTold_12 : decode cX11_isTold 12 = .ok (.getfield 252, 3) := by decide +kernel
theorem dX11_isTold_15 : decode cX11_isTold 15 = .ok (.iconst 1, 1) := by decide +kernel
theorem dX11_isTold_16 : decode cX11_isTold 16 = .ok (.iadd, 1) := by decide +kernel
theorem dX11_isTold_17 : decode cX11_isTold 17 = .ok (.putfield 252, 3) := by decide +kernel
theorem dX11_isTold_20 : decode cX11_isTold 20 = .ok (.aload_n 0, 1) := by decide +kernel
theorem dX11_isTold_21 : decode cX11_isTold 21 = .ok (.bipush 30, 2) := by decide +kernel
theorem dX11_isTold_23 : decode cX11_isTold 23 = .ok (.iconst 4, 1) := by decide +kernel
theorem dX11_isTold_24 : decode cX11_isTold 24 = .ok (.invokevirtual 264, 3) := by decide +kernel
theorem dX11_isTold_27 : decode cX11_isTold 27 = .ok (.ifCond .eq 13, 3) := by decide +kernel
theorem dX11_isTold_30 : decode cX11_isTold 30 = .ok (.aload_n 0, 1) := by decide +kernel
theorem dX11_isTold_31 : decode cX11_isTold 31 = .ok (.bipush 30, 2) := by decide +kernel
theorem dX11_isTold_33 : decode cX11_isTold 33 = .ok (.iconst 5, 1) := by decide +kernel
theorem dX11_isTold_34 : decode cX11_isTold 34 = .ok (.invokevirtual 264, 3) := by decide +kernel
theorem dX11_isTold_37 : decode cX11_isTold 37 = .ok (.ifCond .ne 5, 3) := by decide +kernel
theorem dX11_isTold_40 : decode cX11_isTold 40 = .ok (.iconst 0, 1) := by decide +kernel
theorem dX11_isTold_41 : decode cX11_isTold 41 = .ok (.ireturn, 1) := by decide +kernel
theorem dX11_isTold_42 : decode cX11_isTold 42 = .ok (.aload_n 0, 1) := by decide +kernel
theorem dX11_isTold_43 : decode cX11_isTold 43 = .ok (.iconst 5, 1) := by decide +kernel
theorem dX11_isTold_44 : decode cX11_isTold 44 = .ok (.invokevirtual 255, 3) := by decide +kernel
theorem dX11_isTold_47 : decode cX11_isTold 47 = .ok (.ifCond .ne 12, 3) := by decide +kernel
theorem dX11_isTold_50 : decode cX11_isTold 50 = .ok (.aload_n 0, 1) := by decide +kernel
theorem dX11_isTold_51 : decode cX11_isTold 51 = .ok (.bipush 6, 2) := by decide +kernel
theorem dX11_isTold_53 : decode cX11_isTold 53 = .ok (.invokevirtual 255, 3) := by decide +kernel
theorem dX11_isTold_56 : decode cX11_isTold 56 = .ok (.ifCond .eq 12, 3) := by decide +kernel
theorem dX11_isTold_59 : decode cX11_isTold 59 = .ok (.aload_n 0, 1) := by decide +kernel
theorem dX11_isTold_60 : decode cX11_isTold 60 = .ok (.bipush 30, 2) := by decide +kernel
theorem dX11_isTold_62 : decode cX11_isTold 62 = .ok (.bipush 6, 2) := by decide +kernel
theorem dX11_isTold_64 : decode cX11_isTold 64 = .ok (.invokevirtual 264, 3) := by decide +kernel
theorem dX11_isTold_67 : decode cX11_isTold 67 = .ok (.ireturn, 1) := by decide +kernel
theorem dX11_isTold_68 : decode cX11_isTold 68 = .ok (.aload_n 0, 1) := by decide +kernel
theorem dX11_isTold_69 : decode cX11_isTold 69 = .ok (.iconst 3, 1) := by decide +kernel
theorem dX11_isTold_70 : decode cX11_isTold 70 = .ok (.invokevirtual 255, 3) := by decide +kernel
theorem dX11_isTold_73 : decode cX11_isTold 73 = .ok (.ifCond .eq 37, 3) := by decide +kernel
theorem dX11_isTold_76 : decode cX11_isTold 76 = .ok (.aload_n 0, 1) := by decide +kernel
theorem dX11_isTold_77 : decode cX11_isTold 77 = .ok (.bipush 31, 2) := by decide +kernel
theorem dX11_isTold_79 : decode cX11_isTold 79 = .ok (.bipush 7, 2) := by decide +kernel
theorem dX11_isTold_81 : decode cX11_isTold 81 = .ok (.invokevirtual 264, 3) := by decide +kernel
theorem dX11_isTold_84 : decode cX11_isTold 84 = .ok (.ifCond .eq 26, 3) := by decide +kernel
theorem dX11_isTold_87 : decode cX11_isTold 87 = .ok (.aload_n 0, 1) := by decide +kernel
theorem dX11_isTold_88 : decode cX11_isTold 88 = .ok (.iconst 4, 1) := by decide +kernel
theorem dX11_isTold_89 : decode cX11_isTold 89 = .ok (.invokevirtual 255, 3) := by decide +kernel
theorem dX11_isTold_92 : decode cX11_isTold 92 = .ok (.ifCond .eq 14, 3) := by decide +kernel
theorem dX11_isTold_95 : decode cX11_isTold 95 = .ok (.aload_n 0, 1) := by decide +kernel
theorem dX11_isTold_96 : decode cX11_isTold 96 = .ok (.bipush 31, 2) := by decide +kernel
theorem dX11_isTold_98 : decode cX11_isTold 98 = .ok (.bipush 8, 2) := by decide +kernel
theorem dX11_isTold_100 : decode cX11_isTold 100 = .ok (.invokevirtual 264, 3) := by decide +kernel
theorem dX11_isTold_103 : decode cX11_isTold 103 = .ok (.ifCond .eq 7, 3) := by decide +kernel
theorem dX11_isTold_106 : decode cX11_isTold 106 = .ok (.iconst 1, 1) := by decide +kernel
theorem dX11_isTold_107 : decode cX11_isTold 107 = .ok (.goto 4, 3) := by decide +kernel
theorem dX11_isTold_110 : decode cX11_isTold 110 = .ok (.iconst 0, 1) := by decide +kernel
theorem dX11_isTold_111 : decode cX11_isTold 111 = .ok (.ireturn, 1) := by decide +kernel
theorem dX11_isOrder_0 : decode cX11_isOrder 0 = .ok (.bipush 15, 2) := by decide +kernel
theorem dX11_isOrder_2 : decode cX11_isOrder 2 = .ok (.aload_n 0, 1) := by decide +kernel
theorem dX11_isOrder_3 : decode cX11_isOrder 3 = .ok (.getfield 307, 3) := by decide +kernel
theorem dX11_isOrder_6 : decode cX11_isOrder 6 = .ok (.invokestatic 125, 3) := by decide +kernel
theorem dX11_isOrder_9 : decode cX11_isOrder 9 = .ok (.istore_n 2, 1) := by decide +kernel
theorem dX11_isOrder_10 : decode cX11_isOrder 10 = .ok (.aload_n 0, 1) := by decide +kernel
theorem dX11_isOrder_11 : decode cX11_isOrder 11 = .ok (.dup, 1) := by decide +kernel
theorem dX11_isOrder_12 : decode cX11_isOrder 12 = .ok (.getfield 307, 3) := by decide +kernel
theorem dX11_isOrder_15 : decode cX11_isOrder 15 = .ok (.iconst 1, 1) := by decide +kernel
theorem dX11_isOrder_16 : decode cX11_isOrder 16 = .ok (.iadd, 1) := by decide +kernel
theorem dX11_isOrder_17 : decode cX11_isOrder 17 = .ok (.putfield 307, 3) := by decide +kernel
theorem dX11_isOrder_20 : decode cX11_isOrder 20 = .ok (.aload_n 1, 1) := by decide +kernel
theorem dX11_isOrder_21 : decode cX11_isOrder 21 = .ok (.getfield 153, 3) := by decide +kernel
theorem dX11_isOrder_24 : decode cX11_isOrder 24 = .ok (.iload_n 2, 1) := by decide +kernel
theorem dX11_isOrder_25 : decode cX11_isOrder 25 = .ok (.aload_n 0, 1) := by decide +kernel
theorem dX11_isOrder_26 : decode cX11_isOrder 26 = .ok (.getfield 24, 3) := by decide +kernel
theorem dX11_isOrder_29 : decode cX11_isOrder 29 = .ok (.aload_n 0, 1) := by decide +kernel
theorem dX11_isOrder_30 : decode cX11_isOrder 30 = .ok (.getfield 252, 3) := by decide +kernel
theorem dX11_isOrder_33 : decode cX11_isOrder 33 = .ok (.iaload, 1) := by decide +kernel
theorem dX11_isOrder_34 : decode cX11_isOrder 34 = .ok (.iastore, 1) := by decide +kernel
theorem dX11_isOrder_35 : decode cX11_isOrder 35 = .ok (.aload_n 0, 1) := by decide +kernel
theorem dX11_isOrder_36 : decode cX11_isOrder 36 = .ok (.getfield 30, 3) := by decide +kernel
theorem dX11_isOrder_39 : decode cX11_isOrder 39 = .ok (.aload_n 0, 1) := by decide +kernel
theorem dX11_isOrder_40 : decode cX11_isOrder 40 = .ok (.getfield 252, 3) := by decide +kernel
theorem dX11_isOrder_43 : decode cX11_isOrder 43 = .ok (.bipush 9, 2) := by decide +kernel
theorem dX11_isOrder_45 : decode cX11_isOrder 45 = .ok (.iastore, 1) := by decide +kernel
theorem dX11_isOrder_46 : decode cX11_isOrder 46 = .ok (.aload_n 0, 1) := by decide +kernel
theorem dX11_isOrder_47 : decode cX11_isOrder 47 = .ok (.dup, 1) := by decide +kernel
theorem dX11_isOrder_48 : decode cX11_isOrder 48 = .ok (.getfield 252, 3) := by decide +kernel
theorem dX11_isOrder_51 : decode cX11_isOrder 51 = .ok (.iconst 1, 1) := by decide +kernel
theorem dX11_isOrder_52 : decode cX11_isOrder 52 = .ok (.iadd, 1) := by decide +kernel
theorem dX11_isOrder_53 : decode cX11_isOrder 53 = .ok (.putfield 252, 3) := by decide +kernel
theorem dX11_isOrder_56 : decode cX11_isOrder 56 = .ok (.aload_n 0, 1) := by decide +kernel
theorem dX11_isOrder_57 : decode cX11_isOrder 57 = .ok (.bipush 30, 2) := by decide +kernel
theorem dX11_isOrder_59 : decode cX11_isOrder 59 = .ok (.bipush 10, 2) := by decide +kernel
theorem dX11_isOrder_61 : decode cX11_isOrder 61 = .ok (.invokevirtual 264, 3) := by decide +kernel
theorem dX11_isOrder_64 : decode cX11_isOrder 64 = .ok (.ifCond .ne 5, 3) := by decide +kernel
theorem dX11_isOrder_67 : decode cX11_isOrder 67 = .ok (.iconst 0, 1) := by decide +kernel
theorem dX11_isOrder_68 : decode cX11_isOrder 68 = .ok (.ireturn, 1) := by decide +kernel
theorem dX11_isOrder_69 : decode cX11_isOrder 69 = .ok (.aload_n 1, 1) := by decide +kernel
theorem dX11_isOrder_70 : decode cX11_isOrder 70 = .ok (.getfield 181, 3) := by decide +kernel
theorem dX11_isOrder_73 : decode cX11_isOrder 73 = .ok (.iload_n 2, 1) := by decide +kernel
theorem dX11_isOrder_74 : decode cX11_isOrder 74 = .ok (.aload_n 1, 1) := by decide +kernel
theorem dX11_isOrder_75 : decode cX11_isOrder 75 = .ok (.getfield 261, 3) := by decide +kernel
theorem dX11_isOrder_78 : decode cX11_isOrder 78 = .ok (.iastore, 1) := by decide +kernel
theorem dX11_isOrder_79 : decode cX11_isOrder 79 = .ok (.aload_n 0, 1) := by decide +kernel
theorem dX11_isOrder_80 : decode cX11_isOrder 80 = .ok (.bipush 9, 2) := by decide +kernel
theorem dX11_isOrder_82 : decode cX11_isOrder 82 = .ok (.invokevirtual 255, 3) := by decide +kernel
theorem dX11_isOrder_85 : decode cX11_isOrder 85 = .ok (.ifCond .eq 13, 3) := by decide +kernel
theorem dX11_isOrder_88 : decode cX11_isOrder 88 = .ok (.aload_n 0, 1) := by decide +kernel
theorem dX11_isOrder_89 : decode cX11_isOrder 89 = .ok (.aload_n 1, 1) := by decide +kernel
theorem dX11_isOrder_90 : decode cX11_isOrder 90 = .ok (.invokevirtual 281, 3) := by decide +kernel
theorem dX11_isOrder_93 : decode cX11_isOrder 93 = .ok (.ifCond .ne 5, 3) := by decide +kernel
theorem dX11_isOrder_96 : decode cX11_isOrder 96 = .ok (.iconst 0, 1) := by decide +kernel
theorem dX11_isOrder_97 : decode cX11_isOrder 97 = .ok (.ireturn, 1) := by decide +kernel
theorem dX11_isOrder_98 : decode cX11_isOrder 98 = .ok (.aload_n 1, 1) := by decide +kernel
theorem dX11_isOrder_99 : decode cX11_isOrder 99 = .ok (.getfield 184, 3) := by decide +kernel
theorem dX11_isOrder_102 : decode cX11_isOrder 102 = .ok (.iload_n 2, 1) := by decide +kernel
theorem dX11_isOrder_103 : decode cX11_isOrder 103 = .ok (.aload_n 1, 1) := by decide +kernel
theorem dX11_isOrder_104 : decode cX11_isOrder 104 = .ok (.getfield 261, 3) := by decide +kernel
theorem dX11_isOrder_107 : decode cX11_isOrder 107 = .ok (.iastore, 1) := by decide +kernel
theorem dX11_isOrder_108 : decode cX11_isOrder 108 = .ok (.iconst 1, 1) := by decide +kernel
theorem dX11_isOrder_109 : decode cX11_isOrder 109 = .ok (.ireturn, 1) := by decide +kernel
theorem dX11_isLine_0 : decode cX11_isLine 0 = .ok (.aload_n 0, 1) := by decide +kernel
theorem dX11_isLine_1 : decode cX11_isLine 1 = .ok (.getfield 24, 3) := by decide +kernel
theorem dX11_isLine_4 : decode cX11_isLine 4 = .ok (.aload_n 0, 1) := by decide +kernel
theorem dX11_isLine_5 : decode cX11_isLine 5 = .ok (.getfield 252, 3) := by decide +kernel
theorem dX11_isLine_8 : decode cX11_isLine 8 = .ok (.iaload, 1) := by decide +kernel
theorem dX11_isLine_9 : decode cX11_isLine 9 = .ok (.istore_n 2, 1) := by decide +kernel
theorem dX11_isLine_10 : decode cX11_isLine 10 = .ok (.iload_n 2, 1) := by decide +kernel
theorem dX11_isLine_11 : decode cX11_isLine 11 = .ok (.ifCond .eq 8, 3) := by decide +kernel
theorem dX11_isLine_14 : decode cX11_isLine 14 = .ok (.iload_n 2, 1) := by decide +kernel
theorem dX11_isLine_15 : decode cX11_isLine 15 = .ok (.iconst 1, 1) := by decide +kernel
theorem dX11_isLine_16 : decode cX11_isLine 16 = .ok (.if_icmp .ne 29, 3) := by decide +kernel
theorem dX11_isLine_19 : decode cX11_isLine 19 = .ok (.aload_n 0, 1) := by decide +kernel
theorem dX11_isLine_20 : decode cX11_isLine 20 = .ok (.dup, 1) := by decide +kernel
theorem dX11_isLine_21 : decode cX11_isLine 21 = .ok (.getfield 252, 3) := by decide +kernel
theorem dX11_isLine_24 : decode cX11_isLine 24 = .ok (.iconst 1, 1) := by decide +kernel
theorem dX11_isLine_25 : decode cX11_isLine 25 = .ok (.iadd, 1) := by decide +kernel
theorem dX11_isLine_26 : decode cX11_isLine 26 = .ok (.putfield 252, 3) := by decide +kernel
theorem dX11_isLine_29 : decode cX11_isLine 29 = .ok (.aload_n 0, 1) := by decide +kernel
theorem dX11_isLine_30 : decode cX11_isLine 30 = .ok (.bipush 30, 2) := by decide +kernel
theorem dX11_isLine_32 : decode cX11_isLine 32 = .ok (.iload_n 2, 1) := by decide +kernel
theorem dX11_isLine_33 : decode cX11_isLine 33 = .ok (.ifCond .ne 7, 3) := by decide +kernel
theorem dX11_isLine_36 : decode cX11_isLine 36 = .ok (.iconst 1, 1) := by decide +kernel
theorem dX11_isLine_37 : decode cX11_isLine 37 = .ok (.goto 4, 3) := by decide +kernel
theorem dX11_isLine_40 : decode cX11_isLine 40 = .ok (.iconst 2, 1) := by decide +kernel
theorem dX11_isLine_41 : decode cX11_isLine 41 = .ok (.invokevirtual 264, 3) := by decide +kernel
theorem dX11_isLine_44 : decode cX11_isLine 44 = .ok (.ireturn, 1) := by decide +kernel
theorem dX11_isLine_45 : decode cX11_isLine 45 = .ok (.iload_n 2, 1) := by decide +kernel
theorem dX11_isLine_46 : decode cX11_isLine 46 = .ok (.iconst 2, 1) := by decide +kernel
theorem dX11_isLine_47 : decode cX11_isLine 47 = .ok (.if_icmp .ne 8, 3) := by decide +kernel
theorem dX11_isLine_50 : decode cX11_isLine 50 = .ok (.aload_n 0, 1) := by decide +kernel
theorem dX11_isLine_51 : decode cX11_isLine 51 = .ok (.invokevirtual 310, 3) := by decide +kernel
theorem dX11_isLine_54 : decode cX11_isLine 54 = .ok (.ireturn, 1) := by decide +kernel
theorem dX11_isLine_55 : decode cX11_isLine 55 = .ok (.iload_n 2, 1) := by decide +kernel
theorem dX11_isLine_56 : decode cX11_isLine 56 = .ok (.bipush 7, 2) := by decide +kernel
theorem dX11_isLine_58 : decode cX11_isLine 58 = .ok (.if_icmp .eq 9, 3) := by decide +kernel
theorem dX11_isLine_61 : decode cX11_isLine 61 = .ok (.iload_n 2, 1) := by decide +kernel
theorem dX11_isLine_62 : decode cX11_isLine 62 = .ok (.bipush 8, 2) := by decide +kernel
theorem dX11_isLine_64 : decode cX11_isLine 64 = .ok (.if_icmp .ne 15, 3) := by decide +kernel
theorem dX11_isLine_67 : decode cX11_isLine 67 = .ok (.aload_n 0, 1) := by decide +kernel
theorem dX11_isLine_68 : decode cX11_isLine 68 = .ok (.aload_n 1, 1) := by decide +kernel
theorem dX11_isLine_69 : decode cX11_isLine 69 = .ok (.invokevirtual 314, 3) := by decide +kernel
theorem dX11_isLine_72 : decode cX11_isLine 72 = .ok (.ifCond .eq 7, 3) := by decide +kernel
theorem dX11_isLine_75 : decode cX11_isLine 75 = .ok (.iconst 1, 1) := by decide +kernel
theorem dX11_isLine_76 : decode cX11_isLine 76 = .ok (.goto 4, 3) := by decide +kernel
theorem dX11_isLine_79 : decode cX11_isLine 79 = .ok (.iconst 0, 1) := by decide +kernel
theorem dX11_isLine_80 : decode cX11_isLine 80 = .ok (.ireturn, 1) := by decide +kernel
theorem dX11_isBook_0 : decode cX11_isBook 0 = .ok (.aload_n 0, 1) := by decide +kernel
theorem dX11_isBook_1 : decode cX11_isBook 1 = .ok (.getfield 24, 3) := by decide +kernel
theorem dX11_isBook_4 : decode cX11_isBook 4 = .ok (.aload_n 0, 1) := by decide +kernel
theorem dX11_isBook_5 : decode cX11_isBook 5 = .ok (.getfield 252, 3) := by decide +kernel
theorem dX11_isBook_8 : decode cX11_isBook 8 = .ok (.iaload, 1) := by decide +kernel
theorem dX11_isBook_9 : decode cX11_isBook 9 = .ok (.bipush 33, 2) := by decide +kernel
theorem dX11_isBook_11 : decode cX11_isBook 11 = .ok (.if_icmp .eq 22, 3) := by decide +kernel
theorem dX11_isBook_14 : decode cX11_isBook 14 = .ok (.aload_n 0, 1) := by decide +kernel
theorem dX11_isBook_15 : decode cX11_isBook 15 = .ok (.aload_n 1, 1) := by decide +kernel
theorem dX11_isBook_16 : decode cX11_isBook 16 = .ok (.invokevirtual 317, 3) := by decide +kernel
theorem dX11_isBook_19 : decode cX11_isBook 19 = .ok (.ifCond .eq 12, 3) := by decide +kernel
theorem dX11_isBook_22 : decode cX11_isBook 22 = .ok (.aload_n 0, 1) := by decide +kernel
theorem dX11_isBook_23 : decode cX11_isBook 23 = .ok (.bipush 59, 2) := by decide +kernel
theorem dX11_isBook_25 : decode cX11_isBook 25 = .ok (.invokevirtual 255, 3) := by decide +kernel
theorem dX11_isBook_28 : decode cX11_isBook 28 = .ok (.ifCond .ne (-28), 3) := by decide +kernel
theorem dX11_isBook_31 : decode cX11_isBook 31 = .ok (.iconst 0, 1) := by decide +kernel
theorem dX11_isBook_32 : decode cX11_isBook 32 = .ok (.ireturn, 1) := by decide +kernel
theorem dX11_isBook_33 : decode cX11_isBook 33 = .ok (.iconst 1, 1) := by decide +kernel
theorem dX11_isBook_34 : decode cX11_isBook 34 = .ok (.ireturn, 1) := by decide +kernel
theorem dX11_find_0 : decode cX11_find 0 = .ok (.iconst 0, 1) := by decide +kernel
theorem dX11_find_1 : decode cX11_find 1 = .ok (.istore 4, 2) := by decide +kernel
theorem dX11_find_3 : decode cX11_find 3 = .ok (.iload 4, 2) := by decide +kernel
theorem dX11_find_5 : decode cX11_find 5 = .ok (.iload_n 1, 1) := by decide +kernel
theorem dX11_find_6 : decode cX11_find 6 = .ok (.if_icmp .ge 21, 3) := by decide +kernel
theorem dX11_find_9 : decode cX11_find 9 = .ok (.aload_n 0, 1) := by decide +kernel
theorem dX11_find_10 : decode cX11_find 10 = .ok (.iload 4, 2) := by decide +kernel
theorem dX11_find_12 : decode cX11_find 12 = .ok (.laload, 1) := by decide +kernel
theorem dX11_find_13 : decode cX11_find 13 = .ok (.lload_n 2, 1) := by decide +kernel
theorem dX11_find_14 : decode cX11_find 14 = .ok (.lcmp, 1) := by decide +kernel
theorem dX11_find_15 : decode cX11_find 15 = .ok (.ifCond .ne 6, 3) := by decide +kernel
theorem dX11_find_18 : decode cX11_find 18 = .ok (.iload 4, 2) := by decide +kernel
theorem dX11_find_20 : decode cX11_find 20 = .ok (.ireturn, 1) := by decide +kernel
theorem dX11_find_21 : decode cX11_find 21 = .ok (.iinc 4 1, 3) := by decide +kernel
theorem dX11_find_24 : decode cX11_find 24 = .ok (.goto (-21), 3) := by decide +kernel
theorem dX11_find_27 : decode cX11_find 27 = .ok (.iconst (-1), 1) := by decide +kernel
theorem dX11_find_28 : decode cX11_find 28 = .ok (.ireturn, 1) := by decide +kernel
theorem dX11_newEvent_0 : decode cX11_newEvent 0 = .ok (.aload_n 1, 1) := by decide +kernel
theorem dX11_newEvent_1 : decode cX11_newEvent 1 = .ok (.getfield 320, 3) := by decide +kernel
theorem dX11_newEvent_4 : decode cX11_newEvent 4 = .ok (.aload_n 1, 1) := by decide +kernel
theorem dX11_newEvent_5 : decode cX11_newEvent 5 = .ok (.getfield 55, 3) := by decide +kernel
theorem dX11_newEvent_8 : decode cX11_newEvent 8 = .ok (.lload_n 2, 1) := by decide +kernel
theorem dX11_newEvent_9 : decode cX11_newEvent 9 = .ok (.invokestatic 323, 3) := by decide +kernel
theorem dX11_newEvent_12 : decode cX11_newEvent 12 = .ok (.iconst (-1), 1) := by decide +kernel
theorem dX11_newEvent_13 : decode cX11_newEvent 13 = .ok (.if_icmp .eq 5, 3) := by decide +kernel
theorem dX11_newEvent_16 : decode cX11_newEvent 16 = .ok (.iconst 2, 1) := by decide +kernel
theorem dX11_newEvent_17 : decode cX11_newEvent 17 = .ok (.ireturn, 1) := by decide +kernel
theorem dX11_newEvent_18 : decode cX11_newEvent 18 = .ok (.aload_n 1, 1) := by decide +kernel
theorem dX11_newEvent_19 : decode cX11_newEvent 19 = .ok (.getfield 55, 3) := by decide +kernel
theorem dX11_newEvent_22 : decode cX11_newEvent 22 = .ok (.bipush 8, 2) := by decide +kernel
theorem dX11_newEvent_24 : decode cX11_newEvent 24 = .ok (.if_icmp .ne 5, 3) := by decide +kernel
theorem dX11_newEvent_27 : decode cX11_newEvent 27 = .ok (.iconst 4, 1) := by decide +kernel
theorem dX11_newEvent_28 : decode cX11_newEvent 28 = .ok (.ireturn, 1) := by decide +kernel
theorem dX11_newEvent_29 : decode cX11_newEvent 29 = .ok (.aload_n 1, 1) := by decide +kernel
theorem dX11_newEvent_30 : decode cX11_newEvent 30 = .ok (.getfield 320, 3) := by decide +kernel
theorem dX11_newEvent_33 : decode cX11_newEvent 33 = .ok (.aload_n 1, 1) := by decide +kernel
theorem dX11_newEvent_34 : decode cX11_newEvent 34 = .ok (.getfield 55, 3) := by decide +kernel
theorem dX11_newEvent_37 : decode cX11_newEvent 37 = .ok (.lload_n 2, 1) := by decide +kernel
theorem dX11_newEvent_38 : decode cX11_newEvent 38 = .ok (.lastore, 1) := by decide +kernel
theorem dX11_newEvent_39 : decode cX11_newEvent 39 = .ok (.aload_n 1, 1) := by decide +kernel
theorem dX11_newEvent_40 : decode cX11_newEvent 40 = .ok (.dup, 1) := by decide +kernel
theorem dX11_newEvent_41 : decode cX11_newEvent 41 = .ok (.getfield 55, 3) := by decide +kernel
theorem dX11_newEvent_44 : decode cX11_newEvent 44 = .ok (.iconst 1, 1) := by decide +kernel
theorem dX11_newEvent_45 : decode cX11_newEvent 45 = .ok (.iadd, 1) := by decide +kernel
theorem dX11_newEvent_46 : decode cX11_newEvent 46 = .ok (.putfield 55, 3) := by decide +kernel
theorem dX11_newEvent_49 : decode cX11_newEvent 49 = .ok (.iconst 0, 1) := by decide +kernel
theorem dX11_newEvent_50 : decode cX11_newEvent 50 = .ok (.ireturn, 1) := by decide +kernel
theorem dX11_newTeller_0 : decode cX11_newTeller 0 = .ok (.aload_n 1, 1) := by decide +kernel
theorem dX11_newTeller_1 : decode cX11_newTeller 1 = .ok (.getfield 327, 3) := by decide +kernel
theorem dX11_newTeller_4 : decode cX11_newTeller 4 = .ok (.aload_n 1, 1) := by decide +kernel
theorem dX11_newTeller_5 : decode cX11_newTeller 5 = .ok (.getfield 62, 3) := by decide +kernel
theorem dX11_newTeller_8 : decode cX11_newTeller 8 = .ok (.lload_n 2, 1) := by decide +kernel
theorem dX11_newTeller_9 : decode cX11_newTeller 9 = .ok (.invokestatic 323, 3) := by decide +kernel
theorem dX11_newTeller_12 : decode cX11_newTeller 12 = .ok (.iconst (-1), 1) := by decide +kernel
theorem dX11_newTeller_13 : decode cX11_newTeller 13 = .ok (.if_icmp .eq 5, 3) := by decide +kernel
theorem dX11_newTeller_16 : decode cX11_newTeller 16 = .ok (.iconst 2, 1) := by decide +kernel
theorem dX11_newTeller_17 : decode cX11_newTeller 17 = .ok (.ireturn, 1) := by decide +kernel
theorem dX11_newTeller_18 : decode cX11_newTeller 18 = .ok (.aload_n 1, 1) := by decide +kernel
theorem dX11_newTeller_19 : decode cX11_newTeller 19 = .ok (.getfield 62, 3) := by decide +kernel
theorem dX11_newTeller_22 : decode cX11_newTeller 22 = .ok (.bipush 10, 2) := by decide +kernel
theorem dX11_newTeller_24 : decode cX11_newTeller 24 = .ok (.if_icmp .ne 5, 3) := by decide +kernel
theorem dX11_newTeller_27 : decode cX11_newTeller 27 = .ok (.iconst 4, 1) := by decide +kernel
theorem dX11_newTeller_28 : decode cX11_newTeller 28 = .ok (.ireturn, 1) := by decide +kernel
theorem dX11_newTeller_29 : decode cX11_newTeller 29 = .ok (.aload_n 1, 1) := by decide +kernel
theorem dX11_newTeller_30 : decode cX11_newTeller 30 = .ok (.getfield 327, 3) := by decide +kernel
theorem dX11_newTeller_33 : decode cX11_newTeller 33 = .ok (.aload_n 1, 1) := by decide +kernel
theorem dX11_newTeller_34 : decode cX11_newTeller 34 = .ok (.getfield 62, 3) := by decide +kernel
theorem dX11_newTeller_37 : decode cX11_newTeller 37 = .ok (.lload_n 2, 1) := by decide +kernel
theorem dX11_newTeller_38 : decode cX11_newTeller 38 = .ok (.lastore, 1) := by decide +kernel
theorem dX11_newTeller_39 : decode cX11_newTeller 39 = .ok (.aload_n 1, 1) := by decide +kernel
theorem dX11_newTeller_40 : decode cX11_newTeller 40 = .ok (.dup, 1) := by decide +kernel
theorem dX11_newTeller_41 : decode cX11_newTeller 41 = .ok (.getfield 62, 3) := by decide +kernel
theorem dX11_newTeller_44 : decode cX11_newTeller 44 = .ok (.iconst 1, 1) := by decide +kernel
theorem dX11_newTeller_45 : decode cX11_newTeller 45 = .ok (.iadd, 1) := by decide +kernel
theorem dX11_newTeller_46 : decode cX11_newTeller 46 = .ok (.putfield 62, 3) := by decide +kernel
theorem dX11_newTeller_49 : decode cX11_newTeller 49 = .ok (.iconst 0, 1) := by decide +kernel
theorem dX11_newTeller_50 : decode cX11_newTeller 50 = .ok (.ireturn, 1) := by decide +kernel
theorem dX11_anEvent_0 : decode cX11_anEvent 0 = .ok (.aload_n 0, 1) := by decide +kernel
theorem dX11_anEvent_1 : decode cX11_anEvent 1 = .ok (.getfield 37, 3) := by decide +kernel
theorem dX11_anEvent_4 : decode cX11_anEvent 4 = .ok (.iload_n 2, 1) := by decide +kernel
theorem dX11_anEvent_5 : decode cX11_anEvent 5 = .ok (.aload_n 1, 1) := by decide +kernel
theorem dX11_anEvent_6 : decode cX11_anEvent 6 = .ok (.getfield 320, 3) := by decide +kernel
theorem dX11_anEvent_9 : decode cX11_anEvent 9 = .ok (.aload_n 1, 1) := by decide +kernel
theorem dX11_anEvent_10 : decode cX11_anEvent 10 = .ok (.getfield 55, 3) := by decide +kernel
theorem dX11_anEvent_13 : decode cX11_anEvent 13 = .ok (.aload_n 0, 1) := by decide +kernel
theorem dX11_anEvent_14 : decode cX11_anEvent 14 = .ok (.getfield 33, 3) := by decide +kernel
theorem dX11_anEvent_17 : decode cX11_anEvent 17 = .ok (.iload_n 2, 1) := by decide +kernel
theorem dX11_anEvent_18 : decode cX11_anEvent 18 = .ok (.laload, 1) := by decide +kernel
theorem dX11_anEvent_19 : decode cX11_anEvent 19 = .ok (.invokestatic 323, 3) := by decide +kernel
theorem dX11_anEvent_22 : decode cX11_anEvent 22 = .ok (.iastore, 1) := by decide +kernel
theorem dX11_anEvent_23 : decode cX11_anEvent 23 = .ok (.aload_n 0, 1) := by decide +kernel
theorem dX11_anEvent_24 : decode cX11_anEvent 24 = .ok (.getfield 37, 3) := by decide +kernel
theorem dX11_anEvent_27 : decode cX11_anEvent 27 = .ok (.iload_n 2, 1) := by decide +kernel
theorem dX11_anEvent_28 : decode cX11_anEvent 28 = .ok (.iaload, 1) := by decide +kernel
theorem dX11_anEvent_29 : decode cX11_anEvent 29 = .ok (.iconst (-1), 1) := by decide +kernel
theorem dX11_anEvent_30 : decode cX11_anEvent 30 = .ok (.if_icmp .ne 7, 3) := by decide +kernel
theorem dX11_anEvent_33 : decode cX11_anEvent 33 = .ok (.iconst 3, 1) := by decide +kernel
theorem dX11_anEvent_34 : decode cX11_anEvent 34 = .ok (.goto 4, 3) := by decide +kernel
theorem dX11_anEvent_37 : decode cX11_anEvent 37 = .ok (.iconst 0, 1) := by decide +kernel
theorem dX11_anEvent_38 : decode cX11_anEvent 38 = .ok (.ireturn, 1) := by decide +kernel
theorem dX11_aTeller_0 : decode cX11_aTeller 0 = .ok (.aload_n 0, 1) := by decide +kernel
theorem dX11_aTeller_1 : decode cX11_aTeller 1 = .ok (.getfield 37, 3) := by decide +kernel
theorem dX11_aTeller_4 : decode cX11_aTeller 4 = .ok (.iload_n 2, 1) := by decide +kernel
theorem dX11_aTeller_5 : decode cX11_aTeller 5 = .ok (.aload_n 1, 1) := by decide +kernel
theorem dX11_aTeller_6 : decode cX11_aTeller 6 = .ok (.getfield 327, 3) := by decide +kernel
theorem dX11_aTeller_9 : decode cX11_aTeller 9 = .ok (.aload_n 1, 1) := by decide +kernel
theorem dX11_aTeller_10 : decode cX11_aTeller 10 = .ok (.getfield 62, 3) := by decide +kernel
theorem dX11_aTeller_13 : decode cX11_aTeller 13 = .ok (.aload_n 0, 1) := by decide +kernel
theorem dX11_aTeller_14 : decode cX11_aTeller 14 = .ok (.getfield 33, 3) := by decide +kernel
theorem dX11_aTeller_17 : decode cX11_aTeller 17 = .ok (.iload_n 2, 1) := by decide +kernel
theorem dX11_aTeller_18 : decode cX11_aTeller 18 = .ok (.laload, 1) := by decide +kernel
theorem dX11_aTeller_19 : decode cX11_aTeller 19 = .ok (.invokestatic 323, 3) := by decide +kernel
theorem dX11_aTeller_22 : decode cX11_aTeller 22 = .ok (.iastore, 1) := by decide +kernel
theorem dX11_aTeller_23 : decode cX11_aTeller 23 = .ok (.aload_n 0, 1) := by decide +kernel
theorem dX11_aTeller_24 : decode cX11_aTeller 24 = .ok (.getfield 37, 3) := by decide +kernel
theorem dX11_aTeller_27 : decode cX11_aTeller 27 = .ok (.iload_n 2, 1) := by decide +kernel
theorem dX11_aTeller_28 : decode cX11_aTeller 28 = .ok (.iaload, 1) := by decide +kernel
theorem dX11_aTeller_29 : decode cX11_aTeller 29 = .ok (.iconst (-1), 1) := by decide +kernel
theorem dX11_aTeller_30 : decode cX11_aTeller 30 = .ok (.if_icmp .ne 7, 3) := by decide +kernel
theorem dX11_aTeller_33 : decode cX11_aTeller 33 = .ok (.iconst 3, 1) := by decide +kernel
theorem dX11_aTeller_34 : decode cX11_aTeller 34 = .ok (.goto 4, 3) := by decide +kernel
theorem dX11_aTeller_37 : decode cX11_aTeller 37 = .ok (.iconst 0, 1) := by decide +kernel
theorem dX11_aTeller_38 : decode cX11_aTeller 38 = .ok (.ireturn, 1) := by decide +kernel
theorem dX11_newClaim_0 : decode cX11_newClaim 0 = .ok (.aload_n 1, 1) := by decide +kernel
theorem dX11_newClaim_1 : decode cX11_newClaim 1 = .ok (.getfield 65, 3) := by decide +kernel
theorem dX11_newClaim_4 : decode cX11_newClaim 4 = .ok (.bipush 40, 2) := by decide +kernel
theorem dX11_newClaim_6 : decode cX11_newClaim 6 = .ok (.if_icmp .ne 5, 3) := by decide +kernel
theorem dX11_newClaim_9 : decode cX11_newClaim 9 = .ok (.iconst 4, 1) := by decide +kernel
theorem dX11_newClaim_10 : decode cX11_newClaim 10 = .ok (.ireturn, 1) := by decide +kernel
theorem dX11_newClaim_11 : decode cX11_newClaim 11 = .ok (.aload_n 1, 1) := by decide +kernel
theorem dX11_newClaim_12 : decode cX11_newClaim 12 = .ok (.dup, 1) := by decide +kernel
theorem dX11_newClaim_13 : decode cX11_newClaim 13 = .ok (.getfield 65, 3) := by decide +kernel
theorem dX11_newClaim_16 : decode cX11_newClaim 16 = .ok (.iconst 1, 1) := by decide +kernel
theorem dX11_newClaim_17 : decode cX11_newClaim 17 = .ok (.iadd, 1) := by decide +kernel
theorem dX11_newClaim_18 : decode cX11_newClaim 18 = .ok (.putfield 65, 3) := by decide +kernel
theorem dX11_newClaim_21 : decode cX11_newClaim 21 = .ok (.iconst 0, 1) := by decide +kernel
theorem dX11_newClaim_22 : decode cX11_newClaim 22 = .ok (.ireturn, 1) := by decide +kernel
theorem dX11_newOrder_0 : decode cX11_newOrder 0 = .ok (.aload_n 1, 1) := by decide +kernel
theorem dX11_newOrder_1 : decode cX11_newOrder 1 = .ok (.getfield 144, 3) := by decide +kernel
theorem dX11_newOrder_4 : decode cX11_newOrder 4 = .ok (.bipush 16, 2) := by decide +kernel
theorem dX11_newOrder_6 : decode cX11_newOrder 6 = .ok (.if_icmp .ne 5, 3) := by decide +kernel
theorem dX11_newOrder_9 : decode cX11_newOrder 9 = .ok (.iconst 4, 1) := by decide +kernel
theorem dX11_newOrder_10 : decode cX11_newOrder 10 = .ok (.ireturn, 1) := by decide +kernel
theorem dX11_newOrder_11 : decode cX11_newOrder 11 = .ok (.aload_n 1, 1) := by decide +kernel
theorem dX11_newOrder_12 : decode cX11_newOrder 12 = .ok (.dup, 1) := by decide +kernel
theorem dX11_newOrder_13 : decode cX11_newOrder 13 = .ok (.getfield 144, 3) := by decide +kernel
theorem dX11_newOrder_16 : decode cX11_newOrder 16 = .ok (.iconst 1, 1) := by decide +kernel
theorem dX11_newOrder_17 : decode cX11_newOrder 17 = .ok (.iadd, 1) := by decide +kernel
theorem dX11_newOrder_18 : decode cX11_newOrder 18 = .ok (.putfield 144, 3) := by decide +kernel
theorem dX11_newOrder_21 : decode cX11_newOrder 21 = .ok (.iconst 0, 1) := by decide +kernel
theorem dX11_newOrder_22 : decode cX11_newOrder 22 = .ok (.ireturn, 1) := by decide +kernel
theorem dX11_ofClaim_0 : decode cX11_ofClaim 0 = .ok (.aload_n 1, 1) := by decide +kernel
theorem dX11_ofClaim_1 : decode cX11_ofClaim 1 = .ok (.getfield 65, 3) := by decide +kernel
theorem dX11_ofClaim_4 : decode cX11_ofClaim 4 = .ok (.iconst 1, 1) := by decide +kernel
theorem dX11_ofClaim_5 : decode cX11_ofClaim 5 = .ok (.isub, 1) := by decide +kernel
theorem dX11_ofClaim_6 : decode cX11_ofClaim 6 = .ok (.istore_n 3, 1) := by decide +kernel
theorem dX11_ofClaim_7 : decode cX11_ofClaim 7 = .ok (.aload_n 0, 1) := by decide +kernel
theorem dX11_ofClaim_8 : decode cX11_ofClaim 8 = .ok (.getfield 33, 3) := by decide +kernel
theorem dX11_ofClaim_11 : decode cX11_ofClaim 11 = .ok (.iload_n 2, 1) := by decide +kernel
theorem dX11_ofClaim_12 : decode cX11_ofClaim 12 = .ok (.laload, 1) := by decide +kernel
theorem dX11_ofClaim_13 : decode cX11_ofClaim 13 = .ok (.l2i, 1) := by decide +kernel
theorem dX11_ofClaim_14 : decode cX11_ofClaim 14 = .ok (.istore 4, 2) := by decide +kernel
theorem dX11_ofClaim_16 : decode cX11_ofClaim 16 = .ok (.iconst 0, 1) := by decide +kernel
theorem dX11_ofClaim_17 : decode cX11_ofClaim 17 = .ok (.istore 5, 2) := by decide +kernel
theorem dX11_ofClaim_19 : decode cX11_ofClaim 19 = .ok (.aload_n 0, 1) := by decide +kernel
theorem dX11_ofClaim_20 : decode cX11_ofClaim 20 = .ok (.getfield 30, 3) := by decide +kernel
theorem dX11_ofClaim_23 : decode cX11_ofClaim 23 = .ok (.iload_n 2, 1) := by decide +kernel
theorem dX11_ofClaim_24 : decode cX11_ofClaim 24 = .ok (.iaload, 1) := by decide +kernel
theorem dX11_ofClaim_25 : decode cX11_ofClaim 25 = .ok (.iconst 4, 1) := by decide +kernel
theorem dX11_ofClaim_26 : decode cX11_ofClaim 26 = .ok (.if_icmp .ne 26, 3) := by decide +kernel
theorem dX11_ofClaim_29 : decode cX11_ofClaim 29 = .ok (.aload_n 0, 1) := by decide +kernel
theorem dX11_ofClaim_30 : decode cX11_ofClaim 30 = .ok (.aload_n 1, 1) := by decide +kernel
theorem dX11_ofClaim_31 : decode cX11_ofClaim 31 = .ok (.iload_n 2, 1) := by decide +kernel
theorem dX11_ofClaim_32 : decode cX11_ofClaim 32 = .ok (.invokevirtual 330, 3) := by decide +kernel
theorem dX11_ofClaim_35 : decode cX11_ofClaim 35 = .ok (.istore 5, 2) := by decide +kernel
theorem dX11_ofClaim_37 : decode cX11_ofClaim 37 = .ok (.aload_n 1, 1) := by decide +kernel
theorem dX11_ofClaim_38 : decode cX11_ofClaim 38 = .ok (.getfield 82, 3) := by decide +kernel
theorem dX11_ofClaim_41 : decode cX11_ofClaim 41 = .ok (.iload_n 3, 1) := by decide +kernel
theorem dX11_ofClaim_42 : decode cX11_ofClaim 42 = .ok (.aload_n 0, 1) := by decide +kernel
theorem dX11_ofClaim_43 : decode cX11_ofClaim 43 = .ok (.getfield 37, 3) := by decide +kernel
theorem dX11_ofClaim_46 : decode cX11_ofClaim 46 = .ok (.iload_n 2, 1) := by decide +kernel
theorem dX11_ofClaim_47 : decode cX11_ofClaim 47 = .ok (.iaload, 1) := by decide +kernel
theorem dX11_ofClaim_48 : decode cX11_ofClaim 48 = .ok (.iastore, 1) := by decide +kernel
theorem dX11_ofClaim_49 : decode cX11_ofClaim 49 = .ok (.goto 195, 3) := by decide +kernel
theorem dX11_ofClaim_52 : decode cX11_ofClaim 52 = .ok (.aload_n 0, 1) := by decide +kernel
theorem dX11_ofClaim_53 : decode cX11_ofClaim 53 = .ok (.getfield 30, 3) := by decide +kernel
theorem dX11_ofClaim_56 : decode cX11_ofClaim 56 = .ok (.iload_n 2, 1) := by decide +kernel
theorem dX11_ofClaim_57 : decode cX11_ofClaim 57 = .ok (.iaload, 1) := by decide +kernel
theorem dX11_ofClaim_58 : decode cX11_ofClaim 58 = .ok (.iconst 5, 1) := by decide +kernel
theorem dX11_ofClaim_59 : decode cX11_ofClaim 59 = .ok (.if_icmp .ne 65, 3) := by decide +kernel
theorem dX11_ofClaim_62 : decode cX11_ofClaim 62 = .ok (.aload_n 0, 1) := by decide +kernel
theorem dX11_ofClaim_63 : decode cX11_ofClaim 63 = .ok (.aload_n 1, 1) := by decide +kernel
theorem dX11_ofClaim_64 : decode cX11_ofClaim 64 = .ok (.iload_n 2, 1) := by decide +kernel
theorem dX11_ofClaim_65 : decode cX11_ofClaim 65 = .ok (.invokevirtual 334, 3) := by decide +kernel
theorem dX11_ofClaim_68 : decode cX11_ofClaim 68 = .ok (.istore 5, 2) := by decide +kernel
theorem dX11_ofClaim_70 : decode cX11_ofClaim 70 = .ok (.aload_n 1, 1) := by decide +kernel
theorem dX11_ofClaim_71 : decode cX11_ofClaim 71 = .ok (.getfield 73, 3) := by decide +kernel
theorem dX11_ofClaim_74 : decode cX11_ofClaim 74 = .ok (.iload_n 3, 1) := by decide +kernel
theorem dX11_ofClaim_75 : decode cX11_ofClaim 75 = .ok (.aload_n 0, 1) := by decide +kernel
theorem dX11_ofClaim_76 : decode cX11_ofClaim 76 = .ok (.getfield 37, 3) := by decide +kernel
theorem dX11_ofClaim_79 : decode cX11_ofClaim 79 = .ok (.iload_n 2, 1) := by decide +kernel
theorem dX11_ofClaim_80 : decode cX11_ofClaim 80 = .ok (.iaload, 1) := by decide +kernel
theorem dX11_ofClaim_81 : decode cX11_ofClaim 81 = .ok (.iastore, 1) := by decide +kernel
theorem dX11_ofClaim_82 : decode cX11_ofClaim 82 = .ok (.aload_n 1, 1) := by decide +kernel
theorem dX11_ofClaim_83 : decode cX11_ofClaim 83 = .ok (.getfield 68, 3) := by decide +kernel
theorem dX11_ofClaim_86 : decode cX11_ofClaim 86 = .ok (.iload_n 3, 1) := by decide +kernel
theorem dX11_ofClaim_87 : decode cX11_ofClaim 87 = .ok (.aload_n 0, 1) := by decide +kernel
theorem dX11_ofClaim_88 : decode cX11_ofClaim 88 = .ok (.getfield 24, 3) := by decide +kernel
theorem dX11_ofClaim_91 : decode cX11_ofClaim 91 = .ok (.iload_n 2, 1) := by decide +kernel
theorem dX11_ofClaim_92 : decode cX11_ofClaim 92 = .ok (.iconst 1, 1) := by decide +kernel
theorem dX11_ofClaim_93 : decode cX11_ofClaim 93 = .ok (.iadd, 1) := by decide +kernel
theorem dX11_ofClaim_94 : decode cX11_ofClaim 94 = .ok (.iaload, 1) := by decide +kernel
theorem dX11_ofClaim_95 : decode cX11_ofClaim 95 = .ok (.iconst 3, 1) := by decide +kernel
theorem dX11_ofClaim_96 : decode cX11_ofClaim 96 = .ok (.if_icmp .ne 7, 3) := by decide +kernel
theorem dX11_ofClaim_99 : decode cX11_ofClaim 99 = .ok (.iconst 0, 1) := by decide +kernel
theorem dX11_ofClaim_100 : decode cX11_ofClaim 100 = .ok (.goto 20, 3) := by decide +kernel
theorem dX11_ofClaim_103 : decode cX11_ofClaim 103 = .ok (.aload_n 0, 1) := by decide +kernel
theorem dX11_ofClaim_104 : decode cX11_ofClaim 104 = .ok (.getfield 24, 3) := by decide +kernel
theorem dX11_ofClaim_107 : decode cX11_ofClaim 107 = .ok (.iload_n 2, 1) := by decide +kernel
theorem dX11_ofClaim_108 : decode cX11_ofClaim 108 = .ok (.iconst 1, 1) := by decide +kernel
theorem dX11_ofClaim_109 : decode cX11_ofClaim 109 = .ok (.iadd, 1) := by decide +kernel
theorem dX11_ofClaim_110 : decode cX11_ofClaim 110 = .ok (.iaload, 1) := by decide +kernel
theorem dX11_ofClaim_111 : decode cX11_ofClaim 111 = .ok (.iconst 5, 1) := by decide +kernel
theorem dX11_ofClaim_112 : decode cX11_ofClaim 112 = .ok (.if_icmp .ne 7, 3) := by decide +kernel
theorem dX11_ofClaim_115 : decode cX11_ofClaim 115 = .ok (.iconst 1, 1) := by decide +kernel
theorem dX11_ofClaim_116 : decode cX11_ofClaim 116 = .ok (.goto 4, 3) := by decide +kernel
theorem dX11_ofClaim_119 : decode cX11_ofClaim 119 = .ok (.iconst 2, 1) := by decide +kernel
theorem dX11_ofClaim_120 : decode cX11_ofClaim 120 = .ok (.iastore, 1) := by decide +kernel
theorem dX11_ofClaim_121 : decode cX11_ofClaim 121 = .ok (.goto 123, 3) := by decide +kernel
theorem dX11_ofClaim_124 : decode cX11_ofClaim 124 = .ok (.aload_n 0, 1) := by decide +kernel
theorem dX11_ofClaim_125 : decode cX11_ofClaim 125 = .ok (.getfield 30, 3) := by decide +kernel
theorem dX11_ofClaim_128 : decode cX11_ofClaim 128 = .ok (.iload_n 2, 1) := by decide +kernel
theorem dX11_ofClaim_129 : decode cX11_ofClaim 129 = .ok (.iaload, 1) := by decide +kernel
theorem dX11_ofClaim_130 : decode cX11_ofClaim 130 = .ok (.bipush 6, 2) := by decide +kernel
theorem dX11_ofClaim_132 : decode cX11_ofClaim 132 = .ok (.if_icmp .ne 49, 3) := by decide +kernel
theorem dX11_ofClaim_135 : decode cX11_ofClaim 135 = .ok (.aload_n 0, 1) := by decide +kernel
theorem dX11_ofClaim_136 : decode cX11_ofClaim 136 = .ok (.aload_n 1, 1) := by decide +kernel
theorem dX11_ofClaim_137 : decode cX11_ofClaim 137 = .ok (.iload_n 2, 1) := by decide +kernel
theorem dX11_ofClaim_138 : decode cX11_ofClaim 138 = .ok (.invokevirtual 334, 3) := by decide +kernel
theorem dX11_ofClaim_141 : decode cX11_ofClaim 141 = .ok (.istore 5, 2) := by decide +kernel
theorem dX11_ofClaim_143 : decode cX11_ofClaim 143 = .ok (.aload_n 1, 1) := by decide +kernel
theorem dX11_ofClaim_144 : decode cX11_ofClaim 144 = .ok (.getfield 79, 3) := by decide +kernel
theorem dX11_ofClaim_147 : decode cX11_ofClaim 147 = .ok (.iload_n 3, 1) := by decide +kernel
theorem dX11_ofClaim_148 : decode cX11_ofClaim 148 = .ok (.aload_n 0, 1) := by decide +kernel
theorem dX11_ofClaim_149 : decode cX11_ofClaim 149 = .ok (.getfield 37, 3) := by decide +kernel
theorem dX11_ofClaim_152 : decode cX11_ofClaim 152 = .ok (.iload_n 2, 1) := by decide +kernel
theorem dX11_ofClaim_153 : decode cX11_ofClaim 153 = .ok (.iaload, 1) := by decide +kernel
theorem dX11_ofClaim_154 : decode cX11_ofClaim 154 = .ok (.iastore, 1) := by decide +kernel
theorem dX11_ofClaim_155 : decode cX11_ofClaim 155 = .ok (.iload 5, 2) := by decide +kernel
theorem dX11_ofClaim_157 : decode cX11_ofClaim 157 = .ok (.ifCond .ne 87, 3) := by decide +kernel
theorem dX11_ofClaim_160 : decode cX11_ofClaim 160 = .ok (.aload_n 0, 1) := by decide +kernel
theorem dX11_ofClaim_161 : decode cX11_ofClaim 161 = .ok (.getfield 37, 3) := by decide +kernel
theorem dX11_ofClaim_164 : decode cX11_ofClaim 164 = .ok (.iload_n 2, 1) := by decide +kernel
theorem dX11_ofClaim_165 : decode cX11_ofClaim 165 = .ok (.iaload, 1) := by decide +kernel
theorem dX11_ofClaim_166 : decode cX11_ofClaim 166 = .ok (.aload_n 1, 1) := by decide +kernel
theorem dX11_ofClaim_167 : decode cX11_ofClaim 167 = .ok (.getfield 73, 3) := by decide +kernel
theorem dX11_ofClaim_170 : decode cX11_ofClaim 170 = .ok (.iload_n 3, 1) := by decide +kernel
theorem dX11_ofClaim_171 : decode cX11_ofClaim 171 = .ok (.iaload, 1) := by decide +kernel
theorem dX11_ofClaim_172 : decode cX11_ofClaim 172 = .ok (.if_icmp .ne 72, 3) := by decide +kernel
theorem dX11_ofClaim_175 : decode cX11_ofClaim 175 = .ok (.iconst 5, 1) := by decide +kernel
theorem dX11_ofClaim_176 : decode cX11_ofClaim 176 = .ok (.istore 5, 2) := by decide +kernel
theorem dX11_ofClaim_178 : decode cX11_ofClaim 178 = .ok (.goto 66, 3) := by decide +kernel
theorem dX11_ofClaim_181 : decode cX11_ofClaim 181 = .ok (.iload 4, 2) := by decide +kernel
theorem dX11_ofClaim_183 : decode cX11_ofClaim 183 = .ok (.bipush 99, 2) := by decide +kernel
theorem dX11_ofClaim_185 : decode cX11_ofClaim 185 = .ok (.if_icmp .gt 25, 3) := by decide +kernel
theorem dX11_ofClaim_188 : decode cX11_ofClaim 188 = .ok (.aload_n 0, 1) := by decide +kernel
theorem dX11_ofClaim_189 : decode cX11_ofClaim 189 = .ok (.getfield 30, 3) := by decide +kernel
theorem dX11_ofClaim_192 : decode cX11_ofClaim 192 = .ok (.iload_n 2, 1) := by decide +kernel
theorem dX11_ofClaim_193 : decode cX11_ofClaim 193 = .ok (.iaload, 1) := by decide +kernel
theorem dX11_ofClaim_194 : decode cX11_ofClaim 194 = .ok (.bipush 8, 2) := by decide +kernel
theorem dX11_ofClaim_196 : decode cX11_ofClaim 196 = .ok (.if_icmp .ne 18, 3) := by decide +kernel
theorem dX11_ofClaim_199 : decode cX11_ofClaim 199 = .ok (.iload 4, 2) := by decide +kernel
theorem dX11_ofClaim_201 : decode cX11_ofClaim 201 = .ok (.aload_n 1, 1) := by decide +kernel
theorem dX11_ofClaim_202 : decode cX11_ofClaim 202 = .ok (.getfield 79, 3) := by decide +kernel
theorem dX11_ofClaim_205 : decode cX11_ofClaim 205 = .ok (.iload_n 3, 1) := by decide +kernel
theorem dX11_ofClaim_206 : decode cX11_ofClaim 206 = .ok (.iaload, 1) := by decide +kernel
theorem dX11_ofClaim_207 : decode cX11_ofClaim 207 = .ok (.if_icmp .ge 7, 3) := by decide +kernel
theorem dX11_ofClaim_210 : decode cX11_ofClaim 210 = .ok (.iconst 5, 1) := by decide +kernel
theorem dX11_ofClaim_211 : decode cX11_ofClaim 211 = .ok (.goto 4, 3) := by decide +kernel
theorem dX11_ofClaim_214 : decode cX11_ofClaim 214 = .ok (.iconst 0, 1) := by decide +kernel
theorem dX11_ofClaim_215 : decode cX11_ofClaim 215 = .ok (.istore 5, 2) := by decide +kernel
theorem dX11_ofClaim_217 : decode cX11_ofClaim 217 = .ok (.aload_n 0, 1) := by decide +kernel
theorem dX11_ofClaim_218 : decode cX11_ofClaim 218 = .ok (.getfield 30, 3) := by decide +kernel
theorem dX11_ofClaim_221 : decode cX11_ofClaim 221 = .ok (.iload_n 2, 1) := by decide +kernel
theorem dX11_ofClaim_222 : decode cX11_ofClaim 222 = .ok (.iaload, 1) := by decide +kernel
theorem dX11_ofClaim_223 : decode cX11_ofClaim 223 = .ok (.bipush 7, 2) := by decide +kernel
theorem dX11_ofClaim_225 : decode cX11_ofClaim 225 = .ok (.if_icmp .ne 11, 3) := by decide +kernel
theorem dX11_ofClaim_228 : decode cX11_ofClaim 228 = .ok (.aload_n 1, 1) := by decide +kernel
theorem dX11_ofClaim_229 : decode cX11_ofClaim 229 = .ok (.getfield 79, 3) := by decide +kernel
theorem dX11_ofClaim_232 : decode cX11_ofClaim 232 = .ok (.iload_n 3, 1) := by decide +kernel
theorem dX11_ofClaim_233 : decode cX11_ofClaim 233 = .ok (.iload 4, 2) := by decide +kernel
theorem dX11_ofClaim_235 : decode cX11_ofClaim 235 = .ok (.iastore, 1) := by decide +kernel
theorem dX11_ofClaim_236 : decode cX11_ofClaim 236 = .ok (.aload_n 1, 1) := by decide +kernel
theorem dX11_ofClaim_237 : decode cX11_ofClaim 237 = .ok (.getfield 76, 3) := by decide +kernel
theorem dX11_ofClaim_240 : decode cX11_ofClaim 240 = .ok (.iload_n 3, 1) := by decide +kernel
theorem dX11_ofClaim_241 : decode cX11_ofClaim 241 = .ok (.iload 4, 2) := by decide +kernel
theorem dX11_ofClaim_243 : decode cX11_ofClaim 243 = .ok (.iastore, 1) := by decide +kernel
theorem dX11_ofClaim_244 : decode cX11_ofClaim 244 = .ok (.iload 5, 2) := by decide +kernel
theorem dX11_ofClaim_246 : decode cX11_ofClaim 246 = .ok (.ireturn, 1) := by decide +kernel
theorem dX11_errorOf_0 : decode cX11_errorOf 0 = .ok (.aload_n 0, 1) := by decide +kernel
theorem dX11_errorOf_1 : decode cX11_errorOf 1 = .ok (.getfield 30, 3) := by decide +kernel
theorem dX11_errorOf_4 : decode cX11_errorOf 4 = .ok (.iload_n 2, 1) := by decide +kernel
theorem dX11_errorOf_5 : decode cX11_errorOf 5 = .ok (.iaload, 1) := by decide +kernel
theorem dX11_errorOf_6 : decode cX11_errorOf 6 = .ok (.tableswitch 144 0 12 #[66, 68, 80, 92, 144, 144, 144, 144, 144, 98, 104, 130, 137], 66) := by decide +kernel
theorem dX11_errorOf_72 : decode cX11_errorOf 72 = .ok (.iconst 0, 1) := by decide +kernel
theorem dX11_errorOf_73 : decode cX11_errorOf 73 = .ok (.ireturn, 1) := by decide +kernel
theorem dX11_errorOf_74 : decode cX11_errorOf 74 = .ok (.aload_n 0, 1) := by decide +kernel
theorem dX11_errorOf_75 : decode cX11_errorOf 75 = .ok (.aload_n 1, 1) := by decide +kernel
theorem dX11_errorOf_76 : decode cX11_errorOf 76 = .ok (.aload_n 0, 1) := by decide +kernel
theorem dX11_errorOf_77 : decode cX11_errorOf 77 = .ok (.getfield 33, 3) := by decide +kernel
theorem dX11_errorOf_80 : decode cX11_errorOf 80 = .ok (.iload_n 2, 1) := by decide +kernel
theorem dX11_errorOf_81 : decode cX11_errorOf 81 = .ok (.laload, 1) := by decide +kernel
theorem dX11_errorOf_82 : decode cX11_errorOf 82 = .ok (.invokevirtual 337, 3) := by decide +kernel
theorem dX11_errorOf_85 : decode cX11_errorOf 85 = .ok (.ireturn, 1) := by decide +kernel
theorem dX11_errorOf_86 : decode cX11_errorOf 86 = .ok (.aload_n 0, 1) := by decide +kernel
theorem dX11_errorOf_87 : decode cX11_errorOf 87 = .ok (.aload_n 1, 1) := by decide +kernel
theorem dX11_errorOf_88 : decode cX11_errorOf 88 = .ok (.aload_n 0, 1) := by decide +kernel
theorem dX11_errorOf_89 : decode cX11_errorOf 89 = .ok (.getfield 33, 3) := by decide +kernel
theorem dX11_errorOf_92 : decode cX11_errorOf 92 = .ok (.iload_n 2, 1) := by decide +kernel
theorem dX11_errorOf_93 : decode cX11_errorOf 93 = .ok (.laload, 1) := by decide +kernel
theorem dX11_errorOf_94 : decode cX11_errorOf 94 = .ok (.invokevirtual 341, 3) := by decide +kernel
theorem dX11_errorOf_97 : decode cX11_errorOf 97 = .ok (.ireturn, 1) := by decide +kernel
theorem dX11_errorOf_98 : decode cX11_errorOf 98 = .ok (.aload_n 0, 1) := by decide +kernel
theorem dX11_errorOf_99 : decode cX11_errorOf 99 = .ok (.aload_n 1, 1) := by decide +kernel
theorem dX11_errorOf_100 : decode cX11_errorOf 100 = .ok (.invokevirtual 344, 3) := by decide +kernel
theorem dX11_errorOf_103 : decode cX11_errorOf 103 = .ok (.ireturn, 1) := by decide +kernel
theorem dX11_errorOf_104 : decode cX11_errorOf 104 = .ok (.aload_n 0, 1) := by decide +kernel
theorem dX11_errorOf_105 : decode cX11_errorOf 105 = .ok (.aload_n 1, 1) := by decide +kernel
theorem dX11_errorOf_106 : decode cX11_errorOf 106 = .ok (.invokevirtual 348, 3) := by decide +kernel
theorem dX11_errorOf_109 : decode cX11_errorOf 109 = .ok (.ireturn, 1) := by decide +kernel
theorem dX11_errorOf_110 : decode cX11_errorOf 110 = .ok (.aload_n 0, 1) := by decide +kernel
theorem dX11_errorOf_111 : decode cX11_errorOf 111 = .ok (.aload_n 1, 1) := by decide +kernel
theorem dX11_errorOf_112 : decode cX11_errorOf 112 = .ok (.iload_n 2, 1) := by decide +kernel
theorem dX11_errorOf_113 : decode cX11_errorOf 113 = .ok (.invokevirtual 330, 3) := by decide +kernel
theorem dX11_errorOf_116 : decode cX11_errorOf 116 = .ok (.istore_n 3, 1) := by decide +kernel
theorem dX11_errorOf_117 : decode cX11_errorOf 117 = .ok (.aload_n 1, 1) := by decide +kernel
theorem dX11_errorOf_118 : decode cX11_errorOf 118 = .ok (.getfield 150, 3) := by decide +kernel
theorem dX11_errorOf_121 : decode cX11_errorOf 121 = .ok (.aload_n 1, 1) := by decide +kernel
theorem dX11_errorOf_122 : decode cX11_errorOf 122 = .ok (.getfield 144, 3) := by decide +kernel
theorem dX11_errorOf_125 : decode cX11_errorOf 125 = .ok (.iconst 1, 1) := by decide +kernel
theorem dX11_errorOf_126 : decode cX11_errorOf 126 = .ok (.isub, 1) := by decide +kernel
