theorem dX8_gatherAhead_85 : decode cX8_gatherAhead 85 = .ok (.getfield 99, 3) := by decide +kernel
theorem dX8_gatherAhead_88 : decode cX8_gatherAhead 88 = .ok (.iload_n 2, 1) := by decide +kernel
theorem dX8_gatherAhead_89 : decode cX8_gatherAhead 89 = .ok (.invokevirtual 56, 3) := by decide +kernel
theorem dX8_gatherAhead_92 : decode cX8_gatherAhead 92 = .ok (.istore_n 3, 1) := by decide +kernel
theorem dX8_gatherAhead_93 : decode cX8_gatherAhead 93 = .ok (.aload_n 0, 1) := by decide +kernel
theorem dX8_gatherAhead_94 : decode cX8_gatherAhead 94 = .ok (.getfield 24, 3) := by decide +kernel
theorem dX8_gatherAhead_97 : decode cX8_gatherAhead 97 = .ok (.iload_n 3, 1) := by decide +kernel
theorem dX8_gatherAhead_98 : decode cX8_gatherAhead 98 = .ok (.aload_n 0, 1) := by decide +kernel
theorem dX8_gatherAhead_99 : decode cX8_gatherAhead 99 = .ok (.getfield 24, 3) := by decide +kernel
theorem dX8_gatherAhead_102 : decode cX8_gatherAhead 102 = .ok (.iload_n 3, 1) := by decide +kernel
theorem dX8_gatherAhead_103 : decode cX8_gatherAhead 103 = .ok (.invokevirtual 56, 3) := by decide +kernel
theorem dX8_gatherAhead_106 : decode cX8_gatherAhead 106 = .ok (.iconst 1, 1) := by decide +kernel
theorem dX8_gatherAhead_107 : decode cX8_gatherAhead 107 = .ok (.aload_n 0, 1) := by decide +kernel
theorem dX8_gatherAhead_108 : decode cX8_gatherAhead 108 = .ok (.getfield 9, 3) := by decide +kernel
theorem dX8_gatherAhead_111 : decode cX8_gatherAhead 111 = .ok (.getfield 38, 3) := by decide +kernel
theorem dX8_gatherAhead_114 : decode cX8_gatherAhead 114 = .ok (.getfield 123, 3) := by decide +kernel
theorem dX8_gatherAhead_117 : decode cX8_gatherAhead 117 = .ok (.iload_n 2, 1) := by decide +kernel
theorem dX8_gatherAhead_118 : decode cX8_gatherAhead 118 = .ok (.invokevirtual 56, 3) := by decide +kernel
theorem dX8_gatherAhead_121 : decode cX8_gatherAhead 121 = .ok (.ishl, 1) := by decide +kernel
theorem dX8_gatherAhead_122 : decode cX8_gatherAhead 122 = .ok (.ior, 1) := by decide +kernel
theorem dX8_gatherAhead_123 : decode cX8_gatherAhead 123 = .ok (.invokevirtual 34, 3) := by decide +kernel
theorem dX8_gatherAhead_126 : decode cX8_gatherAhead 126 = .ok (.iinc 2 1, 3) := by decide +kernel
theorem dX8_gatherAhead_129 : decode cX8_gatherAhead 129 = .ok (.goto (-104), 3) := by decide +kernel
theorem dX8_gatherAhead_132 : decode cX8_gatherAhead 132 = .ok (.return_, 1) := by decide +kernel
theorem dX8_nextEvent_0 : decode cX8_nextEvent 0 = .ok (.iconst 0, 1) := by decide +kernel
theorem dX8_nextEvent_1 : decode cX8_nextEvent 1 = .ok (.istore_n 2, 1) := by decide +kernel
theorem dX8_nextEvent_2 : decode cX8_nextEvent 2 = .ok (.iload_n 2, 1) := by decide +kernel
theorem dX8_nextEvent_3 : decode cX8_nextEvent 3 = .ok (.aload_n 0, 1) := by decide +kernel
theorem dX8_nextEvent_4 : decode cX8_nextEvent 4 = .ok (.getfield 9, 3) := by decide +kernel
theorem dX8_nextEvent_7 : decode cX8_nextEvent 7 = .ok (.getfield 131, 3) := by decide +kernel
theorem dX8_nextEvent_10 : decode cX8_nextEvent 10 = .ok (.if_icmp .ge 34, 3) := by decide +kernel
theorem dX8_nextEvent_13 : decode cX8_nextEvent 13 = .ok (.iload_n 1, 1) := by decide +kernel
theorem dX8_nextEvent_14 : decode cX8_nextEvent 14 = .ok (.iload_n 2, 1) := by decide +kernel
theorem dX8_nextEvent_15 : decode cX8_nextEvent 15 = .ok (.invokestatic 66, 3) := by decide +kernel
theorem dX8_nextEvent_18 : decode cX8_nextEvent 18 = .ok (.ifCond .ne 20, 3) := by decide +kernel
theorem dX8_nextEvent_21 : decode cX8_nextEvent 21 = .ok (.aload_n 0, 1) := by decide +kernel
theorem dX8_nextEvent_22 : decode cX8_nextEvent 22 = .ok (.getfield 24, 3) := by decide +kernel
theorem dX8_nextEvent_25 : decode cX8_nextEvent 25 = .ok (.iload_n 2, 1) := by decide +kernel
theorem dX8_nextEvent_26 : decode cX8_nextEvent 26 = .ok (.invokevirtual 56, 3) := by decide +kernel
theorem dX8_nextEvent_29 : decode cX8_nextEvent 29 = .ok (.iload_n 1, 1) := by decide +kernel
theorem dX8_nextEvent_30 : decode cX8_nextEvent 30 = .ok (.iconst (-1), 1) := by decide +kernel
theorem dX8_nextEvent_31 : decode cX8_nextEvent 31 = .ok (.ixor, 1) := by decide +kernel
theorem dX8_nextEvent_32 : decode cX8_nextEvent 32 = .ok (.iand, 1) := by decide +kernel
theorem dX8_nextEvent_33 : decode cX8_nextEvent 33 = .ok (.ifCond .ne 5, 3) := by decide +kernel
theorem dX8_nextEvent_36 : decode cX8_nextEvent 36 = .ok (.iload_n 2, 1) := by decide +kernel
theorem dX8_nextEvent_37 : decode cX8_nextEvent 37 = .ok (.ireturn, 1) := by decide +kernel
theorem dX8_nextEvent_38 : decode cX8_nextEvent 38 = .ok (.iinc 2 1, 3) := by decide +kernel
theorem dX8_nextEvent_41 : decode cX8_nextEvent 41 = .ok (.goto (-39), 3) := by decide +kernel
theorem dX8_nextEvent_44 : decode cX8_nextEvent 44 = .ok (.iconst (-1), 1) := by decide +kernel
theorem dX8_nextEvent_45 : decode cX8_nextEvent 45 = .ok (.ireturn, 1) := by decide +kernel
theorem dX9_init_0 : decode cX9_init 0 = .ok (.aload_n 0, 1) := by decide +kernel
theorem dX9_init_1 : decode cX9_init 1 = .ok (.invokespecial 1, 3) := by decide +kernel
theorem dX9_init_4 : decode cX9_init 4 = .ok (.new 7, 3) := by decide +kernel
theorem dX9_init_7 : decode cX9_init 7 = .ok (.dup, 1) := by decide +kernel
theorem dX9_init_8 : decode cX9_init 8 = .ok (.sipush 2000, 3) := by decide +kernel
theorem dX9_init_11 : decode cX9_init 11 = .ok (.invokespecial 11, 3) := by decide +kernel
theorem dX9_init_14 : decode cX9_init 14 = .ok (.astore_n 1, 1) := by decide +kernel
theorem dX9_init_15 : decode cX9_init 15 = .ok (.new 14, 3) := by decide +kernel
theorem dX9_init_18 : decode cX9_init 18 = .ok (.dup, 1) := by decide +kernel
theorem dX9_init_19 : decode cX9_init 19 = .ok (.invokespecial 16, 3) := by decide +kernel
theorem dX9_init_22 : decode cX9_init 22 = .ok (.astore_n 2, 1) := by decide +kernel
theorem dX9_init_23 : decode cX9_init 23 = .ok (.new 17, 3) := by decide +kernel
theorem dX9_init_26 : decode cX9_init 26 = .ok (.dup, 1) := by decide +kernel
theorem dX9_init_27 : decode cX9_init 27 = .ok (.aload_n 2, 1) := by decide +kernel
theorem dX9_init_28 : decode cX9_init 28 = .ok (.invokespecial 19, 3) := by decide +kernel
theorem dX9_init_31 : decode cX9_init 31 = .ok (.astore_n 3, 1) := by decide +kernel
theorem dX9_init_32 : decode cX9_init 32 = .ok (.aload_n 0, 1) := by decide +kernel
theorem dX9_init_33 : decode cX9_init 33 = .ok (.aload_n 1, 1) := by decide +kernel
theorem dX9_init_34 : decode cX9_init 34 = .ok (.putfield 22, 3) := by decide +kernel
theorem dX9_init_37 : decode cX9_init 37 = .ok (.aload_n 0, 1) := by decide +kernel
theorem dX9_init_38 : decode cX9_init 38 = .ok (.new 26, 3) := by decide +kernel
theorem dX9_init_41 : decode cX9_init 41 = .ok (.dup, 1) := by decide +kernel
theorem dX9_init_42 : decode cX9_init 42 = .ok (.aload_n 1, 1) := by decide +kernel
theorem dX9_init_43 : decode cX9_init 43 = .ok (.invokespecial 28, 3) := by decide +kernel
theorem dX9_init_46 : decode cX9_init 46 = .ok (.putfield 31, 3) := by decide +kernel
theorem dX9_init_49 : decode cX9_init 49 = .ok (.aload_n 0, 1) := by decide +kernel
theorem dX9_init_50 : decode cX9_init 50 = .ok (.aload_n 2, 1) := by decide +kernel
theorem dX9_init_51 : decode cX9_init 51 = .ok (.putfield 35, 3) := by decide +kernel
theorem dX9_init_54 : decode cX9_init 54 = .ok (.aload_n 0, 1) := by decide +kernel
theorem dX9_init_55 : decode cX9_init 55 = .ok (.aload_n 3, 1) := by decide +kernel
theorem dX9_init_56 : decode cX9_init 56 = .ok (.putfield 39, 3) := by decide +kernel
theorem dX9_init_59 : decode cX9_init 59 = .ok (.aload_n 0, 1) := by decide +kernel
theorem dX9_init_60 : decode cX9_init 60 = .ok (.new 43, 3) := by decide +kernel
theorem dX9_init_63 : decode cX9_init 63 = .ok (.dup, 1) := by decide +kernel
theorem dX9_init_64 : decode cX9_init 64 = .ok (.aload_n 2, 1) := by decide +kernel
theorem dX9_init_65 : decode cX9_init 65 = .ok (.aload_n 3, 1) := by decide +kernel
theorem dX9_init_66 : decode cX9_init 66 = .ok (.invokespecial 45, 3) := by decide +kernel
theorem dX9_init_69 : decode cX9_init 69 = .ok (.putfield 48, 3) := by decide +kernel
theorem dX9_init_72 : decode cX9_init 72 = .ok (.aload_n 0, 1) := by decide +kernel
theorem dX9_init_73 : decode cX9_init 73 = .ok (.new 43, 3) := by decide +kernel
theorem dX9_init_76 : decode cX9_init 76 = .ok (.dup, 1) := by decide +kernel
theorem dX9_init_77 : decode cX9_init 77 = .ok (.aload_n 2, 1) := by decide +kernel
theorem dX9_init_78 : decode cX9_init 78 = .ok (.aload_n 3, 1) := by decide +kernel
theorem dX9_init_79 : decode cX9_init 79 = .ok (.invokespecial 45, 3) := by decide +kernel
theorem dX9_init_82 : decode cX9_init 82 = .ok (.putfield 52, 3) := by decide +kernel
theorem dX9_init_85 : decode cX9_init 85 = .ok (.aload_n 0, 1) := by decide +kernel
theorem dX9_init_86 : decode cX9_init 86 = .ok (.iconst 0, 1) := by decide +kernel
theorem dX9_init_87 : decode cX9_init 87 = .ok (.putfield 55, 3) := by decide +kernel
theorem dX9_init_90 : decode cX9_init 90 = .ok (.aload_n 0, 1) := by decide +kernel
theorem dX9_init_91 : decode cX9_init 91 = .ok (.iconst (-1), 1) := by decide +kernel
theorem dX9_init_92 : decode cX9_init 92 = .ok (.putfield 59, 3) := by decide +kernel
theorem dX9_init_95 : decode cX9_init 95 = .ok (.return_, 1) := by decide +kernel
theorem dX9_feed_0 : decode cX9_feed 0 = .ok (.aload_n 0, 1) := by decide +kernel
theorem dX9_feed_1 : decode cX9_feed 1 = .ok (.getfield 55, 3) := by decide +kernel
theorem dX9_feed_4 : decode cX9_feed 4 = .ok (.bipush 20, 2) := by decide +kernel
theorem dX9_feed_6 : decode cX9_feed 6 = .ok (.iadd, 1) := by decide +kernel
theorem dX9_feed_7 : decode cX9_feed 7 = .ok (.sipush 2000, 3) := by decide +kernel
theorem dX9_feed_10 : decode cX9_feed 10 = .ok (.if_icmp .le 13, 3) := by decide +kernel
theorem dX9_feed_13 : decode cX9_feed 13 = .ok (.new 62, 3) := by decide +kernel
theorem dX9_feed_16 : decode cX9_feed 16 = .ok (.dup, 1) := by decide +kernel
theorem dX9_feed_17 : decode cX9_feed 17 = .ok (.ldc 64, 2) := by decide +kernel
theorem dX9_feed_19 : decode cX9_feed 19 = .ok (.invokespecial 66, 3) := by decide +kernel
theorem dX9_feed_22 : decode cX9_feed 22 = .ok (.athrow, 1) := by decide +kernel
theorem dX9_feed_23 : decode cX9_feed 23 = .ok (.aload_n 0, 1) := by decide +kernel
theorem dX9_feed_24 : decode cX9_feed 24 = .ok (.iload_n 1, 1) := by decide +kernel
theorem dX9_feed_25 : decode cX9_feed 25 = .ok (.invokevirtual 69, 3) := by decide +kernel
theorem dX9_feed_28 : decode cX9_feed 28 = .ok (.aload_n 0, 1) := by decide +kernel
theorem dX9_feed_29 : decode cX9_feed 29 = .ok (.iload_n 2, 1) := by decide +kernel
theorem dX9_feed_30 : decode cX9_feed 30 = .ok (.invokevirtual 69, 3) := by decide +kernel
theorem dX9_feed_33 : decode cX9_feed 33 = .ok (.aload_n 0, 1) := by decide +kernel
theorem dX9_feed_34 : decode cX9_feed 34 = .ok (.iload_n 3, 1) := by decide +kernel
theorem dX9_feed_35 : decode cX9_feed 35 = .ok (.invokevirtual 69, 3) := by decide +kernel
theorem dX9_feed_38 : decode cX9_feed 38 = .ok (.aload_n 0, 1) := by decide +kernel
theorem dX9_feed_39 : decode cX9_feed 39 = .ok (.iload 4, 2) := by decide +kernel
theorem dX9_feed_41 : decode cX9_feed 41 = .ok (.invokevirtual 69, 3) := by decide +kernel
theorem dX9_feed_44 : decode cX9_feed 44 = .ok (.aload_n 0, 1) := by decide +kernel
theorem dX9_feed_45 : decode cX9_feed 45 = .ok (.iload 5, 2) := by decide +kernel
theorem dX9_feed_47 : decode cX9_feed 47 = .ok (.invokevirtual 69, 3) := by decide +kernel
theorem dX9_feed_50 : decode cX9_feed 50 = .ok (.aload_n 0, 1) := by decide +kernel
theorem dX9_feed_51 : decode cX9_feed 51 = .ok (.getfield 55, 3) := by decide +kernel
theorem dX9_feed_54 : decode cX9_feed 54 = .ok (.ireturn, 1) := by decide +kernel
theorem dX9_appendBytes_0 : decode cX9_appendBytes 0 = .ok (.bipush 24, 2) := by decide +kernel
theorem dX9_appendBytes_2 : decode cX9_appendBytes 2 = .ok (.istore_n 2, 1) := by decide +kernel
theorem dX9_appendBytes_3 : decode cX9_appendBytes 3 = .ok (.iload_n 2, 1) := by decide +kernel
theorem dX9_appendBytes_4 : decode cX9_appendBytes 4 = .ok (.ifCond .lt 37, 3) := by decide +kernel
theorem dX9_appendBytes_7 : decode cX9_appendBytes 7 = .ok (.aload_n 0, 1) := by decide +kernel
theorem dX9_appendBytes_8 : decode cX9_appendBytes 8 = .ok (.getfield 22, 3) := by decide +kernel
theorem dX9_appendBytes_11 : decode cX9_appendBytes 11 = .ok (.aload_n 0, 1) := by decide +kernel
theorem dX9_appendBytes_12 : decode cX9_appendBytes 12 = .ok (.getfield 55, 3) := by decide +kernel
theorem dX9_appendBytes_15 : decode cX9_appendBytes 15 = .ok (.iload_n 1, 1) := by decide +kernel
theorem dX9_appendBytes_16 : decode cX9_appendBytes 16 = .ok (.iload_n 2, 1) := by decide +kernel
theorem dX9_appendBytes_17 : decode cX9_appendBytes 17 = .ok (.iushr, 1) := by decide +kernel
theorem dX9_appendBytes_18 : decode cX9_appendBytes 18 = .ok (.sipush 255, 3) := by decide +kernel
theorem dX9_appendBytes_21 : decode cX9_appendBytes 21 = .ok (.iand, 1) := by decide +kernel
theorem dX9_appendBytes_22 : decode cX9_appendBytes 22 = .ok (.invokevirtual 72, 3) := by decide +kernel
theorem dX9_appendBytes_25 : decode cX9_appendBytes 25 = .ok (.aload_n 0, 1) := by decide +kernel
theorem dX9_appendBytes_26 : decode cX9_appendBytes 26 = .ok (.dup, 1) := by decide +kernel
theorem dX9_appendBytes_27 : decode cX9_appendBytes 27 = .ok (.getfield 55, 3) := by decide +kernel
theorem dX9_appendBytes_30 : decode cX9_appendBytes 30 = .ok (.iconst 1, 1) := by decide +kernel
theorem dX9_appendBytes_31 : decode cX9_appendBytes 31 = .ok (.iadd, 1) := by decide +kernel
theorem dX9_appendBytes_32 : decode cX9_appendBytes 32 = .ok (.putfield 55, 3) := by decide +kernel
theorem dX9_appendBytes_35 : decode cX9_appendBytes 35 = .ok (.iinc 2 (-8), 3) := by decide +kernel
theorem dX9_appendBytes_38 : decode cX9_appendBytes 38 = .ok (.goto (-35), 3) := by decide +kernel
theorem dX9_appendBytes_41 : decode cX9_appendBytes 41 = .ok (.return_, 1) := by decide +kernel
theorem dX9_trim_0 : decode cX9_trim 0 = .ok (.iload_n 1, 1) := by decide +kernel
theorem dX9_trim_1 : decode cX9_trim 1 = .ok (.ifCond .lt 11, 3) := by decide +kernel
theorem dX9_trim_4 : decode cX9_trim 4 = .ok (.iload_n 1, 1) := by decide +kernel
theorem dX9_trim_5 : decode cX9_trim 5 = .ok (.aload_n 0, 1) := by decide +kernel
theorem dX9_trim_6 : decode cX9_trim 6 = .ok (.getfield 55, 3) := by decide +kernel
theorem dX9_trim_9 : decode cX9_trim 9 = .ok (.if_icmp .le 13, 3) := by decide +kernel
theorem dX9_trim_12 : decode cX9_trim 12 = .ok (.new 76, 3) := by decide +kernel
theorem dX9_trim_15 : decode cX9_trim 15 = .ok (.dup, 1) := by decide +kernel
theorem dX9_trim_16 : decode cX9_trim 16 = .ok (.ldc 78, 2) := by decide +kernel
theorem dX9_trim_18 : decode cX9_trim 18 = .ok (.invokespecial 80, 3) := by decide +kernel
theorem dX9_trim_21 : decode cX9_trim 21 = .ok (.athrow, 1) := by decide +kernel
theorem dX9_trim_22 : decode cX9_trim 22 = .ok (.aload_n 0, 1) := by decide +kernel
theorem dX9_trim_23 : decode cX9_trim 23 = .ok (.iload_n 1, 1) := by decide +kernel
theorem dX9_trim_24 : decode cX9_trim 24 = .ok (.putfield 55, 3) := by decide +kernel
theorem dX9_trim_27 : decode cX9_trim 27 = .ok (.iload_n 1, 1) := by decide +kernel
theorem dX9_trim_28 : decode cX9_trim 28 = .ok (.ireturn, 1) := by decide +kernel
theorem dX9_teach_0 : decode cX9_teach 0 = .ok (.aload_n 0, 1) := by decide +kernel
theorem dX9_teach_1 : decode cX9_teach 1 = .ok (.getfield 31, 3) := by decide +kernel
theorem dX9_teach_4 : decode cX9_teach 4 = .ok (.aload_n 0, 1) := by decide +kernel
theorem dX9_teach_5 : decode cX9_teach 5 = .ok (.getfield 55, 3) := by decide +kernel
theorem dX9_teach_8 : decode cX9_teach 8 = .ok (.invokevirtual 81, 3) := by decide +kernel
theorem dX9_teach_11 : decode cX9_teach 11 = .ok (.istore_n 1, 1) := by decide +kernel
theorem dX9_teach_12 : decode cX9_teach 12 = .ok (.aload_n 0, 1) := by decide +kernel
theorem dX9_teach_13 : decode cX9_teach 13 = .ok (.aload_n 0, 1) := by decide +kernel
theorem dX9_teach_14 : decode cX9_teach 14 = .ok (.getfield 31, 3) := by decide +kernel
theorem dX9_teach_17 : decode cX9_teach 17 = .ok (.getfield 85, 3) := by decide +kernel
theorem dX9_teach_20 : decode cX9_teach 20 = .ok (.putfield 59, 3) := by decide +kernel
theorem dX9_teach_23 : decode cX9_teach 23 = .ok (.aload_n 0, 1) := by decide +kernel
theorem dX9_teach_24 : decode cX9_teach 24 = .ok (.iconst 0, 1) := by decide +kernel
theorem dX9_teach_25 : decode cX9_teach 25 = .ok (.putfield 55, 3) := by decide +kernel
theorem dX9_teach_28 : decode cX9_teach 28 = .ok (.iload_n 1, 1) := by decide +kernel
theorem dX9_teach_29 : decode cX9_teach 29 = .ok (.ifCond .ne 31, 3) := by decide +kernel
theorem dX9_teach_32 : decode cX9_teach 32 = .ok (.aload_n 0, 1) := by decide +kernel
theorem dX9_teach_33 : decode cX9_teach 33 = .ok (.getfield 35, 3) := by decide +kernel
theorem dX9_teach_36 : decode cX9_teach 36 = .ok (.aload_n 0, 1) := by decide +kernel
theorem dX9_teach_37 : decode cX9_teach 37 = .ok (.getfield 31, 3) := by decide +kernel
theorem dX9_teach_40 : decode cX9_teach 40 = .ok (.getfield 86, 3) := by decide +kernel
theorem dX9_teach_43 : decode cX9_teach 43 = .ok (.invokevirtual 89, 3) := by decide +kernel
theorem dX9_teach_46 : decode cX9_teach 46 = .ok (.aload_n 0, 1) := by decide +kernel
theorem dX9_teach_47 : decode cX9_teach 47 = .ok (.getfield 39, 3) := by decide +kernel
theorem dX9_teach_50 : decode cX9_teach 50 = .ok (.invokevirtual 92, 3) := by decide +kernel
theorem dX9_teach_53 : decode cX9_teach 53 = .ok (.aload_n 0, 1) := by decide +kernel
theorem dX9_teach_54 : decode cX9_teach 54 = .ok (.getfield 48, 3) := by decide +kernel
theorem dX9_teach_57 : decode cX9_teach 57 = .ok (.invokevirtual 95, 3) := by decide +kernel
theorem dX9_teach_60 : decode cX9_teach 60 = .ok (.iload_n 1, 1) := by decide +kernel
theorem dX9_teach_61 : decode cX9_teach 61 = .ok (.ireturn, 1) := by decide +kernel
theorem dX9_events_0 : decode cX9_events 0 = .ok (.aload_n 0, 1) := by decide +kernel
theorem dX9_events_1 : decode cX9_events 1 = .ok (.getfield 35, 3) := by decide +kernel
theorem dX9_events_4 : decode cX9_events 4 = .ok (.getfield 98, 3) := by decide +kernel
theorem dX9_events_7 : decode cX9_events 7 = .ok (.ireturn, 1) := by decide +kernel
theorem dX9_tellers_0 : decode cX9_tellers 0 = .ok (.aload_n 0, 1) := by decide +kernel
theorem dX9_tellers_1 : decode cX9_tellers 1 = .ok (.getfield 35, 3) := by decide +kernel
theorem dX9_tellers_4 : decode cX9_tellers 4 = .ok (.getfield 101, 3) := by decide +kernel
theorem dX9_tellers_7 : decode cX9_tellers 7 = .ok (.ireturn, 1) := by decide +kernel
theorem dX9_claims_0 : decode cX9_claims 0 = .ok (.aload_n 0, 1) := by decide +kernel
theorem dX9_claims_1 : decode cX9_claims 1 = .ok (.getfield 35, 3) := by decide +kernel
theorem dX9_claims_4 : decode cX9_claims 4 = .ok (.getfield 104, 3) := by decide +kernel
theorem dX9_claims_7 : decode cX9_claims 7 = .ok (.getfield 108, 3) := by decide +kernel
theorem dX9_claims_10 : decode cX9_claims 10 = .ok (.ireturn, 1) := by decide +kernel
theorem dX9_evenings_0 : decode cX9_evenings 0 = .ok (.aload_n 0, 1) := by decide +kernel
theorem dX9_evenings_1 : decode cX9_evenings 1 = .ok (.getfield 48, 3) := by decide +kernel
theorem dX9_evenings_4 : decode cX9_evenings 4 = .ok (.getfield 113, 3) := by decide +kernel
theorem dX9_evenings_7 : decode cX9_evenings 7 = .ok (.ireturn, 1) := by decide +kernel
theorem dX9_ordersCarriedOut_0 : decode cX9_ordersCarriedOut 0 = .ok (.aload_n 0, 1) := by decide +kernel
theorem dX9_ordersCarriedOut_1 : decode cX9_ordersCarriedOut 1 = .ok (.getfield 48, 3) := by decide +kernel
theorem dX9_ordersCarriedOut_4 : decode cX9_ordersCarriedOut 4 = .ok (.getfield 116, 3) := by decide +kernel
theorem dX9_ordersCarriedOut_7 : decode cX9_ordersCarriedOut 7 = .ok (.ireturn, 1) := by decide +kernel
theorem dX9_tellerOf_0 : decode cX9_tellerOf 0 = .ok (.aload_n 0, 1) := by decide +kernel
theorem dX9_tellerOf_1 : decode cX9_tellerOf 1 = .ok (.iload_n 1, 1) := by decide +kernel
theorem dX9_tellerOf_2 : decode cX9_tellerOf 2 = .ok (.invokevirtual 119, 3) := by decide +kernel
theorem dX9_tellerOf_5 : decode cX9_tellerOf 5 = .ok (.aload_n 0, 1) := by decide +kernel
theorem dX9_tellerOf_6 : decode cX9_tellerOf 6 = .ok (.getfield 35, 3) := by decide +kernel
theorem dX9_tellerOf_9 : decode cX9_tellerOf 9 = .ok (.getfield 104, 3) := by decide +kernel
theorem dX9_tellerOf_12 : decode cX9_tellerOf 12 = .ok (.getfield 122, 3) := by decide +kernel
theorem dX9_tellerOf_15 : decode cX9_tellerOf 15 = .ok (.iload_n 1, 1) := by decide +kernel
theorem dX9_tellerOf_16 : decode cX9_tellerOf 16 = .ok (.invokevirtual 125, 3) := by decide +kernel
theorem dX9_tellerOf_19 : decode cX9_tellerOf 19 = .ok (.ireturn, 1) := by decide +kernel
theorem dX9_kindOf_0 : decode cX9_kindOf 0 = .ok (.aload_n 0, 1) := by decide +kernel
theorem dX9_kindOf_1 : decode cX9_kindOf 1 = .ok (.iload_n 1, 1) := by decide +kernel
theorem dX9_kindOf_2 : decode cX9_kindOf 2 = .ok (.invokevirtual 119, 3) := by decide +kernel
theorem dX9_kindOf_5 : decode cX9_kindOf 5 = .ok (.aload_n 0, 1) := by decide +kernel
theorem dX9_kindOf_6 : decode cX9_kindOf 6 = .ok (.getfield 35, 3) := by decide +kernel
theorem dX9_kindOf_9 : decode cX9_kindOf 9 = .ok (.getfield 104, 3) := by decide +kernel
theorem dX9_kindOf_12 : decode cX9_kindOf 12 = .ok (.getfield 128, 3) := by decide +kernel
theorem dX9_kindOf_15 : decode cX9_kindOf 15 = .ok (.iload_n 1, 1) := by decide +kernel
theorem dX9_kindOf_16 : decode cX9_kindOf 16 = .ok (.invokevirtual 125, 3) := by decide +kernel
theorem dX9_kindOf_19 : decode cX9_kindOf 19 = .ok (.ireturn, 1) := by decide +kernel
theorem dX9_eventOf_0 : decode cX9_eventOf 0 = .ok (.aload_n 0, 1) := by decide +kernel
theorem dX9_eventOf_1 : decode cX9_eventOf 1 = .ok (.iload_n 1, 1) := by decide +kernel
theorem dX9_eventOf_2 : decode cX9_eventOf 2 = .ok (.invokevirtual 119, 3) := by decide +kernel
theorem dX9_eventOf_5 : decode cX9_eventOf 5 = .ok (.aload_n 0, 1) := by decide +kernel
theorem dX9_eventOf_6 : decode cX9_eventOf 6 = .ok (.getfield 35, 3) := by decide +kernel
theorem dX9_eventOf_9 : decode cX9_eventOf 9 = .ok (.getfield 104, 3) := by decide +kernel
theorem dX9_eventOf_12 : decode cX9_eventOf 12 = .ok (.getfield 131, 3) := by decide +kernel
theorem dX9_eventOf_15 : decode cX9_eventOf 15 = .ok (.iload_n 1, 1) := by decide +kernel
theorem dX9_eventOf_16 : decode cX9_eventOf 16 = .ok (.invokevirtual 125, 3) := by decide +kernel
theorem dX9_eventOf_19 : decode cX9_eventOf 19 = .ok (.ireturn, 1) := by decide +kernel
theorem dX9_secondEventOf_0 : decode cX9_secondEventOf 0 = .ok (.aload_n 0, 1) := by decide +kernel
theorem dX9_secondEventOf_1 : decode cX9_secondEventOf 1 = .ok (.iload_n 1, 1) := by decide +kernel
theorem dX9_secondEventOf_2 : decode cX9_secondEventOf 2 = .ok (.invokevirtual 119, 3) := by decide +kernel
theorem dX9_secondEventOf_5 : decode cX9_secondEventOf 5 = .ok (.aload_n 0, 1) := by decide +kernel
theorem dX9_secondEventOf_6 : decode cX9_secondEventOf 6 = .ok (.getfield 35, 3) := by decide +kernel
theorem dX9_secondEventOf_9 : decode cX9_secondEventOf 9 = .ok (.getfield 104, 3) := by decide +kernel
theorem dX9_secondEventOf_12 : decode cX9_secondEventOf 12 = .ok (.getfield 128, 3) := by decide +kernel
theorem dX9_secondEventOf_15 : decode cX9_secondEventOf 15 = .ok (.iload_n 1, 1) := by decide +kernel
theorem dX9_secondEventOf_16 : decode cX9_secondEventOf 16 = .ok (.invokevirtual 125, 3) := by decide +kernel
theorem dX9_secondEventOf_19 : decode cX9_secondEventOf 19 = .ok (.ifCond .ne 13, 3) := by decide +kernel
theorem dX9_secondEventOf_22 : decode cX9_secondEventOf 22 = .ok (.new 62, 3) := by decide +kernel
theorem dX9_secondEventOf_25 : decode cX9_secondEventOf 25 = .ok (.dup, 1) := by decide +kernel
theorem dX9_secondEventOf_26 : decode cX9_secondEventOf 26 = .ok (.ldc 134, 2) := by decide +kernel
theorem dX9_secondEventOf_28 : decode cX9_secondEventOf 28 = .ok (.invokespecial 66, 3) := by decide +kernel
theorem dX9_secondEventOf_31 : decode cX9_secondEventOf 31 = .ok (.athrow, 1) := by decide +kernel
theorem dX9_secondEventOf_32 : decode cX9_secondEventOf 32 = .ok (.aload_n 0, 1) := by decide +kernel
theorem dX9_secondEventOf_33 : decode cX9_secondEventOf 33 = .ok (.getfield 35, 3) := by decide +kernel
theorem dX9_secondEventOf_36 : decode cX9_secondEventOf 36 = .ok (.getfield 104, 3) := by decide +kernel
theorem dX9_secondEventOf_39 : decode cX9_secondEventOf 39 = .ok (.getfield 136, 3) := by decide +kernel
theorem dX9_secondEventOf_42 : decode cX9_secondEventOf 42 = .ok (.iload_n 1, 1) := by decide +kernel
theorem dX9_secondEventOf_43 : decode cX9_secondEventOf 43 = .ok (.invokevirtual 125, 3) := by decide +kernel
theorem dX9_secondEventOf_46 : decode cX9_secondEventOf 46 = .ok (.ireturn, 1) := by decide +kernel
theorem dX9_firstHourOf_0 : decode cX9_firstHourOf 0 = .ok (.aload_n 0, 1) := by decide +kernel
theorem dX9_firstHourOf_1 : decode cX9_firstHourOf 1 = .ok (.iload_n 1, 1) := by decide +kernel
theorem dX9_firstHourOf_2 : decode cX9_firstHourOf 2 = .ok (.invokevirtual 119, 3) := by decide +kernel
theorem dX9_firstHourOf_5 : decode cX9_firstHourOf 5 = .ok (.aload_n 0, 1) := by decide +kernel
theorem dX9_firstHourOf_6 : decode cX9_firstHourOf 6 = .ok (.iload_n 1, 1) := by decide +kernel
theorem dX9_firstHourOf_7 : decode cX9_firstHourOf 7 = .ok (.invokevirtual 139, 3) := by decide +kernel
theorem dX9_firstHourOf_10 : decode cX9_firstHourOf 10 = .ok (.aload_n 0, 1) := by decide +kernel
theorem dX9_firstHourOf_11 : decode cX9_firstHourOf 11 = .ok (.getfield 35, 3) := by decide +kernel
theorem dX9_firstHourOf_14 : decode cX9_firstHourOf 14 = .ok (.getfield 104, 3) := by decide +kernel
theorem dX9_firstHourOf_17 : decode cX9_firstHourOf 17 = .ok (.getfield 136, 3) := by decide +kernel
theorem dX9_firstHourOf_20 : decode cX9_firstHourOf 20 = .ok (.iload_n 1, 1) := by decide +kernel
theorem dX9_firstHourOf_21 : decode cX9_firstHourOf 21 = .ok (.invokevirtual 125, 3) := by decide +kernel
theorem dX9_firstHourOf_24 : decode cX9_firstHourOf 24 = .ok (.ireturn, 1) := by decide +kernel
theorem dX9_lastHourOf_0 : decode cX9_lastHourOf 0 = .ok (.aload_n 0, 1) := by decide +kernel
theorem dX9_lastHourOf_1 : decode cX9_lastHourOf 1 = .ok (.iload_n 1, 1) := by decide +kernel
theorem dX9_lastHourOf_2 : decode cX9_lastHourOf 2 = .ok (.invokevirtual 119, 3) := by decide +kernel
theorem dX9_lastHourOf_5 : decode cX9_lastHourOf 5 = .ok (.aload_n 0, 1) := by decide +kernel
theorem dX9_lastHourOf_6 : decode cX9_lastHourOf 6 = .ok (.iload_n 1, 1) := by decide +kernel
theorem dX9_lastHourOf_7 : decode cX9_lastHourOf 7 = .ok (.invokevirtual 139, 3) := by decide +kernel
theorem dX9_lastHourOf_10 : decode cX9_lastHourOf 10 = .ok (.aload_n 0, 1) := by decide +kernel
theorem dX9_lastHourOf_11 : decode cX9_lastHourOf 11 = .ok (.getfield 35, 3) := by decide +kernel
theorem dX9_lastHourOf_14 : decode cX9_lastHourOf 14 = .ok (.getfield 104, 3) := by decide +kernel
theorem dX9_lastHourOf_17 : decode cX9_lastHourOf 17 = .ok (.getfield 142, 3) := by decide +kernel
theorem dX9_lastHourOf_20 : decode cX9_lastHourOf 20 = .ok (.iload_n 1, 1) := by decide +kernel
theorem dX9_lastHourOf_21 : decode cX9_lastHourOf 21 = .ok (.invokevirtual 125, 3) := by decide +kernel
theorem dX9_lastHourOf_24 : decode cX9_lastHourOf 24 = .ok (.ireturn, 1) := by decide +kernel
theorem dX9_areContrary_0 : decode cX9_areContrary 0 = .ok (.aload_n 0, 1) := by decide +kernel
theorem dX9_areContrary_1 : decode cX9_areContrary 1 = .ok (.iload_n 1, 1) := by decide +kernel
theorem dX9_areContrary_2 : decode cX9_areContrary 2 = .ok (.invokevirtual 119, 3) := by decide +kernel
theorem dX9_areContrary_5 : decode cX9_areContrary 5 = .ok (.aload_n 0, 1) := by decide +kernel
theorem dX9_areContrary_6 : decode cX9_areContrary 6 = .ok (.iload_n 2, 1) := by decide +kernel
theorem dX9_areContrary_7 : decode cX9_areContrary 7 = .ok (.invokevirtual 119, 3) := by decide +kernel
theorem dX9_areContrary_10 : decode cX9_areContrary 10 = .ok (.aload_n 0, 1) := by decide +kernel
theorem dX9_areContrary_11 : decode cX9_areContrary 11 = .ok (.getfield 35, 3) := by decide +kernel
theorem dX9_areContrary_14 : decode cX9_areContrary 14 = .ok (.getfield 104, 3) := by decide +kernel
theorem dX9_areContrary_17 : decode cX9_areContrary 17 = .ok (.iload_n 1, 1) := by decide +kernel
theorem dX9_areContrary_18 : decode cX9_areContrary 18 = .ok (.iload_n 2, 1) := by decide +kernel
theorem dX9_areContrary_19 : decode cX9_areContrary 19 = .ok (.invokevirtual 145, 3) := by decide +kernel
theorem dX9_areContrary_22 : decode cX9_areContrary 22 = .ok (.ireturn, 1) := by decide +kernel
theorem dX9_needClaim_0 : decode cX9_needClaim 0 = .ok (.iload_n 1, 1) := by decide +kernel
theorem dX9_needClaim_1 : decode cX9_needClaim 1 = .ok (.ifCond .lt 17, 3) := by decide +kernel
theorem dX9_needClaim_4 : decode cX9_needClaim 4 = .ok (.iload_n 1, 1) := by decide +kernel
theorem dX9_needClaim_5 : decode cX9_needClaim 5 = .ok (.aload_n 0, 1) := by decide +kernel
theorem dX9_needClaim_6 : decode cX9_needClaim 6 = .ok (.getfield 35, 3) := by decide +kernel
theorem dX9_needClaim_9 : decode cX9_needClaim 9 = .ok (.getfield 104, 3) := by decide +kernel
theorem dX9_needClaim_12 : decode cX9_needClaim 12 = .ok (.getfield 108, 3) := by decide +kernel
theorem dX9_needClaim_15 : decode cX9_needClaim 15 = .ok (.if_icmp .lt 13, 3) := by decide +kernel
theorem dX9_needClaim_18 : decode cX9_needClaim 18 = .ok (.new 149, 3) := by decide +kernel
theorem dX9_needClaim_21 : decode cX9_needClaim 21 = .ok (.dup, 1) := by decide +kernel
theorem dX9_needClaim_22 : decode cX9_needClaim 22 = .ok (.ldc 151, 2) := by decide +kernel
theorem dX9_needClaim_24 : decode cX9_needClaim 24 = .ok (.invokespecial 153, 3) := by decide +kernel
theorem dX9_needClaim_27 : decode cX9_needClaim 27 = .ok (.athrow, 1) := by decide +kernel
theorem dX9_needClaim_28 : decode cX9_needClaim 28 = .ok (.return_, 1) := by decide +kernel
theorem dX9_needHours_0 : decode cX9_needHours 0 = .ok (.aload_n 0, 1) := by decide +kernel
theorem dX9_needHours_1 : decode cX9_needHours 1 = .ok (.getfield 35, 3) := by decide +kernel
theorem dX9_needHours_4 : decode cX9_needHours 4 = .ok (.getfield 104, 3) := by decide +kernel
theorem dX9_needHours_7 : decode cX9_needHours 7 = .ok (.getfield 128, 3) := by decide +kernel
theorem dX9_needHours_10 : decode cX9_needHours 10 = .ok (.iload_n 1, 1) := by decide +kernel
theorem dX9_needHours_11 : decode cX9_needHours 11 = .ok (.invokevirtual 125, 3) := by decide +kernel
theorem dX9_needHours_14 : decode cX9_needHours 14 = .ok (.ifCond .eq 13, 3) := by decide +kernel
theorem dX9_needHours_17 : decode cX9_needHours 17 = .ok (.new 62, 3) := by decide +kernel
theorem dX9_needHours_20 : decode cX9_needHours 20 = .ok (.dup, 1) := by decide +kernel
theorem dX9_needHours_21 : decode cX9_needHours 21 = .ok (.ldc 154, 2) := by decide +kernel
theorem dX9_needHours_23 : decode cX9_needHours 23 = .ok (.invokespecial 66, 3) := by decide +kernel
theorem dX9_needHours_26 : decode cX9_needHours 26 = .ok (.athrow, 1) := by decide +kernel
theorem dX9_needHours_27 : decode cX9_needHours 27 = .ok (.return_, 1) := by decide +kernel
theorem dX9_claimsOf_0 : decode cX9_claimsOf 0 = .ok (.aload_n 0, 1) := by decide +kernel
theorem dX9_claimsOf_1 : decode cX9_claimsOf 1 = .ok (.iload_n 1, 1) := by decide +kernel
theorem dX9_claimsOf_2 : decode cX9_claimsOf 2 = .ok (.invokevirtual 156, 3) := by decide +kernel
theorem dX9_claimsOf_5 : decode cX9_claimsOf 5 = .ok (.aload_n 0, 1) := by decide +kernel
theorem dX9_claimsOf_6 : decode cX9_claimsOf 6 = .ok (.getfield 35, 3) := by decide +kernel
theorem dX9_claimsOf_9 : decode cX9_claimsOf 9 = .ok (.getfield 104, 3) := by decide +kernel
theorem dX9_claimsOf_12 : decode cX9_claimsOf 12 = .ok (.iload_n 1, 1) := by decide +kernel
theorem dX9_claimsOf_13 : decode cX9_claimsOf 13 = .ok (.invokevirtual 159, 3) := by decide +kernel
theorem dX9_claimsOf_16 : decode cX9_claimsOf 16 = .ok (.ireturn, 1) := by decide +kernel
theorem dX9_isDoubted_0 : decode cX9_isDoubted 0 = .ok (.aload_n 0, 1) := by decide +kernel
theorem dX9_isDoubted_1 : decode cX9_isDoubted 1 = .ok (.iload_n 1, 1) := by decide +kernel
theorem dX9_isDoubted_2 : decode cX9_isDoubted 2 = .ok (.invokevirtual 156, 3) := by decide +kernel
theorem dX9_isDoubted_5 : decode cX9_isDoubted 5 = .ok (.aload_n 0, 1) := by decide +kernel
theorem dX9_isDoubted_6 : decode cX9_isDoubted 6 = .ok (.getfield 48, 3) := by decide +kernel
theorem dX9_isDoubted_9 : decode cX9_isDoubted 9 = .ok (.getfield 162, 3) := by decide +kernel
theorem dX9_isDoubted_12 : decode cX9_isDoubted 12 = .ok (.iload_n 1, 1) := by decide +kernel
theorem dX9_isDoubted_13 : decode cX9_isDoubted 13 = .ok (.invokestatic 165, 3) := by decide +kernel
theorem dX9_isDoubted_16 : decode cX9_isDoubted 16 = .ok (.ireturn, 1) := by decide +kernel
theorem dX9_doContradict_0 : decode cX9_doContradict 0 = .ok (.aload_n 0, 1) := by decide +kernel
theorem dX9_doContradict_1 : decode cX9_doContradict 1 = .ok (.iload_n 1, 1) := by decide +kernel
theorem dX9_doContradict_2 : decode cX9_doContradict 2 = .ok (.invokevirtual 156, 3) := by decide +kernel
theorem dX9_doContradict_5 : decode cX9_doContradict 5 = .ok (.aload_n 0, 1) := by decide +kernel
theorem dX9_doContradict_6 : decode cX9_doContradict 6 = .ok (.iload_n 2, 1) := by decide +kernel
theorem dX9_doContradict_7 : decode cX9_doContradict 7 = .ok (.invokevirtual 156, 3) := by decide +kernel
theorem dX9_doContradict_10 : decode cX9_doContradict 10 = .ok (.aload_n 0, 1) := by decide +kernel
theorem dX9_doContradict_11 : decode cX9_doContradict 11 = .ok (.getfield 39, 3) := by decide +kernel
theorem dX9_doContradict_14 : decode cX9_doContradict 14 = .ok (.iload_n 1, 1) := by decide +kernel
theorem dX9_doContradict_15 : decode cX9_doContradict 15 = .ok (.iload_n 2, 1) := by decide +kernel
theorem dX9_doContradict_16 : decode cX9_doContradict 16 = .ok (.aload_n 0, 1) := by decide +kernel
theorem dX9_doContradict_17 : decode cX9_doContradict 17 = .ok (.getfield 48, 3) := by decide +kernel
theorem dX9_doContradict_20 : decode cX9_doContradict 20 = .ok (.getfield 162, 3) := by decide +kernel
theorem dX9_doContradict_23 : decode cX9_doContradict 23 = .ok (.invokevirtual 168, 3) := by decide +kernel
theorem dX9_doContradict_26 : decode cX9_doContradict 26 = .ok (.ireturn, 1) := by decide +kernel
theorem dX9_contraryPairs_0 : decode cX9_contraryPairs 0 = .ok (.aload_n 0, 1) := by decide +kernel
theorem dX9_contraryPairs_1 : decode cX9_contraryPairs 1 = .ok (.iload_n 1, 1) := by decide +kernel
theorem dX9_contraryPairs_2 : decode cX9_contraryPairs 2 = .ok (.invokevirtual 156, 3) := by decide +kernel
theorem dX9_contraryPairs_5 : decode cX9_contraryPairs 5 = .ok (.aload_n 0, 1) := by decide +kernel
theorem dX9_contraryPairs_6 : decode cX9_contraryPairs 6 = .ok (.iload_n 2, 1) := by decide +kernel
theorem dX9_contraryPairs_7 : decode cX9_contraryPairs 7 = .ok (.invokevirtual 156, 3) := by decide +kernel
theorem dX9_contraryPairs_10 : decode cX9_contraryPairs 10 = .ok (.aload_n 0, 1) := by decide +kernel
theorem dX9_contraryPairs_11 : decode cX9_contraryPairs 11 = .ok (.getfield 35, 3) := by decide +kernel
theorem dX9_contraryPairs_14 : decode cX9_contraryPairs 14 = .ok (.getfield 104, 3) := by decide +kernel
theorem dX9_contraryPairs_17 : decode cX9_contraryPairs 17 = .ok (.iload_n 1, 1) := by decide +kernel
theorem dX9_contraryPairs_18 : decode cX9_contraryPairs 18 = .ok (.iload_n 2, 1) := by decide +kernel
theorem dX9_contraryPairs_19 : decode cX9_contraryPairs 19 = .ok (.invokevirtual 172, 3) := by decide +kernel
theorem dX9_contraryPairs_22 : decode cX9_contraryPairs 22 = .ok (.ireturn, 1) := by decide +kernel
theorem dX9_contradictions_0 : decode cX9_contradictions 0 = .ok (.aload_n 0, 1) := by decide +kernel
theorem dX9_contradictions_1 : decode cX9_contradictions 1 = .ok (.getfield 39, 3) := by decide +kernel
theorem dX9_contradictions_4 : decode cX9_contradictions 4 = .ok (.aload_n 0, 1) := by decide +kernel
theorem dX9_contradictions_5 : decode cX9_contradictions 5 = .ok (.getfield 48, 3) := by decide +kernel
theorem dX9_contradictions_8 : decode cX9_contradictions 8 = .ok (.getfield 162, 3) := by decide +kernel
theorem dX9_contradictions_11 : decode cX9_contradictions 11 = .ok (.invokevirtual 176, 3) := by decide +kernel
theorem dX9_contradictions_14 : decode cX9_contradictions 14 = .ok (.ireturn, 1) := by decide +kernel
theorem dX9_liars_0 : decode cX9_liars 0 = .ok (.aload_n 0, 1) := by decide +kernel
theorem dX9_liars_1 : decode cX9_liars 1 = .ok (.getfield 39, 3) := by decide +kernel
theorem dX9_liars_4 : decode cX9_liars 4 = .ok (.aload_n 0, 1) := by decide +kernel
theorem dX9_liars_5 : decode cX9_liars 5 = .ok (.getfield 48, 3) := by decide +kernel
theorem dX9_liars_8 : decode cX9_liars 8 = .ok (.getfield 162, 3) := by decide +kernel
theorem dX9_liars_11 : decode cX9_liars 11 = .ok (.invokevirtual 179, 3) := by decide +kernel
theorem dX9_liars_14 : decode cX9_liars 14 = .ok (.invokestatic 182, 3) := by decide +kernel
theorem dX9_liars_17 : decode cX9_liars 17 = .ok (.ireturn, 1) := by decide +kernel
theorem dX9_smallestSets_0 : decode cX9_smallestSets 0 = .ok (.aload_n 0, 1) := by decide +kernel
theorem dX9_smallestSets_1 : decode cX9_smallestSets 1 = .ok (.getfield 39, 3) := by decide +kernel
theorem dX9_smallestSets_4 : decode cX9_smallestSets 4 = .ok (.aload_n 0, 1) := by decide +kernel
theorem dX9_smallestSets_5 : decode cX9_smallestSets 5 = .ok (.getfield 48, 3) := by decide +kernel
theorem dX9_smallestSets_8 : decode cX9_smallestSets 8 = .ok (.getfield 162, 3) := by decide +kernel
theorem dX9_smallestSets_11 : decode cX9_smallestSets 11 = .ok (.invokevirtual 187, 3) := by decide +kernel
theorem dX9_smallestSets_14 : decode cX9_smallestSets 14 = .ok (.ireturn, 1) := by decide +kernel
theorem dX9_isLiar_0 : decode cX9_isLiar 0 = .ok (.aload_n 0, 1) := by decide +kernel
theorem dX9_isLiar_1 : decode cX9_isLiar 1 = .ok (.iload_n 1, 1) := by decide +kernel
theorem dX9_isLiar_2 : decode cX9_isLiar 2 = .ok (.invokevirtual 156, 3) := by decide +kernel
theorem dX9_isLiar_5 : decode cX9_isLiar 5 = .ok (.aload_n 0, 1) := by decide +kernel
theorem dX9_isLiar_6 : decode cX9_isLiar 6 = .ok (.getfield 39, 3) := by decide +kernel
theorem dX9_isLiar_9 : decode cX9_isLiar 9 = .ok (.aload_n 0, 1) := by decide +kernel
theorem dX9_isLiar_10 : decode cX9_isLiar 10 = .ok (.getfield 48, 3) := by decide +kernel
theorem dX9_isLiar_13 : decode cX9_isLiar 13 = .ok (.getfield 162, 3) := by decide +kernel
theorem dX9_isLiar_16 : decode cX9_isLiar 16 = .ok (.invokevirtual 179, 3) := by decide +kernel
theorem dX9_isLiar_19 : decode cX9_isLiar 19 = .ok (.iload_n 1, 1) := by decide +kernel
theorem dX9_isLiar_20 : decode cX9_isLiar 20 = .ok (.invokestatic 165, 3) := by decide +kernel
theorem dX9_isLiar_23 : decode cX9_isLiar 23 = .ok (.ireturn, 1) := by decide +kernel
theorem dX9_needTeller_0 : decode cX9_needTeller 0 = .ok (.iload_n 1, 1) := by decide +kernel
theorem dX9_needTeller_1 : decode cX9_needTeller 1 = .ok (.ifCond .lt 14, 3) := by decide +kernel
theorem dX9_needTeller_4 : decode cX9_needTeller 4 = .ok (.iload_n 1, 1) := by decide +kernel
theorem dX9_needTeller_5 : decode cX9_needTeller 5 = .ok (.aload_n 0, 1) := by decide +kernel
theorem dX9_needTeller_6 : decode cX9_needTeller 6 = .ok (.getfield 35, 3) := by decide +kernel
theorem dX9_needTeller_9 : decode cX9_needTeller 9 = .ok (.getfield 101, 3) := by decide +kernel
theorem dX9_needTeller_12 : decode cX9_needTeller 12 = .ok (.if_icmp .lt 13, 3) := by decide +kernel
theorem dX9_needTeller_15 : decode cX9_needTeller 15 = .ok (.new 149, 3) := by decide +kernel
theorem dX9_needTeller_18 : decode cX9_needTeller 18 = .ok (.dup, 1) := by decide +kernel
theorem dX9_needTeller_19 : decode cX9_needTeller 19 = .ok (.ldc 190, 2) := by decide +kernel
theorem dX9_needTeller_21 : decode cX9_needTeller 21 = .ok (.invokespecial 153, 3) := by decide +kernel
theorem dX9_needTeller_24 : decode cX9_needTeller 24 = .ok (.athrow, 1) := by decide +kernel
theorem dX9_needTeller_25 : decode cX9_needTeller 25 = .ok (.return_, 1) := by decide +kernel
theorem dX9_isAgreed_0 : decode cX9_isAgreed 0 = .ok (.aload_n 0, 1) := by decide +kernel
theorem dX9_isAgreed_1 : decode cX9_isAgreed 1 = .ok (.iload_n 1, 1) := by decide +kernel
theorem dX9_isAgreed_2 : decode cX9_isAgreed 2 = .ok (.invokevirtual 192, 3) := by decide +kernel
theorem dX9_isAgreed_5 : decode cX9_isAgreed 5 = .ok (.aload_n 0, 1) := by decide +kernel
theorem dX9_isAgreed_6 : decode cX9_isAgreed 6 = .ok (.getfield 39, 3) := by decide +kernel
theorem dX9_isAgreed_9 : decode cX9_isAgreed 9 = .ok (.iload_n 1, 1) := by decide +kernel
theorem dX9_isAgreed_10 : decode cX9_isAgreed 10 = .ok (.aload_n 0, 1) := by decide +kernel
theorem dX9_isAgreed_11 : decode cX9_isAgreed 11 = .ok (.getfield 48, 3) := by decide +kernel
theorem dX9_isAgreed_14 : decode cX9_isAgreed 14 = .ok (.getfield 162, 3) := by decide +kernel
theorem dX9_isAgreed_17 : decode cX9_isAgreed 17 = .ok (.invokevirtual 195, 3) := by decide +kernel
theorem dX9_isAgreed_20 : decode cX9_isAgreed 20 = .ok (.ifCond .le 7, 3) := by decide +kernel
theorem dX9_isAgreed_23 : decode cX9_isAgreed 23 = .ok (.iconst 1, 1) := by decide +kernel
theorem dX9_isAgreed_24 : decode cX9_isAgreed 24 = .ok (.goto 4, 3) := by decide +kernel
theorem dX9_isAgreed_27 : decode cX9_isAgreed 27 = .ok (.iconst 0, 1) := by decide +kernel
theorem dX9_isAgreed_28 : decode cX9_isAgreed 28 = .ok (.ireturn, 1) := by decide +kernel
theorem dX9_windowFrom_0 : decode cX9_windowFrom 0 = .ok (.aload_n 0, 1) := by decide +kernel
theorem dX9_windowFrom_1 : decode cX9_windowFrom 1 = .ok (.iload_n 1, 1) := by decide +kernel
theorem dX9_windowFrom_2 : decode cX9_windowFrom 2 = .ok (.invokevirtual 192, 3) := by decide +kernel
theorem dX9_windowFrom_5 : decode cX9_windowFrom 5 = .ok (.aload_n 0, 1) := by decide +kernel
theorem dX9_windowFrom_6 : decode cX9_windowFrom 6 = .ok (.iload_n 1, 1) := by decide +kernel
theorem dX9_windowFrom_7 : decode cX9_windowFrom 7 = .ok (.invokevirtual 198, 3) := by decide +kernel
theorem dX9_windowFrom_10 : decode cX9_windowFrom 10 = .ok (.aload_n 0, 1) := by decide +kernel
theorem dX9_windowFrom_11 : decode cX9_windowFrom 11 = .ok (.getfield 39, 3) := by decide +kernel
theorem dX9_windowFrom_14 : decode cX9_windowFrom 14 = .ok (.iload_n 1, 1) := by decide +kernel
theorem dX9_windowFrom_15 : decode cX9_windowFrom 15 = .ok (.aload_n 0, 1) := by decide +kernel
theorem dX9_windowFrom_16 : decode cX9_windowFrom 16 = .ok (.getfield 48, 3) := by decide +kernel
theorem dX9_windowFrom_19 : decode cX9_windowFrom 19 = .ok (.getfield 162, 3) := by decide +kernel
theorem dX9_windowFrom_22 : decode cX9_windowFrom 22 = .ok (.invokevirtual 201, 3) := by decide +kernel
theorem dX9_windowFrom_25 : decode cX9_windowFrom 25 = .ok (.ireturn, 1) := by decide +kernel
theorem dX9_windowTo_0 : decode cX9_windowTo 0 = .ok (.aload_n 0, 1) := by decide +kernel
theorem dX9_windowTo_1 : decode cX9_windowTo 1 = .ok (.iload_n 1, 1) := by decide +kernel
theorem dX9_windowTo_2 : decode cX9_windowTo 2 = .ok (.invokevirtual 192, 3) := by decide +kernel
theorem dX9_windowTo_5 : decode cX9_windowTo 5 = .ok (.aload_n 0, 1) := by decide +kernel
theorem dX9_windowTo_6 : decode cX9_windowTo 6 = .ok (.iload_n 1, 1) := by decide +kernel
theorem dX9_windowTo_7 : decode cX9_windowTo 7 = .ok (.invokevirtual 198, 3) := by decide +kernel
theorem dX9_windowTo_10 : decode cX9_windowTo 10 = .ok (.aload_n 0, 1) := by decide +kernel
theorem dX9_windowTo_11 : decode cX9_windowTo 11 = .ok (.getfield 39, 3) := by decide +kernel
theorem dX9_windowTo_14 : decode cX9_windowTo 14 = .ok (.iload_n 1, 1) := by decide +kernel
theorem dX9_windowTo_15 : decode cX9_windowTo 15 = .ok (.aload_n 0, 1) := by decide +kernel
theorem dX9_windowTo_16 : decode cX9_windowTo 16 = .ok (.getfield 48, 3) := by decide +kernel
theorem dX9_windowTo_19 : decode cX9_windowTo 19 = .ok (.getfield 162, 3) := by decide +kernel
theorem dX9_windowTo_22 : decode cX9_windowTo 22 = .ok (.invokevirtual 204, 3) := by decide +kernel
theorem dX9_windowTo_25 : decode cX9_windowTo 25 = .ok (.ireturn, 1) := by decide +kernel
theorem dX9_hasOrder_0 : decode cX9_hasOrder 0 = .ok (.aload_n 0, 1) := by decide +kernel
theorem dX9_hasOrder_1 : decode cX9_hasOrder 1 = .ok (.getfield 39, 3) := by decide +kernel
theorem dX9_hasOrder_4 : decode cX9_hasOrder 4 = .ok (.aload_n 0, 1) := by decide +kernel
theorem dX9_hasOrder_5 : decode cX9_hasOrder 5 = .ok (.getfield 48, 3) := by decide +kernel
theorem dX9_hasOrder_8 : decode cX9_hasOrder 8 = .ok (.getfield 162, 3) := by decide +kernel
theorem dX9_hasOrder_11 : decode cX9_hasOrder 11 = .ok (.invokevirtual 207, 3) := by decide +kernel
theorem dX9_hasOrder_14 : decode cX9_hasOrder 14 = .ok (.ireturn, 1) := by decide +kernel
theorem dX9_eventAt_0 : decode cX9_eventAt 0 = .ok (.iload_n 1, 1) := by decide +kernel
theorem dX9_eventAt_1 : decode cX9_eventAt 1 = .ok (.ifCond .lt 14, 3) := by decide +kernel
theorem dX9_eventAt_4 : decode cX9_eventAt 4 = .ok (.iload_n 1, 1) := by decide +kernel
theorem dX9_eventAt_5 : decode cX9_eventAt 5 = .ok (.aload_n 0, 1) := by decide +kernel
theorem dX9_eventAt_6 : decode cX9_eventAt 6 = .ok (.getfield 35, 3) := by decide +kernel
theorem dX9_eventAt_9 : decode cX9_eventAt 9 = .ok (.getfield 98, 3) := by decide +kernel
theorem dX9_eventAt_12 : decode cX9_eventAt 12 = .ok (.if_icmp .lt 13, 3) := by decide +kernel
theorem dX9_eventAt_15 : decode cX9_eventAt 15 = .ok (.new 149, 3) := by decide +kernel
theorem dX9_eventAt_18 : decode cX9_eventAt 18 = .ok (.dup, 1) := by decide +kernel
theorem dX9_eventAt_19 : decode cX9_eventAt 19 = .ok (.ldc 211, 2) := by decide +kernel
theorem dX9_eventAt_21 : decode cX9_eventAt 21 = .ok (.invokespecial 153, 3) := by decide +kernel
theorem dX9_eventAt_24 : decode cX9_eventAt 24 = .ok (.athrow, 1) := by decide +kernel
theorem dX9_eventAt_25 : decode cX9_eventAt 25 = .ok (.aload_n 0, 1) := by decide +kernel
theorem dX9_eventAt_26 : decode cX9_eventAt 26 = .ok (.getfield 39, 3) := by decide +kernel
theorem dX9_eventAt_29 : decode cX9_eventAt 29 = .ok (.aload_n 0, 1) := by decide +kernel
theorem dX9_eventAt_30 : decode cX9_eventAt 30 = .ok (.getfield 48, 3) := by decide +kernel
theorem dX9_eventAt_33 : decode cX9_eventAt 33 = .ok (.getfield 162, 3) := by decide +kernel
theorem dX9_eventAt_36 : decode cX9_eventAt 36 = .ok (.invokevirtual 207, 3) := by decide +kernel
theorem dX9_eventAt_39 : decode cX9_eventAt 39 = .ok (.ifCond .ne 13, 3) := by decide +kernel
theorem dX9_eventAt_42 : decode cX9_eventAt 42 = .ok (.new 62, 3) := by decide +kernel
theorem dX9_eventAt_45 : decode cX9_eventAt 45 = .ok (.dup, 1) := by decide +kernel
theorem dX9_eventAt_46 : decode cX9_eventAt 46 = .ok (.ldc 213, 2) := by decide +kernel
theorem dX9_eventAt_48 : decode cX9_eventAt 48 = .ok (.invokespecial 66, 3) := by decide +kernel
theorem dX9_eventAt_51 : decode cX9_eventAt 51 = .ok (.athrow, 1) := by decide +kernel
theorem dX9_eventAt_52 : decode cX9_eventAt 52 = .ok (.aload_n 0, 1) := by decide +kernel
theorem dX9_eventAt_53 : decode cX9_eventAt 53 = .ok (.getfield 39, 3) := by decide +kernel
theorem dX9_eventAt_56 : decode cX9_eventAt 56 = .ok (.getfield 215, 3) := by decide +kernel
theorem dX9_eventAt_59 : decode cX9_eventAt 59 = .ok (.iload_n 1, 1) := by decide +kernel
theorem dX9_eventAt_60 : decode cX9_eventAt 60 = .ok (.invokevirtual 125, 3) := by decide +kernel
theorem dX9_eventAt_63 : decode cX9_eventAt 63 = .ok (.ireturn, 1) := by decide +kernel
theorem dX9_needEvent_0 : decode cX9_needEvent 0 = .ok (.iload_n 1, 1) := by decide +kernel
theorem dX9_needEvent_1 : decode cX9_needEvent 1 = .ok (.ifCond .lt 14, 3) := by decide +kernel
theorem dX9_needEvent_4 : decode cX9_needEvent 4 = .ok (.iload_n 1, 1) := by decide +kernel
theorem dX9_needEvent_5 : decode cX9_needEvent 5 = .ok (.aload_n 0, 1) := by decide +kernel
theorem dX9_needEvent_6 : decode cX9_needEvent 6 = .ok (.getfield 35, 3) := by decide +kernel
theorem dX9_needEvent_9 : decode cX9_needEvent 9 = .ok (.getfield 98, 3) := by decide +kernel
theorem dX9_needEvent_12 : decode cX9_needEvent 12 = .ok (.if_icmp .lt 13, 3) := by decide +kernel
theorem dX9_needEvent_15 : decode cX9_needEvent 15 = .ok (.new 149, 3) := by decide +kernel
theorem dX9_needEvent_18 : decode cX9_needEvent 18 = .ok (.dup, 1) := by decide +kernel
theorem dX9_needEvent_19 : decode cX9_needEvent 19 = .ok (.ldc 218, 2) := by decide +kernel
theorem dX9_needEvent_21 : decode cX9_needEvent 21 = .ok (.invokespecial 153, 3) := by decide +kernel
theorem dX9_needEvent_24 : decode cX9_needEvent 24 = .ok (.athrow, 1) := by decide +kernel
theorem dX9_needEvent_25 : decode cX9_needEvent 25 = .ok (.return_, 1) := by decide +kernel
theorem dX9_needWindow_0 : decode cX9_needWindow 0 = .ok (.aload_n 0, 1) := by decide +kernel
theorem dX9_needWindow_1 : decode cX9_needWindow 1 = .ok (.getfield 39, 3) := by decide +kernel
theorem dX9_needWindow_4 : decode cX9_needWindow 4 = .ok (.iload_n 1, 1) := by decide +kernel
theorem dX9_needWindow_5 : decode cX9_needWindow 5 = .ok (.aload_n 0, 1) := by decide +kernel
theorem dX9_needWindow_6 : decode cX9_needWindow 6 = .ok (.getfield 48, 3) := by decide +kernel
theorem dX9_needWindow_9 : decode cX9_needWindow 9 = .ok (.getfield 162, 3) := by decide +kernel
theorem dX9_needWindow_12 : decode cX9_needWindow 12 = .ok (.invokevirtual 195, 3) := by decide +kernel
theorem dX9_needWindow_15 : decode cX9_needWindow 15 = .ok (.ifCond .ne 13, 3) := by decide +kernel
theorem dX9_needWindow_18 : decode cX9_needWindow 18 = .ok (.new 62, 3) := by decide +kernel
theorem dX9_needWindow_21 : decode cX9_needWindow 21 = .ok (.dup, 1) := by decide +kernel
theorem dX9_needWindow_22 : decode cX9_needWindow 22 = .ok (.ldc 220, 2) := by decide +kernel
theorem dX9_needWindow_24 : decode cX9_needWindow 24 = .ok (.invokespecial 66, 3) := by decide +kernel
theorem dX9_needWindow_27 : decode cX9_needWindow 27 = .ok (.athrow, 1) := by decide +kernel
theorem dX9_needWindow_28 : decode cX9_needWindow 28 = .ok (.return_, 1) := by decide +kernel
theorem dX9_claimHours_0 : decode cX9_claimHours 0 = .ok (.aload_n 0, 1) := by decide +kernel
theorem dX9_claimHours_1 : decode cX9_claimHours 1 = .ok (.iload_n 1, 1) := by decide +kernel
theorem dX9_claimHours_2 : decode cX9_claimHours 2 = .ok (.invokevirtual 156, 3) := by decide +kernel
theorem dX9_claimHours_5 : decode cX9_claimHours 5 = .ok (.aload_n 0, 1) := by decide +kernel
theorem dX9_claimHours_6 : decode cX9_claimHours 6 = .ok (.iload_n 2, 1) := by decide +kernel
theorem dX9_claimHours_7 : decode cX9_claimHours 7 = .ok (.invokevirtual 192, 3) := by decide +kernel
theorem dX9_claimHours_10 : decode cX9_claimHours 10 = .ok (.iload_n 3, 1) := by decide +kernel
theorem dX9_claimHours_11 : decode cX9_claimHours 11 = .ok (.ifCond .lt 16, 3) := by decide +kernel
theorem dX9_claimHours_14 : decode cX9_claimHours 14 = .ok (.iload 4, 2) := by decide +kernel
theorem dX9_claimHours_16 : decode cX9_claimHours 16 = .ok (.bipush 99, 2) := by decide +kernel
theorem dX9_claimHours_18 : decode cX9_claimHours 18 = .ok (.if_icmp .gt 9, 3) := by decide +kernel
theorem dX9_claimHours_21 : decode cX9_claimHours 21 = .ok (.iload 4, 2) := by decide +kernel
theorem dX9_claimHours_23 : decode cX9_claimHours 23 = .ok (.iload_n 3, 1) := by decide +kernel
theorem dX9_claimHours_24 : decode cX9_claimHours 24 = .ok (.if_icmp .ge 13, 3) := by decide +kernel
theorem dX9_claimHours_27 : decode cX9_claimHours 27 = .ok (.new 76, 3) := by decide +kernel
theorem dX9_claimHours_30 : decode cX9_claimHours 30 = .ok (.dup, 1) := by decide +kernel
theorem dX9_claimHours_31 : decode cX9_claimHours 31 = .ok (.ldc 222, 2) := by decide +kernel
theorem dX9_claimHours_33 : decode cX9_claimHours 33 = .ok (.invokespecial 80, 3) := by decide +kernel
theorem dX9_claimHours_36 : decode cX9_claimHours 36 = .ok (.athrow, 1) := by decide +kernel
theorem dX9_claimHours_37 : decode cX9_claimHours 37 = .ok (.aload_n 0, 1) := by decide +kernel
theorem dX9_claimHours_38 : decode cX9_claimHours 38 = .ok (.iload_n 1, 1) := by decide +kernel
theorem dX9_claimHours_39 : decode cX9_claimHours 39 = .ok (.iconst 0, 1) := by decide +kernel
theorem dX9_claimHours_40 : decode cX9_claimHours 40 = .ok (.iload_n 2, 1) := by decide +kernel
theorem dX9_claimHours_41 : decode cX9_claimHours 41 = .ok (.iload_n 3, 1) := by decide +kernel
theorem dX9_claimHours_42 : decode cX9_claimHours 42 = .ok (.iload 4, 2) := by decide +kernel
theorem dX9_claimHours_44 : decode cX9_claimHours 44 = .ok (.invokevirtual 224, 3) := by decide +kernel
theorem dX9_claimHours_47 : decode cX9_claimHours 47 = .ok (.ireturn, 1) := by decide +kernel
theorem dX9_claimBefore_0 : decode cX9_claimBefore 0 = .ok (.aload_n 0, 1) := by decide +kernel
theorem dX9_claimBefore_1 : decode cX9_claimBefore 1 = .ok (.iload_n 1, 1) := by decide +kernel
theorem dX9_claimBefore_2 : decode cX9_claimBefore 2 = .ok (.invokevirtual 156, 3) := by decide +kernel
theorem dX9_claimBefore_5 : decode cX9_claimBefore 5 = .ok (.aload_n 0, 1) := by decide +kernel
theorem dX9_claimBefore_6 : decode cX9_claimBefore 6 = .ok (.iload_n 2, 1) := by decide +kernel
theorem dX9_claimBefore_7 : decode cX9_claimBefore 7 = .ok (.iload_n 3, 1) := by decide +kernel
theorem dX9_claimBefore_8 : decode cX9_claimBefore 8 = .ok (.invokevirtual 228, 3) := by decide +kernel
theorem dX9_claimBefore_11 : decode cX9_claimBefore 11 = .ok (.aload_n 0, 1) := by decide +kernel
theorem dX9_claimBefore_12 : decode cX9_claimBefore 12 = .ok (.iload_n 1, 1) := by decide +kernel
theorem dX9_claimBefore_13 : decode cX9_claimBefore 13 = .ok (.iconst 1, 1) := by decide +kernel
theorem dX9_claimBefore_14 : decode cX9_claimBefore 14 = .ok (.iload_n 2, 1) := by decide +kernel
theorem dX9_claimBefore_15 : decode cX9_claimBefore 15 = .ok (.iload_n 3, 1) := by decide +kernel
theorem dX9_claimBefore_16 : decode cX9_claimBefore 16 = .ok (.iconst 0, 1) := by decide +kernel
theorem dX9_claimBefore_17 : decode cX9_claimBefore 17 = .ok (.invokevirtual 224, 3) := by decide +kernel
theorem dX9_claimBefore_20 : decode cX9_claimBefore 20 = .ok (.ireturn, 1) := by decide +kernel
theorem dX9_claimTogether_0 : decode cX9_claimTogether 0 = .ok (.aload_n 0, 1) := by decide +kernel
theorem dX9_claimTogether_1 : decode cX9_claimTogether 1 = .ok (.iload_n 1, 1) := by decide +kernel
theorem dX9_claimTogether_2 : decode cX9_claimTogether 2 = .ok (.invokevirtual 156, 3) := by decide +kernel
theorem dX9_claimTogether_5 : decode cX9_claimTogether 5 = .ok (.aload_n 0, 1) := by decide +kernel
theorem dX9_claimTogether_6 : decode cX9_claimTogether 6 = .ok (.iload_n 2, 1) := by decide +kernel
theorem dX9_claimTogether_7 : decode cX9_claimTogether 7 = .ok (.iload_n 3, 1) := by decide +kernel
theorem dX9_claimTogether_8 : decode cX9_claimTogether 8 = .ok (.invokevirtual 228, 3) := by decide +kernel
theorem dX9_claimTogether_11 : decode cX9_claimTogether 11 = .ok (.aload_n 0, 1) := by decide +kernel
theorem dX9_claimTogether_12 : decode cX9_claimTogether 12 = .ok (.iload_n 1, 1) := by decide +kernel
theorem dX9_claimTogether_13 : decode cX9_claimTogether 13 = .ok (.iconst 2, 1) := by decide +kernel
theorem dX9_claimTogether_14 : decode cX9_claimTogether 14 = .ok (.iload_n 2, 1) := by decide +kernel
theorem dX9_claimTogether_15 : decode cX9_claimTogether 15 = .ok (.iload_n 3, 1) := by decide +kernel
theorem dX9_claimTogether_16 : decode cX9_claimTogether 16 = .ok (.iconst 0, 1) := by decide +kernel
theorem dX9_claimTogether_17 : decode cX9_claimTogether 17 = .ok (.invokevirtual 224, 3) := by decide +kernel
theorem dX9_claimTogether_20 : decode cX9_claimTogether 20 = .ok (.ireturn, 1) := by decide +kernel
theorem dX9_takeBack_0 : decode cX9_takeBack 0 = .ok (.aload_n 0, 1) := by decide +kernel
theorem dX9_takeBack_1 : decode cX9_takeBack 1 = .ok (.iload_n 1, 1) := by decide +kernel
theorem dX9_takeBack_2 : decode cX9_takeBack 2 = .ok (.invokevirtual 119, 3) := by decide +kernel
theorem dX9_takeBack_5 : decode cX9_takeBack 5 = .ok (.aload_n 0, 1) := by decide +kernel
theorem dX9_takeBack_6 : decode cX9_takeBack 6 = .ok (.getfield 35, 3) := by decide +kernel
theorem dX9_takeBack_9 : decode cX9_takeBack 9 = .ok (.getfield 104, 3) := by decide +kernel
theorem dX9_takeBack_12 : decode cX9_takeBack 12 = .ok (.getfield 122, 3) := by decide +kernel
theorem dX9_takeBack_15 : decode cX9_takeBack 15 = .ok (.iload_n 1, 1) := by decide +kernel
theorem dX9_takeBack_16 : decode cX9_takeBack 16 = .ok (.invokevirtual 125, 3) := by decide +kernel
theorem dX9_takeBack_19 : decode cX9_takeBack 19 = .ok (.istore_n 2, 1) := by decide +kernel
theorem dX9_takeBack_20 : decode cX9_takeBack 20 = .ok (.aload_n 0, 1) := by decide +kernel
theorem dX9_takeBack_21 : decode cX9_takeBack 21 = .ok (.getfield 35, 3) := by decide +kernel
theorem dX9_takeBack_24 : decode cX9_takeBack 24 = .ok (.getfield 104, 3) := by decide +kernel
theorem dX9_takeBack_27 : decode cX9_takeBack 27 = .ok (.iload_n 1, 1) := by decide +kernel
theorem dX9_takeBack_28 : decode cX9_takeBack 28 = .ok (.invokevirtual 231, 3) := by decide +kernel
theorem dX9_takeBack_31 : decode cX9_takeBack 31 = .ok (.aload_n 0, 1) := by decide +kernel
theorem dX9_takeBack_32 : decode cX9_takeBack 32 = .ok (.getfield 39, 3) := by decide +kernel
theorem dX9_takeBack_35 : decode cX9_takeBack 35 = .ok (.invokevirtual 92, 3) := by decide +kernel
theorem dX9_takeBack_38 : decode cX9_takeBack 38 = .ok (.iload_n 2, 1) := by decide +kernel
theorem dX9_takeBack_39 : decode cX9_takeBack 39 = .ok (.ireturn, 1) := by decide +kernel
theorem dX9_turnDoubt_0 : decode cX9_turnDoubt 0 = .ok (.aload_n 0, 1) := by decide +kernel
theorem dX9_turnDoubt_1 : decode cX9_turnDoubt 1 = .ok (.iload_n 1, 1) := by decide +kernel
theorem dX9_turnDoubt_2 : decode cX9_turnDoubt 2 = .ok (.invokevirtual 156, 3) := by decide +kernel
theorem dX9_turnDoubt_5 : decode cX9_turnDoubt 5 = .ok (.aload_n 0, 1) := by decide +kernel
theorem dX9_turnDoubt_6 : decode cX9_turnDoubt 6 = .ok (.getfield 48, 3) := by decide +kernel
theorem dX9_turnDoubt_9 : decode cX9_turnDoubt 9 = .ok (.aload_n 0, 1) := by decide +kernel
theorem dX9_turnDoubt_10 : decode cX9_turnDoubt 10 = .ok (.getfield 48, 3) := by decide +kernel
theorem dX9_turnDoubt_13 : decode cX9_turnDoubt 13 = .ok (.getfield 162, 3) := by decide +kernel
theorem dX9_turnDoubt_16 : decode cX9_turnDoubt 16 = .ok (.iconst 1, 1) := by decide +kernel
theorem dX9_turnDoubt_17 : decode cX9_turnDoubt 17 = .ok (.iload_n 1, 1) := by decide +kernel
theorem dX9_turnDoubt_18 : decode cX9_turnDoubt 18 = .ok (.ishl, 1) := by decide +kernel
theorem dX9_turnDoubt_19 : decode cX9_turnDoubt 19 = .ok (.ixor, 1) := by decide +kernel
theorem dX9_turnDoubt_20 : decode cX9_turnDoubt 20 = .ok (.putfield 162, 3) := by decide +kernel
theorem dX9_turnDoubt_23 : decode cX9_turnDoubt 23 = .ok (.aload_n 0, 1) := by decide +kernel
theorem dX9_turnDoubt_24 : decode cX9_turnDoubt 24 = .ok (.getfield 48, 3) := by decide +kernel
theorem dX9_turnDoubt_27 : decode cX9_turnDoubt 27 = .ok (.getfield 162, 3) := by decide +kernel
theorem dX9_turnDoubt_30 : decode cX9_turnDoubt 30 = .ok (.iload_n 1, 1) := by decide +kernel
theorem dX9_turnDoubt_31 : decode cX9_turnDoubt 31 = .ok (.invokestatic 165, 3) := by decide +kernel
theorem dX9_turnDoubt_34 : decode cX9_turnDoubt 34 = .ok (.ireturn, 1) := by decide +kernel
theorem dX9_needTwoEvents_0 : decode cX9_needTwoEvents 0 = .ok (.aload_n 0, 1) := by decide +kernel
theorem dX9_needTwoEvents_1 : decode cX9_needTwoEvents 1 = .ok (.iload_n 1, 1) := by decide +kernel
theorem dX9_needTwoEvents_2 : decode cX9_needTwoEvents 2 = .ok (.invokevirtual 192, 3) := by decide +kernel
theorem dX9_needTwoEvents_5 : decode cX9_needTwoEvents 5 = .ok (.aload_n 0, 1) := by decide +kernel
theorem dX9_needTwoEvents_6 : decode cX9_needTwoEvents 6 = .ok (.iload_n 2, 1) := by decide +kernel
theorem dX9_needTwoEvents_7 : decode cX9_needTwoEvents 7 = .ok (.invokevirtual 192, 3) := by decide +kernel
theorem dX9_needTwoEvents_10 : decode cX9_needTwoEvents 10 = .ok (.iload_n 1, 1) := by decide +kernel
theorem dX9_needTwoEvents_11 : decode cX9_needTwoEvents 11 = .ok (.iload_n 2, 1) := by decide +kernel
theorem dX9_needTwoEvents_12 : decode cX9_needTwoEvents 12 = .ok (.if_icmp .ne 13, 3) := by decide +kernel
theorem dX9_needTwoEvents_15 : decode cX9_needTwoEvents 15 = .ok (.new 76, 3) := by decide +kernel
theorem dX9_needTwoEvents_18 : decode cX9_needTwoEvents 18 = .ok (.dup, 1) := by decide +kernel
theorem dX9_needTwoEvents_19 : decode cX9_needTwoEvents 19 = .ok (.ldc 234, 2) := by decide +kernel
theorem dX9_needTwoEvents_21 : decode cX9_needTwoEvents 21 = .ok (.invokespecial 80, 3) := by decide +kernel
theorem dX9_needTwoEvents_24 : decode cX9_needTwoEvents 24 = .ok (.athrow, 1) := by decide +kernel
theorem dX9_needTwoEvents_25 : decode cX9_needTwoEvents 25 = .ok (.return_, 1) := by decide +kernel
theorem dX9_claimByHand_0 : decode cX9_claimByHand 0 = .ok (.aload_n 0, 1) := by decide +kernel
theorem dX9_claimByHand_1 : decode cX9_claimByHand 1 = .ok (.getfield 35, 3) := by decide +kernel
theorem dX9_claimByHand_4 : decode cX9_claimByHand 4 = .ok (.getfield 104, 3) := by decide +kernel
theorem dX9_claimByHand_7 : decode cX9_claimByHand 7 = .ok (.invokevirtual 236, 3) := by decide +kernel
theorem dX9_claimByHand_10 : decode cX9_claimByHand 10 = .ok (.ifCond .eq 13, 3) := by decide +kernel
theorem dX9_claimByHand_13 : decode cX9_claimByHand 13 = .ok (.new 62, 3) := by decide +kernel
theorem dX9_claimByHand_16 : decode cX9_claimByHand 16 = .ok (.dup, 1) := by decide +kernel
theorem dX9_claimByHand_17 : decode cX9_claimByHand 17 = .ok (.ldc 240, 2) := by decide +kernel
theorem dX9_claimByHand_19 : decode cX9_claimByHand 19 = .ok (.invokespecial 66, 3) := by decide +kernel
theorem dX9_claimByHand_22 : decode cX9_claimByHand 22 = .ok (.athrow, 1) := by decide +kernel
theorem dX9_claimByHand_23 : decode cX9_claimByHand 23 = .ok (.aload_n 0, 1) := by decide +kernel
theorem dX9_claimByHand_24 : decode cX9_claimByHand 24 = .ok (.getfield 35, 3) := by decide +kernel
theorem dX9_claimByHand_27 : decode cX9_claimByHand 27 = .ok (.getfield 104, 3) := by decide +kernel
theorem dX9_claimByHand_30 : decode cX9_claimByHand 30 = .ok (.iload_n 1, 1) := by decide +kernel
theorem dX9_claimByHand_31 : decode cX9_claimByHand 31 = .ok (.iload_n 2, 1) := by decide +kernel
theorem dX9_claimByHand_32 : decode cX9_claimByHand 32 = .ok (.iload_n 3, 1) := by decide +kernel
theorem dX9_claimByHand_33 : decode cX9_claimByHand 33 = .ok (.iload 4, 2) := by decide +kernel
theorem dX9_claimByHand_35 : decode cX9_claimByHand 35 = .ok (.iload 5, 2) := by decide +kernel
theorem dX9_claimByHand_37 : decode cX9_claimByHand 37 = .ok (.invokevirtual 242, 3) := by decide +kernel
theorem dX9_claimByHand_40 : decode cX9_claimByHand 40 = .ok (.aload_n 0, 1) := by decide +kernel
theorem dX9_claimByHand_41 : decode cX9_claimByHand 41 = .ok (.getfield 39, 3) := by decide +kernel
theorem dX9_claimByHand_44 : decode cX9_claimByHand 44 = .ok (.invokevirtual 92, 3) := by decide +kernel
theorem dX9_claimByHand_47 : decode cX9_claimByHand 47 = .ok (.aload_n 0, 1) := by decide +kernel
theorem dX9_claimByHand_48 : decode cX9_claimByHand 48 = .ok (.getfield 35, 3) := by decide +kernel
theorem dX9_claimByHand_51 : decode cX9_claimByHand 51 = .ok (.getfield 104, 3) := by decide +kernel
theorem dX9_claimByHand_54 : decode cX9_claimByHand 54 = .ok (.getfield 108, 3) := by decide +kernel
theorem dX9_claimByHand_57 : decode cX9_claimByHand 57 = .ok (.iconst 1, 1) := by decide +kernel
theorem dX9_claimByHand_58 : decode cX9_claimByHand 58 = .ok (.isub, 1) := by decide +kernel
theorem dX9_claimByHand_59 : decode cX9_claimByHand 59 = .ok (.ireturn, 1) := by decide +kernel
theorem dX9_passEvenings_0 : decode cX9_passEvenings 0 = .ok (.aload_n 0, 1) := by decide +kernel
theorem dX9_passEvenings_1 : decode cX9_passEvenings 1 = .ok (.iload_n 1, 1) := by decide +kernel
theorem dX9_passEvenings_2 : decode cX9_passEvenings 2 = .ok (.invokevirtual 246, 3) := by decide +kernel
theorem dX9_passEvenings_5 : decode cX9_passEvenings 5 = .ok (.aload_n 0, 1) := by decide +kernel
theorem dX9_passEvenings_6 : decode cX9_passEvenings 6 = .ok (.getfield 48, 3) := by decide +kernel
theorem dX9_passEvenings_9 : decode cX9_passEvenings 9 = .ok (.getfield 116, 3) := by decide +kernel
theorem dX9_passEvenings_12 : decode cX9_passEvenings 12 = .ok (.istore_n 2, 1) := by decide +kernel
theorem dX9_passEvenings_13 : decode cX9_passEvenings 13 = .ok (.iconst 0, 1) := by decide +kernel
theorem dX9_passEvenings_14 : decode cX9_passEvenings 14 = .ok (.istore_n 3, 1) := by decide +kernel
theorem dX9_passEvenings_15 : decode cX9_passEvenings 15 = .ok (.iload_n 3, 1) := by decide +kernel
theorem dX9_passEvenings_16 : decode cX9_passEvenings 16 = .ok (.iload_n 1, 1) := by decide +kernel
theorem dX9_passEvenings_17 : decode cX9_passEvenings 17 = .ok (.if_icmp .ge 16, 3) := by decide +kernel
theorem dX9_passEvenings_20 : decode cX9_passEvenings 20 = .ok (.aload_n 0, 1) := by decide +kernel
theorem dX9_passEvenings_21 : decode cX9_passEvenings 21 = .ok (.getfield 48, 3) := by decide +kernel
theorem dX9_passEvenings_24 : decode cX9_passEvenings 24 = .ok (.invokevirtual 249, 3) := by decide +kernel
theorem dX9_passEvenings_27 : decode cX9_passEvenings 27 = .ok (.iinc 3 1, 3) := by decide +kernel
theorem dX9_passEvenings_30 : decode cX9_passEvenings 30 = .ok (.goto (-15), 3) := by decide +kernel
theorem dX9_passEvenings_33 : decode cX9_passEvenings 33 = .ok (.aload_n 0, 1) := by decide +kernel
theorem dX9_passEvenings_34 : decode cX9_passEvenings 34 = .ok (.getfield 48, 3) := by decide +kernel
theorem dX9_passEvenings_37 : decode cX9_passEvenings 37 = .ok (.getfield 116, 3) := by decide +kernel
theorem dX9_passEvenings_40 : decode cX9_passEvenings 40 = .ok (.iload_n 2, 1) := by decide +kernel
theorem dX9_passEvenings_41 : decode cX9_passEvenings 41 = .ok (.isub, 1) := by decide +kernel
theorem dX9_passEvenings_42 : decode cX9_passEvenings 42 = .ok (.ireturn, 1) := by decide +kernel
theorem dX9_liarsAfter_0 : decode cX9_liarsAfter 0 = .ok (.aload_n 0, 1) := by decide +kernel
theorem dX9_liarsAfter_1 : decode cX9_liarsAfter 1 = .ok (.iload_n 1, 1) := by decide +kernel
theorem dX9_liarsAfter_2 : decode cX9_liarsAfter 2 = .ok (.invokevirtual 246, 3) := by decide +kernel
theorem dX9_liarsAfter_5 : decode cX9_liarsAfter 5 = .ok (.aload_n 0, 1) := by decide +kernel
theorem dX9_liarsAfter_6 : decode cX9_liarsAfter 6 = .ok (.getfield 52, 3) := by decide +kernel
theorem dX9_liarsAfter_9 : decode cX9_liarsAfter 9 = .ok (.aload_n 0, 1) := by decide +kernel
theorem dX9_liarsAfter_10 : decode cX9_liarsAfter 10 = .ok (.getfield 48, 3) := by decide +kernel
theorem dX9_liarsAfter_13 : decode cX9_liarsAfter 13 = .ok (.invokevirtual 252, 3) := by decide +kernel
theorem dX9_liarsAfter_16 : decode cX9_liarsAfter 16 = .ok (.iconst 0, 1) := by decide +kernel
theorem dX9_liarsAfter_17 : decode cX9_liarsAfter 17 = .ok (.istore_n 2, 1) := by decide +kernel
theorem dX9_liarsAfter_18 : decode cX9_liarsAfter 18 = .ok (.iload_n 2, 1) := by decide +kernel
theorem dX9_liarsAfter_19 : decode cX9_liarsAfter 19 = .ok (.iload_n 1, 1) := by decide +kernel
theorem dX9_liarsAfter_20 : decode cX9_liarsAfter 20 = .ok (.if_icmp .ge 16, 3) := by decide +kernel
theorem dX9_liarsAfter_23 : decode cX9_liarsAfter 23 = .ok (.aload_n 0, 1) := by decide +kernel
theorem dX9_liarsAfter_24 : decode cX9_liarsAfter 24 = .ok (.getfield 52, 3) := by decide +kernel
theorem dX9_liarsAfter_27 : decode cX9_liarsAfter 27 = .ok (.invokevirtual 249, 3) := by decide +kernel
theorem dX9_liarsAfter_30 : decode cX9_liarsAfter 30 = .ok (.iinc 2 1, 3) := by decide +kernel
theorem dX9_liarsAfter_33 : decode cX9_liarsAfter 33 = .ok (.goto (-15), 3) := by decide +kernel
theorem dX9_liarsAfter_36 : decode cX9_liarsAfter 36 = .ok (.aload_n 0, 1) := by decide +kernel
theorem dX9_liarsAfter_37 : decode cX9_liarsAfter 37 = .ok (.getfield 39, 3) := by decide +kernel
theorem dX9_liarsAfter_40 : decode cX9_liarsAfter 40 = .ok (.aload_n 0, 1) := by decide +kernel
theorem dX9_liarsAfter_41 : decode cX9_liarsAfter 41 = .ok (.getfield 52, 3) := by decide +kernel
theorem dX9_liarsAfter_44 : decode cX9_liarsAfter 44 = .ok (.getfield 162, 3) := by decide +kernel
theorem dX9_liarsAfter_47 : decode cX9_liarsAfter 47 = .ok (.invokevirtual 179, 3) := by decide +kernel
theorem dX9_liarsAfter_50 : decode cX9_liarsAfter 50 = .ok (.invokestatic 182, 3) := by decide +kernel
theorem dX9_liarsAfter_53 : decode cX9_liarsAfter 53 = .ok (.ireturn, 1) := by decide +kernel
theorem dX9_eveningsUntilOneStory_0 : decode cX9_eveningsUntilOneStory 0 = .ok (.aload_n 0, 1) := by decide +kernel
theorem dX9_eveningsUntilOneStory_1 : decode cX9_eveningsUntilOneStory 1 = .ok (.getfield 52, 3) := by decide +kernel
theorem dX9_eveningsUntilOneStory_4 : decode cX9_eveningsUntilOneStory 4 = .ok (.aload_n 0, 1) := by decide +kernel
theorem dX9_eveningsUntilOneStory_5 : decode cX9_eveningsUntilOneStory 5 = .ok (.getfield 48, 3) := by decide +kernel
theorem dX9_eveningsUntilOneStory_8 : decode cX9_eveningsUntilOneStory 8 = .ok (.invokevirtual 252, 3) := by decide +kernel
theorem dX9_eveningsUntilOneStory_11 : decode cX9_eveningsUntilOneStory 11 = .ok (.iconst 0, 1) := by decide +kernel
theorem dX9_eveningsUntilOneStory_12 : decode cX9_eveningsUntilOneStory 12 = .ok (.istore_n 1, 1) := by decide +kernel
theorem dX9_eveningsUntilOneStory_13 : decode cX9_eveningsUntilOneStory 13 = .ok (.iload_n 1, 1) := by decide +kernel
theorem dX9_eveningsUntilOneStory_14 : decode cX9_eveningsUntilOneStory 14 = .ok (.bipush 30, 2) := by decide +kernel
theorem dX9_eveningsUntilOneStory_16 : decode cX9_eveningsUntilOneStory 16 = .ok (.if_icmp .ge 35, 3) := by decide +kernel
theorem dX9_eveningsUntilOneStory_19 : decode cX9_eveningsUntilOneStory 19 = .ok (.aload_n 0, 1) := by decide +kernel
theorem dX9_eveningsUntilOneStory_20 : decode cX9_eveningsUntilOneStory 20 = .ok (.getfield 39, 3) := by decide +kernel
theorem dX9_eveningsUntilOneStory_23 : decode cX9_eveningsUntilOneStory 23 = .ok (.aload_n 0, 1) := by decide +kernel
theorem dX9_eveningsUntilOneStory_24 : decode cX9_eveningsUntilOneStory 24 = .ok (.getfield 52, 3) := by decide +kernel
theorem dX9_eveningsUntilOneStory_27 : decode cX9_eveningsUntilOneStory 27 = .ok (.getfield 162, 3) := by decide +kernel
theorem dX9_eveningsUntilOneStory_30 : decode cX9_eveningsUntilOneStory 30 = .ok (.invokevirtual 179, 3) := by decide +kernel
theorem dX9_eveningsUntilOneStory_33 : decode cX9_eveningsUntilOneStory 33 = .ok (.ifCond .ne 5, 3) := by decide +kernel
theorem dX9_eveningsUntilOneStory_36 : decode cX9_eveningsUntilOneStory 36 = .ok (.iload_n 1, 1) := by decide +kernel
theorem dX9_eveningsUntilOneStory_37 : decode cX9_eveningsUntilOneStory 37 = .ok (.ireturn, 1) := by decide +kernel
theorem dX9_eveningsUntilOneStory_38 : decode cX9_eveningsUntilOneStory 38 = .ok (.aload_n 0, 1) := by decide +kernel
theorem dX9_eveningsUntilOneStory_39 : decode cX9_eveningsUntilOneStory 39 = .ok (.getfield 52, 3) := by decide +kernel
theorem dX9_eveningsUntilOneStory_42 : decode cX9_eveningsUntilOneStory 42 = .ok (.invokevirtual 249, 3) := by decide +kernel
theorem dX9_eveningsUntilOneStory_45 : decode cX9_eveningsUntilOneStory 45 = .ok (.iinc 1 1, 3) := by decide +kernel
theorem dX9_eveningsUntilOneStory_48 : decode cX9_eveningsUntilOneStory 48 = .ok (.goto (-35), 3) := by decide +kernel
theorem dX9_eveningsUntilOneStory_51 : decode cX9_eveningsUntilOneStory 51 = .ok (.aload_n 0, 1) := by decide +kernel
theorem dX9_eveningsUntilOneStory_52 : decode cX9_eveningsUntilOneStory 52 = .ok (.getfield 39, 3) := by decide +kernel
theorem dX9_eveningsUntilOneStory_55 : decode cX9_eveningsUntilOneStory 55 = .ok (.aload_n 0, 1) := by decide +kernel
theorem dX9_eveningsUntilOneStory_56 : decode cX9_eveningsUntilOneStory 56 = .ok (.getfield 52, 3) := by decide +kernel
theorem dX9_eveningsUntilOneStory_59 : decode cX9_eveningsUntilOneStory 59 = .ok (.getfield 162, 3) := by decide +kernel
theorem dX9_eveningsUntilOneStory_62 : decode cX9_eveningsUntilOneStory 62 = .ok (.invokevirtual 179, 3) := by decide +kernel
theorem dX9_eveningsUntilOneStory_65 : decode cX9_eveningsUntilOneStory 65 = .ok (.ifCond .ne 8, 3) := by decide +kernel
theorem dX9_eveningsUntilOneStory_68 : decode cX9_eveningsUntilOneStory 68 = .ok (.bipush 30, 2) := by decide +kernel
theorem dX9_eveningsUntilOneStory_70 : decode cX9_eveningsUntilOneStory 70 = .ok (.goto 4, 3) := by decide +kernel
theorem dX9_eveningsUntilOneStory_73 : decode cX9_eveningsUntilOneStory 73 = .ok (.iconst (-1), 1) := by decide +kernel
theorem dX9_eveningsUntilOneStory_74 : decode cX9_eveningsUntilOneStory 74 = .ok (.ireturn, 1) := by decide +kernel
theorem dX9_bestToDoubt_0 : decode cX9_bestToDoubt 0 = .ok (.iconst (-1), 1) := by decide +kernel
theorem dX9_bestToDoubt_1 : decode cX9_bestToDoubt 1 = .ok (.istore_n 1, 1) := by decide +kernel
theorem dX9_bestToDoubt_2 : decode cX9_bestToDoubt 2 = .ok (.aload_n 0, 1) := by decide +kernel
theorem dX9_bestToDoubt_3 : decode cX9_bestToDoubt 3 = .ok (.getfield 39, 3) := by decide +kernel
theorem dX9_bestToDoubt_6 : decode cX9_bestToDoubt 6 = .ok (.aload_n 0, 1) := by decide +kernel
theorem dX9_bestToDoubt_7 : decode cX9_bestToDoubt 7 = .ok (.getfield 48, 3) := by decide +kernel
theorem dX9_bestToDoubt_10 : decode cX9_bestToDoubt 10 = .ok (.getfield 162, 3) := by decide +kernel
theorem dX9_bestToDoubt_13 : decode cX9_bestToDoubt 13 = .ok (.invokevirtual 176, 3) := by decide +kernel
theorem dX9_bestToDoubt_16 : decode cX9_bestToDoubt 16 = .ok (.istore_n 2, 1) := by decide +kernel
theorem dX9_bestToDoubt_17 : decode cX9_bestToDoubt 17 = .ok (.iconst 0, 1) := by decide +kernel
theorem dX9_bestToDoubt_18 : decode cX9_bestToDoubt 18 = .ok (.istore_n 3, 1) := by decide +kernel
theorem dX9_bestToDoubt_19 : decode cX9_bestToDoubt 19 = .ok (.iload_n 3, 1) := by decide +kernel
theorem dX9_bestToDoubt_20 : decode cX9_bestToDoubt 20 = .ok (.aload_n 0, 1) := by decide +kernel
theorem dX9_bestToDoubt_21 : decode cX9_bestToDoubt 21 = .ok (.getfield 35, 3) := by decide +kernel
theorem dX9_bestToDoubt_24 : decode cX9_bestToDoubt 24 = .ok (.getfield 101, 3) := by decide +kernel
theorem dX9_bestToDoubt_27 : decode cX9_bestToDoubt 27 = .ok (.if_icmp .ge 40, 3) := by decide +kernel
theorem dX9_bestToDoubt_30 : decode cX9_bestToDoubt 30 = .ok (.aload_n 0, 1) := by decide +kernel
theorem dX9_bestToDoubt_31 : decode cX9_bestToDoubt 31 = .ok (.getfield 39, 3) := by decide +kernel
theorem dX9_bestToDoubt_34 : decode cX9_bestToDoubt 34 = .ok (.aload_n 0, 1) := by decide +kernel
theorem dX9_bestToDoubt_35 : decode cX9_bestToDoubt 35 = .ok (.getfield 48, 3) := by decide +kernel
theorem dX9_bestToDoubt_38 : decode cX9_bestToDoubt 38 = .ok (.getfield 162, 3) := by decide +kernel
theorem dX9_bestToDoubt_41 : decode cX9_bestToDoubt 41 = .ok (.iconst 1, 1) := by decide +kernel
theorem dX9_bestToDoubt_42 : decode cX9_bestToDoubt 42 = .ok (.iload_n 3, 1) := by decide +kernel
theorem dX9_bestToDoubt_43 : decode cX9_bestToDoubt 43 = .ok (.ishl, 1) := by decide +kernel
theorem dX9_bestToDoubt_44 : decode cX9_bestToDoubt 44 = .ok (.ior, 1) := by decide +kernel
theorem dX9_bestToDoubt_45 : decode cX9_bestToDoubt 45 = .ok (.invokevirtual 176, 3) := by decide +kernel
theorem dX9_bestToDoubt_48 : decode cX9_bestToDoubt 48 = .ok (.istore 4, 2) := by decide +kernel
theorem dX9_bestToDoubt_50 : decode cX9_bestToDoubt 50 = .ok (.iload 4, 2) := by decide +kernel
theorem dX9_bestToDoubt_52 : decode cX9_bestToDoubt 52 = .ok (.iload_n 2, 1) := by decide +kernel
theorem dX9_bestToDoubt_53 : decode cX9_bestToDoubt 53 = .ok (.if_icmp .ge 8, 3) := by decide +kernel
theorem dX9_bestToDoubt_56 : decode cX9_bestToDoubt 56 = .ok (.iload 4, 2) := by decide +kernel
theorem dX9_bestToDoubt_58 : decode cX9_bestToDoubt 58 = .ok (.istore_n 2, 1) := by decide +kernel
theorem dX9_bestToDoubt_59 : decode cX9_bestToDoubt 59 = .ok (.iload_n 3, 1) := by decide +kernel
theorem dX9_bestToDoubt_60 : decode cX9_bestToDoubt 60 = .ok (.istore_n 1, 1) := by decide +kernel
theorem dX9_bestToDoubt_61 : decode cX9_bestToDoubt 61 = .ok (.iinc 3 1, 3) := by decide +kernel
theorem dX9_bestToDoubt_64 : decode cX9_bestToDoubt 64 = .ok (.goto (-45), 3) := by decide +kernel
theorem dX9_bestToDoubt_67 : decode cX9_bestToDoubt 67 = .ok (.iload_n 1, 1) := by decide +kernel
theorem dX9_bestToDoubt_68 : decode cX9_bestToDoubt 68 = .ok (.ireturn, 1) := by decide +kernel
theorem dX9_meanClaims_0 : decode cX9_meanClaims 0 = .ok (.aload_n 0, 1) := by decide +kernel
theorem dX9_meanClaims_1 : decode cX9_meanClaims 1 = .ok (.getfield 35, 3) := by decide +kernel
theorem dX9_meanClaims_4 : decode cX9_meanClaims 4 = .ok (.getfield 101, 3) := by decide +kernel
theorem dX9_meanClaims_7 : decode cX9_meanClaims 7 = .ok (.ifCond .gt 5, 3) := by decide +kernel
theorem dX9_meanClaims_10 : decode cX9_meanClaims 10 = .ok (.dconst 0, 1) := by decide +kernel
theorem dX9_meanClaims_11 : decode cX9_meanClaims 11 = .ok (.dreturn, 1) := by decide +kernel
theorem dX9_meanClaims_12 : decode cX9_meanClaims 12 = .ok (.aload_n 0, 1) := by decide +kernel
theorem dX9_meanClaims_13 : decode cX9_meanClaims 13 = .ok (.getfield 35, 3) := by decide +kernel
theorem dX9_meanClaims_16 : decode cX9_meanClaims 16 = .ok (.getfield 104, 3) := by decide +kernel
theorem dX9_meanClaims_19 : decode cX9_meanClaims 19 = .ok (.getfield 108, 3) := by decide +kernel
theorem dX9_meanClaims_22 : decode cX9_meanClaims 22 = .ok (.i2d, 1) := by decide +kernel
theorem dX9_meanClaims_23 : decode cX9_meanClaims 23 = .ok (.aload_n 0, 1) := by decide +kernel
theorem dX9_meanClaims_24 : decode cX9_meanClaims 24 = .ok (.getfield 35, 3) := by decide +kernel
theorem dX9_meanClaims_27 : decode cX9_meanClaims 27 = .ok (.getfield 101, 3) := by decide +kernel
theorem dX9_meanClaims_30 : decode cX9_meanClaims 30 = .ok (.i2d, 1) := by decide +kernel
theorem dX9_meanClaims_31 : decode cX9_meanClaims 31 = .ok (.ddiv, 1) := by decide +kernel
theorem dX9_meanClaims_32 : decode cX9_meanClaims 32 = .ok (.dreturn, 1) := by decide +kernel
theorem dX9_digest_0 : decode cX9_digest 0 = .ok (.ldc2_w 255, 3) := by decide +kernel
theorem dX9_digest_3 : decode cX9_digest 3 = .ok (.lstore_n 1, 1) := by decide +kernel
theorem dX9_digest_4 : decode cX9_digest 4 = .ok (.lload_n 1, 1) := by decide +kernel
theorem dX9_digest_5 : decode cX9_digest 5 = .ok (.ldc2_w 257, 3) := by decide +kernel
theorem dX9_digest_8 : decode cX9_digest 8 = .ok (.lmul, 1) := by decide +kernel
theorem dX9_digest_9 : decode cX9_digest 9 = .ok (.aload_n 0, 1) := by decide +kernel
theorem dX9_digest_10 : decode cX9_digest 10 = .ok (.invokevirtual 259, 3) := by decide +kernel
theorem dX9_digest_13 : decode cX9_digest 13 = .ok (.i2l, 1) := by decide +kernel
theorem dX9_digest_14 : decode cX9_digest 14 = .ok (.ladd, 1) := by decide +kernel
theorem dX9_digest_15 : decode cX9_digest 15 = .ok (.lstore_n 1, 1) := by decide +kernel
theorem dX9_digest_16 : decode cX9_digest 16 = .ok (.lload_n 1, 1) := by decide +kernel
theorem dX9_digest_17 : decode cX9_digest 17 = .ok (.ldc2_w 257, 3) := by decide +kernel
theorem dX9_digest_20 : decode cX9_digest 20 = .ok (.lmul, 1) := by decide +kernel
theorem dX9_digest_21 : decode cX9_digest 21 = .ok (.aload_n 0, 1) := by decide +kernel
theorem dX9_digest_22 : decode cX9_digest 22 = .ok (.invokevirtual 262, 3) := by decide +kernel
theorem dX9_digest_25 : decode cX9_digest 25 = .ok (.i2l, 1) := by decide +kernel
theorem dX9_digest_26 : decode cX9_digest 26 = .ok (.ladd, 1) := by decide +kernel
theorem dX9_digest_27 : decode cX9_digest 27 = .ok (.lstore_n 1, 1) := by decide +kernel
theorem dX9_digest_28 : decode cX9_digest 28 = .ok (.lload_n 1, 1) := by decide +kernel
theorem dX9_digest_29 : decode cX9_digest 29 = .ok (.ldc2_w 257, 3) := by decide +kernel
theorem dX9_digest_32 : decode cX9_digest 32 = .ok (.lmul, 1) := by decide +kernel
theorem dX9_digest_33 : decode cX9_digest 33 = .ok (.aload_n 0, 1) := by decide +kernel
theorem dX9_digest_34 : decode cX9_digest 34 = .ok (.invokevirtual 264, 3) := by decide +kernel
theorem dX9_digest_37 : decode cX9_digest 37 = .ok (.i2l, 1) := by decide +kernel
theorem dX9_digest_38 : decode cX9_digest 38 = .ok (.ladd, 1) := by decide +kernel
theorem dX9_digest_39 : decode cX9_digest 39 = .ok (.lstore_n 1, 1) := by decide +kernel
theorem dX9_digest_40 : decode cX9_digest 40 = .ok (.lload_n 1, 1) := by decide +kernel
theorem dX9_digest_41 : decode cX9_digest 41 = .ok (.ldc2_w 257, 3) := by decide +kernel
theorem dX9_digest_44 : decode cX9_digest 44 = .ok (.lmul, 1) := by decide +kernel
theorem dX9_digest_45 : decode cX9_digest 45 = .ok (.aload_n 0, 1) := by decide +kernel
theorem dX9_digest_46 : decode cX9_digest 46 = .ok (.invokevirtual 266, 3) := by decide +kernel
theorem dX9_digest_49 : decode cX9_digest 49 = .ok (.i2l, 1) := by decide +kernel
theorem dX9_digest_50 : decode cX9_digest 50 = .ok (.ladd, 1) := by decide +kernel
theorem dX9_digest_51 : decode cX9_digest 51 = .ok (.lstore_n 1, 1) := by decide +kernel
theorem dX9_digest_52 : decode cX9_digest 52 = .ok (.lload_n 1, 1) := by decide +kernel
theorem dX9_digest_53 : decode cX9_digest 53 = .ok (.ldc2_w 257, 3) := by decide +kernel
theorem dX9_digest_56 : decode cX9_digest 56 = .ok (.lmul, 1) := by decide +kernel
theorem dX9_digest_57 : decode cX9_digest 57 = .ok (.aload_n 0, 1) := by decide +kernel
theorem dX9_digest_58 : decode cX9_digest 58 = .ok (.invokevirtual 269, 3) := by decide +kernel
theorem dX9_digest_61 : decode cX9_digest 61 = .ok (.i2l, 1) := by decide +kernel
theorem dX9_digest_62 : decode cX9_digest 62 = .ok (.ladd, 1) := by decide +kernel
theorem dX9_digest_63 : decode cX9_digest 63 = .ok (.lstore_n 1, 1) := by decide +kernel
theorem dX9_digest_64 : decode cX9_digest 64 = .ok (.lload_n 1, 1) := by decide +kernel
theorem dX9_digest_65 : decode cX9_digest 65 = .ok (.ldc2_w 257, 3) := by decide +kernel
theorem dX9_digest_68 : decode cX9_digest 68 = .ok (.lmul, 1) := by decide +kernel
theorem dX9_digest_69 : decode cX9_digest 69 = .ok (.aload_n 0, 1) := by decide +kernel
theorem dX9_digest_70 : decode cX9_digest 70 = .ok (.invokevirtual 272, 3) := by decide +kernel
theorem dX9_digest_73 : decode cX9_digest 73 = .ok (.i2l, 1) := by decide +kernel
theorem dX9_digest_74 : decode cX9_digest 74 = .ok (.ladd, 1) := by decide +kernel
theorem dX9_digest_75 : decode cX9_digest 75 = .ok (.lstore_n 1, 1) := by decide +kernel
theorem dX9_digest_76 : decode cX9_digest 76 = .ok (.lload_n 1, 1) := by decide +kernel
theorem dX9_digest_77 : decode cX9_digest 77 = .ok (.ldc2_w 257, 3) := by decide +kernel
theorem dX9_digest_80 : decode cX9_digest 80 = .ok (.lmul, 1) := by decide +kernel
theorem dX9_digest_81 : decode cX9_digest 81 = .ok (.aload_n 0, 1) := by decide +kernel
theorem dX9_digest_82 : decode cX9_digest 82 = .ok (.invokevirtual 275, 3) := by decide +kernel
theorem dX9_digest_85 : decode cX9_digest 85 = .ok (.i2l, 1) := by decide +kernel
theorem dX9_digest_86 : decode cX9_digest 86 = .ok (.ladd, 1) := by decide +kernel
theorem dX9_digest_87 : decode cX9_digest 87 = .ok (.lstore_n 1, 1) := by decide +kernel
theorem dX9_digest_88 : decode cX9_digest 88 = .ok (.lload_n 1, 1) := by decide +kernel
theorem dX9_digest_89 : decode cX9_digest 89 = .ok (.ldc2_w 257, 3) := by decide +kernel
theorem dX9_digest_92 : decode cX9_digest 92 = .ok (.lmul, 1) := by decide +kernel
theorem dX9_digest_93 : decode cX9_digest 93 = .ok (.aload_n 0, 1) := by decide +kernel
theorem dX9_digest_94 : decode cX9_digest 94 = .ok (.invokevirtual 278, 3) := by decide +kernel
theorem dX9_digest_97 : decode cX9_digest 97 = .ok (.i2l, 1) := by decide +kernel
theorem dX9_digest_98 : decode cX9_digest 98 = .ok (.ladd, 1) := by decide +kernel
theorem dX9_digest_99 : decode cX9_digest 99 = .ok (.lstore_n 1, 1) := by decide +kernel
theorem dX9_digest_100 : decode cX9_digest 100 = .ok (.lload_n 1, 1) := by decide +kernel
theorem dX9_digest_101 : decode cX9_digest 101 = .ok (.ldc2_w 257, 3) := by decide +kernel
theorem dX9_digest_104 : decode cX9_digest 104 = .ok (.lmul, 1) := by decide +kernel
theorem dX9_digest_105 : decode cX9_digest 105 = .ok (.aload_n 0, 1) := by decide +kernel
theorem dX9_digest_106 : decode cX9_digest 106 = .ok (.invokevirtual 281, 3) := by decide +kernel
theorem dX9_digest_109 : decode cX9_digest 109 = .ok (.invokestatic 284, 3) := by decide +kernel
theorem dX9_digest_112 : decode cX9_digest 112 = .ok (.i2l, 1) := by decide +kernel
theorem dX9_digest_113 : decode cX9_digest 113 = .ok (.ladd, 1) := by decide +kernel
theorem dX9_digest_114 : decode cX9_digest 114 = .ok (.lstore_n 1, 1) := by decide +kernel
theorem dX9_digest_115 : decode cX9_digest 115 = .ok (.aload_n 0, 1) := by decide +kernel
theorem dX9_digest_116 : decode cX9_digest 116 = .ok (.aload_n 0, 1) := by decide +kernel
theorem dX9_digest_117 : decode cX9_digest 117 = .ok (.aload_n 0, 1) := by decide +kernel
theorem dX9_digest_118 : decode cX9_digest 118 = .ok (.lload_n 1, 1) := by decide +kernel
theorem dX9_digest_119 : decode cX9_digest 119 = .ok (.invokevirtual 288, 3) := by decide +kernel
theorem dX9_digest_122 : decode cX9_digest 122 = .ok (.invokevirtual 292, 3) := by decide +kernel
theorem dX9_digest_125 : decode cX9_digest 125 = .ok (.invokevirtual 295, 3) := by decide +kernel
theorem dX9_digest_128 : decode cX9_digest 128 = .ok (.lreturn, 1) := by decide +kernel
theorem dX9_digestClaims_0 : decode cX9_digestClaims 0 = .ok (.lload_n 1, 1) := by decide +kernel
theorem dX9_digestClaims_1 : decode cX9_digestClaims 1 = .ok (.lstore_n 3, 1) := by decide +kernel
theorem dX9_digestClaims_2 : decode cX9_digestClaims 2 = .ok (.iconst 0, 1) := by decide +kernel
theorem dX9_digestClaims_3 : decode cX9_digestClaims 3 = .ok (.istore 5, 2) := by decide +kernel
theorem dX9_digestClaims_5 : decode cX9_digestClaims 5 = .ok (.iload 5, 2) := by decide +kernel
theorem dX9_digestClaims_7 : decode cX9_digestClaims 7 = .ok (.aload_n 0, 1) := by decide +kernel
theorem dX9_digestClaims_8 : decode cX9_digestClaims 8 = .ok (.getfield 35, 3) := by decide +kernel
theorem dX9_digestClaims_11 : decode cX9_digestClaims 11 = .ok (.getfield 104, 3) := by decide +kernel
theorem dX9_digestClaims_14 : decode cX9_digestClaims 14 = .ok (.getfield 108, 3) := by decide +kernel
theorem dX9_digestClaims_17 : decode cX9_digestClaims 17 = .ok (.if_icmp .ge 78, 3) := by decide +kernel
theorem dX9_digestClaims_20 : decode cX9_digestClaims 20 = .ok (.lload_n 3, 1) := by decide +kernel
theorem dX9_digestClaims_21 : decode cX9_digestClaims 21 = .ok (.ldc2_w 257, 3) := by decide +kernel
theorem dX9_digestClaims_24 : decode cX9_digestClaims 24 = .ok (.lmul, 1) := by decide +kernel
theorem dX9_digestClaims_25 : decode cX9_digestClaims 25 = .ok (.aload_n 0, 1) := by decide +kernel
theorem dX9_digestClaims_26 : decode cX9_digestClaims 26 = .ok (.getfield 35, 3) := by decide +kernel
theorem dX9_digestClaims_29 : decode cX9_digestClaims 29 = .ok (.getfield 104, 3) := by decide +kernel
theorem dX9_digestClaims_32 : decode cX9_digestClaims 32 = .ok (.getfield 122, 3) := by decide +kernel
theorem dX9_digestClaims_35 : decode cX9_digestClaims 35 = .ok (.iload 5, 2) := by decide +kernel
theorem dX9_digestClaims_37 : decode cX9_digestClaims 37 = .ok (.invokevirtual 125, 3) := by decide +kernel
theorem dX9_digestClaims_40 : decode cX9_digestClaims 40 = .ok (.i2l, 1) := by decide +kernel
theorem dX9_digestClaims_41 : decode cX9_digestClaims 41 = .ok (.ladd, 1) := by decide +kernel
theorem dX9_digestClaims_42 : decode cX9_digestClaims 42 = .ok (.lstore_n 3, 1) := by decide +kernel
theorem dX9_digestClaims_43 : decode cX9_digestClaims 43 = .ok (.lload_n 3, 1) := by decide +kernel
theorem dX9_digestClaims_44 : decode cX9_digestClaims 44 = .ok (.ldc2_w 257, 3) := by decide +kernel
theorem dX9_digestClaims_47 : decode cX9_digestClaims 47 = .ok (.lmul, 1) := by decide +kernel
theorem dX9_digestClaims_48 : decode cX9_digestClaims 48 = .ok (.aload_n 0, 1) := by decide +kernel
theorem dX9_digestClaims_49 : decode cX9_digestClaims 49 = .ok (.getfield 35, 3) := by decide +kernel
theorem dX9_digestClaims_52 : decode cX9_digestClaims 52 = .ok (.getfield 104, 3) := by decide +kernel
theorem dX9_digestClaims_55 : decode cX9_digestClaims 55 = .ok (.getfield 128, 3) := by decide +kernel
theorem dX9_digestClaims_58 : decode cX9_digestClaims 58 = .ok (.iload 5, 2) := by decide +kernel
theorem dX9_digestClaims_60 : decode cX9_digestClaims 60 = .ok (.invokevirtual 125, 3) := by decide +kernel
theorem dX9_digestClaims_63 : decode cX9_digestClaims 63 = .ok (.i2l, 1) := by decide +kernel
theorem dX9_digestClaims_64 : decode cX9_digestClaims 64 = .ok (.ladd, 1) := by decide +kernel
theorem dX9_digestClaims_65 : decode cX9_digestClaims 65 = .ok (.lstore_n 3, 1) := by decide +kernel
theorem dX9_digestClaims_66 : decode cX9_digestClaims 66 = .ok (.lload_n 3, 1) := by decide +kernel
theorem dX9_digestClaims_67 : decode cX9_digestClaims 67 = .ok (.ldc2_w 257, 3) := by decide +kernel
theorem dX9_digestClaims_70 : decode cX9_digestClaims 70 = .ok (.lmul, 1) := by decide +kernel
theorem dX9_digestClaims_71 : decode cX9_digestClaims 71 = .ok (.aload_n 0, 1) := by decide +kernel
theorem dX9_digestClaims_72 : decode cX9_digestClaims 72 = .ok (.getfield 35, 3) := by decide +kernel
theorem dX9_digestClaims_75 : decode cX9_digestClaims 75 = .ok (.getfield 104, 3) := by decide +kernel
theorem dX9_digestClaims_78 : decode cX9_digestClaims 78 = .ok (.getfield 131, 3) := by decide +kernel
theorem dX9_digestClaims_81 : decode cX9_digestClaims 81 = .ok (.iload 5, 2) := by decide +kernel
theorem dX9_digestClaims_83 : decode cX9_digestClaims 83 = .ok (.invokevirtual 125, 3) := by decide +kernel
theorem dX9_digestClaims_86 : decode cX9_digestClaims 86 = .ok (.i2l, 1) := by decide +kernel
theorem dX9_digestClaims_87 : decode cX9_digestClaims 87 = .ok (.ladd, 1) := by decide +kernel
theorem dX9_digestClaims_88 : decode cX9_digestClaims 88 = .ok (.lstore_n 3, 1) := by decide +kernel
theorem dX9_digestClaims_89 : decode cX9_digestClaims 89 = .ok (.iinc 5 1, 3) := by decide +kernel
theorem dX9_digestClaims_92 : decode cX9_digestClaims 92 = .ok (.goto (-87), 3) := by decide +kernel
theorem dX9_digestClaims_95 : decode cX9_digestClaims 95 = .ok (.lload_n 3, 1) := by decide +kernel
theorem dX9_digestClaims_96 : decode cX9_digestClaims 96 = .ok (.lreturn, 1) := by decide +kernel
theorem dX9_digestTellers_0 : decode cX9_digestTellers 0 = .ok (.lload_n 1, 1) := by decide +kernel
theorem dX9_digestTellers_1 : decode cX9_digestTellers 1 = .ok (.lstore_n 3, 1) := by decide +kernel
theorem dX9_digestTellers_2 : decode cX9_digestTellers 2 = .ok (.aload_n 0, 1) := by decide +kernel
theorem dX9_digestTellers_3 : decode cX9_digestTellers 3 = .ok (.getfield 48, 3) := by decide +kernel
theorem dX9_digestTellers_6 : decode cX9_digestTellers 6 = .ok (.getfield 162, 3) := by decide +kernel
theorem dX9_digestTellers_9 : decode cX9_digestTellers 9 = .ok (.istore 5, 2) := by decide +kernel
theorem dX9_digestTellers_11 : decode cX9_digestTellers 11 = .ok (.iconst 0, 1) := by decide +kernel
theorem dX9_digestTellers_12 : decode cX9_digestTellers 12 = .ok (.istore 6, 2) := by decide +kernel
theorem dX9_digestTellers_14 : decode cX9_digestTellers 14 = .ok (.iload 6, 2) := by decide +kernel
theorem dX9_digestTellers_16 : decode cX9_digestTellers 16 = .ok (.aload_n 0, 1) := by decide +kernel
theorem dX9_digestTellers_17 : decode cX9_digestTellers 17 = .ok (.getfield 35, 3) := by decide +kernel
theorem dX9_digestTellers_20 : decode cX9_digestTellers 20 = .ok (.getfield 101, 3) := by decide +kernel
theorem dX9_digestTellers_23 : decode cX9_digestTellers 23 = .ok (.if_icmp .ge 117, 3) := by decide +kernel
theorem dX9_digestTellers_26 : decode cX9_digestTellers 26 = .ok (.lload_n 3, 1) := by decide +kernel
theorem dX9_digestTellers_27 : decode cX9_digestTellers 27 = .ok (.ldc2_w 257, 3) := by decide +kernel
theorem dX9_digestTellers_30 : decode cX9_digestTellers 30 = .ok (.lmul, 1) := by decide +kernel
theorem dX9_digestTellers_31 : decode cX9_digestTellers 31 = .ok (.aload_n 0, 1) := by decide +kernel
theorem dX9_digestTellers_32 : decode cX9_digestTellers 32 = .ok (.getfield 35, 3) := by decide +kernel
theorem dX9_digestTellers_35 : decode cX9_digestTellers 35 = .ok (.getfield 104, 3) := by decide +kernel
theorem dX9_digestTellers_38 : decode cX9_digestTellers 38 = .ok (.iload 6, 2) := by decide +kernel
theorem dX9_digestTellers_40 : decode cX9_digestTellers 40 = .ok (.invokevirtual 159, 3) := by decide +kernel
theorem dX9_digestTellers_43 : decode cX9_digestTellers 43 = .ok (.i2l, 1) := by decide +kernel
theorem dX9_digestTellers_44 : decode cX9_digestTellers 44 = .ok (.ladd, 1) := by decide +kernel
theorem dX9_digestTellers_45 : decode cX9_digestTellers 45 = .ok (.lstore_n 3, 1) := by decide +kernel
theorem dX9_digestTellers_46 : decode cX9_digestTellers 46 = .ok (.lload_n 3, 1) := by decide +kernel
theorem dX9_digestTellers_47 : decode cX9_digestTellers 47 = .ok (.ldc2_w 257, 3) := by decide +kernel
theorem dX9_digestTellers_50 : decode cX9_digestTellers 50 = .ok (.lmul, 1) := by decide +kernel
theorem dX9_digestTellers_51 : decode cX9_digestTellers 51 = .ok (.iload 5, 2) := by decide +kernel
theorem dX9_digestTellers_53 : decode cX9_digestTellers 53 = .ok (.iload 6, 2) := by decide +kernel
theorem dX9_digestTellers_55 : decode cX9_digestTellers 55 = .ok (.invokestatic 165, 3) := by decide +kernel
theorem dX9_digestTellers_58 : decode cX9_digestTellers 58 = .ok (.invokestatic 284, 3) := by decide +kernel
theorem dX9_digestTellers_61 : decode cX9_digestTellers 61 = .ok (.i2l, 1) := by decide +kernel
theorem dX9_digestTellers_62 : decode cX9_digestTellers 62 = .ok (.ladd, 1) := by decide +kernel
theorem dX9_digestTellers_63 : decode cX9_digestTellers 63 = .ok (.lstore_n 3, 1) := by decide +kernel
theorem dX9_digestTellers_64 : decode cX9_digestTellers 64 = .ok (.lload_n 3, 1) := by decide +kernel
theorem dX9_digestTellers_65 : decode cX9_digestTellers 65 = .ok (.ldc2_w 257, 3) := by decide +kernel
theorem dX9_digestTellers_68 : decode cX9_digestTellers 68 = .ok (.lmul, 1) := by decide +kernel
theorem dX9_digestTellers_69 : decode cX9_digestTellers 69 = .ok (.aload_n 0, 1) := by decide +kernel
theorem dX9_digestTellers_70 : decode cX9_digestTellers 70 = .ok (.getfield 39, 3) := by decide +kernel
theorem dX9_digestTellers_73 : decode cX9_digestTellers 73 = .ok (.iload 5, 2) := by decide +kernel
theorem dX9_digestTellers_75 : decode cX9_digestTellers 75 = .ok (.invokevirtual 179, 3) := by decide +kernel
theorem dX9_digestTellers_78 : decode cX9_digestTellers 78 = .ok (.iload 6, 2) := by decide +kernel
theorem dX9_digestTellers_80 : decode cX9_digestTellers 80 = .ok (.invokestatic 165, 3) := by decide +kernel
theorem dX9_digestTellers_83 : decode cX9_digestTellers 83 = .ok (.invokestatic 284, 3) := by decide +kernel
theorem dX9_digestTellers_86 : decode cX9_digestTellers 86 = .ok (.i2l, 1) := by decide +kernel
theorem dX9_digestTellers_87 : decode cX9_digestTellers 87 = .ok (.ladd, 1) := by decide +kernel
theorem dX9_digestTellers_88 : decode cX9_digestTellers 88 = .ok (.lstore_n 3, 1) := by decide +kernel
theorem dX9_digestTellers_89 : decode cX9_digestTellers 89 = .ok (.iconst 0, 1) := by decide +kernel
theorem dX9_digestTellers_90 : decode cX9_digestTellers 90 = .ok (.istore 7, 2) := by decide +kernel
theorem dX9_digestTellers_92 : decode cX9_digestTellers 92 = .ok (.iload 7, 2) := by decide +kernel
theorem dX9_digestTellers_94 : decode cX9_digestTellers 94 = .ok (.aload_n 0, 1) := by decide +kernel
theorem dX9_digestTellers_95 : decode cX9_digestTellers 95 = .ok (.getfield 35, 3) := by decide +kernel
theorem dX9_digestTellers_98 : decode cX9_digestTellers 98 = .ok (.getfield 101, 3) := by decide +kernel
theorem dX9_digestTellers_101 : decode cX9_digestTellers 101 = .ok (.if_icmp .ge 33, 3) := by decide +kernel
theorem dX9_digestTellers_104 : decode cX9_digestTellers 104 = .ok (.lload_n 3, 1) := by decide +kernel
theorem dX9_digestTellers_105 : decode cX9_digestTellers 105 = .ok (.ldc2_w 257, 3) := by decide +kernel
theorem dX9_digestTellers_108 : decode cX9_digestTellers 108 = .ok (.lmul, 1) := by decide +kernel
theorem dX9_digestTellers_109 : decode cX9_digestTellers 109 = .ok (.aload_n 0, 1) := by decide +kernel
theorem dX9_digestTellers_110 : decode cX9_digestTellers 110 = .ok (.getfield 39, 3) := by decide +kernel
theorem dX9_digestTellers_113 : decode cX9_digestTellers 113 = .ok (.iload 6, 2) := by decide +kernel
theorem dX9_digestTellers_115 : decode cX9_digestTellers 115 = .ok (.iload 7, 2) := by decide +kernel
theorem dX9_digestTellers_117 : decode cX9_digestTellers 117 = .ok (.iload 5, 2) := by decide +kernel
theorem dX9_digestTellers_119 : decode cX9_digestTellers 119 = .ok (.invokevirtual 168, 3) := by decide +kernel
theorem dX9_digestTellers_122 : decode cX9_digestTellers 122 = .ok (.invokestatic 284, 3) := by decide +kernel
theorem dX9_digestTellers_125 : decode cX9_digestTellers 125 = .ok (.i2l, 1) := by decide +kernel
theorem dX9_digestTellers_126 : decode cX9_digestTellers 126 = .ok (.ladd, 1) := by decide +kernel
theorem dX9_digestTellers_127 : decode cX9_digestTellers 127 = .ok (.lstore_n 3, 1) := by decide +kernel
theorem dX9_digestTellers_128 : decode cX9_digestTellers 128 = .ok (.iinc 7 1, 3) := by decide +kernel
theorem dX9_digestTellers_131 : decode cX9_digestTellers 131 = .ok (.goto (-39), 3) := by decide +kernel
theorem dX9_digestTellers_134 : decode cX9_digestTellers 134 = .ok (.iinc 6 1, 3) := by decide +kernel
theorem dX9_digestTellers_137 : decode cX9_digestTellers 137 = .ok (.goto (-123), 3) := by decide +kernel
theorem dX9_digestTellers_140 : decode cX9_digestTellers 140 = .ok (.lload_n 3, 1) := by decide +kernel
theorem dX9_digestTellers_141 : decode cX9_digestTellers 141 = .ok (.lreturn, 1) := by decide +kernel
theorem dX9_digestEvents_0 : decode cX9_digestEvents 0 = .ok (.lload_n 1, 1) := by decide +kernel
theorem dX9_digestEvents_1 : decode cX9_digestEvents 1 = .ok (.lstore_n 3, 1) := by decide +kernel
theorem dX9_digestEvents_2 : decode cX9_digestEvents 2 = .ok (.aload_n 0, 1) := by decide +kernel
theorem dX9_digestEvents_3 : decode cX9_digestEvents 3 = .ok (.getfield 39, 3) := by decide +kernel
theorem dX9_digestEvents_6 : decode cX9_digestEvents 6 = .ok (.aload_n 0, 1) := by decide +kernel
theorem dX9_digestEvents_7 : decode cX9_digestEvents 7 = .ok (.getfield 48, 3) := by decide +kernel
theorem dX9_digestEvents_10 : decode cX9_digestEvents 10 = .ok (.getfield 162, 3) := by decide +kernel
theorem dX9_digestEvents_13 : decode cX9_digestEvents 13 = .ok (.invokevirtual 207, 3) := by decide +kernel
theorem dX9_digestEvents_16 : decode cX9_digestEvents 16 = .ok (.istore 5, 2) := by decide +kernel
theorem dX9_digestEvents_18 : decode cX9_digestEvents 18 = .ok (.iconst 0, 1) := by decide +kernel
theorem dX9_digestEvents_19 : decode cX9_digestEvents 19 = .ok (.istore 6, 2) := by decide +kernel
theorem dX9_digestEvents_21 : decode cX9_digestEvents 21 = .ok (.iload 6, 2) := by decide +kernel
theorem dX9_digestEvents_23 : decode cX9_digestEvents 23 = .ok (.aload_n 0, 1) := by decide +kernel
theorem dX9_digestEvents_24 : decode cX9_digestEvents 24 = .ok (.getfield 35, 3) := by decide +kernel
theorem dX9_digestEvents_27 : decode cX9_digestEvents 27 = .ok (.getfield 98, 3) := by decide +kernel
theorem dX9_digestEvents_30 : decode cX9_digestEvents 30 = .ok (.if_icmp .ge 143, 3) := by decide +kernel
theorem dX9_digestEvents_33 : decode cX9_digestEvents 33 = .ok (.aload_n 0, 1) := by decide +kernel
theorem dX9_digestEvents_34 : decode cX9_digestEvents 34 = .ok (.getfield 39, 3) := by decide +kernel
theorem dX9_digestEvents_37 : decode cX9_digestEvents 37 = .ok (.iload 6, 2) := by decide +kernel
theorem dX9_digestEvents_39 : decode cX9_digestEvents 39 = .ok (.aload_n 0, 1) := by decide +kernel
theorem dX9_digestEvents_40 : decode cX9_digestEvents 40 = .ok (.getfield 48, 3) := by decide +kernel
theorem dX9_digestEvents_43 : decode cX9_digestEvents 43 = .ok (.getfield 162, 3) := by decide +kernel
theorem dX9_digestEvents_46 : decode cX9_digestEvents 46 = .ok (.invokevirtual 195, 3) := by decide +kernel
theorem dX9_digestEvents_49 : decode cX9_digestEvents 49 = .ok (.ifCond .le 7, 3) := by decide +kernel
theorem dX9_digestEvents_52 : decode cX9_digestEvents 52 = .ok (.iconst 1, 1) := by decide +kernel
theorem dX9_digestEvents_53 : decode cX9_digestEvents 53 = .ok (.goto 4, 3) := by decide +kernel
theorem dX9_digestEvents_56 : decode cX9_digestEvents 56 = .ok (.iconst 0, 1) := by decide +kernel
theorem dX9_digestEvents_57 : decode cX9_digestEvents 57 = .ok (.istore 7, 2) := by decide +kernel
theorem dX9_digestEvents_59 : decode cX9_digestEvents 59 = .ok (.lload_n 3, 1) := by decide +kernel
theorem dX9_digestEvents_60 : decode cX9_digestEvents 60 = .ok (.ldc2_w 257, 3) := by decide +kernel
theorem dX9_digestEvents_63 : decode cX9_digestEvents 63 = .ok (.lmul, 1) := by decide +kernel
theorem dX9_digestEvents_64 : decode cX9_digestEvents 64 = .ok (.iload 7, 2) := by decide +kernel
theorem dX9_digestEvents_66 : decode cX9_digestEvents 66 = .ok (.invokestatic 284, 3) := by decide +kernel
theorem dX9_digestEvents_69 : decode cX9_digestEvents 69 = .ok (.i2l, 1) := by decide +kernel
theorem dX9_digestEvents_70 : decode cX9_digestEvents 70 = .ok (.ladd, 1) := by decide +kernel
theorem dX9_digestEvents_71 : decode cX9_digestEvents 71 = .ok (.lstore_n 3, 1) := by decide +kernel
theorem dX9_digestEvents_72 : decode cX9_digestEvents 72 = .ok (.lload_n 3, 1) := by decide +kernel
theorem dX9_digestEvents_73 : decode cX9_digestEvents 73 = .ok (.ldc2_w 257, 3) := by decide +kernel
theorem dX9_digestEvents_76 : decode cX9_digestEvents 76 = .ok (.lmul, 1) := by decide +kernel
theorem dX9_digestEvents_77 : decode cX9_digestEvents 77 = .ok (.iload 7, 2) := by decide +kernel
theorem dX9_digestEvents_79 : decode cX9_digestEvents 79 = .ok (.ifCond .eq 22, 3) := by decide +kernel
theorem dX9_digestEvents_82 : decode cX9_digestEvents 82 = .ok (.aload_n 0, 1) := by decide +kernel
theorem dX9_digestEvents_83 : decode cX9_digestEvents 83 = .ok (.getfield 39, 3) := by decide +kernel
theorem dX9_digestEvents_86 : decode cX9_digestEvents 86 = .ok (.iload 6, 2) := by decide +kernel
theorem dX9_digestEvents_88 : decode cX9_digestEvents 88 = .ok (.aload_n 0, 1) := by decide +kernel
theorem dX9_digestEvents_89 : decode cX9_digestEvents 89 = .ok (.getfield 48, 3) := by decide +kernel
theorem dX9_digestEvents_92 : decode cX9_digestEvents 92 = .ok (.getfield 162, 3) := by decide +kernel
theorem dX9_digestEvents_95 : decode cX9_digestEvents 95 = .ok (.invokevirtual 201, 3) := by decide +kernel
theorem dX9_digestEvents_98 : decode cX9_digestEvents 98 = .ok (.goto 4, 3) := by decide +kernel
theorem dX9_digestEvents_101 : decode cX9_digestEvents 101 = .ok (.iconst (-1), 1) := by decide +kernel
theorem dX9_digestEvents_102 : decode cX9_digestEvents 102 = .ok (.i2l, 1) := by decide +kernel
theorem dX9_digestEvents_103 : decode cX9_digestEvents 103 = .ok (.ladd, 1) := by decide +kernel
theorem dX9_digestEvents_104 : decode cX9_digestEvents 104 = .ok (.lstore_n 3, 1) := by decide +kernel
theorem dX9_digestEvents_105 : decode cX9_digestEvents 105 = .ok (.lload_n 3, 1) := by decide +kernel
theorem dX9_digestEvents_106 : decode cX9_digestEvents 106 = .ok (.ldc2_w 257, 3) := by decide +kernel
theorem dX9_digestEvents_109 : decode cX9_digestEvents 109 = .ok (.lmul, 1) := by decide +kernel
theorem dX9_digestEvents_110 : decode cX9_digestEvents 110 = .ok (.iload 7, 2) := by decide +kernel
theorem dX9_digestEvents_112 : decode cX9_digestEvents 112 = .ok (.ifCond .eq 22, 3) := by decide +kernel
theorem dX9_digestEvents_115 : decode cX9_digestEvents 115 = .ok (.aload_n 0, 1) := by decide +kernel
theorem dX9_digestEvents_116 : decode cX9_digestEvents 116 = .ok (.getfield 39, 3) := by decide +kernel
theorem dX9_digestEvents_119 : decode cX9_digestEvents 119 = .ok (.iload 6, 2) := by decide +kernel
theorem dX9_digestEvents_121 : decode cX9_digestEvents 121 = .ok (.aload_n 0, 1) := by decide +kernel
theorem dX9_digestEvents_122 : decode cX9_digestEvents 122 = .ok (.getfield 48, 3) := by decide +kernel
theorem dX9_digestEvents_125 : decode cX9_digestEvents 125 = .ok (.getfield 162, 3) := by decide +kernel
theorem dX9_digestEvents_128 : decode cX9_digestEvents 128 = .ok (.invokevirtual 204, 3) := by decide +kernel
theorem dX9_digestEvents_131 : decode cX9_digestEvents 131 = .ok (.goto 4, 3) := by decide +kernel
theorem dX9_digestEvents_134 : decode cX9_digestEvents 134 = .ok (.iconst (-1), 1) := by decide +kernel
theorem dX9_digestEvents_135 : decode cX9_digestEvents 135 = .ok (.i2l, 1) := by decide +kernel
theorem dX9_digestEvents_136 : decode cX9_digestEvents 136 = .ok (.ladd, 1) := by decide +kernel
theorem dX9_digestEvents_137 : decode cX9_digestEvents 137 = .ok (.lstore_n 3, 1) := by decide +kernel
theorem dX9_digestEvents_138 : decode cX9_digestEvents 138 = .ok (.lload_n 3, 1) := by decide +kernel
theorem dX9_digestEvents_139 : decode cX9_digestEvents 139 = .ok (.ldc2_w 257, 3) := by decide +kernel
theorem dX9_digestEvents_142 : decode cX9_digestEvents 142 = .ok (.lmul, 1) := by decide +kernel
theorem dX9_digestEvents_143 : decode cX9_digestEvents 143 = .ok (.iload 5, 2) := by decide +kernel
theorem dX9_digestEvents_145 : decode cX9_digestEvents 145 = .ok (.ifCond .eq 18, 3) := by decide +kernel
theorem dX9_digestEvents_148 : decode cX9_digestEvents 148 = .ok (.aload_n 0, 1) := by decide +kernel
theorem dX9_digestEvents_149 : decode cX9_digestEvents 149 = .ok (.getfield 39, 3) := by decide +kernel
theorem dX9_digestEvents_152 : decode cX9_digestEvents 152 = .ok (.getfield 215, 3) := by decide +kernel
theorem dX9_digestEvents_155 : decode cX9_digestEvents 155 = .ok (.iload 6, 2) := by decide +kernel
theorem dX9_digestEvents_157 : decode cX9_digestEvents 157 = .ok (.invokevirtual 125, 3) := by decide +kernel
theorem dX9_digestEvents_160 : decode cX9_digestEvents 160 = .ok (.goto 4, 3) := by decide +kernel
theorem dX9_digestEvents_163 : decode cX9_digestEvents 163 = .ok (.iconst (-1), 1) := by decide +kernel
theorem dX9_digestEvents_164 : decode cX9_digestEvents 164 = .ok (.i2l, 1) := by decide +kernel
theorem dX9_digestEvents_165 : decode cX9_digestEvents 165 = .ok (.ladd, 1) := by decide +kernel
theorem dX9_digestEvents_166 : decode cX9_digestEvents 166 = .ok (.lstore_n 3, 1) := by decide +kernel
theorem dX9_digestEvents_167 : decode cX9_digestEvents 167 = .ok (.iinc 6 1, 3) := by decide +kernel
theorem dX9_digestEvents_170 : decode cX9_digestEvents 170 = .ok (.goto (-149), 3) := by decide +kernel
theorem dX9_digestEvents_173 : decode cX9_digestEvents 173 = .ok (.lload_n 3, 1) := by decide +kernel
theorem dX9_digestEvents_174 : decode cX9_digestEvents 174 = .ok (.lreturn, 1) := by decide +kernel
theorem dX9_needEvenings_0 : decode cX9_needEvenings 0 = .ok (.iload_n 1, 1) := by decide +kernel
theorem dX9_needEvenings_1 : decode cX9_needEvenings 1 = .ok (.iconst 1, 1) := by decide +kernel
theorem dX9_needEvenings_2 : decode cX9_needEvenings 2 = .ok (.if_icmp .lt 9, 3) := by decide +kernel
theorem dX9_needEvenings_5 : decode cX9_needEvenings 5 = .ok (.iload_n 1, 1) := by decide +kernel
theorem dX9_needEvenings_6 : decode cX9_needEvenings 6 = .ok (.bipush 30, 2) := by decide +kernel
theorem dX9_needEvenings_8 : decode cX9_needEvenings 8 = .ok (.if_icmp .le 14, 3) := by decide +kernel
theorem dX9_needEvenings_11 : decode cX9_needEvenings 11 = .ok (.new 76, 3) := by decide +kernel
theorem dX9_needEvenings_14 : decode cX9_needEvenings 14 = .ok (.dup, 1) := by decide +kernel
theorem dX9_needEvenings_15 : decode cX9_needEvenings 15 = .ok (.ldc_w 298, 3) := by decide +kernel
theorem dX9_needEvenings_18 : decode cX9_needEvenings 18 = .ok (.invokespecial 80, 3) := by decide +kernel
theorem dX9_needEvenings_21 : decode cX9_needEvenings 21 = .ok (.athrow, 1) := by decide +kernel
theorem dX9_needEvenings_22 : decode cX9_needEvenings 22 = .ok (.return_, 1) := by decide +kernel
theorem dX9_has_0 : decode cX9_has 0 = .ok (.iload_n 0, 1) := by decide +kernel
theorem dX9_has_1 : decode cX9_has 1 = .ok (.iload_n 1, 1) := by decide +kernel
theorem dX9_has_2 : decode cX9_has 2 = .ok (.ishr, 1) := by decide +kernel
theorem dX9_has_3 : decode cX9_has 3 = .ok (.iconst 1, 1) := by decide +kernel
theorem dX9_has_4 : decode cX9_has 4 = .ok (.iand, 1) := by decide +kernel
theorem dX9_has_5 : decode cX9_has 5 = .ok (.ifCond .eq 7, 3) := by decide +kernel
theorem dX9_has_8 : decode cX9_has 8 = .ok (.iconst 1, 1) := by decide +kernel
theorem dX9_has_9 : decode cX9_has 9 = .ok (.goto 4, 3) := by decide +kernel
theorem dX9_has_12 : decode cX9_has 12 = .ok (.iconst 0, 1) := by decide +kernel
theorem dX9_has_13 : decode cX9_has 13 = .ok (.ireturn, 1) := by decide +kernel
theorem dX9_one_0 : decode cX9_one 0 = .ok (.iload_n 0, 1) := by decide +kernel
theorem dX9_one_1 : decode cX9_one 1 = .ok (.ifCond .eq 7, 3) := by decide +kernel
theorem dX9_one_4 : decode cX9_one 4 = .ok (.iconst 1, 1) := by decide +kernel
theorem dX9_one_5 : decode cX9_one 5 = .ok (.goto 4, 3) := by decide +kernel
theorem dX9_one_8 : decode cX9_one 8 = .ok (.iconst 0, 1) := by decide +kernel
theorem dX9_one_9 : decode cX9_one 9 = .ok (.ireturn, 1) := by decide +kernel
theorem dX10_init_0 : decode cX10_init 0 = .ok (.aload_n 0, 1) := by decide +kernel
theorem dX10_init_1 : decode cX10_init 1 = .ok (.invokespecial 1, 3) := by decide +kernel
theorem dX10_init_4 : decode cX10_init 4 = .ok (.aload_n 0, 1) := by decide +kernel
theorem dX10_init_5 : decode cX10_init 5 = .ok (.iconst 0, 1) := by decide +kernel
theorem dX10_init_6 : decode cX10_init 6 = .ok (.anewarray 7, 3) := by decide +kernel
theorem dX10_init_9 : decode cX10_init 9 = .ok (.putfield 9, 3) := by decide +kernel
theorem dX10_init_12 : decode cX10_init 12 = .ok (.aload_n 0, 1) := by decide +kernel
theorem dX10_init_13 : decode cX10_init 13 = .ok (.bipush 10, 2) := by decide +kernel
theorem dX10_init_15 : decode cX10_init 15 = .ok (.newarray .boolean, 2) := by decide +kernel
theorem dX10_init_17 : decode cX10_init 17 = .ok (.putfield 15, 3) := by decide +kernel
theorem dX10_init_20 : decode cX10_init 20 = .ok (.aload_n 0, 1) := by decide +kernel
theorem dX10_init_21 : decode cX10_init 21 = .ok (.iconst 0, 1) := by decide +kernel
theorem dX10_init_22 : decode cX10_init 22 = .ok (.anewarray 7, 3) := by decide +kernel
theorem dX10_init_25 : decode cX10_init 25 = .ok (.putfield 19, 3) := by decide +kernel
theorem dX10_init_28 : decode cX10_init 28 = .ok (.aload_n 0, 1) := by decide +kernel
theorem dX10_init_29 : decode cX10_init 29 = .ok (.iconst 0, 1) := by decide +kernel
theorem dX10_init_30 : decode cX10_init 30 = .ok (.anewarray 22, 3) := by decide +kernel
theorem dX10_init_33 : decode cX10_init 33 = .ok (.putfield 24, 3) := by decide +kernel
theorem dX10_init_36 : decode cX10_init 36 = .ok (.return_, 1) := by decide +kernel
theorem dX10_with_0 : decode cX10_with 0 = .ok (.aload_n 0, 1) := by decide +kernel
theorem dX10_with_1 : decode cX10_with 1 = .ok (.arraylength, 1) := by decide +kernel
theorem dX10_with_2 : decode cX10_with 2 = .ok (.iconst 1, 1) := by decide +kernel
theorem dX10_with_3 : decode cX10_with 3 = .ok (.iadd, 1) := by decide +kernel
theorem dX10_with_4 : decode cX10_with 4 = .ok (.anewarray 7, 3) := by decide +kernel
theorem dX10_with_7 : decode cX10_with 7 = .ok (.astore_n 2, 1) := by decide +kernel
theorem dX10_with_8 : decode cX10_with 8 = .ok (.iconst 0, 1) := by decide +kernel
theorem dX10_with_9 : decode cX10_with 9 = .ok (.istore_n 3, 1) := by decide +kernel
theorem dX10_with_10 : decode cX10_with 10 = .ok (.iload_n 3, 1) := by decide +kernel
theorem dX10_with_11 : decode cX10_with 11 = .ok (.aload_n 0, 1) := by decide +kernel
theorem dX10_with_12 : decode cX10_with 12 = .ok (.arraylength, 1) := by decide +kernel
theorem dX10_with_13 : decode cX10_with 13 = .ok (.if_icmp .ge 15, 3) := by decide +kernel
theorem dX10_with_16 : decode cX10_with 16 = .ok (.aload_n 2, 1) := by decide +kernel
theorem dX10_with_17 : decode cX10_with 17 = .ok (.iload_n 3, 1) := by decide +kernel
theorem dX10_with_18 : decode cX10_with 18 = .ok (.aload_n 0, 1) := by decide +kernel
theorem dX10_with_19 : decode cX10_with 19 = .ok (.iload_n 3, 1) := by decide +kernel
theorem dX10_with_20 : decode cX10_with 20 = .ok (.aaload, 1) := by decide +kernel
theorem dX10_with_21 : decode cX10_with 21 = .ok (.aastore, 1) := by decide +kernel
theorem dX10_with_22 : decode cX10_with 22 = .ok (.iinc 3 1, 3) := by decide +kernel
theorem dX10_with_25 : decode cX10_with 25 = .ok (.goto (-15), 3) := by decide +kernel
theorem dX10_with_28 : decode cX10_with 28 = .ok (.aload_n 2, 1) := by decide +kernel
theorem dX10_with_29 : decode cX10_with 29 = .ok (.aload_n 0, 1) := by decide +kernel
theorem dX10_with_30 : decode cX10_with 30 = .ok (.arraylength, 1) := by decide +kernel
theorem dX10_with_31 : decode cX10_with 31 = .ok (.aload_n 1, 1) := by decide +kernel
theorem dX10_with_32 : decode cX10_with 32 = .ok (.aastore, 1) := by decide +kernel
theorem dX10_with_33 : decode cX10_with 33 = .ok (.aload_n 2, 1) := by decide +kernel
theorem dX10_with_34 : decode cX10_with 34 = .ok (.areturn, 1) := by decide +kernel
theorem dX10_takeBack_0 : decode cX10_takeBack 0 = .ok (.iconst 0, 1) := by decide +kernel
theorem dX10_takeBack_1 : decode cX10_takeBack 1 = .ok (.anewarray 7, 3) := by decide +kernel
theorem dX10_takeBack_4 : decode cX10_takeBack 4 = .ok (.astore_n 2, 1) := by decide +kernel
theorem dX10_takeBack_5 : decode cX10_takeBack 5 = .ok (.iconst 0, 1) := by decide +kernel
theorem dX10_takeBack_6 : decode cX10_takeBack 6 = .ok (.istore_n 3, 1) := by decide +kernel
theorem dX10_takeBack_7 : decode cX10_takeBack 7 = .ok (.iload_n 3, 1) := by decide +kernel
theorem dX10_takeBack_8 : decode cX10_takeBack 8 = .ok (.aload_n 0, 1) := by decide +kernel
theorem dX10_takeBack_9 : decode cX10_takeBack 9 = .ok (.getfield 9, 3) := by decide +kernel
theorem dX10_takeBack_12 : decode cX10_takeBack 12 = .ok (.arraylength, 1) := by decide +kernel
theorem dX10_takeBack_13 : decode cX10_takeBack 13 = .ok (.if_icmp .ge 25, 3) := by decide +kernel
theorem dX10_takeBack_16 : decode cX10_takeBack 16 = .ok (.iload_n 3, 1) := by decide +kernel
theorem dX10_takeBack_17 : decode cX10_takeBack 17 = .ok (.iload_n 1, 1) := by decide +kernel
theorem dX10_takeBack_18 : decode cX10_takeBack 18 = .ok (.if_icmp .eq 14, 3) := by decide +kernel
theorem dX10_takeBack_21 : decode cX10_takeBack 21 = .ok (.aload_n 2, 1) := by decide +kernel
theorem dX10_takeBack_22 : decode cX10_takeBack 22 = .ok (.aload_n 0, 1) := by decide +kernel
theorem dX10_takeBack_23 : decode cX10_takeBack 23 = .ok (.getfield 9, 3) := by decide +kernel
theorem dX10_takeBack_26 : decode cX10_takeBack 26 = .ok (.iload_n 3, 1) := by decide +kernel
theorem dX10_takeBack_27 : decode cX10_takeBack 27 = .ok (.aaload, 1) := by decide +kernel
theorem dX10_takeBack_28 : decode cX10_takeBack 28 = .ok (.invokestatic 42, 3) := by decide +kernel
theorem dX10_takeBack_31 : decode cX10_takeBack 31 = .ok (.astore_n 2, 1) := by decide +kernel
theorem dX10_takeBack_32 : decode cX10_takeBack 32 = .ok (.iinc 3 1, 3) := by decide +kernel
theorem dX10_takeBack_35 : decode cX10_takeBack 35 = .ok (.goto (-28), 3) := by decide +kernel
theorem dX10_takeBack_38 : decode cX10_takeBack 38 = .ok (.aload_n 0, 1) := by decide +kernel
theorem dX10_takeBack_39 : decode cX10_takeBack 39 = .ok (.aload_n 2, 1) := by decide +kernel
theorem dX10_takeBack_40 : decode cX10_takeBack 40 = .ok (.putfield 9, 3) := by decide +kernel
theorem dX10_takeBack_43 : decode cX10_takeBack 43 = .ok (.return_, 1) := by decide +kernel
theorem dX10_isContrary_0 : decode cX10_isContrary 0 = .ok (.aload_n 0, 1) := by decide +kernel
theorem dX10_isContrary_1 : decode cX10_isContrary 1 = .ok (.iconst 0, 1) := by decide +kernel
theorem dX10_isContrary_2 : decode cX10_isContrary 2 = .ok (.iaload, 1) := by decide +kernel
theorem dX10_isContrary_3 : decode cX10_isContrary 3 = .ok (.ifCond .ne 55, 3) := by decide +kernel
theorem dX10_isContrary_6 : decode cX10_isContrary 6 = .ok (.aload_n 1, 1) := by decide +kernel
theorem dX10_isContrary_7 : decode cX10_isContrary 7 = .ok (.iconst 0, 1) := by decide +kernel
theorem dX10_isContrary_8 : decode cX10_isContrary 8 = .ok (.iaload, 1) := by decide +kernel
theorem dX10_isContrary_9 : decode cX10_isContrary 9 = .ok (.ifCond .ne 49, 3) := by decide +kernel
theorem dX10_isContrary_12 : decode cX10_isContrary 12 = .ok (.aload_n 0, 1) := by decide +kernel
theorem dX10_isContrary_13 : decode cX10_isContrary 13 = .ok (.iconst 2, 1) := by decide +kernel
theorem dX10_isContrary_14 : decode cX10_isContrary 14 = .ok (.iaload, 1) := by decide +kernel
theorem dX10_isContrary_15 : decode cX10_isContrary 15 = .ok (.aload_n 1, 1) := by decide +kernel
theorem dX10_isContrary_16 : decode cX10_isContrary 16 = .ok (.iconst 2, 1) := by decide +kernel
theorem dX10_isContrary_17 : decode cX10_isContrary 17 = .ok (.iaload, 1) := by decide +kernel
theorem dX10_isContrary_18 : decode cX10_isContrary 18 = .ok (.if_icmp .eq 5, 3) := by decide +kernel
theorem dX10_isContrary_21 : decode cX10_isContrary 21 = .ok (.iconst 0, 1) := by decide +kernel
theorem dX10_isContrary_22 : decode cX10_isContrary 22 = .ok (.ireturn, 1) := by decide +kernel
theorem dX10_isContrary_23 : decode cX10_isContrary 23 = .ok (.aload_n 0, 1) := by decide +kernel
theorem dX10_isContrary_24 : decode cX10_isContrary 24 = .ok (.iconst 3, 1) := by decide +kernel
theorem dX10_isContrary_25 : decode cX10_isContrary 25 = .ok (.iaload, 1) := by decide +kernel
theorem dX10_isContrary_26 : decode cX10_isContrary 26 = .ok (.istore_n 2, 1) := by decide +kernel
theorem dX10_isContrary_27 : decode cX10_isContrary 27 = .ok (.iload_n 2, 1) := by decide +kernel
theorem dX10_isContrary_28 : decode cX10_isContrary 28 = .ok (.aload_n 0, 1) := by decide +kernel
theorem dX10_isContrary_29 : decode cX10_isContrary 29 = .ok (.iconst 4, 1) := by decide +kernel
theorem dX10_isContrary_30 : decode cX10_isContrary 30 = .ok (.iaload, 1) := by decide +kernel
theorem dX10_isContrary_31 : decode cX10_isContrary 31 = .ok (.if_icmp .gt 25, 3) := by decide +kernel
theorem dX10_isContrary_34 : decode cX10_isContrary 34 = .ok (.iload_n 2, 1) := by decide +kernel
theorem dX10_isContrary_35 : decode cX10_isContrary 35 = .ok (.aload_n 1, 1) := by decide +kernel
theorem dX10_isContrary_36 : decode cX10_isContrary 36 = .ok (.iconst 3, 1) := by decide +kernel
theorem dX10_isContrary_37 : decode cX10_isContrary 37 = .ok (.iaload, 1) := by decide +kernel
theorem dX10_isContrary_38 : decode cX10_isContrary 38 = .ok (.if_icmp .lt 12, 3) := by decide +kernel
theorem dX10_isContrary_41 : decode cX10_isContrary 41 = .ok (.iload_n 2, 1) := by decide +kernel
theorem dX10_isContrary_42 : decode cX10_isContrary 42 = .ok (.aload_n 1, 1) := by decide +kernel
theorem dX10_isContrary_43 : decode cX10_isContrary 43 = .ok (.iconst 4, 1) := by decide +kernel
theorem dX10_isContrary_44 : decode cX10_isContrary 44 = .ok (.iaload, 1) := by decide +kernel
theorem dX10_isContrary_45 : decode cX10_isContrary 45 = .ok (.if_icmp .gt 5, 3) := by decide +kernel
theorem dX10_isContrary_48 : decode cX10_isContrary 48 = .ok (.iconst 0, 1) := by decide +kernel
theorem dX10_isContrary_49 : decode cX10_isContrary 49 = .ok (.ireturn, 1) := by decide +kernel
theorem dX10_isContrary_50 : decode cX10_isContrary 50 = .ok (.iinc 2 1, 3) := by decide +kernel
theorem dX10_isContrary_53 : decode cX10_isContrary 53 = .ok (.goto (-26), 3) := by decide +kernel
theorem dX10_isContrary_56 : decode cX10_isContrary 56 = .ok (.iconst 1, 1) := by decide +kernel
theorem dX10_isContrary_57 : decode cX10_isContrary 57 = .ok (.ireturn, 1) := by decide +kernel
theorem dX10_isContrary_58 : decode cX10_isContrary 58 = .ok (.aload_n 0, 1) := by decide +kernel
theorem dX10_isContrary_59 : decode cX10_isContrary 59 = .ok (.iconst 0, 1) := by decide +kernel
theorem dX10_isContrary_60 : decode cX10_isContrary 60 = .ok (.iaload, 1) := by decide +kernel
theorem dX10_isContrary_61 : decode cX10_isContrary 61 = .ok (.ifCond .eq 23, 3) := by decide +kernel
theorem dX10_isContrary_64 : decode cX10_isContrary 64 = .ok (.aload_n 1, 1) := by decide +kernel
theorem dX10_isContrary_65 : decode cX10_isContrary 65 = .ok (.iconst 0, 1) := by decide +kernel
theorem dX10_isContrary_66 : decode cX10_isContrary 66 = .ok (.iaload, 1) := by decide +kernel
theorem dX10_isContrary_67 : decode cX10_isContrary 67 = .ok (.ifCond .eq 17, 3) := by decide +kernel
theorem dX10_isContrary_70 : decode cX10_isContrary 70 = .ok (.aload_n 0, 1) := by decide +kernel
theorem dX10_isContrary_71 : decode cX10_isContrary 71 = .ok (.iconst 0, 1) := by decide +kernel
theorem dX10_isContrary_72 : decode cX10_isContrary 72 = .ok (.iaload, 1) := by decide +kernel
theorem dX10_isContrary_73 : decode cX10_isContrary 73 = .ok (.iconst 2, 1) := by decide +kernel
theorem dX10_isContrary_74 : decode cX10_isContrary 74 = .ok (.if_icmp .ne 12, 3) := by decide +kernel
theorem dX10_isContrary_77 : decode cX10_isContrary 77 = .ok (.aload_n 1, 1) := by decide +kernel
theorem dX10_isContrary_78 : decode cX10_isContrary 78 = .ok (.iconst 0, 1) := by decide +kernel
theorem dX10_isContrary_79 : decode cX10_isContrary 79 = .ok (.iaload, 1) := by decide +kernel
theorem dX10_isContrary_80 : decode cX10_isContrary 80 = .ok (.iconst 2, 1) := by decide +kernel
theorem dX10_isContrary_81 : decode cX10_isContrary 81 = .ok (.if_icmp .ne 5, 3) := by decide +kernel
theorem dX10_isContrary_84 : decode cX10_isContrary 84 = .ok (.iconst 0, 1) := by decide +kernel
theorem dX10_isContrary_85 : decode cX10_isContrary 85 = .ok (.ireturn, 1) := by decide +kernel
theorem dX10_isContrary_86 : decode cX10_isContrary 86 = .ok (.aload_n 0, 1) := by decide +kernel
theorem dX10_isContrary_87 : decode cX10_isContrary 87 = .ok (.iconst 2, 1) := by decide +kernel
theorem dX10_isContrary_88 : decode cX10_isContrary 88 = .ok (.iaload, 1) := by decide +kernel
theorem dX10_isContrary_89 : decode cX10_isContrary 89 = .ok (.aload_n 1, 1) := by decide +kernel
theorem dX10_isContrary_90 : decode cX10_isContrary 90 = .ok (.iconst 2, 1) := by decide +kernel
theorem dX10_isContrary_91 : decode cX10_isContrary 91 = .ok (.iaload, 1) := by decide +kernel
theorem dX10_isContrary_92 : decode cX10_isContrary 92 = .ok (.if_icmp .ne 16, 3) := by decide +kernel
theorem dX10_isContrary_95 : decode cX10_isContrary 95 = .ok (.aload_n 0, 1) := by decide +kernel
theorem dX10_isContrary_96 : decode cX10_isContrary 96 = .ok (.iconst 3, 1) := by decide +kernel
theorem dX10_isContrary_97 : decode cX10_isContrary 97 = .ok (.iaload, 1) := by decide +kernel
theorem dX10_isContrary_98 : decode cX10_isContrary 98 = .ok (.aload_n 1, 1) := by decide +kernel
theorem dX10_isContrary_99 : decode cX10_isContrary 99 = .ok (.iconst 3, 1) := by decide +kernel
theorem dX10_isContrary_100 : decode cX10_isContrary 100 = .ok (.iaload, 1) := by decide +kernel
theorem dX10_isContrary_101 : decode cX10_isContrary 101 = .ok (.if_icmp .ne 7, 3) := by decide +kernel
theorem dX10_isContrary_104 : decode cX10_isContrary 104 = .ok (.iconst 1, 1) := by decide +kernel
theorem dX10_isContrary_105 : decode cX10_isContrary 105 = .ok (.goto 4, 3) := by decide +kernel
theorem dX10_isContrary_108 : decode cX10_isContrary 108 = .ok (.iconst 0, 1) := by decide +kernel
theorem dX10_isContrary_109 : decode cX10_isContrary 109 = .ok (.istore_n 2, 1) := by decide +kernel
theorem dX10_isContrary_110 : decode cX10_isContrary 110 = .ok (.aload_n 0, 1) := by decide +kernel
theorem dX10_isContrary_111 : decode cX10_isContrary 111 = .ok (.iconst 2, 1) := by decide +kernel
theorem dX10_isContrary_112 : decode cX10_isContrary 112 = .ok (.iaload, 1) := by decide +kernel
theorem dX10_isContrary_113 : decode cX10_isContrary 113 = .ok (.aload_n 1, 1) := by decide +kernel
theorem dX10_isContrary_114 : decode cX10_isContrary 114 = .ok (.iconst 3, 1) := by decide +kernel
theorem dX10_isContrary_115 : decode cX10_isContrary 115 = .ok (.iaload, 1) := by decide +kernel
theorem dX10_isContrary_116 : decode cX10_isContrary 116 = .ok (.if_icmp .ne 16, 3) := by decide +kernel
theorem dX10_isContrary_119 : decode cX10_isContrary 119 = .ok (.aload_n 0, 1) := by decide +kernel
theorem dX10_isContrary_120 : decode cX10_isContrary 120 = .ok (.iconst 3, 1) := by decide +kernel
theorem dX10_isContrary_121 : decode cX10_isContrary 121 = .ok (.iaload, 1) := by decide +kernel
theorem dX10_isContrary_122 : decode cX10_isContrary 122 = .ok (.aload_n 1, 1) := by decide +kernel
theorem dX10_isContrary_123 : decode cX10_isContrary 123 = .ok (.iconst 2, 1) := by decide +kernel
theorem dX10_isContrary_124 : decode cX10_isContrary 124 = .ok (.iaload, 1) := by decide +kernel
theorem dX10_isContrary_125 : decode cX10_isContrary 125 = .ok (.if_icmp .ne 7, 3) := by decide +kernel
theorem dX10_isContrary_128 : decode cX10_isContrary 128 = .ok (.iconst 1, 1) := by decide +kernel
theorem dX10_isContrary_129 : decode cX10_isContrary 129 = .ok (.goto 4, 3) := by decide +kernel
theorem dX10_isContrary_132 : decode cX10_isContrary 132 = .ok (.iconst 0, 1) := by decide +kernel
theorem dX10_isContrary_133 : decode cX10_isContrary 133 = .ok (.istore_n 3, 1) := by decide +kernel
theorem dX10_isContrary_134 : decode cX10_isContrary 134 = .ok (.aload_n 0, 1) := by decide +kernel
theorem dX10_isContrary_135 : decode cX10_isContrary 135 = .ok (.iconst 0, 1) := by decide +kernel
theorem dX10_isContrary_136 : decode cX10_isContrary 136 = .ok (.iaload, 1) := by decide +kernel
theorem dX10_isContrary_137 : decode cX10_isContrary 137 = .ok (.aload_n 1, 1) := by decide +kernel
theorem dX10_isContrary_138 : decode cX10_isContrary 138 = .ok (.iconst 0, 1) := by decide +kernel
theorem dX10_isContrary_139 : decode cX10_isContrary 139 = .ok (.iaload, 1) := by decide +kernel
theorem dX10_isContrary_140 : decode cX10_isContrary 140 = .ok (.if_icmp .ne 7, 3) := by decide +kernel
theorem dX10_isContrary_143 : decode cX10_isContrary 143 = .ok (.iload_n 3, 1) := by decide +kernel
theorem dX10_isContrary_144 : decode cX10_isContrary 144 = .ok (.goto 16, 3) := by decide +kernel
theorem dX10_isContrary_147 : decode cX10_isContrary 147 = .ok (.iload_n 2, 1) := by decide +kernel
theorem dX10_isContrary_148 : decode cX10_isContrary 148 = .ok (.ifCond .ne 7, 3) := by decide +kernel
theorem dX10_isContrary_151 : decode cX10_isContrary 151 = .ok (.iload_n 3, 1) := by decide +kernel
theorem dX10_isContrary_152 : decode cX10_isContrary 152 = .ok (.ifCond .eq 7, 3) := by decide +kernel
theorem dX10_isContrary_155 : decode cX10_isContrary 155 = .ok (.iconst 1, 1) := by decide +kernel
theorem dX10_isContrary_156 : decode cX10_isContrary 156 = .ok (.goto 4, 3) := by decide +kernel
theorem dX10_isContrary_159 : decode cX10_isContrary 159 = .ok (.iconst 0, 1) := by decide +kernel
theorem dX10_isContrary_160 : decode cX10_isContrary 160 = .ok (.ireturn, 1) := by decide +kernel
theorem dX10_claimsOf_0 : decode cX10_claimsOf 0 = .ok (.iconst 0, 1) := by decide +kernel
theorem dX10_claimsOf_1 : decode cX10_claimsOf 1 = .ok (.istore_n 2, 1) := by decide +kernel
theorem dX10_claimsOf_2 : decode cX10_claimsOf 2 = .ok (.aload_n 0, 1) := by decide +kernel
theorem dX10_claimsOf_3 : decode cX10_claimsOf 3 = .ok (.getfield 9, 3) := by decide +kernel
theorem dX10_claimsOf_6 : decode cX10_claimsOf 6 = .ok (.astore_n 3, 1) := by decide +kernel
theorem dX10_claimsOf_7 : decode cX10_claimsOf 7 = .ok (.aload_n 3, 1) := by decide +kernel
theorem dX10_claimsOf_8 : decode cX10_claimsOf 8 = .ok (.arraylength, 1) := by decide +kernel
theorem dX10_claimsOf_9 : decode cX10_claimsOf 9 = .ok (.istore 4, 2) := by decide +kernel
theorem dX10_claimsOf_11 : decode cX10_claimsOf 11 = .ok (.iconst 0, 1) := by decide +kernel
theorem dX10_claimsOf_12 : decode cX10_claimsOf 12 = .ok (.istore 5, 2) := by decide +kernel
theorem dX10_claimsOf_14 : decode cX10_claimsOf 14 = .ok (.iload 5, 2) := by decide +kernel
theorem dX10_claimsOf_16 : decode cX10_claimsOf 16 = .ok (.iload 4, 2) := by decide +kernel
theorem dX10_claimsOf_18 : decode cX10_claimsOf 18 = .ok (.if_icmp .ge 31, 3) := by decide +kernel
theorem dX10_claimsOf_21 : decode cX10_claimsOf 21 = .ok (.aload_n 3, 1) := by decide +kernel
theorem dX10_claimsOf_22 : decode cX10_claimsOf 22 = .ok (.iload 5, 2) := by decide +kernel
theorem dX10_claimsOf_24 : decode cX10_claimsOf 24 = .ok (.aaload, 1) := by decide +kernel
theorem dX10_claimsOf_25 : decode cX10_claimsOf 25 = .ok (.astore 6, 2) := by decide +kernel
theorem dX10_claimsOf_27 : decode cX10_claimsOf 27 = .ok (.iload_n 2, 1) := by decide +kernel
theorem dX10_claimsOf_28 : decode cX10_claimsOf 28 = .ok (.aload 6, 2) := by decide +kernel
theorem dX10_claimsOf_30 : decode cX10_claimsOf 30 = .ok (.iconst 1, 1) := by decide +kernel
theorem dX10_claimsOf_31 : decode cX10_claimsOf 31 = .ok (.iaload, 1) := by decide +kernel
theorem dX10_claimsOf_32 : decode cX10_claimsOf 32 = .ok (.iload_n 1, 1) := by decide +kernel
theorem dX10_claimsOf_33 : decode cX10_claimsOf 33 = .ok (.if_icmp .ne 7, 3) := by decide +kernel
theorem dX10_claimsOf_36 : decode cX10_claimsOf 36 = .ok (.iconst 1, 1) := by decide +kernel
theorem dX10_claimsOf_37 : decode cX10_claimsOf 37 = .ok (.goto 4, 3) := by decide +kernel
theorem dX10_claimsOf_40 : decode cX10_claimsOf 40 = .ok (.iconst 0, 1) := by decide +kernel
theorem dX10_claimsOf_41 : decode cX10_claimsOf 41 = .ok (.iadd, 1) := by decide +kernel
theorem dX10_claimsOf_42 : decode cX10_claimsOf 42 = .ok (.istore_n 2, 1) := by decide +kernel
theorem dX10_claimsOf_43 : decode cX10_claimsOf 43 = .ok (.iinc 5 1, 3) := by decide +kernel
theorem dX10_claimsOf_46 : decode cX10_claimsOf 46 = .ok (.goto (-32), 3) := by decide +kernel
theorem dX10_claimsOf_49 : decode cX10_claimsOf 49 = .ok (.iload_n 2, 1) := by decide +kernel
theorem dX10_claimsOf_50 : decode cX10_claimsOf 50 = .ok (.ireturn, 1) := by decide +kernel
theorem dX10_pairs_0 : decode cX10_pairs 0 = .ok (.iconst 0, 1) := by decide +kernel
theorem dX10_pairs_1 : decode cX10_pairs 1 = .ok (.istore_n 3, 1) := by decide +kernel
theorem dX10_pairs_2 : decode cX10_pairs 2 = .ok (.iconst 0, 1) := by decide +kernel
theorem dX10_pairs_3 : decode cX10_pairs 3 = .ok (.istore 4, 2) := by decide +kernel
theorem dX10_pairs_5 : decode cX10_pairs 5 = .ok (.iload 4, 2) := by decide +kernel
theorem dX10_pairs_7 : decode cX10_pairs 7 = .ok (.aload_n 0, 1) := by decide +kernel
theorem dX10_pairs_8 : decode cX10_pairs 8 = .ok (.getfield 9, 3) := by decide +kernel
theorem dX10_pairs_11 : decode cX10_pairs 11 = .ok (.arraylength, 1) := by decide +kernel
theorem dX10_pairs_12 : decode cX10_pairs 12 = .ok (.if_icmp .ge 118, 3) := by decide +kernel
theorem dX10_pairs_15 : decode cX10_pairs 15 = .ok (.iload 4, 2) := by decide +kernel
theorem dX10_pairs_17 : decode cX10_pairs 17 = .ok (.iconst 1, 1) := by decide +kernel
theorem dX10_pairs_18 : decode cX10_pairs 18 = .ok (.iadd, 1) := by decide +kernel
theorem dX10_pairs_19 : decode cX10_pairs 19 = .ok (.istore 5, 2) := by decide +kernel
theorem dX10_pairs_21 : decode cX10_pairs 21 = .ok (.iload 5, 2) := by decide +kernel
theorem dX10_pairs_23 : decode cX10_pairs 23 = .ok (.aload_n 0, 1) := by decide +kernel
theorem dX10_pairs_24 : decode cX10_pairs 24 = .ok (.getfield 9, 3) := by decide +kernel
theorem dX10_pairs_27 : decode cX10_pairs 27 = .ok (.arraylength, 1) := by decide +kernel
theorem dX10_pairs_28 : decode cX10_pairs 28 = .ok (.if_icmp .ge 96, 3) := by decide +kernel
theorem dX10_pairs_31 : decode cX10_pairs 31 = .ok (.aload_n 0, 1) := by decide +kernel
theorem dX10_pairs_32 : decode cX10_pairs 32 = .ok (.getfield 9, 3) := by decide +kernel
theorem dX10_pairs_35 : decode cX10_pairs 35 = .ok (.iload 4, 2) := by decide +kernel
theorem dX10_pairs_37 : decode cX10_pairs 37 = .ok (.aaload, 1) := by decide +kernel
theorem dX10_pairs_38 : decode cX10_pairs 38 = .ok (.iconst 1, 1) := by decide +kernel
theorem dX10_pairs_39 : decode cX10_pairs 39 = .ok (.iaload, 1) := by decide +kernel
theorem dX10_pairs_40 : decode cX10_pairs 40 = .ok (.iload_n 1, 1) := by decide +kernel
theorem dX10_pairs_41 : decode cX10_pairs 41 = .ok (.if_icmp .ne 16, 3) := by decide +kernel
theorem dX10_pairs_44 : decode cX10_pairs 44 = .ok (.aload_n 0, 1) := by decide +kernel
theorem dX10_pairs_45 : decode cX10_pairs 45 = .ok (.getfield 9, 3) := by decide +kernel
theorem dX10_pairs_48 : decode cX10_pairs 48 = .ok (.iload 5, 2) := by decide +kernel
theorem dX10_pairs_50 : decode cX10_pairs 50 = .ok (.aaload, 1) := by decide +kernel
theorem dX10_pairs_51 : decode cX10_pairs 51 = .ok (.iconst 1, 1) := by decide +kernel
theorem dX10_pairs_52 : decode cX10_pairs 52 = .ok (.iaload, 1) := by decide +kernel
theorem dX10_pairs_53 : decode cX10_pairs 53 = .ok (.iload_n 2, 1) := by decide +kernel
theorem dX10_pairs_54 : decode cX10_pairs 54 = .ok (.if_icmp .eq 29, 3) := by decide +kernel
theorem dX10_pairs_57 : decode cX10_pairs 57 = .ok (.aload_n 0, 1) := by decide +kernel
theorem dX10_pairs_58 : decode cX10_pairs 58 = .ok (.getfield 9, 3) := by decide +kernel
theorem dX10_pairs_61 : decode cX10_pairs 61 = .ok (.iload 4, 2) := by decide +kernel
theorem dX10_pairs_63 : decode cX10_pairs 63 = .ok (.aaload, 1) := by decide +kernel
theorem dX10_pairs_64 : decode cX10_pairs 64 = .ok (.iconst 1, 1) := by decide +kernel
theorem dX10_pairs_65 : decode cX10_pairs 65 = .ok (.iaload, 1) := by decide +kernel
theorem dX10_pairs_66 : decode cX10_pairs 66 = .ok (.iload_n 2, 1) := by decide +kernel
theorem dX10_pairs_67 : decode cX10_pairs 67 = .ok (.if_icmp .ne 20, 3) := by decide +kernel
theorem dX10_pairs_70 : decode cX10_pairs 70 = .ok (.aload_n 0, 1) := by decide +kernel
theorem dX10_pairs_71 : decode cX10_pairs 71 = .ok (.getfield 9, 3) := by decide +kernel
theorem dX10_pairs_74 : decode cX10_pairs 74 = .ok (.iload 5, 2) := by decide +kernel
theorem dX10_pairs_76 : decode cX10_pairs 76 = .ok (.aaload, 1) := by decide +kernel
theorem dX10_pairs_77 : decode cX10_pairs 77 = .ok (.iconst 1, 1) := by decide +kernel
theorem dX10_pairs_78 : decode cX10_pairs 78 = .ok (.iaload, 1) := by decide +kernel
theorem dX10_pairs_79 : decode cX10_pairs 79 = .ok (.iload_n 1, 1) := by decide +kernel
theorem dX10_pairs_80 : decode cX10_pairs 80 = .ok (.if_icmp .ne 7, 3) := by decide +kernel
theorem dX10_pairs_83 : decode cX10_pairs 83 = .ok (.iconst 1, 1) := by decide +kernel
theorem dX10_pairs_84 : decode cX10_pairs 84 = .ok (.goto 4, 3) := by decide +kernel
theorem dX10_pairs_87 : decode cX10_pairs 87 = .ok (.iconst 0, 1) := by decide +kernel
theorem dX10_pairs_88 : decode cX10_pairs 88 = .ok (.istore 6, 2) := by decide +kernel
theorem dX10_pairs_90 : decode cX10_pairs 90 = .ok (.iload 6, 2) := by decide +kernel
theorem dX10_pairs_92 : decode cX10_pairs 92 = .ok (.ifCond .eq 26, 3) := by decide +kernel
theorem dX10_pairs_95 : decode cX10_pairs 95 = .ok (.aload_n 0, 1) := by decide +kernel
theorem dX10_pairs_96 : decode cX10_pairs 96 = .ok (.getfield 9, 3) := by decide +kernel
theorem dX10_pairs_99 : decode cX10_pairs 99 = .ok (.iload 4, 2) := by decide +kernel
theorem dX10_pairs_101 : decode cX10_pairs 101 = .ok (.aaload, 1) := by decide +kernel
theorem dX10_pairs_102 : decode cX10_pairs 102 = .ok (.aload_n 0, 1) := by decide +kernel
theorem dX10_pairs_103 : decode cX10_pairs 103 = .ok (.getfield 9, 3) := by decide +kernel
theorem dX10_pairs_106 : decode cX10_pairs 106 = .ok (.iload 5, 2) := by decide +kernel
theorem dX10_pairs_108 : decode cX10_pairs 108 = .ok (.aaload, 1) := by decide +kernel
theorem dX10_pairs_109 : decode cX10_pairs 109 = .ok (.invokestatic 46, 3) := by decide +kernel
theorem dX10_pairs_112 : decode cX10_pairs 112 = .ok (.ifCond .eq 6, 3) := by decide +kernel
theorem dX10_pairs_115 : decode cX10_pairs 115 = .ok (.iinc 3 1, 3) := by decide +kernel
theorem dX10_pairs_118 : decode cX10_pairs 118 = .ok (.iinc 5 1, 3) := by decide +kernel
theorem dX10_pairs_121 : decode cX10_pairs 121 = .ok (.goto (-100), 3) := by decide +kernel
theorem dX10_pairs_124 : decode cX10_pairs 124 = .ok (.iinc 4 1, 3) := by decide +kernel
theorem dX10_pairs_127 : decode cX10_pairs 127 = .ok (.goto (-122), 3) := by decide +kernel
theorem dX10_pairs_130 : decode cX10_pairs 130 = .ok (.iload_n 3, 1) := by decide +kernel
theorem dX10_pairs_131 : decode cX10_pairs 131 = .ok (.ireturn, 1) := by decide +kernel
theorem dX10_contradict_0 : decode cX10_contradict 0 = .ok (.aload_n 0, 1) := by decide +kernel
theorem dX10_contradict_1 : decode cX10_contradict 1 = .ok (.getfield 15, 3) := by decide +kernel
theorem dX10_contradict_4 : decode cX10_contradict 4 = .ok (.iload_n 1, 1) := by decide +kernel
theorem dX10_contradict_5 : decode cX10_contradict 5 = .ok (.baload, 1) := by decide +kernel
theorem dX10_contradict_6 : decode cX10_contradict 6 = .ok (.ifCond .ne 25, 3) := by decide +kernel
theorem dX10_contradict_9 : decode cX10_contradict 9 = .ok (.aload_n 0, 1) := by decide +kernel
theorem dX10_contradict_10 : decode cX10_contradict 10 = .ok (.getfield 15, 3) := by decide +kernel
theorem dX10_contradict_13 : decode cX10_contradict 13 = .ok (.iload_n 2, 1) := by decide +kernel
theorem dX10_contradict_14 : decode cX10_contradict 14 = .ok (.baload, 1) := by decide +kernel
theorem dX10_contradict_15 : decode cX10_contradict 15 = .ok (.ifCond .ne 16, 3) := by decide +kernel
theorem dX10_contradict_18 : decode cX10_contradict 18 = .ok (.aload_n 0, 1) := by decide +kernel
theorem dX10_contradict_19 : decode cX10_contradict 19 = .ok (.iload_n 1, 1) := by decide +kernel
theorem dX10_contradict_20 : decode cX10_contradict 20 = .ok (.iload_n 2, 1) := by decide +kernel
theorem dX10_contradict_21 : decode cX10_contradict 21 = .ok (.invokevirtual 50, 3) := by decide +kernel
theorem dX10_contradict_24 : decode cX10_contradict 24 = .ok (.ifCond .le 7, 3) := by decide +kernel
theorem dX10_contradict_27 : decode cX10_contradict 27 = .ok (.iconst 1, 1) := by decide +kernel
theorem dX10_contradict_28 : decode cX10_contradict 28 = .ok (.goto 4, 3) := by decide +kernel
theorem dX10_contradict_31 : decode cX10_contradict 31 = .ok (.iconst 0, 1) := by decide +kernel
theorem dX10_contradict_32 : decode cX10_contradict 32 = .ok (.ireturn, 1) := by decide +kernel
theorem dX10_pairs__0 : decode cX10_pairs_ 0 = .ok (.iconst 0, 1) := by decide +kernel
theorem dX10_pairs__1 : decode cX10_pairs_ 1 = .ok (.istore_n 2, 1) := by decide +kernel
theorem dX10_pairs__2 : decode cX10_pairs_ 2 = .ok (.iconst 0, 1) := by decide +kernel
theorem dX10_pairs__3 : decode cX10_pairs_ 3 = .ok (.istore_n 3, 1) := by decide +kernel
theorem dX10_pairs__4 : decode cX10_pairs_ 4 = .ok (.iload_n 3, 1) := by decide +kernel
theorem dX10_pairs__5 : decode cX10_pairs_ 5 = .ok (.aload_n 0, 1) := by decide +kernel
theorem dX10_pairs__6 : decode cX10_pairs_ 6 = .ok (.getfield 33, 3) := by decide +kernel
theorem dX10_pairs__9 : decode cX10_pairs_ 9 = .ok (.if_icmp .ge 58, 3) := by decide +kernel
theorem dX10_pairs__12 : decode cX10_pairs_ 12 = .ok (.iload_n 3, 1) := by decide +kernel
theorem dX10_pairs__13 : decode cX10_pairs_ 13 = .ok (.iconst 1, 1) := by decide +kernel
theorem dX10_pairs__14 : decode cX10_pairs_ 14 = .ok (.iadd, 1) := by decide +kernel
theorem dX10_pairs__15 : decode cX10_pairs_ 15 = .ok (.istore 4, 2) := by decide +kernel
theorem dX10_pairs__17 : decode cX10_pairs_ 17 = .ok (.iload 4, 2) := by decide +kernel
theorem dX10_pairs__19 : decode cX10_pairs_ 19 = .ok (.aload_n 0, 1) := by decide +kernel
theorem dX10_pairs__20 : decode cX10_pairs_ 20 = .ok (.getfield 33, 3) := by decide +kernel
theorem dX10_pairs__23 : decode cX10_pairs_ 23 = .ok (.if_icmp .ge 38, 3) := by decide +kernel
theorem dX10_pairs__26 : decode cX10_pairs_ 26 = .ok (.iload_n 2, 1) := by decide +kernel
theorem dX10_pairs__27 : decode cX10_pairs_ 27 = .ok (.iload_n 3, 1) := by decide +kernel
theorem dX10_pairs__28 : decode cX10_pairs_ 28 = .ok (.iload_n 1, 1) := by decide +kernel
theorem dX10_pairs__29 : decode cX10_pairs_ 29 = .ok (.if_icmp .eq 23, 3) := by decide +kernel
theorem dX10_pairs__32 : decode cX10_pairs_ 32 = .ok (.iload 4, 2) := by decide +kernel
theorem dX10_pairs__34 : decode cX10_pairs_ 34 = .ok (.iload_n 1, 1) := by decide +kernel
theorem dX10_pairs__35 : decode cX10_pairs_ 35 = .ok (.if_icmp .eq 17, 3) := by decide +kernel
theorem dX10_pairs__38 : decode cX10_pairs_ 38 = .ok (.aload_n 0, 1) := by decide +kernel
theorem dX10_pairs__39 : decode cX10_pairs_ 39 = .ok (.iload_n 3, 1) := by decide +kernel
theorem dX10_pairs__40 : decode cX10_pairs_ 40 = .ok (.iload 4, 2) := by decide +kernel
theorem dX10_pairs__42 : decode cX10_pairs_ 42 = .ok (.invokevirtual 54, 3) := by decide +kernel
theorem dX10_pairs__45 : decode cX10_pairs_ 45 = .ok (.ifCond .eq 7, 3) := by decide +kernel
theorem dX10_pairs__48 : decode cX10_pairs_ 48 = .ok (.iconst 1, 1) := by decide +kernel
theorem dX10_pairs__49 : decode cX10_pairs_ 49 = .ok (.goto 4, 3) := by decide +kernel
theorem dX10_pairs__52 : decode cX10_pairs_ 52 = .ok (.iconst 0, 1) := by decide +kernel
theorem dX10_pairs__53 : decode cX10_pairs_ 53 = .ok (.iadd, 1) := by decide +kernel
theorem dX10_pairs__54 : decode cX10_pairs_ 54 = .ok (.istore_n 2, 1) := by decide +kernel
theorem dX10_pairs__55 : decode cX10_pairs_ 55 = .ok (.iinc 4 1, 3) := by decide +kernel
theorem dX10_pairs__58 : decode cX10_pairs_ 58 = .ok (.goto (-41), 3) := by decide +kernel
theorem dX10_pairs__61 : decode cX10_pairs_ 61 = .ok (.iinc 3 1, 3) := by decide +kernel
theorem dX10_pairs__64 : decode cX10_pairs_ 64 = .ok (.goto (-60), 3) := by decide +kernel
theorem dX10_pairs__67 : decode cX10_pairs_ 67 = .ok (.iload_n 2, 1) := by decide +kernel
theorem dX10_pairs__68 : decode cX10_pairs_ 68 = .ok (.ireturn, 1) := by decide +kernel
theorem dX10_count_0 : decode cX10_count 0 = .ok (.iconst 0, 1) := by decide +kernel
theorem dX10_count_1 : decode cX10_count 1 = .ok (.istore_n 2, 1) := by decide +kernel
theorem dX10_count_2 : decode cX10_count 2 = .ok (.aload_n 1, 1) := by decide +kernel
theorem dX10_count_3 : decode cX10_count 3 = .ok (.astore_n 3, 1) := by decide +kernel
theorem dX10_count_4 : decode cX10_count 4 = .ok (.aload_n 3, 1) := by decide +kernel
theorem dX10_count_5 : decode cX10_count 5 = .ok (.arraylength, 1) := by decide +kernel
theorem dX10_count_6 : decode cX10_count 6 = .ok (.istore 4, 2) := by decide +kernel
theorem dX10_count_8 : decode cX10_count 8 = .ok (.iconst 0, 1) := by decide +kernel
theorem dX10_count_9 : decode cX10_count 9 = .ok (.istore 5, 2) := by decide +kernel
theorem dX10_count_11 : decode cX10_count 11 = .ok (.iload 5, 2) := by decide +kernel
theorem dX10_count_13 : decode cX10_count 13 = .ok (.iload 4, 2) := by decide +kernel
theorem dX10_count_15 : decode cX10_count 15 = .ok (.if_icmp .ge 20, 3) := by decide +kernel
theorem dX10_count_18 : decode cX10_count 18 = .ok (.aload_n 3, 1) := by decide +kernel
theorem dX10_count_19 : decode cX10_count 19 = .ok (.iload 5, 2) := by decide +kernel
theorem dX10_count_21 : decode cX10_count 21 = .ok (.iaload, 1) := by decide +kernel
theorem dX10_count_22 : decode cX10_count 22 = .ok (.istore 6, 2) := by decide +kernel
theorem dX10_count_24 : decode cX10_count 24 = .ok (.iload_n 2, 1) := by decide +kernel
theorem dX10_count_25 : decode cX10_count 25 = .ok (.iload 6, 2) := by decide +kernel
theorem dX10_count_27 : decode cX10_count 27 = .ok (.iadd, 1) := by decide +kernel
theorem dX10_count_28 : decode cX10_count 28 = .ok (.istore_n 2, 1) := by decide +kernel
theorem dX10_count_29 : decode cX10_count 29 = .ok (.iinc 5 1, 3) := by decide +kernel
theorem dX10_count_32 : decode cX10_count 32 = .ok (.goto (-21), 3) := by decide +kernel
theorem dX10_count_35 : decode cX10_count 35 = .ok (.iload_n 2, 1) := by decide +kernel
theorem dX10_count_36 : decode cX10_count 36 = .ok (.ireturn, 1) := by decide +kernel
theorem dX10_decide_0 : decode cX10_decide 0 = .ok (.iload_n 3, 1) := by decide +kernel
theorem dX10_decide_1 : decode cX10_decide 1 = .ok (.aload 4, 2) := by decide +kernel
theorem dX10_decide_3 : decode cX10_decide 3 = .ok (.iconst 2, 1) := by decide +kernel
theorem dX10_decide_4 : decode cX10_decide 4 = .ok (.aaload, 1) := by decide +kernel
theorem dX10_decide_5 : decode cX10_decide 5 = .ok (.iconst 0, 1) := by decide +kernel
theorem dX10_decide_6 : decode cX10_decide 6 = .ok (.iaload, 1) := by decide +kernel
theorem dX10_decide_7 : decode cX10_decide 7 = .ok (.if_icmp .le 4, 3) := by decide +kernel
theorem dX10_decide_10 : decode cX10_decide 10 = .ok (.return_, 1) := by decide +kernel
theorem dX10_decide_11 : decode cX10_decide 11 = .ok (.iload_n 1, 1) := by decide +kernel
theorem dX10_decide_12 : decode cX10_decide 12 = .ok (.aload_n 0, 1) := by decide +kernel
theorem dX10_decide_13 : decode cX10_decide 13 = .ok (.getfield 33, 3) := by decide +kernel
theorem dX10_decide_16 : decode cX10_decide 16 = .ok (.if_icmp .ne 67, 3) := by decide +kernel
theorem dX10_decide_19 : decode cX10_decide 19 = .ok (.iload_n 3, 1) := by decide +kernel
theorem dX10_decide_20 : decode cX10_decide 20 = .ok (.aload 4, 2) := by decide +kernel
theorem dX10_decide_22 : decode cX10_decide 22 = .ok (.iconst 2, 1) := by decide +kernel
theorem dX10_decide_23 : decode cX10_decide 23 = .ok (.aaload, 1) := by decide +kernel
theorem dX10_decide_24 : decode cX10_decide 24 = .ok (.iconst 0, 1) := by decide +kernel
theorem dX10_decide_25 : decode cX10_decide 25 = .ok (.iaload, 1) := by decide +kernel
theorem dX10_decide_26 : decode cX10_decide 26 = .ok (.if_icmp .ge 39, 3) := by decide +kernel
theorem dX10_decide_29 : decode cX10_decide 29 = .ok (.aload 4, 2) := by decide +kernel
theorem dX10_decide_31 : decode cX10_decide 31 = .ok (.iconst 1, 1) := by decide +kernel
theorem dX10_decide_32 : decode cX10_decide 32 = .ok (.aaload, 1) := by decide +kernel
theorem dX10_decide_33 : decode cX10_decide 33 = .ok (.iconst 0, 1) := by decide +kernel
theorem dX10_decide_34 : decode cX10_decide 34 = .ok (.iconst 0, 1) := by decide +kernel
theorem dX10_decide_35 : decode cX10_decide 35 = .ok (.iastore, 1) := by decide +kernel
theorem dX10_decide_36 : decode cX10_decide 36 = .ok (.iconst 0, 1) := by decide +kernel
theorem dX10_decide_37 : decode cX10_decide 37 = .ok (.istore 6, 2) := by decide +kernel
theorem dX10_decide_39 : decode cX10_decide 39 = .ok (.iload 6, 2) := by decide +kernel
theorem dX10_decide_41 : decode cX10_decide 41 = .ok (.aload_n 0, 1) := by decide +kernel
theorem dX10_decide_42 : decode cX10_decide 42 = .ok (.getfield 33, 3) := by decide +kernel
theorem dX10_decide_45 : decode cX10_decide 45 = .ok (.if_icmp .ge 20, 3) := by decide +kernel
theorem dX10_decide_48 : decode cX10_decide 48 = .ok (.aload 4, 2) := by decide +kernel
theorem dX10_decide_50 : decode cX10_decide 50 = .ok (.iconst 0, 1) := by decide +kernel
theorem dX10_decide_51 : decode cX10_decide 51 = .ok (.aaload, 1) := by decide +kernel
theorem dX10_decide_52 : decode cX10_decide 52 = .ok (.iload 6, 2) := by decide +kernel
theorem dX10_decide_54 : decode cX10_decide 54 = .ok (.aload_n 2, 1) := by decide +kernel
theorem dX10_decide_55 : decode cX10_decide 55 = .ok (.iload 6, 2) := by decide +kernel
theorem dX10_decide_57 : decode cX10_decide 57 = .ok (.iaload, 1) := by decide +kernel
theorem dX10_decide_58 : decode cX10_decide 58 = .ok (.iastore, 1) := by decide +kernel
theorem dX10_decide_59 : decode cX10_decide 59 = .ok (.iinc 6 1, 3) := by decide +kernel
theorem dX10_decide_62 : decode cX10_decide 62 = .ok (.goto (-23), 3) := by decide +kernel
theorem dX10_decide_65 : decode cX10_decide 65 = .ok (.aload 4, 2) := by decide +kernel
theorem dX10_decide_67 : decode cX10_decide 67 = .ok (.iconst 2, 1) := by decide +kernel
theorem dX10_decide_68 : decode cX10_decide 68 = .ok (.aaload, 1) := by decide +kernel
theorem dX10_decide_69 : decode cX10_decide 69 = .ok (.iconst 0, 1) := by decide +kernel
theorem dX10_decide_70 : decode cX10_decide 70 = .ok (.iload_n 3, 1) := by decide +kernel
theorem dX10_decide_71 : decode cX10_decide 71 = .ok (.iastore, 1) := by decide +kernel
theorem dX10_decide_72 : decode cX10_decide 72 = .ok (.aload 4, 2) := by decide +kernel
theorem dX10_decide_74 : decode cX10_decide 74 = .ok (.iconst 1, 1) := by decide +kernel
theorem dX10_decide_75 : decode cX10_decide 75 = .ok (.aaload, 1) := by decide +kernel
theorem dX10_decide_76 : decode cX10_decide 76 = .ok (.iconst 0, 1) := by decide +kernel
theorem dX10_decide_77 : decode cX10_decide 77 = .ok (.dup2, 1) := by decide +kernel
theorem dX10_decide_78 : decode cX10_decide 78 = .ok (.iaload, 1) := by decide +kernel
theorem dX10_decide_79 : decode cX10_decide 79 = .ok (.iconst 1, 1) := by decide +kernel
theorem dX10_decide_80 : decode cX10_decide 80 = .ok (.iadd, 1) := by decide +kernel
theorem dX10_decide_81 : decode cX10_decide 81 = .ok (.iastore, 1) := by decide +kernel
theorem dX10_decide_82 : decode cX10_decide 82 = .ok (.return_, 1) := by decide +kernel
theorem dX10_decide_83 : decode cX10_decide 83 = .ok (.aload_n 0, 1) := by decide +kernel
theorem dX10_decide_84 : decode cX10_decide 84 = .ok (.getfield 15, 3) := by decide +kernel
theorem dX10_decide_87 : decode cX10_decide 87 = .ok (.iload_n 1, 1) := by decide +kernel
theorem dX10_decide_88 : decode cX10_decide 88 = .ok (.baload, 1) := by decide +kernel
theorem dX10_decide_89 : decode cX10_decide 89 = .ok (.ifCond .ne 12, 3) := by decide +kernel
theorem dX10_decide_92 : decode cX10_decide 92 = .ok (.aload 5, 2) := by decide +kernel
theorem dX10_decide_94 : decode cX10_decide 94 = .ok (.iload_n 1, 1) := by decide +kernel
theorem dX10_decide_95 : decode cX10_decide 95 = .ok (.aaload, 1) := by decide +kernel
theorem dX10_decide_96 : decode cX10_decide 96 = .ok (.iload_n 1, 1) := by decide +kernel
theorem dX10_decide_97 : decode cX10_decide 97 = .ok (.baload, 1) := by decide +kernel
theorem dX10_decide_98 : decode cX10_decide 98 = .ok (.ifCond .ne 7, 3) := by decide +kernel
theorem dX10_decide_101 : decode cX10_decide 101 = .ok (.iconst 1, 1) := by decide +kernel
theorem dX10_decide_102 : decode cX10_decide 102 = .ok (.goto 4, 3) := by decide +kernel
theorem dX10_decide_105 : decode cX10_decide 105 = .ok (.iconst 0, 1) := by decide +kernel
theorem dX10_decide_106 : decode cX10_decide 106 = .ok (.istore 6, 2) := by decide +kernel
theorem dX10_decide_108 : decode cX10_decide 108 = .ok (.iconst 0, 1) := by decide +kernel
theorem dX10_decide_109 : decode cX10_decide 109 = .ok (.istore 7, 2) := by decide +kernel
theorem dX10_decide_111 : decode cX10_decide 111 = .ok (.iload 7, 2) := by decide +kernel
theorem dX10_decide_113 : decode cX10_decide 113 = .ok (.iload_n 1, 1) := by decide +kernel
theorem dX10_decide_114 : decode cX10_decide 114 = .ok (.if_icmp .ge 46, 3) := by decide +kernel
theorem dX10_decide_117 : decode cX10_decide 117 = .ok (.aload_n 0, 1) := by decide +kernel
theorem dX10_decide_118 : decode cX10_decide 118 = .ok (.getfield 15, 3) := by decide +kernel
theorem dX10_decide_121 : decode cX10_decide 121 = .ok (.iload_n 1, 1) := by decide +kernel
theorem dX10_decide_122 : decode cX10_decide 122 = .ok (.baload, 1) := by decide +kernel
theorem dX10_decide_123 : decode cX10_decide 123 = .ok (.ifCond .ne 37, 3) := by decide +kernel
theorem dX10_decide_126 : decode cX10_decide 126 = .ok (.iload 6, 2) := by decide +kernel
theorem dX10_decide_128 : decode cX10_decide 128 = .ok (.aload_n 2, 1) := by decide +kernel
theorem dX10_decide_129 : decode cX10_decide 129 = .ok (.iload 7, 2) := by decide +kernel
theorem dX10_decide_131 : decode cX10_decide 131 = .ok (.iaload, 1) := by decide +kernel
theorem dX10_decide_132 : decode cX10_decide 132 = .ok (.iconst 1, 1) := by decide +kernel
theorem dX10_decide_133 : decode cX10_decide 133 = .ok (.if_icmp .eq 13, 3) := by decide +kernel
theorem dX10_decide_136 : decode cX10_decide 136 = .ok (.aload 5, 2) := by decide +kernel
theorem dX10_decide_138 : decode cX10_decide 138 = .ok (.iload_n 1, 1) := by decide +kernel
theorem dX10_decide_139 : decode cX10_decide 139 = .ok (.aaload, 1) := by decide +kernel
theorem dX10_decide_140 : decode cX10_decide 140 = .ok (.iload 7, 2) := by decide +kernel
theorem dX10_decide_142 : decode cX10_decide 142 = .ok (.baload, 1) := by decide +kernel
theorem dX10_decide_143 : decode cX10_decide 143 = .ok (.ifCond .ne 7, 3) := by decide +kernel
theorem dX10_decide_146 : decode cX10_decide 146 = .ok (.iconst 1, 1) := by decide +kernel
theorem dX10_decide_147 : decode cX10_decide 147 = .ok (.goto 4, 3) := by decide +kernel
theorem dX10_decide_150 : decode cX10_decide 150 = .ok (.iconst 0, 1) := by decide +kernel
theorem dX10_decide_151 : decode cX10_decide 151 = .ok (.iand, 1) := by decide +kernel
theorem dX10_decide_152 : decode cX10_decide 152 = .ok (.istore 6, 2) := by decide +kernel
theorem dX10_decide_154 : decode cX10_decide 154 = .ok (.iinc 7 1, 3) := by decide +kernel
theorem dX10_decide_157 : decode cX10_decide 157 = .ok (.goto (-46), 3) := by decide +kernel
theorem dX10_decide_160 : decode cX10_decide 160 = .ok (.aload_n 2, 1) := by decide +kernel
theorem dX10_decide_161 : decode cX10_decide 161 = .ok (.iload_n 1, 1) := by decide +kernel
theorem dX10_decide_162 : decode cX10_decide 162 = .ok (.iconst 0, 1) := by decide +kernel
theorem dX10_decide_163 : decode cX10_decide 163 = .ok (.iastore, 1) := by decide +kernel
theorem dX10_decide_164 : decode cX10_decide 164 = .ok (.iload 6, 2) := by decide +kernel
theorem dX10_decide_166 : decode cX10_decide 166 = .ok (.ifCond .eq 16, 3) := by decide +kernel
theorem dX10_decide_169 : decode cX10_decide 169 = .ok (.aload_n 0, 1) := by decide +kernel
theorem dX10_decide_170 : decode cX10_decide 170 = .ok (.iload_n 1, 1) := by decide +kernel
theorem dX10_decide_171 : decode cX10_decide 171 = .ok (.iconst 1, 1) := by decide +kernel
theorem dX10_decide_172 : decode cX10_decide 172 = .ok (.iadd, 1) := by decide +kernel
theorem dX10_decide_173 : decode cX10_decide 173 = .ok (.aload_n 2, 1) := by decide +kernel
theorem dX10_decide_174 : decode cX10_decide 174 = .ok (.iload_n 3, 1) := by decide +kernel
theorem dX10_decide_175 : decode cX10_decide 175 = .ok (.aload 4, 2) := by decide +kernel
theorem dX10_decide_177 : decode cX10_decide 177 = .ok (.aload 5, 2) := by decide +kernel
theorem dX10_decide_179 : decode cX10_decide 179 = .ok (.invokevirtual 58, 3) := by decide +kernel
theorem dX10_decide_182 : decode cX10_decide 182 = .ok (.aload_n 0, 1) := by decide +kernel
theorem dX10_decide_183 : decode cX10_decide 183 = .ok (.getfield 15, 3) := by decide +kernel
theorem dX10_decide_186 : decode cX10_decide 186 = .ok (.iload_n 1, 1) := by decide +kernel
theorem dX10_decide_187 : decode cX10_decide 187 = .ok (.baload, 1) := by decide +kernel
theorem dX10_decide_188 : decode cX10_decide 188 = .ok (.ifCond .eq 4, 3) := by decide +kernel
theorem dX10_decide_191 : decode cX10_decide 191 = .ok (.return_, 1) := by decide +kernel
theorem dX10_decide_192 : decode cX10_decide 192 = .ok (.aload_n 2, 1) := by decide +kernel
theorem dX10_decide_193 : decode cX10_decide 193 = .ok (.iload_n 1, 1) := by decide +kernel
theorem dX10_decide_194 : decode cX10_decide 194 = .ok (.iconst 1, 1) := by decide +kernel
theorem dX10_decide_195 : decode cX10_decide 195 = .ok (.iastore, 1) := by decide +kernel
theorem dX10_decide_196 : decode cX10_decide 196 = .ok (.aload_n 0, 1) := by decide +kernel
theorem dX10_decide_197 : decode cX10_decide 197 = .ok (.iload_n 1, 1) := by decide +kernel
theorem dX10_decide_198 : decode cX10_decide 198 = .ok (.iconst 1, 1) := by decide +kernel
theorem dX10_decide_199 : decode cX10_decide 199 = .ok (.iadd, 1) := by decide +kernel
theorem dX10_decide_200 : decode cX10_decide 200 = .ok (.aload_n 2, 1) := by decide +kernel
theorem dX10_decide_201 : decode cX10_decide 201 = .ok (.iload_n 3, 1) := by decide +kernel
theorem dX10_decide_202 : decode cX10_decide 202 = .ok (.iconst 1, 1) := by decide +kernel
theorem dX10_decide_203 : decode cX10_decide 203 = .ok (.iadd, 1) := by decide +kernel
theorem dX10_decide_204 : decode cX10_decide 204 = .ok (.aload 4, 2) := by decide +kernel
theorem dX10_decide_206 : decode cX10_decide 206 = .ok (.aload 5, 2) := by decide +kernel
theorem dX10_decide_208 : decode cX10_decide 208 = .ok (.invokevirtual 58, 3) := by decide +kernel
theorem dX10_decide_211 : decode cX10_decide 211 = .ok (.aload_n 2, 1) := by decide +kernel
theorem dX10_decide_212 : decode cX10_decide 212 = .ok (.iload_n 1, 1) := by decide +kernel
theorem dX10_decide_213 : decode cX10_decide 213 = .ok (.iconst 0, 1) := by decide +kernel
theorem dX10_decide_214 : decode cX10_decide 214 = .ok (.iastore, 1) := by decide +kernel
theorem dX10_decide_215 : decode cX10_decide 215 = .ok (.return_, 1) := by decide +kernel
theorem dX10_liars_0 : decode cX10_liars 0 = .ok (.aload_n 0, 1) := by decide +kernel
theorem dX10_liars_1 : decode cX10_liars 1 = .ok (.getfield 33, 3) := by decide +kernel
theorem dX10_liars_4 : decode cX10_liars 4 = .ok (.aload_n 0, 1) := by decide +kernel
theorem dX10_liars_5 : decode cX10_liars 5 = .ok (.getfield 33, 3) := by decide +kernel
theorem dX10_liars_8 : decode cX10_liars 8 = .ok (.multianewarray 62 2, 4) := by decide +kernel
theorem dX10_liars_12 : decode cX10_liars 12 = .ok (.astore_n 1, 1) := by decide +kernel
theorem dX10_liars_13 : decode cX10_liars 13 = .ok (.iconst 0, 1) := by decide +kernel
theorem dX10_liars_14 : decode cX10_liars 14 = .ok (.istore_n 2, 1) := by decide +kernel
theorem dX10_liars_15 : decode cX10_liars 15 = .ok (.iload_n 2, 1) := by decide +kernel
theorem dX10_liars_16 : decode cX10_liars 16 = .ok (.aload_n 0, 1) := by decide +kernel
theorem dX10_liars_17 : decode cX10_liars 17 = .ok (.getfield 33, 3) := by decide +kernel
theorem dX10_liars_20 : decode cX10_liars 20 = .ok (.if_icmp .ge 36, 3) := by decide +kernel
theorem dX10_liars_23 : decode cX10_liars 23 = .ok (.iconst 0, 1) := by decide +kernel
theorem dX10_liars_24 : decode cX10_liars 24 = .ok (.istore_n 3, 1) := by decide +kernel
theorem dX10_liars_25 : decode cX10_liars 25 = .ok (.iload_n 3, 1) := by decide +kernel
theorem dX10_liars_26 : decode cX10_liars 26 = .ok (.aload_n 0, 1) := by decide +kernel
theorem dX10_liars_27 : decode cX10_liars 27 = .ok (.getfield 33, 3) := by decide +kernel
theorem dX10_liars_30 : decode cX10_liars 30 = .ok (.if_icmp .ge 20, 3) := by decide +kernel
theorem dX10_liars_33 : decode cX10_liars 33 = .ok (.aload_n 1, 1) := by decide +kernel
theorem dX10_liars_34 : decode cX10_liars 34 = .ok (.iload_n 2, 1) := by decide +kernel
theorem dX10_liars_35 : decode cX10_liars 35 = .ok (.aaload, 1) := by decide +kernel
theorem dX10_liars_36 : decode cX10_liars 36 = .ok (.iload_n 3, 1) := by decide +kernel
theorem dX10_liars_37 : decode cX10_liars 37 = .ok (.aload_n 0, 1) := by decide +kernel
theorem dX10_liars_38 : decode cX10_liars 38 = .ok (.iload_n 2, 1) := by decide +kernel
theorem dX10_liars_39 : decode cX10_liars 39 = .ok (.iload_n 3, 1) := by decide +kernel
theorem dX10_liars_40 : decode cX10_liars 40 = .ok (.invokevirtual 54, 3) := by decide +kernel
theorem dX10_liars_43 : decode cX10_liars 43 = .ok (.bastore, 1) := by decide +kernel
theorem dX10_liars_44 : decode cX10_liars 44 = .ok (.iinc 3 1, 3) := by decide +kernel
theorem dX10_liars_47 : decode cX10_liars 47 = .ok (.goto (-22), 3) := by decide +kernel
theorem dX10_liars_50 : decode cX10_liars 50 = .ok (.iinc 2 1, 3) := by decide +kernel
theorem dX10_liars_53 : decode cX10_liars 53 = .ok (.goto (-38), 3) := by decide +kernel
theorem dX10_liars_56 : decode cX10_liars 56 = .ok (.iconst 3, 1) := by decide +kernel
theorem dX10_liars_57 : decode cX10_liars 57 = .ok (.anewarray 7, 3) := by decide +kernel
theorem dX10_liars_60 : decode cX10_liars 60 = .ok (.dup, 1) := by decide +kernel
theorem dX10_liars_61 : decode cX10_liars 61 = .ok (.iconst 0, 1) := by decide +kernel
theorem dX10_liars_62 : decode cX10_liars 62 = .ok (.aload_n 0, 1) := by decide +kernel
theorem dX10_liars_63 : decode cX10_liars 63 = .ok (.getfield 33, 3) := by decide +kernel
theorem dX10_liars_66 : decode cX10_liars 66 = .ok (.newarray .int, 2) := by decide +kernel
theorem dX10_liars_68 : decode cX10_liars 68 = .ok (.aastore, 1) := by decide +kernel
theorem dX10_liars_69 : decode cX10_liars 69 = .ok (.dup, 1) := by decide +kernel
theorem dX10_liars_70 : decode cX10_liars 70 = .ok (.iconst 1, 1) := by decide +kernel
theorem dX10_liars_71 : decode cX10_liars 71 = .ok (.iconst 1, 1) := by decide +kernel
theorem dX10_liars_72 : decode cX10_liars 72 = .ok (.newarray .int, 2) := by decide +kernel
theorem dX10_liars_74 : decode cX10_liars 74 = .ok (.dup, 1) := by decide +kernel
theorem dX10_liars_75 : decode cX10_liars 75 = .ok (.iconst 0, 1) := by decide +kernel
theorem dX10_liars_76 : decode cX10_liars 76 = .ok (.iconst 0, 1) := by decide +kernel
theorem dX10_liars_77 : decode cX10_liars 77 = .ok (.iastore, 1) := by decide +kernel
theorem dX10_liars_78 : decode cX10_liars 78 = .ok (.aastore, 1) := by decide +kernel
theorem dX10_liars_79 : decode cX10_liars 79 = .ok (.dup, 1) := by decide +kernel
theorem dX10_liars_80 : decode cX10_liars 80 = .ok (.iconst 2, 1) := by decide +kernel
theorem dX10_liars_81 : decode cX10_liars 81 = .ok (.iconst 1, 1) := by decide +kernel
theorem dX10_liars_82 : decode cX10_liars 82 = .ok (.newarray .int, 2) := by decide +kernel
theorem dX10_liars_84 : decode cX10_liars 84 = .ok (.dup, 1) := by decide +kernel
theorem dX10_liars_85 : decode cX10_liars 85 = .ok (.iconst 0, 1) := by decide +kernel
theorem dX10_liars_86 : decode cX10_liars 86 = .ok (.bipush 99, 2) := by decide +kernel
theorem dX10_liars_88 : decode cX10_liars 88 = .ok (.iastore, 1) := by decide +kernel
theorem dX10_liars_89 : decode cX10_liars 89 = .ok (.aastore, 1) := by decide +kernel
theorem dX10_liars_90 : decode cX10_liars 90 = .ok (.astore_n 2, 1) := by decide +kernel
theorem dX10_liars_91 : decode cX10_liars 91 = .ok (.aload_n 0, 1) := by decide +kernel
theorem dX10_liars_92 : decode cX10_liars 92 = .ok (.iconst 0, 1) := by decide +kernel
theorem dX10_liars_93 : decode cX10_liars 93 = .ok (.aload_n 0, 1) := by decide +kernel
theorem dX10_liars_94 : decode cX10_liars 94 = .ok (.getfield 33, 3) := by decide +kernel
theorem dX10_liars_97 : decode cX10_liars 97 = .ok (.newarray .int, 2) := by decide +kernel
theorem dX10_liars_99 : decode cX10_liars 99 = .ok (.iconst 0, 1) := by decide +kernel
theorem dX10_liars_100 : decode cX10_liars 100 = .ok (.aload_n 2, 1) := by decide +kernel
theorem dX10_liars_101 : decode cX10_liars 101 = .ok (.aload_n 1, 1) := by decide +kernel
theorem dX10_liars_102 : decode cX10_liars 102 = .ok (.invokevirtual 58, 3) := by decide +kernel
theorem dX10_liars_105 : decode cX10_liars 105 = .ok (.aload_n 2, 1) := by decide +kernel
theorem dX10_liars_106 : decode cX10_liars 106 = .ok (.areturn, 1) := by decide +kernel
theorem dX10_window_0 : decode cX10_window 0 = .ok (.iconst 3, 1) := by decide +kernel
theorem dX10_window_1 : decode cX10_window 1 = .ok (.newarray .int, 2) := by decide +kernel
theorem dX10_window_3 : decode cX10_window 3 = .ok (.dup, 1) := by decide +kernel
theorem dX10_window_4 : decode cX10_window 4 = .ok (.iconst 0, 1) := by decide +kernel
theorem dX10_window_5 : decode cX10_window 5 = .ok (.iconst (-1), 1) := by decide +kernel
theorem dX10_window_6 : decode cX10_window 6 = .ok (.iastore, 1) := by decide +kernel
theorem dX10_window_7 : decode cX10_window 7 = .ok (.dup, 1) := by decide +kernel
theorem dX10_window_8 : decode cX10_window 8 = .ok (.iconst 1, 1) := by decide +kernel
theorem dX10_window_9 : decode cX10_window 9 = .ok (.iconst (-1), 1) := by decide +kernel
theorem dX10_window_10 : decode cX10_window 10 = .ok (.iastore, 1) := by decide +kernel
theorem dX10_window_11 : decode cX10_window 11 = .ok (.dup, 1) := by decide +kernel
theorem dX10_window_12 : decode cX10_window 12 = .ok (.iconst 2, 1) := by decide +kernel
theorem dX10_window_13 : decode cX10_window 13 = .ok (.iconst 0, 1) := by decide +kernel
theorem dX10_window_14 : decode cX10_window 14 = .ok (.iastore, 1) := by decide +kernel
theorem dX10_window_15 : decode cX10_window 15 = .ok (.astore_n 2, 1) := by decide +kernel
theorem dX10_window_16 : decode cX10_window 16 = .ok (.iconst 0, 1) := by decide +kernel
theorem dX10_window_17 : decode cX10_window 17 = .ok (.istore_n 3, 1) := by decide +kernel
theorem dX10_window_18 : decode cX10_window 18 = .ok (.iload_n 3, 1) := by decide +kernel
theorem dX10_window_19 : decode cX10_window 19 = .ok (.bipush 100, 2) := by decide +kernel
theorem dX10_window_21 : decode cX10_window 21 = .ok (.if_icmp .ge 128, 3) := by decide +kernel
theorem dX10_window_24 : decode cX10_window 24 = .ok (.iconst 1, 1) := by decide +kernel
theorem dX10_window_25 : decode cX10_window 25 = .ok (.istore 4, 2) := by decide +kernel
theorem dX10_window_27 : decode cX10_window 27 = .ok (.aload_n 0, 1) := by decide +kernel
theorem dX10_window_28 : decode cX10_window 28 = .ok (.getfield 9, 3) := by decide +kernel
theorem dX10_window_31 : decode cX10_window 31 = .ok (.astore 5, 2) := by decide +kernel
theorem dX10_window_33 : decode cX10_window 33 = .ok (.aload 5, 2) := by decide +kernel
theorem dX10_window_35 : decode cX10_window 35 = .ok (.arraylength, 1) := by decide +kernel
theorem dX10_window_36 : decode cX10_window 36 = .ok (.istore 6, 2) := by decide +kernel
theorem dX10_window_38 : decode cX10_window 38 = .ok (.iconst 0, 1) := by decide +kernel
theorem dX10_window_39 : decode cX10_window 39 = .ok (.istore 7, 2) := by decide +kernel
theorem dX10_window_41 : decode cX10_window 41 = .ok (.iload 7, 2) := by decide +kernel
theorem dX10_window_43 : decode cX10_window 43 = .ok (.iload 6, 2) := by decide +kernel
theorem dX10_window_45 : decode cX10_window 45 = .ok (.if_icmp .ge 69, 3) := by decide +kernel
theorem dX10_window_48 : decode cX10_window 48 = .ok (.aload 5, 2) := by decide +kernel
theorem dX10_window_50 : decode cX10_window 50 = .ok (.iload 7, 2) := by decide +kernel
theorem dX10_window_52 : decode cX10_window 52 = .ok (.aaload, 1) := by decide +kernel
theorem dX10_window_53 : decode cX10_window 53 = .ok (.astore 8, 2) := by decide +kernel
theorem dX10_window_55 : decode cX10_window 55 = .ok (.iload 4, 2) := by decide +kernel
theorem dX10_window_57 : decode cX10_window 57 = .ok (.aload 8, 2) := by decide +kernel
theorem dX10_window_59 : decode cX10_window 59 = .ok (.iconst 0, 1) := by decide +kernel
theorem dX10_window_60 : decode cX10_window 60 = .ok (.iaload, 1) := by decide +kernel
theorem dX10_window_61 : decode cX10_window 61 = .ok (.ifCond .gt 39, 3) := by decide +kernel
theorem dX10_window_64 : decode cX10_window 64 = .ok (.aload 8, 2) := by decide +kernel
theorem dX10_window_66 : decode cX10_window 66 = .ok (.iconst 2, 1) := by decide +kernel
theorem dX10_window_67 : decode cX10_window 67 = .ok (.iaload, 1) := by decide +kernel
theorem dX10_window_68 : decode cX10_window 68 = .ok (.iload_n 1, 1) := by decide +kernel
theorem dX10_window_69 : decode cX10_window 69 = .ok (.if_icmp .ne 31, 3) := by decide +kernel
theorem dX10_window_72 : decode cX10_window 72 = .ok (.aload_n 0, 1) := by decide +kernel
theorem dX10_window_73 : decode cX10_window 73 = .ok (.getfield 15, 3) := by decide +kernel
theorem dX10_window_76 : decode cX10_window 76 = .ok (.aload 8, 2) := by decide +kernel
theorem dX10_window_78 : decode cX10_window 78 = .ok (.iconst 1, 1) := by decide +kernel
theorem dX10_window_79 : decode cX10_window 79 = .ok (.iaload, 1) := by decide +kernel
theorem dX10_window_80 : decode cX10_window 80 = .ok (.baload, 1) := by decide +kernel
theorem dX10_window_81 : decode cX10_window 81 = .ok (.ifCond .ne 19, 3) := by decide +kernel
theorem dX10_window_84 : decode cX10_window 84 = .ok (.iload_n 3, 1) := by decide +kernel
theorem dX10_window_85 : decode cX10_window 85 = .ok (.aload 8, 2) := by decide +kernel
theorem dX10_window_87 : decode cX10_window 87 = .ok (.iconst 3, 1) := by decide +kernel
theorem dX10_window_88 : decode cX10_window 88 = .ok (.iaload, 1) := by decide +kernel
theorem dX10_window_89 : decode cX10_window 89 = .ok (.if_icmp .lt 15, 3) := by decide +kernel
theorem dX10_window_92 : decode cX10_window 92 = .ok (.iload_n 3, 1) := by decide +kernel
theorem dX10_window_93 : decode cX10_window 93 = .ok (.aload 8, 2) := by decide +kernel
theorem dX10_window_95 : decode cX10_window 95 = .ok (.iconst 4, 1) := by decide +kernel
theorem dX10_window_96 : decode cX10_window 96 = .ok (.iaload, 1) := by decide +kernel
theorem dX10_window_97 : decode cX10_window 97 = .ok (.if_icmp .gt 7, 3) := by decide +kernel
theorem dX10_window_100 : decode cX10_window 100 = .ok (.iconst 1, 1) := by decide +kernel
theorem dX10_window_101 : decode cX10_window 101 = .ok (.goto 4, 3) := by decide +kernel
theorem dX10_window_104 : decode cX10_window 104 = .ok (.iconst 0, 1) := by decide +kernel
theorem dX10_window_105 : decode cX10_window 105 = .ok (.iand, 1) := by decide +kernel
theorem dX10_window_106 : decode cX10_window 106 = .ok (.istore 4, 2) := by decide +kernel
theorem dX10_window_108 : decode cX10_window 108 = .ok (.iinc 7 1, 3) := by decide +kernel
theorem dX10_window_111 : decode cX10_window 111 = .ok (.goto (-70), 3) := by decide +kernel
theorem dX10_window_114 : decode cX10_window 114 = .ok (.iload 4, 2) := by decide +kernel
theorem dX10_window_116 : decode cX10_window 116 = .ok (.ifCond .ne 6, 3) := by decide +kernel
theorem dX10_window_119 : decode cX10_window 119 = .ok (.goto 24, 3) := by decide +kernel
theorem dX10_window_122 : decode cX10_window 122 = .ok (.aload_n 2, 1) := by decide +kernel
theorem dX10_window_123 : decode cX10_window 123 = .ok (.iconst 2, 1) := by decide +kernel
theorem dX10_window_124 : decode cX10_window 124 = .ok (.iaload, 1) := by decide +kernel
theorem dX10_window_125 : decode cX10_window 125 = .ok (.ifCond .ne 7, 3) := by decide +kernel
theorem dX10_window_128 : decode cX10_window 128 = .ok (.aload_n 2, 1) := by decide +kernel
theorem dX10_window_129 : decode cX10_window 129 = .ok (.iconst 0, 1) := by decide +kernel
theorem dX10_window_130 : decode cX10_window 130 = .ok (.iload_n 3, 1) := by decide +kernel
theorem dX10_window_131 : decode cX10_window 131 = .ok (.iastore, 1) := by decide +kernel
theorem dX10_window_132 : decode cX10_window 132 = .ok (.aload_n 2, 1) := by decide +kernel
theorem dX10_window_133 : decode cX10_window 133 = .ok (.iconst 1, 1) := by decide +kernel
theorem dX10_window_134 : decode cX10_window 134 = .ok (.iload_n 3, 1) := by decide +kernel
theorem dX10_window_135 : decode cX10_window 135 = .ok (.iastore, 1) := by decide +kernel
theorem dX10_window_136 : decode cX10_window 136 = .ok (.aload_n 2, 1) := by decide +kernel
theorem dX10_window_137 : decode cX10_window 137 = .ok (.iconst 2, 1) := by decide +kernel
theorem dX10_window_138 : decode cX10_window 138 = .ok (.dup2, 1) := by decide +kernel
theorem dX10_window_139 : decode cX10_window 139 = .ok (.iaload, 1) := by decide +kernel
theorem dX10_window_140 : decode cX10_window 140 = .ok (.iconst 1, 1) := by decide +kernel
theorem dX10_window_141 : decode cX10_window 141 = .ok (.iadd, 1) := by decide +kernel
theorem dX10_window_142 : decode cX10_window 142 = .ok (.iastore, 1) := by decide +kernel
theorem dX10_window_143 : decode cX10_window 143 = .ok (.iinc 3 1, 3) := by decide +kernel
theorem dX10_window_146 : decode cX10_window 146 = .ok (.goto (-128), 3) := by decide +kernel
theorem dX10_window_149 : decode cX10_window 149 = .ok (.aload_n 2, 1) := by decide +kernel
theorem dX10_window_150 : decode cX10_window 150 = .ok (.areturn, 1) := by decide +kernel
theorem dX10_order_0 : decode cX10_order 0 = .ok (.aload_n 0, 1) := by decide +kernel
theorem dX10_order_1 : decode cX10_order 1 = .ok (.invokevirtual 64, 3) := by decide +kernel
theorem dX10_order_4 : decode cX10_order 4 = .ok (.iconst 0, 1) := by decide +kernel
theorem dX10_order_5 : decode cX10_order 5 = .ok (.aaload, 1) := by decide +kernel
theorem dX10_order_6 : decode cX10_order 6 = .ok (.astore_n 1, 1) := by decide +kernel
theorem dX10_order_7 : decode cX10_order 7 = .ok (.aload_n 0, 1) := by decide +kernel
theorem dX10_order_8 : decode cX10_order 8 = .ok (.getfield 29, 3) := by decide +kernel
theorem dX10_order_11 : decode cX10_order 11 = .ok (.newarray .int, 2) := by decide +kernel
theorem dX10_order_13 : decode cX10_order 13 = .ok (.astore_n 2, 1) := by decide +kernel
theorem dX10_order_14 : decode cX10_order 14 = .ok (.aload_n 0, 1) := by decide +kernel
theorem dX10_order_15 : decode cX10_order 15 = .ok (.getfield 29, 3) := by decide +kernel
theorem dX10_order_18 : decode cX10_order 18 = .ok (.newarray .boolean, 2) := by decide +kernel
theorem dX10_order_20 : decode cX10_order 20 = .ok (.astore_n 3, 1) := by decide +kernel
theorem dX10_order_21 : decode cX10_order 21 = .ok (.iconst 0, 1) := by decide +kernel
theorem dX10_order_22 : decode cX10_order 22 = .ok (.istore 4, 2) := by decide +kernel
theorem dX10_order_24 : decode cX10_order 24 = .ok (.iload 4, 2) := by decide +kernel
theorem dX10_order_26 : decode cX10_order 26 = .ok (.aload_n 0, 1) := by decide +kernel
theorem dX10_order_27 : decode cX10_order 27 = .ok (.getfield 29, 3) := by decide +kernel
theorem dX10_order_30 : decode cX10_order 30 = .ok (.if_icmp .ge 164, 3) := by decide +kernel
theorem dX10_order_33 : decode cX10_order 33 = .ok (.iconst (-1), 1) := by decide +kernel
theorem dX10_order_34 : decode cX10_order 34 = .ok (.istore 5, 2) := by decide +kernel
theorem dX10_order_36 : decode cX10_order 36 = .ok (.aload_n 0, 1) := by decide +kernel
theorem dX10_order_37 : decode cX10_order 37 = .ok (.getfield 29, 3) := by decide +kernel
theorem dX10_order_40 : decode cX10_order 40 = .ok (.iconst 1, 1) := by decide +kernel
theorem dX10_order_41 : decode cX10_order 41 = .ok (.isub, 1) := by decide +kernel
theorem dX10_order_42 : decode cX10_order 42 = .ok (.istore 6, 2) := by decide +kernel
theorem dX10_order_44 : decode cX10_order 44 = .ok (.iload 6, 2) := by decide +kernel
theorem dX10_order_46 : decode cX10_order 46 = .ok (.ifCond .lt 124, 3) := by decide +kernel
theorem dX10_order_49 : decode cX10_order 49 = .ok (.aload_n 3, 1) := by decide +kernel
theorem dX10_order_50 : decode cX10_order 50 = .ok (.iload 6, 2) := by decide +kernel
theorem dX10_order_52 : decode cX10_order 52 = .ok (.baload, 1) := by decide +kernel
theorem dX10_order_53 : decode cX10_order 53 = .ok (.ifCond .ne 7, 3) := by decide +kernel
theorem dX10_order_56 : decode cX10_order 56 = .ok (.iconst 1, 1) := by decide +kernel
theorem dX10_order_57 : decode cX10_order 57 = .ok (.goto 4, 3) := by decide +kernel
theorem dX10_order_60 : decode cX10_order 60 = .ok (.iconst 0, 1) := by decide +kernel
theorem dX10_order_61 : decode cX10_order 61 = .ok (.istore 7, 2) := by decide +kernel
theorem dX10_order_63 : decode cX10_order 63 = .ok (.aload_n 0, 1) := by decide +kernel
theorem dX10_order_64 : decode cX10_order 64 = .ok (.getfield 9, 3) := by decide +kernel
theorem dX10_order_67 : decode cX10_order 67 = .ok (.astore 8, 2) := by decide +kernel
theorem dX10_order_69 : decode cX10_order 69 = .ok (.aload 8, 2) := by decide +kernel
theorem dX10_order_71 : decode cX10_order 71 = .ok (.arraylength, 1) := by decide +kernel
theorem dX10_order_72 : decode cX10_order 72 = .ok (.istore 9, 2) := by decide +kernel
theorem dX10_order_74 : decode cX10_order 74 = .ok (.iconst 0, 1) := by decide +kernel
theorem dX10_order_75 : decode cX10_order 75 = .ok (.istore 10, 2) := by decide +kernel
theorem dX10_order_77 : decode cX10_order 77 = .ok (.iload 10, 2) := by decide +kernel
theorem dX10_order_79 : decode cX10_order 79 = .ok (.iload 9, 2) := by decide +kernel
theorem dX10_order_81 : decode cX10_order 81 = .ok (.if_icmp .ge 74, 3) := by decide +kernel
theorem dX10_order_84 : decode cX10_order 84 = .ok (.aload 8, 2) := by decide +kernel
theorem dX10_order_86 : decode cX10_order 86 = .ok (.iload 10, 2) := by decide +kernel
theorem dX10_order_88 : decode cX10_order 88 = .ok (.aaload, 1) := by decide +kernel
theorem dX10_order_89 : decode cX10_order 89 = .ok (.astore 11, 2) := by decide +kernel
theorem dX10_order_91 : decode cX10_order 91 = .ok (.iload 7, 2) := by decide +kernel
theorem dX10_order_93 : decode cX10_order 93 = .ok (.aload 11, 2) := by decide +kernel
theorem dX10_order_95 : decode cX10_order 95 = .ok (.iconst 0, 1) := by decide +kernel
theorem dX10_order_96 : decode cX10_order 96 = .ok (.iaload, 1) := by decide +kernel
theorem dX10_order_97 : decode cX10_order 97 = .ok (.iconst 1, 1) := by decide +kernel
theorem dX10_order_98 : decode cX10_order 98 = .ok (.if_icmp .ne 43, 3) := by decide +kernel
theorem dX10_order_101 : decode cX10_order 101 = .ok (.aload 11, 2) := by decide +kernel
theorem dX10_order_103 : decode cX10_order 103 = .ok (.iconst 3, 1) := by decide +kernel
theorem dX10_order_104 : decode cX10_order 104 = .ok (.iaload, 1) := by decide +kernel
theorem dX10_order_105 : decode cX10_order 105 = .ok (.iload 6, 2) := by decide +kernel
theorem dX10_order_107 : decode cX10_order 107 = .ok (.if_icmp .ne 34, 3) := by decide +kernel
theorem dX10_order_110 : decode cX10_order 110 = .ok (.aload_n 3, 1) := by decide +kernel
theorem dX10_order_111 : decode cX10_order 111 = .ok (.aload 11, 2) := by decide +kernel
theorem dX10_order_113 : decode cX10_order 113 = .ok (.iconst 2, 1) := by decide +kernel
theorem dX10_order_114 : decode cX10_order 114 = .ok (.iaload, 1) := by decide +kernel
theorem dX10_order_115 : decode cX10_order 115 = .ok (.baload, 1) := by decide +kernel
theorem dX10_order_116 : decode cX10_order 116 = .ok (.ifCond .ne 25, 3) := by decide +kernel
theorem dX10_order_119 : decode cX10_order 119 = .ok (.aload_n 0, 1) := by decide +kernel
theorem dX10_order_120 : decode cX10_order 120 = .ok (.getfield 15, 3) := by decide +kernel
theorem dX10_order_123 : decode cX10_order 123 = .ok (.aload 11, 2) := by decide +kernel
theorem dX10_order_125 : decode cX10_order 125 = .ok (.iconst 1, 1) := by decide +kernel
theorem dX10_order_126 : decode cX10_order 126 = .ok (.iaload, 1) := by decide +kernel
theorem dX10_order_127 : decode cX10_order 127 = .ok (.baload, 1) := by decide +kernel
theorem dX10_order_128 : decode cX10_order 128 = .ok (.ifCond .ne 13, 3) := by decide +kernel
theorem dX10_order_131 : decode cX10_order 131 = .ok (.aload_n 1, 1) := by decide +kernel
theorem dX10_order_132 : decode cX10_order 132 = .ok (.aload 11, 2) := by decide +kernel
theorem dX10_order_134 : decode cX10_order 134 = .ok (.iconst 1, 1) := by decide +kernel
theorem dX10_order_135 : decode cX10_order 135 = .ok (.iaload, 1) := by decide +kernel
theorem dX10_order_136 : decode cX10_order 136 = .ok (.iaload, 1) := by decide +kernel
theorem dX10_order_137 : decode cX10_order 137 = .ok (.iconst 1, 1) := by decide +kernel
theorem dX10_order_138 : decode cX10_order 138 = .ok (.if_icmp .ne 7, 3) := by decide +kernel
theorem dX10_order_141 : decode cX10_order 141 = .ok (.iconst 1, 1) := by decide +kernel
theorem dX10_order_142 : decode cX10_order 142 = .ok (.goto 4, 3) := by decide +kernel
theorem dX10_order_145 : decode cX10_order 145 = .ok (.iconst 0, 1) := by decide +kernel
theorem dX10_order_146 : decode cX10_order 146 = .ok (.iand, 1) := by decide +kernel
theorem dX10_order_147 : decode cX10_order 147 = .ok (.istore 7, 2) := by decide +kernel
theorem dX10_order_149 : decode cX10_order 149 = .ok (.iinc 10 1, 3) := by decide +kernel
theorem dX10_order_152 : decode cX10_order 152 = .ok (.goto (-75), 3) := by decide +kernel
theorem dX10_order_155 : decode cX10_order 155 = .ok (.iload 7, 2) := by decide +kernel
theorem dX10_order_157 : decode cX10_order 157 = .ok (.ifCond .eq 7, 3) := by decide +kernel
theorem dX10_order_160 : decode cX10_order 160 = .ok (.iload 6, 2) := by decide +kernel
theorem dX10_order_162 : decode cX10_order 162 = .ok (.istore 5, 2) := by decide +kernel
theorem dX10_order_164 : decode cX10_order 164 = .ok (.iinc 6 (-1), 3) := by decide +kernel
theorem dX10_order_167 : decode cX10_order 167 = .ok (.goto (-123), 3) := by decide +kernel
theorem dX10_order_170 : decode cX10_order 170 = .ok (.iload 5, 2) := by decide +kernel
theorem dX10_order_172 : decode cX10_order 172 = .ok (.ifCond .ge 5, 3) := by decide +kernel
theorem dX10_order_175 : decode cX10_order 175 = .ok (.aconst_null, 1) := by decide +kernel
theorem dX10_order_176 : decode cX10_order 176 = .ok (.areturn, 1) := by decide +kernel
theorem dX10_order_177 : decode cX10_order 177 = .ok (.aload_n 2, 1) := by decide +kernel
theorem dX10_order_178 : decode cX10_order 178 = .ok (.iload 4, 2) := by decide +kernel
theorem dX10_order_180 : decode cX10_order 180 = .ok (.iload 5, 2) := by decide +kernel
theorem dX10_order_182 : decode cX10_order 182 = .ok (.iastore, 1) := by decide +kernel
theorem dX10_order_183 : decode cX10_order 183 = .ok (.aload_n 3, 1) := by decide +kernel
theorem dX10_order_184 : decode cX10_order 184 = .ok (.iload 5, 2) := by decide +kernel
theorem dX10_order_186 : decode cX10_order 186 = .ok (.iconst 1, 1) := by decide +kernel
theorem dX10_order_187 : decode cX10_order 187 = .ok (.bastore, 1) := by decide +kernel
theorem dX10_order_188 : decode cX10_order 188 = .ok (.iinc 4 1, 3) := by decide +kernel
theorem dX10_order_191 : decode cX10_order 191 = .ok (.goto (-167), 3) := by decide +kernel
theorem dX10_order_194 : decode cX10_order 194 = .ok (.aload_n 2, 1) := by decide +kernel
theorem dX10_order_195 : decode cX10_order 195 = .ok (.areturn, 1) := by decide +kernel
theorem dX10_pass_0 : decode cX10_pass 0 = .ok (.iconst 0, 1) := by decide +kernel
theorem dX10_pass_1 : decode cX10_pass 1 = .ok (.istore_n 1, 1) := by decide +kernel
theorem dX10_pass_2 : decode cX10_pass 2 = .ok (.iload_n 1, 1) := by decide +kernel
theorem dX10_pass_3 : decode cX10_pass 3 = .ok (.aload_n 0, 1) := by decide +kernel
theorem dX10_pass_4 : decode cX10_pass 4 = .ok (.getfield 19, 3) := by decide +kernel
theorem dX10_pass_7 : decode cX10_pass 7 = .ok (.arraylength, 1) := by decide +kernel
theorem dX10_pass_8 : decode cX10_pass 8 = .ok (.if_icmp .ge 94, 3) := by decide +kernel
theorem dX10_pass_11 : decode cX10_pass 11 = .ok (.aload_n 0, 1) := by decide +kernel
theorem dX10_pass_12 : decode cX10_pass 12 = .ok (.getfield 24, 3) := by decide +kernel
theorem dX10_pass_15 : decode cX10_pass 15 = .ok (.iload_n 1, 1) := by decide +kernel
theorem dX10_pass_16 : decode cX10_pass 16 = .ok (.aaload, 1) := by decide +kernel
theorem dX10_pass_17 : decode cX10_pass 17 = .ok (.ifnull 20, 3) := by decide +kernel
theorem dX10_pass_20 : decode cX10_pass 20 = .ok (.aload_n 0, 1) := by decide +kernel
theorem dX10_pass_21 : decode cX10_pass 21 = .ok (.getfield 24, 3) := by decide +kernel
theorem dX10_pass_24 : decode cX10_pass 24 = .ok (.iload_n 1, 1) := by decide +kernel
theorem dX10_pass_25 : decode cX10_pass 25 = .ok (.aaload, 1) := by decide +kernel
theorem dX10_pass_26 : decode cX10_pass 26 = .ok (.aload_n 0, 1) := by decide +kernel
theorem dX10_pass_27 : decode cX10_pass 27 = .ok (.invokevirtual 68, 3) := by decide +kernel
theorem dX10_pass_30 : decode cX10_pass 30 = .ok (.iconst 1, 1) := by decide +kernel
theorem dX10_pass_31 : decode cX10_pass 31 = .ok (.if_icmp .eq 6, 3) := by decide +kernel
theorem dX10_pass_34 : decode cX10_pass 34 = .ok (.goto 62, 3) := by decide +kernel
theorem dX10_pass_37 : decode cX10_pass 37 = .ok (.aload_n 0, 1) := by decide +kernel
theorem dX10_pass_38 : decode cX10_pass 38 = .ok (.getfield 19, 3) := by decide +kernel
theorem dX10_pass_41 : decode cX10_pass 41 = .ok (.iload_n 1, 1) := by decide +kernel
theorem dX10_pass_42 : decode cX10_pass 42 = .ok (.aaload, 1) := by decide +kernel
theorem dX10_pass_43 : decode cX10_pass 43 = .ok (.iconst 0, 1) := by decide +kernel
theorem dX10_pass_44 : decode cX10_pass 44 = .ok (.iaload, 1) := by decide +kernel
theorem dX10_pass_45 : decode cX10_pass 45 = .ok (.iconst 1, 1) := by decide +kernel
theorem dX10_pass_46 : decode cX10_pass 46 = .ok (.if_icmp .ne 7, 3) := by decide +kernel
theorem dX10_pass_49 : decode cX10_pass 49 = .ok (.iconst 1, 1) := by decide +kernel
theorem dX10_pass_50 : decode cX10_pass 50 = .ok (.goto 4, 3) := by decide +kernel
theorem dX10_pass_53 : decode cX10_pass 53 = .ok (.iconst 0, 1) := by decide +kernel
theorem dX10_pass_54 : decode cX10_pass 54 = .ok (.istore_n 2, 1) := by decide +kernel
theorem dX10_pass_55 : decode cX10_pass 55 = .ok (.aload_n 0, 1) := by decide +kernel
theorem dX10_pass_56 : decode cX10_pass 56 = .ok (.getfield 15, 3) := by decide +kernel
theorem dX10_pass_59 : decode cX10_pass 59 = .ok (.aload_n 0, 1) := by decide +kernel
theorem dX10_pass_60 : decode cX10_pass 60 = .ok (.getfield 19, 3) := by decide +kernel
theorem dX10_pass_63 : decode cX10_pass 63 = .ok (.iload_n 1, 1) := by decide +kernel
theorem dX10_pass_64 : decode cX10_pass 64 = .ok (.aaload, 1) := by decide +kernel
theorem dX10_pass_65 : decode cX10_pass 65 = .ok (.iconst 1, 1) := by decide +kernel
theorem dX10_pass_66 : decode cX10_pass 66 = .ok (.iaload, 1) := by decide +kernel
theorem dX10_pass_67 : decode cX10_pass 67 = .ok (.baload, 1) := by decide +kernel
theorem dX10_pass_68 : decode cX10_pass 68 = .ok (.iload_n 2, 1) := by decide +kernel
theorem dX10_pass_69 : decode cX10_pass 69 = .ok (.if_icmp .eq 13, 3) := by decide +kernel
theorem dX10_pass_72 : decode cX10_pass 72 = .ok (.aload_n 0, 1) := by decide +kernel
theorem dX10_pass_73 : decode cX10_pass 73 = .ok (.dup, 1) := by decide +kernel
theorem dX10_pass_74 : decode cX10_pass 74 = .ok (.getfield 39, 3) := by decide +kernel
theorem dX10_pass_77 : decode cX10_pass 77 = .ok (.iconst 1, 1) := by decide +kernel
theorem dX10_pass_78 : decode cX10_pass 78 = .ok (.iadd, 1) := by decide +kernel
theorem dX10_pass_79 : decode cX10_pass 79 = .ok (.putfield 39, 3) := by decide +kernel
theorem dX10_pass_82 : decode cX10_pass 82 = .ok (.aload_n 0, 1) := by decide +kernel
theorem dX10_pass_83 : decode cX10_pass 83 = .ok (.getfield 15, 3) := by decide +kernel
theorem dX10_pass_86 : decode cX10_pass 86 = .ok (.aload_n 0, 1) := by decide +kernel
theorem dX10_pass_87 : decode cX10_pass 87 = .ok (.getfield 19, 3) := by decide +kernel
theorem dX10_pass_90 : decode cX10_pass 90 = .ok (.iload_n 1, 1) := by decide +kernel
theorem dX10_pass_91 : decode cX10_pass 91 = .ok (.aaload, 1) := by decide +kernel
theorem dX10_pass_92 : decode cX10_pass 92 = .ok (.iconst 1, 1) := by decide +kernel
theorem dX10_pass_93 : decode cX10_pass 93 = .ok (.iaload, 1) := by decide +kernel
theorem dX10_pass_94 : decode cX10_pass 94 = .ok (.iload_n 2, 1) := by decide +kernel
theorem dX10_pass_95 : decode cX10_pass 95 = .ok (.bastore, 1) := by decide +kernel
theorem dX10_pass_96 : decode cX10_pass 96 = .ok (.iinc 1 1, 3) := by decide +kernel
theorem dX10_pass_99 : decode cX10_pass 99 = .ok (.goto (-97), 3) := by decide +kernel
theorem dX10_pass_102 : decode cX10_pass 102 = .ok (.aload_n 0, 1) := by decide +kernel
theorem dX10_pass_103 : decode cX10_pass 103 = .ok (.dup, 1) := by decide +kernel
theorem dX10_pass_104 : decode cX10_pass 104 = .ok (.getfield 36, 3) := by decide +kernel
theorem dX10_pass_107 : decode cX10_pass 107 = .ok (.iconst 1, 1) := by decide +kernel
theorem dX10_pass_108 : decode cX10_pass 108 = .ok (.iadd, 1) := by decide +kernel
theorem dX10_pass_109 : decode cX10_pass 109 = .ok (.putfield 36, 3) := by decide +kernel
theorem dX10_pass_112 : decode cX10_pass 112 = .ok (.return_, 1) := by decide +kernel
theorem dX10_isSame_0 : decode cX10_isSame 0 = .ok (.aload_n 1, 1) := by decide +kernel
theorem dX10_isSame_1 : decode cX10_isSame 1 = .ok (.invokevirtual 72, 3) := by decide +kernel
theorem dX10_isSame_4 : decode cX10_isSame 4 = .ok (.aload_n 0, 1) := by decide +kernel
theorem dX10_isSame_5 : decode cX10_isSame 5 = .ok (.getfield 29, 3) := by decide +kernel
theorem dX10_isSame_8 : decode cX10_isSame 8 = .ok (.if_icmp .ne 91, 3) := by decide +kernel
theorem dX10_isSame_11 : decode cX10_isSame 11 = .ok (.aload_n 1, 1) := by decide +kernel
theorem dX10_isSame_12 : decode cX10_isSame 12 = .ok (.invokevirtual 77, 3) := by decide +kernel
theorem dX10_isSame_15 : decode cX10_isSame 15 = .ok (.aload_n 0, 1) := by decide +kernel
theorem dX10_isSame_16 : decode cX10_isSame 16 = .ok (.getfield 33, 3) := by decide +kernel
theorem dX10_isSame_19 : decode cX10_isSame 19 = .ok (.if_icmp .ne 80, 3) := by decide +kernel
theorem dX10_isSame_22 : decode cX10_isSame 22 = .ok (.aload_n 1, 1) := by decide +kernel
theorem dX10_isSame_23 : decode cX10_isSame 23 = .ok (.invokevirtual 79, 3) := by decide +kernel
theorem dX10_isSame_26 : decode cX10_isSame 26 = .ok (.aload_n 0, 1) := by decide +kernel
theorem dX10_isSame_27 : decode cX10_isSame 27 = .ok (.getfield 9, 3) := by decide +kernel
theorem dX10_isSame_30 : decode cX10_isSame 30 = .ok (.arraylength, 1) := by decide +kernel
theorem dX10_isSame_31 : decode cX10_isSame 31 = .ok (.if_icmp .ne 68, 3) := by decide +kernel
theorem dX10_isSame_34 : decode cX10_isSame 34 = .ok (.aload_n 1, 1) := by decide +kernel
theorem dX10_isSame_35 : decode cX10_isSame 35 = .ok (.invokevirtual 81, 3) := by decide +kernel
theorem dX10_isSame_38 : decode cX10_isSame 38 = .ok (.aload_n 0, 1) := by decide +kernel
theorem dX10_isSame_39 : decode cX10_isSame 39 = .ok (.getfield 36, 3) := by decide +kernel
theorem dX10_isSame_42 : decode cX10_isSame 42 = .ok (.if_icmp .ne 57, 3) := by decide +kernel
theorem dX10_isSame_45 : decode cX10_isSame 45 = .ok (.aload_n 1, 1) := by decide +kernel
theorem dX10_isSame_46 : decode cX10_isSame 46 = .ok (.invokevirtual 83, 3) := by decide +kernel
theorem dX10_isSame_49 : decode cX10_isSame 49 = .ok (.aload_n 0, 1) := by decide +kernel
theorem dX10_isSame_50 : decode cX10_isSame 50 = .ok (.getfield 39, 3) := by decide +kernel
theorem dX10_isSame_53 : decode cX10_isSame 53 = .ok (.if_icmp .ne 46, 3) := by decide +kernel
theorem dX10_isSame_56 : decode cX10_isSame 56 = .ok (.aload_n 1, 1) := by decide +kernel
theorem dX10_isSame_57 : decode cX10_isSame 57 = .ok (.invokevirtual 86, 3) := by decide +kernel
theorem dX10_isSame_60 : decode cX10_isSame 60 = .ok (.aload_n 0, 1) := by decide +kernel
theorem dX10_isSame_61 : decode cX10_isSame 61 = .ok (.iconst (-1), 1) := by decide +kernel
theorem dX10_isSame_62 : decode cX10_isSame 62 = .ok (.invokevirtual 89, 3) := by decide +kernel
theorem dX10_isSame_65 : decode cX10_isSame 65 = .ok (.if_icmp .ne 34, 3) := by decide +kernel
theorem dX10_isSame_68 : decode cX10_isSame 68 = .ok (.aload_n 1, 1) := by decide +kernel
theorem dX10_isSame_69 : decode cX10_isSame 69 = .ok (.invokevirtual 92, 3) := by decide +kernel
theorem dX10_isSame_72 : decode cX10_isSame 72 = .ok (.aload_n 0, 1) := by decide +kernel
theorem dX10_isSame_73 : decode cX10_isSame 73 = .ok (.getfield 33, 3) := by decide +kernel
theorem dX10_isSame_76 : decode cX10_isSame 76 = .ok (.ifCond .ne 7, 3) := by decide +kernel
theorem dX10_isSame_79 : decode cX10_isSame 79 = .ok (.dconst 0, 1) := by decide +kernel
theorem dX10_isSame_80 : decode cX10_isSame 80 = .ok (.goto 15, 3) := by decide +kernel
theorem dX10_isSame_83 : decode cX10_isSame 83 = .ok (.aload_n 0, 1) := by decide +kernel
theorem dX10_isSame_84 : decode cX10_isSame 84 = .ok (.getfield 9, 3) := by decide +kernel
theorem dX10_isSame_87 : decode cX10_isSame 87 = .ok (.arraylength, 1) := by decide +kernel
theorem dX10_isSame_88 : decode cX10_isSame 88 = .ok (.i2d, 1) := by decide +kernel
theorem dX10_isSame_89 : decode cX10_isSame 89 = .ok (.aload_n 0, 1) := by decide +kernel
theorem dX10_isSame_90 : decode cX10_isSame 90 = .ok (.getfield 33, 3) := by decide +kernel
theorem dX10_isSame_93 : decode cX10_isSame 93 = .ok (.i2d, 1) := by decide +kernel
theorem dX10_isSame_94 : decode cX10_isSame 94 = .ok (.ddiv, 1) := by decide +kernel
theorem dX10_isSame_95 : decode cX10_isSame 95 = .ok (.dcmp .l, 1) := by decide +kernel
theorem dX10_isSame_96 : decode cX10_isSame 96 = .ok (.ifCond .eq 5, 3) := by decide +kernel
theorem dX10_isSame_99 : decode cX10_isSame 99 = .ok (.iconst 0, 1) := by decide +kernel
theorem dX10_isSame_100 : decode cX10_isSame 100 = .ok (.ireturn, 1) := by decide +kernel
theorem dX10_isSame_101 : decode cX10_isSame 101 = .ok (.iconst 0, 1) := by decide +kernel
theorem dX10_isSame_102 : decode cX10_isSame 102 = .ok (.istore_n 2, 1) := by decide +kernel
theorem dX10_isSame_103 : decode cX10_isSame 103 = .ok (.iload_n 2, 1) := by decide +kernel
theorem dX10_isSame_104 : decode cX10_isSame 104 = .ok (.aload_n 0, 1) := by decide +kernel
theorem dX10_isSame_105 : decode cX10_isSame 105 = .ok (.getfield 9, 3) := by decide +kernel
theorem dX10_isSame_108 : decode cX10_isSame 108 = .ok (.arraylength, 1) := by decide +kernel
theorem dX10_isSame_109 : decode cX10_isSame 109 = .ok (.if_icmp .ge 139, 3) := by decide +kernel
theorem dX10_isSame_112 : decode cX10_isSame 112 = .ok (.aload_n 0, 1) := by decide +kernel
theorem dX10_isSame_113 : decode cX10_isSame 113 = .ok (.getfield 9, 3) := by decide +kernel
theorem dX10_isSame_116 : decode cX10_isSame 116 = .ok (.iload_n 2, 1) := by decide +kernel
theorem dX10_isSame_117 : decode cX10_isSame 117 = .ok (.aaload, 1) := by decide +kernel
theorem dX10_isSame_118 : decode cX10_isSame 118 = .ok (.astore_n 3, 1) := by decide +kernel
theorem dX10_isSame_119 : decode cX10_isSame 119 = .ok (.aload_n 1, 1) := by decide +kernel
theorem dX10_isSame_120 : decode cX10_isSame 120 = .ok (.iload_n 2, 1) := by decide +kernel
theorem dX10_isSame_121 : decode cX10_isSame 121 = .ok (.invokevirtual 96, 3) := by decide +kernel
theorem dX10_isSame_124 : decode cX10_isSame 124 = .ok (.aload_n 3, 1) := by decide +kernel
theorem dX10_isSame_125 : decode cX10_isSame 125 = .ok (.iconst 0, 1) := by decide +kernel
theorem dX10_isSame_126 : decode cX10_isSame 126 = .ok (.iaload, 1) := by decide +kernel
theorem dX10_isSame_127 : decode cX10_isSame 127 = .ok (.if_icmp .ne 25, 3) := by decide +kernel
theorem dX10_isSame_130 : decode cX10_isSame 130 = .ok (.aload_n 1, 1) := by decide +kernel
theorem dX10_isSame_131 : decode cX10_isSame 131 = .ok (.iload_n 2, 1) := by decide +kernel
theorem dX10_isSame_132 : decode cX10_isSame 132 = .ok (.invokevirtual 99, 3) := by decide +kernel
theorem dX10_isSame_135 : decode cX10_isSame 135 = .ok (.aload_n 3, 1) := by decide +kernel
theorem dX10_isSame_136 : decode cX10_isSame 136 = .ok (.iconst 1, 1) := by decide +kernel
theorem dX10_isSame_137 : decode cX10_isSame 137 = .ok (.iaload, 1) := by decide +kernel
theorem dX10_isSame_138 : decode cX10_isSame 138 = .ok (.if_icmp .ne 14, 3) := by decide +kernel
theorem dX10_isSame_141 : decode cX10_isSame 141 = .ok (.aload_n 1, 1) := by decide +kernel
theorem dX10_isSame_142 : decode cX10_isSame 142 = .ok (.iload_n 2, 1) := by decide +kernel
theorem dX10_isSame_143 : decode cX10_isSame 143 = .ok (.invokevirtual 102, 3) := by decide +kernel
theorem dX10_isSame_146 : decode cX10_isSame 146 = .ok (.aload_n 3, 1) := by decide +kernel
theorem dX10_isSame_147 : decode cX10_isSame 147 = .ok (.iconst 2, 1) := by decide +kernel
theorem dX10_isSame_148 : decode cX10_isSame 148 = .ok (.iaload, 1) := by decide +kernel
theorem dX10_isSame_149 : decode cX10_isSame 149 = .ok (.if_icmp .eq 5, 3) := by decide +kernel
theorem dX10_isSame_152 : decode cX10_isSame 152 = .ok (.iconst 0, 1) := by decide +kernel
theorem dX10_isSame_153 : decode cX10_isSame 153 = .ok (.ireturn, 1) := by decide +kernel
theorem dX10_isSame_154 : decode cX10_isSame 154 = .ok (.aload_n 3, 1) := by decide +kernel
theorem dX10_isSame_155 : decode cX10_isSame 155 = .ok (.iconst 0, 1) := by decide +kernel
theorem dX10_isSame_156 : decode cX10_isSame 156 = .ok (.iaload, 1) := by decide +kernel
theorem dX10_isSame_157 : decode cX10_isSame 157 = .ok (.ifCond .ne 28, 3) := by decide +kernel
theorem dX10_isSame_160 : decode cX10_isSame 160 = .ok (.aload_n 1, 1) := by decide +kernel
theorem dX10_isSame_161 : decode cX10_isSame 161 = .ok (.iload_n 2, 1) := by decide +kernel
theorem dX10_isSame_162 : decode cX10_isSame 162 = .ok (.invokevirtual 105, 3) := by decide +kernel
theorem dX10_isSame_165 : decode cX10_isSame 165 = .ok (.aload_n 3, 1) := by decide +kernel
theorem dX10_isSame_166 : decode cX10_isSame 166 = .ok (.iconst 3, 1) := by decide +kernel
theorem dX10_isSame_167 : decode cX10_isSame 167 = .ok (.iaload, 1) := by decide +kernel
theorem dX10_isSame_168 : decode cX10_isSame 168 = .ok (.if_icmp .ne 28, 3) := by decide +kernel
theorem dX10_isSame_171 : decode cX10_isSame 171 = .ok (.aload_n 1, 1) := by decide +kernel
theorem dX10_isSame_172 : decode cX10_isSame 172 = .ok (.iload_n 2, 1) := by decide +kernel
theorem dX10_isSame_173 : decode cX10_isSame 173 = .ok (.invokevirtual 108, 3) := by decide +kernel
theorem dX10_isSame_176 : decode cX10_isSame 176 = .ok (.aload_n 3, 1) := by decide +kernel
theorem dX10_isSame_177 : decode cX10_isSame 177 = .ok (.iconst 4, 1) := by decide +kernel
theorem dX10_isSame_178 : decode cX10_isSame 178 = .ok (.iaload, 1) := by decide +kernel
theorem dX10_isSame_179 : decode cX10_isSame 179 = .ok (.if_icmp .eq 19, 3) := by decide +kernel
theorem dX10_isSame_182 : decode cX10_isSame 182 = .ok (.goto 14, 3) := by decide +kernel
theorem dX10_isSame_185 : decode cX10_isSame 185 = .ok (.aload_n 1, 1) := by decide +kernel
theorem dX10_isSame_186 : decode cX10_isSame 186 = .ok (.iload_n 2, 1) := by decide +kernel
theorem dX10_isSame_187 : decode cX10_isSame 187 = .ok (.invokevirtual 111, 3) := by decide +kernel
theorem dX10_isSame_190 : decode cX10_isSame 190 = .ok (.aload_n 3, 1) := by decide +kernel
theorem dX10_isSame_191 : decode cX10_isSame 191 = .ok (.iconst 3, 1) := by decide +kernel
theorem dX10_isSame_192 : decode cX10_isSame 192 = .ok (.iaload, 1) := by decide +kernel
theorem dX10_isSame_193 : decode cX10_isSame 193 = .ok (.if_icmp .eq 5, 3) := by decide +kernel
theorem dX10_isSame_196 : decode cX10_isSame 196 = .ok (.iconst 0, 1) := by decide +kernel
theorem dX10_isSame_197 : decode cX10_isSame 197 = .ok (.ireturn, 1) := by decide +kernel
theorem dX10_isSame_198 : decode cX10_isSame 198 = .ok (.iload_n 2, 1) := by decide +kernel
theorem dX10_isSame_199 : decode cX10_isSame 199 = .ok (.iconst 3, 1) := by decide +kernel
theorem dX10_isSame_200 : decode cX10_isSame 200 = .ok (.irem, 1) := by decide +kernel
theorem dX10_isSame_201 : decode cX10_isSame 201 = .ok (.istore 4, 2) := by decide +kernel
theorem dX10_isSame_203 : decode cX10_isSame 203 = .ok (.iload 4, 2) := by decide +kernel
theorem dX10_isSame_205 : decode cX10_isSame 205 = .ok (.aload_n 0, 1) := by decide +kernel
theorem dX10_isSame_206 : decode cX10_isSame 206 = .ok (.getfield 9, 3) := by decide +kernel
theorem dX10_isSame_209 : decode cX10_isSame 209 = .ok (.arraylength, 1) := by decide +kernel
theorem dX10_isSame_210 : decode cX10_isSame 210 = .ok (.if_icmp .ge 32, 3) := by decide +kernel
theorem dX10_isSame_213 : decode cX10_isSame 213 = .ok (.aload_n 1, 1) := by decide +kernel
theorem dX10_isSame_214 : decode cX10_isSame 214 = .ok (.iload_n 2, 1) := by decide +kernel
theorem dX10_isSame_215 : decode cX10_isSame 215 = .ok (.iload 4, 2) := by decide +kernel
theorem dX10_isSame_217 : decode cX10_isSame 217 = .ok (.invokevirtual 114, 3) := by decide +kernel
theorem dX10_isSame_220 : decode cX10_isSame 220 = .ok (.aload_n 3, 1) := by decide +kernel
theorem dX10_isSame_221 : decode cX10_isSame 221 = .ok (.aload_n 0, 1) := by decide +kernel
theorem dX10_isSame_222 : decode cX10_isSame 222 = .ok (.getfield 9, 3) := by decide +kernel
theorem dX10_isSame_225 : decode cX10_isSame 225 = .ok (.iload 4, 2) := by decide +kernel
theorem dX10_isSame_227 : decode cX10_isSame 227 = .ok (.aaload, 1) := by decide +kernel
theorem dX10_isSame_228 : decode cX10_isSame 228 = .ok (.invokestatic 46, 3) := by decide +kernel
theorem dX10_isSame_231 : decode cX10_isSame 231 = .ok (.if_icmp .eq 5, 3) := by decide +kernel
theorem dX10_isSame_234 : decode cX10_isSame 234 = .ok (.iconst 0, 1) := by decide +kernel
theorem dX10_isSame_235 : decode cX10_isSame 235 = .ok (.ireturn, 1) := by decide +kernel
theorem dX10_isSame_236 : decode cX10_isSame 236 = .ok (.iinc 4 3, 3) := by decide +kernel
theorem dX10_isSame_239 : decode cX10_isSame 239 = .ok (.goto (-36), 3) := by decide +kernel
theorem dX10_isSame_242 : decode cX10_isSame 242 = .ok (.iinc 2 1, 3) := by decide +kernel
theorem dX10_isSame_245 : decode cX10_isSame 245 = .ok (.goto (-142), 3) := by decide +kernel
theorem dX10_isSame_248 : decode cX10_isSame 248 = .ok (.aload_n 0, 1) := by decide +kernel
theorem dX10_isSame_249 : decode cX10_isSame 249 = .ok (.invokevirtual 64, 3) := by decide +kernel
theorem dX10_isSame_252 : decode cX10_isSame 252 = .ok (.astore_n 2, 1) := by decide +kernel
theorem dX10_isSame_253 : decode cX10_isSame 253 = .ok (.aload_n 1, 1) := by decide +kernel
theorem dX10_isSame_254 : decode cX10_isSame 254 = .ok (.invokevirtual 117, 3) := by decide +kernel
theorem dX10_isSame_257 : decode cX10_isSame 257 = .ok (.aload_n 2, 1) := by decide +kernel
theorem dX10_isSame_258 : decode cX10_isSame 258 = .ok (.iconst 2, 1) := by decide +kernel
theorem dX10_isSame_259 : decode cX10_isSame 259 = .ok (.aaload, 1) := by decide +kernel
theorem dX10_isSame_260 : decode cX10_isSame 260 = .ok (.iconst 0, 1) := by decide +kernel
theorem dX10_isSame_261 : decode cX10_isSame 261 = .ok (.iaload, 1) := by decide +kernel
theorem dX10_isSame_262 : decode cX10_isSame 262 = .ok (.if_icmp .ne 15, 3) := by decide +kernel
theorem dX10_isSame_265 : decode cX10_isSame 265 = .ok (.aload_n 1, 1) := by decide +kernel
theorem dX10_isSame_266 : decode cX10_isSame 266 = .ok (.invokevirtual 119, 3) := by decide +kernel
theorem dX10_isSame_269 : decode cX10_isSame 269 = .ok (.aload_n 2, 1) := by decide +kernel
theorem dX10_isSame_270 : decode cX10_isSame 270 = .ok (.iconst 1, 1) := by decide +kernel
theorem dX10_isSame_271 : decode cX10_isSame 271 = .ok (.aaload, 1) := by decide +kernel
theorem dX10_isSame_272 : decode cX10_isSame 272 = .ok (.iconst 0, 1) := by decide +kernel
theorem dX10_isSame_273 : decode cX10_isSame 273 = .ok (.iaload, 1) := by decide +kernel
theorem dX10_isSame_274 : decode cX10_isSame 274 = .ok (.if_icmp .eq 5, 3) := by decide +kernel
theorem dX10_isSame_277 : decode cX10_isSame 277 = .ok (.iconst 0, 1) := by decide +kernel
theorem dX10_isSame_278 : decode cX10_isSame 278 = .ok (.ireturn, 1) := by decide +kernel
theorem dX10_isSame_279 : decode cX10_isSame 279 = .ok (.iconst 0, 1) := by decide +kernel
theorem dX10_isSame_280 : decode cX10_isSame 280 = .ok (.istore_n 3, 1) := by decide +kernel
theorem dX10_isSame_281 : decode cX10_isSame 281 = .ok (.iload_n 3, 1) := by decide +kernel
theorem dX10_isSame_282 : decode cX10_isSame 282 = .ok (.aload_n 0, 1) := by decide +kernel
theorem dX10_isSame_283 : decode cX10_isSame 283 = .ok (.getfield 33, 3) := by decide +kernel
theorem dX10_isSame_286 : decode cX10_isSame 286 = .ok (.if_icmp .ge 114, 3) := by decide +kernel
theorem dX10_isSame_289 : decode cX10_isSame 289 = .ok (.aload_n 1, 1) := by decide +kernel
theorem dX10_isSame_290 : decode cX10_isSame 290 = .ok (.iload_n 3, 1) := by decide +kernel
theorem dX10_isSame_291 : decode cX10_isSame 291 = .ok (.invokevirtual 122, 3) := by decide +kernel
theorem dX10_isSame_294 : decode cX10_isSame 294 = .ok (.aload_n 0, 1) := by decide +kernel
theorem dX10_isSame_295 : decode cX10_isSame 295 = .ok (.iload_n 3, 1) := by decide +kernel
theorem dX10_isSame_296 : decode cX10_isSame 296 = .ok (.invokevirtual 125, 3) := by decide +kernel
theorem dX10_isSame_299 : decode cX10_isSame 299 = .ok (.if_icmp .ne 39, 3) := by decide +kernel
theorem dX10_isSame_302 : decode cX10_isSame 302 = .ok (.aload_n 1, 1) := by decide +kernel
theorem dX10_isSame_303 : decode cX10_isSame 303 = .ok (.iload_n 3, 1) := by decide +kernel
theorem dX10_isSame_304 : decode cX10_isSame 304 = .ok (.invokevirtual 126, 3) := by decide +kernel
theorem dX10_isSame_307 : decode cX10_isSame 307 = .ok (.aload_n 0, 1) := by decide +kernel
theorem dX10_isSame_308 : decode cX10_isSame 308 = .ok (.getfield 15, 3) := by decide +kernel
theorem dX10_isSame_311 : decode cX10_isSame 311 = .ok (.iload_n 3, 1) := by decide +kernel
theorem dX10_isSame_312 : decode cX10_isSame 312 = .ok (.baload, 1) := by decide +kernel
theorem dX10_isSame_313 : decode cX10_isSame 313 = .ok (.if_icmp .ne 25, 3) := by decide +kernel
theorem dX10_isSame_316 : decode cX10_isSame 316 = .ok (.aload_n 1, 1) := by decide +kernel
theorem dX10_isSame_317 : decode cX10_isSame 317 = .ok (.iload_n 3, 1) := by decide +kernel
theorem dX10_isSame_318 : decode cX10_isSame 318 = .ok (.invokevirtual 129, 3) := by decide +kernel
theorem dX10_isSame_321 : decode cX10_isSame 321 = .ok (.aload_n 2, 1) := by decide +kernel
theorem dX10_isSame_322 : decode cX10_isSame 322 = .ok (.iconst 0, 1) := by decide +kernel
theorem dX10_isSame_323 : decode cX10_isSame 323 = .ok (.aaload, 1) := by decide +kernel
theorem dX10_isSame_324 : decode cX10_isSame 324 = .ok (.iload_n 3, 1) := by decide +kernel
theorem dX10_isSame_325 : decode cX10_isSame 325 = .ok (.iaload, 1) := by decide +kernel
theorem dX10_isSame_326 : decode cX10_isSame 326 = .ok (.iconst 1, 1) := by decide +kernel
theorem dX10_isSame_327 : decode cX10_isSame 327 = .ok (.if_icmp .ne 7, 3) := by decide +kernel
theorem dX10_isSame_330 : decode cX10_isSame 330 = .ok (.iconst 1, 1) := by decide +kernel
theorem dX10_isSame_331 : decode cX10_isSame 331 = .ok (.goto 4, 3) := by decide +kernel
theorem dX10_isSame_334 : decode cX10_isSame 334 = .ok (.iconst 0, 1) := by decide +kernel
theorem dX10_isSame_335 : decode cX10_isSame 335 = .ok (.if_icmp .eq 5, 3) := by decide +kernel
theorem dX10_isSame_338 : decode cX10_isSame 338 = .ok (.iconst 0, 1) := by decide +kernel
theorem dX10_isSame_339 : decode cX10_isSame 339 = .ok (.ireturn, 1) := by decide +kernel
theorem dX10_isSame_340 : decode cX10_isSame 340 = .ok (.iconst 0, 1) := by decide +kernel
theorem dX10_isSame_341 : decode cX10_isSame 341 = .ok (.istore 4, 2) := by decide +kernel
theorem dX10_isSame_343 : decode cX10_isSame 343 = .ok (.iload 4, 2) := by decide +kernel
theorem dX10_isSame_345 : decode cX10_isSame 345 = .ok (.aload_n 0, 1) := by decide +kernel
theorem dX10_isSame_346 : decode cX10_isSame 346 = .ok (.getfield 33, 3) := by decide +kernel
theorem dX10_isSame_349 : decode cX10_isSame 349 = .ok (.if_icmp .ge 45, 3) := by decide +kernel
theorem dX10_isSame_352 : decode cX10_isSame 352 = .ok (.aload_n 1, 1) := by decide +kernel
theorem dX10_isSame_353 : decode cX10_isSame 353 = .ok (.iload_n 3, 1) := by decide +kernel
theorem dX10_isSame_354 : decode cX10_isSame 354 = .ok (.iload 4, 2) := by decide +kernel
theorem dX10_isSame_356 : decode cX10_isSame 356 = .ok (.invokevirtual 132, 3) := by decide +kernel
theorem dX10_isSame_359 : decode cX10_isSame 359 = .ok (.aload_n 0, 1) := by decide +kernel
theorem dX10_isSame_360 : decode cX10_isSame 360 = .ok (.iload_n 3, 1) := by decide +kernel
theorem dX10_isSame_361 : decode cX10_isSame 361 = .ok (.iload 4, 2) := by decide +kernel
theorem dX10_isSame_363 : decode cX10_isSame 363 = .ok (.invokevirtual 50, 3) := by decide +kernel
theorem dX10_isSame_366 : decode cX10_isSame 366 = .ok (.if_icmp .ne 20, 3) := by decide +kernel
theorem dX10_isSame_369 : decode cX10_isSame 369 = .ok (.aload_n 1, 1) := by decide +kernel
theorem dX10_isSame_370 : decode cX10_isSame 370 = .ok (.iload_n 3, 1) := by decide +kernel
theorem dX10_isSame_371 : decode cX10_isSame 371 = .ok (.iload 4, 2) := by decide +kernel
theorem dX10_isSame_373 : decode cX10_isSame 373 = .ok (.invokevirtual 135, 3) := by decide +kernel
theorem dX10_isSame_376 : decode cX10_isSame 376 = .ok (.aload_n 0, 1) := by decide +kernel
theorem dX10_isSame_377 : decode cX10_isSame 377 = .ok (.iload_n 3, 1) := by decide +kernel
theorem dX10_isSame_378 : decode cX10_isSame 378 = .ok (.iload 4, 2) := by decide +kernel
theorem dX10_isSame_380 : decode cX10_isSame 380 = .ok (.invokevirtual 54, 3) := by decide +kernel
theorem dX10_isSame_383 : decode cX10_isSame 383 = .ok (.if_icmp .eq 5, 3) := by decide +kernel
theorem dX10_isSame_386 : decode cX10_isSame 386 = .ok (.iconst 0, 1) := by decide +kernel
theorem dX10_isSame_387 : decode cX10_isSame 387 = .ok (.ireturn, 1) := by decide +kernel
theorem dX10_isSame_388 : decode cX10_isSame 388 = .ok (.iinc 4 1, 3) := by decide +kernel
theorem dX10_isSame_391 : decode cX10_isSame 391 = .ok (.goto (-48), 3) := by decide +kernel
theorem dX10_isSame_394 : decode cX10_isSame 394 = .ok (.iinc 3 1, 3) := by decide +kernel
theorem dX10_isSame_397 : decode cX10_isSame 397 = .ok (.goto (-116), 3) := by decide +kernel
theorem dX10_isSame_400 : decode cX10_isSame 400 = .ok (.aload_n 0, 1) := by decide +kernel
theorem dX10_isSame_401 : decode cX10_isSame 401 = .ok (.invokevirtual 138, 3) := by decide +kernel
theorem dX10_isSame_404 : decode cX10_isSame 404 = .ok (.astore_n 3, 1) := by decide +kernel
theorem dX10_isSame_405 : decode cX10_isSame 405 = .ok (.aload_n 1, 1) := by decide +kernel
theorem dX10_isSame_406 : decode cX10_isSame 406 = .ok (.invokevirtual 142, 3) := by decide +kernel
theorem dX10_isSame_409 : decode cX10_isSame 409 = .ok (.aload_n 3, 1) := by decide +kernel
theorem dX10_isSame_410 : decode cX10_isSame 410 = .ok (.ifnull 7, 3) := by decide +kernel
theorem dX10_isSame_413 : decode cX10_isSame 413 = .ok (.iconst 1, 1) := by decide +kernel
theorem dX10_isSame_414 : decode cX10_isSame 414 = .ok (.goto 4, 3) := by decide +kernel
theorem dX10_isSame_417 : decode cX10_isSame 417 = .ok (.iconst 0, 1) := by decide +kernel
theorem dX10_isSame_418 : decode cX10_isSame 418 = .ok (.if_icmp .eq 5, 3) := by decide +kernel
theorem dX10_isSame_421 : decode cX10_isSame 421 = .ok (.iconst 0, 1) := by decide +kernel
theorem dX10_isSame_422 : decode cX10_isSame 422 = .ok (.ireturn, 1) := by decide +kernel
theorem dX10_isSame_423 : decode cX10_isSame 423 = .ok (.iconst 0, 1) := by decide +kernel
theorem dX10_isSame_424 : decode cX10_isSame 424 = .ok (.istore 4, 2) := by decide +kernel
theorem dX10_isSame_426 : decode cX10_isSame 426 = .ok (.iload 4, 2) := by decide +kernel
theorem dX10_isSame_428 : decode cX10_isSame 428 = .ok (.aload_n 0, 1) := by decide +kernel
theorem dX10_isSame_429 : decode cX10_isSame 429 = .ok (.getfield 29, 3) := by decide +kernel
theorem dX10_isSame_432 : decode cX10_isSame 432 = .ok (.if_icmp .ge 90, 3) := by decide +kernel
theorem dX10_isSame_435 : decode cX10_isSame 435 = .ok (.aload_n 0, 1) := by decide +kernel
theorem dX10_isSame_436 : decode cX10_isSame 436 = .ok (.iload 4, 2) := by decide +kernel
theorem dX10_isSame_438 : decode cX10_isSame 438 = .ok (.invokevirtual 146, 3) := by decide +kernel
theorem dX10_isSame_441 : decode cX10_isSame 441 = .ok (.astore 5, 2) := by decide +kernel
theorem dX10_isSame_443 : decode cX10_isSame 443 = .ok (.aload_n 1, 1) := by decide +kernel
theorem dX10_isSame_444 : decode cX10_isSame 444 = .ok (.iload 4, 2) := by decide +kernel
theorem dX10_isSame_446 : decode cX10_isSame 446 = .ok (.invokevirtual 150, 3) := by decide +kernel
theorem dX10_isSame_449 : decode cX10_isSame 449 = .ok (.aload 5, 2) := by decide +kernel
theorem dX10_isSame_451 : decode cX10_isSame 451 = .ok (.iconst 2, 1) := by decide +kernel
theorem dX10_isSame_452 : decode cX10_isSame 452 = .ok (.iaload, 1) := by decide +kernel
theorem dX10_isSame_453 : decode cX10_isSame 453 = .ok (.ifCond .le 7, 3) := by decide +kernel
theorem dX10_isSame_456 : decode cX10_isSame 456 = .ok (.iconst 1, 1) := by decide +kernel
theorem dX10_isSame_457 : decode cX10_isSame 457 = .ok (.goto 4, 3) := by decide +kernel
theorem dX10_isSame_460 : decode cX10_isSame 460 = .ok (.iconst 0, 1) := by decide +kernel
theorem dX10_isSame_461 : decode cX10_isSame 461 = .ok (.if_icmp .ne 53, 3) := by decide +kernel
theorem dX10_isSame_464 : decode cX10_isSame 464 = .ok (.aload 5, 2) := by decide +kernel
theorem dX10_isSame_466 : decode cX10_isSame 466 = .ok (.iconst 2, 1) := by decide +kernel
theorem dX10_isSame_467 : decode cX10_isSame 467 = .ok (.iaload, 1) := by decide +kernel
theorem dX10_isSame_468 : decode cX10_isSame 468 = .ok (.ifCond .le 29, 3) := by decide +kernel
theorem dX10_isSame_471 : decode cX10_isSame 471 = .ok (.aload_n 1, 1) := by decide +kernel
theorem dX10_isSame_472 : decode cX10_isSame 472 = .ok (.iload 4, 2) := by decide +kernel
theorem dX10_isSame_474 : decode cX10_isSame 474 = .ok (.invokevirtual 153, 3) := by decide +kernel
theorem dX10_isSame_477 : decode cX10_isSame 477 = .ok (.aload 5, 2) := by decide +kernel
theorem dX10_isSame_479 : decode cX10_isSame 479 = .ok (.iconst 0, 1) := by decide +kernel
theorem dX10_isSame_480 : decode cX10_isSame 480 = .ok (.iaload, 1) := by decide +kernel
theorem dX10_isSame_481 : decode cX10_isSame 481 = .ok (.if_icmp .ne 33, 3) := by decide +kernel
theorem dX10_isSame_484 : decode cX10_isSame 484 = .ok (.aload_n 1, 1) := by decide +kernel
theorem dX10_isSame_485 : decode cX10_isSame 485 = .ok (.iload 4, 2) := by decide +kernel
theorem dX10_isSame_487 : decode cX10_isSame 487 = .ok (.invokevirtual 156, 3) := by decide +kernel
theorem dX10_isSame_490 : decode cX10_isSame 490 = .ok (.aload 5, 2) := by decide +kernel
theorem dX10_isSame_492 : decode cX10_isSame 492 = .ok (.iconst 1, 1) := by decide +kernel
theorem dX10_isSame_493 : decode cX10_isSame 493 = .ok (.iaload, 1) := by decide +kernel
theorem dX10_isSame_494 : decode cX10_isSame 494 = .ok (.if_icmp .ne 20, 3) := by decide +kernel
theorem dX10_isSame_497 : decode cX10_isSame 497 = .ok (.aload_n 3, 1) := by decide +kernel
theorem dX10_isSame_498 : decode cX10_isSame 498 = .ok (.ifnull 18, 3) := by decide +kernel
theorem dX10_isSame_501 : decode cX10_isSame 501 = .ok (.aload_n 1, 1) := by decide +kernel
theorem dX10_isSame_502 : decode cX10_isSame 502 = .ok (.iload 4, 2) := by decide +kernel
theorem dX10_isSame_504 : decode cX10_isSame 504 = .ok (.invokevirtual 159, 3) := by decide +kernel
theorem dX10_isSame_507 : decode cX10_isSame 507 = .ok (.aload_n 3, 1) := by decide +kernel
theorem dX10_isSame_508 : decode cX10_isSame 508 = .ok (.iload 4, 2) := by decide +kernel
theorem dX10_isSame_510 : decode cX10_isSame 510 = .ok (.iaload, 1) := by decide +kernel
theorem dX10_isSame_511 : decode cX10_isSame 511 = .ok (.if_icmp .eq 5, 3) := by decide +kernel
theorem dX10_isSame_514 : decode cX10_isSame 514 = .ok (.iconst 0, 1) := by decide +kernel
theorem dX10_isSame_515 : decode cX10_isSame 515 = .ok (.ireturn, 1) := by decide +kernel
theorem dX10_isSame_516 : decode cX10_isSame 516 = .ok (.iinc 4 1, 3) := by decide +kernel
theorem dX10_isSame_519 : decode cX10_isSame 519 = .ok (.goto (-93), 3) := by decide +kernel
theorem dX10_isSame_522 : decode cX10_isSame 522 = .ok (.iconst 1, 1) := by decide +kernel
theorem dX10_isSame_523 : decode cX10_isSame 523 = .ok (.ireturn, 1) := by decide +kernel
theorem dX11_init_0 : decode cX11_init 0 = .ok (.aload_n 0, 1) := by decide +kernel
theorem dX11_init_1 : decode cX11_init 1 = .ok (.invokespecial 1, 3) := by decide +kernel
theorem dX11_init_4 : decode cX11_init 4 = .ok (.return_, 1) := by decide +kernel
theorem dX11_of_0 : decode cX11_of 0 = .ok (.aload_n 0, 1) := by decide +kernel
theorem dX11_of_1 : decode cX11_of 1 = .ok (.getfield 7, 3) := by decide +kernel
theorem dX11_of_4 : decode cX11_of 4 = .ok (.tableswitch 274 0 29 #[136, 141, 146, 157, 163, 172, 183, 274, 274, 274, 274, 274, 274, 274, 274, 274, 274, 274, 274, 274, 274, 274, 274, 274, 274, 193, 214, 226, 244, 263], 136) := by decide +kernel
theorem dX11_of_140 : decode cX11_of 140 = .ok (.aload_n 0, 1) := by decide +kernel
theorem dX11_of_141 : decode cX11_of 141 = .ok (.getfield 13, 3) := by decide +kernel
theorem dX11_of_144 : decode cX11_of 144 = .ok (.ireturn, 1) := by decide +kernel
theorem dX11_of_145 : decode cX11_of 145 = .ok (.aload_n 1, 1) := by decide +kernel
theorem dX11_of_146 : decode cX11_of 146 = .ok (.getfield 16, 3) := by decide +kernel
theorem dX11_of_149 : decode cX11_of 149 = .ok (.ireturn, 1) := by decide +kernel
theorem dX11_of_150 : decode cX11_of 150 = .ok (.aload_n 1, 1) := by decide +kernel
theorem dX11_of_151 : decode cX11_of 151 = .ok (.aload_n 1, 1) := by decide +kernel
theorem dX11_of_152 : decode cX11_of 152 = .ok (.invokevirtual 21, 3) := by decide +kernel
theorem dX11_of_155 : decode cX11_of 155 = .ok (.iconst 0, 1) := by decide +kernel
theorem dX11_of_156 : decode cX11_of 156 = .ok (.aaload, 1) := by decide +kernel
theorem dX11_of_157 : decode cX11_of 157 = .ok (.invokevirtual 25, 3) := by decide +kernel
theorem dX11_of_160 : decode cX11_of 160 = .ok (.ireturn, 1) := by decide +kernel
theorem dX11_of_161 : decode cX11_of 161 = .ok (.aload_n 1, 1) := by decide +kernel
theorem dX11_of_162 : decode cX11_of 162 = .ok (.iconst (-1), 1) := by decide +kernel
theorem dX11_of_163 : decode cX11_of 163 = .ok (.invokevirtual 29, 3) := by decide +kernel
theorem dX11_of_166 : decode cX11_of 166 = .ok (.ireturn, 1) := by decide +kernel
theorem dX11_of_167 : decode cX11_of 167 = .ok (.aload_n 1, 1) := by decide +kernel
theorem dX11_of_168 : decode cX11_of 168 = .ok (.aload_n 0, 1) := by decide +kernel
theorem dX11_of_169 : decode cX11_of 169 = .ok (.getfield 13, 3) := by decide +kernel
theorem dX11_of_172 : decode cX11_of 172 = .ok (.invokevirtual 33, 3) := by decide +kernel
theorem dX11_of_175 : decode cX11_of 175 = .ok (.ireturn, 1) := by decide +kernel
theorem dX11_of_176 : decode cX11_of 176 = .ok (.aload_n 1, 1) := by decide +kernel
theorem dX11_of_177 : decode cX11_of 177 = .ok (.aload_n 0, 1) := by decide +kernel
theorem dX11_of_178 : decode cX11_of 178 = .ok (.getfield 13, 3) := by decide +kernel
theorem dX11_of_181 : decode cX11_of 181 = .ok (.invokevirtual 36, 3) := by decide +kernel
theorem dX11_of_184 : decode cX11_of 184 = .ok (.iconst 2, 1) := by decide +kernel
theorem dX11_of_185 : decode cX11_of 185 = .ok (.iaload, 1) := by decide +kernel
theorem dX11_of_186 : decode cX11_of 186 = .ok (.ireturn, 1) := by decide +kernel
theorem dX11_of_187 : decode cX11_of 187 = .ok (.aload_n 0, 1) := by decide +kernel
theorem dX11_of_188 : decode cX11_of 188 = .ok (.getfield 40, 3) := by decide +kernel
theorem dX11_of_191 : decode cX11_of 191 = .ok (.aload_n 1, 1) := by decide +kernel
theorem dX11_of_192 : decode cX11_of 192 = .ok (.invokevirtual 44, 3) := by decide +kernel
theorem dX11_of_195 : decode cX11_of 195 = .ok (.ineg, 1) := by decide +kernel
theorem dX11_of_196 : decode cX11_of 196 = .ok (.ireturn, 1) := by decide +kernel
theorem dX11_of_197 : decode cX11_of 197 = .ok (.aload_n 1, 1) := by decide +kernel
theorem dX11_of_198 : decode cX11_of 198 = .ok (.aload_n 0, 1) := by decide +kernel
theorem dX11_of_199 : decode cX11_of 199 = .ok (.getfield 13, 3) := by decide +kernel
theorem dX11_of_202 : decode cX11_of 202 = .ok (.aload_n 0, 1) := by decide +kernel
theorem dX11_of_203 : decode cX11_of 203 = .ok (.getfield 48, 3) := by decide +kernel
theorem dX11_of_206 : decode cX11_of 206 = .ok (.invokevirtual 51, 3) := by decide +kernel
theorem dX11_of_209 : decode cX11_of 209 = .ok (.ifCond .eq 7, 3) := by decide +kernel
theorem dX11_of_212 : decode cX11_of 212 = .ok (.iconst 1, 1) := by decide +kernel
theorem dX11_of_213 : decode cX11_of 213 = .ok (.goto 4, 3) := by decide +kernel
theorem dX11_of_216 : decode cX11_of 216 = .ok (.iconst 0, 1) := by decide +kernel
theorem dX11_of_217 : decode cX11_of 217 = .ok (.ireturn, 1) := by decide +kernel
theorem dX11_of_218 : decode cX11_of 218 = .ok (.aload_n 1, 1) := by decide +kernel
theorem dX11_of_219 : decode cX11_of 219 = .ok (.invokevirtual 21, 3) := by decide +kernel
theorem dX11_of_222 : decode cX11_of 222 = .ok (.iconst 0, 1) := by decide +kernel
theorem dX11_of_223 : decode cX11_of 223 = .ok (.aaload, 1) := by decide +kernel
theorem dX11_of_224 : decode cX11_of 224 = .ok (.aload_n 0, 1) := by decide +kernel
theorem dX11_of_225 : decode cX11_of 225 = .ok (.getfield 13, 3) := by decide +kernel
theorem dX11_of_228 : decode cX11_of 228 = .ok (.iaload, 1) := by decide +kernel
theorem dX11_of_229 : decode cX11_of 229 = .ok (.ireturn, 1) := by decide +kernel
theorem dX11_of_230 : decode cX11_of 230 = .ok (.aload_n 1, 1) := by decide +kernel
theorem dX11_of_231 : decode cX11_of 231 = .ok (.getfield 55, 3) := by decide +kernel
theorem dX11_of_234 : decode cX11_of 234 = .ok (.aload_n 0, 1) := by decide +kernel
theorem dX11_of_235 : decode cX11_of 235 = .ok (.getfield 13, 3) := by decide +kernel
theorem dX11_of_238 : decode cX11_of 238 = .ok (.baload, 1) := by decide +kernel
theorem dX11_of_239 : decode cX11_of 239 = .ok (.ifCond .eq 7, 3) := by decide +kernel
theorem dX11_of_242 : decode cX11_of 242 = .ok (.iconst 1, 1) := by decide +kernel
theorem dX11_of_243 : decode cX11_of 243 = .ok (.goto 4, 3) := by decide +kernel
theorem dX11_of_246 : decode cX11_of 246 = .ok (.iconst 0, 1) := by decide +kernel
theorem dX11_of_247 : decode cX11_of 247 = .ok (.ireturn, 1) := by decide +kernel
theorem dX11_of_248 : decode cX11_of 248 = .ok (.aload_n 1, 1) := by decide +kernel
theorem dX11_of_249 : decode cX11_of 249 = .ok (.aload_n 0, 1) := by decide +kernel
theorem dX11_of_250 : decode cX11_of 250 = .ok (.getfield 13, 3) := by decide +kernel
theorem dX11_of_253 : decode cX11_of 253 = .ok (.invokevirtual 36, 3) := by decide +kernel
theorem dX11_of_256 : decode cX11_of 256 = .ok (.iconst 2, 1) := by decide +kernel
theorem dX11_of_257 : decode cX11_of 257 = .ok (.iaload, 1) := by decide +kernel
theorem dX11_of_258 : decode cX11_of 258 = .ok (.ifCond .le 7, 3) := by decide +kernel
theorem dX11_of_261 : decode cX11_of 261 = .ok (.iconst 1, 1) := by decide +kernel
theorem dX11_of_262 : decode cX11_of 262 = .ok (.goto 4, 3) := by decide +kernel
theorem dX11_of_265 : decode cX11_of 265 = .ok (.iconst 0, 1) := by decide +kernel
theorem dX11_of_266 : decode cX11_of 266 = .ok (.ireturn, 1) := by decide +kernel
theorem dX11_of_267 : decode cX11_of 267 = .ok (.iconst 1, 1) := by decide +kernel
theorem dX11_of_268 : decode cX11_of 268 = .ok (.aload_n 0, 1) := by decide +kernel
theorem dX11_of_269 : decode cX11_of 269 = .ok (.getfield 40, 3) := by decide +kernel
theorem dX11_of_272 : decode cX11_of 272 = .ok (.aload_n 1, 1) := by decide +kernel
theorem dX11_of_273 : decode cX11_of 273 = .ok (.invokevirtual 44, 3) := by decide +kernel
theorem dX11_of_276 : decode cX11_of 276 = .ok (.isub, 1) := by decide +kernel
theorem dX11_of_277 : decode cX11_of 277 = .ok (.ireturn, 1) := by decide +kernel
theorem dX11_of_278 : decode cX11_of 278 = .ok (.aload_n 0, 1) := by decide +kernel
theorem dX11_of_279 : decode cX11_of 279 = .ok (.aload_n 0, 1) := by decide +kernel
theorem dX11_of_280 : decode cX11_of 280 = .ok (.getfield 40, 3) := by decide +kernel
theorem dX11_of_283 : decode cX11_of 283 = .ok (.aload_n 1, 1) := by decide +kernel
theorem dX11_of_284 : decode cX11_of 284 = .ok (.invokevirtual 44, 3) := by decide +kernel
theorem dX11_of_287 : decode cX11_of 287 = .ok (.aload_n 0, 1) := by decide +kernel
theorem dX11_of_288 : decode cX11_of 288 = .ok (.getfield 59, 3) := by decide +kernel
theorem dX11_of_291 : decode cX11_of 291 = .ok (.aload_n 1, 1) := by decide +kernel
theorem dX11_of_292 : decode cX11_of 292 = .ok (.invokevirtual 44, 3) := by decide +kernel
theorem dX11_of_295 : decode cX11_of 295 = .ok (.invokevirtual 62, 3) := by decide +kernel
theorem dX11_of_298 : decode cX11_of 298 = .ok (.ireturn, 1) := by decide +kernel
theorem dX11_ofTwo_0 : decode cX11_ofTwo 0 = .ok (.aload_n 0, 1) := by decide +kernel
theorem dX11_ofTwo_1 : decode cX11_ofTwo 1 = .ok (.getfield 7, 3) := by decide +kernel
theorem dX11_ofTwo_4 : decode cX11_ofTwo 4 = .ok (.tableswitch 236 7 30 #[112, 116, 120, 124, 146, 157, 236, 236, 236, 236, 236, 236, 236, 168, 179, 190, 201, 212, 236, 236, 236, 236, 236, 223], 112) := by decide +kernel
theorem dX11_ofTwo_116 : decode cX11_ofTwo 116 = .ok (.iload_n 1, 1) := by decide +kernel
theorem dX11_ofTwo_117 : decode cX11_ofTwo 117 = .ok (.iload_n 2, 1) := by decide +kernel
theorem dX11_ofTwo_118 : decode cX11_ofTwo 118 = .ok (.iadd, 1) := by decide +kernel
theorem dX11_ofTwo_119 : decode cX11_ofTwo 119 = .ok (.ireturn, 1) := by decide +kernel
theorem dX11_ofTwo_120 : decode cX11_ofTwo 120 = .ok (.iload_n 1, 1) := by decide +kernel
theorem dX11_ofTwo_121 : decode cX11_ofTwo 121 = .ok (.iload_n 2, 1) := by decide +kernel
theorem dX11_ofTwo_122 : decode cX11_ofTwo 122 = .ok (.isub, 1) := by decide +kernel
theorem dX11_ofTwo_123 : decode cX11_ofTwo 123 = .ok (.ireturn, 1) := by decide +kernel
theorem dX11_ofTwo_124 : decode cX11_ofTwo 124 = .ok (.iload_n 1, 1) := by decide +kernel
theorem dX11_ofTwo_125 : decode cX11_ofTwo 125 = .ok (.iload_n 2, 1) := by decide +kernel
theorem dX11_ofTwo_126 : decode cX11_ofTwo 126 = .ok (.imul, 1) := by decide +kernel
theorem dX11_ofTwo_127 : decode cX11_ofTwo 127 = .ok (.ireturn, 1) := by decide +kernel
theorem dX11_ofTwo_128 : decode cX11_ofTwo 128 = .ok (.iload_n 2, 1) := by decide +kernel
theorem dX11_ofTwo_129 : decode cX11_ofTwo 129 = .ok (.ifCond .ne 7, 3) := by decide +kernel
theorem dX11_ofTwo_132 : decode cX11_ofTwo 132 = .ok (.iconst 0, 1) := by decide +kernel
theorem dX11_ofTwo_133 : decode cX11_ofTwo 133 = .ok (.goto 16, 3) := by decide +kernel
theorem dX11_ofTwo_136 : decode cX11_ofTwo 136 = .ok (.iload_n 2, 1) := by decide +kernel
theorem dX11_ofTwo_137 : decode cX11_ofTwo 137 = .ok (.iconst (-1), 1) := by decide +kernel
theorem dX11_ofTwo_138 : decode cX11_ofTwo 138 = .ok (.if_icmp .ne 8, 3) := by decide +kernel
theorem dX11_ofTwo_141 : decode cX11_ofTwo 141 = .ok (.iload_n 1, 1) := by decide +kernel
theorem dX11_ofTwo_142 : decode cX11_ofTwo 142 = .ok (.ineg, 1) := by decide +kernel
theorem dX11_ofTwo_143 : decode cX11_ofTwo 143 = .ok (.goto 6, 3) := by decide +kernel
theorem dX11_ofTwo_146 : decode cX11_ofTwo 146 = .ok (.iload_n 1, 1) := by decide +kernel
theorem dX11_ofTwo_147 : decode cX11_ofTwo 147 = .ok (.iload_n 2, 1) := by decide +kernel
theorem dX11_ofTwo_148 : decode cX11_ofTwo 148 = .ok (.idiv, 1) := by decide +kernel
theorem dX11_ofTwo_149 : decode cX11_ofTwo 149 = .ok (.ireturn, 1) := by decide +kernel
theorem dX11_ofTwo_150 : decode cX11_ofTwo 150 = .ok (.iload_n 1, 1) := by decide +kernel
theorem dX11_ofTwo_151 : decode cX11_ofTwo 151 = .ok (.iload_n 2, 1) := by decide +kernel
theorem dX11_ofTwo_152 : decode cX11_ofTwo 152 = .ok (.if_icmp .ge 7, 3) := by decide +kernel
theorem dX11_ofTwo_155 : decode cX11_ofTwo 155 = .ok (.iload_n 1, 1) := by decide +kernel
theorem dX11_ofTwo_156 : decode cX11_ofTwo 156 = .ok (.goto 4, 3) := by decide +kernel
theorem dX11_ofTwo_159 : decode cX11_ofTwo 159 = .ok (.iload_n 2, 1) := by decide +kernel
theorem dX11_ofTwo_160 : decode cX11_ofTwo 160 = .ok (.ireturn, 1) := by decide +kernel
theorem dX11_ofTwo_161 : decode cX11_ofTwo 161 = .ok (.iload_n 1, 1) := by decide +kernel
theorem dX11_ofTwo_162 : decode cX11_ofTwo 162 = .ok (.iload_n 2, 1) := by decide +kernel
theorem dX11_ofTwo_163 : decode cX11_ofTwo 163 = .ok (.if_icmp .ge 7, 3) := by decide +kernel
theorem dX11_ofTwo_166 : decode cX11_ofTwo 166 = .ok (.iload_n 2, 1) := by decide +kernel
theorem dX11_ofTwo_167 : decode cX11_ofTwo 167 = .ok (.goto 4, 3) := by decide +kernel
theorem dX11_ofTwo_170 : decode cX11_ofTwo 170 = .ok (.iload_n 1, 1) := by decide +kernel
theorem dX11_ofTwo_171 : decode cX11_ofTwo 171 = .ok (.ireturn, 1) := by decide +kernel
theorem dX11_ofTwo_172 : decode cX11_ofTwo 172 = .ok (.iload_n 1, 1) := by decide +kernel
theorem dX11_ofTwo_173 : decode cX11_ofTwo 173 = .ok (.iload_n 2, 1) := by decide +kernel
theorem dX11_ofTwo_174 : decode cX11_ofTwo 174 = .ok (.if_icmp .ge 7, 3) := by decide +kernel
theorem dX11_ofTwo_177 : decode cX11_ofTwo 177 = .ok (.iconst 1, 1) := by decide +kernel
theorem dX11_ofTwo_178 : decode cX11_ofTwo 178 = .ok (.goto 4, 3) := by decide +kernel
theorem dX11_ofTwo_181 : decode cX11_ofTwo 181 = .ok (.iconst 0, 1) := by decide +kernel
theorem dX11_ofTwo_182 : decode cX11_ofTwo 182 = .ok (.ireturn, 1) := by decide +kernel
theorem dX11_ofTwo_183 : decode cX11_ofTwo 183 = .ok (.iload_n 1, 1) := by decide +kernel
theorem dX11_ofTwo_184 : decode cX11_ofTwo 184 = .ok (.iload_n 2, 1) := by decide +kernel
theorem dX11_ofTwo_185 : decode cX11_ofTwo 185 = .ok (.if_icmp .le 7, 3) := by decide +kernel
theorem dX11_ofTwo_188 : decode cX11_ofTwo 188 = .ok (.iconst 1, 1) := by decide +kernel
theorem dX11_ofTwo_189 : decode cX11_ofTwo 189 = .ok (.goto 4, 3) := by decide +kernel
theorem dX11_ofTwo_192 : decode cX11_ofTwo 192 = .ok (.iconst 0, 1) := by decide +kernel
theorem dX11_ofTwo_193 : decode cX11_ofTwo 193 = .ok (.ireturn, 1) := by decide +kernel
theorem dX11_ofTwo_194 : decode cX11_ofTwo 194 = .ok (.iload_n 1, 1) := by decide +kernel
theorem dX11_ofTwo_195 : decode cX11_ofTwo 195 = .ok (.iload_n 2, 1) := by decide +kernel
theorem dX11_ofTwo_196 : decode cX11_ofTwo 196 = .ok (.if_icmp .ne 7, 3) := by decide +kernel
theorem dX11_ofTwo_199 : decode cX11_ofTwo 199 = .ok (.iconst 1, 1) := by decide +kernel
theorem dX11_ofTwo_200 : decode cX11_ofTwo 200 = .ok (.goto 4, 3) := by decide +kernel
theorem dX11_ofTwo_203 : decode cX11_ofTwo 203 = .ok (.iconst 0, 1) := by decide +kernel
theorem dX11_ofTwo_204 : decode cX11_ofTwo 204 = .ok (.ireturn, 1) := by decide +kernel
theorem dX11_ofTwo_205 : decode cX11_ofTwo 205 = .ok (.iload_n 1, 1) := by decide +kernel
theorem dX11_ofTwo_206 : decode cX11_ofTwo 206 = .ok (.iload_n 2, 1) := by decide +kernel
theorem dX11_ofTwo_207 : decode cX11_ofTwo 207 = .ok (.if_icmp .le 7, 3) := by decide +kernel
theorem dX11_ofTwo_210 : decode cX11_ofTwo 210 = .ok (.iconst 0, 1) := by decide +kernel
theorem dX11_ofTwo_211 : decode cX11_ofTwo 211 = .ok (.goto 4, 3) := by decide +kernel
theorem dX11_ofTwo_214 : decode cX11_ofTwo 214 = .ok (.iconst 1, 1) := by decide +kernel
theorem dX11_ofTwo_215 : decode cX11_ofTwo 215 = .ok (.ireturn, 1) := by decide +kernel
theorem dX11_ofTwo_216 : decode cX11_ofTwo 216 = .ok (.iload_n 1, 1) := by decide +kernel
theorem dX11_ofTwo_217 : decode cX11_ofTwo 217 = .ok (.iload_n 2, 1) := by decide +kernel
theorem dX11_ofTwo_218 : decode cX11_ofTwo 218 = .ok (.if_icmp .ge 7, 3) := by decide +kernel
theorem dX11_ofTwo_221 : decode cX11_ofTwo 221 = .ok (.iconst 0, 1) := by decide +kernel
theorem dX11_ofTwo_222 : decode cX11_ofTwo 222 = .ok (.goto 4, 3) := by decide +kernel
theorem dX11_ofTwo_225 : decode cX11_ofTwo 225 = .ok (.iconst 1, 1) := by decide +kernel
theorem dX11_ofTwo_226 : decode cX11_ofTwo 226 = .ok (.ireturn, 1) := by decide +kernel
theorem dX11_ofTwo_227 : decode cX11_ofTwo 227 = .ok (.iload_n 1, 1) := by decide +kernel
theorem dX11_ofTwo_228 : decode cX11_ofTwo 228 = .ok (.iload_n 2, 1) := by decide +kernel
theorem dX11_ofTwo_229 : decode cX11_ofTwo 229 = .ok (.iadd, 1) := by decide +kernel
theorem dX11_ofTwo_230 : decode cX11_ofTwo 230 = .ok (.iconst 2, 1) := by decide +kernel
theorem dX11_ofTwo_231 : decode cX11_ofTwo 231 = .ok (.if_icmp .ne 7, 3) := by decide +kernel
theorem dX11_ofTwo_234 : decode cX11_ofTwo 234 = .ok (.iconst 1, 1) := by decide +kernel
theorem dX11_ofTwo_235 : decode cX11_ofTwo 235 = .ok (.goto 4, 3) := by decide +kernel
theorem dX11_ofTwo_238 : decode cX11_ofTwo 238 = .ok (.iconst 0, 1) := by decide +kernel
theorem dX11_ofTwo_239 : decode cX11_ofTwo 239 = .ok (.ireturn, 1) := by decide +kernel
theorem dX11_ofTwo_240 : decode cX11_ofTwo 240 = .ok (.iload_n 1, 1) := by decide +kernel
theorem dX11_ofTwo_241 : decode cX11_ofTwo 241 = .ok (.iload_n 2, 1) := by decide +kernel
theorem dX11_ofTwo_242 : decode cX11_ofTwo 242 = .ok (.iadd, 1) := by decide +kernel
theorem dX11_ofTwo_243 : decode cX11_ofTwo 243 = .ok (.ifCond .le 7, 3) := by decide +kernel
theorem dX11_ofTwo_246 : decode cX11_ofTwo 246 = .ok (.iconst 1, 1) := by decide +kernel
theorem dX11_ofTwo_247 : decode cX11_ofTwo 247 = .ok (.goto 4, 3) := by decide +kernel
theorem dX11_ofTwo_250 : decode cX11_ofTwo 250 = .ok (.iconst 0, 1) := by decide +kernel
theorem dX11_ofTwo_251 : decode cX11_ofTwo 251 = .ok (.ireturn, 1) := by decide +kernel
theorem dX11_text_0 : decode cX11_text 0 = .ok (.bipush 6, 2) := by decide +kernel
theorem dX11_text_2 : decode cX11_text 2 = .ok (.anewarray 66, 3) := by decide +kernel
theorem dX11_text_5 : decode cX11_text 5 = .ok (.dup, 1) := by decide +kernel
theorem dX11_text_6 : decode cX11_text 6 = .ok (.iconst 0, 1) := by decide +kernel
theorem dX11_text_7 : decode cX11_text 7 = .ok (.ldc 68, 2) := by decide +kernel
theorem dX11_text_9 : decode cX11_text 9 = .ok (.aastore, 1) := by decide +kernel
theorem dX11_text_10 : decode cX11_text 10 = .ok (.dup, 1) := by decide +kernel
theorem dX11_text_11 : decode cX11_text 11 = .ok (.iconst 1, 1) := by decide +kernel
theorem dX11_text_12 : decode cX11_text 12 = .ok (.ldc 70, 2) := by decide +kernel
theorem dX11_text_14 : decode cX11_text 14 = .ok (.aastore, 1) := by decide +kernel
theorem dX11_text_15 : decode cX11_text 15 = .ok (.dup, 1) := by decide +kernel
theorem dX11_text_16 : decode cX11_text 16 = .ok (.iconst 2, 1) := by decide +kernel
theorem dX11_text_17 : decode cX11_text 17 = .ok (.ldc 72, 2) := by decide +kernel
theorem dX11_text_19 : decode cX11_text 19 = .ok (.aastore, 1) := by decide +kernel
theorem dX11_text_20 : decode cX11_text 20 = .ok (.dup, 1) := by decide +kernel
theorem dX11_text_21 : decode cX11_text 21 = .ok (.iconst 3, 1) := by decide +kernel
theorem dX11_text_22 : decode cX11_text 22 = .ok (.ldc 74, 2) := by decide +kernel
theorem dX11_text_24 : decode cX11_text 24 = .ok (.aastore, 1) := by decide +kernel
theorem dX11_text_25 : decode cX11_text 25 = .ok (.dup, 1) := by decide +kernel
theorem dX11_text_26 : decode cX11_text 26 = .ok (.iconst 4, 1) := by decide +kernel
theorem dX11_text_27 : decode cX11_text 27 = .ok (.ldc 76, 2) := by decide +kernel
theorem dX11_text_29 : decode cX11_text 29 = .ok (.aastore, 1) := by decide +kernel
theorem dX11_text_30 : decode cX11_text 30 = .ok (.dup, 1) := by decide +kernel
theorem dX11_text_31 : decode cX11_text 31 = .ok (.iconst 5, 1) := by decide +kernel
theorem dX11_text_32 : decode cX11_text 32 = .ok (.ldc 78, 2) := by decide +kernel
theorem dX11_text_34 : decode cX11_text 34 = .ok (.aastore, 1) := by decide +kernel
theorem dX11_text_35 : decode cX11_text 35 = .ok (.astore_n 1, 1) := by decide +kernel
theorem dX11_text_36 : decode cX11_text 36 = .ok (.bipush 6, 2) := by decide +kernel
theorem dX11_text_38 : decode cX11_text 38 = .ok (.anewarray 66, 3) := by decide +kernel
theorem dX11_text_41 : decode cX11_text 41 = .ok (.dup, 1) := by decide +kernel
theorem dX11_text_42 : decode cX11_text 42 = .ok (.iconst 0, 1) := by decide +kernel
theorem dX11_text_43 : decode cX11_text 43 = .ok (.ldc 80, 2) := by decide +kernel
theorem dX11_text_45 : decode cX11_text 45 = .ok (.aastore, 1) := by decide +kernel
theorem dX11_text_46 : decode cX11_text 46 = .ok (.dup, 1) := by decide +kernel
theorem dX11_text_47 : decode cX11_text 47 = .ok (.iconst 1, 1) := by decide +kernel
theorem dX11_text_48 : decode cX11_text 48 = .ok (.ldc 82, 2) := by decide +kernel
theorem dX11_text_50 : decode cX11_text 50 = .ok (.aastore, 1) := by decide +kernel
theorem dX11_text_51 : decode cX11_text 51 = .ok (.dup, 1) := by decide +kernel
theorem dX11_text_52 : decode cX11_text 52 = .ok (.iconst 2, 1) := by decide +kernel
theorem dX11_text_53 : decode cX11_text 53 = .ok (.ldc 84, 2) := by decide +kernel
theorem dX11_text_55 : decode cX11_text 55 = .ok (.aastore, 1) := by decide +kernel
theorem dX11_text_56 : decode cX11_text 56 = .ok (.dup, 1) := by decide +kernel
theorem dX11_text_57 : decode cX11_text 57 = .ok (.iconst 3, 1) := by decide +kernel
theorem dX11_text_58 : decode cX11_text 58 = .ok (.ldc 86, 2) := by decide +kernel
theorem dX11_text_60 : decode cX11_text 60 = .ok (.aastore, 1) := by decide +kernel
theorem dX11_text_61 : decode cX11_text 61 = .ok (.dup, 1) := by decide +kernel
theorem dX11_text_62 : decode cX11_text 62 = .ok (.iconst 4, 1) := by decide +kernel
theorem dX11_text_63 : decode cX11_text 63 = .ok (.ldc 88, 2) := by decide +kernel
theorem dX11_text_65 : decode cX11_text 65 = .ok (.aastore, 1) := by decide +kernel
theorem dX11_text_66 : decode cX11_text 66 = .ok (.dup, 1) := by decide +kernel
theorem dX11_text_67 : decode cX11_text 67 = .ok (.iconst 5, 1) := by decide +kernel
theorem dX11_text_68 : decode cX11_text 68 = .ok (.ldc 90, 2) := by decide +kernel
theorem dX11_text_70 : decode cX11_text 70 = .ok (.aastore, 1) := by decide +kernel
theorem dX11_text_71 : decode cX11_text 71 = .ok (.astore_n 2, 1) := by decide +kernel
theorem dX11_text_72 : decode cX11_text 72 = .ok (.iconst 5, 1) := by decide +kernel
theorem dX11_text_73 : decode cX11_text 73 = .ok (.anewarray 66, 3) := by decide +kernel
theorem dX11_text_76 : decode cX11_text 76 = .ok (.dup, 1) := by decide +kernel
theorem dX11_text_77 : decode cX11_text 77 = .ok (.iconst 0, 1) := by decide +kernel
theorem dX11_text_78 : decode cX11_text 78 = .ok (.ldc 92, 2) := by decide +kernel
theorem dX11_text_80 : decode cX11_text 80 = .ok (.aastore, 1) := by decide +kernel
theorem dX11_text_81 : decode cX11_text 81 = .ok (.dup, 1) := by decide +kernel
theorem dX11_text_82 : decode cX11_text 82 = .ok (.iconst 1, 1) := by decide +kernel
theorem dX11_text_83 : decode cX11_text 83 = .ok (.ldc 94, 2) := by decide +kernel
theorem dX11_text_85 : decode cX11_text 85 = .ok (.aastore, 1) := by decide +kernel
theorem dX11_text_86 : decode cX11_text 86 = .ok (.dup, 1) := by decide +kernel
theorem dX11_text_87 : decode cX11_text 87 = .ok (.iconst 2, 1) := by decide +kernel
theorem dX11_text_88 : decode cX11_text 88 = .ok (.ldc 96, 2) := by decide +kernel
theorem dX11_text_90 : decode cX11_text 90 = .ok (.aastore, 1) := by decide +kernel
theorem dX11_text_91 : decode cX11_text 91 = .ok (.dup, 1) := by decide +kernel
theorem dX11_text_92 : decode cX11_text 92 = .ok (.iconst 3, 1) := by decide +kernel
theorem dX11_text_93 : decode cX11_text 93 = .ok (.ldc 98, 2) := by decide +kernel
theorem dX11_text_95 : decode cX11_text 95 = .ok (.aastore, 1) := by decide +kernel
theorem dX11_text_96 : decode cX11_text 96 = .ok (.dup, 1) := by decide +kernel
theorem dX11_text_97 : decode cX11_text 97 = .ok (.iconst 4, 1) := by decide +kernel
theorem dX11_text_98 : decode cX11_text 98 = .ok (.ldc 100, 2) := by decide +kernel
theorem dX11_text_100 : decode cX11_text 100 = .ok (.aastore, 1) := by decide +kernel
theorem dX11_text_101 : decode cX11_text 101 = .ok (.astore_n 3, 1) := by decide +kernel
theorem dX11_text_102 : decode cX11_text 102 = .ok (.iconst 4, 1) := by decide +kernel
theorem dX11_text_103 : decode cX11_text 103 = .ok (.anewarray 66, 3) := by decide +kernel
theorem dX11_text_106 : decode cX11_text 106 = .ok (.dup, 1) := by decide +kernel
theorem dX11_text_107 : decode cX11_text 107 = .ok (.iconst 0, 1) := by decide +kernel
theorem dX11_text_108 : decode cX11_text 108 = .ok (.ldc 102, 2) := by decide +kernel
theorem dX11_text_110 : decode cX11_text 110 = .ok (.aastore, 1) := by decide +kernel
theorem dX11_text_111 : decode cX11_text 111 = .ok (.dup, 1) := by decide +kernel
theorem dX11_text_112 : decode cX11_text 112 = .ok (.iconst 1, 1) := by decide +kernel
theorem dX11_text_113 : decode cX11_text 113 = .ok (.ldc 104, 2) := by decide +kernel
theorem dX11_text_115 : decode cX11_text 115 = .ok (.aastore, 1) := by decide +kernel
theorem dX11_text_116 : decode cX11_text 116 = .ok (.dup, 1) := by decide +kernel
theorem dX11_text_117 : decode cX11_text 117 = .ok (.iconst 2, 1) := by decide +kernel
theorem dX11_text_118 : decode cX11_text 118 = .ok (.ldc 106, 2) := by decide +kernel
theorem dX11_text_120 : decode cX11_text 120 = .ok (.aastore, 1) := by decide +kernel
theorem dX11_text_121 : decode cX11_text 121 = .ok (.dup, 1) := by decide +kernel
theorem dX11_text_122 : decode cX11_text 122 = .ok (.iconst 3, 1) := by decide +kernel
theorem dX11_text_123 : decode cX11_text 123 = .ok (.ldc 108, 2) := by decide +kernel
theorem dX11_text_125 : decode cX11_text 125 = .ok (.aastore, 1) := by decide +kernel
theorem dX11_text_126 : decode cX11_text 126 = .ok (.astore 4, 2) := by decide +kernel
theorem dX11_text_128 : decode cX11_text 128 = .ok (.aload_n 0, 1) := by decide +kernel
theorem dX11_text_129 : decode cX11_text 129 = .ok (.getfield 7, 3) := by decide +kernel
theorem dX11_text_132 : decode cX11_text 132 = .ok (.ifCond .ne 26, 3) := by decide +kernel
theorem dX11_text_135 : decode cX11_text 135 = .ok (.new 110, 3) := by decide +kernel
theorem dX11_text_138 : decode cX11_text 138 = .ok (.dup, 1) := by decide +kernel
theorem dX11_text_139 : decode cX11_text 139 = .ok (.invokespecial 112, 3) := by decide +kernel
theorem dX11_text_142 : decode cX11_text 142 = .ok (.ldc 68, 2) := by decide +kernel
theorem dX11_text_144 : decode cX11_text 144 = .ok (.invokevirtual 113, 3) := by decide +kernel
theorem dX11_text_147 : decode cX11_text 147 = .ok (.aload_n 0, 1) := by decide +kernel
theorem dX11_text_148 : decode cX11_text 148 = .ok (.getfield 13, 3) := by decide +kernel
theorem dX11_text_151 : decode cX11_text 151 = .ok (.invokevirtual 117, 3) := by decide +kernel
theorem dX11_text_154 : decode cX11_text 154 = .ok (.invokevirtual 120, 3) := by decide +kernel
theorem dX11_text_157 : decode cX11_text 157 = .ok (.areturn, 1) := by decide +kernel
theorem dX11_text_158 : decode cX11_text 158 = .ok (.aload_n 0, 1) := by decide +kernel
theorem dX11_text_159 : decode cX11_text 159 = .ok (.getfield 7, 3) := by decide +kernel
theorem dX11_text_162 : decode cX11_text 162 = .ok (.iconst 4, 1) := by decide +kernel
theorem dX11_text_163 : decode cX11_text 163 = .ok (.if_icmp .ge 10, 3) := by decide +kernel
theorem dX11_text_166 : decode cX11_text 166 = .ok (.aload_n 1, 1) := by decide +kernel
theorem dX11_text_167 : decode cX11_text 167 = .ok (.aload_n 0, 1) := by decide +kernel
theorem dX11_text_168 : decode cX11_text 168 = .ok (.getfield 7, 3) := by decide +kernel
theorem dX11_text_171 : decode cX11_text 171 = .ok (.aaload, 1) := by decide +kernel
theorem dX11_text_172 : decode cX11_text 172 = .ok (.areturn, 1) := by decide +kernel
theorem dX11_text_173 : decode cX11_text 173 = .ok (.aload_n 0, 1) := by decide +kernel
theorem dX11_text_174 : decode cX11_text 174 = .ok (.getfield 7, 3) := by decide +kernel
theorem dX11_text_177 : decode cX11_text 177 = .ok (.bipush 6, 2) := by decide +kernel
theorem dX11_text_179 : decode cX11_text 179 = .ok (.if_icmp .ge 35, 3) := by decide +kernel
theorem dX11_text_182 : decode cX11_text 182 = .ok (.new 110, 3) := by decide +kernel
theorem dX11_text_185 : decode cX11_text 185 = .ok (.dup, 1) := by decide +kernel
theorem dX11_text_186 : decode cX11_text 186 = .ok (.invokespecial 112, 3) := by decide +kernel
theorem dX11_text_189 : decode cX11_text 189 = .ok (.aload_n 1, 1) := by decide +kernel
theorem dX11_text_190 : decode cX11_text 190 = .ok (.aload_n 0, 1) := by decide +kernel
theorem dX11_text_191 : decode cX11_text 191 = .ok (.getfield 7, 3) := by decide +kernel
theorem dX11_text_194 : decode cX11_text 194 = .ok (.aaload, 1) := by decide +kernel
theorem dX11_text_195 : decode cX11_text 195 = .ok (.invokevirtual 113, 3) := by decide +kernel
theorem dX11_text_198 : decode cX11_text 198 = .ok (.aload_n 0, 1) := by decide +kernel
theorem dX11_text_199 : decode cX11_text 199 = .ok (.getfield 13, 3) := by decide +kernel
theorem dX11_text_202 : decode cX11_text 202 = .ok (.invokevirtual 117, 3) := by decide +kernel
theorem dX11_text_205 : decode cX11_text 205 = .ok (.ldc 124, 2) := by decide +kernel
theorem dX11_text_207 : decode cX11_text 207 = .ok (.invokevirtual 113, 3) := by decide +kernel
theorem dX11_text_210 : decode cX11_text 210 = .ok (.invokevirtual 120, 3) := by decide +kernel
theorem dX11_text_213 : decode cX11_text 213 = .ok (.areturn, 1) := by decide +kernel
theorem dX11_text_214 : decode cX11_text 214 = .ok (.aload_n 0, 1) := by decide +kernel
theorem dX11_text_215 : decode cX11_text 215 = .ok (.getfield 7, 3) := by decide +kernel
theorem dX11_text_218 : decode cX11_text 218 = .ok (.bipush 6, 2) := by decide +kernel
theorem dX11_text_220 : decode cX11_text 220 = .ok (.if_icmp .ne 34, 3) := by decide +kernel
theorem dX11_text_223 : decode cX11_text 223 = .ok (.new 110, 3) := by decide +kernel
theorem dX11_text_226 : decode cX11_text 226 = .ok (.dup, 1) := by decide +kernel
theorem dX11_text_227 : decode cX11_text 227 = .ok (.invokespecial 112, 3) := by decide +kernel
theorem dX11_text_230 : decode cX11_text 230 = .ok (.ldc 126, 2) := by decide +kernel
theorem dX11_text_232 : decode cX11_text 232 = .ok (.invokevirtual 113, 3) := by decide +kernel
theorem dX11_text_235 : decode cX11_text 235 = .ok (.aload_n 0, 1) := by decide +kernel
theorem dX11_text_236 : decode cX11_text 236 = .ok (.getfield 40, 3) := by decide +kernel
theorem dX11_text_239 : decode cX11_text 239 = .ok (.invokevirtual 128, 3) := by decide +kernel
theorem dX11_text_242 : decode cX11_text 242 = .ok (.invokevirtual 113, 3) := by decide +kernel
theorem dX11_text_245 : decode cX11_text 245 = .ok (.ldc 131, 2) := by decide +kernel
theorem dX11_text_247 : decode cX11_text 247 = .ok (.invokevirtual 113, 3) := by decide +kernel
theorem dX11_text_250 : decode cX11_text 250 = .ok (.invokevirtual 120, 3) := by decide +kernel
theorem dX11_text_253 : decode cX11_text 253 = .ok (.areturn, 1) := by decide +kernel
theorem dX11_text_254 : decode cX11_text 254 = .ok (.aload_n 0, 1) := by decide +kernel
theorem dX11_text_255 : decode cX11_text 255 = .ok (.getfield 7, 3) := by decide +kernel
theorem dX11_text_258 : decode cX11_text 258 = .ok (.bipush 11, 2) := by decide +kernel
theorem dX11_text_260 : decode cX11_text 260 = .ok (.if_icmp .ge 66, 3) := by decide +kernel
theorem dX11_text_263 : decode cX11_text 263 = .ok (.new 110, 3) := by decide +kernel
theorem dX11_text_266 : decode cX11_text 266 = .ok (.dup, 1) := by decide +kernel
theorem dX11_text_267 : decode cX11_text 267 = .ok (.invokespecial 112, 3) := by decide +kernel
theorem dX11_text_270 : decode cX11_text 270 = .ok (.ldc 133, 2) := by decide +kernel
theorem dX11_text_272 : decode cX11_text 272 = .ok (.invokevirtual 113, 3) := by decide +kernel
theorem dX11_text_275 : decode cX11_text 275 = .ok (.aload_n 0, 1) := by decide +kernel
theorem dX11_text_276 : decode cX11_text 276 = .ok (.getfield 40, 3) := by decide +kernel
theorem dX11_text_279 : decode cX11_text 279 = .ok (.invokevirtual 128, 3) := by decide +kernel
theorem dX11_text_282 : decode cX11_text 282 = .ok (.invokevirtual 113, 3) := by decide +kernel
theorem dX11_text_285 : decode cX11_text 285 = .ok (.ldc 131, 2) := by decide +kernel
theorem dX11_text_287 : decode cX11_text 287 = .ok (.invokevirtual 113, 3) := by decide +kernel
theorem dX11_text_290 : decode cX11_text 290 = .ok (.aload_n 2, 1) := by decide +kernel
theorem dX11_text_291 : decode cX11_text 291 = .ok (.aload_n 0, 1) := by decide +kernel
theorem dX11_text_292 : decode cX11_text 292 = .ok (.getfield 7, 3) := by decide +kernel
theorem dX11_text_295 : decode cX11_text 295 = .ok (.bipush 7, 2) := by decide +kernel
theorem dX11_text_297 : decode cX11_text 297 = .ok (.isub, 1) := by decide +kernel
theorem dX11_text_298 : decode cX11_text 298 = .ok (.aaload, 1) := by decide +kernel
theorem dX11_text_299 : decode cX11_text 299 = .ok (.invokevirtual 113, 3) := by decide +kernel
theorem dX11_text_302 : decode cX11_text 302 = .ok (.ldc 133, 2) := by decide +kernel
theorem dX11_text_304 : decode cX11_text 304 = .ok (.invokevirtual 113, 3) := by decide +kernel
theorem dX11_text_307 : decode cX11_text 307 = .ok (.aload_n 0, 1) := by decide +kernel
theorem dX11_text_308 : decode cX11_text 308 = .ok (.getfield 59, 3) := by decide +kernel
theorem dX11_text_311 : decode cX11_text 311 = .ok (.invokevirtual 128, 3) := by decide +kernel
theorem dX11_text_314 : decode cX11_text 314 = .ok (.invokevirtual 113, 3) := by decide +kernel
theorem dX11_text_317 : decode cX11_text 317 = .ok (.ldc 131, 2) := by decide +kernel
theorem dX11_text_319 : decode cX11_text 319 = .ok (.invokevirtual 113, 3) := by decide +kernel
theorem dX11_text_322 : decode cX11_text 322 = .ok (.invokevirtual 120, 3) := by decide +kernel
theorem dX11_text_325 : decode cX11_text 325 = .ok (.areturn, 1) := by decide +kernel
theorem dX11_text_326 : decode cX11_text 326 = .ok (.aload_n 0, 1) := by decide +kernel
theorem dX11_text_327 : decode cX11_text 327 = .ok (.getfield 7, 3) := by decide +kernel
theorem dX11_text_330 : decode cX11_text 330 = .ok (.bipush 13, 2) := by decide +kernel
theorem dX11_text_332 : decode cX11_text 332 = .ok (.if_icmp .ge 56, 3) := by decide +kernel
theorem dX11_text_335 : decode cX11_text 335 = .ok (.new 110, 3) := by decide +kernel
theorem dX11_text_338 : decode cX11_text 338 = .ok (.dup, 1) := by decide +kernel
theorem dX11_text_339 : decode cX11_text 339 = .ok (.invokespecial 112, 3) := by decide +kernel
theorem dX11_text_342 : decode cX11_text 342 = .ok (.aload_n 2, 1) := by decide +kernel
theorem dX11_text_343 : decode cX11_text 343 = .ok (.aload_n 0, 1) := by decide +kernel
theorem dX11_text_344 : decode cX11_text 344 = .ok (.getfield 7, 3) := by decide +kernel
theorem dX11_text_347 : decode cX11_text 347 = .ok (.bipush 7, 2) := by decide +kernel
theorem dX11_text_349 : decode cX11_text 349 = .ok (.isub, 1) := by decide +kernel
theorem dX11_text_350 : decode cX11_text 350 = .ok (.aaload, 1) := by decide +kernel
theorem dX11_text_351 : decode cX11_text 351 = .ok (.invokevirtual 113, 3) := by decide +kernel
theorem dX11_text_354 : decode cX11_text 354 = .ok (.aload_n 0, 1) := by decide +kernel
theorem dX11_text_355 : decode cX11_text 355 = .ok (.getfield 40, 3) := by decide +kernel
theorem dX11_text_358 : decode cX11_text 358 = .ok (.invokevirtual 128, 3) := by decide +kernel
theorem dX11_text_361 : decode cX11_text 361 = .ok (.invokevirtual 113, 3) := by decide +kernel
theorem dX11_text_364 : decode cX11_text 364 = .ok (.ldc 135, 2) := by decide +kernel
theorem dX11_text_366 : decode cX11_text 366 = .ok (.invokevirtual 113, 3) := by decide +kernel
theorem dX11_text_369 : decode cX11_text 369 = .ok (.aload_n 0, 1) := by decide +kernel
theorem dX11_text_370 : decode cX11_text 370 = .ok (.getfield 59, 3) := by decide +kernel
theorem dX11_text_373 : decode cX11_text 373 = .ok (.invokevirtual 128, 3) := by decide +kernel
theorem dX11_text_376 : decode cX11_text 376 = .ok (.invokevirtual 113, 3) := by decide +kernel
theorem dX11_text_379 : decode cX11_text 379 = .ok (.ldc 131, 2) := by decide +kernel
theorem dX11_text_381 : decode cX11_text 381 = .ok (.invokevirtual 113, 3) := by decide +kernel
theorem dX11_text_384 : decode cX11_text 384 = .ok (.invokevirtual 120, 3) := by decide +kernel
theorem dX11_text_387 : decode cX11_text 387 = .ok (.areturn, 1) := by decide +kernel
theorem dX11_text_388 : decode cX11_text 388 = .ok (.aload_n 0, 1) := by decide +kernel
theorem dX11_text_389 : decode cX11_text 389 = .ok (.getfield 7, 3) := by decide +kernel
theorem dX11_text_392 : decode cX11_text 392 = .ok (.bipush 25, 2) := by decide +kernel
theorem dX11_text_394 : decode cX11_text 394 = .ok (.if_icmp .ge 46, 3) := by decide +kernel
theorem dX11_text_397 : decode cX11_text 397 = .ok (.new 110, 3) := by decide +kernel
theorem dX11_text_400 : decode cX11_text 400 = .ok (.dup, 1) := by decide +kernel
theorem dX11_text_401 : decode cX11_text 401 = .ok (.invokespecial 112, 3) := by decide +kernel
theorem dX11_text_404 : decode cX11_text 404 = .ok (.aload_n 0, 1) := by decide +kernel
theorem dX11_text_405 : decode cX11_text 405 = .ok (.getfield 40, 3) := by decide +kernel
theorem dX11_text_408 : decode cX11_text 408 = .ok (.invokevirtual 128, 3) := by decide +kernel
theorem dX11_text_411 : decode cX11_text 411 = .ok (.invokevirtual 113, 3) := by decide +kernel
theorem dX11_text_414 : decode cX11_text 414 = .ok (.aload_n 3, 1) := by decide +kernel
theorem dX11_text_415 : decode cX11_text 415 = .ok (.aload_n 0, 1) := by decide +kernel
theorem dX11_text_416 : decode cX11_text 416 = .ok (.getfield 7, 3) := by decide +kernel
theorem dX11_text_419 : decode cX11_text 419 = .ok (.bipush 20, 2) := by decide +kernel
theorem dX11_text_421 : decode cX11_text 421 = .ok (.isub, 1) := by decide +kernel
theorem dX11_text_422 : decode cX11_text 422 = .ok (.aaload, 1) := by decide +kernel
theorem dX11_text_423 : decode cX11_text 423 = .ok (.invokevirtual 113, 3) := by decide +kernel
theorem dX11_text_426 : decode cX11_text 426 = .ok (.aload_n 0, 1) := by decide +kernel
theorem dX11_text_427 : decode cX11_text 427 = .ok (.getfield 59, 3) := by decide +kernel
theorem dX11_text_430 : decode cX11_text 430 = .ok (.invokevirtual 128, 3) := by decide +kernel
theorem dX11_text_433 : decode cX11_text 433 = .ok (.invokevirtual 113, 3) := by decide +kernel
theorem dX11_text_436 : decode cX11_text 436 = .ok (.invokevirtual 120, 3) := by decide +kernel
theorem dX11_text_439 : decode cX11_text 439 = .ok (.areturn, 1) := by decide +kernel
theorem dX11_text_440 : decode cX11_text 440 = .ok (.aload_n 0, 1) := by decide +kernel
theorem dX11_text_441 : decode cX11_text 441 = .ok (.getfield 7, 3) := by decide +kernel
theorem dX11_text_444 : decode cX11_text 444 = .ok (.bipush 25, 2) := by decide +kernel
theorem dX11_text_446 : decode cX11_text 446 = .ok (.if_icmp .ne 45, 3) := by decide +kernel
theorem dX11_text_449 : decode cX11_text 449 = .ok (.new 110, 3) := by decide +kernel
theorem dX11_text_452 : decode cX11_text 452 = .ok (.dup, 1) := by decide +kernel
theorem dX11_text_453 : decode cX11_text 453 = .ok (.invokespecial 112, 3) := by decide +kernel
theorem dX11_text_456 : decode cX11_text 456 = .ok (.aload 4, 2) := by decide +kernel
theorem dX11_text_458 : decode cX11_text 458 = .ok (.iconst 0, 1) := by decide +kernel
theorem dX11_text_459 : decode cX11_text 459 = .ok (.aaload, 1) := by decide +kernel
theorem dX11_text_460 : decode cX11_text 460 = .ok (.invokevirtual 113, 3) := by decide +kernel
theorem dX11_text_463 : decode cX11_text 463 = .ok (.aload_n 0, 1) := by decide +kernel
theorem dX11_text_464 : decode cX11_text 464 = .ok (.getfield 13, 3) := by decide +kernel
theorem dX11_text_467 : decode cX11_text 467 = .ok (.invokevirtual 117, 3) := by decide +kernel
theorem dX11_text_470 : decode cX11_text 470 = .ok (.ldc 137, 2) := by decide +kernel
theorem dX11_text_472 : decode cX11_text 472 = .ok (.invokevirtual 113, 3) := by decide +kernel
theorem dX11_text_475 : decode cX11_text 475 = .ok (.aload_n 0, 1) := by decide +kernel
theorem dX11_text_476 : decode cX11_text 476 = .ok (.getfield 48, 3) := by decide +kernel
theorem dX11_text_479 : decode cX11_text 479 = .ok (.invokevirtual 117, 3) := by decide +kernel
theorem dX11_text_482 : decode cX11_text 482 = .ok (.ldc 124, 2) := by decide +kernel
theorem dX11_text_484 : decode cX11_text 484 = .ok (.invokevirtual 113, 3) := by decide +kernel
theorem dX11_text_487 : decode cX11_text 487 = .ok (.invokevirtual 120, 3) := by decide +kernel
theorem dX11_text_490 : decode cX11_text 490 = .ok (.areturn, 1) := by decide +kernel
theorem dX11_text_491 : decode cX11_text 491 = .ok (.aload_n 0, 1) := by decide +kernel
theorem dX11_text_492 : decode cX11_text 492 = .ok (.getfield 7, 3) := by decide +kernel
theorem dX11_text_495 : decode cX11_text 495 = .ok (.bipush 29, 2) := by decide +kernel
theorem dX11_text_497 : decode cX11_text 497 = .ok (.if_icmp .ge 39, 3) := by decide +kernel
theorem dX11_text_500 : decode cX11_text 500 = .ok (.new 110, 3) := by decide +kernel
theorem dX11_text_503 : decode cX11_text 503 = .ok (.dup, 1) := by decide +kernel
theorem dX11_text_504 : decode cX11_text 504 = .ok (.invokespecial 112, 3) := by decide +kernel
theorem dX11_text_507 : decode cX11_text 507 = .ok (.aload 4, 2) := by decide +kernel
theorem dX11_text_509 : decode cX11_text 509 = .ok (.aload_n 0, 1) := by decide +kernel
theorem dX11_text_510 : decode cX11_text 510 = .ok (.getfield 7, 3) := by decide +kernel
theorem dX11_text_513 : decode cX11_text 513 = .ok (.bipush 25, 2) := by decide +kernel
theorem dX11_text_515 : decode cX11_text 515 = .ok (.isub, 1) := by decide +kernel
theorem dX11_text_516 : decode cX11_text 516 = .ok (.aaload, 1) := by decide +kernel
theorem dX11_text_517 : decode cX11_text 517 = .ok (.invokevirtual 113, 3) := by decide +kernel
theorem dX11_text_520 : decode cX11_text 520 = .ok (.aload_n 0, 1) := by decide +kernel
theorem dX11_text_521 : decode cX11_text 521 = .ok (.getfield 13, 3) := by decide +kernel
theorem dX11_text_524 : decode cX11_text 524 = .ok (.invokevirtual 117, 3) := by decide +kernel
theorem dX11_text_527 : decode cX11_text 527 = .ok (.ldc 124, 2) := by decide +kernel
theorem dX11_text_529 : decode cX11_text 529 = .ok (.invokevirtual 113, 3) := by decide +kernel
theorem dX11_text_532 : decode cX11_text 532 = .ok (.invokevirtual 120, 3) := by decide +kernel
theorem dX11_text_535 : decode cX11_text 535 = .ok (.areturn, 1) := by decide +kernel
theorem dX11_text_536 : decode cX11_text 536 = .ok (.aload_n 0, 1) := by decide +kernel
theorem dX11_text_537 : decode cX11_text 537 = .ok (.getfield 7, 3) := by decide +kernel
theorem dX11_text_540 : decode cX11_text 540 = .ok (.bipush 29, 2) := by decide +kernel
theorem dX11_text_542 : decode cX11_text 542 = .ok (.if_icmp .ne 36, 3) := by decide +kernel
theorem dX11_text_545 : decode cX11_text 545 = .ok (.new 110, 3) := by decide +kernel
theorem dX11_text_548 : decode cX11_text 548 = .ok (.dup, 1) := by decide +kernel
theorem dX11_text_549 : decode cX11_text 549 = .ok (.invokespecial 112, 3) := by decide +kernel
theorem dX11_text_552 : decode cX11_text 552 = .ok (.ldc 139, 2) := by decide +kernel
theorem dX11_text_554 : decode cX11_text 554 = .ok (.invokevirtual 113, 3) := by decide +kernel
theorem dX11_text_557 : decode cX11_text 557 = .ok (.aload_n 0, 1) := by decide +kernel
theorem dX11_text_558 : decode cX11_text 558 = .ok (.getfield 40, 3) := by decide +kernel
theorem dX11_text_561 : decode cX11_text 561 = .ok (.invokevirtual 128, 3) := by decide +kernel
theorem dX11_text_564 : decode cX11_text 564 = .ok (.invokevirtual 113, 3) := by decide +kernel
theorem dX11_text_567 : decode cX11_text 567 = .ok (.ldc 141, 2) := by decide +kernel
theorem dX11_text_569 : decode cX11_text 569 = .ok (.invokevirtual 113, 3) := by decide +kernel
theorem dX11_text_572 : decode cX11_text 572 = .ok (.invokevirtual 120, 3) := by decide +kernel
theorem dX11_text_575 : decode cX11_text 575 = .ok (.goto 72, 3) := by decide +kernel
theorem dX11_text_578 : decode cX11_text 578 = .ok (.new 110, 3) := by decide +kernel
theorem dX11_text_581 : decode cX11_text 581 = .ok (.dup, 1) := by decide +kernel
theorem dX11_text_582 : decode cX11_text 582 = .ok (.invokespecial 112, 3) := by decide +kernel
theorem dX11_text_585 : decode cX11_text 585 = .ok (.ldc 143, 2) := by decide +kernel
theorem dX11_text_587 : decode cX11_text 587 = .ok (.invokevirtual 113, 3) := by decide +kernel
theorem dX11_text_590 : decode cX11_text 590 = .ok (.aload_n 0, 1) := by decide +kernel
theorem dX11_text_591 : decode cX11_text 591 = .ok (.getfield 40, 3) := by decide +kernel
theorem dX11_text_594 : decode cX11_text 594 = .ok (.invokevirtual 128, 3) := by decide +kernel
theorem dX11_text_597 : decode cX11_text 597 = .ok (.invokevirtual 113, 3) := by decide +kernel
theorem dX11_text_600 : decode cX11_text 600 = .ok (.ldc 141, 2) := by decide +kernel
theorem dX11_text_602 : decode cX11_text 602 = .ok (.invokevirtual 113, 3) := by decide +kernel
theorem dX11_text_605 : decode cX11_text 605 = .ok (.aload_n 0, 1) := by decide +kernel
theorem dX11_text_606 : decode cX11_text 606 = .ok (.getfield 7, 3) := by decide +kernel
theorem dX11_text_609 : decode cX11_text 609 = .ok (.bipush 30, 2) := by decide +kernel
theorem dX11_text_611 : decode cX11_text 611 = .ok (.if_icmp .ne 8, 3) := by decide +kernel
theorem dX11_text_614 : decode cX11_text 614 = .ok (.ldc 145, 2) := by decide +kernel
theorem dX11_text_616 : decode cX11_text 616 = .ok (.goto 5, 3) := by decide +kernel
