theorem dX11_errorOf_127 : decode cX11_errorOf 127 = .ok (.aload_n 0, 1) := by decide +kernel
theorem dX11_errorOf_128 : decode cX11_errorOf 128 = .ok (.getfield 37, 3) := by decide +kernel
theorem dX11_errorOf_131 : decode cX11_errorOf 131 = .ok (.iload_n 2, 1) := by decide +kernel
theorem dX11_errorOf_132 : decode cX11_errorOf 132 = .ok (.iaload, 1) := by decide +kernel
theorem dX11_errorOf_133 : decode cX11_errorOf 133 = .ok (.iastore, 1) := by decide +kernel
theorem dX11_errorOf_134 : decode cX11_errorOf 134 = .ok (.iload_n 3, 1) := by decide +kernel
theorem dX11_errorOf_135 : decode cX11_errorOf 135 = .ok (.ireturn, 1) := by decide +kernel
theorem dX11_errorOf_136 : decode cX11_errorOf 136 = .ok (.aload_n 0, 1) := by decide +kernel
theorem dX11_errorOf_137 : decode cX11_errorOf 137 = .ok (.aload_n 1, 1) := by decide +kernel
theorem dX11_errorOf_138 : decode cX11_errorOf 138 = .ok (.iload_n 2, 1) := by decide +kernel
theorem dX11_errorOf_139 : decode cX11_errorOf 139 = .ok (.invokevirtual 334, 3) := by decide +kernel
theorem dX11_errorOf_142 : decode cX11_errorOf 142 = .ok (.ireturn, 1) := by decide +kernel
theorem dX11_errorOf_143 : decode cX11_errorOf 143 = .ok (.aload_n 0, 1) := by decide +kernel
theorem dX11_errorOf_144 : decode cX11_errorOf 144 = .ok (.aload_n 1, 1) := by decide +kernel
theorem dX11_errorOf_145 : decode cX11_errorOf 145 = .ok (.iload_n 2, 1) := by decide +kernel
theorem dX11_errorOf_146 : decode cX11_errorOf 146 = .ok (.invokevirtual 330, 3) := by decide +kernel
theorem dX11_errorOf_149 : decode cX11_errorOf 149 = .ok (.ireturn, 1) := by decide +kernel
theorem dX11_errorOf_150 : decode cX11_errorOf 150 = .ok (.aload_n 0, 1) := by decide +kernel
theorem dX11_errorOf_151 : decode cX11_errorOf 151 = .ok (.aload_n 1, 1) := by decide +kernel
theorem dX11_errorOf_152 : decode cX11_errorOf 152 = .ok (.iload_n 2, 1) := by decide +kernel
theorem dX11_errorOf_153 : decode cX11_errorOf 153 = .ok (.invokevirtual 351, 3) := by decide +kernel
theorem dX11_errorOf_156 : decode cX11_errorOf 156 = .ok (.ireturn, 1) := by decide +kernel
theorem dX11_settle_0 : decode cX11_settle 0 = .ok (.iconst 0, 1) := by decide +kernel
theorem dX11_settle_1 : decode cX11_settle 1 = .ok (.istore_n 2, 1) := by decide +kernel
theorem dX11_settle_2 : decode cX11_settle 2 = .ok (.iload_n 2, 1) := by decide +kernel
theorem dX11_settle_3 : decode cX11_settle 3 = .ok (.aload_n 1, 1) := by decide +kernel
theorem dX11_settle_4 : decode cX11_settle 4 = .ok (.getfield 261, 3) := by decide +kernel
theorem dX11_settle_7 : decode cX11_settle 7 = .ok (.if_icmp .ge 85, 3) := by decide +kernel
theorem dX11_settle_10 : decode cX11_settle 10 = .ok (.aload_n 1, 1) := by decide +kernel
theorem dX11_settle_11 : decode cX11_settle 11 = .ok (.getfield 187, 3) := by decide +kernel
theorem dX11_settle_14 : decode cX11_settle 14 = .ok (.iload_n 2, 1) := by decide +kernel
theorem dX11_settle_15 : decode cX11_settle 15 = .ok (.iaload, 1) := by decide +kernel
theorem dX11_settle_16 : decode cX11_settle 16 = .ok (.istore_n 3, 1) := by decide +kernel
theorem dX11_settle_17 : decode cX11_settle 17 = .ok (.iload_n 3, 1) := by decide +kernel
theorem dX11_settle_18 : decode cX11_settle 18 = .ok (.bipush 17, 2) := by decide +kernel
theorem dX11_settle_20 : decode cX11_settle 20 = .ok (.if_icmp .ne 20, 3) := by decide +kernel
theorem dX11_settle_23 : decode cX11_settle 23 = .ok (.aload_n 1, 1) := by decide +kernel
theorem dX11_settle_24 : decode cX11_settle 24 = .ok (.getfield 196, 3) := by decide +kernel
theorem dX11_settle_27 : decode cX11_settle 27 = .ok (.iload_n 2, 1) := by decide +kernel
theorem dX11_settle_28 : decode cX11_settle 28 = .ok (.aload_n 0, 1) := by decide +kernel
theorem dX11_settle_29 : decode cX11_settle 29 = .ok (.getfield 37, 3) := by decide +kernel
theorem dX11_settle_32 : decode cX11_settle 32 = .ok (.aload_n 1, 1) := by decide +kernel
theorem dX11_settle_33 : decode cX11_settle 33 = .ok (.getfield 196, 3) := by decide +kernel
theorem dX11_settle_36 : decode cX11_settle 36 = .ok (.iload_n 2, 1) := by decide +kernel
theorem dX11_settle_37 : decode cX11_settle 37 = .ok (.iaload, 1) := by decide +kernel
theorem dX11_settle_38 : decode cX11_settle 38 = .ok (.iaload, 1) := by decide +kernel
theorem dX11_settle_39 : decode cX11_settle 39 = .ok (.iastore, 1) := by decide +kernel
theorem dX11_settle_40 : decode cX11_settle 40 = .ok (.iload_n 3, 1) := by decide +kernel
theorem dX11_settle_41 : decode cX11_settle 41 = .ok (.bipush 13, 2) := by decide +kernel
theorem dX11_settle_43 : decode cX11_settle 43 = .ok (.if_icmp .eq 26, 3) := by decide +kernel
theorem dX11_settle_46 : decode cX11_settle 46 = .ok (.iload_n 3, 1) := by decide +kernel
theorem dX11_settle_47 : decode cX11_settle 47 = .ok (.bipush 14, 2) := by decide +kernel
theorem dX11_settle_49 : decode cX11_settle 49 = .ok (.if_icmp .eq 20, 3) := by decide +kernel
theorem dX11_settle_52 : decode cX11_settle 52 = .ok (.iload_n 3, 1) := by decide +kernel
theorem dX11_settle_53 : decode cX11_settle 53 = .ok (.bipush 15, 2) := by decide +kernel
theorem dX11_settle_55 : decode cX11_settle 55 = .ok (.if_icmp .eq 14, 3) := by decide +kernel
theorem dX11_settle_58 : decode cX11_settle 58 = .ok (.iload_n 3, 1) := by decide +kernel
theorem dX11_settle_59 : decode cX11_settle 59 = .ok (.bipush 17, 2) := by decide +kernel
theorem dX11_settle_61 : decode cX11_settle 61 = .ok (.bipush 19, 2) := by decide +kernel
theorem dX11_settle_63 : decode cX11_settle 63 = .ok (.invokestatic 58, 3) := by decide +kernel
theorem dX11_settle_66 : decode cX11_settle 66 = .ok (.ifCond .eq 20, 3) := by decide +kernel
theorem dX11_settle_69 : decode cX11_settle 69 = .ok (.aload_n 1, 1) := by decide +kernel
theorem dX11_settle_70 : decode cX11_settle 70 = .ok (.getfield 193, 3) := by decide +kernel
theorem dX11_settle_73 : decode cX11_settle 73 = .ok (.iload_n 2, 1) := by decide +kernel
theorem dX11_settle_74 : decode cX11_settle 74 = .ok (.aload_n 0, 1) := by decide +kernel
theorem dX11_settle_75 : decode cX11_settle 75 = .ok (.getfield 37, 3) := by decide +kernel
theorem dX11_settle_78 : decode cX11_settle 78 = .ok (.aload_n 1, 1) := by decide +kernel
theorem dX11_settle_79 : decode cX11_settle 79 = .ok (.getfield 193, 3) := by decide +kernel
theorem dX11_settle_82 : decode cX11_settle 82 = .ok (.iload_n 2, 1) := by decide +kernel
theorem dX11_settle_83 : decode cX11_settle 83 = .ok (.iaload, 1) := by decide +kernel
theorem dX11_settle_84 : decode cX11_settle 84 = .ok (.iaload, 1) := by decide +kernel
theorem dX11_settle_85 : decode cX11_settle 85 = .ok (.iastore, 1) := by decide +kernel
theorem dX11_settle_86 : decode cX11_settle 86 = .ok (.iinc 2 1, 3) := by decide +kernel
theorem dX11_settle_89 : decode cX11_settle 89 = .ok (.goto (-87), 3) := by decide +kernel
theorem dX11_settle_92 : decode cX11_settle 92 = .ok (.return_, 1) := by decide +kernel
theorem dX11_read_0 : decode cX11_read 0 = .ok (.aload_n 0, 1) := by decide +kernel
theorem dX11_read_1 : decode cX11_read 1 = .ok (.invokevirtual 354, 3) := by decide +kernel
theorem dX11_read_4 : decode cX11_read 4 = .ok (.aload_n 0, 1) := by decide +kernel
theorem dX11_read_5 : decode cX11_read 5 = .ok (.iconst 0, 1) := by decide +kernel
theorem dX11_read_6 : decode cX11_read 6 = .ok (.putfield 252, 3) := by decide +kernel
theorem dX11_read_9 : decode cX11_read 9 = .ok (.aload_n 0, 1) := by decide +kernel
theorem dX11_read_10 : decode cX11_read 10 = .ok (.iconst 0, 1) := by decide +kernel
theorem dX11_read_11 : decode cX11_read 11 = .ok (.putfield 258, 3) := by decide +kernel
theorem dX11_read_14 : decode cX11_read 14 = .ok (.aload_n 0, 1) := by decide +kernel
theorem dX11_read_15 : decode cX11_read 15 = .ok (.iconst 0, 1) := by decide +kernel
theorem dX11_read_16 : decode cX11_read 16 = .ok (.putfield 307, 3) := by decide +kernel
theorem dX11_read_19 : decode cX11_read 19 = .ok (.aload_n 0, 1) := by decide +kernel
theorem dX11_read_20 : decode cX11_read 20 = .ok (.aload_n 1, 1) := by decide +kernel
theorem dX11_read_21 : decode cX11_read 21 = .ok (.invokevirtual 357, 3) := by decide +kernel
theorem dX11_read_24 : decode cX11_read 24 = .ok (.ifCond .ne 18, 3) := by decide +kernel
theorem dX11_read_27 : decode cX11_read 27 = .ok (.aload_n 0, 1) := by decide +kernel
theorem dX11_read_28 : decode cX11_read 28 = .ok (.aload_n 0, 1) := by decide +kernel
theorem dX11_read_29 : decode cX11_read 29 = .ok (.getfield 27, 3) := by decide +kernel
theorem dX11_read_32 : decode cX11_read 32 = .ok (.aload_n 0, 1) := by decide +kernel
theorem dX11_read_33 : decode cX11_read 33 = .ok (.getfield 252, 3) := by decide +kernel
theorem dX11_read_36 : decode cX11_read 36 = .ok (.iaload, 1) := by decide +kernel
theorem dX11_read_37 : decode cX11_read 37 = .ok (.putfield 13, 3) := by decide +kernel
theorem dX11_read_40 : decode cX11_read 40 = .ok (.iconst 1, 1) := by decide +kernel
theorem dX11_read_41 : decode cX11_read 41 = .ok (.ireturn, 1) := by decide +kernel
theorem dX11_read_42 : decode cX11_read 42 = .ok (.iconst 0, 1) := by decide +kernel
theorem dX11_read_43 : decode cX11_read 43 = .ok (.istore_n 2, 1) := by decide +kernel
theorem dX11_read_44 : decode cX11_read 44 = .ok (.iload_n 2, 1) := by decide +kernel
theorem dX11_read_45 : decode cX11_read 45 = .ok (.aload_n 0, 1) := by decide +kernel
theorem dX11_read_46 : decode cX11_read 46 = .ok (.getfield 252, 3) := by decide +kernel
theorem dX11_read_49 : decode cX11_read 49 = .ok (.if_icmp .ge 35, 3) := by decide +kernel
theorem dX11_read_52 : decode cX11_read 52 = .ok (.aload_n 0, 1) := by decide +kernel
theorem dX11_read_53 : decode cX11_read 53 = .ok (.aload_n 1, 1) := by decide +kernel
theorem dX11_read_54 : decode cX11_read 54 = .ok (.iload_n 2, 1) := by decide +kernel
theorem dX11_read_55 : decode cX11_read 55 = .ok (.invokevirtual 360, 3) := by decide +kernel
theorem dX11_read_58 : decode cX11_read 58 = .ok (.istore_n 3, 1) := by decide +kernel
theorem dX11_read_59 : decode cX11_read 59 = .ok (.iload_n 3, 1) := by decide +kernel
theorem dX11_read_60 : decode cX11_read 60 = .ok (.ifCond .ne 6, 3) := by decide +kernel
theorem dX11_read_63 : decode cX11_read 63 = .ok (.goto 15, 3) := by decide +kernel
theorem dX11_read_66 : decode cX11_read 66 = .ok (.aload_n 0, 1) := by decide +kernel
theorem dX11_read_67 : decode cX11_read 67 = .ok (.aload_n 0, 1) := by decide +kernel
theorem dX11_read_68 : decode cX11_read 68 = .ok (.getfield 27, 3) := by decide +kernel
theorem dX11_read_71 : decode cX11_read 71 = .ok (.iload_n 2, 1) := by decide +kernel
theorem dX11_read_72 : decode cX11_read 72 = .ok (.iaload, 1) := by decide +kernel
theorem dX11_read_73 : decode cX11_read 73 = .ok (.putfield 13, 3) := by decide +kernel
theorem dX11_read_76 : decode cX11_read 76 = .ok (.iload_n 3, 1) := by decide +kernel
theorem dX11_read_77 : decode cX11_read 77 = .ok (.ireturn, 1) := by decide +kernel
theorem dX11_read_78 : decode cX11_read 78 = .ok (.iinc 2 1, 3) := by decide +kernel
theorem dX11_read_81 : decode cX11_read 81 = .ok (.goto (-37), 3) := by decide +kernel
theorem dX11_read_84 : decode cX11_read 84 = .ok (.aload_n 0, 1) := by decide +kernel
theorem dX11_read_85 : decode cX11_read 85 = .ok (.aload_n 1, 1) := by decide +kernel
theorem dX11_read_86 : decode cX11_read 86 = .ok (.invokevirtual 363, 3) := by decide +kernel
theorem dX11_read_89 : decode cX11_read 89 = .ok (.iconst 0, 1) := by decide +kernel
theorem dX11_read_90 : decode cX11_read 90 = .ok (.ireturn, 1) := by decide +kernel
theorem dX11_feed_0 : decode cX11_feed 0 = .ok (.aload_n 0, 1) := by decide +kernel
theorem dX11_feed_1 : decode cX11_feed 1 = .ok (.iconst 0, 1) := by decide +kernel
theorem dX11_feed_2 : decode cX11_feed 2 = .ok (.putfield 52, 3) := by decide +kernel
theorem dX11_feed_5 : decode cX11_feed 5 = .ok (.aload_n 0, 1) := by decide +kernel
theorem dX11_feed_6 : decode cX11_feed 6 = .ok (.getfield 206, 3) := by decide +kernel
theorem dX11_feed_9 : decode cX11_feed 9 = .ok (.sipush 1980, 3) := by decide +kernel
theorem dX11_feed_12 : decode cX11_feed 12 = .ok (.if_icmp .le 9, 3) := by decide +kernel
theorem dX11_feed_15 : decode cX11_feed 15 = .ok (.aload_n 0, 1) := by decide +kernel
theorem dX11_feed_16 : decode cX11_feed 16 = .ok (.iconst 1, 1) := by decide +kernel
theorem dX11_feed_17 : decode cX11_feed 17 = .ok (.invokevirtual 367, 3) := by decide +kernel
theorem dX11_feed_20 : decode cX11_feed 20 = .ok (.ireturn, 1) := by decide +kernel
theorem dX11_feed_21 : decode cX11_feed 21 = .ok (.iconst 5, 1) := by decide +kernel
theorem dX11_feed_22 : decode cX11_feed 22 = .ok (.newarray .int, 2) := by decide +kernel
theorem dX11_feed_24 : decode cX11_feed 24 = .ok (.dup, 1) := by decide +kernel
theorem dX11_feed_25 : decode cX11_feed 25 = .ok (.iconst 0, 1) := by decide +kernel
theorem dX11_feed_26 : decode cX11_feed 26 = .ok (.iload_n 1, 1) := by decide +kernel
theorem dX11_feed_27 : decode cX11_feed 27 = .ok (.iastore, 1) := by decide +kernel
theorem dX11_feed_28 : decode cX11_feed 28 = .ok (.dup, 1) := by decide +kernel
theorem dX11_feed_29 : decode cX11_feed 29 = .ok (.iconst 1, 1) := by decide +kernel
theorem dX11_feed_30 : decode cX11_feed 30 = .ok (.iload_n 2, 1) := by decide +kernel
theorem dX11_feed_31 : decode cX11_feed 31 = .ok (.iastore, 1) := by decide +kernel
theorem dX11_feed_32 : decode cX11_feed 32 = .ok (.dup, 1) := by decide +kernel
theorem dX11_feed_33 : decode cX11_feed 33 = .ok (.iconst 2, 1) := by decide +kernel
theorem dX11_feed_34 : decode cX11_feed 34 = .ok (.iload_n 3, 1) := by decide +kernel
theorem dX11_feed_35 : decode cX11_feed 35 = .ok (.iastore, 1) := by decide +kernel
theorem dX11_feed_36 : decode cX11_feed 36 = .ok (.dup, 1) := by decide +kernel
theorem dX11_feed_37 : decode cX11_feed 37 = .ok (.iconst 3, 1) := by decide +kernel
theorem dX11_feed_38 : decode cX11_feed 38 = .ok (.iload 4, 2) := by decide +kernel
theorem dX11_feed_40 : decode cX11_feed 40 = .ok (.iastore, 1) := by decide +kernel
theorem dX11_feed_41 : decode cX11_feed 41 = .ok (.dup, 1) := by decide +kernel
theorem dX11_feed_42 : decode cX11_feed 42 = .ok (.iconst 4, 1) := by decide +kernel
theorem dX11_feed_43 : decode cX11_feed 43 = .ok (.iload 5, 2) := by decide +kernel
theorem dX11_feed_45 : decode cX11_feed 45 = .ok (.iastore, 1) := by decide +kernel
theorem dX11_feed_46 : decode cX11_feed 46 = .ok (.astore 6, 2) := by decide +kernel
theorem dX11_feed_48 : decode cX11_feed 48 = .ok (.iconst 0, 1) := by decide +kernel
theorem dX11_feed_49 : decode cX11_feed 49 = .ok (.istore 7, 2) := by decide +kernel
theorem dX11_feed_51 : decode cX11_feed 51 = .ok (.iload 7, 2) := by decide +kernel
theorem dX11_feed_53 : decode cX11_feed 53 = .ok (.bipush 20, 2) := by decide +kernel
theorem dX11_feed_55 : decode cX11_feed 55 = .ok (.if_icmp .ge 43, 3) := by decide +kernel
theorem dX11_feed_58 : decode cX11_feed 58 = .ok (.aload_n 0, 1) := by decide +kernel
theorem dX11_feed_59 : decode cX11_feed 59 = .ok (.getfield 9, 3) := by decide +kernel
theorem dX11_feed_62 : decode cX11_feed 62 = .ok (.aload_n 0, 1) := by decide +kernel
theorem dX11_feed_63 : decode cX11_feed 63 = .ok (.getfield 206, 3) := by decide +kernel
theorem dX11_feed_66 : decode cX11_feed 66 = .ok (.iload 7, 2) := by decide +kernel
theorem dX11_feed_68 : decode cX11_feed 68 = .ok (.iadd, 1) := by decide +kernel
theorem dX11_feed_69 : decode cX11_feed 69 = .ok (.aload 6, 2) := by decide +kernel
theorem dX11_feed_71 : decode cX11_feed 71 = .ok (.iload 7, 2) := by decide +kernel
theorem dX11_feed_73 : decode cX11_feed 73 = .ok (.iconst 4, 1) := by decide +kernel
theorem dX11_feed_74 : decode cX11_feed 74 = .ok (.idiv, 1) := by decide +kernel
theorem dX11_feed_75 : decode cX11_feed 75 = .ok (.iaload, 1) := by decide +kernel
theorem dX11_feed_76 : decode cX11_feed 76 = .ok (.bipush 24, 2) := by decide +kernel
theorem dX11_feed_78 : decode cX11_feed 78 = .ok (.bipush 8, 2) := by decide +kernel
theorem dX11_feed_80 : decode cX11_feed 80 = .ok (.iload 7, 2) := by decide +kernel
theorem dX11_feed_82 : decode cX11_feed 82 = .ok (.iconst 4, 1) := by decide +kernel
theorem dX11_feed_83 : decode cX11_feed 83 = .ok (.irem, 1) := by decide +kernel
theorem dX11_feed_84 : decode cX11_feed 84 = .ok (.imul, 1) := by decide +kernel
theorem dX11_feed_85 : decode cX11_feed 85 = .ok (.isub, 1) := by decide +kernel
theorem dX11_feed_86 : decode cX11_feed 86 = .ok (.ishr, 1) := by decide +kernel
theorem dX11_feed_87 : decode cX11_feed 87 = .ok (.sipush 255, 3) := by decide +kernel
theorem dX11_feed_90 : decode cX11_feed 90 = .ok (.iand, 1) := by decide +kernel
theorem dX11_feed_91 : decode cX11_feed 91 = .ok (.iastore, 1) := by decide +kernel
theorem dX11_feed_92 : decode cX11_feed 92 = .ok (.iinc 7 1, 3) := by decide +kernel
theorem dX11_feed_95 : decode cX11_feed 95 = .ok (.goto (-44), 3) := by decide +kernel
theorem dX11_feed_98 : decode cX11_feed 98 = .ok (.aload_n 0, 1) := by decide +kernel
theorem dX11_feed_99 : decode cX11_feed 99 = .ok (.dup, 1) := by decide +kernel
theorem dX11_feed_100 : decode cX11_feed 100 = .ok (.getfield 206, 3) := by decide +kernel
theorem dX11_feed_103 : decode cX11_feed 103 = .ok (.bipush 20, 2) := by decide +kernel
theorem dX11_feed_105 : decode cX11_feed 105 = .ok (.iadd, 1) := by decide +kernel
theorem dX11_feed_106 : decode cX11_feed 106 = .ok (.putfield 206, 3) := by decide +kernel
theorem dX11_feed_109 : decode cX11_feed 109 = .ok (.aload_n 0, 1) := by decide +kernel
theorem dX11_feed_110 : decode cX11_feed 110 = .ok (.getfield 206, 3) := by decide +kernel
theorem dX11_feed_113 : decode cX11_feed 113 = .ok (.ireturn, 1) := by decide +kernel
theorem dX11_trim_0 : decode cX11_trim 0 = .ok (.aload_n 0, 1) := by decide +kernel
theorem dX11_trim_1 : decode cX11_trim 1 = .ok (.iconst 0, 1) := by decide +kernel
theorem dX11_trim_2 : decode cX11_trim 2 = .ok (.putfield 52, 3) := by decide +kernel
theorem dX11_trim_5 : decode cX11_trim 5 = .ok (.iload_n 1, 1) := by decide +kernel
theorem dX11_trim_6 : decode cX11_trim 6 = .ok (.iconst 0, 1) := by decide +kernel
theorem dX11_trim_7 : decode cX11_trim 7 = .ok (.aload_n 0, 1) := by decide +kernel
theorem dX11_trim_8 : decode cX11_trim 8 = .ok (.getfield 206, 3) := by decide +kernel
theorem dX11_trim_11 : decode cX11_trim 11 = .ok (.invokestatic 58, 3) := by decide +kernel
theorem dX11_trim_14 : decode cX11_trim 14 = .ok (.ifCond .ne 9, 3) := by decide +kernel
theorem dX11_trim_17 : decode cX11_trim 17 = .ok (.aload_n 0, 1) := by decide +kernel
theorem dX11_trim_18 : decode cX11_trim 18 = .ok (.iconst 1, 1) := by decide +kernel
theorem dX11_trim_19 : decode cX11_trim 19 = .ok (.invokevirtual 367, 3) := by decide +kernel
theorem dX11_trim_22 : decode cX11_trim 22 = .ok (.ireturn, 1) := by decide +kernel
theorem dX11_trim_23 : decode cX11_trim 23 = .ok (.aload_n 0, 1) := by decide +kernel
theorem dX11_trim_24 : decode cX11_trim 24 = .ok (.iload_n 1, 1) := by decide +kernel
theorem dX11_trim_25 : decode cX11_trim 25 = .ok (.putfield 206, 3) := by decide +kernel
theorem dX11_trim_28 : decode cX11_trim 28 = .ok (.iload_n 1, 1) := by decide +kernel
theorem dX11_trim_29 : decode cX11_trim 29 = .ok (.ireturn, 1) := by decide +kernel
theorem dX11_teach_0 : decode cX11_teach 0 = .ok (.aload_n 0, 1) := by decide +kernel
theorem dX11_teach_1 : decode cX11_teach 1 = .ok (.iconst 0, 1) := by decide +kernel
theorem dX11_teach_2 : decode cX11_teach 2 = .ok (.putfield 52, 3) := by decide +kernel
theorem dX11_teach_5 : decode cX11_teach 5 = .ok (.aload_n 0, 1) := by decide +kernel
theorem dX11_teach_6 : decode cX11_teach 6 = .ok (.iconst (-1), 1) := by decide +kernel
theorem dX11_teach_7 : decode cX11_teach 7 = .ok (.putfield 13, 3) := by decide +kernel
theorem dX11_teach_10 : decode cX11_teach 10 = .ok (.new 17, 3) := by decide +kernel
theorem dX11_teach_13 : decode cX11_teach 13 = .ok (.dup, 1) := by decide +kernel
theorem dX11_teach_14 : decode cX11_teach 14 = .ok (.invokespecial 19, 3) := by decide +kernel
theorem dX11_teach_17 : decode cX11_teach 17 = .ok (.astore_n 1, 1) := by decide +kernel
theorem dX11_teach_18 : decode cX11_teach 18 = .ok (.aload_n 0, 1) := by decide +kernel
theorem dX11_teach_19 : decode cX11_teach 19 = .ok (.aload_n 1, 1) := by decide +kernel
theorem dX11_teach_20 : decode cX11_teach 20 = .ok (.invokevirtual 370, 3) := by decide +kernel
theorem dX11_teach_23 : decode cX11_teach 23 = .ok (.istore_n 2, 1) := by decide +kernel
theorem dX11_teach_24 : decode cX11_teach 24 = .ok (.aload_n 0, 1) := by decide +kernel
theorem dX11_teach_25 : decode cX11_teach 25 = .ok (.iconst 0, 1) := by decide +kernel
theorem dX11_teach_26 : decode cX11_teach 26 = .ok (.putfield 206, 3) := by decide +kernel
theorem dX11_teach_29 : decode cX11_teach 29 = .ok (.iload_n 2, 1) := by decide +kernel
theorem dX11_teach_30 : decode cX11_teach 30 = .ok (.ifCond .le 5, 3) := by decide +kernel
theorem dX11_teach_33 : decode cX11_teach 33 = .ok (.iload_n 2, 1) := by decide +kernel
theorem dX11_teach_34 : decode cX11_teach 34 = .ok (.ireturn, 1) := by decide +kernel
theorem dX11_teach_35 : decode cX11_teach 35 = .ok (.aload_n 0, 1) := by decide +kernel
theorem dX11_teach_36 : decode cX11_teach 36 = .ok (.aload_n 1, 1) := by decide +kernel
theorem dX11_teach_37 : decode cX11_teach 37 = .ok (.putfield 20, 3) := by decide +kernel
theorem dX11_teach_40 : decode cX11_teach 40 = .ok (.aload_n 0, 1) := by decide +kernel
theorem dX11_teach_41 : decode cX11_teach 41 = .ok (.iconst 0, 1) := by decide +kernel
theorem dX11_teach_42 : decode cX11_teach 42 = .ok (.putfield 85, 3) := by decide +kernel
theorem dX11_teach_45 : decode cX11_teach 45 = .ok (.aload_n 0, 1) := by decide +kernel
theorem dX11_teach_46 : decode cX11_teach 46 = .ok (.iconst 0, 1) := by decide +kernel
theorem dX11_teach_47 : decode cX11_teach 47 = .ok (.putfield 156, 3) := by decide +kernel
theorem dX11_teach_50 : decode cX11_teach 50 = .ok (.aload_n 0, 1) := by decide +kernel
theorem dX11_teach_51 : decode cX11_teach 51 = .ok (.iconst 0, 1) := by decide +kernel
theorem dX11_teach_52 : decode cX11_teach 52 = .ok (.putfield 141, 3) := by decide +kernel
theorem dX11_teach_55 : decode cX11_teach 55 = .ok (.aload_n 0, 1) := by decide +kernel
theorem dX11_teach_56 : decode cX11_teach 56 = .ok (.invokevirtual 373, 3) := by decide +kernel
theorem dX11_teach_59 : decode cX11_teach 59 = .ok (.iconst 0, 1) := by decide +kernel
theorem dX11_teach_60 : decode cX11_teach 60 = .ok (.ireturn, 1) := by decide +kernel
theorem dX11_errorAt_0 : decode cX11_errorAt 0 = .ok (.aload_n 0, 1) := by decide +kernel
theorem dX11_errorAt_1 : decode cX11_errorAt 1 = .ok (.aload_n 0, 1) := by decide +kernel
theorem dX11_errorAt_2 : decode cX11_errorAt 2 = .ok (.getfield 13, 3) := by decide +kernel
theorem dX11_errorAt_5 : decode cX11_errorAt 5 = .ok (.invokevirtual 376, 3) := by decide +kernel
theorem dX11_errorAt_8 : decode cX11_errorAt 8 = .ok (.ireturn, 1) := by decide +kernel
theorem dX11_events_0 : decode cX11_events 0 = .ok (.aload_n 0, 1) := by decide +kernel
theorem dX11_events_1 : decode cX11_events 1 = .ok (.aload_n 0, 1) := by decide +kernel
theorem dX11_events_2 : decode cX11_events 2 = .ok (.getfield 20, 3) := by decide +kernel
theorem dX11_events_5 : decode cX11_events 5 = .ok (.getfield 55, 3) := by decide +kernel
theorem dX11_events_8 : decode cX11_events 8 = .ok (.invokevirtual 376, 3) := by decide +kernel
theorem dX11_events_11 : decode cX11_events 11 = .ok (.ireturn, 1) := by decide +kernel
theorem dX11_tellers_0 : decode cX11_tellers 0 = .ok (.aload_n 0, 1) := by decide +kernel
theorem dX11_tellers_1 : decode cX11_tellers 1 = .ok (.aload_n 0, 1) := by decide +kernel
theorem dX11_tellers_2 : decode cX11_tellers 2 = .ok (.getfield 20, 3) := by decide +kernel
theorem dX11_tellers_5 : decode cX11_tellers 5 = .ok (.getfield 62, 3) := by decide +kernel
theorem dX11_tellers_8 : decode cX11_tellers 8 = .ok (.invokevirtual 376, 3) := by decide +kernel
theorem dX11_tellers_11 : decode cX11_tellers 11 = .ok (.ireturn, 1) := by decide +kernel
theorem dX11_claims_0 : decode cX11_claims 0 = .ok (.aload_n 0, 1) := by decide +kernel
theorem dX11_claims_1 : decode cX11_claims 1 = .ok (.aload_n 0, 1) := by decide +kernel
theorem dX11_claims_2 : decode cX11_claims 2 = .ok (.getfield 20, 3) := by decide +kernel
theorem dX11_claims_5 : decode cX11_claims 5 = .ok (.getfield 65, 3) := by decide +kernel
theorem dX11_claims_8 : decode cX11_claims 8 = .ok (.invokevirtual 376, 3) := by decide +kernel
theorem dX11_claims_11 : decode cX11_claims 11 = .ok (.ireturn, 1) := by decide +kernel
theorem dX11_evenings_0 : decode cX11_evenings 0 = .ok (.aload_n 0, 1) := by decide +kernel
theorem dX11_evenings_1 : decode cX11_evenings 1 = .ok (.aload_n 0, 1) := by decide +kernel
theorem dX11_evenings_2 : decode cX11_evenings 2 = .ok (.getfield 156, 3) := by decide +kernel
theorem dX11_evenings_5 : decode cX11_evenings 5 = .ok (.invokevirtual 376, 3) := by decide +kernel
theorem dX11_evenings_8 : decode cX11_evenings 8 = .ok (.ireturn, 1) := by decide +kernel
theorem dX11_ordersCarriedOut_0 : decode cX11_ordersCarriedOut 0 = .ok (.aload_n 0, 1) := by decide +kernel
theorem dX11_ordersCarriedOut_1 : decode cX11_ordersCarriedOut 1 = .ok (.aload_n 0, 1) := by decide +kernel
theorem dX11_ordersCarriedOut_2 : decode cX11_ordersCarriedOut 2 = .ok (.getfield 141, 3) := by decide +kernel
theorem dX11_ordersCarriedOut_5 : decode cX11_ordersCarriedOut 5 = .ok (.invokevirtual 376, 3) := by decide +kernel
theorem dX11_ordersCarriedOut_8 : decode cX11_ordersCarriedOut 8 = .ok (.ireturn, 1) := by decide +kernel
theorem dX11_tellerOf_0 : decode cX11_tellerOf 0 = .ok (.aload_n 0, 1) := by decide +kernel
theorem dX11_tellerOf_1 : decode cX11_tellerOf 1 = .ok (.iconst 0, 1) := by decide +kernel
theorem dX11_tellerOf_2 : decode cX11_tellerOf 2 = .ok (.putfield 52, 3) := by decide +kernel
theorem dX11_tellerOf_5 : decode cX11_tellerOf 5 = .ok (.aload_n 0, 1) := by decide +kernel
theorem dX11_tellerOf_6 : decode cX11_tellerOf 6 = .ok (.iload_n 1, 1) := by decide +kernel
theorem dX11_tellerOf_7 : decode cX11_tellerOf 7 = .ok (.invokevirtual 379, 3) := by decide +kernel
theorem dX11_tellerOf_10 : decode cX11_tellerOf 10 = .ok (.ifCond .eq 15, 3) := by decide +kernel
theorem dX11_tellerOf_13 : decode cX11_tellerOf 13 = .ok (.aload_n 0, 1) := by decide +kernel
theorem dX11_tellerOf_14 : decode cX11_tellerOf 14 = .ok (.getfield 20, 3) := by decide +kernel
theorem dX11_tellerOf_17 : decode cX11_tellerOf 17 = .ok (.getfield 82, 3) := by decide +kernel
theorem dX11_tellerOf_20 : decode cX11_tellerOf 20 = .ok (.iload_n 1, 1) := by decide +kernel
theorem dX11_tellerOf_21 : decode cX11_tellerOf 21 = .ok (.iaload, 1) := by decide +kernel
theorem dX11_tellerOf_22 : decode cX11_tellerOf 22 = .ok (.goto 8, 3) := by decide +kernel
theorem dX11_tellerOf_25 : decode cX11_tellerOf 25 = .ok (.aload_n 0, 1) := by decide +kernel
theorem dX11_tellerOf_26 : decode cX11_tellerOf 26 = .ok (.iconst 1, 1) := by decide +kernel
theorem dX11_tellerOf_27 : decode cX11_tellerOf 27 = .ok (.invokevirtual 367, 3) := by decide +kernel
theorem dX11_tellerOf_30 : decode cX11_tellerOf 30 = .ok (.ireturn, 1) := by decide +kernel
theorem dX11_kindOf__0 : decode cX11_kindOf_ 0 = .ok (.aload_n 0, 1) := by decide +kernel
theorem dX11_kindOf__1 : decode cX11_kindOf_ 1 = .ok (.iconst 0, 1) := by decide +kernel
theorem dX11_kindOf__2 : decode cX11_kindOf_ 2 = .ok (.putfield 52, 3) := by decide +kernel
theorem dX11_kindOf__5 : decode cX11_kindOf_ 5 = .ok (.aload_n 0, 1) := by decide +kernel
theorem dX11_kindOf__6 : decode cX11_kindOf_ 6 = .ok (.iload_n 1, 1) := by decide +kernel
theorem dX11_kindOf__7 : decode cX11_kindOf_ 7 = .ok (.invokevirtual 379, 3) := by decide +kernel
theorem dX11_kindOf__10 : decode cX11_kindOf_ 10 = .ok (.ifCond .eq 15, 3) := by decide +kernel
theorem dX11_kindOf__13 : decode cX11_kindOf_ 13 = .ok (.aload_n 0, 1) := by decide +kernel
theorem dX11_kindOf__14 : decode cX11_kindOf_ 14 = .ok (.getfield 20, 3) := by decide +kernel
theorem dX11_kindOf__17 : decode cX11_kindOf_ 17 = .ok (.getfield 68, 3) := by decide +kernel
theorem dX11_kindOf__20 : decode cX11_kindOf_ 20 = .ok (.iload_n 1, 1) := by decide +kernel
theorem dX11_kindOf__21 : decode cX11_kindOf_ 21 = .ok (.iaload, 1) := by decide +kernel
theorem dX11_kindOf__22 : decode cX11_kindOf_ 22 = .ok (.goto 8, 3) := by decide +kernel
theorem dX11_kindOf__25 : decode cX11_kindOf_ 25 = .ok (.aload_n 0, 1) := by decide +kernel
theorem dX11_kindOf__26 : decode cX11_kindOf_ 26 = .ok (.iconst 1, 1) := by decide +kernel
theorem dX11_kindOf__27 : decode cX11_kindOf_ 27 = .ok (.invokevirtual 367, 3) := by decide +kernel
theorem dX11_kindOf__30 : decode cX11_kindOf_ 30 = .ok (.ireturn, 1) := by decide +kernel
theorem dX11_eventOf_0 : decode cX11_eventOf 0 = .ok (.aload_n 0, 1) := by decide +kernel
theorem dX11_eventOf_1 : decode cX11_eventOf 1 = .ok (.iconst 0, 1) := by decide +kernel
theorem dX11_eventOf_2 : decode cX11_eventOf 2 = .ok (.putfield 52, 3) := by decide +kernel
theorem dX11_eventOf_5 : decode cX11_eventOf 5 = .ok (.aload_n 0, 1) := by decide +kernel
theorem dX11_eventOf_6 : decode cX11_eventOf 6 = .ok (.iload_n 1, 1) := by decide +kernel
theorem dX11_eventOf_7 : decode cX11_eventOf 7 = .ok (.invokevirtual 379, 3) := by decide +kernel
theorem dX11_eventOf_10 : decode cX11_eventOf 10 = .ok (.ifCond .eq 15, 3) := by decide +kernel
theorem dX11_eventOf_13 : decode cX11_eventOf 13 = .ok (.aload_n 0, 1) := by decide +kernel
theorem dX11_eventOf_14 : decode cX11_eventOf 14 = .ok (.getfield 20, 3) := by decide +kernel
theorem dX11_eventOf_17 : decode cX11_eventOf 17 = .ok (.getfield 73, 3) := by decide +kernel
theorem dX11_eventOf_20 : decode cX11_eventOf 20 = .ok (.iload_n 1, 1) := by decide +kernel
theorem dX11_eventOf_21 : decode cX11_eventOf 21 = .ok (.iaload, 1) := by decide +kernel
theorem dX11_eventOf_22 : decode cX11_eventOf 22 = .ok (.goto 8, 3) := by decide +kernel
theorem dX11_eventOf_25 : decode cX11_eventOf 25 = .ok (.aload_n 0, 1) := by decide +kernel
theorem dX11_eventOf_26 : decode cX11_eventOf 26 = .ok (.iconst 1, 1) := by decide +kernel
theorem dX11_eventOf_27 : decode cX11_eventOf 27 = .ok (.invokevirtual 367, 3) := by decide +kernel
theorem dX11_eventOf_30 : decode cX11_eventOf 30 = .ok (.ireturn, 1) := by decide +kernel
theorem dX11_secondEventOf_0 : decode cX11_secondEventOf 0 = .ok (.aload_n 0, 1) := by decide +kernel
theorem dX11_secondEventOf_1 : decode cX11_secondEventOf 1 = .ok (.iconst 0, 1) := by decide +kernel
theorem dX11_secondEventOf_2 : decode cX11_secondEventOf 2 = .ok (.putfield 52, 3) := by decide +kernel
theorem dX11_secondEventOf_5 : decode cX11_secondEventOf 5 = .ok (.aload_n 0, 1) := by decide +kernel
theorem dX11_secondEventOf_6 : decode cX11_secondEventOf 6 = .ok (.iload_n 1, 1) := by decide +kernel
theorem dX11_secondEventOf_7 : decode cX11_secondEventOf 7 = .ok (.invokevirtual 379, 3) := by decide +kernel
theorem dX11_secondEventOf_10 : decode cX11_secondEventOf 10 = .ok (.ifCond .ne 9, 3) := by decide +kernel
theorem dX11_secondEventOf_13 : decode cX11_secondEventOf 13 = .ok (.aload_n 0, 1) := by decide +kernel
theorem dX11_secondEventOf_14 : decode cX11_secondEventOf 14 = .ok (.iconst 1, 1) := by decide +kernel
theorem dX11_secondEventOf_15 : decode cX11_secondEventOf 15 = .ok (.invokevirtual 367, 3) := by decide +kernel
theorem dX11_secondEventOf_18 : decode cX11_secondEventOf 18 = .ok (.ireturn, 1) := by decide +kernel
theorem dX11_secondEventOf_19 : decode cX11_secondEventOf 19 = .ok (.aload_n 0, 1) := by decide +kernel
theorem dX11_secondEventOf_20 : decode cX11_secondEventOf 20 = .ok (.getfield 20, 3) := by decide +kernel
theorem dX11_secondEventOf_23 : decode cX11_secondEventOf 23 = .ok (.getfield 68, 3) := by decide +kernel
theorem dX11_secondEventOf_26 : decode cX11_secondEventOf 26 = .ok (.iload_n 1, 1) := by decide +kernel
theorem dX11_secondEventOf_27 : decode cX11_secondEventOf 27 = .ok (.iaload, 1) := by decide +kernel
theorem dX11_secondEventOf_28 : decode cX11_secondEventOf 28 = .ok (.ifCond .ne 11, 3) := by decide +kernel
theorem dX11_secondEventOf_31 : decode cX11_secondEventOf 31 = .ok (.aload_n 0, 1) := by decide +kernel
theorem dX11_secondEventOf_32 : decode cX11_secondEventOf 32 = .ok (.iconst 2, 1) := by decide +kernel
theorem dX11_secondEventOf_33 : decode cX11_secondEventOf 33 = .ok (.invokevirtual 367, 3) := by decide +kernel
theorem dX11_secondEventOf_36 : decode cX11_secondEventOf 36 = .ok (.goto 12, 3) := by decide +kernel
theorem dX11_secondEventOf_39 : decode cX11_secondEventOf 39 = .ok (.aload_n 0, 1) := by decide +kernel
theorem dX11_secondEventOf_40 : decode cX11_secondEventOf 40 = .ok (.getfield 20, 3) := by decide +kernel
theorem dX11_secondEventOf_43 : decode cX11_secondEventOf 43 = .ok (.getfield 79, 3) := by decide +kernel
theorem dX11_secondEventOf_46 : decode cX11_secondEventOf 46 = .ok (.iload_n 1, 1) := by decide +kernel
theorem dX11_secondEventOf_47 : decode cX11_secondEventOf 47 = .ok (.iaload, 1) := by decide +kernel
theorem dX11_secondEventOf_48 : decode cX11_secondEventOf 48 = .ok (.ireturn, 1) := by decide +kernel
theorem dX11_firstHourOf_0 : decode cX11_firstHourOf 0 = .ok (.aload_n 0, 1) := by decide +kernel
theorem dX11_firstHourOf_1 : decode cX11_firstHourOf 1 = .ok (.iconst 0, 1) := by decide +kernel
theorem dX11_firstHourOf_2 : decode cX11_firstHourOf 2 = .ok (.putfield 52, 3) := by decide +kernel
theorem dX11_firstHourOf_5 : decode cX11_firstHourOf 5 = .ok (.aload_n 0, 1) := by decide +kernel
theorem dX11_firstHourOf_6 : decode cX11_firstHourOf 6 = .ok (.iload_n 1, 1) := by decide +kernel
theorem dX11_firstHourOf_7 : decode cX11_firstHourOf 7 = .ok (.invokevirtual 379, 3) := by decide +kernel
theorem dX11_firstHourOf_10 : decode cX11_firstHourOf 10 = .ok (.ifCond .ne 9, 3) := by decide +kernel
theorem dX11_firstHourOf_13 : decode cX11_firstHourOf 13 = .ok (.aload_n 0, 1) := by decide +kernel
theorem dX11_firstHourOf_14 : decode cX11_firstHourOf 14 = .ok (.iconst 1, 1) := by decide +kernel
theorem dX11_firstHourOf_15 : decode cX11_firstHourOf 15 = .ok (.invokevirtual 367, 3) := by decide +kernel
theorem dX11_firstHourOf_18 : decode cX11_firstHourOf 18 = .ok (.ireturn, 1) := by decide +kernel
theorem dX11_firstHourOf_19 : decode cX11_firstHourOf 19 = .ok (.aload_n 0, 1) := by decide +kernel
theorem dX11_firstHourOf_20 : decode cX11_firstHourOf 20 = .ok (.getfield 20, 3) := by decide +kernel
theorem dX11_firstHourOf_23 : decode cX11_firstHourOf 23 = .ok (.getfield 68, 3) := by decide +kernel
theorem dX11_firstHourOf_26 : decode cX11_firstHourOf 26 = .ok (.iload_n 1, 1) := by decide +kernel
theorem dX11_firstHourOf_27 : decode cX11_firstHourOf 27 = .ok (.iaload, 1) := by decide +kernel
theorem dX11_firstHourOf_28 : decode cX11_firstHourOf 28 = .ok (.ifCond .ne 15, 3) := by decide +kernel
theorem dX11_firstHourOf_31 : decode cX11_firstHourOf 31 = .ok (.aload_n 0, 1) := by decide +kernel
theorem dX11_firstHourOf_32 : decode cX11_firstHourOf 32 = .ok (.getfield 20, 3) := by decide +kernel
theorem dX11_firstHourOf_35 : decode cX11_firstHourOf 35 = .ok (.getfield 79, 3) := by decide +kernel
theorem dX11_firstHourOf_38 : decode cX11_firstHourOf 38 = .ok (.iload_n 1, 1) := by decide +kernel
theorem dX11_firstHourOf_39 : decode cX11_firstHourOf 39 = .ok (.iaload, 1) := by decide +kernel
theorem dX11_firstHourOf_40 : decode cX11_firstHourOf 40 = .ok (.goto 8, 3) := by decide +kernel
theorem dX11_firstHourOf_43 : decode cX11_firstHourOf 43 = .ok (.aload_n 0, 1) := by decide +kernel
theorem dX11_firstHourOf_44 : decode cX11_firstHourOf 44 = .ok (.iconst 2, 1) := by decide +kernel
theorem dX11_firstHourOf_45 : decode cX11_firstHourOf 45 = .ok (.invokevirtual 367, 3) := by decide +kernel
theorem dX11_firstHourOf_48 : decode cX11_firstHourOf 48 = .ok (.ireturn, 1) := by decide +kernel
theorem dX11_lastHourOf_0 : decode cX11_lastHourOf 0 = .ok (.aload_n 0, 1) := by decide +kernel
theorem dX11_lastHourOf_1 : decode cX11_lastHourOf 1 = .ok (.iconst 0, 1) := by decide +kernel
theorem dX11_lastHourOf_2 : decode cX11_lastHourOf 2 = .ok (.putfield 52, 3) := by decide +kernel
theorem dX11_lastHourOf_5 : decode cX11_lastHourOf 5 = .ok (.aload_n 0, 1) := by decide +kernel
theorem dX11_lastHourOf_6 : decode cX11_lastHourOf 6 = .ok (.iload_n 1, 1) := by decide +kernel
theorem dX11_lastHourOf_7 : decode cX11_lastHourOf 7 = .ok (.invokevirtual 379, 3) := by decide +kernel
theorem dX11_lastHourOf_10 : decode cX11_lastHourOf 10 = .ok (.ifCond .ne 9, 3) := by decide +kernel
theorem dX11_lastHourOf_13 : decode cX11_lastHourOf 13 = .ok (.aload_n 0, 1) := by decide +kernel
theorem dX11_lastHourOf_14 : decode cX11_lastHourOf 14 = .ok (.iconst 1, 1) := by decide +kernel
theorem dX11_lastHourOf_15 : decode cX11_lastHourOf 15 = .ok (.invokevirtual 367, 3) := by decide +kernel
theorem dX11_lastHourOf_18 : decode cX11_lastHourOf 18 = .ok (.ireturn, 1) := by decide +kernel
theorem dX11_lastHourOf_19 : decode cX11_lastHourOf 19 = .ok (.aload_n 0, 1) := by decide +kernel
theorem dX11_lastHourOf_20 : decode cX11_lastHourOf 20 = .ok (.getfield 20, 3) := by decide +kernel
theorem dX11_lastHourOf_23 : decode cX11_lastHourOf 23 = .ok (.getfield 68, 3) := by decide +kernel
theorem dX11_lastHourOf_26 : decode cX11_lastHourOf 26 = .ok (.iload_n 1, 1) := by decide +kernel
theorem dX11_lastHourOf_27 : decode cX11_lastHourOf 27 = .ok (.iaload, 1) := by decide +kernel
theorem dX11_lastHourOf_28 : decode cX11_lastHourOf 28 = .ok (.ifCond .ne 15, 3) := by decide +kernel
theorem dX11_lastHourOf_31 : decode cX11_lastHourOf 31 = .ok (.aload_n 0, 1) := by decide +kernel
theorem dX11_lastHourOf_32 : decode cX11_lastHourOf 32 = .ok (.getfield 20, 3) := by decide +kernel
theorem dX11_lastHourOf_35 : decode cX11_lastHourOf 35 = .ok (.getfield 76, 3) := by decide +kernel
theorem dX11_lastHourOf_38 : decode cX11_lastHourOf 38 = .ok (.iload_n 1, 1) := by decide +kernel
theorem dX11_lastHourOf_39 : decode cX11_lastHourOf 39 = .ok (.iaload, 1) := by decide +kernel
theorem dX11_lastHourOf_40 : decode cX11_lastHourOf 40 = .ok (.goto 8, 3) := by decide +kernel
theorem dX11_lastHourOf_43 : decode cX11_lastHourOf 43 = .ok (.aload_n 0, 1) := by decide +kernel
theorem dX11_lastHourOf_44 : decode cX11_lastHourOf 44 = .ok (.iconst 2, 1) := by decide +kernel
theorem dX11_lastHourOf_45 : decode cX11_lastHourOf 45 = .ok (.invokevirtual 367, 3) := by decide +kernel
theorem dX11_lastHourOf_48 : decode cX11_lastHourOf 48 = .ok (.ireturn, 1) := by decide +kernel
theorem dX11_areContrary_0 : decode cX11_areContrary 0 = .ok (.aload_n 0, 1) := by decide +kernel
theorem dX11_areContrary_1 : decode cX11_areContrary 1 = .ok (.iconst 0, 1) := by decide +kernel
theorem dX11_areContrary_2 : decode cX11_areContrary 2 = .ok (.putfield 52, 3) := by decide +kernel
theorem dX11_areContrary_5 : decode cX11_areContrary 5 = .ok (.aload_n 0, 1) := by decide +kernel
theorem dX11_areContrary_6 : decode cX11_areContrary 6 = .ok (.iload_n 1, 1) := by decide +kernel
theorem dX11_areContrary_7 : decode cX11_areContrary 7 = .ok (.invokevirtual 379, 3) := by decide +kernel
theorem dX11_areContrary_10 : decode cX11_areContrary 10 = .ok (.ifCond .eq 20, 3) := by decide +kernel
theorem dX11_areContrary_13 : decode cX11_areContrary 13 = .ok (.aload_n 0, 1) := by decide +kernel
theorem dX11_areContrary_14 : decode cX11_areContrary 14 = .ok (.iload_n 2, 1) := by decide +kernel
theorem dX11_areContrary_15 : decode cX11_areContrary 15 = .ok (.invokevirtual 379, 3) := by decide +kernel
theorem dX11_areContrary_18 : decode cX11_areContrary 18 = .ok (.ifCond .eq 12, 3) := by decide +kernel
theorem dX11_areContrary_21 : decode cX11_areContrary 21 = .ok (.aload_n 0, 1) := by decide +kernel
theorem dX11_areContrary_22 : decode cX11_areContrary 22 = .ok (.iload_n 1, 1) := by decide +kernel
theorem dX11_areContrary_23 : decode cX11_areContrary 23 = .ok (.iload_n 2, 1) := by decide +kernel
theorem dX11_areContrary_24 : decode cX11_areContrary 24 = .ok (.invokevirtual 69, 3) := by decide +kernel
theorem dX11_areContrary_27 : decode cX11_areContrary 27 = .ok (.goto 8, 3) := by decide +kernel
theorem dX11_areContrary_30 : decode cX11_areContrary 30 = .ok (.aload_n 0, 1) := by decide +kernel
theorem dX11_areContrary_31 : decode cX11_areContrary 31 = .ok (.iconst 1, 1) := by decide +kernel
theorem dX11_areContrary_32 : decode cX11_areContrary 32 = .ok (.invokevirtual 382, 3) := by decide +kernel
theorem dX11_areContrary_35 : decode cX11_areContrary 35 = .ok (.ireturn, 1) := by decide +kernel
theorem dX11_claimsOf_0 : decode cX11_claimsOf 0 = .ok (.aload_n 0, 1) := by decide +kernel
theorem dX11_claimsOf_1 : decode cX11_claimsOf 1 = .ok (.iconst 0, 1) := by decide +kernel
theorem dX11_claimsOf_2 : decode cX11_claimsOf 2 = .ok (.putfield 52, 3) := by decide +kernel
theorem dX11_claimsOf_5 : decode cX11_claimsOf 5 = .ok (.aload_n 0, 1) := by decide +kernel
theorem dX11_claimsOf_6 : decode cX11_claimsOf 6 = .ok (.iload_n 1, 1) := by decide +kernel
theorem dX11_claimsOf_7 : decode cX11_claimsOf 7 = .ok (.invokevirtual 385, 3) := by decide +kernel
theorem dX11_claimsOf_10 : decode cX11_claimsOf 10 = .ok (.ifCond .eq 11, 3) := by decide +kernel
theorem dX11_claimsOf_13 : decode cX11_claimsOf 13 = .ok (.aload_n 0, 1) := by decide +kernel
theorem dX11_claimsOf_14 : decode cX11_claimsOf 14 = .ok (.iload_n 1, 1) := by decide +kernel
theorem dX11_claimsOf_15 : decode cX11_claimsOf 15 = .ok (.invokevirtual 169, 3) := by decide +kernel
theorem dX11_claimsOf_18 : decode cX11_claimsOf 18 = .ok (.goto 8, 3) := by decide +kernel
theorem dX11_claimsOf_21 : decode cX11_claimsOf 21 = .ok (.aload_n 0, 1) := by decide +kernel
theorem dX11_claimsOf_22 : decode cX11_claimsOf 22 = .ok (.iconst 1, 1) := by decide +kernel
theorem dX11_claimsOf_23 : decode cX11_claimsOf 23 = .ok (.invokevirtual 367, 3) := by decide +kernel
theorem dX11_claimsOf_26 : decode cX11_claimsOf 26 = .ok (.ireturn, 1) := by decide +kernel
theorem dX11_isDoubted_0 : decode cX11_isDoubted 0 = .ok (.aload_n 0, 1) := by decide +kernel
theorem dX11_isDoubted_1 : decode cX11_isDoubted 1 = .ok (.iconst 0, 1) := by decide +kernel
theorem dX11_isDoubted_2 : decode cX11_isDoubted 2 = .ok (.putfield 52, 3) := by decide +kernel
theorem dX11_isDoubted_5 : decode cX11_isDoubted 5 = .ok (.aload_n 0, 1) := by decide +kernel
theorem dX11_isDoubted_6 : decode cX11_isDoubted 6 = .ok (.iload_n 1, 1) := by decide +kernel
theorem dX11_isDoubted_7 : decode cX11_isDoubted 7 = .ok (.invokevirtual 385, 3) := by decide +kernel
theorem dX11_isDoubted_10 : decode cX11_isDoubted 10 = .ok (.ifCond .eq 14, 3) := by decide +kernel
theorem dX11_isDoubted_13 : decode cX11_isDoubted 13 = .ok (.aload_n 0, 1) := by decide +kernel
theorem dX11_isDoubted_14 : decode cX11_isDoubted 14 = .ok (.getfield 85, 3) := by decide +kernel
theorem dX11_isDoubted_17 : decode cX11_isDoubted 17 = .ok (.iload_n 1, 1) := by decide +kernel
theorem dX11_isDoubted_18 : decode cX11_isDoubted 18 = .ok (.invokestatic 88, 3) := by decide +kernel
theorem dX11_isDoubted_21 : decode cX11_isDoubted 21 = .ok (.goto 8, 3) := by decide +kernel
theorem dX11_isDoubted_24 : decode cX11_isDoubted 24 = .ok (.aload_n 0, 1) := by decide +kernel
theorem dX11_isDoubted_25 : decode cX11_isDoubted 25 = .ok (.iconst 1, 1) := by decide +kernel
theorem dX11_isDoubted_26 : decode cX11_isDoubted 26 = .ok (.invokevirtual 382, 3) := by decide +kernel
theorem dX11_isDoubted_29 : decode cX11_isDoubted 29 = .ok (.ireturn, 1) := by decide +kernel
theorem dX11_doContradict_0 : decode cX11_doContradict 0 = .ok (.aload_n 0, 1) := by decide +kernel
theorem dX11_doContradict_1 : decode cX11_doContradict 1 = .ok (.iconst 0, 1) := by decide +kernel
theorem dX11_doContradict_2 : decode cX11_doContradict 2 = .ok (.putfield 52, 3) := by decide +kernel
theorem dX11_doContradict_5 : decode cX11_doContradict 5 = .ok (.aload_n 0, 1) := by decide +kernel
theorem dX11_doContradict_6 : decode cX11_doContradict 6 = .ok (.iload_n 1, 1) := by decide +kernel
theorem dX11_doContradict_7 : decode cX11_doContradict 7 = .ok (.invokevirtual 385, 3) := by decide +kernel
theorem dX11_doContradict_10 : decode cX11_doContradict 10 = .ok (.ifCond .eq 20, 3) := by decide +kernel
theorem dX11_doContradict_13 : decode cX11_doContradict 13 = .ok (.aload_n 0, 1) := by decide +kernel
theorem dX11_doContradict_14 : decode cX11_doContradict 14 = .ok (.iload_n 2, 1) := by decide +kernel
theorem dX11_doContradict_15 : decode cX11_doContradict 15 = .ok (.invokevirtual 385, 3) := by decide +kernel
theorem dX11_doContradict_18 : decode cX11_doContradict 18 = .ok (.ifCond .eq 12, 3) := by decide +kernel
theorem dX11_doContradict_21 : decode cX11_doContradict 21 = .ok (.aload_n 0, 1) := by decide +kernel
theorem dX11_doContradict_22 : decode cX11_doContradict 22 = .ok (.iload_n 1, 1) := by decide +kernel
theorem dX11_doContradict_23 : decode cX11_doContradict 23 = .ok (.iload_n 2, 1) := by decide +kernel
theorem dX11_doContradict_24 : decode cX11_doContradict 24 = .ok (.invokevirtual 175, 3) := by decide +kernel
theorem dX11_doContradict_27 : decode cX11_doContradict 27 = .ok (.goto 8, 3) := by decide +kernel
theorem dX11_doContradict_30 : decode cX11_doContradict 30 = .ok (.aload_n 0, 1) := by decide +kernel
theorem dX11_doContradict_31 : decode cX11_doContradict 31 = .ok (.iconst 1, 1) := by decide +kernel
theorem dX11_doContradict_32 : decode cX11_doContradict 32 = .ok (.invokevirtual 382, 3) := by decide +kernel
theorem dX11_doContradict_35 : decode cX11_doContradict 35 = .ok (.ireturn, 1) := by decide +kernel
theorem dX11_contraryPairs_0 : decode cX11_contraryPairs 0 = .ok (.aload_n 0, 1) := by decide +kernel
theorem dX11_contraryPairs_1 : decode cX11_contraryPairs 1 = .ok (.iconst 0, 1) := by decide +kernel
theorem dX11_contraryPairs_2 : decode cX11_contraryPairs 2 = .ok (.putfield 52, 3) := by decide +kernel
theorem dX11_contraryPairs_5 : decode cX11_contraryPairs 5 = .ok (.aload_n 0, 1) := by decide +kernel
theorem dX11_contraryPairs_6 : decode cX11_contraryPairs 6 = .ok (.iload_n 1, 1) := by decide +kernel
theorem dX11_contraryPairs_7 : decode cX11_contraryPairs 7 = .ok (.invokevirtual 385, 3) := by decide +kernel
theorem dX11_contraryPairs_10 : decode cX11_contraryPairs 10 = .ok (.ifCond .eq 20, 3) := by decide +kernel
theorem dX11_contraryPairs_13 : decode cX11_contraryPairs 13 = .ok (.aload_n 0, 1) := by decide +kernel
theorem dX11_contraryPairs_14 : decode cX11_contraryPairs 14 = .ok (.iload_n 2, 1) := by decide +kernel
theorem dX11_contraryPairs_15 : decode cX11_contraryPairs 15 = .ok (.invokevirtual 385, 3) := by decide +kernel
theorem dX11_contraryPairs_18 : decode cX11_contraryPairs 18 = .ok (.ifCond .eq 12, 3) := by decide +kernel
theorem dX11_contraryPairs_21 : decode cX11_contraryPairs 21 = .ok (.aload_n 0, 1) := by decide +kernel
theorem dX11_contraryPairs_22 : decode cX11_contraryPairs 22 = .ok (.iload_n 1, 1) := by decide +kernel
theorem dX11_contraryPairs_23 : decode cX11_contraryPairs 23 = .ok (.iload_n 2, 1) := by decide +kernel
theorem dX11_contraryPairs_24 : decode cX11_contraryPairs 24 = .ok (.invokevirtual 388, 3) := by decide +kernel
theorem dX11_contraryPairs_27 : decode cX11_contraryPairs 27 = .ok (.goto 8, 3) := by decide +kernel
theorem dX11_contraryPairs_30 : decode cX11_contraryPairs 30 = .ok (.aload_n 0, 1) := by decide +kernel
theorem dX11_contraryPairs_31 : decode cX11_contraryPairs 31 = .ok (.iconst 1, 1) := by decide +kernel
theorem dX11_contraryPairs_32 : decode cX11_contraryPairs 32 = .ok (.invokevirtual 367, 3) := by decide +kernel
theorem dX11_contraryPairs_35 : decode cX11_contraryPairs 35 = .ok (.ireturn, 1) := by decide +kernel
theorem dX11_contradictions_0 : decode cX11_contradictions 0 = .ok (.aload_n 0, 1) := by decide +kernel
theorem dX11_contradictions_1 : decode cX11_contradictions 1 = .ok (.aload_n 0, 1) := by decide +kernel
theorem dX11_contradictions_2 : decode cX11_contradictions 2 = .ok (.aload_n 0, 1) := by decide +kernel
theorem dX11_contradictions_3 : decode cX11_contradictions 3 = .ok (.invokevirtual 91, 3) := by decide +kernel
theorem dX11_contradictions_6 : decode cX11_contradictions 6 = .ok (.invokevirtual 162, 3) := by decide +kernel
theorem dX11_contradictions_9 : decode cX11_contradictions 9 = .ok (.invokevirtual 376, 3) := by decide +kernel
theorem dX11_contradictions_12 : decode cX11_contradictions 12 = .ok (.ireturn, 1) := by decide +kernel
theorem dX11_liars_0 : decode cX11_liars 0 = .ok (.aload_n 0, 1) := by decide +kernel
theorem dX11_liars_1 : decode cX11_liars 1 = .ok (.aload_n 0, 1) := by decide +kernel
theorem dX11_liars_2 : decode cX11_liars 2 = .ok (.invokevirtual 159, 3) := by decide +kernel
theorem dX11_liars_5 : decode cX11_liars 5 = .ok (.invokevirtual 376, 3) := by decide +kernel
theorem dX11_liars_8 : decode cX11_liars 8 = .ok (.ireturn, 1) := by decide +kernel
theorem dX11_smallestSets_0 : decode cX11_smallestSets 0 = .ok (.aload_n 0, 1) := by decide +kernel
theorem dX11_smallestSets_1 : decode cX11_smallestSets 1 = .ok (.iconst 0, 1) := by decide +kernel
theorem dX11_smallestSets_2 : decode cX11_smallestSets 2 = .ok (.putfield 52, 3) := by decide +kernel
theorem dX11_smallestSets_5 : decode cX11_smallestSets 5 = .ok (.aload_n 0, 1) := by decide +kernel
theorem dX11_smallestSets_6 : decode cX11_smallestSets 6 = .ok (.invokevirtual 116, 3) := by decide +kernel
theorem dX11_smallestSets_9 : decode cX11_smallestSets 9 = .ok (.aload_n 0, 1) := by decide +kernel
theorem dX11_smallestSets_10 : decode cX11_smallestSets 10 = .ok (.getfield 107, 3) := by decide +kernel
theorem dX11_smallestSets_13 : decode cX11_smallestSets 13 = .ok (.ireturn, 1) := by decide +kernel
theorem dX11_isLiar_0 : decode cX11_isLiar 0 = .ok (.aload_n 0, 1) := by decide +kernel
theorem dX11_isLiar_1 : decode cX11_isLiar 1 = .ok (.iconst 0, 1) := by decide +kernel
theorem dX11_isLiar_2 : decode cX11_isLiar 2 = .ok (.putfield 52, 3) := by decide +kernel
theorem dX11_isLiar_5 : decode cX11_isLiar 5 = .ok (.aload_n 0, 1) := by decide +kernel
theorem dX11_isLiar_6 : decode cX11_isLiar 6 = .ok (.iload_n 1, 1) := by decide +kernel
theorem dX11_isLiar_7 : decode cX11_isLiar 7 = .ok (.invokevirtual 385, 3) := by decide +kernel
theorem dX11_isLiar_10 : decode cX11_isLiar 10 = .ok (.ifCond .eq 11, 3) := by decide +kernel
theorem dX11_isLiar_13 : decode cX11_isLiar 13 = .ok (.aload_n 0, 1) := by decide +kernel
theorem dX11_isLiar_14 : decode cX11_isLiar 14 = .ok (.iload_n 1, 1) := by decide +kernel
theorem dX11_isLiar_15 : decode cX11_isLiar 15 = .ok (.invokevirtual 178, 3) := by decide +kernel
theorem dX11_isLiar_18 : decode cX11_isLiar 18 = .ok (.goto 8, 3) := by decide +kernel
theorem dX11_isLiar_21 : decode cX11_isLiar 21 = .ok (.aload_n 0, 1) := by decide +kernel
theorem dX11_isLiar_22 : decode cX11_isLiar 22 = .ok (.iconst 1, 1) := by decide +kernel
theorem dX11_isLiar_23 : decode cX11_isLiar 23 = .ok (.invokevirtual 382, 3) := by decide +kernel
theorem dX11_isLiar_26 : decode cX11_isLiar 26 = .ok (.ireturn, 1) := by decide +kernel
theorem dX11_isAgreed_0 : decode cX11_isAgreed 0 = .ok (.aload_n 0, 1) := by decide +kernel
theorem dX11_isAgreed_1 : decode cX11_isAgreed 1 = .ok (.iconst 0, 1) := by decide +kernel
theorem dX11_isAgreed_2 : decode cX11_isAgreed 2 = .ok (.putfield 52, 3) := by decide +kernel
theorem dX11_isAgreed_5 : decode cX11_isAgreed 5 = .ok (.aload_n 0, 1) := by decide +kernel
theorem dX11_isAgreed_6 : decode cX11_isAgreed 6 = .ok (.iload_n 1, 1) := by decide +kernel
theorem dX11_isAgreed_7 : decode cX11_isAgreed 7 = .ok (.invokevirtual 391, 3) := by decide +kernel
theorem dX11_isAgreed_10 : decode cX11_isAgreed 10 = .ok (.ifCond .eq 19, 3) := by decide +kernel
theorem dX11_isAgreed_13 : decode cX11_isAgreed 13 = .ok (.aload_n 0, 1) := by decide +kernel
theorem dX11_isAgreed_14 : decode cX11_isAgreed 14 = .ok (.iload_n 1, 1) := by decide +kernel
theorem dX11_isAgreed_15 : decode cX11_isAgreed 15 = .ok (.invokevirtual 172, 3) := by decide +kernel
theorem dX11_isAgreed_18 : decode cX11_isAgreed 18 = .ok (.ifCond .le 7, 3) := by decide +kernel
theorem dX11_isAgreed_21 : decode cX11_isAgreed 21 = .ok (.iconst 1, 1) := by decide +kernel
theorem dX11_isAgreed_22 : decode cX11_isAgreed 22 = .ok (.goto 12, 3) := by decide +kernel
theorem dX11_isAgreed_25 : decode cX11_isAgreed 25 = .ok (.iconst 0, 1) := by decide +kernel
theorem dX11_isAgreed_26 : decode cX11_isAgreed 26 = .ok (.goto 8, 3) := by decide +kernel
theorem dX11_isAgreed_29 : decode cX11_isAgreed 29 = .ok (.aload_n 0, 1) := by decide +kernel
theorem dX11_isAgreed_30 : decode cX11_isAgreed 30 = .ok (.iconst 1, 1) := by decide +kernel
theorem dX11_isAgreed_31 : decode cX11_isAgreed 31 = .ok (.invokevirtual 382, 3) := by decide +kernel
theorem dX11_isAgreed_34 : decode cX11_isAgreed 34 = .ok (.ireturn, 1) := by decide +kernel
theorem dX11_windowFrom_0 : decode cX11_windowFrom 0 = .ok (.aload_n 0, 1) := by decide +kernel
theorem dX11_windowFrom_1 : decode cX11_windowFrom 1 = .ok (.iconst 0, 1) := by decide +kernel
theorem dX11_windowFrom_2 : decode cX11_windowFrom 2 = .ok (.putfield 52, 3) := by decide +kernel
theorem dX11_windowFrom_5 : decode cX11_windowFrom 5 = .ok (.aload_n 0, 1) := by decide +kernel
theorem dX11_windowFrom_6 : decode cX11_windowFrom 6 = .ok (.iload_n 1, 1) := by decide +kernel
theorem dX11_windowFrom_7 : decode cX11_windowFrom 7 = .ok (.invokevirtual 391, 3) := by decide +kernel
theorem dX11_windowFrom_10 : decode cX11_windowFrom 10 = .ok (.ifCond .ne 9, 3) := by decide +kernel
theorem dX11_windowFrom_13 : decode cX11_windowFrom 13 = .ok (.aload_n 0, 1) := by decide +kernel
theorem dX11_windowFrom_14 : decode cX11_windowFrom 14 = .ok (.iconst 1, 1) := by decide +kernel
theorem dX11_windowFrom_15 : decode cX11_windowFrom 15 = .ok (.invokevirtual 367, 3) := by decide +kernel
theorem dX11_windowFrom_18 : decode cX11_windowFrom 18 = .ok (.ireturn, 1) := by decide +kernel
theorem dX11_windowFrom_19 : decode cX11_windowFrom 19 = .ok (.aload_n 0, 1) := by decide +kernel
theorem dX11_windowFrom_20 : decode cX11_windowFrom 20 = .ok (.iload_n 1, 1) := by decide +kernel
theorem dX11_windowFrom_21 : decode cX11_windowFrom 21 = .ok (.invokevirtual 172, 3) := by decide +kernel
theorem dX11_windowFrom_24 : decode cX11_windowFrom 24 = .ok (.ifCond .le 11, 3) := by decide +kernel
theorem dX11_windowFrom_27 : decode cX11_windowFrom 27 = .ok (.aload_n 0, 1) := by decide +kernel
theorem dX11_windowFrom_28 : decode cX11_windowFrom 28 = .ok (.iload_n 1, 1) := by decide +kernel
theorem dX11_windowFrom_29 : decode cX11_windowFrom 29 = .ok (.invokevirtual 131, 3) := by decide +kernel
theorem dX11_windowFrom_32 : decode cX11_windowFrom 32 = .ok (.goto 8, 3) := by decide +kernel
theorem dX11_windowFrom_35 : decode cX11_windowFrom 35 = .ok (.aload_n 0, 1) := by decide +kernel
theorem dX11_windowFrom_36 : decode cX11_windowFrom 36 = .ok (.iconst 2, 1) := by decide +kernel
theorem dX11_windowFrom_37 : decode cX11_windowFrom 37 = .ok (.invokevirtual 367, 3) := by decide +kernel
theorem dX11_windowFrom_40 : decode cX11_windowFrom 40 = .ok (.ireturn, 1) := by decide +kernel
theorem dX11_windowTo_0 : decode cX11_windowTo 0 = .ok (.aload_n 0, 1) := by decide +kernel
theorem dX11_windowTo_1 : decode cX11_windowTo 1 = .ok (.iconst 0, 1) := by decide +kernel
theorem dX11_windowTo_2 : decode cX11_windowTo 2 = .ok (.putfield 52, 3) := by decide +kernel
theorem dX11_windowTo_5 : decode cX11_windowTo 5 = .ok (.aload_n 0, 1) := by decide +kernel
theorem dX11_windowTo_6 : decode cX11_windowTo 6 = .ok (.iload_n 1, 1) := by decide +kernel
theorem dX11_windowTo_7 : decode cX11_windowTo 7 = .ok (.invokevirtual 391, 3) := by decide +kernel
theorem dX11_windowTo_10 : decode cX11_windowTo 10 = .ok (.ifCond .ne 9, 3) := by decide +kernel
theorem dX11_windowTo_13 : decode cX11_windowTo 13 = .ok (.aload_n 0, 1) := by decide +kernel
theorem dX11_windowTo_14 : decode cX11_windowTo 14 = .ok (.iconst 1, 1) := by decide +kernel
theorem dX11_windowTo_15 : decode cX11_windowTo 15 = .ok (.invokevirtual 367, 3) := by decide +kernel
theorem dX11_windowTo_18 : decode cX11_windowTo 18 = .ok (.ireturn, 1) := by decide +kernel
theorem dX11_windowTo_19 : decode cX11_windowTo 19 = .ok (.aload_n 0, 1) := by decide +kernel
theorem dX11_windowTo_20 : decode cX11_windowTo 20 = .ok (.iload_n 1, 1) := by decide +kernel
theorem dX11_windowTo_21 : decode cX11_windowTo 21 = .ok (.invokevirtual 172, 3) := by decide +kernel
theorem dX11_windowTo_24 : decode cX11_windowTo 24 = .ok (.ifCond .le 11, 3) := by decide +kernel
theorem dX11_windowTo_27 : decode cX11_windowTo 27 = .ok (.aload_n 0, 1) := by decide +kernel
theorem dX11_windowTo_28 : decode cX11_windowTo 28 = .ok (.iload_n 1, 1) := by decide +kernel
theorem dX11_windowTo_29 : decode cX11_windowTo 29 = .ok (.invokevirtual 128, 3) := by decide +kernel
theorem dX11_windowTo_32 : decode cX11_windowTo 32 = .ok (.goto 8, 3) := by decide +kernel
theorem dX11_windowTo_35 : decode cX11_windowTo 35 = .ok (.aload_n 0, 1) := by decide +kernel
theorem dX11_windowTo_36 : decode cX11_windowTo 36 = .ok (.iconst 2, 1) := by decide +kernel
theorem dX11_windowTo_37 : decode cX11_windowTo 37 = .ok (.invokevirtual 367, 3) := by decide +kernel
theorem dX11_windowTo_40 : decode cX11_windowTo 40 = .ok (.ireturn, 1) := by decide +kernel
theorem dX11_hasOrder_0 : decode cX11_hasOrder 0 = .ok (.aload_n 0, 1) := by decide +kernel
theorem dX11_hasOrder_1 : decode cX11_hasOrder 1 = .ok (.iconst 0, 1) := by decide +kernel
theorem dX11_hasOrder_2 : decode cX11_hasOrder 2 = .ok (.putfield 52, 3) := by decide +kernel
theorem dX11_hasOrder_5 : decode cX11_hasOrder 5 = .ok (.aload_n 0, 1) := by decide +kernel
theorem dX11_hasOrder_6 : decode cX11_hasOrder 6 = .ok (.invokevirtual 394, 3) := by decide +kernel
theorem dX11_hasOrder_9 : decode cX11_hasOrder 9 = .ok (.ireturn, 1) := by decide +kernel
theorem dX11_eventAt_0 : decode cX11_eventAt 0 = .ok (.aload_n 0, 1) := by decide +kernel
theorem dX11_eventAt_1 : decode cX11_eventAt 1 = .ok (.iconst 0, 1) := by decide +kernel
theorem dX11_eventAt_2 : decode cX11_eventAt 2 = .ok (.putfield 52, 3) := by decide +kernel
theorem dX11_eventAt_5 : decode cX11_eventAt 5 = .ok (.aload_n 0, 1) := by decide +kernel
theorem dX11_eventAt_6 : decode cX11_eventAt 6 = .ok (.iload_n 1, 1) := by decide +kernel
theorem dX11_eventAt_7 : decode cX11_eventAt 7 = .ok (.invokevirtual 391, 3) := by decide +kernel
theorem dX11_eventAt_10 : decode cX11_eventAt 10 = .ok (.ifCond .ne 9, 3) := by decide +kernel
theorem dX11_eventAt_13 : decode cX11_eventAt 13 = .ok (.aload_n 0, 1) := by decide +kernel
theorem dX11_eventAt_14 : decode cX11_eventAt 14 = .ok (.iconst 1, 1) := by decide +kernel
theorem dX11_eventAt_15 : decode cX11_eventAt 15 = .ok (.invokevirtual 367, 3) := by decide +kernel
theorem dX11_eventAt_18 : decode cX11_eventAt 18 = .ok (.ireturn, 1) := by decide +kernel
theorem dX11_eventAt_19 : decode cX11_eventAt 19 = .ok (.aload_n 0, 1) := by decide +kernel
theorem dX11_eventAt_20 : decode cX11_eventAt 20 = .ok (.invokevirtual 394, 3) := by decide +kernel
theorem dX11_eventAt_23 : decode cX11_eventAt 23 = .ok (.ifCond .eq 12, 3) := by decide +kernel
theorem dX11_eventAt_26 : decode cX11_eventAt 26 = .ok (.aload_n 0, 1) := by decide +kernel
theorem dX11_eventAt_27 : decode cX11_eventAt 27 = .ok (.getfield 46, 3) := by decide +kernel
theorem dX11_eventAt_30 : decode cX11_eventAt 30 = .ok (.iload_n 1, 1) := by decide +kernel
theorem dX11_eventAt_31 : decode cX11_eventAt 31 = .ok (.iaload, 1) := by decide +kernel
theorem dX11_eventAt_32 : decode cX11_eventAt 32 = .ok (.goto 8, 3) := by decide +kernel
theorem dX11_eventAt_35 : decode cX11_eventAt 35 = .ok (.aload_n 0, 1) := by decide +kernel
theorem dX11_eventAt_36 : decode cX11_eventAt 36 = .ok (.iconst 2, 1) := by decide +kernel
theorem dX11_eventAt_37 : decode cX11_eventAt 37 = .ok (.invokevirtual 367, 3) := by decide +kernel
theorem dX11_eventAt_40 : decode cX11_eventAt 40 = .ok (.ireturn, 1) := by decide +kernel
theorem dX11_claim_0 : decode cX11_claim 0 = .ok (.aload_n 0, 1) := by decide +kernel
theorem dX11_claim_1 : decode cX11_claim 1 = .ok (.getfield 20, 3) := by decide +kernel
theorem dX11_claim_4 : decode cX11_claim 4 = .ok (.getfield 65, 3) := by decide +kernel
theorem dX11_claim_7 : decode cX11_claim 7 = .ok (.bipush 40, 2) := by decide +kernel
theorem dX11_claim_9 : decode cX11_claim 9 = .ok (.if_icmp .ne 9, 3) := by decide +kernel
theorem dX11_claim_12 : decode cX11_claim 12 = .ok (.aload_n 0, 1) := by decide +kernel
theorem dX11_claim_13 : decode cX11_claim 13 = .ok (.iconst 3, 1) := by decide +kernel
theorem dX11_claim_14 : decode cX11_claim 14 = .ok (.invokevirtual 367, 3) := by decide +kernel
theorem dX11_claim_17 : decode cX11_claim 17 = .ok (.ireturn, 1) := by decide +kernel
theorem dX11_claim_18 : decode cX11_claim 18 = .ok (.aload_n 0, 1) := by decide +kernel
theorem dX11_claim_19 : decode cX11_claim 19 = .ok (.getfield 20, 3) := by decide +kernel
theorem dX11_claim_22 : decode cX11_claim 22 = .ok (.getfield 65, 3) := by decide +kernel
theorem dX11_claim_25 : decode cX11_claim 25 = .ok (.istore 6, 2) := by decide +kernel
theorem dX11_claim_27 : decode cX11_claim 27 = .ok (.aload_n 0, 1) := by decide +kernel
theorem dX11_claim_28 : decode cX11_claim 28 = .ok (.getfield 20, 3) := by decide +kernel
theorem dX11_claim_31 : decode cX11_claim 31 = .ok (.dup, 1) := by decide +kernel
theorem dX11_claim_32 : decode cX11_claim 32 = .ok (.getfield 65, 3) := by decide +kernel
theorem dX11_claim_35 : decode cX11_claim 35 = .ok (.iconst 1, 1) := by decide +kernel
theorem dX11_claim_36 : decode cX11_claim 36 = .ok (.iadd, 1) := by decide +kernel
theorem dX11_claim_37 : decode cX11_claim 37 = .ok (.putfield 65, 3) := by decide +kernel
theorem dX11_claim_40 : decode cX11_claim 40 = .ok (.aload_n 0, 1) := by decide +kernel
theorem dX11_claim_41 : decode cX11_claim 41 = .ok (.getfield 20, 3) := by decide +kernel
theorem dX11_claim_44 : decode cX11_claim 44 = .ok (.getfield 68, 3) := by decide +kernel
theorem dX11_claim_47 : decode cX11_claim 47 = .ok (.iload 6, 2) := by decide +kernel
theorem dX11_claim_49 : decode cX11_claim 49 = .ok (.iload_n 1, 1) := by decide +kernel
theorem dX11_claim_50 : decode cX11_claim 50 = .ok (.iastore, 1) := by decide +kernel
theorem dX11_claim_51 : decode cX11_claim 51 = .ok (.aload_n 0, 1) := by decide +kernel
theorem dX11_claim_52 : decode cX11_claim 52 = .ok (.getfield 20, 3) := by decide +kernel
theorem dX11_claim_55 : decode cX11_claim 55 = .ok (.getfield 82, 3) := by decide +kernel
theorem dX11_claim_58 : decode cX11_claim 58 = .ok (.iload 6, 2) := by decide +kernel
theorem dX11_claim_60 : decode cX11_claim 60 = .ok (.iload_n 2, 1) := by decide +kernel
theorem dX11_claim_61 : decode cX11_claim 61 = .ok (.iastore, 1) := by decide +kernel
theorem dX11_claim_62 : decode cX11_claim 62 = .ok (.aload_n 0, 1) := by decide +kernel
theorem dX11_claim_63 : decode cX11_claim 63 = .ok (.getfield 20, 3) := by decide +kernel
theorem dX11_claim_66 : decode cX11_claim 66 = .ok (.getfield 73, 3) := by decide +kernel
theorem dX11_claim_69 : decode cX11_claim 69 = .ok (.iload 6, 2) := by decide +kernel
theorem dX11_claim_71 : decode cX11_claim 71 = .ok (.iload_n 3, 1) := by decide +kernel
theorem dX11_claim_72 : decode cX11_claim 72 = .ok (.iastore, 1) := by decide +kernel
theorem dX11_claim_73 : decode cX11_claim 73 = .ok (.aload_n 0, 1) := by decide +kernel
theorem dX11_claim_74 : decode cX11_claim 74 = .ok (.getfield 20, 3) := by decide +kernel
theorem dX11_claim_77 : decode cX11_claim 77 = .ok (.getfield 79, 3) := by decide +kernel
theorem dX11_claim_80 : decode cX11_claim 80 = .ok (.iload 6, 2) := by decide +kernel
theorem dX11_claim_82 : decode cX11_claim 82 = .ok (.iload 4, 2) := by decide +kernel
theorem dX11_claim_84 : decode cX11_claim 84 = .ok (.iastore, 1) := by decide +kernel
theorem dX11_claim_85 : decode cX11_claim 85 = .ok (.aload_n 0, 1) := by decide +kernel
theorem dX11_claim_86 : decode cX11_claim 86 = .ok (.getfield 20, 3) := by decide +kernel
theorem dX11_claim_89 : decode cX11_claim 89 = .ok (.getfield 76, 3) := by decide +kernel
theorem dX11_claim_92 : decode cX11_claim 92 = .ok (.iload 6, 2) := by decide +kernel
theorem dX11_claim_94 : decode cX11_claim 94 = .ok (.iload 5, 2) := by decide +kernel
theorem dX11_claim_96 : decode cX11_claim 96 = .ok (.iastore, 1) := by decide +kernel
theorem dX11_claim_97 : decode cX11_claim 97 = .ok (.aload_n 0, 1) := by decide +kernel
theorem dX11_claim_98 : decode cX11_claim 98 = .ok (.invokevirtual 373, 3) := by decide +kernel
theorem dX11_claim_101 : decode cX11_claim 101 = .ok (.iload 6, 2) := by decide +kernel
theorem dX11_claim_103 : decode cX11_claim 103 = .ok (.ireturn, 1) := by decide +kernel
theorem dX11_claimHours_0 : decode cX11_claimHours 0 = .ok (.aload_n 0, 1) := by decide +kernel
theorem dX11_claimHours_1 : decode cX11_claimHours 1 = .ok (.iconst 0, 1) := by decide +kernel
theorem dX11_claimHours_2 : decode cX11_claimHours 2 = .ok (.putfield 52, 3) := by decide +kernel
theorem dX11_claimHours_5 : decode cX11_claimHours 5 = .ok (.aload_n 0, 1) := by decide +kernel
theorem dX11_claimHours_6 : decode cX11_claimHours 6 = .ok (.iload_n 1, 1) := by decide +kernel
theorem dX11_claimHours_7 : decode cX11_claimHours 7 = .ok (.invokevirtual 385, 3) := by decide +kernel
theorem dX11_claimHours_10 : decode cX11_claimHours 10 = .ok (.ifCond .eq 11, 3) := by decide +kernel
theorem dX11_claimHours_13 : decode cX11_claimHours 13 = .ok (.aload_n 0, 1) := by decide +kernel
theorem dX11_claimHours_14 : decode cX11_claimHours 14 = .ok (.iload_n 2, 1) := by decide +kernel
theorem dX11_claimHours_15 : decode cX11_claimHours 15 = .ok (.invokevirtual 391, 3) := by decide +kernel
theorem dX11_claimHours_18 : decode cX11_claimHours 18 = .ok (.ifCond .ne 9, 3) := by decide +kernel
theorem dX11_claimHours_21 : decode cX11_claimHours 21 = .ok (.aload_n 0, 1) := by decide +kernel
theorem dX11_claimHours_22 : decode cX11_claimHours 22 = .ok (.iconst 1, 1) := by decide +kernel
theorem dX11_claimHours_23 : decode cX11_claimHours 23 = .ok (.invokevirtual 367, 3) := by decide +kernel
theorem dX11_claimHours_26 : decode cX11_claimHours 26 = .ok (.ireturn, 1) := by decide +kernel
theorem dX11_claimHours_27 : decode cX11_claimHours 27 = .ok (.iload_n 3, 1) := by decide +kernel
theorem dX11_claimHours_28 : decode cX11_claimHours 28 = .ok (.ifCond .lt 16, 3) := by decide +kernel
theorem dX11_claimHours_31 : decode cX11_claimHours 31 = .ok (.iload 4, 2) := by decide +kernel
theorem dX11_claimHours_33 : decode cX11_claimHours 33 = .ok (.bipush 99, 2) := by decide +kernel
theorem dX11_claimHours_35 : decode cX11_claimHours 35 = .ok (.if_icmp .gt 9, 3) := by decide +kernel
theorem dX11_claimHours_38 : decode cX11_claimHours 38 = .ok (.iload 4, 2) := by decide +kernel
theorem dX11_claimHours_40 : decode cX11_claimHours 40 = .ok (.iload_n 3, 1) := by decide +kernel
theorem dX11_claimHours_41 : decode cX11_claimHours 41 = .ok (.if_icmp .ge 11, 3) := by decide +kernel
theorem dX11_claimHours_44 : decode cX11_claimHours 44 = .ok (.aload_n 0, 1) := by decide +kernel
theorem dX11_claimHours_45 : decode cX11_claimHours 45 = .ok (.iconst 2, 1) := by decide +kernel
theorem dX11_claimHours_46 : decode cX11_claimHours 46 = .ok (.invokevirtual 367, 3) := by decide +kernel
theorem dX11_claimHours_49 : decode cX11_claimHours 49 = .ok (.goto 13, 3) := by decide +kernel
theorem dX11_claimHours_52 : decode cX11_claimHours 52 = .ok (.aload_n 0, 1) := by decide +kernel
theorem dX11_claimHours_53 : decode cX11_claimHours 53 = .ok (.iconst 0, 1) := by decide +kernel
theorem dX11_claimHours_54 : decode cX11_claimHours 54 = .ok (.iload_n 1, 1) := by decide +kernel
theorem dX11_claimHours_55 : decode cX11_claimHours 55 = .ok (.iload_n 2, 1) := by decide +kernel
theorem dX11_claimHours_56 : decode cX11_claimHours 56 = .ok (.iload_n 3, 1) := by decide +kernel
theorem dX11_claimHours_57 : decode cX11_claimHours 57 = .ok (.iload 4, 2) := by decide +kernel
theorem dX11_claimHours_59 : decode cX11_claimHours 59 = .ok (.invokevirtual 397, 3) := by decide +kernel
theorem dX11_claimHours_62 : decode cX11_claimHours 62 = .ok (.ireturn, 1) := by decide +kernel
theorem dX11_claimOfTwo_0 : decode cX11_claimOfTwo 0 = .ok (.aload_n 0, 1) := by decide +kernel
theorem dX11_claimOfTwo_1 : decode cX11_claimOfTwo 1 = .ok (.iconst 0, 1) := by decide +kernel
theorem dX11_claimOfTwo_2 : decode cX11_claimOfTwo 2 = .ok (.putfield 52, 3) := by decide +kernel
theorem dX11_claimOfTwo_5 : decode cX11_claimOfTwo 5 = .ok (.aload_n 0, 1) := by decide +kernel
theorem dX11_claimOfTwo_6 : decode cX11_claimOfTwo 6 = .ok (.iload_n 2, 1) := by decide +kernel
theorem dX11_claimOfTwo_7 : decode cX11_claimOfTwo 7 = .ok (.invokevirtual 385, 3) := by decide +kernel
theorem dX11_claimOfTwo_10 : decode cX11_claimOfTwo 10 = .ok (.ifCond .eq 20, 3) := by decide +kernel
theorem dX11_claimOfTwo_13 : decode cX11_claimOfTwo 13 = .ok (.aload_n 0, 1) := by decide +kernel
theorem dX11_claimOfTwo_14 : decode cX11_claimOfTwo 14 = .ok (.iload_n 3, 1) := by decide +kernel
theorem dX11_claimOfTwo_15 : decode cX11_claimOfTwo 15 = .ok (.invokevirtual 391, 3) := by decide +kernel
theorem dX11_claimOfTwo_18 : decode cX11_claimOfTwo 18 = .ok (.ifCond .eq 12, 3) := by decide +kernel
theorem dX11_claimOfTwo_21 : decode cX11_claimOfTwo 21 = .ok (.aload_n 0, 1) := by decide +kernel
theorem dX11_claimOfTwo_22 : decode cX11_claimOfTwo 22 = .ok (.iload 4, 2) := by decide +kernel
theorem dX11_claimOfTwo_24 : decode cX11_claimOfTwo 24 = .ok (.invokevirtual 391, 3) := by decide +kernel
theorem dX11_claimOfTwo_27 : decode cX11_claimOfTwo 27 = .ok (.ifCond .ne 9, 3) := by decide +kernel
theorem dX11_claimOfTwo_30 : decode cX11_claimOfTwo 30 = .ok (.aload_n 0, 1) := by decide +kernel
theorem dX11_claimOfTwo_31 : decode cX11_claimOfTwo 31 = .ok (.iconst 1, 1) := by decide +kernel
theorem dX11_claimOfTwo_32 : decode cX11_claimOfTwo 32 = .ok (.invokevirtual 367, 3) := by decide +kernel
theorem dX11_claimOfTwo_35 : decode cX11_claimOfTwo 35 = .ok (.ireturn, 1) := by decide +kernel
theorem dX11_claimOfTwo_36 : decode cX11_claimOfTwo 36 = .ok (.iload_n 3, 1) := by decide +kernel
theorem dX11_claimOfTwo_37 : decode cX11_claimOfTwo 37 = .ok (.iload 4, 2) := by decide +kernel
theorem dX11_claimOfTwo_39 : decode cX11_claimOfTwo 39 = .ok (.if_icmp .ne 11, 3) := by decide +kernel
theorem dX11_claimOfTwo_42 : decode cX11_claimOfTwo 42 = .ok (.aload_n 0, 1) := by decide +kernel
theorem dX11_claimOfTwo_43 : decode cX11_claimOfTwo 43 = .ok (.iconst 2, 1) := by decide +kernel
theorem dX11_claimOfTwo_44 : decode cX11_claimOfTwo 44 = .ok (.invokevirtual 367, 3) := by decide +kernel
theorem dX11_claimOfTwo_47 : decode cX11_claimOfTwo 47 = .ok (.goto 13, 3) := by decide +kernel
theorem dX11_claimOfTwo_50 : decode cX11_claimOfTwo 50 = .ok (.aload_n 0, 1) := by decide +kernel
theorem dX11_claimOfTwo_51 : decode cX11_claimOfTwo 51 = .ok (.iload_n 1, 1) := by decide +kernel
theorem dX11_claimOfTwo_52 : decode cX11_claimOfTwo 52 = .ok (.iload_n 2, 1) := by decide +kernel
theorem dX11_claimOfTwo_53 : decode cX11_claimOfTwo 53 = .ok (.iload_n 3, 1) := by decide +kernel
theorem dX11_claimOfTwo_54 : decode cX11_claimOfTwo 54 = .ok (.iload 4, 2) := by decide +kernel
theorem dX11_claimOfTwo_56 : decode cX11_claimOfTwo 56 = .ok (.iconst 0, 1) := by decide +kernel
theorem dX11_claimOfTwo_57 : decode cX11_claimOfTwo 57 = .ok (.invokevirtual 397, 3) := by decide +kernel
theorem dX11_claimOfTwo_60 : decode cX11_claimOfTwo 60 = .ok (.ireturn, 1) := by decide +kernel
theorem dX11_claimBefore_0 : decode cX11_claimBefore 0 = .ok (.aload_n 0, 1) := by decide +kernel
theorem dX11_claimBefore_1 : decode cX11_claimBefore 1 = .ok (.iconst 1, 1) := by decide +kernel
theorem dX11_claimBefore_2 : decode cX11_claimBefore 2 = .ok (.iload_n 1, 1) := by decide +kernel
theorem dX11_claimBefore_3 : decode cX11_claimBefore 3 = .ok (.iload_n 2, 1) := by decide +kernel
theorem dX11_claimBefore_4 : decode cX11_claimBefore 4 = .ok (.iload_n 3, 1) := by decide +kernel
theorem dX11_claimBefore_5 : decode cX11_claimBefore 5 = .ok (.invokevirtual 401, 3) := by decide +kernel
theorem dX11_claimBefore_8 : decode cX11_claimBefore 8 = .ok (.ireturn, 1) := by decide +kernel
theorem dX11_claimTogether_0 : decode cX11_claimTogether 0 = .ok (.aload_n 0, 1) := by decide +kernel
theorem dX11_claimTogether_1 : decode cX11_claimTogether 1 = .ok (.iconst 2, 1) := by decide +kernel
theorem dX11_claimTogether_2 : decode cX11_claimTogether 2 = .ok (.iload_n 1, 1) := by decide +kernel
theorem dX11_claimTogether_3 : decode cX11_claimTogether 3 = .ok (.iload_n 2, 1) := by decide +kernel
theorem dX11_claimTogether_4 : decode cX11_claimTogether 4 = .ok (.iload_n 3, 1) := by decide +kernel
theorem dX11_claimTogether_5 : decode cX11_claimTogether 5 = .ok (.invokevirtual 401, 3) := by decide +kernel
theorem dX11_claimTogether_8 : decode cX11_claimTogether 8 = .ok (.ireturn, 1) := by decide +kernel
theorem dX11_takeBack_0 : decode cX11_takeBack 0 = .ok (.aload_n 0, 1) := by decide +kernel
theorem dX11_takeBack_1 : decode cX11_takeBack 1 = .ok (.iconst 0, 1) := by decide +kernel
theorem dX11_takeBack_2 : decode cX11_takeBack 2 = .ok (.putfield 52, 3) := by decide +kernel
theorem dX11_takeBack_5 : decode cX11_takeBack 5 = .ok (.aload_n 0, 1) := by decide +kernel
theorem dX11_takeBack_6 : decode cX11_takeBack 6 = .ok (.iload_n 1, 1) := by decide +kernel
theorem dX11_takeBack_7 : decode cX11_takeBack 7 = .ok (.invokevirtual 379, 3) := by decide +kernel
theorem dX11_takeBack_10 : decode cX11_takeBack 10 = .ok (.ifCond .ne 9, 3) := by decide +kernel
theorem dX11_takeBack_13 : decode cX11_takeBack 13 = .ok (.aload_n 0, 1) := by decide +kernel
theorem dX11_takeBack_14 : decode cX11_takeBack 14 = .ok (.iconst 1, 1) := by decide +kernel
theorem dX11_takeBack_15 : decode cX11_takeBack 15 = .ok (.invokevirtual 367, 3) := by decide +kernel
theorem dX11_takeBack_18 : decode cX11_takeBack 18 = .ok (.ireturn, 1) := by decide +kernel
theorem dX11_takeBack_19 : decode cX11_takeBack 19 = .ok (.aload_n 0, 1) := by decide +kernel
theorem dX11_takeBack_20 : decode cX11_takeBack 20 = .ok (.getfield 20, 3) := by decide +kernel
theorem dX11_takeBack_23 : decode cX11_takeBack 23 = .ok (.getfield 82, 3) := by decide +kernel
theorem dX11_takeBack_26 : decode cX11_takeBack 26 = .ok (.iload_n 1, 1) := by decide +kernel
theorem dX11_takeBack_27 : decode cX11_takeBack 27 = .ok (.iaload, 1) := by decide +kernel
theorem dX11_takeBack_28 : decode cX11_takeBack 28 = .ok (.istore_n 2, 1) := by decide +kernel
theorem dX11_takeBack_29 : decode cX11_takeBack 29 = .ok (.aload_n 0, 1) := by decide +kernel
theorem dX11_takeBack_30 : decode cX11_takeBack 30 = .ok (.getfield 20, 3) := by decide +kernel
theorem dX11_takeBack_33 : decode cX11_takeBack 33 = .ok (.dup, 1) := by decide +kernel
theorem dX11_takeBack_34 : decode cX11_takeBack 34 = .ok (.getfield 65, 3) := by decide +kernel
theorem dX11_takeBack_37 : decode cX11_takeBack 37 = .ok (.iconst 1, 1) := by decide +kernel
theorem dX11_takeBack_38 : decode cX11_takeBack 38 = .ok (.isub, 1) := by decide +kernel
theorem dX11_takeBack_39 : decode cX11_takeBack 39 = .ok (.putfield 65, 3) := by decide +kernel
theorem dX11_takeBack_42 : decode cX11_takeBack 42 = .ok (.iload_n 1, 1) := by decide +kernel
theorem dX11_takeBack_43 : decode cX11_takeBack 43 = .ok (.istore_n 3, 1) := by decide +kernel
theorem dX11_takeBack_44 : decode cX11_takeBack 44 = .ok (.iload_n 3, 1) := by decide +kernel
theorem dX11_takeBack_45 : decode cX11_takeBack 45 = .ok (.aload_n 0, 1) := by decide +kernel
theorem dX11_takeBack_46 : decode cX11_takeBack 46 = .ok (.getfield 20, 3) := by decide +kernel
theorem dX11_takeBack_49 : decode cX11_takeBack 49 = .ok (.getfield 65, 3) := by decide +kernel
theorem dX11_takeBack_52 : decode cX11_takeBack 52 = .ok (.if_icmp .ge 109, 3) := by decide +kernel
theorem dX11_takeBack_55 : decode cX11_takeBack 55 = .ok (.aload_n 0, 1) := by decide +kernel
theorem dX11_takeBack_56 : decode cX11_takeBack 56 = .ok (.getfield 20, 3) := by decide +kernel
theorem dX11_takeBack_59 : decode cX11_takeBack 59 = .ok (.getfield 68, 3) := by decide +kernel
theorem dX11_takeBack_62 : decode cX11_takeBack 62 = .ok (.iload_n 3, 1) := by decide +kernel
theorem dX11_takeBack_63 : decode cX11_takeBack 63 = .ok (.aload_n 0, 1) := by decide +kernel
theorem dX11_takeBack_64 : decode cX11_takeBack 64 = .ok (.getfield 20, 3) := by decide +kernel
theorem dX11_takeBack_67 : decode cX11_takeBack 67 = .ok (.getfield 68, 3) := by decide +kernel
theorem dX11_takeBack_70 : decode cX11_takeBack 70 = .ok (.iload_n 3, 1) := by decide +kernel
theorem dX11_takeBack_71 : decode cX11_takeBack 71 = .ok (.iconst 1, 1) := by decide +kernel
theorem dX11_takeBack_72 : decode cX11_takeBack 72 = .ok (.iadd, 1) := by decide +kernel
theorem dX11_takeBack_73 : decode cX11_takeBack 73 = .ok (.iaload, 1) := by decide +kernel
theorem dX11_takeBack_74 : decode cX11_takeBack 74 = .ok (.iastore, 1) := by decide +kernel
theorem dX11_takeBack_75 : decode cX11_takeBack 75 = .ok (.aload_n 0, 1) := by decide +kernel
theorem dX11_takeBack_76 : decode cX11_takeBack 76 = .ok (.getfield 20, 3) := by decide +kernel
theorem dX11_takeBack_79 : decode cX11_takeBack 79 = .ok (.getfield 82, 3) := by decide +kernel
theorem dX11_takeBack_82 : decode cX11_takeBack 82 = .ok (.iload_n 3, 1) := by decide +kernel
theorem dX11_takeBack_83 : decode cX11_takeBack 83 = .ok (.aload_n 0, 1) := by decide +kernel
theorem dX11_takeBack_84 : decode cX11_takeBack 84 = .ok (.getfield 20, 3) := by decide +kernel
theorem dX11_takeBack_87 : decode cX11_takeBack 87 = .ok (.getfield 82, 3) := by decide +kernel
theorem dX11_takeBack_90 : decode cX11_takeBack 90 = .ok (.iload_n 3, 1) := by decide +kernel
theorem dX11_takeBack_91 : decode cX11_takeBack 91 = .ok (.iconst 1, 1) := by decide +kernel
theorem dX11_takeBack_92 : decode cX11_takeBack 92 = .ok (.iadd, 1) := by decide +kernel
theorem dX11_takeBack_93 : decode cX11_takeBack 93 = .ok (.iaload, 1) := by decide +kernel
theorem dX11_takeBack_94 : decode cX11_takeBack 94 = .ok (.iastore, 1) := by decide +kernel
theorem dX11_takeBack_95 : decode cX11_takeBack 95 = .ok (.aload_n 0, 1) := by decide +kernel
theorem dX11_takeBack_96 : decode cX11_takeBack 96 = .ok (.getfield 20, 3) := by decide +kernel
theorem dX11_takeBack_99 : decode cX11_takeBack 99 = .ok (.getfield 73, 3) := by decide +kernel
theorem dX11_takeBack_102 : decode cX11_takeBack 102 = .ok (.iload_n 3, 1) := by decide +kernel
theorem dX11_takeBack_103 : decode cX11_takeBack 103 = .ok (.aload_n 0, 1) := by decide +kernel
theorem dX11_takeBack_104 : decode cX11_takeBack 104 = .ok (.getfield 20, 3) := by decide +kernel
theorem dX11_takeBack_107 : decode cX11_takeBack 107 = .ok (.getfield 73, 3) := by decide +kernel
theorem dX11_takeBack_110 : decode cX11_takeBack 110 = .ok (.iload_n 3, 1) := by decide +kernel
theorem dX11_takeBack_111 : decode cX11_takeBack 111 = .ok (.iconst 1, 1) := by decide +kernel
theorem dX11_takeBack_112 : decode cX11_takeBack 112 = .ok (.iadd, 1) := by decide +kernel
theorem dX11_takeBack_113 : decode cX11_takeBack 113 = .ok (.iaload, 1) := by decide +kernel
theorem dX11_takeBack_114 : decode cX11_takeBack 114 = .ok (.iastore, 1) := by decide +kernel
theorem dX11_takeBack_115 : decode cX11_takeBack 115 = .ok (.aload_n 0, 1) := by decide +kernel
theorem dX11_takeBack_116 : decode cX11_takeBack 116 = .ok (.getfield 20, 3) := by decide +kernel
theorem dX11_takeBack_119 : decode cX11_takeBack 119 = .ok (.getfield 79, 3) := by decide +kernel
theorem dX11_takeBack_122 : decode cX11_takeBack 122 = .ok (.iload_n 3, 1) := by decide +kernel
theorem dX11_takeBack_123 : decode cX11_takeBack 123 = .ok (.aload_n 0, 1) := by decide +kernel
theorem dX11_takeBack_124 : decode cX11_takeBack 124 = .ok (.getfield 20, 3) := by decide +kernel
theorem dX11_takeBack_127 : decode cX11_takeBack 127 = .ok (.getfield 79, 3) := by decide +kernel
theorem dX11_takeBack_130 : decode cX11_takeBack 130 = .ok (.iload_n 3, 1) := by decide +kernel
theorem dX11_takeBack_131 : decode cX11_takeBack 131 = .ok (.iconst 1, 1) := by decide +kernel
theorem dX11_takeBack_132 : decode cX11_takeBack 132 = .ok (.iadd, 1) := by decide +kernel
theorem dX11_takeBack_133 : decode cX11_takeBack 133 = .ok (.iaload, 1) := by decide +kernel
theorem dX11_takeBack_134 : decode cX11_takeBack 134 = .ok (.iastore, 1) := by decide +kernel
theorem dX11_takeBack_135 : decode cX11_takeBack 135 = .ok (.aload_n 0, 1) := by decide +kernel
theorem dX11_takeBack_136 : decode cX11_takeBack 136 = .ok (.getfield 20, 3) := by decide +kernel
theorem dX11_takeBack_139 : decode cX11_takeBack 139 = .ok (.getfield 76, 3) := by decide +kernel
theorem dX11_takeBack_142 : decode cX11_takeBack 142 = .ok (.iload_n 3, 1) := by decide +kernel
theorem dX11_takeBack_143 : decode cX11_takeBack 143 = .ok (.aload_n 0, 1) := by decide +kernel
theorem dX11_takeBack_144 : decode cX11_takeBack 144 = .ok (.getfield 20, 3) := by decide +kernel
theorem dX11_takeBack_147 : decode cX11_takeBack 147 = .ok (.getfield 76, 3) := by decide +kernel
theorem dX11_takeBack_150 : decode cX11_takeBack 150 = .ok (.iload_n 3, 1) := by decide +kernel
theorem dX11_takeBack_151 : decode cX11_takeBack 151 = .ok (.iconst 1, 1) := by decide +kernel
theorem dX11_takeBack_152 : decode cX11_takeBack 152 = .ok (.iadd, 1) := by decide +kernel
theorem dX11_takeBack_153 : decode cX11_takeBack 153 = .ok (.iaload, 1) := by decide +kernel
theorem dX11_takeBack_154 : decode cX11_takeBack 154 = .ok (.iastore, 1) := by decide +kernel
theorem dX11_takeBack_155 : decode cX11_takeBack 155 = .ok (.iinc 3 1, 3) := by decide +kernel
theorem dX11_takeBack_158 : decode cX11_takeBack 158 = .ok (.goto (-114), 3) := by decide +kernel
theorem dX11_takeBack_161 : decode cX11_takeBack 161 = .ok (.aload_n 0, 1) := by decide +kernel
theorem dX11_takeBack_162 : decode cX11_takeBack 162 = .ok (.invokevirtual 373, 3) := by decide +kernel
theorem dX11_takeBack_165 : decode cX11_takeBack 165 = .ok (.iload_n 2, 1) := by decide +kernel
theorem dX11_takeBack_166 : decode cX11_takeBack 166 = .ok (.ireturn, 1) := by decide +kernel
theorem dX11_turnDoubt_0 : decode cX11_turnDoubt 0 = .ok (.aload_n 0, 1) := by decide +kernel
theorem dX11_turnDoubt_1 : decode cX11_turnDoubt 1 = .ok (.iconst 0, 1) := by decide +kernel
theorem dX11_turnDoubt_2 : decode cX11_turnDoubt 2 = .ok (.putfield 52, 3) := by decide +kernel
theorem dX11_turnDoubt_5 : decode cX11_turnDoubt 5 = .ok (.aload_n 0, 1) := by decide +kernel
theorem dX11_turnDoubt_6 : decode cX11_turnDoubt 6 = .ok (.iload_n 1, 1) := by decide +kernel
theorem dX11_turnDoubt_7 : decode cX11_turnDoubt 7 = .ok (.invokevirtual 385, 3) := by decide +kernel
theorem dX11_turnDoubt_10 : decode cX11_turnDoubt 10 = .ok (.ifCond .ne 9, 3) := by decide +kernel
theorem dX11_turnDoubt_13 : decode cX11_turnDoubt 13 = .ok (.aload_n 0, 1) := by decide +kernel
theorem dX11_turnDoubt_14 : decode cX11_turnDoubt 14 = .ok (.iconst 1, 1) := by decide +kernel
theorem dX11_turnDoubt_15 : decode cX11_turnDoubt 15 = .ok (.invokevirtual 382, 3) := by decide +kernel
theorem dX11_turnDoubt_18 : decode cX11_turnDoubt 18 = .ok (.ireturn, 1) := by decide +kernel
theorem dX11_turnDoubt_19 : decode cX11_turnDoubt 19 = .ok (.aload_n 0, 1) := by decide +kernel
theorem dX11_turnDoubt_20 : decode cX11_turnDoubt 20 = .ok (.dup, 1) := by decide +kernel
theorem dX11_turnDoubt_21 : decode cX11_turnDoubt 21 = .ok (.getfield 85, 3) := by decide +kernel
theorem dX11_turnDoubt_24 : decode cX11_turnDoubt 24 = .ok (.iconst 1, 1) := by decide +kernel
theorem dX11_turnDoubt_25 : decode cX11_turnDoubt 25 = .ok (.iload_n 1, 1) := by decide +kernel
theorem dX11_turnDoubt_26 : decode cX11_turnDoubt 26 = .ok (.ishl, 1) := by decide +kernel
theorem dX11_turnDoubt_27 : decode cX11_turnDoubt 27 = .ok (.ixor, 1) := by decide +kernel
theorem dX11_turnDoubt_28 : decode cX11_turnDoubt 28 = .ok (.putfield 85, 3) := by decide +kernel
theorem dX11_turnDoubt_31 : decode cX11_turnDoubt 31 = .ok (.aload_n 0, 1) := by decide +kernel
theorem dX11_turnDoubt_32 : decode cX11_turnDoubt 32 = .ok (.getfield 85, 3) := by decide +kernel
theorem dX11_turnDoubt_35 : decode cX11_turnDoubt 35 = .ok (.iload_n 1, 1) := by decide +kernel
theorem dX11_turnDoubt_36 : decode cX11_turnDoubt 36 = .ok (.invokestatic 88, 3) := by decide +kernel
theorem dX11_turnDoubt_39 : decode cX11_turnDoubt 39 = .ok (.ireturn, 1) := by decide +kernel
theorem dX11_passEvenings_0 : decode cX11_passEvenings 0 = .ok (.aload_n 0, 1) := by decide +kernel
theorem dX11_passEvenings_1 : decode cX11_passEvenings 1 = .ok (.iconst 0, 1) := by decide +kernel
theorem dX11_passEvenings_2 : decode cX11_passEvenings 2 = .ok (.putfield 52, 3) := by decide +kernel
theorem dX11_passEvenings_5 : decode cX11_passEvenings 5 = .ok (.iload_n 1, 1) := by decide +kernel
theorem dX11_passEvenings_6 : decode cX11_passEvenings 6 = .ok (.iconst 1, 1) := by decide +kernel
theorem dX11_passEvenings_7 : decode cX11_passEvenings 7 = .ok (.bipush 30, 2) := by decide +kernel
theorem dX11_passEvenings_9 : decode cX11_passEvenings 9 = .ok (.invokestatic 58, 3) := by decide +kernel
theorem dX11_passEvenings_12 : decode cX11_passEvenings 12 = .ok (.ifCond .eq 11, 3) := by decide +kernel
theorem dX11_passEvenings_15 : decode cX11_passEvenings 15 = .ok (.aload_n 0, 1) := by decide +kernel
theorem dX11_passEvenings_16 : decode cX11_passEvenings 16 = .ok (.iload_n 1, 1) := by decide +kernel
theorem dX11_passEvenings_17 : decode cX11_passEvenings 17 = .ok (.invokevirtual 405, 3) := by decide +kernel
theorem dX11_passEvenings_20 : decode cX11_passEvenings 20 = .ok (.goto 8, 3) := by decide +kernel
theorem dX11_passEvenings_23 : decode cX11_passEvenings 23 = .ok (.aload_n 0, 1) := by decide +kernel
theorem dX11_passEvenings_24 : decode cX11_passEvenings 24 = .ok (.iconst 1, 1) := by decide +kernel
theorem dX11_passEvenings_25 : decode cX11_passEvenings 25 = .ok (.invokevirtual 367, 3) := by decide +kernel
theorem dX11_passEvenings_28 : decode cX11_passEvenings 28 = .ok (.ireturn, 1) := by decide +kernel
theorem dX11_goBack_0 : decode cX11_goBack 0 = .ok (.aload_n 0, 1) := by decide +kernel
theorem dX11_goBack_1 : decode cX11_goBack 1 = .ok (.iload_n 1, 1) := by decide +kernel
theorem dX11_goBack_2 : decode cX11_goBack 2 = .ok (.putfield 85, 3) := by decide +kernel
theorem dX11_goBack_5 : decode cX11_goBack 5 = .ok (.aload_n 0, 1) := by decide +kernel
theorem dX11_goBack_6 : decode cX11_goBack 6 = .ok (.iload_n 2, 1) := by decide +kernel
theorem dX11_goBack_7 : decode cX11_goBack 7 = .ok (.putfield 156, 3) := by decide +kernel
theorem dX11_goBack_10 : decode cX11_goBack 10 = .ok (.aload_n 0, 1) := by decide +kernel
theorem dX11_goBack_11 : decode cX11_goBack 11 = .ok (.iload_n 3, 1) := by decide +kernel
theorem dX11_goBack_12 : decode cX11_goBack 12 = .ok (.putfield 141, 3) := by decide +kernel
theorem dX11_goBack_15 : decode cX11_goBack 15 = .ok (.return_, 1) := by decide +kernel
theorem dX11_liarsAfter_0 : decode cX11_liarsAfter 0 = .ok (.aload_n 0, 1) := by decide +kernel
theorem dX11_liarsAfter_1 : decode cX11_liarsAfter 1 = .ok (.iconst 0, 1) := by decide +kernel
theorem dX11_liarsAfter_2 : decode cX11_liarsAfter 2 = .ok (.putfield 52, 3) := by decide +kernel
theorem dX11_liarsAfter_5 : decode cX11_liarsAfter 5 = .ok (.iload_n 1, 1) := by decide +kernel
theorem dX11_liarsAfter_6 : decode cX11_liarsAfter 6 = .ok (.iconst 1, 1) := by decide +kernel
theorem dX11_liarsAfter_7 : decode cX11_liarsAfter 7 = .ok (.bipush 30, 2) := by decide +kernel
theorem dX11_liarsAfter_9 : decode cX11_liarsAfter 9 = .ok (.invokestatic 58, 3) := by decide +kernel
theorem dX11_liarsAfter_12 : decode cX11_liarsAfter 12 = .ok (.ifCond .ne 9, 3) := by decide +kernel
theorem dX11_liarsAfter_15 : decode cX11_liarsAfter 15 = .ok (.aload_n 0, 1) := by decide +kernel
theorem dX11_liarsAfter_16 : decode cX11_liarsAfter 16 = .ok (.iconst 1, 1) := by decide +kernel
theorem dX11_liarsAfter_17 : decode cX11_liarsAfter 17 = .ok (.invokevirtual 367, 3) := by decide +kernel
theorem dX11_liarsAfter_20 : decode cX11_liarsAfter 20 = .ok (.ireturn, 1) := by decide +kernel
theorem dX11_liarsAfter_21 : decode cX11_liarsAfter 21 = .ok (.iconst 3, 1) := by decide +kernel
theorem dX11_liarsAfter_22 : decode cX11_liarsAfter 22 = .ok (.newarray .int, 2) := by decide +kernel
theorem dX11_liarsAfter_24 : decode cX11_liarsAfter 24 = .ok (.dup, 1) := by decide +kernel
theorem dX11_liarsAfter_25 : decode cX11_liarsAfter 25 = .ok (.iconst 0, 1) := by decide +kernel
theorem dX11_liarsAfter_26 : decode cX11_liarsAfter 26 = .ok (.aload_n 0, 1) := by decide +kernel
theorem dX11_liarsAfter_27 : decode cX11_liarsAfter 27 = .ok (.getfield 85, 3) := by decide +kernel
theorem dX11_liarsAfter_30 : decode cX11_liarsAfter 30 = .ok (.iastore, 1) := by decide +kernel
theorem dX11_liarsAfter_31 : decode cX11_liarsAfter 31 = .ok (.dup, 1) := by decide +kernel
theorem dX11_liarsAfter_32 : decode cX11_liarsAfter 32 = .ok (.iconst 1, 1) := by decide +kernel
theorem dX11_liarsAfter_33 : decode cX11_liarsAfter 33 = .ok (.aload_n 0, 1) := by decide +kernel
theorem dX11_liarsAfter_34 : decode cX11_liarsAfter 34 = .ok (.getfield 156, 3) := by decide +kernel
theorem dX11_liarsAfter_37 : decode cX11_liarsAfter 37 = .ok (.iastore, 1) := by decide +kernel
theorem dX11_liarsAfter_38 : decode cX11_liarsAfter 38 = .ok (.dup, 1) := by decide +kernel
theorem dX11_liarsAfter_39 : decode cX11_liarsAfter 39 = .ok (.iconst 2, 1) := by decide +kernel
theorem dX11_liarsAfter_40 : decode cX11_liarsAfter 40 = .ok (.aload_n 0, 1) := by decide +kernel
theorem dX11_liarsAfter_41 : decode cX11_liarsAfter 41 = .ok (.getfield 141, 3) := by decide +kernel
theorem dX11_liarsAfter_44 : decode cX11_liarsAfter 44 = .ok (.iastore, 1) := by decide +kernel
theorem dX11_liarsAfter_45 : decode cX11_liarsAfter 45 = .ok (.astore_n 2, 1) := by decide +kernel
theorem dX11_liarsAfter_46 : decode cX11_liarsAfter 46 = .ok (.aload_n 0, 1) := by decide +kernel
theorem dX11_liarsAfter_47 : decode cX11_liarsAfter 47 = .ok (.iload_n 1, 1) := by decide +kernel
theorem dX11_liarsAfter_48 : decode cX11_liarsAfter 48 = .ok (.invokevirtual 405, 3) := by decide +kernel
theorem dX11_liarsAfter_51 : decode cX11_liarsAfter 51 = .ok (.pop, 1) := by decide +kernel
theorem dX11_liarsAfter_52 : decode cX11_liarsAfter 52 = .ok (.aload_n 0, 1) := by decide +kernel
theorem dX11_liarsAfter_53 : decode cX11_liarsAfter 53 = .ok (.invokevirtual 159, 3) := by decide +kernel
theorem dX11_liarsAfter_56 : decode cX11_liarsAfter 56 = .ok (.istore_n 3, 1) := by decide +kernel
theorem dX11_liarsAfter_57 : decode cX11_liarsAfter 57 = .ok (.aload_n 0, 1) := by decide +kernel
theorem dX11_liarsAfter_58 : decode cX11_liarsAfter 58 = .ok (.aload_n 2, 1) := by decide +kernel
theorem dX11_liarsAfter_59 : decode cX11_liarsAfter 59 = .ok (.iconst 0, 1) := by decide +kernel
theorem dX11_liarsAfter_60 : decode cX11_liarsAfter 60 = .ok (.iaload, 1) := by decide +kernel
theorem dX11_liarsAfter_61 : decode cX11_liarsAfter 61 = .ok (.aload_n 2, 1) := by decide +kernel
theorem dX11_liarsAfter_62 : decode cX11_liarsAfter 62 = .ok (.iconst 1, 1) := by decide +kernel
theorem dX11_liarsAfter_63 : decode cX11_liarsAfter 63 = .ok (.iaload, 1) := by decide +kernel
theorem dX11_liarsAfter_64 : decode cX11_liarsAfter 64 = .ok (.aload_n 2, 1) := by decide +kernel
theorem dX11_liarsAfter_65 : decode cX11_liarsAfter 65 = .ok (.iconst 2, 1) := by decide +kernel
theorem dX11_liarsAfter_66 : decode cX11_liarsAfter 66 = .ok (.iaload, 1) := by decide +kernel
theorem dX11_liarsAfter_67 : decode cX11_liarsAfter 67 = .ok (.invokevirtual 408, 3) := by decide +kernel
theorem dX11_liarsAfter_70 : decode cX11_liarsAfter 70 = .ok (.iload_n 3, 1) := by decide +kernel
theorem dX11_liarsAfter_71 : decode cX11_liarsAfter 71 = .ok (.ireturn, 1) := by decide +kernel
theorem dX11_eveningsUntilOneStory_0 : decode cX11_eveningsUntilOneStory 0 = .ok (.aload_n 0, 1) := by decide +kernel
theorem dX11_eveningsUntilOneStory_1 : decode cX11_eveningsUntilOneStory 1 = .ok (.iconst 0, 1) := by decide +kernel
theorem dX11_eveningsUntilOneStory_2 : decode cX11_eveningsUntilOneStory 2 = .ok (.putfield 52, 3) := by decide +kernel
theorem dX11_eveningsUntilOneStory_5 : decode cX11_eveningsUntilOneStory 5 = .ok (.iconst 3, 1) := by decide +kernel
theorem dX11_eveningsUntilOneStory_6 : decode cX11_eveningsUntilOneStory 6 = .ok (.newarray .int, 2) := by decide +kernel
theorem dX11_eveningsUntilOneStory_8 : decode cX11_eveningsUntilOneStory 8 = .ok (.dup, 1) := by decide +kernel
theorem dX11_eveningsUntilOneStory_9 : decode cX11_eveningsUntilOneStory 9 = .ok (.iconst 0, 1) := by decide +kernel
theorem dX11_eveningsUntilOneStory_10 : decode cX11_eveningsUntilOneStory 10 = .ok (.aload_n 0, 1) := by decide +kernel
theorem dX11_eveningsUntilOneStory_11 : decode cX11_eveningsUntilOneStory 11 = .ok (.getfield 85, 3) := by decide +kernel
theorem dX11_eveningsUntilOneStory_14 : decode cX11_eveningsUntilOneStory 14 = .ok (.iastore, 1) := by decide +kernel
theorem dX11_eveningsUntilOneStory_15 : decode cX11_eveningsUntilOneStory 15 = .ok (.dup, 1) := by decide +kernel
theorem dX11_eveningsUntilOneStory_16 : decode cX11_eveningsUntilOneStory 16 = .ok (.iconst 1, 1) := by decide +kernel
theorem dX11_eveningsUntilOneStory_17 : decode cX11_eveningsUntilOneStory 17 = .ok (.aload_n 0, 1) := by decide +kernel
theorem dX11_eveningsUntilOneStory_18 : decode cX11_eveningsUntilOneStory 18 = .ok (.getfield 156, 3) := by decide +kernel
theorem dX11_eveningsUntilOneStory_21 : decode cX11_eveningsUntilOneStory 21 = .ok (.iastore, 1) := by decide +kernel
theorem dX11_eveningsUntilOneStory_22 : decode cX11_eveningsUntilOneStory 22 = .ok (.dup, 1) := by decide +kernel
theorem dX11_eveningsUntilOneStory_23 : decode cX11_eveningsUntilOneStory 23 = .ok (.iconst 2, 1) := by decide +kernel
theorem dX11_eveningsUntilOneStory_24 : decode cX11_eveningsUntilOneStory 24 = .ok (.aload_n 0, 1) := by decide +kernel
theorem dX11_eveningsUntilOneStory_25 : decode cX11_eveningsUntilOneStory 25 = .ok (.getfield 141, 3) := by decide +kernel
theorem dX11_eveningsUntilOneStory_28 : decode cX11_eveningsUntilOneStory 28 = .ok (.iastore, 1) := by decide +kernel
theorem dX11_eveningsUntilOneStory_29 : decode cX11_eveningsUntilOneStory 29 = .ok (.astore_n 1, 1) := by decide +kernel
theorem dX11_eveningsUntilOneStory_30 : decode cX11_eveningsUntilOneStory 30 = .ok (.iconst 0, 1) := by decide +kernel
theorem dX11_eveningsUntilOneStory_31 : decode cX11_eveningsUntilOneStory 31 = .ok (.istore_n 2, 1) := by decide +kernel
theorem dX11_eveningsUntilOneStory_32 : decode cX11_eveningsUntilOneStory 32 = .ok (.iload_n 2, 1) := by decide +kernel
theorem dX11_eveningsUntilOneStory_33 : decode cX11_eveningsUntilOneStory 33 = .ok (.bipush 30, 2) := by decide +kernel
theorem dX11_eveningsUntilOneStory_35 : decode cX11_eveningsUntilOneStory 35 = .ok (.if_icmp .gt 22, 3) := by decide +kernel
theorem dX11_eveningsUntilOneStory_38 : decode cX11_eveningsUntilOneStory 38 = .ok (.aload_n 0, 1) := by decide +kernel
theorem dX11_eveningsUntilOneStory_39 : decode cX11_eveningsUntilOneStory 39 = .ok (.invokevirtual 159, 3) := by decide +kernel
theorem dX11_eveningsUntilOneStory_42 : decode cX11_eveningsUntilOneStory 42 = .ok (.ifCond .le 15, 3) := by decide +kernel
theorem dX11_eveningsUntilOneStory_45 : decode cX11_eveningsUntilOneStory 45 = .ok (.aload_n 0, 1) := by decide +kernel
theorem dX11_eveningsUntilOneStory_46 : decode cX11_eveningsUntilOneStory 46 = .ok (.iconst 1, 1) := by decide +kernel
theorem dX11_eveningsUntilOneStory_47 : decode cX11_eveningsUntilOneStory 47 = .ok (.invokevirtual 405, 3) := by decide +kernel
theorem dX11_eveningsUntilOneStory_50 : decode cX11_eveningsUntilOneStory 50 = .ok (.pop, 1) := by decide +kernel
theorem dX11_eveningsUntilOneStory_51 : decode cX11_eveningsUntilOneStory 51 = .ok (.iinc 2 1, 3) := by decide +kernel
theorem dX11_eveningsUntilOneStory_54 : decode cX11_eveningsUntilOneStory 54 = .ok (.goto (-22), 3) := by decide +kernel
theorem dX11_eveningsUntilOneStory_57 : decode cX11_eveningsUntilOneStory 57 = .ok (.aload_n 0, 1) := by decide +kernel
theorem dX11_eveningsUntilOneStory_58 : decode cX11_eveningsUntilOneStory 58 = .ok (.aload_n 1, 1) := by decide +kernel
theorem dX11_eveningsUntilOneStory_59 : decode cX11_eveningsUntilOneStory 59 = .ok (.iconst 0, 1) := by decide +kernel
theorem dX11_eveningsUntilOneStory_60 : decode cX11_eveningsUntilOneStory 60 = .ok (.iaload, 1) := by decide +kernel
theorem dX11_eveningsUntilOneStory_61 : decode cX11_eveningsUntilOneStory 61 = .ok (.aload_n 1, 1) := by decide +kernel
theorem dX11_eveningsUntilOneStory_62 : decode cX11_eveningsUntilOneStory 62 = .ok (.iconst 1, 1) := by decide +kernel
theorem dX11_eveningsUntilOneStory_63 : decode cX11_eveningsUntilOneStory 63 = .ok (.iaload, 1) := by decide +kernel
theorem dX11_eveningsUntilOneStory_64 : decode cX11_eveningsUntilOneStory 64 = .ok (.aload_n 1, 1) := by decide +kernel
theorem dX11_eveningsUntilOneStory_65 : decode cX11_eveningsUntilOneStory 65 = .ok (.iconst 2, 1) := by decide +kernel
theorem dX11_eveningsUntilOneStory_66 : decode cX11_eveningsUntilOneStory 66 = .ok (.iaload, 1) := by decide +kernel
theorem dX11_eveningsUntilOneStory_67 : decode cX11_eveningsUntilOneStory 67 = .ok (.invokevirtual 408, 3) := by decide +kernel
theorem dX11_eveningsUntilOneStory_70 : decode cX11_eveningsUntilOneStory 70 = .ok (.iload_n 2, 1) := by decide +kernel
theorem dX11_eveningsUntilOneStory_71 : decode cX11_eveningsUntilOneStory 71 = .ok (.bipush 30, 2) := by decide +kernel
theorem dX11_eveningsUntilOneStory_73 : decode cX11_eveningsUntilOneStory 73 = .ok (.if_icmp .le 7, 3) := by decide +kernel
theorem dX11_eveningsUntilOneStory_76 : decode cX11_eveningsUntilOneStory 76 = .ok (.iconst (-1), 1) := by decide +kernel
theorem dX11_eveningsUntilOneStory_77 : decode cX11_eveningsUntilOneStory 77 = .ok (.goto 4, 3) := by decide +kernel
theorem dX11_eveningsUntilOneStory_80 : decode cX11_eveningsUntilOneStory 80 = .ok (.iload_n 2, 1) := by decide +kernel
theorem dX11_eveningsUntilOneStory_81 : decode cX11_eveningsUntilOneStory 81 = .ok (.ireturn, 1) := by decide +kernel
theorem dX11_bestToDoubt_0 : decode cX11_bestToDoubt 0 = .ok (.aload_n 0, 1) := by decide +kernel
theorem dX11_bestToDoubt_1 : decode cX11_bestToDoubt 1 = .ok (.iconst 0, 1) := by decide +kernel
theorem dX11_bestToDoubt_2 : decode cX11_bestToDoubt 2 = .ok (.putfield 52, 3) := by decide +kernel
theorem dX11_bestToDoubt_5 : decode cX11_bestToDoubt 5 = .ok (.iconst (-1), 1) := by decide +kernel
theorem dX11_bestToDoubt_6 : decode cX11_bestToDoubt 6 = .ok (.istore_n 1, 1) := by decide +kernel
theorem dX11_bestToDoubt_7 : decode cX11_bestToDoubt 7 = .ok (.aload_n 0, 1) := by decide +kernel
theorem dX11_bestToDoubt_8 : decode cX11_bestToDoubt 8 = .ok (.aload_n 0, 1) := by decide +kernel
theorem dX11_bestToDoubt_9 : decode cX11_bestToDoubt 9 = .ok (.invokevirtual 91, 3) := by decide +kernel
theorem dX11_bestToDoubt_12 : decode cX11_bestToDoubt 12 = .ok (.invokevirtual 162, 3) := by decide +kernel
theorem dX11_bestToDoubt_15 : decode cX11_bestToDoubt 15 = .ok (.istore_n 2, 1) := by decide +kernel
theorem dX11_bestToDoubt_16 : decode cX11_bestToDoubt 16 = .ok (.iconst 0, 1) := by decide +kernel
theorem dX11_bestToDoubt_17 : decode cX11_bestToDoubt 17 = .ok (.istore_n 3, 1) := by decide +kernel
theorem dX11_bestToDoubt_18 : decode cX11_bestToDoubt 18 = .ok (.iload_n 3, 1) := by decide +kernel
theorem dX11_bestToDoubt_19 : decode cX11_bestToDoubt 19 = .ok (.aload_n 0, 1) := by decide +kernel
theorem dX11_bestToDoubt_20 : decode cX11_bestToDoubt 20 = .ok (.getfield 20, 3) := by decide +kernel
theorem dX11_bestToDoubt_23 : decode cX11_bestToDoubt 23 = .ok (.getfield 62, 3) := by decide +kernel
theorem dX11_bestToDoubt_26 : decode cX11_bestToDoubt 26 = .ok (.if_icmp .ge 39, 3) := by decide +kernel
theorem dX11_bestToDoubt_29 : decode cX11_bestToDoubt 29 = .ok (.aload_n 0, 1) := by decide +kernel
theorem dX11_bestToDoubt_30 : decode cX11_bestToDoubt 30 = .ok (.aload_n 0, 1) := by decide +kernel
theorem dX11_bestToDoubt_31 : decode cX11_bestToDoubt 31 = .ok (.invokevirtual 91, 3) := by decide +kernel
theorem dX11_bestToDoubt_34 : decode cX11_bestToDoubt 34 = .ok (.iconst 1, 1) := by decide +kernel
theorem dX11_bestToDoubt_35 : decode cX11_bestToDoubt 35 = .ok (.iload_n 3, 1) := by decide +kernel
theorem dX11_bestToDoubt_36 : decode cX11_bestToDoubt 36 = .ok (.ishl, 1) := by decide +kernel
theorem dX11_bestToDoubt_37 : decode cX11_bestToDoubt 37 = .ok (.iconst (-1), 1) := by decide +kernel
theorem dX11_bestToDoubt_38 : decode cX11_bestToDoubt 38 = .ok (.ixor, 1) := by decide +kernel
theorem dX11_bestToDoubt_39 : decode cX11_bestToDoubt 39 = .ok (.iand, 1) := by decide +kernel
theorem dX11_bestToDoubt_40 : decode cX11_bestToDoubt 40 = .ok (.invokevirtual 162, 3) := by decide +kernel
theorem dX11_bestToDoubt_43 : decode cX11_bestToDoubt 43 = .ok (.istore 4, 2) := by decide +kernel
theorem dX11_bestToDoubt_45 : decode cX11_bestToDoubt 45 = .ok (.iload 4, 2) := by decide +kernel
theorem dX11_bestToDoubt_47 : decode cX11_bestToDoubt 47 = .ok (.iload_n 2, 1) := by decide +kernel
theorem dX11_bestToDoubt_48 : decode cX11_bestToDoubt 48 = .ok (.if_icmp .lt 6, 3) := by decide +kernel
theorem dX11_bestToDoubt_51 : decode cX11_bestToDoubt 51 = .ok (.goto 8, 3) := by decide +kernel
theorem dX11_bestToDoubt_54 : decode cX11_bestToDoubt 54 = .ok (.iload_n 3, 1) := by decide +kernel
theorem dX11_bestToDoubt_55 : decode cX11_bestToDoubt 55 = .ok (.istore_n 1, 1) := by decide +kernel
theorem dX11_bestToDoubt_56 : decode cX11_bestToDoubt 56 = .ok (.iload 4, 2) := by decide +kernel
theorem dX11_bestToDoubt_58 : decode cX11_bestToDoubt 58 = .ok (.istore_n 2, 1) := by decide +kernel
theorem dX11_bestToDoubt_59 : decode cX11_bestToDoubt 59 = .ok (.iinc 3 1, 3) := by decide +kernel
theorem dX11_bestToDoubt_62 : decode cX11_bestToDoubt 62 = .ok (.goto (-44), 3) := by decide +kernel
theorem dX11_bestToDoubt_65 : decode cX11_bestToDoubt 65 = .ok (.iload_n 1, 1) := by decide +kernel
theorem dX11_bestToDoubt_66 : decode cX11_bestToDoubt 66 = .ok (.ireturn, 1) := by decide +kernel
theorem dX11_meanClaims_0 : decode cX11_meanClaims 0 = .ok (.aload_n 0, 1) := by decide +kernel
theorem dX11_meanClaims_1 : decode cX11_meanClaims 1 = .ok (.iconst 0, 1) := by decide +kernel
theorem dX11_meanClaims_2 : decode cX11_meanClaims 2 = .ok (.putfield 52, 3) := by decide +kernel
theorem dX11_meanClaims_5 : decode cX11_meanClaims 5 = .ok (.aload_n 0, 1) := by decide +kernel
theorem dX11_meanClaims_6 : decode cX11_meanClaims 6 = .ok (.getfield 20, 3) := by decide +kernel
theorem dX11_meanClaims_9 : decode cX11_meanClaims 9 = .ok (.getfield 62, 3) := by decide +kernel
theorem dX11_meanClaims_12 : decode cX11_meanClaims 12 = .ok (.ifCond .ne 7, 3) := by decide +kernel
theorem dX11_meanClaims_15 : decode cX11_meanClaims 15 = .ok (.dconst 0, 1) := by decide +kernel
theorem dX11_meanClaims_16 : decode cX11_meanClaims 16 = .ok (.goto 20, 3) := by decide +kernel
theorem dX11_meanClaims_19 : decode cX11_meanClaims 19 = .ok (.aload_n 0, 1) := by decide +kernel
theorem dX11_meanClaims_20 : decode cX11_meanClaims 20 = .ok (.getfield 20, 3) := by decide +kernel
theorem dX11_meanClaims_23 : decode cX11_meanClaims 23 = .ok (.getfield 65, 3) := by decide +kernel
theorem dX11_meanClaims_26 : decode cX11_meanClaims 26 = .ok (.i2d, 1) := by decide +kernel
theorem dX11_meanClaims_27 : decode cX11_meanClaims 27 = .ok (.aload_n 0, 1) := by decide +kernel
theorem dX11_meanClaims_28 : decode cX11_meanClaims 28 = .ok (.getfield 20, 3) := by decide +kernel
theorem dX11_meanClaims_31 : decode cX11_meanClaims 31 = .ok (.getfield 62, 3) := by decide +kernel
theorem dX11_meanClaims_34 : decode cX11_meanClaims 34 = .ok (.i2d, 1) := by decide +kernel
theorem dX11_meanClaims_35 : decode cX11_meanClaims 35 = .ok (.ddiv, 1) := by decide +kernel
theorem dX11_meanClaims_36 : decode cX11_meanClaims 36 = .ok (.dreturn, 1) := by decide +kernel
theorem dX11_digestEvents_0 : decode cX11_digestEvents 0 = .ok (.aload_n 0, 1) := by decide +kernel
theorem dX11_digestEvents_1 : decode cX11_digestEvents 1 = .ok (.invokevirtual 394, 3) := by decide +kernel
theorem dX11_digestEvents_4 : decode cX11_digestEvents 4 = .ok (.istore_n 3, 1) := by decide +kernel
theorem dX11_digestEvents_5 : decode cX11_digestEvents 5 = .ok (.lload_n 1, 1) := by decide +kernel
theorem dX11_digestEvents_6 : decode cX11_digestEvents 6 = .ok (.lstore 4, 2) := by decide +kernel
theorem dX11_digestEvents_8 : decode cX11_digestEvents 8 = .ok (.iconst 0, 1) := by decide +kernel
theorem dX11_digestEvents_9 : decode cX11_digestEvents 9 = .ok (.istore 6, 2) := by decide +kernel
theorem dX11_digestEvents_11 : decode cX11_digestEvents 11 = .ok (.iload 6, 2) := by decide +kernel
theorem dX11_digestEvents_13 : decode cX11_digestEvents 13 = .ok (.aload_n 0, 1) := by decide +kernel
theorem dX11_digestEvents_14 : decode cX11_digestEvents 14 = .ok (.getfield 20, 3) := by decide +kernel
theorem dX11_digestEvents_17 : decode cX11_digestEvents 17 = .ok (.getfield 55, 3) := by decide +kernel
theorem dX11_digestEvents_20 : decode cX11_digestEvents 20 = .ok (.if_icmp .ge 107, 3) := by decide +kernel
theorem dX11_digestEvents_23 : decode cX11_digestEvents 23 = .ok (.aload_n 0, 1) := by decide +kernel
theorem dX11_digestEvents_24 : decode cX11_digestEvents 24 = .ok (.iload 6, 2) := by decide +kernel
theorem dX11_digestEvents_26 : decode cX11_digestEvents 26 = .ok (.invokevirtual 172, 3) := by decide +kernel
theorem dX11_digestEvents_29 : decode cX11_digestEvents 29 = .ok (.ifCond .le 7, 3) := by decide +kernel
theorem dX11_digestEvents_32 : decode cX11_digestEvents 32 = .ok (.iconst 1, 1) := by decide +kernel
theorem dX11_digestEvents_33 : decode cX11_digestEvents 33 = .ok (.goto 4, 3) := by decide +kernel
theorem dX11_digestEvents_36 : decode cX11_digestEvents 36 = .ok (.iconst 0, 1) := by decide +kernel
theorem dX11_digestEvents_37 : decode cX11_digestEvents 37 = .ok (.istore 7, 2) := by decide +kernel
theorem dX11_digestEvents_39 : decode cX11_digestEvents 39 = .ok (.lload 4, 2) := by decide +kernel
theorem dX11_digestEvents_41 : decode cX11_digestEvents 41 = .ok (.ldc2_w 412, 3) := by decide +kernel
theorem dX11_digestEvents_44 : decode cX11_digestEvents 44 = .ok (.lmul, 1) := by decide +kernel
theorem dX11_digestEvents_45 : decode cX11_digestEvents 45 = .ok (.iload 7, 2) := by decide +kernel
theorem dX11_digestEvents_47 : decode cX11_digestEvents 47 = .ok (.invokestatic 165, 3) := by decide +kernel
theorem dX11_digestEvents_50 : decode cX11_digestEvents 50 = .ok (.i2l, 1) := by decide +kernel
theorem dX11_digestEvents_51 : decode cX11_digestEvents 51 = .ok (.ladd, 1) := by decide +kernel
theorem dX11_digestEvents_52 : decode cX11_digestEvents 52 = .ok (.ldc2_w 412, 3) := by decide +kernel
theorem dX11_digestEvents_55 : decode cX11_digestEvents 55 = .ok (.lmul, 1) := by decide +kernel
theorem dX11_digestEvents_56 : decode cX11_digestEvents 56 = .ok (.iload 7, 2) := by decide +kernel
theorem dX11_digestEvents_58 : decode cX11_digestEvents 58 = .ok (.ifCond .eq 12, 3) := by decide +kernel
theorem dX11_digestEvents_61 : decode cX11_digestEvents 61 = .ok (.aload_n 0, 1) := by decide +kernel
theorem dX11_digestEvents_62 : decode cX11_digestEvents 62 = .ok (.iload 6, 2) := by decide +kernel
theorem dX11_digestEvents_64 : decode cX11_digestEvents 64 = .ok (.invokevirtual 131, 3) := by decide +kernel
theorem dX11_digestEvents_67 : decode cX11_digestEvents 67 = .ok (.goto 4, 3) := by decide +kernel
theorem dX11_digestEvents_70 : decode cX11_digestEvents 70 = .ok (.iconst (-1), 1) := by decide +kernel
theorem dX11_digestEvents_71 : decode cX11_digestEvents 71 = .ok (.i2l, 1) := by decide +kernel
theorem dX11_digestEvents_72 : decode cX11_digestEvents 72 = .ok (.ladd, 1) := by decide +kernel
theorem dX11_digestEvents_73 : decode cX11_digestEvents 73 = .ok (.lstore 4, 2) := by decide +kernel
theorem dX11_digestEvents_75 : decode cX11_digestEvents 75 = .ok (.lload 4, 2) := by decide +kernel
theorem dX11_digestEvents_77 : decode cX11_digestEvents 77 = .ok (.ldc2_w 412, 3) := by decide +kernel
theorem dX11_digestEvents_80 : decode cX11_digestEvents 80 = .ok (.lmul, 1) := by decide +kernel
theorem dX11_digestEvents_81 : decode cX11_digestEvents 81 = .ok (.iload 7, 2) := by decide +kernel
theorem dX11_digestEvents_83 : decode cX11_digestEvents 83 = .ok (.ifCond .eq 12, 3) := by decide +kernel
theorem dX11_digestEvents_86 : decode cX11_digestEvents 86 = .ok (.aload_n 0, 1) := by decide +kernel
theorem dX11_digestEvents_87 : decode cX11_digestEvents 87 = .ok (.iload 6, 2) := by decide +kernel
theorem dX11_digestEvents_89 : decode cX11_digestEvents 89 = .ok (.invokevirtual 128, 3) := by decide +kernel
theorem dX11_digestEvents_92 : decode cX11_digestEvents 92 = .ok (.goto 4, 3) := by decide +kernel
theorem dX11_digestEvents_95 : decode cX11_digestEvents 95 = .ok (.iconst (-1), 1) := by decide +kernel
theorem dX11_digestEvents_96 : decode cX11_digestEvents 96 = .ok (.i2l, 1) := by decide +kernel
theorem dX11_digestEvents_97 : decode cX11_digestEvents 97 = .ok (.ladd, 1) := by decide +kernel
theorem dX11_digestEvents_98 : decode cX11_digestEvents 98 = .ok (.ldc2_w 412, 3) := by decide +kernel
theorem dX11_digestEvents_101 : decode cX11_digestEvents 101 = .ok (.lmul, 1) := by decide +kernel
theorem dX11_digestEvents_102 : decode cX11_digestEvents 102 = .ok (.iload_n 3, 1) := by decide +kernel
theorem dX11_digestEvents_103 : decode cX11_digestEvents 103 = .ok (.ifCond .eq 13, 3) := by decide +kernel
theorem dX11_digestEvents_106 : decode cX11_digestEvents 106 = .ok (.aload_n 0, 1) := by decide +kernel
theorem dX11_digestEvents_107 : decode cX11_digestEvents 107 = .ok (.getfield 46, 3) := by decide +kernel
theorem dX11_digestEvents_110 : decode cX11_digestEvents 110 = .ok (.iload 6, 2) := by decide +kernel
theorem dX11_digestEvents_112 : decode cX11_digestEvents 112 = .ok (.iaload, 1) := by decide +kernel
theorem dX11_digestEvents_113 : decode cX11_digestEvents 113 = .ok (.goto 4, 3) := by decide +kernel
theorem dX11_digestEvents_116 : decode cX11_digestEvents 116 = .ok (.iconst (-1), 1) := by decide +kernel
theorem dX11_digestEvents_117 : decode cX11_digestEvents 117 = .ok (.i2l, 1) := by decide +kernel
theorem dX11_digestEvents_118 : decode cX11_digestEvents 118 = .ok (.ladd, 1) := by decide +kernel
theorem dX11_digestEvents_119 : decode cX11_digestEvents 119 = .ok (.lstore 4, 2) := by decide +kernel
theorem dX11_digestEvents_121 : decode cX11_digestEvents 121 = .ok (.iinc 6 1, 3) := by decide +kernel
theorem dX11_digestEvents_124 : decode cX11_digestEvents 124 = .ok (.goto (-113), 3) := by decide +kernel
theorem dX11_digestEvents_127 : decode cX11_digestEvents 127 = .ok (.lload 4, 2) := by decide +kernel
theorem dX11_digestEvents_129 : decode cX11_digestEvents 129 = .ok (.lreturn, 1) := by decide +kernel
theorem dX11_digest_0 : decode cX11_digest 0 = .ok (.aload_n 0, 1) := by decide +kernel
theorem dX11_digest_1 : decode cX11_digest 1 = .ok (.iconst 0, 1) := by decide +kernel
theorem dX11_digest_2 : decode cX11_digest 2 = .ok (.putfield 52, 3) := by decide +kernel
theorem dX11_digest_5 : decode cX11_digest 5 = .ok (.bipush 9, 2) := by decide +kernel
theorem dX11_digest_7 : decode cX11_digest 7 = .ok (.newarray .int, 2) := by decide +kernel
theorem dX11_digest_9 : decode cX11_digest 9 = .ok (.dup, 1) := by decide +kernel
theorem dX11_digest_10 : decode cX11_digest 10 = .ok (.iconst 0, 1) := by decide +kernel
theorem dX11_digest_11 : decode cX11_digest 11 = .ok (.aload_n 0, 1) := by decide +kernel
theorem dX11_digest_12 : decode cX11_digest 12 = .ok (.getfield 20, 3) := by decide +kernel
theorem dX11_digest_15 : decode cX11_digest 15 = .ok (.getfield 55, 3) := by decide +kernel
theorem dX11_digest_18 : decode cX11_digest 18 = .ok (.iastore, 1) := by decide +kernel
theorem dX11_digest_19 : decode cX11_digest 19 = .ok (.dup, 1) := by decide +kernel
theorem dX11_digest_20 : decode cX11_digest 20 = .ok (.iconst 1, 1) := by decide +kernel
theorem dX11_digest_21 : decode cX11_digest 21 = .ok (.aload_n 0, 1) := by decide +kernel
theorem dX11_digest_22 : decode cX11_digest 22 = .ok (.getfield 20, 3) := by decide +kernel
theorem dX11_digest_25 : decode cX11_digest 25 = .ok (.getfield 62, 3) := by decide +kernel
theorem dX11_digest_28 : decode cX11_digest 28 = .ok (.iastore, 1) := by decide +kernel
theorem dX11_digest_29 : decode cX11_digest 29 = .ok (.dup, 1) := by decide +kernel
theorem dX11_digest_30 : decode cX11_digest 30 = .ok (.iconst 2, 1) := by decide +kernel
theorem dX11_digest_31 : decode cX11_digest 31 = .ok (.aload_n 0, 1) := by decide +kernel
theorem dX11_digest_32 : decode cX11_digest 32 = .ok (.getfield 20, 3) := by decide +kernel
theorem dX11_digest_35 : decode cX11_digest 35 = .ok (.getfield 65, 3) := by decide +kernel
theorem dX11_digest_38 : decode cX11_digest 38 = .ok (.iastore, 1) := by decide +kernel
theorem dX11_digest_39 : decode cX11_digest 39 = .ok (.dup, 1) := by decide +kernel
theorem dX11_digest_40 : decode cX11_digest 40 = .ok (.iconst 3, 1) := by decide +kernel
theorem dX11_digest_41 : decode cX11_digest 41 = .ok (.aload_n 0, 1) := by decide +kernel
theorem dX11_digest_42 : decode cX11_digest 42 = .ok (.getfield 156, 3) := by decide +kernel
theorem dX11_digest_45 : decode cX11_digest 45 = .ok (.iastore, 1) := by decide +kernel
theorem dX11_digest_46 : decode cX11_digest 46 = .ok (.dup, 1) := by decide +kernel
theorem dX11_digest_47 : decode cX11_digest 47 = .ok (.iconst 4, 1) := by decide +kernel
theorem dX11_digest_48 : decode cX11_digest 48 = .ok (.aload_n 0, 1) := by decide +kernel
theorem dX11_digest_49 : decode cX11_digest 49 = .ok (.getfield 141, 3) := by decide +kernel
theorem dX11_digest_52 : decode cX11_digest 52 = .ok (.iastore, 1) := by decide +kernel
theorem dX11_digest_53 : decode cX11_digest 53 = .ok (.dup, 1) := by decide +kernel
theorem dX11_digest_54 : decode cX11_digest 54 = .ok (.iconst 5, 1) := by decide +kernel
theorem dX11_digest_55 : decode cX11_digest 55 = .ok (.aload_n 0, 1) := by decide +kernel
theorem dX11_digest_56 : decode cX11_digest 56 = .ok (.aload_n 0, 1) := by decide +kernel
theorem dX11_digest_57 : decode cX11_digest 57 = .ok (.invokevirtual 91, 3) := by decide +kernel
theorem dX11_digest_60 : decode cX11_digest 60 = .ok (.invokevirtual 162, 3) := by decide +kernel
theorem dX11_digest_63 : decode cX11_digest 63 = .ok (.iastore, 1) := by decide +kernel
theorem dX11_digest_64 : decode cX11_digest 64 = .ok (.dup, 1) := by decide +kernel
theorem dX11_digest_65 : decode cX11_digest 65 = .ok (.bipush 6, 2) := by decide +kernel
theorem dX11_digest_67 : decode cX11_digest 67 = .ok (.aload_n 0, 1) := by decide +kernel
theorem dX11_digest_68 : decode cX11_digest 68 = .ok (.invokevirtual 159, 3) := by decide +kernel
theorem dX11_digest_71 : decode cX11_digest 71 = .ok (.iastore, 1) := by decide +kernel
theorem dX11_digest_72 : decode cX11_digest 72 = .ok (.dup, 1) := by decide +kernel
theorem dX11_digest_73 : decode cX11_digest 73 = .ok (.bipush 7, 2) := by decide +kernel
theorem dX11_digest_75 : decode cX11_digest 75 = .ok (.aload_n 0, 1) := by decide +kernel
theorem dX11_digest_76 : decode cX11_digest 76 = .ok (.getfield 107, 3) := by decide +kernel
theorem dX11_digest_79 : decode cX11_digest 79 = .ok (.iastore, 1) := by decide +kernel
theorem dX11_digest_80 : decode cX11_digest 80 = .ok (.dup, 1) := by decide +kernel
theorem dX11_digest_81 : decode cX11_digest 81 = .ok (.bipush 8, 2) := by decide +kernel
theorem dX11_digest_83 : decode cX11_digest 83 = .ok (.aload_n 0, 1) := by decide +kernel
theorem dX11_digest_84 : decode cX11_digest 84 = .ok (.invokevirtual 394, 3) := by decide +kernel
theorem dX11_digest_87 : decode cX11_digest 87 = .ok (.invokestatic 165, 3) := by decide +kernel
theorem dX11_digest_90 : decode cX11_digest 90 = .ok (.iastore, 1) := by decide +kernel
theorem dX11_digest_91 : decode cX11_digest 91 = .ok (.astore_n 1, 1) := by decide +kernel
theorem dX11_digest_92 : decode cX11_digest 92 = .ok (.ldc2_w 414, 3) := by decide +kernel
theorem dX11_digest_95 : decode cX11_digest 95 = .ok (.lstore_n 2, 1) := by decide +kernel
theorem dX11_digest_96 : decode cX11_digest 96 = .ok (.aload_n 1, 1) := by decide +kernel
theorem dX11_digest_97 : decode cX11_digest 97 = .ok (.astore 4, 2) := by decide +kernel
theorem dX11_digest_99 : decode cX11_digest 99 = .ok (.aload 4, 2) := by decide +kernel
theorem dX11_digest_101 : decode cX11_digest 101 = .ok (.arraylength, 1) := by decide +kernel
theorem dX11_digest_102 : decode cX11_digest 102 = .ok (.istore 5, 2) := by decide +kernel
theorem dX11_digest_104 : decode cX11_digest 104 = .ok (.iconst 0, 1) := by decide +kernel
theorem dX11_digest_105 : decode cX11_digest 105 = .ok (.istore 6, 2) := by decide +kernel
theorem dX11_digest_107 : decode cX11_digest 107 = .ok (.iload 6, 2) := by decide +kernel
theorem dX11_digest_109 : decode cX11_digest 109 = .ok (.iload 5, 2) := by decide +kernel
theorem dX11_digest_111 : decode cX11_digest 111 = .ok (.if_icmp .ge 26, 3) := by decide +kernel
theorem dX11_digest_114 : decode cX11_digest 114 = .ok (.aload 4, 2) := by decide +kernel
theorem dX11_digest_116 : decode cX11_digest 116 = .ok (.iload 6, 2) := by decide +kernel
theorem dX11_digest_118 : decode cX11_digest 118 = .ok (.iaload, 1) := by decide +kernel
theorem dX11_digest_119 : decode cX11_digest 119 = .ok (.istore 7, 2) := by decide +kernel
theorem dX11_digest_121 : decode cX11_digest 121 = .ok (.lload_n 2, 1) := by decide +kernel
theorem dX11_digest_122 : decode cX11_digest 122 = .ok (.ldc2_w 412, 3) := by decide +kernel
theorem dX11_digest_125 : decode cX11_digest 125 = .ok (.lmul, 1) := by decide +kernel
theorem dX11_digest_126 : decode cX11_digest 126 = .ok (.iload 7, 2) := by decide +kernel
theorem dX11_digest_128 : decode cX11_digest 128 = .ok (.i2l, 1) := by decide +kernel
theorem dX11_digest_129 : decode cX11_digest 129 = .ok (.ladd, 1) := by decide +kernel
theorem dX11_digest_130 : decode cX11_digest 130 = .ok (.lstore_n 2, 1) := by decide +kernel
theorem dX11_digest_131 : decode cX11_digest 131 = .ok (.iinc 6 1, 3) := by decide +kernel
theorem dX11_digest_134 : decode cX11_digest 134 = .ok (.goto (-27), 3) := by decide +kernel
theorem dX11_digest_137 : decode cX11_digest 137 = .ok (.iconst 0, 1) := by decide +kernel
theorem dX11_digest_138 : decode cX11_digest 138 = .ok (.istore 4, 2) := by decide +kernel
theorem dX11_digest_140 : decode cX11_digest 140 = .ok (.iload 4, 2) := by decide +kernel
theorem dX11_digest_142 : decode cX11_digest 142 = .ok (.aload_n 0, 1) := by decide +kernel
theorem dX11_digest_143 : decode cX11_digest 143 = .ok (.getfield 20, 3) := by decide +kernel
theorem dX11_digest_146 : decode cX11_digest 146 = .ok (.getfield 65, 3) := by decide +kernel
theorem dX11_digest_149 : decode cX11_digest 149 = .ok (.if_icmp .ge 59, 3) := by decide +kernel
theorem dX11_digest_152 : decode cX11_digest 152 = .ok (.lload_n 2, 1) := by decide +kernel
theorem dX11_digest_153 : decode cX11_digest 153 = .ok (.ldc2_w 412, 3) := by decide +kernel
theorem dX11_digest_156 : decode cX11_digest 156 = .ok (.lmul, 1) := by decide +kernel
theorem dX11_digest_157 : decode cX11_digest 157 = .ok (.aload_n 0, 1) := by decide +kernel
theorem dX11_digest_158 : decode cX11_digest 158 = .ok (.getfield 20, 3) := by decide +kernel
theorem dX11_digest_161 : decode cX11_digest 161 = .ok (.getfield 82, 3) := by decide +kernel
theorem dX11_digest_164 : decode cX11_digest 164 = .ok (.iload 4, 2) := by decide +kernel
theorem dX11_digest_166 : decode cX11_digest 166 = .ok (.iaload, 1) := by decide +kernel
theorem dX11_digest_167 : decode cX11_digest 167 = .ok (.i2l, 1) := by decide +kernel
theorem dX11_digest_168 : decode cX11_digest 168 = .ok (.ladd, 1) := by decide +kernel
theorem dX11_digest_169 : decode cX11_digest 169 = .ok (.ldc2_w 412, 3) := by decide +kernel
theorem dX11_digest_172 : decode cX11_digest 172 = .ok (.lmul, 1) := by decide +kernel
theorem dX11_digest_173 : decode cX11_digest 173 = .ok (.aload_n 0, 1) := by decide +kernel
theorem dX11_digest_174 : decode cX11_digest 174 = .ok (.getfield 20, 3) := by decide +kernel
theorem dX11_digest_177 : decode cX11_digest 177 = .ok (.getfield 68, 3) := by decide +kernel
theorem dX11_digest_180 : decode cX11_digest 180 = .ok (.iload 4, 2) := by decide +kernel
theorem dX11_digest_182 : decode cX11_digest 182 = .ok (.iaload, 1) := by decide +kernel
theorem dX11_digest_183 : decode cX11_digest 183 = .ok (.i2l, 1) := by decide +kernel
theorem dX11_digest_184 : decode cX11_digest 184 = .ok (.ladd, 1) := by decide +kernel
theorem dX11_digest_185 : decode cX11_digest 185 = .ok (.ldc2_w 412, 3) := by decide +kernel
theorem dX11_digest_188 : decode cX11_digest 188 = .ok (.lmul, 1) := by decide +kernel
theorem dX11_digest_189 : decode cX11_digest 189 = .ok (.aload_n 0, 1) := by decide +kernel
theorem dX11_digest_190 : decode cX11_digest 190 = .ok (.getfield 20, 3) := by decide +kernel
theorem dX11_digest_193 : decode cX11_digest 193 = .ok (.getfield 73, 3) := by decide +kernel
theorem dX11_digest_196 : decode cX11_digest 196 = .ok (.iload 4, 2) := by decide +kernel
theorem dX11_digest_198 : decode cX11_digest 198 = .ok (.iaload, 1) := by decide +kernel
theorem dX11_digest_199 : decode cX11_digest 199 = .ok (.i2l, 1) := by decide +kernel
theorem dX11_digest_200 : decode cX11_digest 200 = .ok (.ladd, 1) := by decide +kernel
theorem dX11_digest_201 : decode cX11_digest 201 = .ok (.lstore_n 2, 1) := by decide +kernel
theorem dX11_digest_202 : decode cX11_digest 202 = .ok (.iinc 4 1, 3) := by decide +kernel
theorem dX11_digest_205 : decode cX11_digest 205 = .ok (.goto (-65), 3) := by decide +kernel
theorem dX11_digest_208 : decode cX11_digest 208 = .ok (.iconst 0, 1) := by decide +kernel
theorem dX11_digest_209 : decode cX11_digest 209 = .ok (.istore 4, 2) := by decide +kernel
theorem dX11_digest_211 : decode cX11_digest 211 = .ok (.iload 4, 2) := by decide +kernel
theorem dX11_digest_213 : decode cX11_digest 213 = .ok (.aload_n 0, 1) := by decide +kernel
theorem dX11_digest_214 : decode cX11_digest 214 = .ok (.getfield 20, 3) := by decide +kernel
theorem dX11_digest_217 : decode cX11_digest 217 = .ok (.getfield 62, 3) := by decide +kernel
theorem dX11_digest_220 : decode cX11_digest 220 = .ok (.if_icmp .ge 96, 3) := by decide +kernel
theorem dX11_digest_223 : decode cX11_digest 223 = .ok (.lload_n 2, 1) := by decide +kernel
theorem dX11_digest_224 : decode cX11_digest 224 = .ok (.ldc2_w 412, 3) := by decide +kernel
theorem dX11_digest_227 : decode cX11_digest 227 = .ok (.lmul, 1) := by decide +kernel
theorem dX11_digest_228 : decode cX11_digest 228 = .ok (.aload_n 0, 1) := by decide +kernel
theorem dX11_digest_229 : decode cX11_digest 229 = .ok (.iload 4, 2) := by decide +kernel
theorem dX11_digest_231 : decode cX11_digest 231 = .ok (.invokevirtual 169, 3) := by decide +kernel
theorem dX11_digest_234 : decode cX11_digest 234 = .ok (.i2l, 1) := by decide +kernel
theorem dX11_digest_235 : decode cX11_digest 235 = .ok (.ladd, 1) := by decide +kernel
theorem dX11_digest_236 : decode cX11_digest 236 = .ok (.ldc2_w 412, 3) := by decide +kernel
theorem dX11_digest_239 : decode cX11_digest 239 = .ok (.lmul, 1) := by decide +kernel
theorem dX11_digest_240 : decode cX11_digest 240 = .ok (.aload_n 0, 1) := by decide +kernel
theorem dX11_digest_241 : decode cX11_digest 241 = .ok (.getfield 85, 3) := by decide +kernel
theorem dX11_digest_244 : decode cX11_digest 244 = .ok (.iload 4, 2) := by decide +kernel
theorem dX11_digest_246 : decode cX11_digest 246 = .ok (.invokestatic 88, 3) := by decide +kernel
theorem dX11_digest_249 : decode cX11_digest 249 = .ok (.invokestatic 165, 3) := by decide +kernel
theorem dX11_digest_252 : decode cX11_digest 252 = .ok (.i2l, 1) := by decide +kernel
theorem dX11_digest_253 : decode cX11_digest 253 = .ok (.ladd, 1) := by decide +kernel
theorem dX11_digest_254 : decode cX11_digest 254 = .ok (.ldc2_w 412, 3) := by decide +kernel
theorem dX11_digest_257 : decode cX11_digest 257 = .ok (.lmul, 1) := by decide +kernel
theorem dX11_digest_258 : decode cX11_digest 258 = .ok (.aload_n 0, 1) := by decide +kernel
theorem dX11_digest_259 : decode cX11_digest 259 = .ok (.iload 4, 2) := by decide +kernel
theorem dX11_digest_261 : decode cX11_digest 261 = .ok (.invokevirtual 178, 3) := by decide +kernel
theorem dX11_digest_264 : decode cX11_digest 264 = .ok (.invokestatic 165, 3) := by decide +kernel
theorem dX11_digest_267 : decode cX11_digest 267 = .ok (.i2l, 1) := by decide +kernel
theorem dX11_digest_268 : decode cX11_digest 268 = .ok (.ladd, 1) := by decide +kernel
theorem dX11_digest_269 : decode cX11_digest 269 = .ok (.lstore_n 2, 1) := by decide +kernel
theorem dX11_digest_270 : decode cX11_digest 270 = .ok (.iconst 0, 1) := by decide +kernel
theorem dX11_digest_271 : decode cX11_digest 271 = .ok (.istore 5, 2) := by decide +kernel
theorem dX11_digest_273 : decode cX11_digest 273 = .ok (.iload 5, 2) := by decide +kernel
theorem dX11_digest_275 : decode cX11_digest 275 = .ok (.aload_n 0, 1) := by decide +kernel
theorem dX11_digest_276 : decode cX11_digest 276 = .ok (.getfield 20, 3) := by decide +kernel
theorem dX11_digest_279 : decode cX11_digest 279 = .ok (.getfield 62, 3) := by decide +kernel
theorem dX11_digest_282 : decode cX11_digest 282 = .ok (.if_icmp .ge 28, 3) := by decide +kernel
theorem dX11_digest_285 : decode cX11_digest 285 = .ok (.lload_n 2, 1) := by decide +kernel
theorem dX11_digest_286 : decode cX11_digest 286 = .ok (.ldc2_w 412, 3) := by decide +kernel
theorem dX11_digest_289 : decode cX11_digest 289 = .ok (.lmul, 1) := by decide +kernel
theorem dX11_digest_290 : decode cX11_digest 290 = .ok (.aload_n 0, 1) := by decide +kernel
theorem dX11_digest_291 : decode cX11_digest 291 = .ok (.iload 4, 2) := by decide +kernel
theorem dX11_digest_293 : decode cX11_digest 293 = .ok (.iload 5, 2) := by decide +kernel
theorem dX11_digest_295 : decode cX11_digest 295 = .ok (.invokevirtual 175, 3) := by decide +kernel
theorem dX11_digest_298 : decode cX11_digest 298 = .ok (.invokestatic 165, 3) := by decide +kernel
theorem dX11_digest_301 : decode cX11_digest 301 = .ok (.i2l, 1) := by decide +kernel
theorem dX11_digest_302 : decode cX11_digest 302 = .ok (.ladd, 1) := by decide +kernel
theorem dX11_digest_303 : decode cX11_digest 303 = .ok (.lstore_n 2, 1) := by decide +kernel
theorem dX11_digest_304 : decode cX11_digest 304 = .ok (.iinc 5 1, 3) := by decide +kernel
theorem dX11_digest_307 : decode cX11_digest 307 = .ok (.goto (-34), 3) := by decide +kernel
theorem dX11_digest_310 : decode cX11_digest 310 = .ok (.iinc 4 1, 3) := by decide +kernel
theorem dX11_digest_313 : decode cX11_digest 313 = .ok (.goto (-102), 3) := by decide +kernel
theorem dX11_digest_316 : decode cX11_digest 316 = .ok (.aload_n 0, 1) := by decide +kernel
theorem dX11_digest_317 : decode cX11_digest 317 = .ok (.lload_n 2, 1) := by decide +kernel
theorem dX11_digest_318 : decode cX11_digest 318 = .ok (.invokevirtual 416, 3) := by decide +kernel
theorem dX11_digest_321 : decode cX11_digest 321 = .ok (.lreturn, 1) := by decide +kernel
theorem dJ11_isValidCodePoint_9a6ad_0 : decode cJ11_isValidCodePoint_9a6ad 0 = .ok (.iload_n 0, 1) := by decide +kernel
theorem dJ11_isValidCodePoint_9a6ad_1 : decode cJ11_isValidCodePoint_9a6ad 1 = .ok (.bipush 16, 2) := by decide +kernel
theorem dJ11_isValidCodePoint_9a6ad_3 : decode cJ11_isValidCodePoint_9a6ad 3 = .ok (.iushr, 1) := by decide +kernel
theorem dJ11_isValidCodePoint_9a6ad_4 : decode cJ11_isValidCodePoint_9a6ad 4 = .ok (.istore_n 1, 1) := by decide +kernel
theorem dJ11_isValidCodePoint_9a6ad_5 : decode cJ11_isValidCodePoint_9a6ad 5 = .ok (.iload_n 1, 1) := by decide +kernel
theorem dJ11_isValidCodePoint_9a6ad_6 : decode cJ11_isValidCodePoint_9a6ad 6 = .ok (.bipush 17, 2) := by decide +kernel
theorem dJ11_isValidCodePoint_9a6ad_8 : decode cJ11_isValidCodePoint_9a6ad 8 = .ok (.if_icmp .ge 7, 3) := by decide +kernel
theorem dJ11_isValidCodePoint_9a6ad_11 : decode cJ11_isValidCodePoint_9a6ad 11 = .ok (.iconst 1, 1) := by decide +kernel
theorem dJ11_isValidCodePoint_9a6ad_12 : decode cJ11_isValidCodePoint_9a6ad 12 = .ok (.goto 4, 3) := by decide +kernel
theorem dJ11_isValidCodePoint_9a6ad_15 : decode cJ11_isValidCodePoint_9a6ad 15 = .ok (.iconst 0, 1) := by decide +kernel
theorem dJ11_isValidCodePoint_9a6ad_16 : decode cJ11_isValidCodePoint_9a6ad 16 = .ok (.ireturn, 1) := by decide +kernel
theorem dJ11_highSurrogate_5068e_0 : decode cJ11_highSurrogate_5068e 0 = .ok (.iload_n 0, 1) := by decide +kernel
theorem dJ11_highSurrogate_5068e_1 : decode cJ11_highSurrogate_5068e 1 = .ok (.bipush 10, 2) := by decide +kernel
theorem dJ11_highSurrogate_5068e_3 : decode cJ11_highSurrogate_5068e 3 = .ok (.iushr, 1) := by decide +kernel
theorem dJ11_highSurrogate_5068e_4 : decode cJ11_highSurrogate_5068e 4 = .ok (.ldc 110, 2) := by decide +kernel
theorem dJ11_highSurrogate_5068e_6 : decode cJ11_highSurrogate_5068e 6 = .ok (.iadd, 1) := by decide +kernel
theorem dJ11_highSurrogate_5068e_7 : decode cJ11_highSurrogate_5068e 7 = .ok (.i2c, 1) := by decide +kernel
theorem dJ11_highSurrogate_5068e_8 : decode cJ11_highSurrogate_5068e 8 = .ok (.ireturn, 1) := by decide +kernel
theorem dJ11_lowSurrogate_5068e_0 : decode cJ11_lowSurrogate_5068e 0 = .ok (.iload_n 0, 1) := by decide +kernel
theorem dJ11_lowSurrogate_5068e_1 : decode cJ11_lowSurrogate_5068e 1 = .ok (.sipush 1023, 3) := by decide +kernel
theorem dJ11_lowSurrogate_5068e_4 : decode cJ11_lowSurrogate_5068e 4 = .ok (.iand, 1) := by decide +kernel
theorem dJ11_lowSurrogate_5068e_5 : decode cJ11_lowSurrogate_5068e 5 = .ok (.ldc 76, 2) := by decide +kernel
theorem dJ11_lowSurrogate_5068e_7 : decode cJ11_lowSurrogate_5068e 7 = .ok (.iadd, 1) := by decide +kernel
theorem dJ11_lowSurrogate_5068e_8 : decode cJ11_lowSurrogate_5068e 8 = .ok (.i2c, 1) := by decide +kernel
theorem dJ11_lowSurrogate_5068e_9 : decode cJ11_lowSurrogate_5068e 9 = .ok (.ireturn, 1) := by decide +kernel
theorem dJ6_bitCount_0f7a4_0 : decode cJ6_bitCount_0f7a4 0 = .ok (.iload_n 0, 1) := by decide +kernel
theorem dJ6_bitCount_0f7a4_1 : decode cJ6_bitCount_0f7a4 1 = .ok (.iload_n 0, 1) := by decide +kernel
theorem dJ6_bitCount_0f7a4_2 : decode cJ6_bitCount_0f7a4 2 = .ok (.iconst 1, 1) := by decide +kernel
theorem dJ6_bitCount_0f7a4_3 : decode cJ6_bitCount_0f7a4 3 = .ok (.iushr, 1) := by decide +kernel
theorem dJ6_bitCount_0f7a4_4 : decode cJ6_bitCount_0f7a4 4 = .ok (.ldc_w 265, 3) := by decide +kernel
theorem dJ6_bitCount_0f7a4_7 : decode cJ6_bitCount_0f7a4 7 = .ok (.iand, 1) := by decide +kernel
theorem dJ6_bitCount_0f7a4_8 : decode cJ6_bitCount_0f7a4 8 = .ok (.isub, 1) := by decide +kernel
theorem dJ6_bitCount_0f7a4_9 : decode cJ6_bitCount_0f7a4 9 = .ok (.istore_n 0, 1) := by decide +kernel
theorem dJ6_bitCount_0f7a4_10 : decode cJ6_bitCount_0f7a4 10 = .ok (.iload_n 0, 1) := by decide +kernel
theorem dJ6_bitCount_0f7a4_11 : decode cJ6_bitCount_0f7a4 11 = .ok (.ldc_w 266, 3) := by decide +kernel
theorem dJ6_bitCount_0f7a4_14 : decode cJ6_bitCount_0f7a4 14 = .ok (.iand, 1) := by decide +kernel
theorem dJ6_bitCount_0f7a4_15 : decode cJ6_bitCount_0f7a4 15 = .ok (.iload_n 0, 1) := by decide +kernel
theorem dJ6_bitCount_0f7a4_16 : decode cJ6_bitCount_0f7a4 16 = .ok (.iconst 2, 1) := by decide +kernel
theorem dJ6_bitCount_0f7a4_17 : decode cJ6_bitCount_0f7a4 17 = .ok (.iushr, 1) := by decide +kernel
theorem dJ6_bitCount_0f7a4_18 : decode cJ6_bitCount_0f7a4 18 = .ok (.ldc_w 266, 3) := by decide +kernel
theorem dJ6_bitCount_0f7a4_21 : decode cJ6_bitCount_0f7a4 21 = .ok (.iand, 1) := by decide +kernel
theorem dJ6_bitCount_0f7a4_22 : decode cJ6_bitCount_0f7a4 22 = .ok (.iadd, 1) := by decide +kernel
theorem dJ6_bitCount_0f7a4_23 : decode cJ6_bitCount_0f7a4 23 = .ok (.istore_n 0, 1) := by decide +kernel
theorem dJ6_bitCount_0f7a4_24 : decode cJ6_bitCount_0f7a4 24 = .ok (.iload_n 0, 1) := by decide +kernel
theorem dJ6_bitCount_0f7a4_25 : decode cJ6_bitCount_0f7a4 25 = .ok (.iload_n 0, 1) := by decide +kernel
theorem dJ6_bitCount_0f7a4_26 : decode cJ6_bitCount_0f7a4 26 = .ok (.iconst 4, 1) := by decide +kernel
theorem dJ6_bitCount_0f7a4_27 : decode cJ6_bitCount_0f7a4 27 = .ok (.iushr, 1) := by decide +kernel
theorem dJ6_bitCount_0f7a4_28 : decode cJ6_bitCount_0f7a4 28 = .ok (.iadd, 1) := by decide +kernel
theorem dJ6_bitCount_0f7a4_29 : decode cJ6_bitCount_0f7a4 29 = .ok (.ldc_w 267, 3) := by decide +kernel
theorem dJ6_bitCount_0f7a4_32 : decode cJ6_bitCount_0f7a4 32 = .ok (.iand, 1) := by decide +kernel
theorem dJ6_bitCount_0f7a4_33 : decode cJ6_bitCount_0f7a4 33 = .ok (.istore_n 0, 1) := by decide +kernel
theorem dJ6_bitCount_0f7a4_34 : decode cJ6_bitCount_0f7a4 34 = .ok (.iload_n 0, 1) := by decide +kernel
theorem dJ6_bitCount_0f7a4_35 : decode cJ6_bitCount_0f7a4 35 = .ok (.iload_n 0, 1) := by decide +kernel
theorem dJ6_bitCount_0f7a4_36 : decode cJ6_bitCount_0f7a4 36 = .ok (.bipush 8, 2) := by decide +kernel
theorem dJ6_bitCount_0f7a4_38 : decode cJ6_bitCount_0f7a4 38 = .ok (.iushr, 1) := by decide +kernel
theorem dJ6_bitCount_0f7a4_39 : decode cJ6_bitCount_0f7a4 39 = .ok (.iadd, 1) := by decide +kernel
theorem dJ6_bitCount_0f7a4_40 : decode cJ6_bitCount_0f7a4 40 = .ok (.istore_n 0, 1) := by decide +kernel
theorem dJ6_bitCount_0f7a4_41 : decode cJ6_bitCount_0f7a4 41 = .ok (.iload_n 0, 1) := by decide +kernel
theorem dJ6_bitCount_0f7a4_42 : decode cJ6_bitCount_0f7a4 42 = .ok (.iload_n 0, 1) := by decide +kernel
theorem dJ6_bitCount_0f7a4_43 : decode cJ6_bitCount_0f7a4 43 = .ok (.bipush 16, 2) := by decide +kernel
theorem dJ6_bitCount_0f7a4_45 : decode cJ6_bitCount_0f7a4 45 = .ok (.iushr, 1) := by decide +kernel
theorem dJ6_bitCount_0f7a4_46 : decode cJ6_bitCount_0f7a4 46 = .ok (.iadd, 1) := by decide +kernel
theorem dJ6_bitCount_0f7a4_47 : decode cJ6_bitCount_0f7a4 47 = .ok (.istore_n 0, 1) := by decide +kernel
theorem dJ6_bitCount_0f7a4_48 : decode cJ6_bitCount_0f7a4 48 = .ok (.iload_n 0, 1) := by decide +kernel
theorem dJ6_bitCount_0f7a4_49 : decode cJ6_bitCount_0f7a4 49 = .ok (.bipush 63, 2) := by decide +kernel
theorem dJ6_bitCount_0f7a4_51 : decode cJ6_bitCount_0f7a4 51 = .ok (.iand, 1) := by decide +kernel
theorem dJ6_bitCount_0f7a4_52 : decode cJ6_bitCount_0f7a4 52 = .ok (.ireturn, 1) := by decide +kernel
theorem dJ9_max_7cf53_0 : decode cJ9_max_7cf53 0 = .ok (.iload_n 0, 1) := by decide +kernel
theorem dJ9_max_7cf53_1 : decode cJ9_max_7cf53 1 = .ok (.iload_n 1, 1) := by decide +kernel
theorem dJ9_max_7cf53_2 : decode cJ9_max_7cf53 2 = .ok (.if_icmp .lt 7, 3) := by decide +kernel
theorem dJ9_max_7cf53_5 : decode cJ9_max_7cf53 5 = .ok (.iload_n 0, 1) := by decide +kernel
theorem dJ9_max_7cf53_6 : decode cJ9_max_7cf53 6 = .ok (.goto 4, 3) := by decide +kernel
theorem dJ9_max_7cf53_9 : decode cJ9_max_7cf53 9 = .ok (.iload_n 1, 1) := by decide +kernel
theorem dJ9_max_7cf53_10 : decode cJ9_max_7cf53 10 = .ok (.ireturn, 1) := by decide +kernel
theorem dJ9_min_7cf53_0 : decode cJ9_min_7cf53 0 = .ok (.iload_n 0, 1) := by decide +kernel
theorem dJ9_min_7cf53_1 : decode cJ9_min_7cf53 1 = .ok (.iload_n 1, 1) := by decide +kernel
theorem dJ9_min_7cf53_2 : decode cJ9_min_7cf53 2 = .ok (.if_icmp .gt 7, 3) := by decide +kernel
theorem dJ9_min_7cf53_5 : decode cJ9_min_7cf53 5 = .ok (.iload_n 0, 1) := by decide +kernel
theorem dJ9_min_7cf53_6 : decode cJ9_min_7cf53 6 = .ok (.goto 4, 3) := by decide +kernel
theorem dJ9_min_7cf53_9 : decode cJ9_min_7cf53 9 = .ok (.iload_n 1, 1) := by decide +kernel
theorem dJ9_min_7cf53_10 : decode cJ9_min_7cf53 10 = .ok (.ireturn, 1) := by decide +kernel
theorem dJ0_length_8abf5_0 : decode cJ0_length_8abf5 0 = .ok (.aload_n 0, 1) := by decide +kernel
theorem dJ0_length_8abf5_1 : decode cJ0_length_8abf5 1 = .ok (.getfield 9, 3) := by decide +kernel
theorem dJ0_length_8abf5_4 : decode cJ0_length_8abf5 4 = .ok (.arraylength, 1) := by decide +kernel
theorem dJ0_length_8abf5_5 : decode cJ0_length_8abf5 5 = .ok (.aload_n 0, 1) := by decide +kernel
theorem dJ0_length_8abf5_6 : decode cJ0_length_8abf5 6 = .ok (.invokevirtual 335, 3) := by decide +kernel
theorem dJ0_length_8abf5_9 : decode cJ0_length_8abf5 9 = .ok (.ishr, 1) := by decide +kernel
theorem dJ0_length_8abf5_10 : decode cJ0_length_8abf5 10 = .ok (.ireturn, 1) := by decide +kernel
theorem dJ0_charAt_5068e_0 : decode cJ0_charAt_5068e 0 = .ok (.aload_n 0, 1) := by decide +kernel
theorem dJ0_charAt_5068e_1 : decode cJ0_charAt_5068e 1 = .ok (.invokevirtual 492, 3) := by decide +kernel
theorem dJ0_charAt_5068e_4 : decode cJ0_charAt_5068e 4 = .ok (.ifCond .eq 12, 3) := by decide +kernel
theorem dJ0_charAt_5068e_7 : decode cJ0_charAt_5068e 7 = .ok (.aload_n 0, 1) := by decide +kernel
theorem dJ0_charAt_5068e_8 : decode cJ0_charAt_5068e 8 = .ok (.getfield 9, 3) := by decide +kernel
theorem dJ0_charAt_5068e_11 : decode cJ0_charAt_5068e 11 = .ok (.iload_n 1, 1) := by decide +kernel
theorem dJ0_charAt_5068e_12 : decode cJ0_charAt_5068e 12 = .ok (.invokestatic 495, 3) := by decide +kernel
theorem dJ0_charAt_5068e_15 : decode cJ0_charAt_5068e 15 = .ok (.ireturn, 1) := by decide +kernel
theorem dJ0_charAt_5068e_16 : decode cJ0_charAt_5068e 16 = .ok (.aload_n 0, 1) := by decide +kernel
theorem dJ0_charAt_5068e_17 : decode cJ0_charAt_5068e 17 = .ok (.getfield 9, 3) := by decide +kernel
theorem dJ0_charAt_5068e_20 : decode cJ0_charAt_5068e 20 = .ok (.iload_n 1, 1) := by decide +kernel
theorem dJ0_charAt_5068e_21 : decode cJ0_charAt_5068e 21 = .ok (.invokestatic 498, 3) := by decide +kernel
theorem dJ0_charAt_5068e_24 : decode cJ0_charAt_5068e 24 = .ok (.ireturn, 1) := by decide +kernel
theorem dJ0_indexOf_0f7a4_0 : decode cJ0_indexOf_0f7a4 0 = .ok (.aload_n 0, 1) := by decide +kernel
theorem dJ0_indexOf_0f7a4_1 : decode cJ0_indexOf_0f7a4 1 = .ok (.iload_n 1, 1) := by decide +kernel
theorem dJ0_indexOf_0f7a4_2 : decode cJ0_indexOf_0f7a4 2 = .ok (.iconst 0, 1) := by decide +kernel
theorem dJ0_indexOf_0f7a4_3 : decode cJ0_indexOf_0f7a4 3 = .ok (.invokevirtual 633, 3) := by decide +kernel
theorem dJ0_indexOf_0f7a4_6 : decode cJ0_indexOf_0f7a4 6 = .ok (.ireturn, 1) := by decide +kernel
theorem dJ0_indexOf_7cf53_0 : decode cJ0_indexOf_7cf53 0 = .ok (.aload_n 0, 1) := by decide +kernel
theorem dJ0_indexOf_7cf53_1 : decode cJ0_indexOf_7cf53 1 = .ok (.invokevirtual 492, 3) := by decide +kernel
theorem dJ0_indexOf_7cf53_4 : decode cJ0_indexOf_7cf53 4 = .ok (.ifCond .eq 19, 3) := by decide +kernel
theorem dJ0_indexOf_7cf53_7 : decode cJ0_indexOf_7cf53 7 = .ok (.aload_n 0, 1) := by decide +kernel
theorem dJ0_indexOf_7cf53_8 : decode cJ0_indexOf_7cf53 8 = .ok (.getfield 9, 3) := by decide +kernel
theorem dJ0_indexOf_7cf53_11 : decode cJ0_indexOf_7cf53 11 = .ok (.iload_n 1, 1) := by decide +kernel
theorem dJ0_indexOf_7cf53_12 : decode cJ0_indexOf_7cf53 12 = .ok (.iload_n 2, 1) := by decide +kernel
theorem dJ0_indexOf_7cf53_13 : decode cJ0_indexOf_7cf53 13 = .ok (.aload_n 0, 1) := by decide +kernel
theorem dJ0_indexOf_7cf53_14 : decode cJ0_indexOf_7cf53 14 = .ok (.invokevirtual 505, 3) := by decide +kernel
theorem dJ0_indexOf_7cf53_17 : decode cJ0_indexOf_7cf53 17 = .ok (.invokestatic 637, 3) := by decide +kernel
theorem dJ0_indexOf_7cf53_20 : decode cJ0_indexOf_7cf53 20 = .ok (.goto 16, 3) := by decide +kernel
theorem dJ0_indexOf_7cf53_23 : decode cJ0_indexOf_7cf53 23 = .ok (.aload_n 0, 1) := by decide +kernel
theorem dJ0_indexOf_7cf53_24 : decode cJ0_indexOf_7cf53 24 = .ok (.getfield 9, 3) := by decide +kernel
theorem dJ0_indexOf_7cf53_27 : decode cJ0_indexOf_7cf53 27 = .ok (.iload_n 1, 1) := by decide +kernel
theorem dJ0_indexOf_7cf53_28 : decode cJ0_indexOf_7cf53 28 = .ok (.iload_n 2, 1) := by decide +kernel
theorem dJ0_indexOf_7cf53_29 : decode cJ0_indexOf_7cf53 29 = .ok (.aload_n 0, 1) := by decide +kernel
theorem dJ0_indexOf_7cf53_30 : decode cJ0_indexOf_7cf53 30 = .ok (.invokevirtual 505, 3) := by decide +kernel
theorem dJ0_indexOf_7cf53_33 : decode cJ0_indexOf_7cf53 33 = .ok (.invokestatic 640, 3) := by decide +kernel
theorem dJ0_indexOf_7cf53_36 : decode cJ0_indexOf_7cf53 36 = .ok (.ireturn, 1) := by decide +kernel
theorem dJ0_coder_7d493_0 : decode cJ0_coder_7d493 0 = .ok (.getstatic 38, 3) := by decide +kernel
theorem dJ0_coder_7d493_3 : decode cJ0_coder_7d493 3 = .ok (.ifCond .eq 10, 3) := by decide +kernel
theorem dJ0_coder_7d493_6 : decode cJ0_coder_7d493 6 = .ok (.aload_n 0, 1) := by decide +kernel
theorem dJ0_coder_7d493_7 : decode cJ0_coder_7d493 7 = .ok (.getfield 15, 3) := by decide +kernel
theorem dJ0_coder_7d493_10 : decode cJ0_coder_7d493 10 = .ok (.goto 4, 3) := by decide +kernel
theorem dJ0_coder_7d493_13 : decode cJ0_coder_7d493 13 = .ok (.iconst 1, 1) := by decide +kernel
theorem dJ0_coder_7d493_14 : decode cJ0_coder_7d493 14 = .ok (.ireturn, 1) := by decide +kernel
theorem dJ0_isLatin1_aae02_0 : decode cJ0_isLatin1_aae02 0 = .ok (.getstatic 38, 3) := by decide +kernel
theorem dJ0_isLatin1_aae02_3 : decode cJ0_isLatin1_aae02 3 = .ok (.ifCond .eq 14, 3) := by decide +kernel
theorem dJ0_isLatin1_aae02_6 : decode cJ0_isLatin1_aae02 6 = .ok (.aload_n 0, 1) := by decide +kernel
theorem dJ0_isLatin1_aae02_7 : decode cJ0_isLatin1_aae02 7 = .ok (.getfield 15, 3) := by decide +kernel
theorem dJ0_isLatin1_aae02_10 : decode cJ0_isLatin1_aae02 10 = .ok (.ifCond .ne 7, 3) := by decide +kernel
theorem dJ0_isLatin1_aae02_13 : decode cJ0_isLatin1_aae02 13 = .ok (.iconst 1, 1) := by decide +kernel
theorem dJ0_isLatin1_aae02_14 : decode cJ0_isLatin1_aae02 14 = .ok (.goto 4, 3) := by decide +kernel
theorem dJ0_isLatin1_aae02_17 : decode cJ0_isLatin1_aae02 17 = .ok (.iconst 0, 1) := by decide +kernel
theorem dJ0_isLatin1_aae02_18 : decode cJ0_isLatin1_aae02 18 = .ok (.ireturn, 1) := by decide +kernel
theorem dJ0_checkIndex_df160_0 : decode cJ0_checkIndex_df160 0 = .ok (.iload_n 0, 1) := by decide +kernel
theorem dJ0_checkIndex_df160_1 : decode cJ0_checkIndex_df160 1 = .ok (.iload_n 1, 1) := by decide +kernel
theorem dJ0_checkIndex_df160_2 : decode cJ0_checkIndex_df160 2 = .ok (.getstatic 1053, 3) := by decide +kernel
theorem dJ0_checkIndex_df160_5 : decode cJ0_checkIndex_df160 5 = .ok (.invokestatic 1059, 3) := by decide +kernel
theorem dJ0_checkIndex_df160_8 : decode cJ0_checkIndex_df160 8 = .ok (.pop, 1) := by decide +kernel
theorem dJ0_checkIndex_df160_9 : decode cJ0_checkIndex_df160 9 = .ok (.return_, 1) := by decide +kernel
theorem dJ0_checkBoundsBeginEnd_23922_0 : decode cJ0_checkBoundsBeginEnd_23922 0 = .ok (.iload_n 0, 1) := by decide +kernel
theorem dJ0_checkBoundsBeginEnd_23922_1 : decode cJ0_checkBoundsBeginEnd_23922 1 = .ok (.iload_n 1, 1) := by decide +kernel
theorem dJ0_checkBoundsBeginEnd_23922_2 : decode cJ0_checkBoundsBeginEnd_23922 2 = .ok (.iload_n 2, 1) := by decide +kernel
theorem dJ0_checkBoundsBeginEnd_23922_3 : decode cJ0_checkBoundsBeginEnd_23922 3 = .ok (.getstatic 1053, 3) := by decide +kernel
theorem dJ0_checkBoundsBeginEnd_23922_6 : decode cJ0_checkBoundsBeginEnd_23922 6 = .ok (.invokestatic 1062, 3) := by decide +kernel
theorem dJ0_checkBoundsBeginEnd_23922_9 : decode cJ0_checkBoundsBeginEnd_23922 9 = .ok (.pop, 1) := by decide +kernel
theorem dJ0_checkBoundsBeginEnd_23922_10 : decode cJ0_checkBoundsBeginEnd_23922 10 = .ok (.return_, 1) := by decide +kernel
theorem dJ1_charAt_3b067_0 : decode cJ1_charAt_3b067 0 = .ok (.iload_n 1, 1) := by decide +kernel
theorem dJ1_charAt_3b067_1 : decode cJ1_charAt_3b067 1 = .ok (.aload_n 0, 1) := by decide +kernel
theorem dJ1_charAt_3b067_2 : decode cJ1_charAt_3b067 2 = .ok (.arraylength, 1) := by decide +kernel
theorem dJ1_charAt_3b067_3 : decode cJ1_charAt_3b067 3 = .ok (.invokestatic 9, 3) := by decide +kernel
theorem dJ1_charAt_3b067_6 : decode cJ1_charAt_3b067 6 = .ok (.aload_n 0, 1) := by decide +kernel
theorem dJ1_charAt_3b067_7 : decode cJ1_charAt_3b067 7 = .ok (.iload_n 1, 1) := by decide +kernel
theorem dJ1_charAt_3b067_8 : decode cJ1_charAt_3b067 8 = .ok (.baload, 1) := by decide +kernel
theorem dJ1_charAt_3b067_9 : decode cJ1_charAt_3b067 9 = .ok (.sipush 255, 3) := by decide +kernel
theorem dJ1_charAt_3b067_12 : decode cJ1_charAt_3b067 12 = .ok (.iand, 1) := by decide +kernel
theorem dJ1_charAt_3b067_13 : decode cJ1_charAt_3b067 13 = .ok (.i2c, 1) := by decide +kernel
theorem dJ1_charAt_3b067_14 : decode cJ1_charAt_3b067 14 = .ok (.ireturn, 1) := by decide +kernel
theorem dJ1_canEncode_9a6ad_0 : decode cJ1_canEncode_9a6ad 0 = .ok (.iload_n 0, 1) := by decide +kernel
theorem dJ1_canEncode_9a6ad_1 : decode cJ1_canEncode_9a6ad 1 = .ok (.ifCond .lt 14, 3) := by decide +kernel
theorem dJ1_canEncode_9a6ad_4 : decode cJ1_canEncode_9a6ad 4 = .ok (.iload_n 0, 1) := by decide +kernel
theorem dJ1_canEncode_9a6ad_5 : decode cJ1_canEncode_9a6ad 5 = .ok (.sipush 255, 3) := by decide +kernel
theorem dJ1_canEncode_9a6ad_8 : decode cJ1_canEncode_9a6ad 8 = .ok (.if_icmp .gt 7, 3) := by decide +kernel
theorem dJ1_canEncode_9a6ad_11 : decode cJ1_canEncode_9a6ad 11 = .ok (.iconst 1, 1) := by decide +kernel
theorem dJ1_canEncode_9a6ad_12 : decode cJ1_canEncode_9a6ad 12 = .ok (.goto 4, 3) := by decide +kernel
theorem dJ1_canEncode_9a6ad_15 : decode cJ1_canEncode_9a6ad 15 = .ok (.iconst 0, 1) := by decide +kernel
theorem dJ1_canEncode_9a6ad_16 : decode cJ1_canEncode_9a6ad 16 = .ok (.ireturn, 1) := by decide +kernel
theorem dJ1_indexOf_4cfef_0 : decode cJ1_indexOf_4cfef 0 = .ok (.iload_n 1, 1) := by decide +kernel
theorem dJ1_indexOf_4cfef_1 : decode cJ1_indexOf_4cfef 1 = .ok (.invokestatic 88, 3) := by decide +kernel
theorem dJ1_indexOf_4cfef_4 : decode cJ1_indexOf_4cfef 4 = .ok (.ifCond .ne 5, 3) := by decide +kernel
theorem dJ1_indexOf_4cfef_7 : decode cJ1_indexOf_4cfef 7 = .ok (.iconst (-1), 1) := by decide +kernel
theorem dJ1_indexOf_4cfef_8 : decode cJ1_indexOf_4cfef 8 = .ok (.ireturn, 1) := by decide +kernel
theorem dJ1_indexOf_4cfef_9 : decode cJ1_indexOf_4cfef 9 = .ok (.iload_n 2, 1) := by decide +kernel
theorem dJ1_indexOf_4cfef_10 : decode cJ1_indexOf_4cfef 10 = .ok (.iconst 0, 1) := by decide +kernel
theorem dJ1_indexOf_4cfef_11 : decode cJ1_indexOf_4cfef 11 = .ok (.invokestatic 92, 3) := by decide +kernel
theorem dJ1_indexOf_4cfef_14 : decode cJ1_indexOf_4cfef 14 = .ok (.istore_n 2, 1) := by decide +kernel
theorem dJ1_indexOf_4cfef_15 : decode cJ1_indexOf_4cfef 15 = .ok (.iload_n 3, 1) := by decide +kernel
theorem dJ1_indexOf_4cfef_16 : decode cJ1_indexOf_4cfef 16 = .ok (.aload_n 0, 1) := by decide +kernel
theorem dJ1_indexOf_4cfef_17 : decode cJ1_indexOf_4cfef 17 = .ok (.arraylength, 1) := by decide +kernel
theorem dJ1_indexOf_4cfef_18 : decode cJ1_indexOf_4cfef 18 = .ok (.invokestatic 38, 3) := by decide +kernel
theorem dJ1_indexOf_4cfef_21 : decode cJ1_indexOf_4cfef 21 = .ok (.istore_n 3, 1) := by decide +kernel
theorem dJ1_indexOf_4cfef_22 : decode cJ1_indexOf_4cfef 22 = .ok (.iload_n 2, 1) := by decide +kernel
theorem dJ1_indexOf_4cfef_23 : decode cJ1_indexOf_4cfef 23 = .ok (.iload_n 3, 1) := by decide +kernel
theorem dJ1_indexOf_4cfef_24 : decode cJ1_indexOf_4cfef 24 = .ok (.if_icmp .lt 5, 3) := by decide +kernel
theorem dJ1_indexOf_4cfef_27 : decode cJ1_indexOf_4cfef 27 = .ok (.iconst (-1), 1) := by decide +kernel
theorem dJ1_indexOf_4cfef_28 : decode cJ1_indexOf_4cfef 28 = .ok (.ireturn, 1) := by decide +kernel
theorem dJ1_indexOf_4cfef_29 : decode cJ1_indexOf_4cfef 29 = .ok (.aload_n 0, 1) := by decide +kernel
theorem dJ1_indexOf_4cfef_30 : decode cJ1_indexOf_4cfef 30 = .ok (.iload_n 1, 1) := by decide +kernel
theorem dJ1_indexOf_4cfef_31 : decode cJ1_indexOf_4cfef 31 = .ok (.iload_n 2, 1) := by decide +kernel
theorem dJ1_indexOf_4cfef_32 : decode cJ1_indexOf_4cfef 32 = .ok (.iload_n 3, 1) := by decide +kernel
theorem dJ1_indexOf_4cfef_33 : decode cJ1_indexOf_4cfef 33 = .ok (.invokestatic 95, 3) := by decide +kernel
theorem dJ1_indexOf_4cfef_36 : decode cJ1_indexOf_4cfef 36 = .ok (.ireturn, 1) := by decide +kernel
theorem dJ1_indexOfChar_4cfef_0 : decode cJ1_indexOfChar_4cfef 0 = .ok (.iload_n 1, 1) := by decide +kernel
theorem dJ1_indexOfChar_4cfef_1 : decode cJ1_indexOfChar_4cfef 1 = .ok (.i2b, 1) := by decide +kernel
theorem dJ1_indexOfChar_4cfef_2 : decode cJ1_indexOfChar_4cfef 2 = .ok (.istore 4, 2) := by decide +kernel
theorem dJ1_indexOfChar_4cfef_4 : decode cJ1_indexOfChar_4cfef 4 = .ok (.iload_n 2, 1) := by decide +kernel
theorem dJ1_indexOfChar_4cfef_5 : decode cJ1_indexOfChar_4cfef 5 = .ok (.istore 5, 2) := by decide +kernel
theorem dJ1_indexOfChar_4cfef_7 : decode cJ1_indexOfChar_4cfef 7 = .ok (.iload 5, 2) := by decide +kernel
theorem dJ1_indexOfChar_4cfef_9 : decode cJ1_indexOfChar_4cfef 9 = .ok (.iload_n 3, 1) := by decide +kernel
theorem dJ1_indexOfChar_4cfef_10 : decode cJ1_indexOfChar_4cfef 10 = .ok (.if_icmp .ge 21, 3) := by decide +kernel
theorem dJ1_indexOfChar_4cfef_13 : decode cJ1_indexOfChar_4cfef 13 = .ok (.aload_n 0, 1) := by decide +kernel
theorem dJ1_indexOfChar_4cfef_14 : decode cJ1_indexOfChar_4cfef 14 = .ok (.iload 5, 2) := by decide +kernel
theorem dJ1_indexOfChar_4cfef_16 : decode cJ1_indexOfChar_4cfef 16 = .ok (.baload, 1) := by decide +kernel
theorem dJ1_indexOfChar_4cfef_17 : decode cJ1_indexOfChar_4cfef 17 = .ok (.iload 4, 2) := by decide +kernel
theorem dJ1_indexOfChar_4cfef_19 : decode cJ1_indexOfChar_4cfef 19 = .ok (.if_icmp .ne 6, 3) := by decide +kernel
theorem dJ1_indexOfChar_4cfef_22 : decode cJ1_indexOfChar_4cfef 22 = .ok (.iload 5, 2) := by decide +kernel
theorem dJ1_indexOfChar_4cfef_24 : decode cJ1_indexOfChar_4cfef 24 = .ok (.ireturn, 1) := by decide +kernel
theorem dJ1_indexOfChar_4cfef_25 : decode cJ1_indexOfChar_4cfef 25 = .ok (.iinc 5 1, 3) := by decide +kernel
theorem dJ1_indexOfChar_4cfef_28 : decode cJ1_indexOfChar_4cfef 28 = .ok (.goto (-21), 3) := by decide +kernel
theorem dJ1_indexOfChar_4cfef_31 : decode cJ1_indexOfChar_4cfef 31 = .ok (.iconst (-1), 1) := by decide +kernel
theorem dJ1_indexOfChar_4cfef_32 : decode cJ1_indexOfChar_4cfef 32 = .ok (.ireturn, 1) := by decide +kernel
theorem dJ2_getChar_3b067_0 : decode cJ2_getChar_3b067 0 = .ok (.getstatic 44, 3) := by decide +kernel
theorem dJ2_getChar_3b067_3 : decode cJ2_getChar_3b067 3 = .ok (.ifCond .ne 25, 3) := by decide +kernel
theorem dJ2_getChar_3b067_6 : decode cJ2_getChar_3b067 6 = .ok (.iload_n 1, 1) := by decide +kernel
theorem dJ2_getChar_3b067_7 : decode cJ2_getChar_3b067 7 = .ok (.ifCond .lt 11, 3) := by decide +kernel
theorem dJ2_getChar_3b067_10 : decode cJ2_getChar_3b067 10 = .ok (.iload_n 1, 1) := by decide +kernel
theorem dJ2_getChar_3b067_11 : decode cJ2_getChar_3b067 11 = .ok (.aload_n 0, 1) := by decide +kernel
theorem dJ2_getChar_3b067_12 : decode cJ2_getChar_3b067 12 = .ok (.invokestatic 48, 3) := by decide +kernel
theorem dJ2_getChar_3b067_15 : decode cJ2_getChar_3b067 15 = .ok (.if_icmp .lt 13, 3) := by decide +kernel
theorem dJ2_getChar_3b067_18 : decode cJ2_getChar_3b067 18 = .ok (.new 52, 3) := by decide +kernel
theorem dJ2_getChar_3b067_21 : decode cJ2_getChar_3b067 21 = .ok (.dup, 1) := by decide +kernel
theorem dJ2_getChar_3b067_22 : decode cJ2_getChar_3b067 22 = .ok (.ldc 54, 2) := by decide +kernel
theorem dJ2_getChar_3b067_24 : decode cJ2_getChar_3b067 24 = .ok (.invokespecial 56, 3) := by decide +kernel
theorem dJ2_getChar_3b067_27 : decode cJ2_getChar_3b067 27 = .ok (.athrow, 1) := by decide +kernel
theorem dJ2_getChar_3b067_28 : decode cJ2_getChar_3b067 28 = .ok (.iload_n 1, 1) := by decide +kernel
theorem dJ2_getChar_3b067_29 : decode cJ2_getChar_3b067 29 = .ok (.iconst 1, 1) := by decide +kernel
theorem dJ2_getChar_3b067_30 : decode cJ2_getChar_3b067 30 = .ok (.ishl, 1) := by decide +kernel
theorem dJ2_getChar_3b067_31 : decode cJ2_getChar_3b067 31 = .ok (.istore_n 1, 1) := by decide +kernel
theorem dJ2_getChar_3b067_32 : decode cJ2_getChar_3b067 32 = .ok (.aload_n 0, 1) := by decide +kernel
theorem dJ2_getChar_3b067_33 : decode cJ2_getChar_3b067 33 = .ok (.iload_n 1, 1) := by decide +kernel
theorem dJ2_getChar_3b067_34 : decode cJ2_getChar_3b067 34 = .ok (.iinc 1 1, 3) := by decide +kernel
theorem dJ2_getChar_3b067_37 : decode cJ2_getChar_3b067 37 = .ok (.baload, 1) := by decide +kernel
theorem dJ2_getChar_3b067_38 : decode cJ2_getChar_3b067 38 = .ok (.sipush 255, 3) := by decide +kernel
theorem dJ2_getChar_3b067_41 : decode cJ2_getChar_3b067 41 = .ok (.iand, 1) := by decide +kernel
theorem dJ2_getChar_3b067_42 : decode cJ2_getChar_3b067 42 = .ok (.getstatic 59, 3) := by decide +kernel
theorem dJ2_getChar_3b067_45 : decode cJ2_getChar_3b067 45 = .ok (.ishl, 1) := by decide +kernel
theorem dJ2_getChar_3b067_46 : decode cJ2_getChar_3b067 46 = .ok (.aload_n 0, 1) := by decide +kernel
theorem dJ2_getChar_3b067_47 : decode cJ2_getChar_3b067 47 = .ok (.iload_n 1, 1) := by decide +kernel
theorem dJ2_getChar_3b067_48 : decode cJ2_getChar_3b067 48 = .ok (.baload, 1) := by decide +kernel
theorem dJ2_getChar_3b067_49 : decode cJ2_getChar_3b067 49 = .ok (.sipush 255, 3) := by decide +kernel
theorem dJ2_getChar_3b067_52 : decode cJ2_getChar_3b067 52 = .ok (.iand, 1) := by decide +kernel
theorem dJ2_getChar_3b067_53 : decode cJ2_getChar_3b067 53 = .ok (.getstatic 63, 3) := by decide +kernel
theorem dJ2_getChar_3b067_56 : decode cJ2_getChar_3b067 56 = .ok (.ishl, 1) := by decide +kernel
theorem dJ2_getChar_3b067_57 : decode cJ2_getChar_3b067 57 = .ok (.ior, 1) := by decide +kernel
theorem dJ2_getChar_3b067_58 : decode cJ2_getChar_3b067 58 = .ok (.i2c, 1) := by decide +kernel
theorem dJ2_getChar_3b067_59 : decode cJ2_getChar_3b067 59 = .ok (.ireturn, 1) := by decide +kernel
theorem dJ2_length_9d52b_0 : decode cJ2_length_9d52b 0 = .ok (.aload_n 0, 1) := by decide +kernel
theorem dJ2_length_9d52b_1 : decode cJ2_length_9d52b 1 = .ok (.arraylength, 1) := by decide +kernel
theorem dJ2_length_9d52b_2 : decode cJ2_length_9d52b 2 = .ok (.iconst 1, 1) := by decide +kernel
theorem dJ2_length_9d52b_3 : decode cJ2_length_9d52b 3 = .ok (.ishr, 1) := by decide +kernel
theorem dJ2_length_9d52b_4 : decode cJ2_length_9d52b 4 = .ok (.ireturn, 1) := by decide +kernel
theorem dJ2_indexOf_4cfef_0 : decode cJ2_indexOf_4cfef 0 = .ok (.iload_n 2, 1) := by decide +kernel
theorem dJ2_indexOf_4cfef_1 : decode cJ2_indexOf_4cfef 1 = .ok (.iconst 0, 1) := by decide +kernel
theorem dJ2_indexOf_4cfef_2 : decode cJ2_indexOf_4cfef 2 = .ok (.invokestatic 224, 3) := by decide +kernel
theorem dJ2_indexOf_4cfef_5 : decode cJ2_indexOf_4cfef 5 = .ok (.istore_n 2, 1) := by decide +kernel
theorem dJ2_indexOf_4cfef_6 : decode cJ2_indexOf_4cfef 6 = .ok (.iload_n 3, 1) := by decide +kernel
theorem dJ2_indexOf_4cfef_7 : decode cJ2_indexOf_4cfef 7 = .ok (.aload_n 0, 1) := by decide +kernel
theorem dJ2_indexOf_4cfef_8 : decode cJ2_indexOf_4cfef 8 = .ok (.arraylength, 1) := by decide +kernel
theorem dJ2_indexOf_4cfef_9 : decode cJ2_indexOf_4cfef 9 = .ok (.iconst 1, 1) := by decide +kernel
theorem dJ2_indexOf_4cfef_10 : decode cJ2_indexOf_4cfef 10 = .ok (.ishr, 1) := by decide +kernel
theorem dJ2_indexOf_4cfef_11 : decode cJ2_indexOf_4cfef 11 = .ok (.invokestatic 183, 3) := by decide +kernel
theorem dJ2_indexOf_4cfef_14 : decode cJ2_indexOf_4cfef 14 = .ok (.istore_n 3, 1) := by decide +kernel
theorem dJ2_indexOf_4cfef_15 : decode cJ2_indexOf_4cfef 15 = .ok (.iload_n 2, 1) := by decide +kernel
theorem dJ2_indexOf_4cfef_16 : decode cJ2_indexOf_4cfef 16 = .ok (.iload_n 3, 1) := by decide +kernel
theorem dJ2_indexOf_4cfef_17 : decode cJ2_indexOf_4cfef 17 = .ok (.if_icmp .lt 5, 3) := by decide +kernel
theorem dJ2_indexOf_4cfef_20 : decode cJ2_indexOf_4cfef 20 = .ok (.iconst (-1), 1) := by decide +kernel
theorem dJ2_indexOf_4cfef_21 : decode cJ2_indexOf_4cfef 21 = .ok (.ireturn, 1) := by decide +kernel
theorem dJ2_indexOf_4cfef_22 : decode cJ2_indexOf_4cfef 22 = .ok (.iload_n 1, 1) := by decide +kernel
theorem dJ2_indexOf_4cfef_23 : decode cJ2_indexOf_4cfef 23 = .ok (.ldc 227, 2) := by decide +kernel
theorem dJ2_indexOf_4cfef_25 : decode cJ2_indexOf_4cfef 25 = .ok (.if_icmp .ge 11, 3) := by decide +kernel
theorem dJ2_indexOf_4cfef_28 : decode cJ2_indexOf_4cfef 28 = .ok (.aload_n 0, 1) := by decide +kernel
theorem dJ2_indexOf_4cfef_29 : decode cJ2_indexOf_4cfef 29 = .ok (.iload_n 1, 1) := by decide +kernel
theorem dJ2_indexOf_4cfef_30 : decode cJ2_indexOf_4cfef 30 = .ok (.iload_n 2, 1) := by decide +kernel
theorem dJ2_indexOf_4cfef_31 : decode cJ2_indexOf_4cfef 31 = .ok (.iload_n 3, 1) := by decide +kernel
theorem dJ2_indexOf_4cfef_32 : decode cJ2_indexOf_4cfef 32 = .ok (.invokestatic 228, 3) := by decide +kernel
theorem dJ2_indexOf_4cfef_35 : decode cJ2_indexOf_4cfef 35 = .ok (.ireturn, 1) := by decide +kernel
theorem dJ2_indexOf_4cfef_36 : decode cJ2_indexOf_4cfef 36 = .ok (.aload_n 0, 1) := by decide +kernel
theorem dJ2_indexOf_4cfef_37 : decode cJ2_indexOf_4cfef 37 = .ok (.iload_n 1, 1) := by decide +kernel
theorem dJ2_indexOf_4cfef_38 : decode cJ2_indexOf_4cfef 38 = .ok (.iload_n 2, 1) := by decide +kernel
theorem dJ2_indexOf_4cfef_39 : decode cJ2_indexOf_4cfef 39 = .ok (.iload_n 3, 1) := by decide +kernel
theorem dJ2_indexOf_4cfef_40 : decode cJ2_indexOf_4cfef 40 = .ok (.invokestatic 232, 3) := by decide +kernel
theorem dJ2_indexOf_4cfef_43 : decode cJ2_indexOf_4cfef 43 = .ok (.ireturn, 1) := by decide +kernel
theorem dJ2_indexOfChar_4cfef_0 : decode cJ2_indexOfChar_4cfef 0 = .ok (.iload_n 2, 1) := by decide +kernel
theorem dJ2_indexOfChar_4cfef_1 : decode cJ2_indexOfChar_4cfef 1 = .ok (.iload_n 3, 1) := by decide +kernel
theorem dJ2_indexOfChar_4cfef_2 : decode cJ2_indexOfChar_4cfef 2 = .ok (.aload_n 0, 1) := by decide +kernel
theorem dJ2_indexOfChar_4cfef_3 : decode cJ2_indexOfChar_4cfef 3 = .ok (.invokestatic 96, 3) := by decide +kernel
theorem dJ2_indexOfChar_4cfef_6 : decode cJ2_indexOfChar_4cfef 6 = .ok (.aload_n 0, 1) := by decide +kernel
theorem dJ2_indexOfChar_4cfef_7 : decode cJ2_indexOfChar_4cfef 7 = .ok (.iload_n 1, 1) := by decide +kernel
theorem dJ2_indexOfChar_4cfef_8 : decode cJ2_indexOfChar_4cfef 8 = .ok (.iload_n 2, 1) := by decide +kernel
theorem dJ2_indexOfChar_4cfef_9 : decode cJ2_indexOfChar_4cfef 9 = .ok (.iload_n 3, 1) := by decide +kernel
theorem dJ2_indexOfChar_4cfef_10 : decode cJ2_indexOfChar_4cfef 10 = .ok (.invokestatic 244, 3) := by decide +kernel
theorem dJ2_indexOfChar_4cfef_13 : decode cJ2_indexOfChar_4cfef 13 = .ok (.ireturn, 1) := by decide +kernel
theorem dJ2_indexOfCharUnsafe_4cfef_0 : decode cJ2_indexOfCharUnsafe_4cfef 0 = .ok (.iload_n 2, 1) := by decide +kernel
theorem dJ2_indexOfCharUnsafe_4cfef_1 : decode cJ2_indexOfCharUnsafe_4cfef 1 = .ok (.istore 4, 2) := by decide +kernel
theorem dJ2_indexOfCharUnsafe_4cfef_3 : decode cJ2_indexOfCharUnsafe_4cfef 3 = .ok (.iload 4, 2) := by decide +kernel
theorem dJ2_indexOfCharUnsafe_4cfef_5 : decode cJ2_indexOfCharUnsafe_4cfef 5 = .ok (.iload_n 3, 1) := by decide +kernel
theorem dJ2_indexOfCharUnsafe_4cfef_6 : decode cJ2_indexOfCharUnsafe_4cfef 6 = .ok (.if_icmp .ge 22, 3) := by decide +kernel
theorem dJ2_indexOfCharUnsafe_4cfef_9 : decode cJ2_indexOfCharUnsafe_4cfef 9 = .ok (.aload_n 0, 1) := by decide +kernel
theorem dJ2_indexOfCharUnsafe_4cfef_10 : decode cJ2_indexOfCharUnsafe_4cfef 10 = .ok (.iload 4, 2) := by decide +kernel
theorem dJ2_indexOfCharUnsafe_4cfef_12 : decode cJ2_indexOfCharUnsafe_4cfef 12 = .ok (.invokestatic 71, 3) := by decide +kernel
theorem dJ2_indexOfCharUnsafe_4cfef_15 : decode cJ2_indexOfCharUnsafe_4cfef 15 = .ok (.iload_n 1, 1) := by decide +kernel
theorem dJ2_indexOfCharUnsafe_4cfef_16 : decode cJ2_indexOfCharUnsafe_4cfef 16 = .ok (.if_icmp .ne 6, 3) := by decide +kernel
theorem dJ2_indexOfCharUnsafe_4cfef_19 : decode cJ2_indexOfCharUnsafe_4cfef 19 = .ok (.iload 4, 2) := by decide +kernel
theorem dJ2_indexOfCharUnsafe_4cfef_21 : decode cJ2_indexOfCharUnsafe_4cfef 21 = .ok (.ireturn, 1) := by decide +kernel
theorem dJ2_indexOfCharUnsafe_4cfef_22 : decode cJ2_indexOfCharUnsafe_4cfef 22 = .ok (.iinc 4 1, 3) := by decide +kernel
theorem dJ2_indexOfCharUnsafe_4cfef_25 : decode cJ2_indexOfCharUnsafe_4cfef 25 = .ok (.goto (-22), 3) := by decide +kernel
theorem dJ2_indexOfCharUnsafe_4cfef_28 : decode cJ2_indexOfCharUnsafe_4cfef 28 = .ok (.iconst (-1), 1) := by decide +kernel
theorem dJ2_indexOfCharUnsafe_4cfef_29 : decode cJ2_indexOfCharUnsafe_4cfef 29 = .ok (.ireturn, 1) := by decide +kernel
theorem dJ2_indexOfSupplementary_4cfef_0 : decode cJ2_indexOfSupplementary_4cfef 0 = .ok (.iload_n 1, 1) := by decide +kernel
theorem dJ2_indexOfSupplementary_4cfef_1 : decode cJ2_indexOfSupplementary_4cfef 1 = .ok (.invokestatic 164, 3) := by decide +kernel
theorem dJ2_indexOfSupplementary_4cfef_4 : decode cJ2_indexOfSupplementary_4cfef 4 = .ok (.ifCond .eq 65, 3) := by decide +kernel
theorem dJ2_indexOfSupplementary_4cfef_7 : decode cJ2_indexOfSupplementary_4cfef 7 = .ok (.iload_n 1, 1) := by decide +kernel
theorem dJ2_indexOfSupplementary_4cfef_8 : decode cJ2_indexOfSupplementary_4cfef 8 = .ok (.invokestatic 157, 3) := by decide +kernel
theorem dJ2_indexOfSupplementary_4cfef_11 : decode cJ2_indexOfSupplementary_4cfef 11 = .ok (.istore 4, 2) := by decide +kernel
theorem dJ2_indexOfSupplementary_4cfef_13 : decode cJ2_indexOfSupplementary_4cfef 13 = .ok (.iload_n 1, 1) := by decide +kernel
theorem dJ2_indexOfSupplementary_4cfef_14 : decode cJ2_indexOfSupplementary_4cfef 14 = .ok (.invokestatic 161, 3) := by decide +kernel
theorem dJ2_indexOfSupplementary_4cfef_17 : decode cJ2_indexOfSupplementary_4cfef 17 = .ok (.istore 5, 2) := by decide +kernel
theorem dJ2_indexOfSupplementary_4cfef_19 : decode cJ2_indexOfSupplementary_4cfef 19 = .ok (.iload_n 2, 1) := by decide +kernel
theorem dJ2_indexOfSupplementary_4cfef_20 : decode cJ2_indexOfSupplementary_4cfef 20 = .ok (.iload_n 3, 1) := by decide +kernel
theorem dJ2_indexOfSupplementary_4cfef_21 : decode cJ2_indexOfSupplementary_4cfef 21 = .ok (.aload_n 0, 1) := by decide +kernel
theorem dJ2_indexOfSupplementary_4cfef_22 : decode cJ2_indexOfSupplementary_4cfef 22 = .ok (.invokestatic 96, 3) := by decide +kernel
theorem dJ2_indexOfSupplementary_4cfef_25 : decode cJ2_indexOfSupplementary_4cfef 25 = .ok (.iload_n 2, 1) := by decide +kernel
theorem dJ2_indexOfSupplementary_4cfef_26 : decode cJ2_indexOfSupplementary_4cfef 26 = .ok (.istore 6, 2) := by decide +kernel
theorem dJ2_indexOfSupplementary_4cfef_28 : decode cJ2_indexOfSupplementary_4cfef 28 = .ok (.iload 6, 2) := by decide +kernel
theorem dJ2_indexOfSupplementary_4cfef_30 : decode cJ2_indexOfSupplementary_4cfef 30 = .ok (.iload_n 3, 1) := by decide +kernel
theorem dJ2_indexOfSupplementary_4cfef_31 : decode cJ2_indexOfSupplementary_4cfef 31 = .ok (.iconst 1, 1) := by decide +kernel
theorem dJ2_indexOfSupplementary_4cfef_32 : decode cJ2_indexOfSupplementary_4cfef 32 = .ok (.isub, 1) := by decide +kernel
theorem dJ2_indexOfSupplementary_4cfef_33 : decode cJ2_indexOfSupplementary_4cfef 33 = .ok (.if_icmp .ge 36, 3) := by decide +kernel
theorem dJ2_indexOfSupplementary_4cfef_36 : decode cJ2_indexOfSupplementary_4cfef 36 = .ok (.aload_n 0, 1) := by decide +kernel
theorem dJ2_indexOfSupplementary_4cfef_37 : decode cJ2_indexOfSupplementary_4cfef 37 = .ok (.iload 6, 2) := by decide +kernel
theorem dJ2_indexOfSupplementary_4cfef_39 : decode cJ2_indexOfSupplementary_4cfef 39 = .ok (.invokestatic 71, 3) := by decide +kernel
theorem dJ2_indexOfSupplementary_4cfef_42 : decode cJ2_indexOfSupplementary_4cfef 42 = .ok (.iload 4, 2) := by decide +kernel
theorem dJ2_indexOfSupplementary_4cfef_44 : decode cJ2_indexOfSupplementary_4cfef 44 = .ok (.if_icmp .ne 19, 3) := by decide +kernel
theorem dJ2_indexOfSupplementary_4cfef_47 : decode cJ2_indexOfSupplementary_4cfef 47 = .ok (.aload_n 0, 1) := by decide +kernel
theorem dJ2_indexOfSupplementary_4cfef_48 : decode cJ2_indexOfSupplementary_4cfef 48 = .ok (.iload 6, 2) := by decide +kernel
theorem dJ2_indexOfSupplementary_4cfef_50 : decode cJ2_indexOfSupplementary_4cfef 50 = .ok (.iconst 1, 1) := by decide +kernel
theorem dJ2_indexOfSupplementary_4cfef_51 : decode cJ2_indexOfSupplementary_4cfef 51 = .ok (.iadd, 1) := by decide +kernel
theorem dJ2_indexOfSupplementary_4cfef_52 : decode cJ2_indexOfSupplementary_4cfef 52 = .ok (.invokestatic 71, 3) := by decide +kernel
theorem dJ2_indexOfSupplementary_4cfef_55 : decode cJ2_indexOfSupplementary_4cfef 55 = .ok (.iload 5, 2) := by decide +kernel
theorem dJ2_indexOfSupplementary_4cfef_57 : decode cJ2_indexOfSupplementary_4cfef 57 = .ok (.if_icmp .ne 6, 3) := by decide +kernel
theorem dJ2_indexOfSupplementary_4cfef_60 : decode cJ2_indexOfSupplementary_4cfef 60 = .ok (.iload 6, 2) := by decide +kernel
theorem dJ2_indexOfSupplementary_4cfef_62 : decode cJ2_indexOfSupplementary_4cfef 62 = .ok (.ireturn, 1) := by decide +kernel
theorem dJ2_indexOfSupplementary_4cfef_63 : decode cJ2_indexOfSupplementary_4cfef 63 = .ok (.iinc 6 1, 3) := by decide +kernel
theorem dJ2_indexOfSupplementary_4cfef_66 : decode cJ2_indexOfSupplementary_4cfef 66 = .ok (.goto (-38), 3) := by decide +kernel
theorem dJ2_indexOfSupplementary_4cfef_69 : decode cJ2_indexOfSupplementary_4cfef 69 = .ok (.iconst (-1), 1) := by decide +kernel
theorem dJ2_indexOfSupplementary_4cfef_70 : decode cJ2_indexOfSupplementary_4cfef 70 = .ok (.ireturn, 1) := by decide +kernel
theorem dJ2_charAt_3b067_0 : decode cJ2_charAt_3b067 0 = .ok (.iload_n 1, 1) := by decide +kernel
theorem dJ2_charAt_3b067_1 : decode cJ2_charAt_3b067 1 = .ok (.aload_n 0, 1) := by decide +kernel
theorem dJ2_charAt_3b067_2 : decode cJ2_charAt_3b067 2 = .ok (.invokestatic 67, 3) := by decide +kernel
theorem dJ2_charAt_3b067_5 : decode cJ2_charAt_3b067 5 = .ok (.aload_n 0, 1) := by decide +kernel
theorem dJ2_charAt_3b067_6 : decode cJ2_charAt_3b067 6 = .ok (.iload_n 1, 1) := by decide +kernel
theorem dJ2_charAt_3b067_7 : decode cJ2_charAt_3b067 7 = .ok (.invokestatic 71, 3) := by decide +kernel
theorem dJ2_charAt_3b067_10 : decode cJ2_charAt_3b067 10 = .ok (.ireturn, 1) := by decide +kernel
theorem dJ2_checkIndex_2214a_0 : decode cJ2_checkIndex_2214a 0 = .ok (.iload_n 0, 1) := by decide +kernel
theorem dJ2_checkIndex_2214a_1 : decode cJ2_checkIndex_2214a 1 = .ok (.aload_n 1, 1) := by decide +kernel
theorem dJ2_checkIndex_2214a_2 : decode cJ2_checkIndex_2214a 2 = .ok (.invokestatic 48, 3) := by decide +kernel
theorem dJ2_checkIndex_2214a_5 : decode cJ2_checkIndex_2214a 5 = .ok (.invokestatic 414, 3) := by decide +kernel
theorem dJ2_checkIndex_2214a_8 : decode cJ2_checkIndex_2214a 8 = .ok (.return_, 1) := by decide +kernel
theorem dJ2_checkBoundsBeginEnd_d044e_0 : decode cJ2_checkBoundsBeginEnd_d044e 0 = .ok (.iload_n 0, 1) := by decide +kernel
theorem dJ2_checkBoundsBeginEnd_d044e_1 : decode cJ2_checkBoundsBeginEnd_d044e 1 = .ok (.iload_n 1, 1) := by decide +kernel
theorem dJ2_checkBoundsBeginEnd_d044e_2 : decode cJ2_checkBoundsBeginEnd_d044e 2 = .ok (.aload_n 2, 1) := by decide +kernel
theorem dJ2_checkBoundsBeginEnd_d044e_3 : decode cJ2_checkBoundsBeginEnd_d044e 3 = .ok (.invokestatic 48, 3) := by decide +kernel
theorem dJ2_checkBoundsBeginEnd_d044e_6 : decode cJ2_checkBoundsBeginEnd_d044e 6 = .ok (.invokestatic 241, 3) := by decide +kernel
theorem dJ2_checkBoundsBeginEnd_d044e_9 : decode cJ2_checkBoundsBeginEnd_d044e 9 = .ok (.return_, 1) := by decide +kernel
theorem dJ3_checkIndex_8e157_0 : decode cJ3_checkIndex_8e157 0 = .ok (.iload_n 0, 1) := by decide +kernel
theorem dJ3_checkIndex_8e157_1 : decode cJ3_checkIndex_8e157 1 = .ok (.ifCond .lt 8, 3) := by decide +kernel
theorem dJ3_checkIndex_8e157_4 : decode cJ3_checkIndex_8e157 4 = .ok (.iload_n 0, 1) := by decide +kernel
theorem dJ3_checkIndex_8e157_5 : decode cJ3_checkIndex_8e157 5 = .ok (.iload_n 1, 1) := by decide +kernel
theorem dJ3_checkIndex_8e157_6 : decode cJ3_checkIndex_8e157 6 = .ok (.if_icmp .lt 10, 3) := by decide +kernel
theorem dJ3_checkIndex_8e157_9 : decode cJ3_checkIndex_8e157 9 = .ok (.aload_n 2, 1) := by decide +kernel
theorem dJ3_checkIndex_8e157_10 : decode cJ3_checkIndex_8e157 10 = .ok (.iload_n 0, 1) := by decide +kernel
theorem dJ3_checkIndex_8e157_11 : decode cJ3_checkIndex_8e157 11 = .ok (.iload_n 1, 1) := by decide +kernel
theorem dJ3_checkIndex_8e157_12 : decode cJ3_checkIndex_8e157 12 = .ok (.invokestatic 95, 3) := by decide +kernel
theorem dJ3_checkIndex_8e157_15 : decode cJ3_checkIndex_8e157 15 = .ok (.athrow, 1) := by decide +kernel
theorem dJ3_checkIndex_8e157_16 : decode cJ3_checkIndex_8e157 16 = .ok (.iload_n 0, 1) := by decide +kernel
theorem dJ3_checkIndex_8e157_17 : decode cJ3_checkIndex_8e157 17 = .ok (.ireturn, 1) := by decide +kernel
theorem dJ3_checkFromToIndex_8c36e_0 : decode cJ3_checkFromToIndex_8c36e 0 = .ok (.iload_n 0, 1) := by decide +kernel
theorem dJ3_checkFromToIndex_8c36e_1 : decode cJ3_checkFromToIndex_8c36e 1 = .ok (.ifCond .lt 13, 3) := by decide +kernel
theorem dJ3_checkFromToIndex_8c36e_4 : decode cJ3_checkFromToIndex_8c36e 4 = .ok (.iload_n 0, 1) := by decide +kernel
theorem dJ3_checkFromToIndex_8c36e_5 : decode cJ3_checkFromToIndex_8c36e 5 = .ok (.iload_n 1, 1) := by decide +kernel
theorem dJ3_checkFromToIndex_8c36e_6 : decode cJ3_checkFromToIndex_8c36e 6 = .ok (.if_icmp .gt 8, 3) := by decide +kernel
theorem dJ3_checkFromToIndex_8c36e_9 : decode cJ3_checkFromToIndex_8c36e 9 = .ok (.iload_n 1, 1) := by decide +kernel
theorem dJ3_checkFromToIndex_8c36e_10 : decode cJ3_checkFromToIndex_8c36e 10 = .ok (.iload_n 2, 1) := by decide +kernel
theorem dJ3_checkFromToIndex_8c36e_11 : decode cJ3_checkFromToIndex_8c36e 11 = .ok (.if_icmp .le 11, 3) := by decide +kernel
theorem dJ3_checkFromToIndex_8c36e_14 : decode cJ3_checkFromToIndex_8c36e 14 = .ok (.aload_n 3, 1) := by decide +kernel
theorem dJ3_checkFromToIndex_8c36e_15 : decode cJ3_checkFromToIndex_8c36e 15 = .ok (.iload_n 0, 1) := by decide +kernel
theorem dJ3_checkFromToIndex_8c36e_16 : decode cJ3_checkFromToIndex_8c36e 16 = .ok (.iload_n 1, 1) := by decide +kernel
theorem dJ3_checkFromToIndex_8c36e_17 : decode cJ3_checkFromToIndex_8c36e 17 = .ok (.iload_n 2, 1) := by decide +kernel
theorem dJ3_checkFromToIndex_8c36e_18 : decode cJ3_checkFromToIndex_8c36e 18 = .ok (.invokestatic 99, 3) := by decide +kernel
theorem dJ3_checkFromToIndex_8c36e_21 : decode cJ3_checkFromToIndex_8c36e 21 = .ok (.athrow, 1) := by decide +kernel
theorem dJ3_checkFromToIndex_8c36e_22 : decode cJ3_checkFromToIndex_8c36e 22 = .ok (.iload_n 0, 1) := by decide +kernel
theorem dJ3_checkFromToIndex_8c36e_23 : decode cJ3_checkFromToIndex_8c36e 23 = .ok (.ireturn, 1) := by decide +kernel
theorem dL_feed_0 : decode cL_feed 0 = .ok (.aload 6, 2) := by decide +kernel
theorem dL_feed_2 : decode cL_feed 2 = .ok (.iconst 0, 1) := by decide +kernel
theorem dL_feed_3 : decode cL_feed 3 = .ok (.aload_n 0, 1) := by decide +kernel
theorem dL_feed_4 : decode cL_feed 4 = .ok (.iload_n 1, 1) := by decide +kernel
theorem dL_feed_5 : decode cL_feed 5 = .ok (.iload_n 2, 1) := by decide +kernel
theorem dL_feed_6 : decode cL_feed 6 = .ok (.iload_n 3, 1) := by decide +kernel
theorem dL_feed_7 : decode cL_feed 7 = .ok (.iload 4, 2) := by decide +kernel
theorem dL_feed_9 : decode cL_feed 9 = .ok (.iload 5, 2) := by decide +kernel
theorem dL_feed_11 : decode cL_feed 11 = .ok (.invokevirtual 7, 3) := by decide +kernel
theorem dL_feed_14 : decode cL_feed 14 = .ok (.i2l, 1) := by decide +kernel
theorem dL_feed_15 : decode cL_feed 15 = .ok (.lastore, 1) := by decide +kernel
theorem dL_feed_16 : decode cL_feed 16 = .ok (.goto 7, 3) := by decide +kernel
theorem dL_feed_19 : decode cL_feed 19 = .ok (.astore 7, 2) := by decide +kernel
theorem dL_feed_21 : decode cL_feed 21 = .ok (.iconst 1, 1) := by decide +kernel
theorem dL_feed_22 : decode cL_feed 22 = .ok (.ireturn, 1) := by decide +kernel
theorem dL_feed_23 : decode cL_feed 23 = .ok (.iconst 0, 1) := by decide +kernel
theorem dL_feed_24 : decode cL_feed 24 = .ok (.ireturn, 1) := by decide +kernel
theorem dL_trim_0 : decode cL_trim 0 = .ok (.aload_n 2, 1) := by decide +kernel
theorem dL_trim_1 : decode cL_trim 1 = .ok (.iconst 0, 1) := by decide +kernel
theorem dL_trim_2 : decode cL_trim 2 = .ok (.aload_n 0, 1) := by decide +kernel
theorem dL_trim_3 : decode cL_trim 3 = .ok (.iload_n 1, 1) := by decide +kernel
theorem dL_trim_4 : decode cL_trim 4 = .ok (.invokevirtual 15, 3) := by decide +kernel
theorem dL_trim_7 : decode cL_trim 7 = .ok (.i2l, 1) := by decide +kernel
theorem dL_trim_8 : decode cL_trim 8 = .ok (.lastore, 1) := by decide +kernel
theorem dL_trim_9 : decode cL_trim 9 = .ok (.goto 6, 3) := by decide +kernel
theorem dL_trim_12 : decode cL_trim 12 = .ok (.astore_n 3, 1) := by decide +kernel
theorem dL_trim_13 : decode cL_trim 13 = .ok (.iconst 1, 1) := by decide +kernel
theorem dL_trim_14 : decode cL_trim 14 = .ok (.ireturn, 1) := by decide +kernel
theorem dL_trim_15 : decode cL_trim 15 = .ok (.iconst 0, 1) := by decide +kernel
theorem dL_trim_16 : decode cL_trim 16 = .ok (.ireturn, 1) := by decide +kernel
theorem dL_tellerOf_0 : decode cL_tellerOf 0 = .ok (.aload_n 2, 1) := by decide +kernel
theorem dL_tellerOf_1 : decode cL_tellerOf 1 = .ok (.iconst 0, 1) := by decide +kernel
theorem dL_tellerOf_2 : decode cL_tellerOf 2 = .ok (.aload_n 0, 1) := by decide +kernel
theorem dL_tellerOf_3 : decode cL_tellerOf 3 = .ok (.iload_n 1, 1) := by decide +kernel
theorem dL_tellerOf_4 : decode cL_tellerOf 4 = .ok (.invokevirtual 21, 3) := by decide +kernel
theorem dL_tellerOf_7 : decode cL_tellerOf 7 = .ok (.i2l, 1) := by decide +kernel
theorem dL_tellerOf_8 : decode cL_tellerOf 8 = .ok (.lastore, 1) := by decide +kernel
theorem dL_tellerOf_9 : decode cL_tellerOf 9 = .ok (.goto 6, 3) := by decide +kernel
theorem dL_tellerOf_12 : decode cL_tellerOf 12 = .ok (.astore_n 3, 1) := by decide +kernel
theorem dL_tellerOf_13 : decode cL_tellerOf 13 = .ok (.iconst 1, 1) := by decide +kernel
theorem dL_tellerOf_14 : decode cL_tellerOf 14 = .ok (.ireturn, 1) := by decide +kernel
theorem dL_tellerOf_15 : decode cL_tellerOf 15 = .ok (.iconst 0, 1) := by decide +kernel
theorem dL_tellerOf_16 : decode cL_tellerOf 16 = .ok (.ireturn, 1) := by decide +kernel
theorem dL_kindOf_0 : decode cL_kindOf 0 = .ok (.aload_n 2, 1) := by decide +kernel
theorem dL_kindOf_1 : decode cL_kindOf 1 = .ok (.iconst 0, 1) := by decide +kernel
theorem dL_kindOf_2 : decode cL_kindOf 2 = .ok (.aload_n 0, 1) := by decide +kernel
theorem dL_kindOf_3 : decode cL_kindOf 3 = .ok (.iload_n 1, 1) := by decide +kernel
theorem dL_kindOf_4 : decode cL_kindOf 4 = .ok (.invokevirtual 26, 3) := by decide +kernel
theorem dL_kindOf_7 : decode cL_kindOf 7 = .ok (.i2l, 1) := by decide +kernel
theorem dL_kindOf_8 : decode cL_kindOf 8 = .ok (.lastore, 1) := by decide +kernel
theorem dL_kindOf_9 : decode cL_kindOf 9 = .ok (.goto 6, 3) := by decide +kernel
theorem dL_kindOf_12 : decode cL_kindOf 12 = .ok (.astore_n 3, 1) := by decide +kernel
theorem dL_kindOf_13 : decode cL_kindOf 13 = .ok (.iconst 1, 1) := by decide +kernel
theorem dL_kindOf_14 : decode cL_kindOf 14 = .ok (.ireturn, 1) := by decide +kernel
theorem dL_kindOf_15 : decode cL_kindOf 15 = .ok (.iconst 0, 1) := by decide +kernel
theorem dL_kindOf_16 : decode cL_kindOf 16 = .ok (.ireturn, 1) := by decide +kernel
theorem dL_eventOf_0 : decode cL_eventOf 0 = .ok (.aload_n 2, 1) := by decide +kernel
theorem dL_eventOf_1 : decode cL_eventOf 1 = .ok (.iconst 0, 1) := by decide +kernel
theorem dL_eventOf_2 : decode cL_eventOf 2 = .ok (.aload_n 0, 1) := by decide +kernel
theorem dL_eventOf_3 : decode cL_eventOf 3 = .ok (.iload_n 1, 1) := by decide +kernel
theorem dL_eventOf_4 : decode cL_eventOf 4 = .ok (.invokevirtual 29, 3) := by decide +kernel
theorem dL_eventOf_7 : decode cL_eventOf 7 = .ok (.i2l, 1) := by decide +kernel
theorem dL_eventOf_8 : decode cL_eventOf 8 = .ok (.lastore, 1) := by decide +kernel
theorem dL_eventOf_9 : decode cL_eventOf 9 = .ok (.goto 6, 3) := by decide +kernel
theorem dL_eventOf_12 : decode cL_eventOf 12 = .ok (.astore_n 3, 1) := by decide +kernel
theorem dL_eventOf_13 : decode cL_eventOf 13 = .ok (.iconst 1, 1) := by decide +kernel
theorem dL_eventOf_14 : decode cL_eventOf 14 = .ok (.ireturn, 1) := by decide +kernel
theorem dL_eventOf_15 : decode cL_eventOf 15 = .ok (.iconst 0, 1) := by decide +kernel
theorem dL_eventOf_16 : decode cL_eventOf 16 = .ok (.ireturn, 1) := by decide +kernel
theorem dL_secondEventOf_0 : decode cL_secondEventOf 0 = .ok (.aload_n 2, 1) := by decide +kernel
theorem dL_secondEventOf_1 : decode cL_secondEventOf 1 = .ok (.iconst 0, 1) := by decide +kernel
theorem dL_secondEventOf_2 : decode cL_secondEventOf 2 = .ok (.aload_n 0, 1) := by decide +kernel
theorem dL_secondEventOf_3 : decode cL_secondEventOf 3 = .ok (.iload_n 1, 1) := by decide +kernel
theorem dL_secondEventOf_4 : decode cL_secondEventOf 4 = .ok (.invokevirtual 32, 3) := by decide +kernel
theorem dL_secondEventOf_7 : decode cL_secondEventOf 7 = .ok (.i2l, 1) := by decide +kernel
theorem dL_secondEventOf_8 : decode cL_secondEventOf 8 = .ok (.lastore, 1) := by decide +kernel
theorem dL_secondEventOf_9 : decode cL_secondEventOf 9 = .ok (.goto 9, 3) := by decide +kernel
theorem dL_secondEventOf_12 : decode cL_secondEventOf 12 = .ok (.astore_n 3, 1) := by decide +kernel
theorem dL_secondEventOf_13 : decode cL_secondEventOf 13 = .ok (.iconst 1, 1) := by decide +kernel
theorem dL_secondEventOf_14 : decode cL_secondEventOf 14 = .ok (.ireturn, 1) := by decide +kernel
theorem dL_secondEventOf_15 : decode cL_secondEventOf 15 = .ok (.astore_n 3, 1) := by decide +kernel
theorem dL_secondEventOf_16 : decode cL_secondEventOf 16 = .ok (.iconst 2, 1) := by decide +kernel
theorem dL_secondEventOf_17 : decode cL_secondEventOf 17 = .ok (.ireturn, 1) := by decide +kernel
theorem dL_secondEventOf_18 : decode cL_secondEventOf 18 = .ok (.iconst 0, 1) := by decide +kernel
theorem dL_secondEventOf_19 : decode cL_secondEventOf 19 = .ok (.ireturn, 1) := by decide +kernel
theorem dL_firstHourOf_0 : decode cL_firstHourOf 0 = .ok (.aload_n 2, 1) := by decide +kernel
theorem dL_firstHourOf_1 : decode cL_firstHourOf 1 = .ok (.iconst 0, 1) := by decide +kernel
theorem dL_firstHourOf_2 : decode cL_firstHourOf 2 = .ok (.aload_n 0, 1) := by decide +kernel
theorem dL_firstHourOf_3 : decode cL_firstHourOf 3 = .ok (.iload_n 1, 1) := by decide +kernel
theorem dL_firstHourOf_4 : decode cL_firstHourOf 4 = .ok (.invokevirtual 35, 3) := by decide +kernel
theorem dL_firstHourOf_7 : decode cL_firstHourOf 7 = .ok (.i2l, 1) := by decide +kernel
theorem dL_firstHourOf_8 : decode cL_firstHourOf 8 = .ok (.lastore, 1) := by decide +kernel
theorem dL_firstHourOf_9 : decode cL_firstHourOf 9 = .ok (.goto 9, 3) := by decide +kernel
theorem dL_firstHourOf_12 : decode cL_firstHourOf 12 = .ok (.astore_n 3, 1) := by decide +kernel
theorem dL_firstHourOf_13 : decode cL_firstHourOf 13 = .ok (.iconst 1, 1) := by decide +kernel
theorem dL_firstHourOf_14 : decode cL_firstHourOf 14 = .ok (.ireturn, 1) := by decide +kernel
theorem dL_firstHourOf_15 : decode cL_firstHourOf 15 = .ok (.astore_n 3, 1) := by decide +kernel
theorem dL_firstHourOf_16 : decode cL_firstHourOf 16 = .ok (.iconst 2, 1) := by decide +kernel
theorem dL_firstHourOf_17 : decode cL_firstHourOf 17 = .ok (.ireturn, 1) := by decide +kernel
theorem dL_firstHourOf_18 : decode cL_firstHourOf 18 = .ok (.iconst 0, 1) := by decide +kernel
theorem dL_firstHourOf_19 : decode cL_firstHourOf 19 = .ok (.ireturn, 1) := by decide +kernel
theorem dL_lastHourOf_0 : decode cL_lastHourOf 0 = .ok (.aload_n 2, 1) := by decide +kernel
theorem dL_lastHourOf_1 : decode cL_lastHourOf 1 = .ok (.iconst 0, 1) := by decide +kernel
theorem dL_lastHourOf_2 : decode cL_lastHourOf 2 = .ok (.aload_n 0, 1) := by decide +kernel
theorem dL_lastHourOf_3 : decode cL_lastHourOf 3 = .ok (.iload_n 1, 1) := by decide +kernel
theorem dL_lastHourOf_4 : decode cL_lastHourOf 4 = .ok (.invokevirtual 38, 3) := by decide +kernel
theorem dL_lastHourOf_7 : decode cL_lastHourOf 7 = .ok (.i2l, 1) := by decide +kernel
theorem dL_lastHourOf_8 : decode cL_lastHourOf 8 = .ok (.lastore, 1) := by decide +kernel
theorem dL_lastHourOf_9 : decode cL_lastHourOf 9 = .ok (.goto 9, 3) := by decide +kernel
theorem dL_lastHourOf_12 : decode cL_lastHourOf 12 = .ok (.astore_n 3, 1) := by decide +kernel
theorem dL_lastHourOf_13 : decode cL_lastHourOf 13 = .ok (.iconst 1, 1) := by decide +kernel
theorem dL_lastHourOf_14 : decode cL_lastHourOf 14 = .ok (.ireturn, 1) := by decide +kernel
theorem dL_lastHourOf_15 : decode cL_lastHourOf 15 = .ok (.astore_n 3, 1) := by decide +kernel
theorem dL_lastHourOf_16 : decode cL_lastHourOf 16 = .ok (.iconst 2, 1) := by decide +kernel
theorem dL_lastHourOf_17 : decode cL_lastHourOf 17 = .ok (.ireturn, 1) := by decide +kernel
theorem dL_lastHourOf_18 : decode cL_lastHourOf 18 = .ok (.iconst 0, 1) := by decide +kernel
theorem dL_lastHourOf_19 : decode cL_lastHourOf 19 = .ok (.ireturn, 1) := by decide +kernel
theorem dL_areContrary_0 : decode cL_areContrary 0 = .ok (.aload_n 3, 1) := by decide +kernel
theorem dL_areContrary_1 : decode cL_areContrary 1 = .ok (.iconst 0, 1) := by decide +kernel
theorem dL_areContrary_2 : decode cL_areContrary 2 = .ok (.aload_n 0, 1) := by decide +kernel
theorem dL_areContrary_3 : decode cL_areContrary 3 = .ok (.iload_n 1, 1) := by decide +kernel
theorem dL_areContrary_4 : decode cL_areContrary 4 = .ok (.iload_n 2, 1) := by decide +kernel
theorem dL_areContrary_5 : decode cL_areContrary 5 = .ok (.invokevirtual 41, 3) := by decide +kernel
theorem dL_areContrary_8 : decode cL_areContrary 8 = .ok (.ifCond .eq 7, 3) := by decide +kernel
theorem dL_areContrary_11 : decode cL_areContrary 11 = .ok (.lconst 1, 1) := by decide +kernel
theorem dL_areContrary_12 : decode cL_areContrary 12 = .ok (.goto 4, 3) := by decide +kernel
theorem dL_areContrary_15 : decode cL_areContrary 15 = .ok (.lconst 0, 1) := by decide +kernel
theorem dL_areContrary_16 : decode cL_areContrary 16 = .ok (.lastore, 1) := by decide +kernel
theorem dL_areContrary_17 : decode cL_areContrary 17 = .ok (.goto 7, 3) := by decide +kernel
theorem dL_areContrary_20 : decode cL_areContrary 20 = .ok (.astore 4, 2) := by decide +kernel
theorem dL_areContrary_22 : decode cL_areContrary 22 = .ok (.iconst 1, 1) := by decide +kernel
theorem dL_areContrary_23 : decode cL_areContrary 23 = .ok (.ireturn, 1) := by decide +kernel
theorem dL_areContrary_24 : decode cL_areContrary 24 = .ok (.iconst 0, 1) := by decide +kernel
theorem dL_areContrary_25 : decode cL_areContrary 25 = .ok (.ireturn, 1) := by decide +kernel
theorem dL_claimsOf_0 : decode cL_claimsOf 0 = .ok (.aload_n 2, 1) := by decide +kernel
theorem dL_claimsOf_1 : decode cL_claimsOf 1 = .ok (.iconst 0, 1) := by decide +kernel
theorem dL_claimsOf_2 : decode cL_claimsOf 2 = .ok (.aload_n 0, 1) := by decide +kernel
theorem dL_claimsOf_3 : decode cL_claimsOf 3 = .ok (.iload_n 1, 1) := by decide +kernel
theorem dL_claimsOf_4 : decode cL_claimsOf 4 = .ok (.invokevirtual 45, 3) := by decide +kernel
theorem dL_claimsOf_7 : decode cL_claimsOf 7 = .ok (.i2l, 1) := by decide +kernel
theorem dL_claimsOf_8 : decode cL_claimsOf 8 = .ok (.lastore, 1) := by decide +kernel
theorem dL_claimsOf_9 : decode cL_claimsOf 9 = .ok (.goto 6, 3) := by decide +kernel
theorem dL_claimsOf_12 : decode cL_claimsOf 12 = .ok (.astore_n 3, 1) := by decide +kernel
theorem dL_claimsOf_13 : decode cL_claimsOf 13 = .ok (.iconst 1, 1) := by decide +kernel
theorem dL_claimsOf_14 : decode cL_claimsOf 14 = .ok (.ireturn, 1) := by decide +kernel
theorem dL_claimsOf_15 : decode cL_claimsOf 15 = .ok (.iconst 0, 1) := by decide +kernel
theorem dL_claimsOf_16 : decode cL_claimsOf 16 = .ok (.ireturn, 1) := by decide +kernel
theorem dL_isDoubted_0 : decode cL_isDoubted 0 = .ok (.aload_n 2, 1) := by decide +kernel
theorem dL_isDoubted_1 : decode cL_isDoubted 1 = .ok (.iconst 0, 1) := by decide +kernel
theorem dL_isDoubted_2 : decode cL_isDoubted 2 = .ok (.aload_n 0, 1) := by decide +kernel
theorem dL_isDoubted_3 : decode cL_isDoubted 3 = .ok (.iload_n 1, 1) := by decide +kernel
theorem dL_isDoubted_4 : decode cL_isDoubted 4 = .ok (.invokevirtual 48, 3) := by decide +kernel
theorem dL_isDoubted_7 : decode cL_isDoubted 7 = .ok (.ifCond .eq 7, 3) := by decide +kernel
theorem dL_isDoubted_10 : decode cL_isDoubted 10 = .ok (.lconst 1, 1) := by decide +kernel
theorem dL_isDoubted_11 : decode cL_isDoubted 11 = .ok (.goto 4, 3) := by decide +kernel
theorem dL_isDoubted_14 : decode cL_isDoubted 14 = .ok (.lconst 0, 1) := by decide +kernel
theorem dL_isDoubted_15 : decode cL_isDoubted 15 = .ok (.lastore, 1) := by decide +kernel
theorem dL_isDoubted_16 : decode cL_isDoubted 16 = .ok (.goto 6, 3) := by decide +kernel
theorem dL_isDoubted_19 : decode cL_isDoubted 19 = .ok (.astore_n 3, 1) := by decide +kernel
theorem dL_isDoubted_20 : decode cL_isDoubted 20 = .ok (.iconst 1, 1) := by decide +kernel
theorem dL_isDoubted_21 : decode cL_isDoubted 21 = .ok (.ireturn, 1) := by decide +kernel
theorem dL_isDoubted_22 : decode cL_isDoubted 22 = .ok (.iconst 0, 1) := by decide +kernel
theorem dL_isDoubted_23 : decode cL_isDoubted 23 = .ok (.ireturn, 1) := by decide +kernel
theorem dL_doContradict_0 : decode cL_doContradict 0 = .ok (.aload_n 3, 1) := by decide +kernel
theorem dL_doContradict_1 : decode cL_doContradict 1 = .ok (.iconst 0, 1) := by decide +kernel
theorem dL_doContradict_2 : decode cL_doContradict 2 = .ok (.aload_n 0, 1) := by decide +kernel
theorem dL_doContradict_3 : decode cL_doContradict 3 = .ok (.iload_n 1, 1) := by decide +kernel
theorem dL_doContradict_4 : decode cL_doContradict 4 = .ok (.iload_n 2, 1) := by decide +kernel
theorem dL_doContradict_5 : decode cL_doContradict 5 = .ok (.invokevirtual 52, 3) := by decide +kernel
theorem dL_doContradict_8 : decode cL_doContradict 8 = .ok (.ifCond .eq 7, 3) := by decide +kernel
theorem dL_doContradict_11 : decode cL_doContradict 11 = .ok (.lconst 1, 1) := by decide +kernel
theorem dL_doContradict_12 : decode cL_doContradict 12 = .ok (.goto 4, 3) := by decide +kernel
theorem dL_doContradict_15 : decode cL_doContradict 15 = .ok (.lconst 0, 1) := by decide +kernel
theorem dL_doContradict_16 : decode cL_doContradict 16 = .ok (.lastore, 1) := by decide +kernel
theorem dL_doContradict_17 : decode cL_doContradict 17 = .ok (.goto 7, 3) := by decide +kernel
theorem dL_doContradict_20 : decode cL_doContradict 20 = .ok (.astore 4, 2) := by decide +kernel
theorem dL_doContradict_22 : decode cL_doContradict 22 = .ok (.iconst 1, 1) := by decide +kernel
theorem dL_doContradict_23 : decode cL_doContradict 23 = .ok (.ireturn, 1) := by decide +kernel
theorem dL_doContradict_24 : decode cL_doContradict 24 = .ok (.iconst 0, 1) := by decide +kernel
theorem dL_doContradict_25 : decode cL_doContradict 25 = .ok (.ireturn, 1) := by decide +kernel
theorem dL_contraryPairs_0 : decode cL_contraryPairs 0 = .ok (.aload_n 3, 1) := by decide +kernel
theorem dL_contraryPairs_1 : decode cL_contraryPairs 1 = .ok (.iconst 0, 1) := by decide +kernel
theorem dL_contraryPairs_2 : decode cL_contraryPairs 2 = .ok (.aload_n 0, 1) := by decide +kernel
theorem dL_contraryPairs_3 : decode cL_contraryPairs 3 = .ok (.iload_n 1, 1) := by decide +kernel
theorem dL_contraryPairs_4 : decode cL_contraryPairs 4 = .ok (.iload_n 2, 1) := by decide +kernel
theorem dL_contraryPairs_5 : decode cL_contraryPairs 5 = .ok (.invokevirtual 55, 3) := by decide +kernel
theorem dL_contraryPairs_8 : decode cL_contraryPairs 8 = .ok (.i2l, 1) := by decide +kernel
theorem dL_contraryPairs_9 : decode cL_contraryPairs 9 = .ok (.lastore, 1) := by decide +kernel
theorem dL_contraryPairs_10 : decode cL_contraryPairs 10 = .ok (.goto 7, 3) := by decide +kernel
theorem dL_contraryPairs_13 : decode cL_contraryPairs 13 = .ok (.astore 4, 2) := by decide +kernel
theorem dL_contraryPairs_15 : decode cL_contraryPairs 15 = .ok (.iconst 1, 1) := by decide +kernel
theorem dL_contraryPairs_16 : decode cL_contraryPairs 16 = .ok (.ireturn, 1) := by decide +kernel
theorem dL_contraryPairs_17 : decode cL_contraryPairs 17 = .ok (.iconst 0, 1) := by decide +kernel
theorem dL_contraryPairs_18 : decode cL_contraryPairs 18 = .ok (.ireturn, 1) := by decide +kernel
theorem dL_isLiar_0 : decode cL_isLiar 0 = .ok (.aload_n 2, 1) := by decide +kernel
theorem dL_isLiar_1 : decode cL_isLiar 1 = .ok (.iconst 0, 1) := by decide +kernel
theorem dL_isLiar_2 : decode cL_isLiar 2 = .ok (.aload_n 0, 1) := by decide +kernel
theorem dL_isLiar_3 : decode cL_isLiar 3 = .ok (.iload_n 1, 1) := by decide +kernel
theorem dL_isLiar_4 : decode cL_isLiar 4 = .ok (.invokevirtual 59, 3) := by decide +kernel
theorem dL_isLiar_7 : decode cL_isLiar 7 = .ok (.ifCond .eq 7, 3) := by decide +kernel
theorem dL_isLiar_10 : decode cL_isLiar 10 = .ok (.lconst 1, 1) := by decide +kernel
theorem dL_isLiar_11 : decode cL_isLiar 11 = .ok (.goto 4, 3) := by decide +kernel
theorem dL_isLiar_14 : decode cL_isLiar 14 = .ok (.lconst 0, 1) := by decide +kernel
theorem dL_isLiar_15 : decode cL_isLiar 15 = .ok (.lastore, 1) := by decide +kernel
theorem dL_isLiar_16 : decode cL_isLiar 16 = .ok (.goto 6, 3) := by decide +kernel
theorem dL_isLiar_19 : decode cL_isLiar 19 = .ok (.astore_n 3, 1) := by decide +kernel
theorem dL_isLiar_20 : decode cL_isLiar 20 = .ok (.iconst 1, 1) := by decide +kernel
theorem dL_isLiar_21 : decode cL_isLiar 21 = .ok (.ireturn, 1) := by decide +kernel
theorem dL_isLiar_22 : decode cL_isLiar 22 = .ok (.iconst 0, 1) := by decide +kernel
theorem dL_isLiar_23 : decode cL_isLiar 23 = .ok (.ireturn, 1) := by decide +kernel
theorem dL_isAgreed_0 : decode cL_isAgreed 0 = .ok (.aload_n 2, 1) := by decide +kernel
theorem dL_isAgreed_1 : decode cL_isAgreed 1 = .ok (.iconst 0, 1) := by decide +kernel
theorem dL_isAgreed_2 : decode cL_isAgreed 2 = .ok (.aload_n 0, 1) := by decide +kernel
theorem dL_isAgreed_3 : decode cL_isAgreed 3 = .ok (.iload_n 1, 1) := by decide +kernel
theorem dL_isAgreed_4 : decode cL_isAgreed 4 = .ok (.invokevirtual 62, 3) := by decide +kernel
theorem dL_isAgreed_7 : decode cL_isAgreed 7 = .ok (.ifCond .eq 7, 3) := by decide +kernel
theorem dL_isAgreed_10 : decode cL_isAgreed 10 = .ok (.lconst 1, 1) := by decide +kernel
theorem dL_isAgreed_11 : decode cL_isAgreed 11 = .ok (.goto 4, 3) := by decide +kernel
theorem dL_isAgreed_14 : decode cL_isAgreed 14 = .ok (.lconst 0, 1) := by decide +kernel
theorem dL_isAgreed_15 : decode cL_isAgreed 15 = .ok (.lastore, 1) := by decide +kernel
theorem dL_isAgreed_16 : decode cL_isAgreed 16 = .ok (.goto 6, 3) := by decide +kernel
theorem dL_isAgreed_19 : decode cL_isAgreed 19 = .ok (.astore_n 3, 1) := by decide +kernel
theorem dL_isAgreed_20 : decode cL_isAgreed 20 = .ok (.iconst 1, 1) := by decide +kernel
theorem dL_isAgreed_21 : decode cL_isAgreed 21 = .ok (.ireturn, 1) := by decide +kernel
theorem dL_isAgreed_22 : decode cL_isAgreed 22 = .ok (.iconst 0, 1) := by decide +kernel
theorem dL_isAgreed_23 : decode cL_isAgreed 23 = .ok (.ireturn, 1) := by decide +kernel
theorem dL_windowFrom_0 : decode cL_windowFrom 0 = .ok (.aload_n 2, 1) := by decide +kernel
theorem dL_windowFrom_1 : decode cL_windowFrom 1 = .ok (.iconst 0, 1) := by decide +kernel
theorem dL_windowFrom_2 : decode cL_windowFrom 2 = .ok (.aload_n 0, 1) := by decide +kernel
theorem dL_windowFrom_3 : decode cL_windowFrom 3 = .ok (.iload_n 1, 1) := by decide +kernel
theorem dL_windowFrom_4 : decode cL_windowFrom 4 = .ok (.invokevirtual 65, 3) := by decide +kernel
theorem dL_windowFrom_7 : decode cL_windowFrom 7 = .ok (.i2l, 1) := by decide +kernel
theorem dL_windowFrom_8 : decode cL_windowFrom 8 = .ok (.lastore, 1) := by decide +kernel
theorem dL_windowFrom_9 : decode cL_windowFrom 9 = .ok (.goto 9, 3) := by decide +kernel
theorem dL_windowFrom_12 : decode cL_windowFrom 12 = .ok (.astore_n 3, 1) := by decide +kernel
theorem dL_windowFrom_13 : decode cL_windowFrom 13 = .ok (.iconst 1, 1) := by decide +kernel
theorem dL_windowFrom_14 : decode cL_windowFrom 14 = .ok (.ireturn, 1) := by decide +kernel
theorem dL_windowFrom_15 : decode cL_windowFrom 15 = .ok (.astore_n 3, 1) := by decide +kernel
theorem dL_windowFrom_16 : decode cL_windowFrom 16 = .ok (.iconst 2, 1) := by decide +kernel
theorem dL_windowFrom_17 : decode cL_windowFrom 17 = .ok (.ireturn, 1) := by decide +kernel
theorem dL_windowFrom_18 : decode cL_windowFrom 18 = .ok (.iconst 0, 1) := by decide +kernel
theorem dL_windowFrom_19 : decode cL_windowFrom 19 = .ok (.ireturn, 1) := by decide +kernel
theorem dL_windowTo_0 : decode cL_windowTo 0 = .ok (.aload_n 2, 1) := by decide +kernel
theorem dL_windowTo_1 : decode cL_windowTo 1 = .ok (.iconst 0, 1) := by decide +kernel
theorem dL_windowTo_2 : decode cL_windowTo 2 = .ok (.aload_n 0, 1) := by decide +kernel
theorem dL_windowTo_3 : decode cL_windowTo 3 = .ok (.iload_n 1, 1) := by decide +kernel
theorem dL_windowTo_4 : decode cL_windowTo 4 = .ok (.invokevirtual 68, 3) := by decide +kernel
theorem dL_windowTo_7 : decode cL_windowTo 7 = .ok (.i2l, 1) := by decide +kernel
theorem dL_windowTo_8 : decode cL_windowTo 8 = .ok (.lastore, 1) := by decide +kernel
theorem dL_windowTo_9 : decode cL_windowTo 9 = .ok (.goto 9, 3) := by decide +kernel
theorem dL_windowTo_12 : decode cL_windowTo 12 = .ok (.astore_n 3, 1) := by decide +kernel
theorem dL_windowTo_13 : decode cL_windowTo 13 = .ok (.iconst 1, 1) := by decide +kernel
theorem dL_windowTo_14 : decode cL_windowTo 14 = .ok (.ireturn, 1) := by decide +kernel
theorem dL_windowTo_15 : decode cL_windowTo 15 = .ok (.astore_n 3, 1) := by decide +kernel
theorem dL_windowTo_16 : decode cL_windowTo 16 = .ok (.iconst 2, 1) := by decide +kernel
theorem dL_windowTo_17 : decode cL_windowTo 17 = .ok (.ireturn, 1) := by decide +kernel
theorem dL_windowTo_18 : decode cL_windowTo 18 = .ok (.iconst 0, 1) := by decide +kernel
theorem dL_windowTo_19 : decode cL_windowTo 19 = .ok (.ireturn, 1) := by decide +kernel
theorem dL_eventAt_0 : decode cL_eventAt 0 = .ok (.aload_n 2, 1) := by decide +kernel
theorem dL_eventAt_1 : decode cL_eventAt 1 = .ok (.iconst 0, 1) := by decide +kernel
theorem dL_eventAt_2 : decode cL_eventAt 2 = .ok (.aload_n 0, 1) := by decide +kernel
theorem dL_eventAt_3 : decode cL_eventAt 3 = .ok (.iload_n 1, 1) := by decide +kernel
theorem dL_eventAt_4 : decode cL_eventAt 4 = .ok (.invokevirtual 71, 3) := by decide +kernel
theorem dL_eventAt_7 : decode cL_eventAt 7 = .ok (.i2l, 1) := by decide +kernel
theorem dL_eventAt_8 : decode cL_eventAt 8 = .ok (.lastore, 1) := by decide +kernel
theorem dL_eventAt_9 : decode cL_eventAt 9 = .ok (.goto 9, 3) := by decide +kernel
theorem dL_eventAt_12 : decode cL_eventAt 12 = .ok (.astore_n 3, 1) := by decide +kernel
theorem dL_eventAt_13 : decode cL_eventAt 13 = .ok (.iconst 1, 1) := by decide +kernel
theorem dL_eventAt_14 : decode cL_eventAt 14 = .ok (.ireturn, 1) := by decide +kernel
theorem dL_eventAt_15 : decode cL_eventAt 15 = .ok (.astore_n 3, 1) := by decide +kernel
theorem dL_eventAt_16 : decode cL_eventAt 16 = .ok (.iconst 2, 1) := by decide +kernel
theorem dL_eventAt_17 : decode cL_eventAt 17 = .ok (.ireturn, 1) := by decide +kernel
theorem dL_eventAt_18 : decode cL_eventAt 18 = .ok (.iconst 0, 1) := by decide +kernel
theorem dL_eventAt_19 : decode cL_eventAt 19 = .ok (.ireturn, 1) := by decide +kernel
theorem dL_claimHours_0 : decode cL_claimHours 0 = .ok (.aload 5, 2) := by decide +kernel
theorem dL_claimHours_2 : decode cL_claimHours 2 = .ok (.iconst 0, 1) := by decide +kernel
theorem dL_claimHours_3 : decode cL_claimHours 3 = .ok (.aload_n 0, 1) := by decide +kernel
theorem dL_claimHours_4 : decode cL_claimHours 4 = .ok (.iload_n 1, 1) := by decide +kernel
theorem dL_claimHours_5 : decode cL_claimHours 5 = .ok (.iload_n 2, 1) := by decide +kernel
theorem dL_claimHours_6 : decode cL_claimHours 6 = .ok (.iload_n 3, 1) := by decide +kernel
theorem dL_claimHours_7 : decode cL_claimHours 7 = .ok (.iload 4, 2) := by decide +kernel
theorem dL_claimHours_9 : decode cL_claimHours 9 = .ok (.invokevirtual 74, 3) := by decide +kernel
theorem dL_claimHours_12 : decode cL_claimHours 12 = .ok (.i2l, 1) := by decide +kernel
theorem dL_claimHours_13 : decode cL_claimHours 13 = .ok (.lastore, 1) := by decide +kernel
theorem dL_claimHours_14 : decode cL_claimHours 14 = .ok (.goto 15, 3) := by decide +kernel
theorem dL_claimHours_17 : decode cL_claimHours 17 = .ok (.astore 6, 2) := by decide +kernel
theorem dL_claimHours_19 : decode cL_claimHours 19 = .ok (.iconst 1, 1) := by decide +kernel
theorem dL_claimHours_20 : decode cL_claimHours 20 = .ok (.ireturn, 1) := by decide +kernel
theorem dL_claimHours_21 : decode cL_claimHours 21 = .ok (.astore 6, 2) := by decide +kernel
theorem dL_claimHours_23 : decode cL_claimHours 23 = .ok (.iconst 2, 1) := by decide +kernel
theorem dL_claimHours_24 : decode cL_claimHours 24 = .ok (.ireturn, 1) := by decide +kernel
theorem dL_claimHours_25 : decode cL_claimHours 25 = .ok (.astore 6, 2) := by decide +kernel
theorem dL_claimHours_27 : decode cL_claimHours 27 = .ok (.iconst 3, 1) := by decide +kernel
theorem dL_claimHours_28 : decode cL_claimHours 28 = .ok (.ireturn, 1) := by decide +kernel
theorem dL_claimHours_29 : decode cL_claimHours 29 = .ok (.iconst 0, 1) := by decide +kernel
theorem dL_claimHours_30 : decode cL_claimHours 30 = .ok (.ireturn, 1) := by decide +kernel
theorem dL_claimBefore_0 : decode cL_claimBefore 0 = .ok (.aload 4, 2) := by decide +kernel
theorem dL_claimBefore_2 : decode cL_claimBefore 2 = .ok (.iconst 0, 1) := by decide +kernel
theorem dL_claimBefore_3 : decode cL_claimBefore 3 = .ok (.aload_n 0, 1) := by decide +kernel
theorem dL_claimBefore_4 : decode cL_claimBefore 4 = .ok (.iload_n 1, 1) := by decide +kernel
theorem dL_claimBefore_5 : decode cL_claimBefore 5 = .ok (.iload_n 2, 1) := by decide +kernel
theorem dL_claimBefore_6 : decode cL_claimBefore 6 = .ok (.iload_n 3, 1) := by decide +kernel
theorem dL_claimBefore_7 : decode cL_claimBefore 7 = .ok (.invokevirtual 78, 3) := by decide +kernel
theorem dL_claimBefore_10 : decode cL_claimBefore 10 = .ok (.i2l, 1) := by decide +kernel
theorem dL_claimBefore_11 : decode cL_claimBefore 11 = .ok (.lastore, 1) := by decide +kernel
theorem dL_claimBefore_12 : decode cL_claimBefore 12 = .ok (.goto 15, 3) := by decide +kernel
theorem dL_claimBefore_15 : decode cL_claimBefore 15 = .ok (.astore 5, 2) := by decide +kernel
theorem dL_claimBefore_17 : decode cL_claimBefore 17 = .ok (.iconst 1, 1) := by decide +kernel
theorem dL_claimBefore_18 : decode cL_claimBefore 18 = .ok (.ireturn, 1) := by decide +kernel
theorem dL_claimBefore_19 : decode cL_claimBefore 19 = .ok (.astore 5, 2) := by decide +kernel
theorem dL_claimBefore_21 : decode cL_claimBefore 21 = .ok (.iconst 2, 1) := by decide +kernel
theorem dL_claimBefore_22 : decode cL_claimBefore 22 = .ok (.ireturn, 1) := by decide +kernel
theorem dL_claimBefore_23 : decode cL_claimBefore 23 = .ok (.astore 5, 2) := by decide +kernel
theorem dL_claimBefore_25 : decode cL_claimBefore 25 = .ok (.iconst 3, 1) := by decide +kernel
theorem dL_claimBefore_26 : decode cL_claimBefore 26 = .ok (.ireturn, 1) := by decide +kernel
theorem dL_claimBefore_27 : decode cL_claimBefore 27 = .ok (.iconst 0, 1) := by decide +kernel
theorem dL_claimBefore_28 : decode cL_claimBefore 28 = .ok (.ireturn, 1) := by decide +kernel
theorem dL_claimTogether_0 : decode cL_claimTogether 0 = .ok (.aload 4, 2) := by decide +kernel
theorem dL_claimTogether_2 : decode cL_claimTogether 2 = .ok (.iconst 0, 1) := by decide +kernel
theorem dL_claimTogether_3 : decode cL_claimTogether 3 = .ok (.aload_n 0, 1) := by decide +kernel
theorem dL_claimTogether_4 : decode cL_claimTogether 4 = .ok (.iload_n 1, 1) := by decide +kernel
theorem dL_claimTogether_5 : decode cL_claimTogether 5 = .ok (.iload_n 2, 1) := by decide +kernel
theorem dL_claimTogether_6 : decode cL_claimTogether 6 = .ok (.iload_n 3, 1) := by decide +kernel
theorem dL_claimTogether_7 : decode cL_claimTogether 7 = .ok (.invokevirtual 82, 3) := by decide +kernel
theorem dL_claimTogether_10 : decode cL_claimTogether 10 = .ok (.i2l, 1) := by decide +kernel
theorem dL_claimTogether_11 : decode cL_claimTogether 11 = .ok (.lastore, 1) := by decide +kernel
theorem dL_claimTogether_12 : decode cL_claimTogether 12 = .ok (.goto 15, 3) := by decide +kernel
theorem dL_claimTogether_15 : decode cL_claimTogether 15 = .ok (.astore 5, 2) := by decide +kernel
theorem dL_claimTogether_17 : decode cL_claimTogether 17 = .ok (.iconst 1, 1) := by decide +kernel
theorem dL_claimTogether_18 : decode cL_claimTogether 18 = .ok (.ireturn, 1) := by decide +kernel
theorem dL_claimTogether_19 : decode cL_claimTogether 19 = .ok (.astore 5, 2) := by decide +kernel
theorem dL_claimTogether_21 : decode cL_claimTogether 21 = .ok (.iconst 2, 1) := by decide +kernel
theorem dL_claimTogether_22 : decode cL_claimTogether 22 = .ok (.ireturn, 1) := by decide +kernel
theorem dL_claimTogether_23 : decode cL_claimTogether 23 = .ok (.astore 5, 2) := by decide +kernel
theorem dL_claimTogether_25 : decode cL_claimTogether 25 = .ok (.iconst 3, 1) := by decide +kernel
theorem dL_claimTogether_26 : decode cL_claimTogether 26 = .ok (.ireturn, 1) := by decide +kernel
theorem dL_claimTogether_27 : decode cL_claimTogether 27 = .ok (.iconst 0, 1) := by decide +kernel
theorem dL_claimTogether_28 : decode cL_claimTogether 28 = .ok (.ireturn, 1) := by decide +kernel
theorem dL_takeBack_0 : decode cL_takeBack 0 = .ok (.aload_n 2, 1) := by decide +kernel
theorem dL_takeBack_1 : decode cL_takeBack 1 = .ok (.iconst 0, 1) := by decide +kernel
theorem dL_takeBack_2 : decode cL_takeBack 2 = .ok (.aload_n 0, 1) := by decide +kernel
theorem dL_takeBack_3 : decode cL_takeBack 3 = .ok (.iload_n 1, 1) := by decide +kernel
theorem dL_takeBack_4 : decode cL_takeBack 4 = .ok (.invokevirtual 85, 3) := by decide +kernel
theorem dL_takeBack_7 : decode cL_takeBack 7 = .ok (.i2l, 1) := by decide +kernel
theorem dL_takeBack_8 : decode cL_takeBack 8 = .ok (.lastore, 1) := by decide +kernel
theorem dL_takeBack_9 : decode cL_takeBack 9 = .ok (.goto 6, 3) := by decide +kernel
theorem dL_takeBack_12 : decode cL_takeBack 12 = .ok (.astore_n 3, 1) := by decide +kernel
theorem dL_takeBack_13 : decode cL_takeBack 13 = .ok (.iconst 1, 1) := by decide +kernel
theorem dL_takeBack_14 : decode cL_takeBack 14 = .ok (.ireturn, 1) := by decide +kernel
theorem dL_takeBack_15 : decode cL_takeBack 15 = .ok (.iconst 0, 1) := by decide +kernel
theorem dL_takeBack_16 : decode cL_takeBack 16 = .ok (.ireturn, 1) := by decide +kernel
theorem dL_turnDoubt_0 : decode cL_turnDoubt 0 = .ok (.aload_n 2, 1) := by decide +kernel
theorem dL_turnDoubt_1 : decode cL_turnDoubt 1 = .ok (.iconst 0, 1) := by decide +kernel
theorem dL_turnDoubt_2 : decode cL_turnDoubt 2 = .ok (.aload_n 0, 1) := by decide +kernel
theorem dL_turnDoubt_3 : decode cL_turnDoubt 3 = .ok (.iload_n 1, 1) := by decide +kernel
theorem dL_turnDoubt_4 : decode cL_turnDoubt 4 = .ok (.invokevirtual 88, 3) := by decide +kernel
theorem dL_turnDoubt_7 : decode cL_turnDoubt 7 = .ok (.ifCond .eq 7, 3) := by decide +kernel
theorem dL_turnDoubt_10 : decode cL_turnDoubt 10 = .ok (.lconst 1, 1) := by decide +kernel
theorem dL_turnDoubt_11 : decode cL_turnDoubt 11 = .ok (.goto 4, 3) := by decide +kernel
theorem dL_turnDoubt_14 : decode cL_turnDoubt 14 = .ok (.lconst 0, 1) := by decide +kernel
theorem dL_turnDoubt_15 : decode cL_turnDoubt 15 = .ok (.lastore, 1) := by decide +kernel
theorem dL_turnDoubt_16 : decode cL_turnDoubt 16 = .ok (.goto 6, 3) := by decide +kernel
theorem dL_turnDoubt_19 : decode cL_turnDoubt 19 = .ok (.astore_n 3, 1) := by decide +kernel
theorem dL_turnDoubt_20 : decode cL_turnDoubt 20 = .ok (.iconst 1, 1) := by decide +kernel
theorem dL_turnDoubt_21 : decode cL_turnDoubt 21 = .ok (.ireturn, 1) := by decide +kernel
theorem dL_turnDoubt_22 : decode cL_turnDoubt 22 = .ok (.iconst 0, 1) := by decide +kernel
theorem dL_turnDoubt_23 : decode cL_turnDoubt 23 = .ok (.ireturn, 1) := by decide +kernel
theorem dL_passEvenings_0 : decode cL_passEvenings 0 = .ok (.aload_n 2, 1) := by decide +kernel
theorem dL_passEvenings_1 : decode cL_passEvenings 1 = .ok (.iconst 0, 1) := by decide +kernel
theorem dL_passEvenings_2 : decode cL_passEvenings 2 = .ok (.aload_n 0, 1) := by decide +kernel
theorem dL_passEvenings_3 : decode cL_passEvenings 3 = .ok (.iload_n 1, 1) := by decide +kernel
theorem dL_passEvenings_4 : decode cL_passEvenings 4 = .ok (.invokevirtual 91, 3) := by decide +kernel
theorem dL_passEvenings_7 : decode cL_passEvenings 7 = .ok (.i2l, 1) := by decide +kernel
theorem dL_passEvenings_8 : decode cL_passEvenings 8 = .ok (.lastore, 1) := by decide +kernel
theorem dL_passEvenings_9 : decode cL_passEvenings 9 = .ok (.goto 6, 3) := by decide +kernel
theorem dL_passEvenings_12 : decode cL_passEvenings 12 = .ok (.astore_n 3, 1) := by decide +kernel
theorem dL_passEvenings_13 : decode cL_passEvenings 13 = .ok (.iconst 1, 1) := by decide +kernel
theorem dL_passEvenings_14 : decode cL_passEvenings 14 = .ok (.ireturn, 1) := by decide +kernel
theorem dL_passEvenings_15 : decode cL_passEvenings 15 = .ok (.iconst 0, 1) := by decide +kernel
theorem dL_passEvenings_16 : decode cL_passEvenings 16 = .ok (.ireturn, 1) := by decide +kernel
theorem dL_liarsAfter_0 : decode cL_liarsAfter 0 = .ok (.aload_n 2, 1) := by decide +kernel
theorem dL_liarsAfter_1 : decode cL_liarsAfter 1 = .ok (.iconst 0, 1) := by decide +kernel
theorem dL_liarsAfter_2 : decode cL_liarsAfter 2 = .ok (.aload_n 0, 1) := by decide +kernel
theorem dL_liarsAfter_3 : decode cL_liarsAfter 3 = .ok (.iload_n 1, 1) := by decide +kernel
theorem dL_liarsAfter_4 : decode cL_liarsAfter 4 = .ok (.invokevirtual 94, 3) := by decide +kernel
theorem dL_liarsAfter_7 : decode cL_liarsAfter 7 = .ok (.i2l, 1) := by decide +kernel
theorem dL_liarsAfter_8 : decode cL_liarsAfter 8 = .ok (.lastore, 1) := by decide +kernel
theorem dL_liarsAfter_9 : decode cL_liarsAfter 9 = .ok (.goto 6, 3) := by decide +kernel
theorem dL_liarsAfter_12 : decode cL_liarsAfter 12 = .ok (.astore_n 3, 1) := by decide +kernel
theorem dL_liarsAfter_13 : decode cL_liarsAfter 13 = .ok (.iconst 1, 1) := by decide +kernel
theorem dL_liarsAfter_14 : decode cL_liarsAfter 14 = .ok (.ireturn, 1) := by decide +kernel
theorem dL_liarsAfter_15 : decode cL_liarsAfter 15 = .ok (.iconst 0, 1) := by decide +kernel
theorem dL_liarsAfter_16 : decode cL_liarsAfter 16 = .ok (.ireturn, 1) := by decide +kernel
theorem dL_law_0 : decode cL_law 0 = .ok (.new 8, 3) := by decide +kernel
theorem dL_law_3 : decode cL_law 3 = .ok (.dup, 1) := by decide +kernel
theorem dL_law_4 : decode cL_law 4 = .ok (.invokespecial 97, 3) := by decide +kernel
theorem dL_law_7 : decode cL_law 7 = .ok (.astore_n 1, 1) := by decide +kernel
theorem dL_law_8 : decode cL_law 8 = .ok (.new 98, 3) := by decide +kernel
theorem dL_law_11 : decode cL_law 11 = .ok (.dup, 1) := by decide +kernel
theorem dL_law_12 : decode cL_law 12 = .ok (.invokespecial 100, 3) := by decide +kernel
theorem dL_law_15 : decode cL_law 15 = .ok (.astore_n 2, 1) := by decide +kernel
theorem dL_law_16 : decode cL_law 16 = .ok (.iconst 1, 1) := by decide +kernel
theorem dL_law_17 : decode cL_law 17 = .ok (.newarray .long, 2) := by decide +kernel
theorem dL_law_19 : decode cL_law 19 = .ok (.astore_n 3, 1) := by decide +kernel
theorem dL_law_20 : decode cL_law 20 = .ok (.iconst 0, 1) := by decide +kernel
theorem dL_law_21 : decode cL_law 21 = .ok (.istore 4, 2) := by decide +kernel
theorem dL_law_23 : decode cL_law 23 = .ok (.iload 4, 2) := by decide +kernel
theorem dL_law_25 : decode cL_law 25 = .ok (.aload_n 0, 1) := by decide +kernel
theorem dL_law_26 : decode cL_law 26 = .ok (.arraylength, 1) := by decide +kernel
theorem dL_law_27 : decode cL_law 27 = .ok (.bipush 6, 2) := by decide +kernel
theorem dL_law_29 : decode cL_law 29 = .ok (.isub, 1) := by decide +kernel
theorem dL_law_30 : decode cL_law 30 = .ok (.if_icmp .gt 2026, 3) := by decide +kernel
theorem dL_law_33 : decode cL_law 33 = .ok (.aload_n 0, 1) := by decide +kernel
theorem dL_law_34 : decode cL_law 34 = .ok (.iload 4, 2) := by decide +kernel
theorem dL_law_36 : decode cL_law 36 = .ok (.iaload, 1) := by decide +kernel
theorem dL_law_37 : decode cL_law 37 = .ok (.bipush 63, 2) := by decide +kernel
theorem dL_law_39 : decode cL_law 39 = .ok (.iand, 1) := by decide +kernel
theorem dL_law_40 : decode cL_law 40 = .ok (.tableswitch 2010 0 39 #[176, 280, 336, 349, 362, 375, 388, 401, 414, 427, 483, 539, 595, 651, 707, 763, 838, 894, 957, 1032, 1100, 1113, 1126, 1139, 1202, 1265, 1321, 1377, 1390, 1446, 1538, 1618, 1698, 1754, 1817, 1873, 1929, 1942, 1955, 1996], 176) := by decide +kernel
theorem dL_law_216 : decode cL_law 216 = .ok (.aload_n 1, 1) := by decide +kernel
theorem dL_law_217 : decode cL_law 217 = .ok (.aload_n 0, 1) := by decide +kernel
theorem dL_law_218 : decode cL_law 218 = .ok (.iload 4, 2) := by decide +kernel
theorem dL_law_220 : decode cL_law 220 = .ok (.iconst 1, 1) := by decide +kernel
theorem dL_law_221 : decode cL_law 221 = .ok (.iadd, 1) := by decide +kernel
theorem dL_law_222 : decode cL_law 222 = .ok (.iaload, 1) := by decide +kernel
theorem dL_law_223 : decode cL_law 223 = .ok (.aload_n 0, 1) := by decide +kernel
theorem dL_law_224 : decode cL_law 224 = .ok (.iload 4, 2) := by decide +kernel
theorem dL_law_226 : decode cL_law 226 = .ok (.iconst 2, 1) := by decide +kernel
theorem dL_law_227 : decode cL_law 227 = .ok (.iadd, 1) := by decide +kernel
theorem dL_law_228 : decode cL_law 228 = .ok (.iaload, 1) := by decide +kernel
theorem dL_law_229 : decode cL_law 229 = .ok (.aload_n 0, 1) := by decide +kernel
theorem dL_law_230 : decode cL_law 230 = .ok (.iload 4, 2) := by decide +kernel
theorem dL_law_232 : decode cL_law 232 = .ok (.iconst 3, 1) := by decide +kernel
theorem dL_law_233 : decode cL_law 233 = .ok (.iadd, 1) := by decide +kernel
theorem dL_law_234 : decode cL_law 234 = .ok (.iaload, 1) := by decide +kernel
theorem dL_law_235 : decode cL_law 235 = .ok (.aload_n 0, 1) := by decide +kernel
theorem dL_law_236 : decode cL_law 236 = .ok (.iload 4, 2) := by decide +kernel
theorem dL_law_238 : decode cL_law 238 = .ok (.iconst 4, 1) := by decide +kernel
theorem dL_law_239 : decode cL_law 239 = .ok (.iadd, 1) := by decide +kernel
theorem dL_law_240 : decode cL_law 240 = .ok (.iaload, 1) := by decide +kernel
theorem dL_law_241 : decode cL_law 241 = .ok (.aload_n 0, 1) := by decide +kernel
theorem dL_law_242 : decode cL_law 242 = .ok (.iload 4, 2) := by decide +kernel
theorem dL_law_244 : decode cL_law 244 = .ok (.iconst 5, 1) := by decide +kernel
theorem dL_law_245 : decode cL_law 245 = .ok (.iadd, 1) := by decide +kernel
theorem dL_law_246 : decode cL_law 246 = .ok (.iaload, 1) := by decide +kernel
theorem dL_law_247 : decode cL_law 247 = .ok (.aload_n 3, 1) := by decide +kernel
theorem dL_law_248 : decode cL_law 248 = .ok (.invokestatic 101, 3) := by decide +kernel
theorem dL_law_251 : decode cL_law 251 = .ok (.istore 5, 2) := by decide +kernel
theorem dL_law_253 : decode cL_law 253 = .ok (.aload_n 2, 1) := by decide +kernel
theorem dL_law_254 : decode cL_law 254 = .ok (.aload_n 0, 1) := by decide +kernel
theorem dL_law_255 : decode cL_law 255 = .ok (.iload 4, 2) := by decide +kernel
theorem dL_law_257 : decode cL_law 257 = .ok (.iconst 1, 1) := by decide +kernel
theorem dL_law_258 : decode cL_law 258 = .ok (.iadd, 1) := by decide +kernel
theorem dL_law_259 : decode cL_law 259 = .ok (.iaload, 1) := by decide +kernel
theorem dL_law_260 : decode cL_law 260 = .ok (.aload_n 0, 1) := by decide +kernel
theorem dL_law_261 : decode cL_law 261 = .ok (.iload 4, 2) := by decide +kernel
theorem dL_law_263 : decode cL_law 263 = .ok (.iconst 2, 1) := by decide +kernel
theorem dL_law_264 : decode cL_law 264 = .ok (.iadd, 1) := by decide +kernel
theorem dL_law_265 : decode cL_law 265 = .ok (.iaload, 1) := by decide +kernel
theorem dL_law_266 : decode cL_law 266 = .ok (.aload_n 0, 1) := by decide +kernel
theorem dL_law_267 : decode cL_law 267 = .ok (.iload 4, 2) := by decide +kernel
theorem dL_law_269 : decode cL_law 269 = .ok (.iconst 3, 1) := by decide +kernel
theorem dL_law_270 : decode cL_law 270 = .ok (.iadd, 1) := by decide +kernel
theorem dL_law_271 : decode cL_law 271 = .ok (.iaload, 1) := by decide +kernel
theorem dL_law_272 : decode cL_law 272 = .ok (.aload_n 0, 1) := by decide +kernel
theorem dL_law_273 : decode cL_law 273 = .ok (.iload 4, 2) := by decide +kernel
theorem dL_law_275 : decode cL_law 275 = .ok (.iconst 4, 1) := by decide +kernel
theorem dL_law_276 : decode cL_law 276 = .ok (.iadd, 1) := by decide +kernel
theorem dL_law_277 : decode cL_law 277 = .ok (.iaload, 1) := by decide +kernel
theorem dL_law_278 : decode cL_law 278 = .ok (.aload_n 0, 1) := by decide +kernel
theorem dL_law_279 : decode cL_law 279 = .ok (.iload 4, 2) := by decide +kernel
theorem dL_law_281 : decode cL_law 281 = .ok (.iconst 5, 1) := by decide +kernel
theorem dL_law_282 : decode cL_law 282 = .ok (.iadd, 1) := by decide +kernel
theorem dL_law_283 : decode cL_law 283 = .ok (.iaload, 1) := by decide +kernel
theorem dL_law_284 : decode cL_law 284 = .ok (.invokevirtual 106, 3) := by decide +kernel
theorem dL_law_287 : decode cL_law 287 = .ok (.istore 6, 2) := by decide +kernel
theorem dL_law_289 : decode cL_law 289 = .ok (.aload_n 2, 1) := by decide +kernel
theorem dL_law_290 : decode cL_law 290 = .ok (.invokevirtual 107, 3) := by decide +kernel
theorem dL_law_293 : decode cL_law 293 = .ok (.iload 5, 2) := by decide +kernel
theorem dL_law_295 : decode cL_law 295 = .ok (.if_icmp .eq 5, 3) := by decide +kernel
theorem dL_law_298 : decode cL_law 298 = .ok (.iconst 0, 1) := by decide +kernel
theorem dL_law_299 : decode cL_law 299 = .ok (.ireturn, 1) := by decide +kernel
theorem dL_law_300 : decode cL_law 300 = .ok (.iload 5, 2) := by decide +kernel
theorem dL_law_302 : decode cL_law 302 = .ok (.ifCond .ne 15, 3) := by decide +kernel
theorem dL_law_305 : decode cL_law 305 = .ok (.aload_n 3, 1) := by decide +kernel
theorem dL_law_306 : decode cL_law 306 = .ok (.iconst 0, 1) := by decide +kernel
theorem dL_law_307 : decode cL_law 307 = .ok (.laload, 1) := by decide +kernel
theorem dL_law_308 : decode cL_law 308 = .ok (.iload 6, 2) := by decide +kernel
theorem dL_law_310 : decode cL_law 310 = .ok (.i2l, 1) := by decide +kernel
theorem dL_law_311 : decode cL_law 311 = .ok (.lcmp, 1) := by decide +kernel
theorem dL_law_312 : decode cL_law 312 = .ok (.ifCond .eq 5, 3) := by decide +kernel
theorem dL_law_315 : decode cL_law 315 = .ok (.iconst 0, 1) := by decide +kernel
theorem dL_law_316 : decode cL_law 316 = .ok (.ireturn, 1) := by decide +kernel
theorem dL_law_317 : decode cL_law 317 = .ok (.goto 1733, 3) := by decide +kernel
theorem dL_law_320 : decode cL_law 320 = .ok (.aload_n 1, 1) := by decide +kernel
theorem dL_law_321 : decode cL_law 321 = .ok (.aload_n 0, 1) := by decide +kernel
theorem dL_law_322 : decode cL_law 322 = .ok (.iload 4, 2) := by decide +kernel
theorem dL_law_324 : decode cL_law 324 = .ok (.iconst 1, 1) := by decide +kernel
theorem dL_law_325 : decode cL_law 325 = .ok (.iadd, 1) := by decide +kernel
theorem dL_law_326 : decode cL_law 326 = .ok (.iaload, 1) := by decide +kernel
theorem dL_law_327 : decode cL_law 327 = .ok (.aload_n 3, 1) := by decide +kernel
theorem dL_law_328 : decode cL_law 328 = .ok (.invokestatic 111, 3) := by decide +kernel
theorem dL_law_331 : decode cL_law 331 = .ok (.istore 5, 2) := by decide +kernel
theorem dL_law_333 : decode cL_law 333 = .ok (.aload_n 2, 1) := by decide +kernel
theorem dL_law_334 : decode cL_law 334 = .ok (.aload_n 0, 1) := by decide +kernel
theorem dL_law_335 : decode cL_law 335 = .ok (.iload 4, 2) := by decide +kernel
theorem dL_law_337 : decode cL_law 337 = .ok (.iconst 1, 1) := by decide +kernel
theorem dL_law_338 : decode cL_law 338 = .ok (.iadd, 1) := by decide +kernel
theorem dL_law_339 : decode cL_law 339 = .ok (.iaload, 1) := by decide +kernel
theorem dL_law_340 : decode cL_law 340 = .ok (.invokevirtual 114, 3) := by decide +kernel
theorem dL_law_343 : decode cL_law 343 = .ok (.istore 6, 2) := by decide +kernel
theorem dL_law_345 : decode cL_law 345 = .ok (.aload_n 2, 1) := by decide +kernel
theorem dL_law_346 : decode cL_law 346 = .ok (.invokevirtual 107, 3) := by decide +kernel
theorem dL_law_349 : decode cL_law 349 = .ok (.iload 5, 2) := by decide +kernel
theorem dL_law_351 : decode cL_law 351 = .ok (.if_icmp .eq 5, 3) := by decide +kernel
theorem dL_law_354 : decode cL_law 354 = .ok (.iconst 0, 1) := by decide +kernel
theorem dL_law_355 : decode cL_law 355 = .ok (.ireturn, 1) := by decide +kernel
theorem dL_law_356 : decode cL_law 356 = .ok (.iload 5, 2) := by decide +kernel
theorem dL_law_358 : decode cL_law 358 = .ok (.ifCond .ne 15, 3) := by decide +kernel
theorem dL_law_361 : decode cL_law 361 = .ok (.aload_n 3, 1) := by decide +kernel
theorem dL_law_362 : decode cL_law 362 = .ok (.iconst 0, 1) := by decide +kernel
theorem dL_law_363 : decode cL_law 363 = .ok (.laload, 1) := by decide +kernel
theorem dL_law_364 : decode cL_law 364 = .ok (.iload 6, 2) := by decide +kernel
theorem dL_law_366 : decode cL_law 366 = .ok (.i2l, 1) := by decide +kernel
theorem dL_law_367 : decode cL_law 367 = .ok (.lcmp, 1) := by decide +kernel
theorem dL_law_368 : decode cL_law 368 = .ok (.ifCond .eq 5, 3) := by decide +kernel
theorem dL_law_371 : decode cL_law 371 = .ok (.iconst 0, 1) := by decide +kernel
theorem dL_law_372 : decode cL_law 372 = .ok (.ireturn, 1) := by decide +kernel
theorem dL_law_373 : decode cL_law 373 = .ok (.goto 1677, 3) := by decide +kernel
theorem dL_law_376 : decode cL_law 376 = .ok (.aload_n 1, 1) := by decide +kernel
theorem dL_law_377 : decode cL_law 377 = .ok (.invokevirtual 115, 3) := by decide +kernel
theorem dL_law_380 : decode cL_law 380 = .ok (.aload_n 2, 1) := by decide +kernel
theorem dL_law_381 : decode cL_law 381 = .ok (.invokevirtual 118, 3) := by decide +kernel
theorem dL_law_384 : decode cL_law 384 = .ok (.if_icmp .eq 1666, 3) := by decide +kernel
theorem dL_law_387 : decode cL_law 387 = .ok (.iconst 0, 1) := by decide +kernel
theorem dL_law_388 : decode cL_law 388 = .ok (.ireturn, 1) := by decide +kernel
theorem dL_law_389 : decode cL_law 389 = .ok (.aload_n 1, 1) := by decide +kernel
theorem dL_law_390 : decode cL_law 390 = .ok (.invokevirtual 119, 3) := by decide +kernel
theorem dL_law_393 : decode cL_law 393 = .ok (.aload_n 2, 1) := by decide +kernel
theorem dL_law_394 : decode cL_law 394 = .ok (.invokevirtual 122, 3) := by decide +kernel
theorem dL_law_397 : decode cL_law 397 = .ok (.if_icmp .eq 1653, 3) := by decide +kernel
theorem dL_law_400 : decode cL_law 400 = .ok (.iconst 0, 1) := by decide +kernel
theorem dL_law_401 : decode cL_law 401 = .ok (.ireturn, 1) := by decide +kernel
theorem dL_law_402 : decode cL_law 402 = .ok (.aload_n 1, 1) := by decide +kernel
theorem dL_law_403 : decode cL_law 403 = .ok (.invokevirtual 123, 3) := by decide +kernel
theorem dL_law_406 : decode cL_law 406 = .ok (.aload_n 2, 1) := by decide +kernel
theorem dL_law_407 : decode cL_law 407 = .ok (.invokevirtual 126, 3) := by decide +kernel
theorem dL_law_410 : decode cL_law 410 = .ok (.if_icmp .eq 1640, 3) := by decide +kernel
theorem dL_law_413 : decode cL_law 413 = .ok (.iconst 0, 1) := by decide +kernel
theorem dL_law_414 : decode cL_law 414 = .ok (.ireturn, 1) := by decide +kernel
theorem dL_law_415 : decode cL_law 415 = .ok (.aload_n 1, 1) := by decide +kernel
theorem dL_law_416 : decode cL_law 416 = .ok (.invokevirtual 127, 3) := by decide +kernel
theorem dL_law_419 : decode cL_law 419 = .ok (.aload_n 2, 1) := by decide +kernel
theorem dL_law_420 : decode cL_law 420 = .ok (.invokevirtual 130, 3) := by decide +kernel
theorem dL_law_423 : decode cL_law 423 = .ok (.if_icmp .eq 1627, 3) := by decide +kernel
theorem dL_law_426 : decode cL_law 426 = .ok (.iconst 0, 1) := by decide +kernel
theorem dL_law_427 : decode cL_law 427 = .ok (.ireturn, 1) := by decide +kernel
theorem dL_law_428 : decode cL_law 428 = .ok (.aload_n 1, 1) := by decide +kernel
theorem dL_law_429 : decode cL_law 429 = .ok (.invokevirtual 131, 3) := by decide +kernel
theorem dL_law_432 : decode cL_law 432 = .ok (.aload_n 2, 1) := by decide +kernel
theorem dL_law_433 : decode cL_law 433 = .ok (.invokevirtual 134, 3) := by decide +kernel
theorem dL_law_436 : decode cL_law 436 = .ok (.if_icmp .eq 1614, 3) := by decide +kernel
theorem dL_law_439 : decode cL_law 439 = .ok (.iconst 0, 1) := by decide +kernel
theorem dL_law_440 : decode cL_law 440 = .ok (.ireturn, 1) := by decide +kernel
theorem dL_law_441 : decode cL_law 441 = .ok (.aload_n 1, 1) := by decide +kernel
theorem dL_law_442 : decode cL_law 442 = .ok (.invokevirtual 135, 3) := by decide +kernel
theorem dL_law_445 : decode cL_law 445 = .ok (.aload_n 2, 1) := by decide +kernel
theorem dL_law_446 : decode cL_law 446 = .ok (.invokevirtual 138, 3) := by decide +kernel
theorem dL_law_449 : decode cL_law 449 = .ok (.if_icmp .eq 1601, 3) := by decide +kernel
theorem dL_law_452 : decode cL_law 452 = .ok (.iconst 0, 1) := by decide +kernel
theorem dL_law_453 : decode cL_law 453 = .ok (.ireturn, 1) := by decide +kernel
theorem dL_law_454 : decode cL_law 454 = .ok (.aload_n 1, 1) := by decide +kernel
theorem dL_law_455 : decode cL_law 455 = .ok (.invokevirtual 139, 3) := by decide +kernel
theorem dL_law_458 : decode cL_law 458 = .ok (.aload_n 2, 1) := by decide +kernel
theorem dL_law_459 : decode cL_law 459 = .ok (.invokevirtual 142, 3) := by decide +kernel
theorem dL_law_462 : decode cL_law 462 = .ok (.if_icmp .eq 1588, 3) := by decide +kernel
theorem dL_law_465 : decode cL_law 465 = .ok (.iconst 0, 1) := by decide +kernel
theorem dL_law_466 : decode cL_law 466 = .ok (.ireturn, 1) := by decide +kernel
theorem dL_law_467 : decode cL_law 467 = .ok (.aload_n 1, 1) := by decide +kernel
theorem dL_law_468 : decode cL_law 468 = .ok (.aload_n 0, 1) := by decide +kernel
theorem dL_law_469 : decode cL_law 469 = .ok (.iload 4, 2) := by decide +kernel
theorem dL_law_471 : decode cL_law 471 = .ok (.iconst 1, 1) := by decide +kernel
theorem dL_law_472 : decode cL_law 472 = .ok (.iadd, 1) := by decide +kernel
theorem dL_law_473 : decode cL_law 473 = .ok (.iaload, 1) := by decide +kernel
theorem dL_law_474 : decode cL_law 474 = .ok (.aload_n 3, 1) := by decide +kernel
theorem dL_law_475 : decode cL_law 475 = .ok (.invokestatic 143, 3) := by decide +kernel
theorem dL_law_478 : decode cL_law 478 = .ok (.istore 5, 2) := by decide +kernel
theorem dL_law_480 : decode cL_law 480 = .ok (.aload_n 2, 1) := by decide +kernel
theorem dL_law_481 : decode cL_law 481 = .ok (.aload_n 0, 1) := by decide +kernel
theorem dL_law_482 : decode cL_law 482 = .ok (.iload 4, 2) := by decide +kernel
theorem dL_law_484 : decode cL_law 484 = .ok (.iconst 1, 1) := by decide +kernel
theorem dL_law_485 : decode cL_law 485 = .ok (.iadd, 1) := by decide +kernel
theorem dL_law_486 : decode cL_law 486 = .ok (.iaload, 1) := by decide +kernel
theorem dL_law_487 : decode cL_law 487 = .ok (.invokevirtual 145, 3) := by decide +kernel
theorem dL_law_490 : decode cL_law 490 = .ok (.istore 6, 2) := by decide +kernel
theorem dL_law_492 : decode cL_law 492 = .ok (.aload_n 2, 1) := by decide +kernel
theorem dL_law_493 : decode cL_law 493 = .ok (.invokevirtual 107, 3) := by decide +kernel
theorem dL_law_496 : decode cL_law 496 = .ok (.iload 5, 2) := by decide +kernel
theorem dL_law_498 : decode cL_law 498 = .ok (.if_icmp .eq 5, 3) := by decide +kernel
theorem dL_law_501 : decode cL_law 501 = .ok (.iconst 0, 1) := by decide +kernel
theorem dL_law_502 : decode cL_law 502 = .ok (.ireturn, 1) := by decide +kernel
theorem dL_law_503 : decode cL_law 503 = .ok (.iload 5, 2) := by decide +kernel
theorem dL_law_505 : decode cL_law 505 = .ok (.ifCond .ne 15, 3) := by decide +kernel
theorem dL_law_508 : decode cL_law 508 = .ok (.aload_n 3, 1) := by decide +kernel
theorem dL_law_509 : decode cL_law 509 = .ok (.iconst 0, 1) := by decide +kernel
theorem dL_law_510 : decode cL_law 510 = .ok (.laload, 1) := by decide +kernel
theorem dL_law_511 : decode cL_law 511 = .ok (.iload 6, 2) := by decide +kernel
theorem dL_law_513 : decode cL_law 513 = .ok (.i2l, 1) := by decide +kernel
theorem dL_law_514 : decode cL_law 514 = .ok (.lcmp, 1) := by decide +kernel
theorem dL_law_515 : decode cL_law 515 = .ok (.ifCond .eq 5, 3) := by decide +kernel
theorem dL_law_518 : decode cL_law 518 = .ok (.iconst 0, 1) := by decide +kernel
theorem dL_law_519 : decode cL_law 519 = .ok (.ireturn, 1) := by decide +kernel
theorem dL_law_520 : decode cL_law 520 = .ok (.goto 1530, 3) := by decide +kernel
theorem dL_law_523 : decode cL_law 523 = .ok (.aload_n 1, 1) := by decide +kernel
theorem dL_law_524 : decode cL_law 524 = .ok (.aload_n 0, 1) := by decide +kernel
theorem dL_law_525 : decode cL_law 525 = .ok (.iload 4, 2) := by decide +kernel
theorem dL_law_527 : decode cL_law 527 = .ok (.iconst 1, 1) := by decide +kernel
theorem dL_law_528 : decode cL_law 528 = .ok (.iadd, 1) := by decide +kernel
theorem dL_law_529 : decode cL_law 529 = .ok (.iaload, 1) := by decide +kernel
theorem dL_law_530 : decode cL_law 530 = .ok (.aload_n 3, 1) := by decide +kernel
theorem dL_law_531 : decode cL_law 531 = .ok (.invokestatic 146, 3) := by decide +kernel
theorem dL_law_534 : decode cL_law 534 = .ok (.istore 5, 2) := by decide +kernel
theorem dL_law_536 : decode cL_law 536 = .ok (.aload_n 2, 1) := by decide +kernel
theorem dL_law_537 : decode cL_law 537 = .ok (.aload_n 0, 1) := by decide +kernel
theorem dL_law_538 : decode cL_law 538 = .ok (.iload 4, 2) := by decide +kernel
theorem dL_law_540 : decode cL_law 540 = .ok (.iconst 1, 1) := by decide +kernel
theorem dL_law_541 : decode cL_law 541 = .ok (.iadd, 1) := by decide +kernel
theorem dL_law_542 : decode cL_law 542 = .ok (.iaload, 1) := by decide +kernel
theorem dL_law_543 : decode cL_law 543 = .ok (.invokevirtual 148, 3) := by decide +kernel
theorem dL_law_546 : decode cL_law 546 = .ok (.istore 6, 2) := by decide +kernel
theorem dL_law_548 : decode cL_law 548 = .ok (.aload_n 2, 1) := by decide +kernel
theorem dL_law_549 : decode cL_law 549 = .ok (.invokevirtual 107, 3) := by decide +kernel
theorem dL_law_552 : decode cL_law 552 = .ok (.iload 5, 2) := by decide +kernel
theorem dL_law_554 : decode cL_law 554 = .ok (.if_icmp .eq 5, 3) := by decide +kernel
theorem dL_law_557 : decode cL_law 557 = .ok (.iconst 0, 1) := by decide +kernel
theorem dL_law_558 : decode cL_law 558 = .ok (.ireturn, 1) := by decide +kernel
theorem dL_law_559 : decode cL_law 559 = .ok (.iload 5, 2) := by decide +kernel
theorem dL_law_561 : decode cL_law 561 = .ok (.ifCond .ne 15, 3) := by decide +kernel
theorem dL_law_564 : decode cL_law 564 = .ok (.aload_n 3, 1) := by decide +kernel
theorem dL_law_565 : decode cL_law 565 = .ok (.iconst 0, 1) := by decide +kernel
theorem dL_law_566 : decode cL_law 566 = .ok (.laload, 1) := by decide +kernel
theorem dL_law_567 : decode cL_law 567 = .ok (.iload 6, 2) := by decide +kernel
theorem dL_law_569 : decode cL_law 569 = .ok (.i2l, 1) := by decide +kernel
theorem dL_law_570 : decode cL_law 570 = .ok (.lcmp, 1) := by decide +kernel
theorem dL_law_571 : decode cL_law 571 = .ok (.ifCond .eq 5, 3) := by decide +kernel
theorem dL_law_574 : decode cL_law 574 = .ok (.iconst 0, 1) := by decide +kernel
theorem dL_law_575 : decode cL_law 575 = .ok (.ireturn, 1) := by decide +kernel
theorem dL_law_576 : decode cL_law 576 = .ok (.goto 1474, 3) := by decide +kernel
theorem dL_law_579 : decode cL_law 579 = .ok (.aload_n 1, 1) := by decide +kernel
theorem dL_law_580 : decode cL_law 580 = .ok (.aload_n 0, 1) := by decide +kernel
theorem dL_law_581 : decode cL_law 581 = .ok (.iload 4, 2) := by decide +kernel
theorem dL_law_583 : decode cL_law 583 = .ok (.iconst 1, 1) := by decide +kernel
theorem dL_law_584 : decode cL_law 584 = .ok (.iadd, 1) := by decide +kernel
theorem dL_law_585 : decode cL_law 585 = .ok (.iaload, 1) := by decide +kernel
theorem dL_law_586 : decode cL_law 586 = .ok (.aload_n 3, 1) := by decide +kernel
theorem dL_law_587 : decode cL_law 587 = .ok (.invokestatic 149, 3) := by decide +kernel
theorem dL_law_590 : decode cL_law 590 = .ok (.istore 5, 2) := by decide +kernel
theorem dL_law_592 : decode cL_law 592 = .ok (.aload_n 2, 1) := by decide +kernel
theorem dL_law_593 : decode cL_law 593 = .ok (.aload_n 0, 1) := by decide +kernel
theorem dL_law_594 : decode cL_law 594 = .ok (.iload 4, 2) := by decide +kernel
theorem dL_law_596 : decode cL_law 596 = .ok (.iconst 1, 1) := by decide +kernel
theorem dL_law_597 : decode cL_law 597 = .ok (.iadd, 1) := by decide +kernel
theorem dL_law_598 : decode cL_law 598 = .ok (.iaload, 1) := by decide +kernel
theorem dL_law_599 : decode cL_law 599 = .ok (.invokevirtual 151, 3) := by decide +kernel
theorem dL_law_602 : decode cL_law 602 = .ok (.istore 6, 2) := by decide +kernel
theorem dL_law_604 : decode cL_law 604 = .ok (.aload_n 2, 1) := by decide +kernel
theorem dL_law_605 : decode cL_law 605 = .ok (.invokevirtual 107, 3) := by decide +kernel
theorem dL_law_608 : decode cL_law 608 = .ok (.iload 5, 2) := by decide +kernel
theorem dL_law_610 : decode cL_law 610 = .ok (.if_icmp .eq 5, 3) := by decide +kernel
theorem dL_law_613 : decode cL_law 613 = .ok (.iconst 0, 1) := by decide +kernel
theorem dL_law_614 : decode cL_law 614 = .ok (.ireturn, 1) := by decide +kernel
theorem dL_law_615 : decode cL_law 615 = .ok (.iload 5, 2) := by decide +kernel
theorem dL_law_617 : decode cL_law 617 = .ok (.ifCond .ne 15, 3) := by decide +kernel
theorem dL_law_620 : decode cL_law 620 = .ok (.aload_n 3, 1) := by decide +kernel
theorem dL_law_621 : decode cL_law 621 = .ok (.iconst 0, 1) := by decide +kernel
theorem dL_law_622 : decode cL_law 622 = .ok (.laload, 1) := by decide +kernel
theorem dL_law_623 : decode cL_law 623 = .ok (.iload 6, 2) := by decide +kernel
theorem dL_law_625 : decode cL_law 625 = .ok (.i2l, 1) := by decide +kernel
theorem dL_law_626 : decode cL_law 626 = .ok (.lcmp, 1) := by decide +kernel
theorem dL_law_627 : decode cL_law 627 = .ok (.ifCond .eq 5, 3) := by decide +kernel
theorem dL_law_630 : decode cL_law 630 = .ok (.iconst 0, 1) := by decide +kernel
theorem dL_law_631 : decode cL_law 631 = .ok (.ireturn, 1) := by decide +kernel
theorem dL_law_632 : decode cL_law 632 = .ok (.goto 1418, 3) := by decide +kernel
theorem dL_law_635 : decode cL_law 635 = .ok (.aload_n 1, 1) := by decide +kernel
theorem dL_law_636 : decode cL_law 636 = .ok (.aload_n 0, 1) := by decide +kernel
theorem dL_law_637 : decode cL_law 637 = .ok (.iload 4, 2) := by decide +kernel
theorem dL_law_639 : decode cL_law 639 = .ok (.iconst 1, 1) := by decide +kernel
theorem dL_law_640 : decode cL_law 640 = .ok (.iadd, 1) := by decide +kernel
theorem dL_law_641 : decode cL_law 641 = .ok (.iaload, 1) := by decide +kernel
theorem dL_law_642 : decode cL_law 642 = .ok (.aload_n 3, 1) := by decide +kernel
theorem dL_law_643 : decode cL_law 643 = .ok (.invokestatic 152, 3) := by decide +kernel
theorem dL_law_646 : decode cL_law 646 = .ok (.istore 5, 2) := by decide +kernel
theorem dL_law_648 : decode cL_law 648 = .ok (.aload_n 2, 1) := by decide +kernel
theorem dL_law_649 : decode cL_law 649 = .ok (.aload_n 0, 1) := by decide +kernel
theorem dL_law_650 : decode cL_law 650 = .ok (.iload 4, 2) := by decide +kernel
theorem dL_law_652 : decode cL_law 652 = .ok (.iconst 1, 1) := by decide +kernel
theorem dL_law_653 : decode cL_law 653 = .ok (.iadd, 1) := by decide +kernel
theorem dL_law_654 : decode cL_law 654 = .ok (.iaload, 1) := by decide +kernel
theorem dL_law_655 : decode cL_law 655 = .ok (.invokevirtual 154, 3) := by decide +kernel
theorem dL_law_658 : decode cL_law 658 = .ok (.istore 6, 2) := by decide +kernel
theorem dL_law_660 : decode cL_law 660 = .ok (.aload_n 2, 1) := by decide +kernel
theorem dL_law_661 : decode cL_law 661 = .ok (.invokevirtual 107, 3) := by decide +kernel
theorem dL_law_664 : decode cL_law 664 = .ok (.iload 5, 2) := by decide +kernel
theorem dL_law_666 : decode cL_law 666 = .ok (.if_icmp .eq 5, 3) := by decide +kernel
theorem dL_law_669 : decode cL_law 669 = .ok (.iconst 0, 1) := by decide +kernel
theorem dL_law_670 : decode cL_law 670 = .ok (.ireturn, 1) := by decide +kernel
theorem dL_law_671 : decode cL_law 671 = .ok (.iload 5, 2) := by decide +kernel
theorem dL_law_673 : decode cL_law 673 = .ok (.ifCond .ne 15, 3) := by decide +kernel
theorem dL_law_676 : decode cL_law 676 = .ok (.aload_n 3, 1) := by decide +kernel
theorem dL_law_677 : decode cL_law 677 = .ok (.iconst 0, 1) := by decide +kernel
theorem dL_law_678 : decode cL_law 678 = .ok (.laload, 1) := by decide +kernel
theorem dL_law_679 : decode cL_law 679 = .ok (.iload 6, 2) := by decide +kernel
theorem dL_law_681 : decode cL_law 681 = .ok (.i2l, 1) := by decide +kernel
theorem dL_law_682 : decode cL_law 682 = .ok (.lcmp, 1) := by decide +kernel
theorem dL_law_683 : decode cL_law 683 = .ok (.ifCond .eq 5, 3) := by decide +kernel
theorem dL_law_686 : decode cL_law 686 = .ok (.iconst 0, 1) := by decide +kernel
theorem dL_law_687 : decode cL_law 687 = .ok (.ireturn, 1) := by decide +kernel
theorem dL_law_688 : decode cL_law 688 = .ok (.goto 1362, 3) := by decide +kernel
theorem dL_law_691 : decode cL_law 691 = .ok (.aload_n 1, 1) := by decide +kernel
theorem dL_law_692 : decode cL_law 692 = .ok (.aload_n 0, 1) := by decide +kernel
theorem dL_law_693 : decode cL_law 693 = .ok (.iload 4, 2) := by decide +kernel
theorem dL_law_695 : decode cL_law 695 = .ok (.iconst 1, 1) := by decide +kernel
theorem dL_law_696 : decode cL_law 696 = .ok (.iadd, 1) := by decide +kernel
theorem dL_law_697 : decode cL_law 697 = .ok (.iaload, 1) := by decide +kernel
theorem dL_law_698 : decode cL_law 698 = .ok (.aload_n 3, 1) := by decide +kernel
theorem dL_law_699 : decode cL_law 699 = .ok (.invokestatic 155, 3) := by decide +kernel
theorem dL_law_702 : decode cL_law 702 = .ok (.istore 5, 2) := by decide +kernel
theorem dL_law_704 : decode cL_law 704 = .ok (.aload_n 2, 1) := by decide +kernel
theorem dL_law_705 : decode cL_law 705 = .ok (.aload_n 0, 1) := by decide +kernel
theorem dL_law_706 : decode cL_law 706 = .ok (.iload 4, 2) := by decide +kernel
theorem dL_law_708 : decode cL_law 708 = .ok (.iconst 1, 1) := by decide +kernel
theorem dL_law_709 : decode cL_law 709 = .ok (.iadd, 1) := by decide +kernel
theorem dL_law_710 : decode cL_law 710 = .ok (.iaload, 1) := by decide +kernel
theorem dL_law_711 : decode cL_law 711 = .ok (.invokevirtual 157, 3) := by decide +kernel
theorem dL_law_714 : decode cL_law 714 = .ok (.istore 6, 2) := by decide +kernel
theorem dL_law_716 : decode cL_law 716 = .ok (.aload_n 2, 1) := by decide +kernel
theorem dL_law_717 : decode cL_law 717 = .ok (.invokevirtual 107, 3) := by decide +kernel
theorem dL_law_720 : decode cL_law 720 = .ok (.iload 5, 2) := by decide +kernel
theorem dL_law_722 : decode cL_law 722 = .ok (.if_icmp .eq 5, 3) := by decide +kernel
theorem dL_law_725 : decode cL_law 725 = .ok (.iconst 0, 1) := by decide +kernel
theorem dL_law_726 : decode cL_law 726 = .ok (.ireturn, 1) := by decide +kernel
theorem dL_law_727 : decode cL_law 727 = .ok (.iload 5, 2) := by decide +kernel
theorem dL_law_729 : decode cL_law 729 = .ok (.ifCond .ne 15, 3) := by decide +kernel
theorem dL_law_732 : decode cL_law 732 = .ok (.aload_n 3, 1) := by decide +kernel
theorem dL_law_733 : decode cL_law 733 = .ok (.iconst 0, 1) := by decide +kernel
theorem dL_law_734 : decode cL_law 734 = .ok (.laload, 1) := by decide +kernel
theorem dL_law_735 : decode cL_law 735 = .ok (.iload 6, 2) := by decide +kernel
theorem dL_law_737 : decode cL_law 737 = .ok (.i2l, 1) := by decide +kernel
theorem dL_law_738 : decode cL_law 738 = .ok (.lcmp, 1) := by decide +kernel
theorem dL_law_739 : decode cL_law 739 = .ok (.ifCond .eq 5, 3) := by decide +kernel
theorem dL_law_742 : decode cL_law 742 = .ok (.iconst 0, 1) := by decide +kernel
theorem dL_law_743 : decode cL_law 743 = .ok (.ireturn, 1) := by decide +kernel
theorem dL_law_744 : decode cL_law 744 = .ok (.goto 1306, 3) := by decide +kernel
theorem dL_law_747 : decode cL_law 747 = .ok (.aload_n 1, 1) := by decide +kernel
theorem dL_law_748 : decode cL_law 748 = .ok (.aload_n 0, 1) := by decide +kernel
theorem dL_law_749 : decode cL_law 749 = .ok (.iload 4, 2) := by decide +kernel
theorem dL_law_751 : decode cL_law 751 = .ok (.iconst 1, 1) := by decide +kernel
theorem dL_law_752 : decode cL_law 752 = .ok (.iadd, 1) := by decide +kernel
theorem dL_law_753 : decode cL_law 753 = .ok (.iaload, 1) := by decide +kernel
theorem dL_law_754 : decode cL_law 754 = .ok (.aload_n 3, 1) := by decide +kernel
theorem dL_law_755 : decode cL_law 755 = .ok (.invokestatic 158, 3) := by decide +kernel
theorem dL_law_758 : decode cL_law 758 = .ok (.istore 5, 2) := by decide +kernel
theorem dL_law_760 : decode cL_law 760 = .ok (.aload_n 2, 1) := by decide +kernel
theorem dL_law_761 : decode cL_law 761 = .ok (.aload_n 0, 1) := by decide +kernel
theorem dL_law_762 : decode cL_law 762 = .ok (.iload 4, 2) := by decide +kernel
theorem dL_law_764 : decode cL_law 764 = .ok (.iconst 1, 1) := by decide +kernel
theorem dL_law_765 : decode cL_law 765 = .ok (.iadd, 1) := by decide +kernel
theorem dL_law_766 : decode cL_law 766 = .ok (.iaload, 1) := by decide +kernel
theorem dL_law_767 : decode cL_law 767 = .ok (.invokevirtual 160, 3) := by decide +kernel
theorem dL_law_770 : decode cL_law 770 = .ok (.istore 6, 2) := by decide +kernel
theorem dL_law_772 : decode cL_law 772 = .ok (.aload_n 2, 1) := by decide +kernel
theorem dL_law_773 : decode cL_law 773 = .ok (.invokevirtual 107, 3) := by decide +kernel
theorem dL_law_776 : decode cL_law 776 = .ok (.iload 5, 2) := by decide +kernel
theorem dL_law_778 : decode cL_law 778 = .ok (.if_icmp .eq 5, 3) := by decide +kernel
theorem dL_law_781 : decode cL_law 781 = .ok (.iconst 0, 1) := by decide +kernel
theorem dL_law_782 : decode cL_law 782 = .ok (.ireturn, 1) := by decide +kernel
theorem dL_law_783 : decode cL_law 783 = .ok (.iload 5, 2) := by decide +kernel
theorem dL_law_785 : decode cL_law 785 = .ok (.ifCond .ne 15, 3) := by decide +kernel
theorem dL_law_788 : decode cL_law 788 = .ok (.aload_n 3, 1) := by decide +kernel
theorem dL_law_789 : decode cL_law 789 = .ok (.iconst 0, 1) := by decide +kernel
theorem dL_law_790 : decode cL_law 790 = .ok (.laload, 1) := by decide +kernel
theorem dL_law_791 : decode cL_law 791 = .ok (.iload 6, 2) := by decide +kernel
theorem dL_law_793 : decode cL_law 793 = .ok (.i2l, 1) := by decide +kernel
theorem dL_law_794 : decode cL_law 794 = .ok (.lcmp, 1) := by decide +kernel
theorem dL_law_795 : decode cL_law 795 = .ok (.ifCond .eq 5, 3) := by decide +kernel
theorem dL_law_798 : decode cL_law 798 = .ok (.iconst 0, 1) := by decide +kernel
theorem dL_law_799 : decode cL_law 799 = .ok (.ireturn, 1) := by decide +kernel
theorem dL_law_800 : decode cL_law 800 = .ok (.goto 1250, 3) := by decide +kernel
theorem dL_law_803 : decode cL_law 803 = .ok (.aload_n 1, 1) := by decide +kernel
theorem dL_law_804 : decode cL_law 804 = .ok (.aload_n 0, 1) := by decide +kernel
theorem dL_law_805 : decode cL_law 805 = .ok (.iload 4, 2) := by decide +kernel
theorem dL_law_807 : decode cL_law 807 = .ok (.iconst 1, 1) := by decide +kernel
theorem dL_law_808 : decode cL_law 808 = .ok (.iadd, 1) := by decide +kernel
theorem dL_law_809 : decode cL_law 809 = .ok (.iaload, 1) := by decide +kernel
theorem dL_law_810 : decode cL_law 810 = .ok (.aload_n 0, 1) := by decide +kernel
theorem dL_law_811 : decode cL_law 811 = .ok (.iload 4, 2) := by decide +kernel
theorem dL_law_813 : decode cL_law 813 = .ok (.iconst 2, 1) := by decide +kernel
theorem dL_law_814 : decode cL_law 814 = .ok (.iadd, 1) := by decide +kernel
theorem dL_law_815 : decode cL_law 815 = .ok (.iaload, 1) := by decide +kernel
theorem dL_law_816 : decode cL_law 816 = .ok (.aload_n 3, 1) := by decide +kernel
theorem dL_law_817 : decode cL_law 817 = .ok (.invokestatic 161, 3) := by decide +kernel
theorem dL_law_820 : decode cL_law 820 = .ok (.istore 5, 2) := by decide +kernel
theorem dL_law_822 : decode cL_law 822 = .ok (.aload_n 2, 1) := by decide +kernel
theorem dL_law_823 : decode cL_law 823 = .ok (.aload_n 0, 1) := by decide +kernel
theorem dL_law_824 : decode cL_law 824 = .ok (.iload 4, 2) := by decide +kernel
theorem dL_law_826 : decode cL_law 826 = .ok (.iconst 1, 1) := by decide +kernel
theorem dL_law_827 : decode cL_law 827 = .ok (.iadd, 1) := by decide +kernel
theorem dL_law_828 : decode cL_law 828 = .ok (.iaload, 1) := by decide +kernel
theorem dL_law_829 : decode cL_law 829 = .ok (.aload_n 0, 1) := by decide +kernel
theorem dL_law_830 : decode cL_law 830 = .ok (.iload 4, 2) := by decide +kernel
theorem dL_law_832 : decode cL_law 832 = .ok (.iconst 2, 1) := by decide +kernel
theorem dL_law_833 : decode cL_law 833 = .ok (.iadd, 1) := by decide +kernel
theorem dL_law_834 : decode cL_law 834 = .ok (.iaload, 1) := by decide +kernel
theorem dL_law_835 : decode cL_law 835 = .ok (.invokevirtual 164, 3) := by decide +kernel
theorem dL_law_838 : decode cL_law 838 = .ok (.istore 6, 2) := by decide +kernel
theorem dL_law_840 : decode cL_law 840 = .ok (.aload_n 2, 1) := by decide +kernel
theorem dL_law_841 : decode cL_law 841 = .ok (.invokevirtual 107, 3) := by decide +kernel
theorem dL_law_844 : decode cL_law 844 = .ok (.iload 5, 2) := by decide +kernel
theorem dL_law_846 : decode cL_law 846 = .ok (.if_icmp .eq 5, 3) := by decide +kernel
theorem dL_law_849 : decode cL_law 849 = .ok (.iconst 0, 1) := by decide +kernel
theorem dL_law_850 : decode cL_law 850 = .ok (.ireturn, 1) := by decide +kernel
theorem dL_law_851 : decode cL_law 851 = .ok (.iload 5, 2) := by decide +kernel
theorem dL_law_853 : decode cL_law 853 = .ok (.ifCond .ne 22, 3) := by decide +kernel
theorem dL_law_856 : decode cL_law 856 = .ok (.aload_n 3, 1) := by decide +kernel
theorem dL_law_857 : decode cL_law 857 = .ok (.iconst 0, 1) := by decide +kernel
theorem dL_law_858 : decode cL_law 858 = .ok (.laload, 1) := by decide +kernel
theorem dL_law_859 : decode cL_law 859 = .ok (.iload 6, 2) := by decide +kernel
theorem dL_law_861 : decode cL_law 861 = .ok (.ifCond .eq 7, 3) := by decide +kernel
theorem dL_law_864 : decode cL_law 864 = .ok (.lconst 1, 1) := by decide +kernel
theorem dL_law_865 : decode cL_law 865 = .ok (.goto 4, 3) := by decide +kernel
theorem dL_law_868 : decode cL_law 868 = .ok (.lconst 0, 1) := by decide +kernel
theorem dL_law_869 : decode cL_law 869 = .ok (.lcmp, 1) := by decide +kernel
theorem dL_law_870 : decode cL_law 870 = .ok (.ifCond .eq 5, 3) := by decide +kernel
theorem dL_law_873 : decode cL_law 873 = .ok (.iconst 0, 1) := by decide +kernel
theorem dL_law_874 : decode cL_law 874 = .ok (.ireturn, 1) := by decide +kernel
theorem dL_law_875 : decode cL_law 875 = .ok (.goto 1175, 3) := by decide +kernel
theorem dL_law_878 : decode cL_law 878 = .ok (.aload_n 1, 1) := by decide +kernel
theorem dL_law_879 : decode cL_law 879 = .ok (.aload_n 0, 1) := by decide +kernel
theorem dL_law_880 : decode cL_law 880 = .ok (.iload 4, 2) := by decide +kernel
theorem dL_law_882 : decode cL_law 882 = .ok (.iconst 1, 1) := by decide +kernel
theorem dL_law_883 : decode cL_law 883 = .ok (.iadd, 1) := by decide +kernel
theorem dL_law_884 : decode cL_law 884 = .ok (.iaload, 1) := by decide +kernel
theorem dL_law_885 : decode cL_law 885 = .ok (.aload_n 3, 1) := by decide +kernel
theorem dL_law_886 : decode cL_law 886 = .ok (.invokestatic 165, 3) := by decide +kernel
theorem dL_law_889 : decode cL_law 889 = .ok (.istore 5, 2) := by decide +kernel
theorem dL_law_891 : decode cL_law 891 = .ok (.aload_n 2, 1) := by decide +kernel
theorem dL_law_892 : decode cL_law 892 = .ok (.aload_n 0, 1) := by decide +kernel
theorem dL_law_893 : decode cL_law 893 = .ok (.iload 4, 2) := by decide +kernel
theorem dL_law_895 : decode cL_law 895 = .ok (.iconst 1, 1) := by decide +kernel
theorem dL_law_896 : decode cL_law 896 = .ok (.iadd, 1) := by decide +kernel
theorem dL_law_897 : decode cL_law 897 = .ok (.iaload, 1) := by decide +kernel
theorem dL_law_898 : decode cL_law 898 = .ok (.invokevirtual 167, 3) := by decide +kernel
theorem dL_law_901 : decode cL_law 901 = .ok (.istore 6, 2) := by decide +kernel
theorem dL_law_903 : decode cL_law 903 = .ok (.aload_n 2, 1) := by decide +kernel
theorem dL_law_904 : decode cL_law 904 = .ok (.invokevirtual 107, 3) := by decide +kernel
theorem dL_law_907 : decode cL_law 907 = .ok (.iload 5, 2) := by decide +kernel
theorem dL_law_909 : decode cL_law 909 = .ok (.if_icmp .eq 5, 3) := by decide +kernel
theorem dL_law_912 : decode cL_law 912 = .ok (.iconst 0, 1) := by decide +kernel
theorem dL_law_913 : decode cL_law 913 = .ok (.ireturn, 1) := by decide +kernel
theorem dL_law_914 : decode cL_law 914 = .ok (.iload 5, 2) := by decide +kernel
theorem dL_law_916 : decode cL_law 916 = .ok (.ifCond .ne 15, 3) := by decide +kernel
theorem dL_law_919 : decode cL_law 919 = .ok (.aload_n 3, 1) := by decide +kernel
theorem dL_law_920 : decode cL_law 920 = .ok (.iconst 0, 1) := by decide +kernel
theorem dL_law_921 : decode cL_law 921 = .ok (.laload, 1) := by decide +kernel
theorem dL_law_922 : decode cL_law 922 = .ok (.iload 6, 2) := by decide +kernel
theorem dL_law_924 : decode cL_law 924 = .ok (.i2l, 1) := by decide +kernel
theorem dL_law_925 : decode cL_law 925 = .ok (.lcmp, 1) := by decide +kernel
theorem dL_law_926 : decode cL_law 926 = .ok (.ifCond .eq 5, 3) := by decide +kernel
theorem dL_law_929 : decode cL_law 929 = .ok (.iconst 0, 1) := by decide +kernel
theorem dL_law_930 : decode cL_law 930 = .ok (.ireturn, 1) := by decide +kernel
theorem dL_law_931 : decode cL_law 931 = .ok (.goto 1119, 3) := by decide +kernel
theorem dL_law_934 : decode cL_law 934 = .ok (.aload_n 1, 1) := by decide +kernel
theorem dL_law_935 : decode cL_law 935 = .ok (.aload_n 0, 1) := by decide +kernel
theorem dL_law_936 : decode cL_law 936 = .ok (.iload 4, 2) := by decide +kernel
theorem dL_law_938 : decode cL_law 938 = .ok (.iconst 1, 1) := by decide +kernel
theorem dL_law_939 : decode cL_law 939 = .ok (.iadd, 1) := by decide +kernel
theorem dL_law_940 : decode cL_law 940 = .ok (.iaload, 1) := by decide +kernel
theorem dL_law_941 : decode cL_law 941 = .ok (.aload_n 3, 1) := by decide +kernel
theorem dL_law_942 : decode cL_law 942 = .ok (.invokestatic 168, 3) := by decide +kernel
theorem dL_law_945 : decode cL_law 945 = .ok (.istore 5, 2) := by decide +kernel
theorem dL_law_947 : decode cL_law 947 = .ok (.aload_n 2, 1) := by decide +kernel
theorem dL_law_948 : decode cL_law 948 = .ok (.aload_n 0, 1) := by decide +kernel
theorem dL_law_949 : decode cL_law 949 = .ok (.iload 4, 2) := by decide +kernel
theorem dL_law_951 : decode cL_law 951 = .ok (.iconst 1, 1) := by decide +kernel
theorem dL_law_952 : decode cL_law 952 = .ok (.iadd, 1) := by decide +kernel
theorem dL_law_953 : decode cL_law 953 = .ok (.iaload, 1) := by decide +kernel
theorem dL_law_954 : decode cL_law 954 = .ok (.invokevirtual 170, 3) := by decide +kernel
theorem dL_law_957 : decode cL_law 957 = .ok (.istore 6, 2) := by decide +kernel
theorem dL_law_959 : decode cL_law 959 = .ok (.aload_n 2, 1) := by decide +kernel
theorem dL_law_960 : decode cL_law 960 = .ok (.invokevirtual 107, 3) := by decide +kernel
theorem dL_law_963 : decode cL_law 963 = .ok (.iload 5, 2) := by decide +kernel
theorem dL_law_965 : decode cL_law 965 = .ok (.if_icmp .eq 5, 3) := by decide +kernel
theorem dL_law_968 : decode cL_law 968 = .ok (.iconst 0, 1) := by decide +kernel
theorem dL_law_969 : decode cL_law 969 = .ok (.ireturn, 1) := by decide +kernel
theorem dL_law_970 : decode cL_law 970 = .ok (.iload 5, 2) := by decide +kernel
theorem dL_law_972 : decode cL_law 972 = .ok (.ifCond .ne 22, 3) := by decide +kernel
theorem dL_law_975 : decode cL_law 975 = .ok (.aload_n 3, 1) := by decide +kernel
theorem dL_law_976 : decode cL_law 976 = .ok (.iconst 0, 1) := by decide +kernel
theorem dL_law_977 : decode cL_law 977 = .ok (.laload, 1) := by decide +kernel
theorem dL_law_978 : decode cL_law 978 = .ok (.iload 6, 2) := by decide +kernel
theorem dL_law_980 : decode cL_law 980 = .ok (.ifCond .eq 7, 3) := by decide +kernel
theorem dL_law_983 : decode cL_law 983 = .ok (.lconst 1, 1) := by decide +kernel
theorem dL_law_984 : decode cL_law 984 = .ok (.goto 4, 3) := by decide +kernel
theorem dL_law_987 : decode cL_law 987 = .ok (.lconst 0, 1) := by decide +kernel
theorem dL_law_988 : decode cL_law 988 = .ok (.lcmp, 1) := by decide +kernel
theorem dL_law_989 : decode cL_law 989 = .ok (.ifCond .eq 5, 3) := by decide +kernel
theorem dL_law_992 : decode cL_law 992 = .ok (.iconst 0, 1) := by decide +kernel
theorem dL_law_993 : decode cL_law 993 = .ok (.ireturn, 1) := by decide +kernel
theorem dL_law_994 : decode cL_law 994 = .ok (.goto 1056, 3) := by decide +kernel
theorem dL_law_997 : decode cL_law 997 = .ok (.aload_n 1, 1) := by decide +kernel
theorem dL_law_998 : decode cL_law 998 = .ok (.aload_n 0, 1) := by decide +kernel
theorem dL_law_999 : decode cL_law 999 = .ok (.iload 4, 2) := by decide +kernel
theorem dL_law_1001 : decode cL_law 1001 = .ok (.iconst 1, 1) := by decide +kernel
theorem dL_law_1002 : decode cL_law 1002 = .ok (.iadd, 1) := by decide +kernel
theorem dL_law_1003 : decode cL_law 1003 = .ok (.iaload, 1) := by decide +kernel
theorem dL_law_1004 : decode cL_law 1004 = .ok (.aload_n 0, 1) := by decide +kernel
theorem dL_law_1005 : decode cL_law 1005 = .ok (.iload 4, 2) := by decide +kernel
theorem dL_law_1007 : decode cL_law 1007 = .ok (.iconst 2, 1) := by decide +kernel
theorem dL_law_1008 : decode cL_law 1008 = .ok (.iadd, 1) := by decide +kernel
theorem dL_law_1009 : decode cL_law 1009 = .ok (.iaload, 1) := by decide +kernel
theorem dL_law_1010 : decode cL_law 1010 = .ok (.aload_n 3, 1) := by decide +kernel
theorem dL_law_1011 : decode cL_law 1011 = .ok (.invokestatic 171, 3) := by decide +kernel
theorem dL_law_1014 : decode cL_law 1014 = .ok (.istore 5, 2) := by decide +kernel
theorem dL_law_1016 : decode cL_law 1016 = .ok (.aload_n 2, 1) := by decide +kernel
theorem dL_law_1017 : decode cL_law 1017 = .ok (.aload_n 0, 1) := by decide +kernel
theorem dL_law_1018 : decode cL_law 1018 = .ok (.iload 4, 2) := by decide +kernel
theorem dL_law_1020 : decode cL_law 1020 = .ok (.iconst 1, 1) := by decide +kernel
theorem dL_law_1021 : decode cL_law 1021 = .ok (.iadd, 1) := by decide +kernel
theorem dL_law_1022 : decode cL_law 1022 = .ok (.iaload, 1) := by decide +kernel
theorem dL_law_1023 : decode cL_law 1023 = .ok (.aload_n 0, 1) := by decide +kernel
theorem dL_law_1024 : decode cL_law 1024 = .ok (.iload 4, 2) := by decide +kernel
theorem dL_law_1026 : decode cL_law 1026 = .ok (.iconst 2, 1) := by decide +kernel
theorem dL_law_1027 : decode cL_law 1027 = .ok (.iadd, 1) := by decide +kernel
theorem dL_law_1028 : decode cL_law 1028 = .ok (.iaload, 1) := by decide +kernel
theorem dL_law_1029 : decode cL_law 1029 = .ok (.invokevirtual 173, 3) := by decide +kernel
theorem dL_law_1032 : decode cL_law 1032 = .ok (.istore 6, 2) := by decide +kernel
theorem dL_law_1034 : decode cL_law 1034 = .ok (.aload_n 2, 1) := by decide +kernel
theorem dL_law_1035 : decode cL_law 1035 = .ok (.invokevirtual 107, 3) := by decide +kernel
theorem dL_law_1038 : decode cL_law 1038 = .ok (.iload 5, 2) := by decide +kernel
theorem dL_law_1040 : decode cL_law 1040 = .ok (.if_icmp .eq 5, 3) := by decide +kernel
theorem dL_law_1043 : decode cL_law 1043 = .ok (.iconst 0, 1) := by decide +kernel
theorem dL_law_1044 : decode cL_law 1044 = .ok (.ireturn, 1) := by decide +kernel
theorem dL_law_1045 : decode cL_law 1045 = .ok (.iload 5, 2) := by decide +kernel
theorem dL_law_1047 : decode cL_law 1047 = .ok (.ifCond .ne 22, 3) := by decide +kernel
theorem dL_law_1050 : decode cL_law 1050 = .ok (.aload_n 3, 1) := by decide +kernel
theorem dL_law_1051 : decode cL_law 1051 = .ok (.iconst 0, 1) := by decide +kernel
theorem dL_law_1052 : decode cL_law 1052 = .ok (.laload, 1) := by decide +kernel
theorem dL_law_1053 : decode cL_law 1053 = .ok (.iload 6, 2) := by decide +kernel
theorem dL_law_1055 : decode cL_law 1055 = .ok (.ifCond .eq 7, 3) := by decide +kernel
theorem dL_law_1058 : decode cL_law 1058 = .ok (.lconst 1, 1) := by decide +kernel
theorem dL_law_1059 : decode cL_law 1059 = .ok (.goto 4, 3) := by decide +kernel
theorem dL_law_1062 : decode cL_law 1062 = .ok (.lconst 0, 1) := by decide +kernel
theorem dL_law_1063 : decode cL_law 1063 = .ok (.lcmp, 1) := by decide +kernel
theorem dL_law_1064 : decode cL_law 1064 = .ok (.ifCond .eq 5, 3) := by decide +kernel
theorem dL_law_1067 : decode cL_law 1067 = .ok (.iconst 0, 1) := by decide +kernel
theorem dL_law_1068 : decode cL_law 1068 = .ok (.ireturn, 1) := by decide +kernel
theorem dL_law_1069 : decode cL_law 1069 = .ok (.goto 981, 3) := by decide +kernel
theorem dL_law_1072 : decode cL_law 1072 = .ok (.aload_n 1, 1) := by decide +kernel
theorem dL_law_1073 : decode cL_law 1073 = .ok (.aload_n 0, 1) := by decide +kernel
theorem dL_law_1074 : decode cL_law 1074 = .ok (.iload 4, 2) := by decide +kernel
theorem dL_law_1076 : decode cL_law 1076 = .ok (.iconst 1, 1) := by decide +kernel
theorem dL_law_1077 : decode cL_law 1077 = .ok (.iadd, 1) := by decide +kernel
theorem dL_law_1078 : decode cL_law 1078 = .ok (.iaload, 1) := by decide +kernel
theorem dL_law_1079 : decode cL_law 1079 = .ok (.aload_n 0, 1) := by decide +kernel
theorem dL_law_1080 : decode cL_law 1080 = .ok (.iload 4, 2) := by decide +kernel
theorem dL_law_1082 : decode cL_law 1082 = .ok (.iconst 2, 1) := by decide +kernel
theorem dL_law_1083 : decode cL_law 1083 = .ok (.iadd, 1) := by decide +kernel
theorem dL_law_1084 : decode cL_law 1084 = .ok (.iaload, 1) := by decide +kernel
theorem dL_law_1085 : decode cL_law 1085 = .ok (.aload_n 3, 1) := by decide +kernel
theorem dL_law_1086 : decode cL_law 1086 = .ok (.invokestatic 174, 3) := by decide +kernel
theorem dL_law_1089 : decode cL_law 1089 = .ok (.istore 5, 2) := by decide +kernel
theorem dL_law_1091 : decode cL_law 1091 = .ok (.aload_n 2, 1) := by decide +kernel
theorem dL_law_1092 : decode cL_law 1092 = .ok (.aload_n 0, 1) := by decide +kernel
theorem dL_law_1093 : decode cL_law 1093 = .ok (.iload 4, 2) := by decide +kernel
theorem dL_law_1095 : decode cL_law 1095 = .ok (.iconst 1, 1) := by decide +kernel
theorem dL_law_1096 : decode cL_law 1096 = .ok (.iadd, 1) := by decide +kernel
theorem dL_law_1097 : decode cL_law 1097 = .ok (.iaload, 1) := by decide +kernel
theorem dL_law_1098 : decode cL_law 1098 = .ok (.aload_n 0, 1) := by decide +kernel
theorem dL_law_1099 : decode cL_law 1099 = .ok (.iload 4, 2) := by decide +kernel
theorem dL_law_1101 : decode cL_law 1101 = .ok (.iconst 2, 1) := by decide +kernel
theorem dL_law_1102 : decode cL_law 1102 = .ok (.iadd, 1) := by decide +kernel
theorem dL_law_1103 : decode cL_law 1103 = .ok (.iaload, 1) := by decide +kernel
theorem dL_law_1104 : decode cL_law 1104 = .ok (.invokevirtual 176, 3) := by decide +kernel
theorem dL_law_1107 : decode cL_law 1107 = .ok (.istore 6, 2) := by decide +kernel
theorem dL_law_1109 : decode cL_law 1109 = .ok (.aload_n 2, 1) := by decide +kernel
theorem dL_law_1110 : decode cL_law 1110 = .ok (.invokevirtual 107, 3) := by decide +kernel
theorem dL_law_1113 : decode cL_law 1113 = .ok (.iload 5, 2) := by decide +kernel
theorem dL_law_1115 : decode cL_law 1115 = .ok (.if_icmp .eq 5, 3) := by decide +kernel
theorem dL_law_1118 : decode cL_law 1118 = .ok (.iconst 0, 1) := by decide +kernel
theorem dL_law_1119 : decode cL_law 1119 = .ok (.ireturn, 1) := by decide +kernel
theorem dL_law_1120 : decode cL_law 1120 = .ok (.iload 5, 2) := by decide +kernel
theorem dL_law_1122 : decode cL_law 1122 = .ok (.ifCond .ne 15, 3) := by decide +kernel
theorem dL_law_1125 : decode cL_law 1125 = .ok (.aload_n 3, 1) := by decide +kernel
theorem dL_law_1126 : decode cL_law 1126 = .ok (.iconst 0, 1) := by decide +kernel
theorem dL_law_1127 : decode cL_law 1127 = .ok (.laload, 1) := by decide +kernel
theorem dL_law_1128 : decode cL_law 1128 = .ok (.iload 6, 2) := by decide +kernel
theorem dL_law_1130 : decode cL_law 1130 = .ok (.i2l, 1) := by decide +kernel
theorem dL_law_1131 : decode cL_law 1131 = .ok (.lcmp, 1) := by decide +kernel
theorem dL_law_1132 : decode cL_law 1132 = .ok (.ifCond .eq 5, 3) := by decide +kernel
theorem dL_law_1135 : decode cL_law 1135 = .ok (.iconst 0, 1) := by decide +kernel
theorem dL_law_1136 : decode cL_law 1136 = .ok (.ireturn, 1) := by decide +kernel
theorem dL_law_1137 : decode cL_law 1137 = .ok (.goto 913, 3) := by decide +kernel
theorem dL_law_1140 : decode cL_law 1140 = .ok (.aload_n 1, 1) := by decide +kernel
theorem dL_law_1141 : decode cL_law 1141 = .ok (.invokevirtual 177, 3) := by decide +kernel
theorem dL_law_1144 : decode cL_law 1144 = .ok (.aload_n 2, 1) := by decide +kernel
theorem dL_law_1145 : decode cL_law 1145 = .ok (.invokevirtual 180, 3) := by decide +kernel
theorem dL_law_1148 : decode cL_law 1148 = .ok (.if_icmp .eq 902, 3) := by decide +kernel
theorem dL_law_1151 : decode cL_law 1151 = .ok (.iconst 0, 1) := by decide +kernel
theorem dL_law_1152 : decode cL_law 1152 = .ok (.ireturn, 1) := by decide +kernel
theorem dL_law_1153 : decode cL_law 1153 = .ok (.aload_n 1, 1) := by decide +kernel
theorem dL_law_1154 : decode cL_law 1154 = .ok (.invokevirtual 181, 3) := by decide +kernel
theorem dL_law_1157 : decode cL_law 1157 = .ok (.aload_n 2, 1) := by decide +kernel
theorem dL_law_1158 : decode cL_law 1158 = .ok (.invokevirtual 184, 3) := by decide +kernel
theorem dL_law_1161 : decode cL_law 1161 = .ok (.if_icmp .eq 889, 3) := by decide +kernel
theorem dL_law_1164 : decode cL_law 1164 = .ok (.iconst 0, 1) := by decide +kernel
theorem dL_law_1165 : decode cL_law 1165 = .ok (.ireturn, 1) := by decide +kernel
theorem dL_law_1166 : decode cL_law 1166 = .ok (.aload_n 1, 1) := by decide +kernel
theorem dL_law_1167 : decode cL_law 1167 = .ok (.invokevirtual 185, 3) := by decide +kernel
theorem dL_law_1170 : decode cL_law 1170 = .ok (.aload_n 2, 1) := by decide +kernel
theorem dL_law_1171 : decode cL_law 1171 = .ok (.invokevirtual 188, 3) := by decide +kernel
theorem dL_law_1174 : decode cL_law 1174 = .ok (.if_icmp .eq 876, 3) := by decide +kernel
theorem dL_law_1177 : decode cL_law 1177 = .ok (.iconst 0, 1) := by decide +kernel
theorem dL_law_1178 : decode cL_law 1178 = .ok (.ireturn, 1) := by decide +kernel
theorem dL_law_1179 : decode cL_law 1179 = .ok (.aload_n 1, 1) := by decide +kernel
theorem dL_law_1180 : decode cL_law 1180 = .ok (.aload_n 0, 1) := by decide +kernel
theorem dL_law_1181 : decode cL_law 1181 = .ok (.iload 4, 2) := by decide +kernel
theorem dL_law_1183 : decode cL_law 1183 = .ok (.iconst 1, 1) := by decide +kernel
theorem dL_law_1184 : decode cL_law 1184 = .ok (.iadd, 1) := by decide +kernel
theorem dL_law_1185 : decode cL_law 1185 = .ok (.iaload, 1) := by decide +kernel
theorem dL_law_1186 : decode cL_law 1186 = .ok (.aload_n 3, 1) := by decide +kernel
theorem dL_law_1187 : decode cL_law 1187 = .ok (.invokestatic 189, 3) := by decide +kernel
theorem dL_law_1190 : decode cL_law 1190 = .ok (.istore 5, 2) := by decide +kernel
theorem dL_law_1192 : decode cL_law 1192 = .ok (.aload_n 2, 1) := by decide +kernel
theorem dL_law_1193 : decode cL_law 1193 = .ok (.aload_n 0, 1) := by decide +kernel
theorem dL_law_1194 : decode cL_law 1194 = .ok (.iload 4, 2) := by decide +kernel
theorem dL_law_1196 : decode cL_law 1196 = .ok (.iconst 1, 1) := by decide +kernel
theorem dL_law_1197 : decode cL_law 1197 = .ok (.iadd, 1) := by decide +kernel
theorem dL_law_1198 : decode cL_law 1198 = .ok (.iaload, 1) := by decide +kernel
theorem dL_law_1199 : decode cL_law 1199 = .ok (.invokevirtual 191, 3) := by decide +kernel
theorem dL_law_1202 : decode cL_law 1202 = .ok (.istore 6, 2) := by decide +kernel
theorem dL_law_1204 : decode cL_law 1204 = .ok (.aload_n 2, 1) := by decide +kernel
theorem dL_law_1205 : decode cL_law 1205 = .ok (.invokevirtual 107, 3) := by decide +kernel
theorem dL_law_1208 : decode cL_law 1208 = .ok (.iload 5, 2) := by decide +kernel
theorem dL_law_1210 : decode cL_law 1210 = .ok (.if_icmp .eq 5, 3) := by decide +kernel
theorem dL_law_1213 : decode cL_law 1213 = .ok (.iconst 0, 1) := by decide +kernel
theorem dL_law_1214 : decode cL_law 1214 = .ok (.ireturn, 1) := by decide +kernel
theorem dL_law_1215 : decode cL_law 1215 = .ok (.iload 5, 2) := by decide +kernel
theorem dL_law_1217 : decode cL_law 1217 = .ok (.ifCond .ne 22, 3) := by decide +kernel
theorem dL_law_1220 : decode cL_law 1220 = .ok (.aload_n 3, 1) := by decide +kernel
theorem dL_law_1221 : decode cL_law 1221 = .ok (.iconst 0, 1) := by decide +kernel
theorem dL_law_1222 : decode cL_law 1222 = .ok (.laload, 1) := by decide +kernel
theorem dL_law_1223 : decode cL_law 1223 = .ok (.iload 6, 2) := by decide +kernel
theorem dL_law_1225 : decode cL_law 1225 = .ok (.ifCond .eq 7, 3) := by decide +kernel
theorem dL_law_1228 : decode cL_law 1228 = .ok (.lconst 1, 1) := by decide +kernel
theorem dL_law_1229 : decode cL_law 1229 = .ok (.goto 4, 3) := by decide +kernel
theorem dL_law_1232 : decode cL_law 1232 = .ok (.lconst 0, 1) := by decide +kernel
theorem dL_law_1233 : decode cL_law 1233 = .ok (.lcmp, 1) := by decide +kernel
theorem dL_law_1234 : decode cL_law 1234 = .ok (.ifCond .eq 5, 3) := by decide +kernel
theorem dL_law_1237 : decode cL_law 1237 = .ok (.iconst 0, 1) := by decide +kernel
theorem dL_law_1238 : decode cL_law 1238 = .ok (.ireturn, 1) := by decide +kernel
theorem dL_law_1239 : decode cL_law 1239 = .ok (.goto 811, 3) := by decide +kernel
theorem dL_law_1242 : decode cL_law 1242 = .ok (.aload_n 1, 1) := by decide +kernel
theorem dL_law_1243 : decode cL_law 1243 = .ok (.aload_n 0, 1) := by decide +kernel
theorem dL_law_1244 : decode cL_law 1244 = .ok (.iload 4, 2) := by decide +kernel
theorem dL_law_1246 : decode cL_law 1246 = .ok (.iconst 1, 1) := by decide +kernel
theorem dL_law_1247 : decode cL_law 1247 = .ok (.iadd, 1) := by decide +kernel
theorem dL_law_1248 : decode cL_law 1248 = .ok (.iaload, 1) := by decide +kernel
theorem dL_law_1249 : decode cL_law 1249 = .ok (.aload_n 3, 1) := by decide +kernel
theorem dL_law_1250 : decode cL_law 1250 = .ok (.invokestatic 192, 3) := by decide +kernel
theorem dL_law_1253 : decode cL_law 1253 = .ok (.istore 5, 2) := by decide +kernel
theorem dL_law_1255 : decode cL_law 1255 = .ok (.aload_n 2, 1) := by decide +kernel
theorem dL_law_1256 : decode cL_law 1256 = .ok (.aload_n 0, 1) := by decide +kernel
theorem dL_law_1257 : decode cL_law 1257 = .ok (.iload 4, 2) := by decide +kernel
theorem dL_law_1259 : decode cL_law 1259 = .ok (.iconst 1, 1) := by decide +kernel
theorem dL_law_1260 : decode cL_law 1260 = .ok (.iadd, 1) := by decide +kernel
theorem dL_law_1261 : decode cL_law 1261 = .ok (.iaload, 1) := by decide +kernel
theorem dL_law_1262 : decode cL_law 1262 = .ok (.invokevirtual 194, 3) := by decide +kernel
theorem dL_law_1265 : decode cL_law 1265 = .ok (.istore 6, 2) := by decide +kernel
theorem dL_law_1267 : decode cL_law 1267 = .ok (.aload_n 2, 1) := by decide +kernel
theorem dL_law_1268 : decode cL_law 1268 = .ok (.invokevirtual 107, 3) := by decide +kernel
theorem dL_law_1271 : decode cL_law 1271 = .ok (.iload 5, 2) := by decide +kernel
theorem dL_law_1273 : decode cL_law 1273 = .ok (.if_icmp .eq 5, 3) := by decide +kernel
theorem dL_law_1276 : decode cL_law 1276 = .ok (.iconst 0, 1) := by decide +kernel
theorem dL_law_1277 : decode cL_law 1277 = .ok (.ireturn, 1) := by decide +kernel
theorem dL_law_1278 : decode cL_law 1278 = .ok (.iload 5, 2) := by decide +kernel
theorem dL_law_1280 : decode cL_law 1280 = .ok (.ifCond .ne 22, 3) := by decide +kernel
theorem dL_law_1283 : decode cL_law 1283 = .ok (.aload_n 3, 1) := by decide +kernel
theorem dL_law_1284 : decode cL_law 1284 = .ok (.iconst 0, 1) := by decide +kernel
theorem dL_law_1285 : decode cL_law 1285 = .ok (.laload, 1) := by decide +kernel
theorem dL_law_1286 : decode cL_law 1286 = .ok (.iload 6, 2) := by decide +kernel
theorem dL_law_1288 : decode cL_law 1288 = .ok (.ifCond .eq 7, 3) := by decide +kernel
theorem dL_law_1291 : decode cL_law 1291 = .ok (.lconst 1, 1) := by decide +kernel
theorem dL_law_1292 : decode cL_law 1292 = .ok (.goto 4, 3) := by decide +kernel
theorem dL_law_1295 : decode cL_law 1295 = .ok (.lconst 0, 1) := by decide +kernel
theorem dL_law_1296 : decode cL_law 1296 = .ok (.lcmp, 1) := by decide +kernel
theorem dL_law_1297 : decode cL_law 1297 = .ok (.ifCond .eq 5, 3) := by decide +kernel
theorem dL_law_1300 : decode cL_law 1300 = .ok (.iconst 0, 1) := by decide +kernel
theorem dL_law_1301 : decode cL_law 1301 = .ok (.ireturn, 1) := by decide +kernel
theorem dL_law_1302 : decode cL_law 1302 = .ok (.goto 748, 3) := by decide +kernel
theorem dL_law_1305 : decode cL_law 1305 = .ok (.aload_n 1, 1) := by decide +kernel
theorem dL_law_1306 : decode cL_law 1306 = .ok (.aload_n 0, 1) := by decide +kernel
theorem dL_law_1307 : decode cL_law 1307 = .ok (.iload 4, 2) := by decide +kernel
theorem dL_law_1309 : decode cL_law 1309 = .ok (.iconst 1, 1) := by decide +kernel
theorem dL_law_1310 : decode cL_law 1310 = .ok (.iadd, 1) := by decide +kernel
theorem dL_law_1311 : decode cL_law 1311 = .ok (.iaload, 1) := by decide +kernel
theorem dL_law_1312 : decode cL_law 1312 = .ok (.aload_n 3, 1) := by decide +kernel
theorem dL_law_1313 : decode cL_law 1313 = .ok (.invokestatic 195, 3) := by decide +kernel
theorem dL_law_1316 : decode cL_law 1316 = .ok (.istore 5, 2) := by decide +kernel
theorem dL_law_1318 : decode cL_law 1318 = .ok (.aload_n 2, 1) := by decide +kernel
theorem dL_law_1319 : decode cL_law 1319 = .ok (.aload_n 0, 1) := by decide +kernel
theorem dL_law_1320 : decode cL_law 1320 = .ok (.iload 4, 2) := by decide +kernel
theorem dL_law_1322 : decode cL_law 1322 = .ok (.iconst 1, 1) := by decide +kernel
theorem dL_law_1323 : decode cL_law 1323 = .ok (.iadd, 1) := by decide +kernel
theorem dL_law_1324 : decode cL_law 1324 = .ok (.iaload, 1) := by decide +kernel
theorem dL_law_1325 : decode cL_law 1325 = .ok (.invokevirtual 197, 3) := by decide +kernel
theorem dL_law_1328 : decode cL_law 1328 = .ok (.istore 6, 2) := by decide +kernel
theorem dL_law_1330 : decode cL_law 1330 = .ok (.aload_n 2, 1) := by decide +kernel
theorem dL_law_1331 : decode cL_law 1331 = .ok (.invokevirtual 107, 3) := by decide +kernel
theorem dL_law_1334 : decode cL_law 1334 = .ok (.iload 5, 2) := by decide +kernel
theorem dL_law_1336 : decode cL_law 1336 = .ok (.if_icmp .eq 5, 3) := by decide +kernel
theorem dL_law_1339 : decode cL_law 1339 = .ok (.iconst 0, 1) := by decide +kernel
theorem dL_law_1340 : decode cL_law 1340 = .ok (.ireturn, 1) := by decide +kernel
theorem dL_law_1341 : decode cL_law 1341 = .ok (.iload 5, 2) := by decide +kernel
theorem dL_law_1343 : decode cL_law 1343 = .ok (.ifCond .ne 15, 3) := by decide +kernel
theorem dL_law_1346 : decode cL_law 1346 = .ok (.aload_n 3, 1) := by decide +kernel
theorem dL_law_1347 : decode cL_law 1347 = .ok (.iconst 0, 1) := by decide +kernel
theorem dL_law_1348 : decode cL_law 1348 = .ok (.laload, 1) := by decide +kernel
theorem dL_law_1349 : decode cL_law 1349 = .ok (.iload 6, 2) := by decide +kernel
theorem dL_law_1351 : decode cL_law 1351 = .ok (.i2l, 1) := by decide +kernel
theorem dL_law_1352 : decode cL_law 1352 = .ok (.lcmp, 1) := by decide +kernel
theorem dL_law_1353 : decode cL_law 1353 = .ok (.ifCond .eq 5, 3) := by decide +kernel
theorem dL_law_1356 : decode cL_law 1356 = .ok (.iconst 0, 1) := by decide +kernel
theorem dL_law_1357 : decode cL_law 1357 = .ok (.ireturn, 1) := by decide +kernel
theorem dL_law_1358 : decode cL_law 1358 = .ok (.goto 692, 3) := by decide +kernel
theorem dL_law_1361 : decode cL_law 1361 = .ok (.aload_n 1, 1) := by decide +kernel
theorem dL_law_1362 : decode cL_law 1362 = .ok (.aload_n 0, 1) := by decide +kernel
theorem dL_law_1363 : decode cL_law 1363 = .ok (.iload 4, 2) := by decide +kernel
theorem dL_law_1365 : decode cL_law 1365 = .ok (.iconst 1, 1) := by decide +kernel
theorem dL_law_1366 : decode cL_law 1366 = .ok (.iadd, 1) := by decide +kernel
theorem dL_law_1367 : decode cL_law 1367 = .ok (.iaload, 1) := by decide +kernel
theorem dL_law_1368 : decode cL_law 1368 = .ok (.aload_n 3, 1) := by decide +kernel
theorem dL_law_1369 : decode cL_law 1369 = .ok (.invokestatic 198, 3) := by decide +kernel
theorem dL_law_1372 : decode cL_law 1372 = .ok (.istore 5, 2) := by decide +kernel
theorem dL_law_1374 : decode cL_law 1374 = .ok (.aload_n 2, 1) := by decide +kernel
theorem dL_law_1375 : decode cL_law 1375 = .ok (.aload_n 0, 1) := by decide +kernel
theorem dL_law_1376 : decode cL_law 1376 = .ok (.iload 4, 2) := by decide +kernel
theorem dL_law_1378 : decode cL_law 1378 = .ok (.iconst 1, 1) := by decide +kernel
theorem dL_law_1379 : decode cL_law 1379 = .ok (.iadd, 1) := by decide +kernel
theorem dL_law_1380 : decode cL_law 1380 = .ok (.iaload, 1) := by decide +kernel
theorem dL_law_1381 : decode cL_law 1381 = .ok (.invokevirtual 200, 3) := by decide +kernel
theorem dL_law_1384 : decode cL_law 1384 = .ok (.istore 6, 2) := by decide +kernel
theorem dL_law_1386 : decode cL_law 1386 = .ok (.aload_n 2, 1) := by decide +kernel
theorem dL_law_1387 : decode cL_law 1387 = .ok (.invokevirtual 107, 3) := by decide +kernel
theorem dL_law_1390 : decode cL_law 1390 = .ok (.iload 5, 2) := by decide +kernel
theorem dL_law_1392 : decode cL_law 1392 = .ok (.if_icmp .eq 5, 3) := by decide +kernel
theorem dL_law_1395 : decode cL_law 1395 = .ok (.iconst 0, 1) := by decide +kernel
theorem dL_law_1396 : decode cL_law 1396 = .ok (.ireturn, 1) := by decide +kernel
theorem dL_law_1397 : decode cL_law 1397 = .ok (.iload 5, 2) := by decide +kernel
theorem dL_law_1399 : decode cL_law 1399 = .ok (.ifCond .ne 15, 3) := by decide +kernel
theorem dL_law_1402 : decode cL_law 1402 = .ok (.aload_n 3, 1) := by decide +kernel
theorem dL_law_1403 : decode cL_law 1403 = .ok (.iconst 0, 1) := by decide +kernel
theorem dL_law_1404 : decode cL_law 1404 = .ok (.laload, 1) := by decide +kernel
theorem dL_law_1405 : decode cL_law 1405 = .ok (.iload 6, 2) := by decide +kernel
theorem dL_law_1407 : decode cL_law 1407 = .ok (.i2l, 1) := by decide +kernel
theorem dL_law_1408 : decode cL_law 1408 = .ok (.lcmp, 1) := by decide +kernel
theorem dL_law_1409 : decode cL_law 1409 = .ok (.ifCond .eq 5, 3) := by decide +kernel
theorem dL_law_1412 : decode cL_law 1412 = .ok (.iconst 0, 1) := by decide +kernel
theorem dL_law_1413 : decode cL_law 1413 = .ok (.ireturn, 1) := by decide +kernel
theorem dL_law_1414 : decode cL_law 1414 = .ok (.goto 636, 3) := by decide +kernel
theorem dL_law_1417 : decode cL_law 1417 = .ok (.aload_n 1, 1) := by decide +kernel
theorem dL_law_1418 : decode cL_law 1418 = .ok (.invokevirtual 201, 3) := by decide +kernel
theorem dL_law_1421 : decode cL_law 1421 = .ok (.aload_n 2, 1) := by decide +kernel
theorem dL_law_1422 : decode cL_law 1422 = .ok (.invokevirtual 205, 3) := by decide +kernel
theorem dL_law_1425 : decode cL_law 1425 = .ok (.if_icmp .eq 625, 3) := by decide +kernel
theorem dL_law_1428 : decode cL_law 1428 = .ok (.iconst 0, 1) := by decide +kernel
theorem dL_law_1429 : decode cL_law 1429 = .ok (.ireturn, 1) := by decide +kernel
theorem dL_law_1430 : decode cL_law 1430 = .ok (.aload_n 1, 1) := by decide +kernel
theorem dL_law_1431 : decode cL_law 1431 = .ok (.aload_n 0, 1) := by decide +kernel
theorem dL_law_1432 : decode cL_law 1432 = .ok (.iload 4, 2) := by decide +kernel
theorem dL_law_1434 : decode cL_law 1434 = .ok (.iconst 1, 1) := by decide +kernel
theorem dL_law_1435 : decode cL_law 1435 = .ok (.iadd, 1) := by decide +kernel
theorem dL_law_1436 : decode cL_law 1436 = .ok (.iaload, 1) := by decide +kernel
theorem dL_law_1437 : decode cL_law 1437 = .ok (.aload_n 3, 1) := by decide +kernel
theorem dL_law_1438 : decode cL_law 1438 = .ok (.invokestatic 206, 3) := by decide +kernel
theorem dL_law_1441 : decode cL_law 1441 = .ok (.istore 5, 2) := by decide +kernel
theorem dL_law_1443 : decode cL_law 1443 = .ok (.aload_n 2, 1) := by decide +kernel
theorem dL_law_1444 : decode cL_law 1444 = .ok (.aload_n 0, 1) := by decide +kernel
theorem dL_law_1445 : decode cL_law 1445 = .ok (.iload 4, 2) := by decide +kernel
theorem dL_law_1447 : decode cL_law 1447 = .ok (.iconst 1, 1) := by decide +kernel
theorem dL_law_1448 : decode cL_law 1448 = .ok (.iadd, 1) := by decide +kernel
theorem dL_law_1449 : decode cL_law 1449 = .ok (.iaload, 1) := by decide +kernel
theorem dL_law_1450 : decode cL_law 1450 = .ok (.invokevirtual 208, 3) := by decide +kernel
theorem dL_law_1453 : decode cL_law 1453 = .ok (.istore 6, 2) := by decide +kernel
theorem dL_law_1455 : decode cL_law 1455 = .ok (.aload_n 2, 1) := by decide +kernel
theorem dL_law_1456 : decode cL_law 1456 = .ok (.invokevirtual 107, 3) := by decide +kernel
theorem dL_law_1459 : decode cL_law 1459 = .ok (.iload 5, 2) := by decide +kernel
theorem dL_law_1461 : decode cL_law 1461 = .ok (.if_icmp .eq 5, 3) := by decide +kernel
theorem dL_law_1464 : decode cL_law 1464 = .ok (.iconst 0, 1) := by decide +kernel
theorem dL_law_1465 : decode cL_law 1465 = .ok (.ireturn, 1) := by decide +kernel
theorem dL_law_1466 : decode cL_law 1466 = .ok (.iload 5, 2) := by decide +kernel
theorem dL_law_1468 : decode cL_law 1468 = .ok (.ifCond .ne 15, 3) := by decide +kernel
theorem dL_law_1471 : decode cL_law 1471 = .ok (.aload_n 3, 1) := by decide +kernel
theorem dL_law_1472 : decode cL_law 1472 = .ok (.iconst 0, 1) := by decide +kernel
theorem dL_law_1473 : decode cL_law 1473 = .ok (.laload, 1) := by decide +kernel
theorem dL_law_1474 : decode cL_law 1474 = .ok (.iload 6, 2) := by decide +kernel
theorem dL_law_1476 : decode cL_law 1476 = .ok (.i2l, 1) := by decide +kernel
theorem dL_law_1477 : decode cL_law 1477 = .ok (.lcmp, 1) := by decide +kernel
theorem dL_law_1478 : decode cL_law 1478 = .ok (.ifCond .eq 5, 3) := by decide +kernel
theorem dL_law_1481 : decode cL_law 1481 = .ok (.iconst 0, 1) := by decide +kernel
theorem dL_law_1482 : decode cL_law 1482 = .ok (.ireturn, 1) := by decide +kernel
theorem dL_law_1483 : decode cL_law 1483 = .ok (.goto 567, 3) := by decide +kernel
theorem dL_law_1486 : decode cL_law 1486 = .ok (.aload_n 1, 1) := by decide +kernel
theorem dL_law_1487 : decode cL_law 1487 = .ok (.aload_n 0, 1) := by decide +kernel
theorem dL_law_1488 : decode cL_law 1488 = .ok (.iload 4, 2) := by decide +kernel
theorem dL_law_1490 : decode cL_law 1490 = .ok (.iconst 1, 1) := by decide +kernel
theorem dL_law_1491 : decode cL_law 1491 = .ok (.iadd, 1) := by decide +kernel
theorem dL_law_1492 : decode cL_law 1492 = .ok (.iaload, 1) := by decide +kernel
theorem dL_law_1493 : decode cL_law 1493 = .ok (.aload_n 0, 1) := by decide +kernel
theorem dL_law_1494 : decode cL_law 1494 = .ok (.iload 4, 2) := by decide +kernel
theorem dL_law_1496 : decode cL_law 1496 = .ok (.iconst 2, 1) := by decide +kernel
theorem dL_law_1497 : decode cL_law 1497 = .ok (.iadd, 1) := by decide +kernel
theorem dL_law_1498 : decode cL_law 1498 = .ok (.iaload, 1) := by decide +kernel
theorem dL_law_1499 : decode cL_law 1499 = .ok (.aload_n 0, 1) := by decide +kernel
theorem dL_law_1500 : decode cL_law 1500 = .ok (.iload 4, 2) := by decide +kernel
theorem dL_law_1502 : decode cL_law 1502 = .ok (.iconst 3, 1) := by decide +kernel
theorem dL_law_1503 : decode cL_law 1503 = .ok (.iadd, 1) := by decide +kernel
theorem dL_law_1504 : decode cL_law 1504 = .ok (.iaload, 1) := by decide +kernel
theorem dL_law_1505 : decode cL_law 1505 = .ok (.aload_n 0, 1) := by decide +kernel
theorem dL_law_1506 : decode cL_law 1506 = .ok (.iload 4, 2) := by decide +kernel
theorem dL_law_1508 : decode cL_law 1508 = .ok (.iconst 4, 1) := by decide +kernel
theorem dL_law_1509 : decode cL_law 1509 = .ok (.iadd, 1) := by decide +kernel
theorem dL_law_1510 : decode cL_law 1510 = .ok (.iaload, 1) := by decide +kernel
theorem dL_law_1511 : decode cL_law 1511 = .ok (.aload_n 3, 1) := by decide +kernel
theorem dL_law_1512 : decode cL_law 1512 = .ok (.invokestatic 209, 3) := by decide +kernel
theorem dL_law_1515 : decode cL_law 1515 = .ok (.istore 5, 2) := by decide +kernel
theorem dL_law_1517 : decode cL_law 1517 = .ok (.aload_n 2, 1) := by decide +kernel
theorem dL_law_1518 : decode cL_law 1518 = .ok (.aload_n 0, 1) := by decide +kernel
theorem dL_law_1519 : decode cL_law 1519 = .ok (.iload 4, 2) := by decide +kernel
theorem dL_law_1521 : decode cL_law 1521 = .ok (.iconst 1, 1) := by decide +kernel
theorem dL_law_1522 : decode cL_law 1522 = .ok (.iadd, 1) := by decide +kernel
theorem dL_law_1523 : decode cL_law 1523 = .ok (.iaload, 1) := by decide +kernel
theorem dL_law_1524 : decode cL_law 1524 = .ok (.aload_n 0, 1) := by decide +kernel
theorem dL_law_1525 : decode cL_law 1525 = .ok (.iload 4, 2) := by decide +kernel
theorem dL_law_1527 : decode cL_law 1527 = .ok (.iconst 2, 1) := by decide +kernel
theorem dL_law_1528 : decode cL_law 1528 = .ok (.iadd, 1) := by decide +kernel
theorem dL_law_1529 : decode cL_law 1529 = .ok (.iaload, 1) := by decide +kernel
theorem dL_law_1530 : decode cL_law 1530 = .ok (.aload_n 0, 1) := by decide +kernel
theorem dL_law_1531 : decode cL_law 1531 = .ok (.iload 4, 2) := by decide +kernel
theorem dL_law_1533 : decode cL_law 1533 = .ok (.iconst 3, 1) := by decide +kernel
theorem dL_law_1534 : decode cL_law 1534 = .ok (.iadd, 1) := by decide +kernel
theorem dL_law_1535 : decode cL_law 1535 = .ok (.iaload, 1) := by decide +kernel
theorem dL_law_1536 : decode cL_law 1536 = .ok (.aload_n 0, 1) := by decide +kernel
theorem dL_law_1537 : decode cL_law 1537 = .ok (.iload 4, 2) := by decide +kernel
theorem dL_law_1539 : decode cL_law 1539 = .ok (.iconst 4, 1) := by decide +kernel
theorem dL_law_1540 : decode cL_law 1540 = .ok (.iadd, 1) := by decide +kernel
theorem dL_law_1541 : decode cL_law 1541 = .ok (.iaload, 1) := by decide +kernel
theorem dL_law_1542 : decode cL_law 1542 = .ok (.invokevirtual 212, 3) := by decide +kernel
theorem dL_law_1545 : decode cL_law 1545 = .ok (.istore 6, 2) := by decide +kernel
theorem dL_law_1547 : decode cL_law 1547 = .ok (.aload_n 2, 1) := by decide +kernel
theorem dL_law_1548 : decode cL_law 1548 = .ok (.invokevirtual 107, 3) := by decide +kernel
theorem dL_law_1551 : decode cL_law 1551 = .ok (.iload 5, 2) := by decide +kernel
theorem dL_law_1553 : decode cL_law 1553 = .ok (.if_icmp .eq 5, 3) := by decide +kernel
theorem dL_law_1556 : decode cL_law 1556 = .ok (.iconst 0, 1) := by decide +kernel
theorem dL_law_1557 : decode cL_law 1557 = .ok (.ireturn, 1) := by decide +kernel
theorem dL_law_1558 : decode cL_law 1558 = .ok (.iload 5, 2) := by decide +kernel
theorem dL_law_1560 : decode cL_law 1560 = .ok (.ifCond .ne 15, 3) := by decide +kernel
theorem dL_law_1563 : decode cL_law 1563 = .ok (.aload_n 3, 1) := by decide +kernel
theorem dL_law_1564 : decode cL_law 1564 = .ok (.iconst 0, 1) := by decide +kernel
theorem dL_law_1565 : decode cL_law 1565 = .ok (.laload, 1) := by decide +kernel
theorem dL_law_1566 : decode cL_law 1566 = .ok (.iload 6, 2) := by decide +kernel
theorem dL_law_1568 : decode cL_law 1568 = .ok (.i2l, 1) := by decide +kernel
theorem dL_law_1569 : decode cL_law 1569 = .ok (.lcmp, 1) := by decide +kernel
theorem dL_law_1570 : decode cL_law 1570 = .ok (.ifCond .eq 5, 3) := by decide +kernel
theorem dL_law_1573 : decode cL_law 1573 = .ok (.iconst 0, 1) := by decide +kernel
theorem dL_law_1574 : decode cL_law 1574 = .ok (.ireturn, 1) := by decide +kernel
theorem dL_law_1575 : decode cL_law 1575 = .ok (.goto 475, 3) := by decide +kernel
theorem dL_law_1578 : decode cL_law 1578 = .ok (.aload_n 1, 1) := by decide +kernel
theorem dL_law_1579 : decode cL_law 1579 = .ok (.aload_n 0, 1) := by decide +kernel
theorem dL_law_1580 : decode cL_law 1580 = .ok (.iload 4, 2) := by decide +kernel
theorem dL_law_1582 : decode cL_law 1582 = .ok (.iconst 1, 1) := by decide +kernel
theorem dL_law_1583 : decode cL_law 1583 = .ok (.iadd, 1) := by decide +kernel
theorem dL_law_1584 : decode cL_law 1584 = .ok (.iaload, 1) := by decide +kernel
theorem dL_law_1585 : decode cL_law 1585 = .ok (.aload_n 0, 1) := by decide +kernel
theorem dL_law_1586 : decode cL_law 1586 = .ok (.iload 4, 2) := by decide +kernel
theorem dL_law_1588 : decode cL_law 1588 = .ok (.iconst 2, 1) := by decide +kernel
theorem dL_law_1589 : decode cL_law 1589 = .ok (.iadd, 1) := by decide +kernel
theorem dL_law_1590 : decode cL_law 1590 = .ok (.iaload, 1) := by decide +kernel
theorem dL_law_1591 : decode cL_law 1591 = .ok (.aload_n 0, 1) := by decide +kernel
theorem dL_law_1592 : decode cL_law 1592 = .ok (.iload 4, 2) := by decide +kernel
theorem dL_law_1594 : decode cL_law 1594 = .ok (.iconst 3, 1) := by decide +kernel
theorem dL_law_1595 : decode cL_law 1595 = .ok (.iadd, 1) := by decide +kernel
theorem dL_law_1596 : decode cL_law 1596 = .ok (.iaload, 1) := by decide +kernel
theorem dL_law_1597 : decode cL_law 1597 = .ok (.aload_n 3, 1) := by decide +kernel
theorem dL_law_1598 : decode cL_law 1598 = .ok (.invokestatic 213, 3) := by decide +kernel
theorem dL_law_1601 : decode cL_law 1601 = .ok (.istore 5, 2) := by decide +kernel
theorem dL_law_1603 : decode cL_law 1603 = .ok (.aload_n 2, 1) := by decide +kernel
theorem dL_law_1604 : decode cL_law 1604 = .ok (.aload_n 0, 1) := by decide +kernel
theorem dL_law_1605 : decode cL_law 1605 = .ok (.iload 4, 2) := by decide +kernel
theorem dL_law_1607 : decode cL_law 1607 = .ok (.iconst 1, 1) := by decide +kernel
theorem dL_law_1608 : decode cL_law 1608 = .ok (.iadd, 1) := by decide +kernel
theorem dL_law_1609 : decode cL_law 1609 = .ok (.iaload, 1) := by decide +kernel
theorem dL_law_1610 : decode cL_law 1610 = .ok (.aload_n 0, 1) := by decide +kernel
theorem dL_law_1611 : decode cL_law 1611 = .ok (.iload 4, 2) := by decide +kernel
theorem dL_law_1613 : decode cL_law 1613 = .ok (.iconst 2, 1) := by decide +kernel
theorem dL_law_1614 : decode cL_law 1614 = .ok (.iadd, 1) := by decide +kernel
theorem dL_law_1615 : decode cL_law 1615 = .ok (.iaload, 1) := by decide +kernel
theorem dL_law_1616 : decode cL_law 1616 = .ok (.aload_n 0, 1) := by decide +kernel
theorem dL_law_1617 : decode cL_law 1617 = .ok (.iload 4, 2) := by decide +kernel
theorem dL_law_1619 : decode cL_law 1619 = .ok (.iconst 3, 1) := by decide +kernel
theorem dL_law_1620 : decode cL_law 1620 = .ok (.iadd, 1) := by decide +kernel
theorem dL_law_1621 : decode cL_law 1621 = .ok (.iaload, 1) := by decide +kernel
theorem dL_law_1622 : decode cL_law 1622 = .ok (.invokevirtual 216, 3) := by decide +kernel
theorem dL_law_1625 : decode cL_law 1625 = .ok (.istore 6, 2) := by decide +kernel
theorem dL_law_1627 : decode cL_law 1627 = .ok (.aload_n 2, 1) := by decide +kernel
theorem dL_law_1628 : decode cL_law 1628 = .ok (.invokevirtual 107, 3) := by decide +kernel
theorem dL_law_1631 : decode cL_law 1631 = .ok (.iload 5, 2) := by decide +kernel
theorem dL_law_1633 : decode cL_law 1633 = .ok (.if_icmp .eq 5, 3) := by decide +kernel
theorem dL_law_1636 : decode cL_law 1636 = .ok (.iconst 0, 1) := by decide +kernel
theorem dL_law_1637 : decode cL_law 1637 = .ok (.ireturn, 1) := by decide +kernel
theorem dL_law_1638 : decode cL_law 1638 = .ok (.iload 5, 2) := by decide +kernel
theorem dL_law_1640 : decode cL_law 1640 = .ok (.ifCond .ne 15, 3) := by decide +kernel
theorem dL_law_1643 : decode cL_law 1643 = .ok (.aload_n 3, 1) := by decide +kernel
theorem dL_law_1644 : decode cL_law 1644 = .ok (.iconst 0, 1) := by decide +kernel
theorem dL_law_1645 : decode cL_law 1645 = .ok (.laload, 1) := by decide +kernel
theorem dL_law_1646 : decode cL_law 1646 = .ok (.iload 6, 2) := by decide +kernel
theorem dL_law_1648 : decode cL_law 1648 = .ok (.i2l, 1) := by decide +kernel
theorem dL_law_1649 : decode cL_law 1649 = .ok (.lcmp, 1) := by decide +kernel
theorem dL_law_1650 : decode cL_law 1650 = .ok (.ifCond .eq 5, 3) := by decide +kernel
theorem dL_law_1653 : decode cL_law 1653 = .ok (.iconst 0, 1) := by decide +kernel
theorem dL_law_1654 : decode cL_law 1654 = .ok (.ireturn, 1) := by decide +kernel
theorem dL_law_1655 : decode cL_law 1655 = .ok (.goto 395, 3) := by decide +kernel
theorem dL_law_1658 : decode cL_law 1658 = .ok (.aload_n 1, 1) := by decide +kernel
theorem dL_law_1659 : decode cL_law 1659 = .ok (.aload_n 0, 1) := by decide +kernel
theorem dL_law_1660 : decode cL_law 1660 = .ok (.iload 4, 2) := by decide +kernel
theorem dL_law_1662 : decode cL_law 1662 = .ok (.iconst 1, 1) := by decide +kernel
theorem dL_law_1663 : decode cL_law 1663 = .ok (.iadd, 1) := by decide +kernel
theorem dL_law_1664 : decode cL_law 1664 = .ok (.iaload, 1) := by decide +kernel
theorem dL_law_1665 : decode cL_law 1665 = .ok (.aload_n 0, 1) := by decide +kernel
theorem dL_law_1666 : decode cL_law 1666 = .ok (.iload 4, 2) := by decide +kernel
theorem dL_law_1668 : decode cL_law 1668 = .ok (.iconst 2, 1) := by decide +kernel
theorem dL_law_1669 : decode cL_law 1669 = .ok (.iadd, 1) := by decide +kernel
theorem dL_law_1670 : decode cL_law 1670 = .ok (.iaload, 1) := by decide +kernel
theorem dL_law_1671 : decode cL_law 1671 = .ok (.aload_n 0, 1) := by decide +kernel
theorem dL_law_1672 : decode cL_law 1672 = .ok (.iload 4, 2) := by decide +kernel
theorem dL_law_1674 : decode cL_law 1674 = .ok (.iconst 3, 1) := by decide +kernel
theorem dL_law_1675 : decode cL_law 1675 = .ok (.iadd, 1) := by decide +kernel
theorem dL_law_1676 : decode cL_law 1676 = .ok (.iaload, 1) := by decide +kernel
theorem dL_law_1677 : decode cL_law 1677 = .ok (.aload_n 3, 1) := by decide +kernel
theorem dL_law_1678 : decode cL_law 1678 = .ok (.invokestatic 217, 3) := by decide +kernel
theorem dL_law_1681 : decode cL_law 1681 = .ok (.istore 5, 2) := by decide +kernel
theorem dL_law_1683 : decode cL_law 1683 = .ok (.aload_n 2, 1) := by decide +kernel
theorem dL_law_1684 : decode cL_law 1684 = .ok (.aload_n 0, 1) := by decide +kernel
theorem dL_law_1685 : decode cL_law 1685 = .ok (.iload 4, 2) := by decide +kernel
theorem dL_law_1687 : decode cL_law 1687 = .ok (.iconst 1, 1) := by decide +kernel
theorem dL_law_1688 : decode cL_law 1688 = .ok (.iadd, 1) := by decide +kernel
theorem dL_law_1689 : decode cL_law 1689 = .ok (.iaload, 1) := by decide +kernel
theorem dL_law_1690 : decode cL_law 1690 = .ok (.aload_n 0, 1) := by decide +kernel
theorem dL_law_1691 : decode cL_law 1691 = .ok (.iload 4, 2) := by decide +kernel
theorem dL_law_1693 : decode cL_law 1693 = .ok (.iconst 2, 1) := by decide +kernel
theorem dL_law_1694 : decode cL_law 1694 = .ok (.iadd, 1) := by decide +kernel
theorem dL_law_1695 : decode cL_law 1695 = .ok (.iaload, 1) := by decide +kernel
theorem dL_law_1696 : decode cL_law 1696 = .ok (.aload_n 0, 1) := by decide +kernel
theorem dL_law_1697 : decode cL_law 1697 = .ok (.iload 4, 2) := by decide +kernel
theorem dL_law_1699 : decode cL_law 1699 = .ok (.iconst 3, 1) := by decide +kernel
theorem dL_law_1700 : decode cL_law 1700 = .ok (.iadd, 1) := by decide +kernel
theorem dL_law_1701 : decode cL_law 1701 = .ok (.iaload, 1) := by decide +kernel
theorem dL_law_1702 : decode cL_law 1702 = .ok (.invokevirtual 219, 3) := by decide +kernel
theorem dL_law_1705 : decode cL_law 1705 = .ok (.istore 6, 2) := by decide +kernel
theorem dL_law_1707 : decode cL_law 1707 = .ok (.aload_n 2, 1) := by decide +kernel
theorem dL_law_1708 : decode cL_law 1708 = .ok (.invokevirtual 107, 3) := by decide +kernel
theorem dL_law_1711 : decode cL_law 1711 = .ok (.iload 5, 2) := by decide +kernel
theorem dL_law_1713 : decode cL_law 1713 = .ok (.if_icmp .eq 5, 3) := by decide +kernel
theorem dL_law_1716 : decode cL_law 1716 = .ok (.iconst 0, 1) := by decide +kernel
theorem dL_law_1717 : decode cL_law 1717 = .ok (.ireturn, 1) := by decide +kernel
theorem dL_law_1718 : decode cL_law 1718 = .ok (.iload 5, 2) := by decide +kernel
theorem dL_law_1720 : decode cL_law 1720 = .ok (.ifCond .ne 15, 3) := by decide +kernel
theorem dL_law_1723 : decode cL_law 1723 = .ok (.aload_n 3, 1) := by decide +kernel
theorem dL_law_1724 : decode cL_law 1724 = .ok (.iconst 0, 1) := by decide +kernel
theorem dL_law_1725 : decode cL_law 1725 = .ok (.laload, 1) := by decide +kernel
theorem dL_law_1726 : decode cL_law 1726 = .ok (.iload 6, 2) := by decide +kernel
theorem dL_law_1728 : decode cL_law 1728 = .ok (.i2l, 1) := by decide +kernel
theorem dL_law_1729 : decode cL_law 1729 = .ok (.lcmp, 1) := by decide +kernel
theorem dL_law_1730 : decode cL_law 1730 = .ok (.ifCond .eq 5, 3) := by decide +kernel
theorem dL_law_1733 : decode cL_law 1733 = .ok (.iconst 0, 1) := by decide +kernel
theorem dL_law_1734 : decode cL_law 1734 = .ok (.ireturn, 1) := by decide +kernel
theorem dL_law_1735 : decode cL_law 1735 = .ok (.goto 315, 3) := by decide +kernel
theorem dL_law_1738 : decode cL_law 1738 = .ok (.aload_n 1, 1) := by decide +kernel
theorem dL_law_1739 : decode cL_law 1739 = .ok (.aload_n 0, 1) := by decide +kernel
theorem dL_law_1740 : decode cL_law 1740 = .ok (.iload 4, 2) := by decide +kernel
theorem dL_law_1742 : decode cL_law 1742 = .ok (.iconst 1, 1) := by decide +kernel
theorem dL_law_1743 : decode cL_law 1743 = .ok (.iadd, 1) := by decide +kernel
theorem dL_law_1744 : decode cL_law 1744 = .ok (.iaload, 1) := by decide +kernel
theorem dL_law_1745 : decode cL_law 1745 = .ok (.aload_n 3, 1) := by decide +kernel
theorem dL_law_1746 : decode cL_law 1746 = .ok (.invokestatic 220, 3) := by decide +kernel
theorem dL_law_1749 : decode cL_law 1749 = .ok (.istore 5, 2) := by decide +kernel
theorem dL_law_1751 : decode cL_law 1751 = .ok (.aload_n 2, 1) := by decide +kernel
theorem dL_law_1752 : decode cL_law 1752 = .ok (.aload_n 0, 1) := by decide +kernel
theorem dL_law_1753 : decode cL_law 1753 = .ok (.iload 4, 2) := by decide +kernel
theorem dL_law_1755 : decode cL_law 1755 = .ok (.iconst 1, 1) := by decide +kernel
theorem dL_law_1756 : decode cL_law 1756 = .ok (.iadd, 1) := by decide +kernel
theorem dL_law_1757 : decode cL_law 1757 = .ok (.iaload, 1) := by decide +kernel
theorem dL_law_1758 : decode cL_law 1758 = .ok (.invokevirtual 222, 3) := by decide +kernel
theorem dL_law_1761 : decode cL_law 1761 = .ok (.istore 6, 2) := by decide +kernel
theorem dL_law_1763 : decode cL_law 1763 = .ok (.aload_n 2, 1) := by decide +kernel
theorem dL_law_1764 : decode cL_law 1764 = .ok (.invokevirtual 107, 3) := by decide +kernel
theorem dL_law_1767 : decode cL_law 1767 = .ok (.iload 5, 2) := by decide +kernel
theorem dL_law_1769 : decode cL_law 1769 = .ok (.if_icmp .eq 5, 3) := by decide +kernel
theorem dL_law_1772 : decode cL_law 1772 = .ok (.iconst 0, 1) := by decide +kernel
theorem dL_law_1773 : decode cL_law 1773 = .ok (.ireturn, 1) := by decide +kernel
theorem dL_law_1774 : decode cL_law 1774 = .ok (.iload 5, 2) := by decide +kernel
theorem dL_law_1776 : decode cL_law 1776 = .ok (.ifCond .ne 15, 3) := by decide +kernel
theorem dL_law_1779 : decode cL_law 1779 = .ok (.aload_n 3, 1) := by decide +kernel
theorem dL_law_1780 : decode cL_law 1780 = .ok (.iconst 0, 1) := by decide +kernel
theorem dL_law_1781 : decode cL_law 1781 = .ok (.laload, 1) := by decide +kernel
theorem dL_law_1782 : decode cL_law 1782 = .ok (.iload 6, 2) := by decide +kernel
theorem dL_law_1784 : decode cL_law 1784 = .ok (.i2l, 1) := by decide +kernel
theorem dL_law_1785 : decode cL_law 1785 = .ok (.lcmp, 1) := by decide +kernel
theorem dL_law_1786 : decode cL_law 1786 = .ok (.ifCond .eq 5, 3) := by decide +kernel
theorem dL_law_1789 : decode cL_law 1789 = .ok (.iconst 0, 1) := by decide +kernel
theorem dL_law_1790 : decode cL_law 1790 = .ok (.ireturn, 1) := by decide +kernel
theorem dL_law_1791 : decode cL_law 1791 = .ok (.goto 259, 3) := by decide +kernel
theorem dL_law_1794 : decode cL_law 1794 = .ok (.aload_n 1, 1) := by decide +kernel
theorem dL_law_1795 : decode cL_law 1795 = .ok (.aload_n 0, 1) := by decide +kernel
theorem dL_law_1796 : decode cL_law 1796 = .ok (.iload 4, 2) := by decide +kernel
theorem dL_law_1798 : decode cL_law 1798 = .ok (.iconst 1, 1) := by decide +kernel
theorem dL_law_1799 : decode cL_law 1799 = .ok (.iadd, 1) := by decide +kernel
theorem dL_law_1800 : decode cL_law 1800 = .ok (.iaload, 1) := by decide +kernel
theorem dL_law_1801 : decode cL_law 1801 = .ok (.aload_n 3, 1) := by decide +kernel
theorem dL_law_1802 : decode cL_law 1802 = .ok (.invokestatic 223, 3) := by decide +kernel
theorem dL_law_1805 : decode cL_law 1805 = .ok (.istore 5, 2) := by decide +kernel
theorem dL_law_1807 : decode cL_law 1807 = .ok (.aload_n 2, 1) := by decide +kernel
theorem dL_law_1808 : decode cL_law 1808 = .ok (.aload_n 0, 1) := by decide +kernel
theorem dL_law_1809 : decode cL_law 1809 = .ok (.iload 4, 2) := by decide +kernel
theorem dL_law_1811 : decode cL_law 1811 = .ok (.iconst 1, 1) := by decide +kernel
theorem dL_law_1812 : decode cL_law 1812 = .ok (.iadd, 1) := by decide +kernel
theorem dL_law_1813 : decode cL_law 1813 = .ok (.iaload, 1) := by decide +kernel
theorem dL_law_1814 : decode cL_law 1814 = .ok (.invokevirtual 225, 3) := by decide +kernel
theorem dL_law_1817 : decode cL_law 1817 = .ok (.istore 6, 2) := by decide +kernel
theorem dL_law_1819 : decode cL_law 1819 = .ok (.aload_n 2, 1) := by decide +kernel
theorem dL_law_1820 : decode cL_law 1820 = .ok (.invokevirtual 107, 3) := by decide +kernel
theorem dL_law_1823 : decode cL_law 1823 = .ok (.iload 5, 2) := by decide +kernel
theorem dL_law_1825 : decode cL_law 1825 = .ok (.if_icmp .eq 5, 3) := by decide +kernel
theorem dL_law_1828 : decode cL_law 1828 = .ok (.iconst 0, 1) := by decide +kernel
theorem dL_law_1829 : decode cL_law 1829 = .ok (.ireturn, 1) := by decide +kernel
theorem dL_law_1830 : decode cL_law 1830 = .ok (.iload 5, 2) := by decide +kernel
theorem dL_law_1832 : decode cL_law 1832 = .ok (.ifCond .ne 22, 3) := by decide +kernel
theorem dL_law_1835 : decode cL_law 1835 = .ok (.aload_n 3, 1) := by decide +kernel
theorem dL_law_1836 : decode cL_law 1836 = .ok (.iconst 0, 1) := by decide +kernel
theorem dL_law_1837 : decode cL_law 1837 = .ok (.laload, 1) := by decide +kernel
theorem dL_law_1838 : decode cL_law 1838 = .ok (.iload 6, 2) := by decide +kernel
theorem dL_law_1840 : decode cL_law 1840 = .ok (.ifCond .eq 7, 3) := by decide +kernel
theorem dL_law_1843 : decode cL_law 1843 = .ok (.lconst 1, 1) := by decide +kernel
theorem dL_law_1844 : decode cL_law 1844 = .ok (.goto 4, 3) := by decide +kernel
theorem dL_law_1847 : decode cL_law 1847 = .ok (.lconst 0, 1) := by decide +kernel
theorem dL_law_1848 : decode cL_law 1848 = .ok (.lcmp, 1) := by decide +kernel
theorem dL_law_1849 : decode cL_law 1849 = .ok (.ifCond .eq 5, 3) := by decide +kernel
theorem dL_law_1852 : decode cL_law 1852 = .ok (.iconst 0, 1) := by decide +kernel
theorem dL_law_1853 : decode cL_law 1853 = .ok (.ireturn, 1) := by decide +kernel
theorem dL_law_1854 : decode cL_law 1854 = .ok (.goto 196, 3) := by decide +kernel
theorem dL_law_1857 : decode cL_law 1857 = .ok (.aload_n 1, 1) := by decide +kernel
theorem dL_law_1858 : decode cL_law 1858 = .ok (.aload_n 0, 1) := by decide +kernel
theorem dL_law_1859 : decode cL_law 1859 = .ok (.iload 4, 2) := by decide +kernel
theorem dL_law_1861 : decode cL_law 1861 = .ok (.iconst 1, 1) := by decide +kernel
theorem dL_law_1862 : decode cL_law 1862 = .ok (.iadd, 1) := by decide +kernel
theorem dL_law_1863 : decode cL_law 1863 = .ok (.iaload, 1) := by decide +kernel
theorem dL_law_1864 : decode cL_law 1864 = .ok (.aload_n 3, 1) := by decide +kernel
theorem dL_law_1865 : decode cL_law 1865 = .ok (.invokestatic 226, 3) := by decide +kernel
theorem dL_law_1868 : decode cL_law 1868 = .ok (.istore 5, 2) := by decide +kernel
theorem dL_law_1870 : decode cL_law 1870 = .ok (.aload_n 2, 1) := by decide +kernel
theorem dL_law_1871 : decode cL_law 1871 = .ok (.aload_n 0, 1) := by decide +kernel
theorem dL_law_1872 : decode cL_law 1872 = .ok (.iload 4, 2) := by decide +kernel
theorem dL_law_1874 : decode cL_law 1874 = .ok (.iconst 1, 1) := by decide +kernel
theorem dL_law_1875 : decode cL_law 1875 = .ok (.iadd, 1) := by decide +kernel
theorem dL_law_1876 : decode cL_law 1876 = .ok (.iaload, 1) := by decide +kernel
theorem dL_law_1877 : decode cL_law 1877 = .ok (.invokevirtual 228, 3) := by decide +kernel
theorem dL_law_1880 : decode cL_law 1880 = .ok (.istore 6, 2) := by decide +kernel
theorem dL_law_1882 : decode cL_law 1882 = .ok (.aload_n 2, 1) := by decide +kernel
theorem dL_law_1883 : decode cL_law 1883 = .ok (.invokevirtual 107, 3) := by decide +kernel
theorem dL_law_1886 : decode cL_law 1886 = .ok (.iload 5, 2) := by decide +kernel
theorem dL_law_1888 : decode cL_law 1888 = .ok (.if_icmp .eq 5, 3) := by decide +kernel
theorem dL_law_1891 : decode cL_law 1891 = .ok (.iconst 0, 1) := by decide +kernel
theorem dL_law_1892 : decode cL_law 1892 = .ok (.ireturn, 1) := by decide +kernel
theorem dL_law_1893 : decode cL_law 1893 = .ok (.iload 5, 2) := by decide +kernel
theorem dL_law_1895 : decode cL_law 1895 = .ok (.ifCond .ne 15, 3) := by decide +kernel
theorem dL_law_1898 : decode cL_law 1898 = .ok (.aload_n 3, 1) := by decide +kernel
theorem dL_law_1899 : decode cL_law 1899 = .ok (.iconst 0, 1) := by decide +kernel
theorem dL_law_1900 : decode cL_law 1900 = .ok (.laload, 1) := by decide +kernel
theorem dL_law_1901 : decode cL_law 1901 = .ok (.iload 6, 2) := by decide +kernel
theorem dL_law_1903 : decode cL_law 1903 = .ok (.i2l, 1) := by decide +kernel
theorem dL_law_1904 : decode cL_law 1904 = .ok (.lcmp, 1) := by decide +kernel
theorem dL_law_1905 : decode cL_law 1905 = .ok (.ifCond .eq 5, 3) := by decide +kernel
theorem dL_law_1908 : decode cL_law 1908 = .ok (.iconst 0, 1) := by decide +kernel
theorem dL_law_1909 : decode cL_law 1909 = .ok (.ireturn, 1) := by decide +kernel
theorem dL_law_1910 : decode cL_law 1910 = .ok (.goto 140, 3) := by decide +kernel
theorem dL_law_1913 : decode cL_law 1913 = .ok (.aload_n 1, 1) := by decide +kernel
theorem dL_law_1914 : decode cL_law 1914 = .ok (.aload_n 0, 1) := by decide +kernel
theorem dL_law_1915 : decode cL_law 1915 = .ok (.iload 4, 2) := by decide +kernel
theorem dL_law_1917 : decode cL_law 1917 = .ok (.iconst 1, 1) := by decide +kernel
theorem dL_law_1918 : decode cL_law 1918 = .ok (.iadd, 1) := by decide +kernel
theorem dL_law_1919 : decode cL_law 1919 = .ok (.iaload, 1) := by decide +kernel
theorem dL_law_1920 : decode cL_law 1920 = .ok (.aload_n 3, 1) := by decide +kernel
theorem dL_law_1921 : decode cL_law 1921 = .ok (.invokestatic 229, 3) := by decide +kernel
theorem dL_law_1924 : decode cL_law 1924 = .ok (.istore 5, 2) := by decide +kernel
theorem dL_law_1926 : decode cL_law 1926 = .ok (.aload_n 2, 1) := by decide +kernel
theorem dL_law_1927 : decode cL_law 1927 = .ok (.aload_n 0, 1) := by decide +kernel
theorem dL_law_1928 : decode cL_law 1928 = .ok (.iload 4, 2) := by decide +kernel
theorem dL_law_1930 : decode cL_law 1930 = .ok (.iconst 1, 1) := by decide +kernel
theorem dL_law_1931 : decode cL_law 1931 = .ok (.iadd, 1) := by decide +kernel
theorem dL_law_1932 : decode cL_law 1932 = .ok (.iaload, 1) := by decide +kernel
theorem dL_law_1933 : decode cL_law 1933 = .ok (.invokevirtual 231, 3) := by decide +kernel
theorem dL_law_1936 : decode cL_law 1936 = .ok (.istore 6, 2) := by decide +kernel
theorem dL_law_1938 : decode cL_law 1938 = .ok (.aload_n 2, 1) := by decide +kernel
theorem dL_law_1939 : decode cL_law 1939 = .ok (.invokevirtual 107, 3) := by decide +kernel
theorem dL_law_1942 : decode cL_law 1942 = .ok (.iload 5, 2) := by decide +kernel
theorem dL_law_1944 : decode cL_law 1944 = .ok (.if_icmp .eq 5, 3) := by decide +kernel
theorem dL_law_1947 : decode cL_law 1947 = .ok (.iconst 0, 1) := by decide +kernel
theorem dL_law_1948 : decode cL_law 1948 = .ok (.ireturn, 1) := by decide +kernel
theorem dL_law_1949 : decode cL_law 1949 = .ok (.iload 5, 2) := by decide +kernel
theorem dL_law_1951 : decode cL_law 1951 = .ok (.ifCond .ne 15, 3) := by decide +kernel
theorem dL_law_1954 : decode cL_law 1954 = .ok (.aload_n 3, 1) := by decide +kernel
theorem dL_law_1955 : decode cL_law 1955 = .ok (.iconst 0, 1) := by decide +kernel
theorem dL_law_1956 : decode cL_law 1956 = .ok (.laload, 1) := by decide +kernel
theorem dL_law_1957 : decode cL_law 1957 = .ok (.iload 6, 2) := by decide +kernel
theorem dL_law_1959 : decode cL_law 1959 = .ok (.i2l, 1) := by decide +kernel
theorem dL_law_1960 : decode cL_law 1960 = .ok (.lcmp, 1) := by decide +kernel
theorem dL_law_1961 : decode cL_law 1961 = .ok (.ifCond .eq 5, 3) := by decide +kernel
theorem dL_law_1964 : decode cL_law 1964 = .ok (.iconst 0, 1) := by decide +kernel
theorem dL_law_1965 : decode cL_law 1965 = .ok (.ireturn, 1) := by decide +kernel
theorem dL_law_1966 : decode cL_law 1966 = .ok (.goto 84, 3) := by decide +kernel
theorem dL_law_1969 : decode cL_law 1969 = .ok (.aload_n 1, 1) := by decide +kernel
theorem dL_law_1970 : decode cL_law 1970 = .ok (.invokevirtual 232, 3) := by decide +kernel
theorem dL_law_1973 : decode cL_law 1973 = .ok (.aload_n 2, 1) := by decide +kernel
theorem dL_law_1974 : decode cL_law 1974 = .ok (.invokevirtual 235, 3) := by decide +kernel
theorem dL_law_1977 : decode cL_law 1977 = .ok (.if_icmp .eq 73, 3) := by decide +kernel
theorem dL_law_1980 : decode cL_law 1980 = .ok (.iconst 0, 1) := by decide +kernel
theorem dL_law_1981 : decode cL_law 1981 = .ok (.ireturn, 1) := by decide +kernel
theorem dL_law_1982 : decode cL_law 1982 = .ok (.aload_n 1, 1) := by decide +kernel
theorem dL_law_1983 : decode cL_law 1983 = .ok (.invokevirtual 236, 3) := by decide +kernel
theorem dL_law_1986 : decode cL_law 1986 = .ok (.aload_n 2, 1) := by decide +kernel
theorem dL_law_1987 : decode cL_law 1987 = .ok (.invokevirtual 239, 3) := by decide +kernel
theorem dL_law_1990 : decode cL_law 1990 = .ok (.if_icmp .eq 60, 3) := by decide +kernel
theorem dL_law_1993 : decode cL_law 1993 = .ok (.iconst 0, 1) := by decide +kernel
theorem dL_law_1994 : decode cL_law 1994 = .ok (.ireturn, 1) := by decide +kernel
theorem dL_law_1995 : decode cL_law 1995 = .ok (.aload_n 1, 1) := by decide +kernel
theorem dL_law_1996 : decode cL_law 1996 = .ok (.invokevirtual 240, 3) := by decide +kernel
theorem dL_law_1999 : decode cL_law 1999 = .ok (.dstore 5, 2) := by decide +kernel
theorem dL_law_2001 : decode cL_law 2001 = .ok (.aload_n 2, 1) := by decide +kernel
theorem dL_law_2002 : decode cL_law 2002 = .ok (.invokevirtual 244, 3) := by decide +kernel
theorem dL_law_2005 : decode cL_law 2005 = .ok (.dstore 7, 2) := by decide +kernel
theorem dL_law_2007 : decode cL_law 2007 = .ok (.dload 5, 2) := by decide +kernel
theorem dL_law_2009 : decode cL_law 2009 = .ok (.dload 7, 2) := by decide +kernel
theorem dL_law_2011 : decode cL_law 2011 = .ok (.dcmp .l, 1) := by decide +kernel
theorem dL_law_2012 : decode cL_law 2012 = .ok (.ifCond .eq 21, 3) := by decide +kernel
theorem dL_law_2015 : decode cL_law 2015 = .ok (.dload 5, 2) := by decide +kernel
theorem dL_law_2017 : decode cL_law 2017 = .ok (.dload 5, 2) := by decide +kernel
theorem dL_law_2019 : decode cL_law 2019 = .ok (.dcmp .l, 1) := by decide +kernel
theorem dL_law_2020 : decode cL_law 2020 = .ok (.ifCond .eq 11, 3) := by decide +kernel
theorem dL_law_2023 : decode cL_law 2023 = .ok (.dload 7, 2) := by decide +kernel
theorem dL_law_2025 : decode cL_law 2025 = .ok (.dload 7, 2) := by decide +kernel
theorem dL_law_2027 : decode cL_law 2027 = .ok (.dcmp .l, 1) := by decide +kernel
theorem dL_law_2028 : decode cL_law 2028 = .ok (.ifCond .ne 5, 3) := by decide +kernel
theorem dL_law_2031 : decode cL_law 2031 = .ok (.iconst 0, 1) := by decide +kernel
theorem dL_law_2032 : decode cL_law 2032 = .ok (.ireturn, 1) := by decide +kernel
theorem dL_law_2033 : decode cL_law 2033 = .ok (.goto 17, 3) := by decide +kernel
theorem dL_law_2036 : decode cL_law 2036 = .ok (.aload_n 1, 1) := by decide +kernel
theorem dL_law_2037 : decode cL_law 2037 = .ok (.invokevirtual 245, 3) := by decide +kernel
theorem dL_law_2040 : decode cL_law 2040 = .ok (.aload_n 2, 1) := by decide +kernel
theorem dL_law_2041 : decode cL_law 2041 = .ok (.invokevirtual 249, 3) := by decide +kernel
theorem dL_law_2044 : decode cL_law 2044 = .ok (.lcmp, 1) := by decide +kernel
theorem dL_law_2045 : decode cL_law 2045 = .ok (.ifCond .eq 5, 3) := by decide +kernel
theorem dL_law_2048 : decode cL_law 2048 = .ok (.iconst 0, 1) := by decide +kernel
theorem dL_law_2049 : decode cL_law 2049 = .ok (.ireturn, 1) := by decide +kernel
theorem dL_law_2050 : decode cL_law 2050 = .ok (.iinc 4 6, 3) := by decide +kernel
theorem dL_law_2053 : decode cL_law 2053 = .ok (.goto (-2030), 3) := by decide +kernel
theorem dL_law_2056 : decode cL_law 2056 = .ok (.iconst 1, 1) := by decide +kernel
theorem dL_law_2057 : decode cL_law 2057 = .ok (.ireturn, 1) := by decide +kernel
