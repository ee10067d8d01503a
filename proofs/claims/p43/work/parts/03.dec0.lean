theorem dX0_init_0 : decode cX0_init 0 = .ok (.aload_n 0, 1) := by decide +kernel
theorem dX0_init_1 : decode cX0_init 1 = .ok (.invokespecial 3, 3) := by decide +kernel
theorem dX0_init_4 : decode cX0_init 4 = .ok (.aload_n 0, 1) := by decide +kernel
theorem dX0_init_5 : decode cX0_init 5 = .ok (.new 9, 3) := by decide +kernel
theorem dX0_init_8 : decode cX0_init 8 = .ok (.dup, 1) := by decide +kernel
theorem dX0_init_9 : decode cX0_init 9 = .ok (.bipush 40, 2) := by decide +kernel
theorem dX0_init_11 : decode cX0_init 11 = .ok (.invokespecial 11, 3) := by decide +kernel
theorem dX0_init_14 : decode cX0_init 14 = .ok (.putfield 14, 3) := by decide +kernel
theorem dX0_init_17 : decode cX0_init 17 = .ok (.aload_n 0, 1) := by decide +kernel
theorem dX0_init_18 : decode cX0_init 18 = .ok (.new 9, 3) := by decide +kernel
theorem dX0_init_21 : decode cX0_init 21 = .ok (.dup, 1) := by decide +kernel
theorem dX0_init_22 : decode cX0_init 22 = .ok (.bipush 40, 2) := by decide +kernel
theorem dX0_init_24 : decode cX0_init 24 = .ok (.invokespecial 11, 3) := by decide +kernel
theorem dX0_init_27 : decode cX0_init 27 = .ok (.putfield 20, 3) := by decide +kernel
theorem dX0_init_30 : decode cX0_init 30 = .ok (.aload_n 0, 1) := by decide +kernel
theorem dX0_init_31 : decode cX0_init 31 = .ok (.new 9, 3) := by decide +kernel
theorem dX0_init_34 : decode cX0_init 34 = .ok (.dup, 1) := by decide +kernel
theorem dX0_init_35 : decode cX0_init 35 = .ok (.bipush 40, 2) := by decide +kernel
theorem dX0_init_37 : decode cX0_init 37 = .ok (.invokespecial 11, 3) := by decide +kernel
theorem dX0_init_40 : decode cX0_init 40 = .ok (.putfield 23, 3) := by decide +kernel
theorem dX0_init_43 : decode cX0_init 43 = .ok (.aload_n 0, 1) := by decide +kernel
theorem dX0_init_44 : decode cX0_init 44 = .ok (.new 9, 3) := by decide +kernel
theorem dX0_init_47 : decode cX0_init 47 = .ok (.dup, 1) := by decide +kernel
theorem dX0_init_48 : decode cX0_init 48 = .ok (.bipush 40, 2) := by decide +kernel
theorem dX0_init_50 : decode cX0_init 50 = .ok (.invokespecial 11, 3) := by decide +kernel
theorem dX0_init_53 : decode cX0_init 53 = .ok (.putfield 26, 3) := by decide +kernel
theorem dX0_init_56 : decode cX0_init 56 = .ok (.aload_n 0, 1) := by decide +kernel
theorem dX0_init_57 : decode cX0_init 57 = .ok (.new 9, 3) := by decide +kernel
theorem dX0_init_60 : decode cX0_init 60 = .ok (.dup, 1) := by decide +kernel
theorem dX0_init_61 : decode cX0_init 61 = .ok (.bipush 40, 2) := by decide +kernel
theorem dX0_init_63 : decode cX0_init 63 = .ok (.invokespecial 11, 3) := by decide +kernel
theorem dX0_init_66 : decode cX0_init 66 = .ok (.putfield 29, 3) := by decide +kernel
theorem dX0_init_69 : decode cX0_init 69 = .ok (.aload_n 0, 1) := by decide +kernel
theorem dX0_init_70 : decode cX0_init 70 = .ok (.iconst 0, 1) := by decide +kernel
theorem dX0_init_71 : decode cX0_init 71 = .ok (.putfield 32, 3) := by decide +kernel
theorem dX0_init_74 : decode cX0_init 74 = .ok (.return_, 1) := by decide +kernel
theorem dX0_copyFrom_0 : decode cX0_copyFrom 0 = .ok (.aload_n 0, 1) := by decide +kernel
theorem dX0_copyFrom_1 : decode cX0_copyFrom 1 = .ok (.getfield 14, 3) := by decide +kernel
theorem dX0_copyFrom_4 : decode cX0_copyFrom 4 = .ok (.aload_n 1, 1) := by decide +kernel
theorem dX0_copyFrom_5 : decode cX0_copyFrom 5 = .ok (.getfield 14, 3) := by decide +kernel
theorem dX0_copyFrom_8 : decode cX0_copyFrom 8 = .ok (.invokevirtual 36, 3) := by decide +kernel
theorem dX0_copyFrom_11 : decode cX0_copyFrom 11 = .ok (.aload_n 0, 1) := by decide +kernel
theorem dX0_copyFrom_12 : decode cX0_copyFrom 12 = .ok (.getfield 20, 3) := by decide +kernel
theorem dX0_copyFrom_15 : decode cX0_copyFrom 15 = .ok (.aload_n 1, 1) := by decide +kernel
theorem dX0_copyFrom_16 : decode cX0_copyFrom 16 = .ok (.getfield 20, 3) := by decide +kernel
theorem dX0_copyFrom_19 : decode cX0_copyFrom 19 = .ok (.invokevirtual 36, 3) := by decide +kernel
theorem dX0_copyFrom_22 : decode cX0_copyFrom 22 = .ok (.aload_n 0, 1) := by decide +kernel
theorem dX0_copyFrom_23 : decode cX0_copyFrom 23 = .ok (.getfield 23, 3) := by decide +kernel
theorem dX0_copyFrom_26 : decode cX0_copyFrom 26 = .ok (.aload_n 1, 1) := by decide +kernel
theorem dX0_copyFrom_27 : decode cX0_copyFrom 27 = .ok (.getfield 23, 3) := by decide +kernel
theorem dX0_copyFrom_30 : decode cX0_copyFrom 30 = .ok (.invokevirtual 36, 3) := by decide +kernel
theorem dX0_copyFrom_33 : decode cX0_copyFrom 33 = .ok (.aload_n 0, 1) := by decide +kernel
theorem dX0_copyFrom_34 : decode cX0_copyFrom 34 = .ok (.getfield 26, 3) := by decide +kernel
theorem dX0_copyFrom_37 : decode cX0_copyFrom 37 = .ok (.aload_n 1, 1) := by decide +kernel
theorem dX0_copyFrom_38 : decode cX0_copyFrom 38 = .ok (.getfield 26, 3) := by decide +kernel
theorem dX0_copyFrom_41 : decode cX0_copyFrom 41 = .ok (.invokevirtual 36, 3) := by decide +kernel
theorem dX0_copyFrom_44 : decode cX0_copyFrom 44 = .ok (.aload_n 0, 1) := by decide +kernel
theorem dX0_copyFrom_45 : decode cX0_copyFrom 45 = .ok (.getfield 29, 3) := by decide +kernel
theorem dX0_copyFrom_48 : decode cX0_copyFrom 48 = .ok (.aload_n 1, 1) := by decide +kernel
theorem dX0_copyFrom_49 : decode cX0_copyFrom 49 = .ok (.getfield 29, 3) := by decide +kernel
theorem dX0_copyFrom_52 : decode cX0_copyFrom 52 = .ok (.invokevirtual 36, 3) := by decide +kernel
theorem dX0_copyFrom_55 : decode cX0_copyFrom 55 = .ok (.aload_n 0, 1) := by decide +kernel
theorem dX0_copyFrom_56 : decode cX0_copyFrom 56 = .ok (.aload_n 1, 1) := by decide +kernel
theorem dX0_copyFrom_57 : decode cX0_copyFrom 57 = .ok (.getfield 32, 3) := by decide +kernel
theorem dX0_copyFrom_60 : decode cX0_copyFrom 60 = .ok (.putfield 32, 3) := by decide +kernel
theorem dX0_copyFrom_63 : decode cX0_copyFrom 63 = .ok (.return_, 1) := by decide +kernel
theorem dX0_isFull_0 : decode cX0_isFull 0 = .ok (.aload_n 0, 1) := by decide +kernel
theorem dX0_isFull_1 : decode cX0_isFull 1 = .ok (.getfield 32, 3) := by decide +kernel
theorem dX0_isFull_4 : decode cX0_isFull 4 = .ok (.bipush 40, 2) := by decide +kernel
theorem dX0_isFull_6 : decode cX0_isFull 6 = .ok (.if_icmp .lt 7, 3) := by decide +kernel
theorem dX0_isFull_9 : decode cX0_isFull 9 = .ok (.iconst 1, 1) := by decide +kernel
theorem dX0_isFull_10 : decode cX0_isFull 10 = .ok (.goto 4, 3) := by decide +kernel
theorem dX0_isFull_13 : decode cX0_isFull 13 = .ok (.iconst 0, 1) := by decide +kernel
theorem dX0_isFull_14 : decode cX0_isFull 14 = .ok (.ireturn, 1) := by decide +kernel
theorem dX0_add_0 : decode cX0_add 0 = .ok (.aload_n 0, 1) := by decide +kernel
theorem dX0_add_1 : decode cX0_add 1 = .ok (.invokevirtual 40, 3) := by decide +kernel
theorem dX0_add_4 : decode cX0_add 4 = .ok (.ifCond .eq 4, 3) := by decide +kernel
theorem dX0_add_7 : decode cX0_add 7 = .ok (.return_, 1) := by decide +kernel
theorem dX0_add_8 : decode cX0_add 8 = .ok (.aload_n 0, 1) := by decide +kernel
theorem dX0_add_9 : decode cX0_add 9 = .ok (.getfield 14, 3) := by decide +kernel
theorem dX0_add_12 : decode cX0_add 12 = .ok (.aload_n 0, 1) := by decide +kernel
theorem dX0_add_13 : decode cX0_add 13 = .ok (.getfield 32, 3) := by decide +kernel
theorem dX0_add_16 : decode cX0_add 16 = .ok (.iload_n 1, 1) := by decide +kernel
theorem dX0_add_17 : decode cX0_add 17 = .ok (.invokevirtual 44, 3) := by decide +kernel
theorem dX0_add_20 : decode cX0_add 20 = .ok (.aload_n 0, 1) := by decide +kernel
theorem dX0_add_21 : decode cX0_add 21 = .ok (.getfield 20, 3) := by decide +kernel
theorem dX0_add_24 : decode cX0_add 24 = .ok (.aload_n 0, 1) := by decide +kernel
theorem dX0_add_25 : decode cX0_add 25 = .ok (.getfield 32, 3) := by decide +kernel
theorem dX0_add_28 : decode cX0_add 28 = .ok (.iload_n 2, 1) := by decide +kernel
theorem dX0_add_29 : decode cX0_add 29 = .ok (.invokevirtual 44, 3) := by decide +kernel
theorem dX0_add_32 : decode cX0_add 32 = .ok (.aload_n 0, 1) := by decide +kernel
theorem dX0_add_33 : decode cX0_add 33 = .ok (.getfield 23, 3) := by decide +kernel
theorem dX0_add_36 : decode cX0_add 36 = .ok (.aload_n 0, 1) := by decide +kernel
theorem dX0_add_37 : decode cX0_add 37 = .ok (.getfield 32, 3) := by decide +kernel
theorem dX0_add_40 : decode cX0_add 40 = .ok (.iload_n 3, 1) := by decide +kernel
theorem dX0_add_41 : decode cX0_add 41 = .ok (.invokevirtual 44, 3) := by decide +kernel
theorem dX0_add_44 : decode cX0_add 44 = .ok (.aload_n 0, 1) := by decide +kernel
theorem dX0_add_45 : decode cX0_add 45 = .ok (.getfield 26, 3) := by decide +kernel
theorem dX0_add_48 : decode cX0_add 48 = .ok (.aload_n 0, 1) := by decide +kernel
theorem dX0_add_49 : decode cX0_add 49 = .ok (.getfield 32, 3) := by decide +kernel
theorem dX0_add_52 : decode cX0_add 52 = .ok (.iload 4, 2) := by decide +kernel
theorem dX0_add_54 : decode cX0_add 54 = .ok (.invokevirtual 44, 3) := by decide +kernel
theorem dX0_add_57 : decode cX0_add 57 = .ok (.aload_n 0, 1) := by decide +kernel
theorem dX0_add_58 : decode cX0_add 58 = .ok (.getfield 29, 3) := by decide +kernel
theorem dX0_add_61 : decode cX0_add 61 = .ok (.aload_n 0, 1) := by decide +kernel
theorem dX0_add_62 : decode cX0_add 62 = .ok (.getfield 32, 3) := by decide +kernel
theorem dX0_add_65 : decode cX0_add 65 = .ok (.iload 5, 2) := by decide +kernel
theorem dX0_add_67 : decode cX0_add 67 = .ok (.invokevirtual 44, 3) := by decide +kernel
theorem dX0_add_70 : decode cX0_add 70 = .ok (.aload_n 0, 1) := by decide +kernel
theorem dX0_add_71 : decode cX0_add 71 = .ok (.dup, 1) := by decide +kernel
theorem dX0_add_72 : decode cX0_add 72 = .ok (.getfield 32, 3) := by decide +kernel
theorem dX0_add_75 : decode cX0_add 75 = .ok (.iconst 1, 1) := by decide +kernel
theorem dX0_add_76 : decode cX0_add 76 = .ok (.iadd, 1) := by decide +kernel
theorem dX0_add_77 : decode cX0_add 77 = .ok (.putfield 32, 3) := by decide +kernel
theorem dX0_add_80 : decode cX0_add 80 = .ok (.return_, 1) := by decide +kernel
theorem dX0_remove_0 : decode cX0_remove 0 = .ok (.iload_n 1, 1) := by decide +kernel
theorem dX0_remove_1 : decode cX0_remove 1 = .ok (.iconst 1, 1) := by decide +kernel
theorem dX0_remove_2 : decode cX0_remove 2 = .ok (.iadd, 1) := by decide +kernel
theorem dX0_remove_3 : decode cX0_remove 3 = .ok (.istore_n 2, 1) := by decide +kernel
theorem dX0_remove_4 : decode cX0_remove 4 = .ok (.iload_n 2, 1) := by decide +kernel
theorem dX0_remove_5 : decode cX0_remove 5 = .ok (.aload_n 0, 1) := by decide +kernel
theorem dX0_remove_6 : decode cX0_remove 6 = .ok (.getfield 32, 3) := by decide +kernel
theorem dX0_remove_9 : decode cX0_remove 9 = .ok (.if_icmp .ge 99, 3) := by decide +kernel
theorem dX0_remove_12 : decode cX0_remove 12 = .ok (.aload_n 0, 1) := by decide +kernel
theorem dX0_remove_13 : decode cX0_remove 13 = .ok (.getfield 14, 3) := by decide +kernel
theorem dX0_remove_16 : decode cX0_remove 16 = .ok (.iload_n 2, 1) := by decide +kernel
theorem dX0_remove_17 : decode cX0_remove 17 = .ok (.iconst 1, 1) := by decide +kernel
theorem dX0_remove_18 : decode cX0_remove 18 = .ok (.isub, 1) := by decide +kernel
theorem dX0_remove_19 : decode cX0_remove 19 = .ok (.aload_n 0, 1) := by decide +kernel
theorem dX0_remove_20 : decode cX0_remove 20 = .ok (.getfield 14, 3) := by decide +kernel
theorem dX0_remove_23 : decode cX0_remove 23 = .ok (.iload_n 2, 1) := by decide +kernel
theorem dX0_remove_24 : decode cX0_remove 24 = .ok (.invokevirtual 48, 3) := by decide +kernel
theorem dX0_remove_27 : decode cX0_remove 27 = .ok (.invokevirtual 44, 3) := by decide +kernel
theorem dX0_remove_30 : decode cX0_remove 30 = .ok (.aload_n 0, 1) := by decide +kernel
theorem dX0_remove_31 : decode cX0_remove 31 = .ok (.getfield 20, 3) := by decide +kernel
theorem dX0_remove_34 : decode cX0_remove 34 = .ok (.iload_n 2, 1) := by decide +kernel
theorem dX0_remove_35 : decode cX0_remove 35 = .ok (.iconst 1, 1) := by decide +kernel
theorem dX0_remove_36 : decode cX0_remove 36 = .ok (.isub, 1) := by decide +kernel
theorem dX0_remove_37 : decode cX0_remove 37 = .ok (.aload_n 0, 1) := by decide +kernel
theorem dX0_remove_38 : decode cX0_remove 38 = .ok (.getfield 20, 3) := by decide +kernel
theorem dX0_remove_41 : decode cX0_remove 41 = .ok (.iload_n 2, 1) := by decide +kernel
theorem dX0_remove_42 : decode cX0_remove 42 = .ok (.invokevirtual 48, 3) := by decide +kernel
theorem dX0_remove_45 : decode cX0_remove 45 = .ok (.invokevirtual 44, 3) := by decide +kernel
theorem dX0_remove_48 : decode cX0_remove 48 = .ok (.aload_n 0, 1) := by decide +kernel
theorem dX0_remove_49 : decode cX0_remove 49 = .ok (.getfield 23, 3) := by decide +kernel
theorem dX0_remove_52 : decode cX0_remove 52 = .ok (.iload_n 2, 1) := by decide +kernel
theorem dX0_remove_53 : decode cX0_remove 53 = .ok (.iconst 1, 1) := by decide +kernel
theorem dX0_remove_54 : decode cX0_remove 54 = .ok (.isub, 1) := by decide +kernel
theorem dX0_remove_55 : decode cX0_remove 55 = .ok (.aload_n 0, 1) := by decide +kernel
theorem dX0_remove_56 : decode cX0_remove 56 = .ok (.getfield 23, 3) := by decide +kernel
theorem dX0_remove_59 : decode cX0_remove 59 = .ok (.iload_n 2, 1) := by decide +kernel
theorem dX0_remove_60 : decode cX0_remove 60 = .ok (.invokevirtual 48, 3) := by decide +kernel
theorem dX0_remove_63 : decode cX0_remove 63 = .ok (.invokevirtual 44, 3) := by decide +kernel
theorem dX0_remove_66 : decode cX0_remove 66 = .ok (.aload_n 0, 1) := by decide +kernel
theorem dX0_remove_67 : decode cX0_remove 67 = .ok (.getfield 26, 3) := by decide +kernel
theorem dX0_remove_70 : decode cX0_remove 70 = .ok (.iload_n 2, 1) := by decide +kernel
theorem dX0_remove_71 : decode cX0_remove 71 = .ok (.iconst 1, 1) := by decide +kernel
theorem dX0_remove_72 : decode cX0_remove 72 = .ok (.isub, 1) := by decide +kernel
theorem dX0_remove_73 : decode cX0_remove 73 = .ok (.aload_n 0, 1) := by decide +kernel
theorem dX0_remove_74 : decode cX0_remove 74 = .ok (.getfield 26, 3) := by decide +kernel
theorem dX0_remove_77 : decode cX0_remove 77 = .ok (.iload_n 2, 1) := by decide +kernel
theorem dX0_remove_78 : decode cX0_remove 78 = .ok (.invokevirtual 48, 3) := by decide +kernel
theorem dX0_remove_81 : decode cX0_remove 81 = .ok (.invokevirtual 44, 3) := by decide +kernel
theorem dX0_remove_84 : decode cX0_remove 84 = .ok (.aload_n 0, 1) := by decide +kernel
theorem dX0_remove_85 : decode cX0_remove 85 = .ok (.getfield 29, 3) := by decide +kernel
theorem dX0_remove_88 : decode cX0_remove 88 = .ok (.iload_n 2, 1) := by decide +kernel
theorem dX0_remove_89 : decode cX0_remove 89 = .ok (.iconst 1, 1) := by decide +kernel
theorem dX0_remove_90 : decode cX0_remove 90 = .ok (.isub, 1) := by decide +kernel
theorem dX0_remove_91 : decode cX0_remove 91 = .ok (.aload_n 0, 1) := by decide +kernel
theorem dX0_remove_92 : decode cX0_remove 92 = .ok (.getfield 29, 3) := by decide +kernel
theorem dX0_remove_95 : decode cX0_remove 95 = .ok (.iload_n 2, 1) := by decide +kernel
theorem dX0_remove_96 : decode cX0_remove 96 = .ok (.invokevirtual 48, 3) := by decide +kernel
theorem dX0_remove_99 : decode cX0_remove 99 = .ok (.invokevirtual 44, 3) := by decide +kernel
theorem dX0_remove_102 : decode cX0_remove 102 = .ok (.iinc 2 1, 3) := by decide +kernel
theorem dX0_remove_105 : decode cX0_remove 105 = .ok (.goto (-101), 3) := by decide +kernel
theorem dX0_remove_108 : decode cX0_remove 108 = .ok (.aload_n 0, 1) := by decide +kernel
theorem dX0_remove_109 : decode cX0_remove 109 = .ok (.dup, 1) := by decide +kernel
theorem dX0_remove_110 : decode cX0_remove 110 = .ok (.getfield 32, 3) := by decide +kernel
theorem dX0_remove_113 : decode cX0_remove 113 = .ok (.iconst 1, 1) := by decide +kernel
theorem dX0_remove_114 : decode cX0_remove 114 = .ok (.isub, 1) := by decide +kernel
theorem dX0_remove_115 : decode cX0_remove 115 = .ok (.putfield 32, 3) := by decide +kernel
theorem dX0_remove_118 : decode cX0_remove 118 = .ok (.return_, 1) := by decide +kernel
theorem dX0_countOf_0 : decode cX0_countOf 0 = .ok (.iconst 0, 1) := by decide +kernel
theorem dX0_countOf_1 : decode cX0_countOf 1 = .ok (.istore_n 2, 1) := by decide +kernel
theorem dX0_countOf_2 : decode cX0_countOf 2 = .ok (.iconst 0, 1) := by decide +kernel
theorem dX0_countOf_3 : decode cX0_countOf 3 = .ok (.istore_n 3, 1) := by decide +kernel
theorem dX0_countOf_4 : decode cX0_countOf 4 = .ok (.iload_n 3, 1) := by decide +kernel
theorem dX0_countOf_5 : decode cX0_countOf 5 = .ok (.aload_n 0, 1) := by decide +kernel
theorem dX0_countOf_6 : decode cX0_countOf 6 = .ok (.getfield 32, 3) := by decide +kernel
theorem dX0_countOf_9 : decode cX0_countOf 9 = .ok (.if_icmp .ge 24, 3) := by decide +kernel
theorem dX0_countOf_12 : decode cX0_countOf 12 = .ok (.aload_n 0, 1) := by decide +kernel
theorem dX0_countOf_13 : decode cX0_countOf 13 = .ok (.getfield 14, 3) := by decide +kernel
theorem dX0_countOf_16 : decode cX0_countOf 16 = .ok (.iload_n 3, 1) := by decide +kernel
theorem dX0_countOf_17 : decode cX0_countOf 17 = .ok (.invokevirtual 48, 3) := by decide +kernel
theorem dX0_countOf_20 : decode cX0_countOf 20 = .ok (.iload_n 1, 1) := by decide +kernel
theorem dX0_countOf_21 : decode cX0_countOf 21 = .ok (.if_icmp .ne 6, 3) := by decide +kernel
theorem dX0_countOf_24 : decode cX0_countOf 24 = .ok (.iinc 2 1, 3) := by decide +kernel
theorem dX0_countOf_27 : decode cX0_countOf 27 = .ok (.iinc 3 1, 3) := by decide +kernel
theorem dX0_countOf_30 : decode cX0_countOf 30 = .ok (.goto (-26), 3) := by decide +kernel
theorem dX0_countOf_33 : decode cX0_countOf 33 = .ok (.iload_n 2, 1) := by decide +kernel
theorem dX0_countOf_34 : decode cX0_countOf 34 = .ok (.ireturn, 1) := by decide +kernel
theorem dX0_pairsOf_0 : decode cX0_pairsOf 0 = .ok (.iconst 0, 1) := by decide +kernel
theorem dX0_pairsOf_1 : decode cX0_pairsOf 1 = .ok (.istore_n 3, 1) := by decide +kernel
theorem dX0_pairsOf_2 : decode cX0_pairsOf 2 = .ok (.iconst 0, 1) := by decide +kernel
theorem dX0_pairsOf_3 : decode cX0_pairsOf 3 = .ok (.istore 4, 2) := by decide +kernel
theorem dX0_pairsOf_5 : decode cX0_pairsOf 5 = .ok (.iload 4, 2) := by decide +kernel
theorem dX0_pairsOf_7 : decode cX0_pairsOf 7 = .ok (.aload_n 0, 1) := by decide +kernel
theorem dX0_pairsOf_8 : decode cX0_pairsOf 8 = .ok (.getfield 32, 3) := by decide +kernel
theorem dX0_pairsOf_11 : decode cX0_pairsOf 11 = .ok (.if_icmp .ge 70, 3) := by decide +kernel
theorem dX0_pairsOf_14 : decode cX0_pairsOf 14 = .ok (.iload 4, 2) := by decide +kernel
theorem dX0_pairsOf_16 : decode cX0_pairsOf 16 = .ok (.iconst 1, 1) := by decide +kernel
theorem dX0_pairsOf_17 : decode cX0_pairsOf 17 = .ok (.iadd, 1) := by decide +kernel
theorem dX0_pairsOf_18 : decode cX0_pairsOf 18 = .ok (.istore 5, 2) := by decide +kernel
theorem dX0_pairsOf_20 : decode cX0_pairsOf 20 = .ok (.iload 5, 2) := by decide +kernel
theorem dX0_pairsOf_22 : decode cX0_pairsOf 22 = .ok (.aload_n 0, 1) := by decide +kernel
theorem dX0_pairsOf_23 : decode cX0_pairsOf 23 = .ok (.getfield 32, 3) := by decide +kernel
theorem dX0_pairsOf_26 : decode cX0_pairsOf 26 = .ok (.if_icmp .ge 49, 3) := by decide +kernel
theorem dX0_pairsOf_29 : decode cX0_pairsOf 29 = .ok (.aload_n 0, 1) := by decide +kernel
theorem dX0_pairsOf_30 : decode cX0_pairsOf 30 = .ok (.getfield 14, 3) := by decide +kernel
theorem dX0_pairsOf_33 : decode cX0_pairsOf 33 = .ok (.iload 4, 2) := by decide +kernel
theorem dX0_pairsOf_35 : decode cX0_pairsOf 35 = .ok (.invokevirtual 48, 3) := by decide +kernel
theorem dX0_pairsOf_38 : decode cX0_pairsOf 38 = .ok (.aload_n 0, 1) := by decide +kernel
theorem dX0_pairsOf_39 : decode cX0_pairsOf 39 = .ok (.getfield 14, 3) := by decide +kernel
theorem dX0_pairsOf_42 : decode cX0_pairsOf 42 = .ok (.iload 5, 2) := by decide +kernel
theorem dX0_pairsOf_44 : decode cX0_pairsOf 44 = .ok (.invokevirtual 48, 3) := by decide +kernel
theorem dX0_pairsOf_47 : decode cX0_pairsOf 47 = .ok (.iload_n 1, 1) := by decide +kernel
theorem dX0_pairsOf_48 : decode cX0_pairsOf 48 = .ok (.iload_n 2, 1) := by decide +kernel
theorem dX0_pairsOf_49 : decode cX0_pairsOf 49 = .ok (.invokestatic 52, 3) := by decide +kernel
theorem dX0_pairsOf_52 : decode cX0_pairsOf 52 = .ok (.ifCond .eq 17, 3) := by decide +kernel
theorem dX0_pairsOf_55 : decode cX0_pairsOf 55 = .ok (.aload_n 0, 1) := by decide +kernel
theorem dX0_pairsOf_56 : decode cX0_pairsOf 56 = .ok (.iload 4, 2) := by decide +kernel
theorem dX0_pairsOf_58 : decode cX0_pairsOf 58 = .ok (.iload 5, 2) := by decide +kernel
theorem dX0_pairsOf_60 : decode cX0_pairsOf 60 = .ok (.invokevirtual 56, 3) := by decide +kernel
theorem dX0_pairsOf_63 : decode cX0_pairsOf 63 = .ok (.ifCond .eq 6, 3) := by decide +kernel
theorem dX0_pairsOf_66 : decode cX0_pairsOf 66 = .ok (.iinc 3 1, 3) := by decide +kernel
theorem dX0_pairsOf_69 : decode cX0_pairsOf 69 = .ok (.iinc 5 1, 3) := by decide +kernel
theorem dX0_pairsOf_72 : decode cX0_pairsOf 72 = .ok (.goto (-52), 3) := by decide +kernel
theorem dX0_pairsOf_75 : decode cX0_pairsOf 75 = .ok (.iinc 4 1, 3) := by decide +kernel
theorem dX0_pairsOf_78 : decode cX0_pairsOf 78 = .ok (.goto (-73), 3) := by decide +kernel
theorem dX0_pairsOf_81 : decode cX0_pairsOf 81 = .ok (.iload_n 3, 1) := by decide +kernel
theorem dX0_pairsOf_82 : decode cX0_pairsOf 82 = .ok (.ireturn, 1) := by decide +kernel
theorem dX0_isPairOf_0 : decode cX0_isPairOf 0 = .ok (.iload_n 0, 1) := by decide +kernel
theorem dX0_isPairOf_1 : decode cX0_isPairOf 1 = .ok (.iload_n 2, 1) := by decide +kernel
theorem dX0_isPairOf_2 : decode cX0_isPairOf 2 = .ok (.if_icmp .ne 8, 3) := by decide +kernel
theorem dX0_isPairOf_5 : decode cX0_isPairOf 5 = .ok (.iload_n 1, 1) := by decide +kernel
theorem dX0_isPairOf_6 : decode cX0_isPairOf 6 = .ok (.iload_n 3, 1) := by decide +kernel
theorem dX0_isPairOf_7 : decode cX0_isPairOf 7 = .ok (.if_icmp .eq 13, 3) := by decide +kernel
theorem dX0_isPairOf_10 : decode cX0_isPairOf 10 = .ok (.iload_n 0, 1) := by decide +kernel
theorem dX0_isPairOf_11 : decode cX0_isPairOf 11 = .ok (.iload_n 3, 1) := by decide +kernel
theorem dX0_isPairOf_12 : decode cX0_isPairOf 12 = .ok (.if_icmp .ne 12, 3) := by decide +kernel
theorem dX0_isPairOf_15 : decode cX0_isPairOf 15 = .ok (.iload_n 1, 1) := by decide +kernel
theorem dX0_isPairOf_16 : decode cX0_isPairOf 16 = .ok (.iload_n 2, 1) := by decide +kernel
theorem dX0_isPairOf_17 : decode cX0_isPairOf 17 = .ok (.if_icmp .ne 7, 3) := by decide +kernel
theorem dX0_isPairOf_20 : decode cX0_isPairOf 20 = .ok (.iconst 1, 1) := by decide +kernel
theorem dX0_isPairOf_21 : decode cX0_isPairOf 21 = .ok (.goto 4, 3) := by decide +kernel
theorem dX0_isPairOf_24 : decode cX0_isPairOf 24 = .ok (.iconst 0, 1) := by decide +kernel
theorem dX0_isPairOf_25 : decode cX0_isPairOf 25 = .ok (.ireturn, 1) := by decide +kernel
theorem dX0_contradict_0 : decode cX0_contradict 0 = .ok (.aload_n 0, 1) := by decide +kernel
theorem dX0_contradict_1 : decode cX0_contradict 1 = .ok (.getfield 20, 3) := by decide +kernel
theorem dX0_contradict_4 : decode cX0_contradict 4 = .ok (.iload_n 1, 1) := by decide +kernel
theorem dX0_contradict_5 : decode cX0_contradict 5 = .ok (.invokevirtual 48, 3) := by decide +kernel
theorem dX0_contradict_8 : decode cX0_contradict 8 = .ok (.istore_n 3, 1) := by decide +kernel
theorem dX0_contradict_9 : decode cX0_contradict 9 = .ok (.aload_n 0, 1) := by decide +kernel
theorem dX0_contradict_10 : decode cX0_contradict 10 = .ok (.getfield 20, 3) := by decide +kernel
theorem dX0_contradict_13 : decode cX0_contradict 13 = .ok (.iload_n 2, 1) := by decide +kernel
theorem dX0_contradict_14 : decode cX0_contradict 14 = .ok (.invokevirtual 48, 3) := by decide +kernel
theorem dX0_contradict_17 : decode cX0_contradict 17 = .ok (.istore 4, 2) := by decide +kernel
theorem dX0_contradict_19 : decode cX0_contradict 19 = .ok (.iload_n 3, 1) := by decide +kernel
theorem dX0_contradict_20 : decode cX0_contradict 20 = .ok (.ifCond .ne 71, 3) := by decide +kernel
theorem dX0_contradict_23 : decode cX0_contradict 23 = .ok (.iload 4, 2) := by decide +kernel
theorem dX0_contradict_25 : decode cX0_contradict 25 = .ok (.ifCond .ne 66, 3) := by decide +kernel
theorem dX0_contradict_28 : decode cX0_contradict 28 = .ok (.aload_n 0, 1) := by decide +kernel
theorem dX0_contradict_29 : decode cX0_contradict 29 = .ok (.getfield 23, 3) := by decide +kernel
theorem dX0_contradict_32 : decode cX0_contradict 32 = .ok (.iload_n 1, 1) := by decide +kernel
theorem dX0_contradict_33 : decode cX0_contradict 33 = .ok (.invokevirtual 48, 3) := by decide +kernel
theorem dX0_contradict_36 : decode cX0_contradict 36 = .ok (.aload_n 0, 1) := by decide +kernel
theorem dX0_contradict_37 : decode cX0_contradict 37 = .ok (.getfield 23, 3) := by decide +kernel
theorem dX0_contradict_40 : decode cX0_contradict 40 = .ok (.iload_n 2, 1) := by decide +kernel
theorem dX0_contradict_41 : decode cX0_contradict 41 = .ok (.invokevirtual 48, 3) := by decide +kernel
theorem dX0_contradict_44 : decode cX0_contradict 44 = .ok (.if_icmp .ne 45, 3) := by decide +kernel
theorem dX0_contradict_47 : decode cX0_contradict 47 = .ok (.aload_n 0, 1) := by decide +kernel
theorem dX0_contradict_48 : decode cX0_contradict 48 = .ok (.getfield 29, 3) := by decide +kernel
theorem dX0_contradict_51 : decode cX0_contradict 51 = .ok (.iload_n 1, 1) := by decide +kernel
theorem dX0_contradict_52 : decode cX0_contradict 52 = .ok (.invokevirtual 48, 3) := by decide +kernel
theorem dX0_contradict_55 : decode cX0_contradict 55 = .ok (.aload_n 0, 1) := by decide +kernel
theorem dX0_contradict_56 : decode cX0_contradict 56 = .ok (.getfield 26, 3) := by decide +kernel
theorem dX0_contradict_59 : decode cX0_contradict 59 = .ok (.iload_n 2, 1) := by decide +kernel
theorem dX0_contradict_60 : decode cX0_contradict 60 = .ok (.invokevirtual 48, 3) := by decide +kernel
theorem dX0_contradict_63 : decode cX0_contradict 63 = .ok (.if_icmp .lt 22, 3) := by decide +kernel
theorem dX0_contradict_66 : decode cX0_contradict 66 = .ok (.aload_n 0, 1) := by decide +kernel
theorem dX0_contradict_67 : decode cX0_contradict 67 = .ok (.getfield 29, 3) := by decide +kernel
theorem dX0_contradict_70 : decode cX0_contradict 70 = .ok (.iload_n 2, 1) := by decide +kernel
theorem dX0_contradict_71 : decode cX0_contradict 71 = .ok (.invokevirtual 48, 3) := by decide +kernel
theorem dX0_contradict_74 : decode cX0_contradict 74 = .ok (.aload_n 0, 1) := by decide +kernel
theorem dX0_contradict_75 : decode cX0_contradict 75 = .ok (.getfield 26, 3) := by decide +kernel
theorem dX0_contradict_78 : decode cX0_contradict 78 = .ok (.iload_n 1, 1) := by decide +kernel
theorem dX0_contradict_79 : decode cX0_contradict 79 = .ok (.invokevirtual 48, 3) := by decide +kernel
theorem dX0_contradict_82 : decode cX0_contradict 82 = .ok (.if_icmp .ge 7, 3) := by decide +kernel
theorem dX0_contradict_85 : decode cX0_contradict 85 = .ok (.iconst 1, 1) := by decide +kernel
theorem dX0_contradict_86 : decode cX0_contradict 86 = .ok (.goto 4, 3) := by decide +kernel
theorem dX0_contradict_89 : decode cX0_contradict 89 = .ok (.iconst 0, 1) := by decide +kernel
theorem dX0_contradict_90 : decode cX0_contradict 90 = .ok (.ireturn, 1) := by decide +kernel
theorem dX0_contradict_91 : decode cX0_contradict 91 = .ok (.iload_n 3, 1) := by decide +kernel
theorem dX0_contradict_92 : decode cX0_contradict 92 = .ok (.ifCond .eq 8, 3) := by decide +kernel
theorem dX0_contradict_95 : decode cX0_contradict 95 = .ok (.iload 4, 2) := by decide +kernel
theorem dX0_contradict_97 : decode cX0_contradict 97 = .ok (.ifCond .ne 5, 3) := by decide +kernel
theorem dX0_contradict_100 : decode cX0_contradict 100 = .ok (.iconst 0, 1) := by decide +kernel
theorem dX0_contradict_101 : decode cX0_contradict 101 = .ok (.ireturn, 1) := by decide +kernel
theorem dX0_contradict_102 : decode cX0_contradict 102 = .ok (.aload_n 0, 1) := by decide +kernel
theorem dX0_contradict_103 : decode cX0_contradict 103 = .ok (.getfield 23, 3) := by decide +kernel
theorem dX0_contradict_106 : decode cX0_contradict 106 = .ok (.iload_n 1, 1) := by decide +kernel
theorem dX0_contradict_107 : decode cX0_contradict 107 = .ok (.invokevirtual 48, 3) := by decide +kernel
theorem dX0_contradict_110 : decode cX0_contradict 110 = .ok (.aload_n 0, 1) := by decide +kernel
theorem dX0_contradict_111 : decode cX0_contradict 111 = .ok (.getfield 26, 3) := by decide +kernel
theorem dX0_contradict_114 : decode cX0_contradict 114 = .ok (.iload_n 2, 1) := by decide +kernel
theorem dX0_contradict_115 : decode cX0_contradict 115 = .ok (.invokevirtual 48, 3) := by decide +kernel
theorem dX0_contradict_118 : decode cX0_contradict 118 = .ok (.if_icmp .ne 26, 3) := by decide +kernel
theorem dX0_contradict_121 : decode cX0_contradict 121 = .ok (.aload_n 0, 1) := by decide +kernel
theorem dX0_contradict_122 : decode cX0_contradict 122 = .ok (.getfield 26, 3) := by decide +kernel
theorem dX0_contradict_125 : decode cX0_contradict 125 = .ok (.iload_n 1, 1) := by decide +kernel
theorem dX0_contradict_126 : decode cX0_contradict 126 = .ok (.invokevirtual 48, 3) := by decide +kernel
theorem dX0_contradict_129 : decode cX0_contradict 129 = .ok (.aload_n 0, 1) := by decide +kernel
theorem dX0_contradict_130 : decode cX0_contradict 130 = .ok (.getfield 23, 3) := by decide +kernel
theorem dX0_contradict_133 : decode cX0_contradict 133 = .ok (.iload_n 2, 1) := by decide +kernel
theorem dX0_contradict_134 : decode cX0_contradict 134 = .ok (.invokevirtual 48, 3) := by decide +kernel
theorem dX0_contradict_137 : decode cX0_contradict 137 = .ok (.if_icmp .ne 7, 3) := by decide +kernel
theorem dX0_contradict_140 : decode cX0_contradict 140 = .ok (.iconst 1, 1) := by decide +kernel
theorem dX0_contradict_141 : decode cX0_contradict 141 = .ok (.goto 4, 3) := by decide +kernel
theorem dX0_contradict_144 : decode cX0_contradict 144 = .ok (.iconst 0, 1) := by decide +kernel
theorem dX0_contradict_145 : decode cX0_contradict 145 = .ok (.istore 5, 2) := by decide +kernel
theorem dX0_contradict_147 : decode cX0_contradict 147 = .ok (.aload_n 0, 1) := by decide +kernel
theorem dX0_contradict_148 : decode cX0_contradict 148 = .ok (.getfield 23, 3) := by decide +kernel
theorem dX0_contradict_151 : decode cX0_contradict 151 = .ok (.iload_n 1, 1) := by decide +kernel
theorem dX0_contradict_152 : decode cX0_contradict 152 = .ok (.invokevirtual 48, 3) := by decide +kernel
theorem dX0_contradict_155 : decode cX0_contradict 155 = .ok (.aload_n 0, 1) := by decide +kernel
theorem dX0_contradict_156 : decode cX0_contradict 156 = .ok (.getfield 23, 3) := by decide +kernel
theorem dX0_contradict_159 : decode cX0_contradict 159 = .ok (.iload_n 2, 1) := by decide +kernel
theorem dX0_contradict_160 : decode cX0_contradict 160 = .ok (.invokevirtual 48, 3) := by decide +kernel
theorem dX0_contradict_163 : decode cX0_contradict 163 = .ok (.if_icmp .ne 26, 3) := by decide +kernel
theorem dX0_contradict_166 : decode cX0_contradict 166 = .ok (.aload_n 0, 1) := by decide +kernel
theorem dX0_contradict_167 : decode cX0_contradict 167 = .ok (.getfield 26, 3) := by decide +kernel
theorem dX0_contradict_170 : decode cX0_contradict 170 = .ok (.iload_n 1, 1) := by decide +kernel
theorem dX0_contradict_171 : decode cX0_contradict 171 = .ok (.invokevirtual 48, 3) := by decide +kernel
theorem dX0_contradict_174 : decode cX0_contradict 174 = .ok (.aload_n 0, 1) := by decide +kernel
theorem dX0_contradict_175 : decode cX0_contradict 175 = .ok (.getfield 26, 3) := by decide +kernel
theorem dX0_contradict_178 : decode cX0_contradict 178 = .ok (.iload_n 2, 1) := by decide +kernel
theorem dX0_contradict_179 : decode cX0_contradict 179 = .ok (.invokevirtual 48, 3) := by decide +kernel
theorem dX0_contradict_182 : decode cX0_contradict 182 = .ok (.if_icmp .ne 7, 3) := by decide +kernel
theorem dX0_contradict_185 : decode cX0_contradict 185 = .ok (.iconst 1, 1) := by decide +kernel
theorem dX0_contradict_186 : decode cX0_contradict 186 = .ok (.goto 4, 3) := by decide +kernel
theorem dX0_contradict_189 : decode cX0_contradict 189 = .ok (.iconst 0, 1) := by decide +kernel
theorem dX0_contradict_190 : decode cX0_contradict 190 = .ok (.istore 6, 2) := by decide +kernel
theorem dX0_contradict_192 : decode cX0_contradict 192 = .ok (.iload_n 3, 1) := by decide +kernel
theorem dX0_contradict_193 : decode cX0_contradict 193 = .ok (.iconst 1, 1) := by decide +kernel
theorem dX0_contradict_194 : decode cX0_contradict 194 = .ok (.if_icmp .ne 12, 3) := by decide +kernel
theorem dX0_contradict_197 : decode cX0_contradict 197 = .ok (.iload 4, 2) := by decide +kernel
theorem dX0_contradict_199 : decode cX0_contradict 199 = .ok (.iconst 1, 1) := by decide +kernel
theorem dX0_contradict_200 : decode cX0_contradict 200 = .ok (.if_icmp .ne 6, 3) := by decide +kernel
theorem dX0_contradict_203 : decode cX0_contradict 203 = .ok (.iload 5, 2) := by decide +kernel
theorem dX0_contradict_205 : decode cX0_contradict 205 = .ok (.ireturn, 1) := by decide +kernel
theorem dX0_contradict_206 : decode cX0_contradict 206 = .ok (.iload_n 3, 1) := by decide +kernel
theorem dX0_contradict_207 : decode cX0_contradict 207 = .ok (.iload 4, 2) := by decide +kernel
theorem dX0_contradict_209 : decode cX0_contradict 209 = .ok (.if_icmp .eq 17, 3) := by decide +kernel
theorem dX0_contradict_212 : decode cX0_contradict 212 = .ok (.iload 5, 2) := by decide +kernel
theorem dX0_contradict_214 : decode cX0_contradict 214 = .ok (.ifCond .ne 8, 3) := by decide +kernel
theorem dX0_contradict_217 : decode cX0_contradict 217 = .ok (.iload 6, 2) := by decide +kernel
theorem dX0_contradict_219 : decode cX0_contradict 219 = .ok (.ifCond .eq 7, 3) := by decide +kernel
theorem dX0_contradict_222 : decode cX0_contradict 222 = .ok (.iconst 1, 1) := by decide +kernel
theorem dX0_contradict_223 : decode cX0_contradict 223 = .ok (.goto 4, 3) := by decide +kernel
theorem dX0_contradict_226 : decode cX0_contradict 226 = .ok (.iconst 0, 1) := by decide +kernel
theorem dX0_contradict_227 : decode cX0_contradict 227 = .ok (.ireturn, 1) := by decide +kernel
theorem dX1_init_0 : decode cX1_init 0 = .ok (.aload_n 0, 1) := by decide +kernel
theorem dX1_init_1 : decode cX1_init 1 = .ok (.invokespecial 3, 3) := by decide +kernel
theorem dX1_init_4 : decode cX1_init 4 = .ok (.aload_n 0, 1) := by decide +kernel
theorem dX1_init_5 : decode cX1_init 5 = .ok (.aload_n 1, 1) := by decide +kernel
theorem dX1_init_6 : decode cX1_init 6 = .ok (.putfield 9, 3) := by decide +kernel
theorem dX1_init_9 : decode cX1_init 9 = .ok (.aload_n 0, 1) := by decide +kernel
theorem dX1_init_10 : decode cX1_init 10 = .ok (.aload_n 2, 1) := by decide +kernel
theorem dX1_init_11 : decode cX1_init 11 = .ok (.putfield 15, 3) := by decide +kernel
theorem dX1_init_14 : decode cX1_init 14 = .ok (.aload_n 0, 1) := by decide +kernel
theorem dX1_init_15 : decode cX1_init 15 = .ok (.new 19, 3) := by decide +kernel
theorem dX1_init_18 : decode cX1_init 18 = .ok (.dup, 1) := by decide +kernel
theorem dX1_init_19 : decode cX1_init 19 = .ok (.sipush 400, 3) := by decide +kernel
theorem dX1_init_22 : decode cX1_init 22 = .ok (.invokespecial 21, 3) := by decide +kernel
theorem dX1_init_25 : decode cX1_init 25 = .ok (.putfield 24, 3) := by decide +kernel
theorem dX1_init_28 : decode cX1_init 28 = .ok (.return_, 1) := by decide +kernel
theorem dX1_restart_0 : decode cX1_restart 0 = .ok (.aload_n 0, 1) := by decide +kernel
theorem dX1_restart_1 : decode cX1_restart 1 = .ok (.iconst 0, 1) := by decide +kernel
theorem dX1_restart_2 : decode cX1_restart 2 = .ok (.putfield 28, 3) := by decide +kernel
theorem dX1_restart_5 : decode cX1_restart 5 = .ok (.aload_n 0, 1) := by decide +kernel
theorem dX1_restart_6 : decode cX1_restart 6 = .ok (.iconst 0, 1) := by decide +kernel
theorem dX1_restart_7 : decode cX1_restart 7 = .ok (.putfield 32, 3) := by decide +kernel
theorem dX1_restart_10 : decode cX1_restart 10 = .ok (.aload_n 0, 1) := by decide +kernel
theorem dX1_restart_11 : decode cX1_restart 11 = .ok (.iconst 0, 1) := by decide +kernel
theorem dX1_restart_12 : decode cX1_restart 12 = .ok (.putfield 35, 3) := by decide +kernel
theorem dX1_restart_15 : decode cX1_restart 15 = .ok (.return_, 1) := by decide +kernel
theorem dX1_copyFrom_0 : decode cX1_copyFrom 0 = .ok (.aload_n 0, 1) := by decide +kernel
theorem dX1_copyFrom_1 : decode cX1_copyFrom 1 = .ok (.aload_n 1, 1) := by decide +kernel
theorem dX1_copyFrom_2 : decode cX1_copyFrom 2 = .ok (.getfield 28, 3) := by decide +kernel
theorem dX1_copyFrom_5 : decode cX1_copyFrom 5 = .ok (.putfield 28, 3) := by decide +kernel
theorem dX1_copyFrom_8 : decode cX1_copyFrom 8 = .ok (.aload_n 0, 1) := by decide +kernel
theorem dX1_copyFrom_9 : decode cX1_copyFrom 9 = .ok (.aload_n 1, 1) := by decide +kernel
theorem dX1_copyFrom_10 : decode cX1_copyFrom 10 = .ok (.getfield 32, 3) := by decide +kernel
theorem dX1_copyFrom_13 : decode cX1_copyFrom 13 = .ok (.putfield 32, 3) := by decide +kernel
theorem dX1_copyFrom_16 : decode cX1_copyFrom 16 = .ok (.aload_n 0, 1) := by decide +kernel
theorem dX1_copyFrom_17 : decode cX1_copyFrom 17 = .ok (.aload_n 1, 1) := by decide +kernel
theorem dX1_copyFrom_18 : decode cX1_copyFrom 18 = .ok (.getfield 35, 3) := by decide +kernel
theorem dX1_copyFrom_21 : decode cX1_copyFrom 21 = .ok (.putfield 35, 3) := by decide +kernel
theorem dX1_copyFrom_24 : decode cX1_copyFrom 24 = .ok (.return_, 1) := by decide +kernel
theorem dX1_passOne_0 : decode cX1_passOne 0 = .ok (.iconst 0, 1) := by decide +kernel
theorem dX1_passOne_1 : decode cX1_passOne 1 = .ok (.istore_n 1, 1) := by decide +kernel
theorem dX1_passOne_2 : decode cX1_passOne 2 = .ok (.iload_n 1, 1) := by decide +kernel
theorem dX1_passOne_3 : decode cX1_passOne 3 = .ok (.aload_n 0, 1) := by decide +kernel
theorem dX1_passOne_4 : decode cX1_passOne 4 = .ok (.getfield 9, 3) := by decide +kernel
theorem dX1_passOne_7 : decode cX1_passOne 7 = .ok (.getfield 38, 3) := by decide +kernel
theorem dX1_passOne_10 : decode cX1_passOne 10 = .ok (.getfield 44, 3) := by decide +kernel
theorem dX1_passOne_13 : decode cX1_passOne 13 = .ok (.if_icmp .ge 22, 3) := by decide +kernel
theorem dX1_passOne_16 : decode cX1_passOne 16 = .ok (.aload_n 0, 1) := by decide +kernel
theorem dX1_passOne_17 : decode cX1_passOne 17 = .ok (.iload_n 1, 1) := by decide +kernel
theorem dX1_passOne_18 : decode cX1_passOne 18 = .ok (.invokevirtual 49, 3) := by decide +kernel
theorem dX1_passOne_21 : decode cX1_passOne 21 = .ok (.ifCond .eq 8, 3) := by decide +kernel
theorem dX1_passOne_24 : decode cX1_passOne 24 = .ok (.aload_n 0, 1) := by decide +kernel
theorem dX1_passOne_25 : decode cX1_passOne 25 = .ok (.iload_n 1, 1) := by decide +kernel
theorem dX1_passOne_26 : decode cX1_passOne 26 = .ok (.invokevirtual 53, 3) := by decide +kernel
theorem dX1_passOne_29 : decode cX1_passOne 29 = .ok (.iinc 1 1, 3) := by decide +kernel
theorem dX1_passOne_32 : decode cX1_passOne 32 = .ok (.goto (-30), 3) := by decide +kernel
theorem dX1_passOne_35 : decode cX1_passOne 35 = .ok (.aload_n 0, 1) := by decide +kernel
theorem dX1_passOne_36 : decode cX1_passOne 36 = .ok (.dup, 1) := by decide +kernel
theorem dX1_passOne_37 : decode cX1_passOne 37 = .ok (.getfield 32, 3) := by decide +kernel
theorem dX1_passOne_40 : decode cX1_passOne 40 = .ok (.iconst 1, 1) := by decide +kernel
theorem dX1_passOne_41 : decode cX1_passOne 41 = .ok (.iadd, 1) := by decide +kernel
theorem dX1_passOne_42 : decode cX1_passOne 42 = .ok (.putfield 32, 3) := by decide +kernel
theorem dX1_passOne_45 : decode cX1_passOne 45 = .ok (.return_, 1) := by decide +kernel
theorem dX1_carryOut_0 : decode cX1_carryOut 0 = .ok (.iconst 1, 1) := by decide +kernel
theorem dX1_carryOut_1 : decode cX1_carryOut 1 = .ok (.aload_n 0, 1) := by decide +kernel
theorem dX1_carryOut_2 : decode cX1_carryOut 2 = .ok (.getfield 9, 3) := by decide +kernel
theorem dX1_carryOut_5 : decode cX1_carryOut 5 = .ok (.getfield 38, 3) := by decide +kernel
theorem dX1_carryOut_8 : decode cX1_carryOut 8 = .ok (.getfield 56, 3) := by decide +kernel
theorem dX1_carryOut_11 : decode cX1_carryOut 11 = .ok (.iload_n 1, 1) := by decide +kernel
theorem dX1_carryOut_12 : decode cX1_carryOut 12 = .ok (.invokevirtual 59, 3) := by decide +kernel
theorem dX1_carryOut_15 : decode cX1_carryOut 15 = .ok (.ishl, 1) := by decide +kernel
theorem dX1_carryOut_16 : decode cX1_carryOut 16 = .ok (.istore_n 2, 1) := by decide +kernel
theorem dX1_carryOut_17 : decode cX1_carryOut 17 = .ok (.aload_n 0, 1) := by decide +kernel
theorem dX1_carryOut_18 : decode cX1_carryOut 18 = .ok (.getfield 9, 3) := by decide +kernel
theorem dX1_carryOut_21 : decode cX1_carryOut 21 = .ok (.getfield 38, 3) := by decide +kernel
theorem dX1_carryOut_24 : decode cX1_carryOut 24 = .ok (.getfield 63, 3) := by decide +kernel
theorem dX1_carryOut_27 : decode cX1_carryOut 27 = .ok (.iload_n 1, 1) := by decide +kernel
theorem dX1_carryOut_28 : decode cX1_carryOut 28 = .ok (.invokevirtual 59, 3) := by decide +kernel
theorem dX1_carryOut_31 : decode cX1_carryOut 31 = .ok (.ifCond .eq 12, 3) := by decide +kernel
theorem dX1_carryOut_34 : decode cX1_carryOut 34 = .ok (.aload_n 0, 1) := by decide +kernel
theorem dX1_carryOut_35 : decode cX1_carryOut 35 = .ok (.getfield 28, 3) := by decide +kernel
theorem dX1_carryOut_38 : decode cX1_carryOut 38 = .ok (.iload_n 2, 1) := by decide +kernel
theorem dX1_carryOut_39 : decode cX1_carryOut 39 = .ok (.ior, 1) := by decide +kernel
theorem dX1_carryOut_40 : decode cX1_carryOut 40 = .ok (.goto 11, 3) := by decide +kernel
theorem dX1_carryOut_43 : decode cX1_carryOut 43 = .ok (.aload_n 0, 1) := by decide +kernel
theorem dX1_carryOut_44 : decode cX1_carryOut 44 = .ok (.getfield 28, 3) := by decide +kernel
theorem dX1_carryOut_47 : decode cX1_carryOut 47 = .ok (.iload_n 2, 1) := by decide +kernel
theorem dX1_carryOut_48 : decode cX1_carryOut 48 = .ok (.iconst (-1), 1) := by decide +kernel
theorem dX1_carryOut_49 : decode cX1_carryOut 49 = .ok (.ixor, 1) := by decide +kernel
theorem dX1_carryOut_50 : decode cX1_carryOut 50 = .ok (.iand, 1) := by decide +kernel
theorem dX1_carryOut_51 : decode cX1_carryOut 51 = .ok (.istore_n 3, 1) := by decide +kernel
theorem dX1_carryOut_52 : decode cX1_carryOut 52 = .ok (.iload_n 3, 1) := by decide +kernel
theorem dX1_carryOut_53 : decode cX1_carryOut 53 = .ok (.aload_n 0, 1) := by decide +kernel
theorem dX1_carryOut_54 : decode cX1_carryOut 54 = .ok (.getfield 28, 3) := by decide +kernel
theorem dX1_carryOut_57 : decode cX1_carryOut 57 = .ok (.if_icmp .eq 18, 3) := by decide +kernel
theorem dX1_carryOut_60 : decode cX1_carryOut 60 = .ok (.aload_n 0, 1) := by decide +kernel
theorem dX1_carryOut_61 : decode cX1_carryOut 61 = .ok (.iload_n 3, 1) := by decide +kernel
theorem dX1_carryOut_62 : decode cX1_carryOut 62 = .ok (.putfield 28, 3) := by decide +kernel
theorem dX1_carryOut_65 : decode cX1_carryOut 65 = .ok (.aload_n 0, 1) := by decide +kernel
theorem dX1_carryOut_66 : decode cX1_carryOut 66 = .ok (.dup, 1) := by decide +kernel
theorem dX1_carryOut_67 : decode cX1_carryOut 67 = .ok (.getfield 35, 3) := by decide +kernel
theorem dX1_carryOut_70 : decode cX1_carryOut 70 = .ok (.iconst 1, 1) := by decide +kernel
theorem dX1_carryOut_71 : decode cX1_carryOut 71 = .ok (.iadd, 1) := by decide +kernel
theorem dX1_carryOut_72 : decode cX1_carryOut 72 = .ok (.putfield 35, 3) := by decide +kernel
theorem dX1_carryOut_75 : decode cX1_carryOut 75 = .ok (.return_, 1) := by decide +kernel
theorem dX1_holds_0 : decode cX1_holds 0 = .ok (.aload_n 0, 1) := by decide +kernel
theorem dX1_holds_1 : decode cX1_holds 1 = .ok (.getfield 9, 3) := by decide +kernel
theorem dX1_holds_4 : decode cX1_holds 4 = .ok (.getfield 38, 3) := by decide +kernel
theorem dX1_holds_7 : decode cX1_holds 7 = .ok (.iload_n 1, 1) := by decide +kernel
theorem dX1_holds_8 : decode cX1_holds 8 = .ok (.invokevirtual 66, 3) := by decide +kernel
theorem dX1_holds_11 : decode cX1_holds 11 = .ok (.istore_n 2, 1) := by decide +kernel
theorem dX1_holds_12 : decode cX1_holds 12 = .ok (.aload_n 0, 1) := by decide +kernel
theorem dX1_holds_13 : decode cX1_holds 13 = .ok (.getfield 9, 3) := by decide +kernel
theorem dX1_holds_16 : decode cX1_holds 16 = .ok (.getfield 38, 3) := by decide +kernel
theorem dX1_holds_19 : decode cX1_holds 19 = .ok (.getfield 69, 3) := by decide +kernel
theorem dX1_holds_22 : decode cX1_holds 22 = .ok (.iload_n 1, 1) := by decide +kernel
theorem dX1_holds_23 : decode cX1_holds 23 = .ok (.invokevirtual 59, 3) := by decide +kernel
theorem dX1_holds_26 : decode cX1_holds 26 = .ok (.istore_n 3, 1) := by decide +kernel
theorem dX1_holds_27 : decode cX1_holds 27 = .ok (.iload_n 2, 1) := by decide +kernel
theorem dX1_holds_28 : decode cX1_holds 28 = .ok (.iload_n 3, 1) := by decide +kernel
theorem dX1_holds_29 : decode cX1_holds 29 = .ok (.if_icmp .lt 5, 3) := by decide +kernel
theorem dX1_holds_32 : decode cX1_holds 32 = .ok (.iconst 1, 1) := by decide +kernel
theorem dX1_holds_33 : decode cX1_holds 33 = .ok (.ireturn, 1) := by decide +kernel
theorem dX1_holds_34 : decode cX1_holds 34 = .ok (.aload_n 0, 1) := by decide +kernel
theorem dX1_holds_35 : decode cX1_holds 35 = .ok (.iconst 0, 1) := by decide +kernel
theorem dX1_holds_36 : decode cX1_holds 36 = .ok (.putfield 72, 3) := by decide +kernel
theorem dX1_holds_39 : decode cX1_holds 39 = .ok (.iload_n 2, 1) := by decide +kernel
theorem dX1_holds_40 : decode cX1_holds 40 = .ok (.istore 4, 2) := by decide +kernel
theorem dX1_holds_42 : decode cX1_holds 42 = .ok (.iload 4, 2) := by decide +kernel
theorem dX1_holds_44 : decode cX1_holds 44 = .ok (.iload_n 3, 1) := by decide +kernel
theorem dX1_holds_45 : decode cX1_holds 45 = .ok (.if_icmp .ge 84, 3) := by decide +kernel
theorem dX1_holds_48 : decode cX1_holds 48 = .ok (.aload_n 0, 1) := by decide +kernel
theorem dX1_holds_49 : decode cX1_holds 49 = .ok (.getfield 9, 3) := by decide +kernel
theorem dX1_holds_52 : decode cX1_holds 52 = .ok (.getfield 38, 3) := by decide +kernel
theorem dX1_holds_55 : decode cX1_holds 55 = .ok (.getfield 75, 3) := by decide +kernel
theorem dX1_holds_58 : decode cX1_holds 58 = .ok (.iload 4, 2) := by decide +kernel
theorem dX1_holds_60 : decode cX1_holds 60 = .ok (.invokevirtual 59, 3) := by decide +kernel
theorem dX1_holds_63 : decode cX1_holds 63 = .ok (.istore 5, 2) := by decide +kernel
theorem dX1_holds_65 : decode cX1_holds 65 = .ok (.iload 5, 2) := by decide +kernel
theorem dX1_holds_67 : decode cX1_holds 67 = .ok (.sipush 131, 3) := by decide +kernel
theorem dX1_holds_70 : decode cX1_holds 70 = .ok (.if_icmp .eq 19, 3) := by decide +kernel
theorem dX1_holds_73 : decode cX1_holds 73 = .ok (.iload 5, 2) := by decide +kernel
theorem dX1_holds_75 : decode cX1_holds 75 = .ok (.sipush 210, 3) := by decide +kernel
theorem dX1_holds_78 : decode cX1_holds 78 = .ok (.if_icmp .lt 39, 3) := by decide +kernel
theorem dX1_holds_81 : decode cX1_holds 81 = .ok (.iload 5, 2) := by decide +kernel
theorem dX1_holds_83 : decode cX1_holds 83 = .ok (.sipush 219, 3) := by decide +kernel
theorem dX1_holds_86 : decode cX1_holds 86 = .ok (.if_icmp .gt 31, 3) := by decide +kernel
theorem dX1_holds_89 : decode cX1_holds 89 = .ok (.aload_n 0, 1) := by decide +kernel
theorem dX1_holds_90 : decode cX1_holds 90 = .ok (.aload_n 0, 1) := by decide +kernel
theorem dX1_holds_91 : decode cX1_holds 91 = .ok (.iload 5, 2) := by decide +kernel
theorem dX1_holds_93 : decode cX1_holds 93 = .ok (.aload_n 0, 1) := by decide +kernel
theorem dX1_holds_94 : decode cX1_holds 94 = .ok (.getfield 9, 3) := by decide +kernel
theorem dX1_holds_97 : decode cX1_holds 97 = .ok (.getfield 38, 3) := by decide +kernel
theorem dX1_holds_100 : decode cX1_holds 100 = .ok (.getfield 78, 3) := by decide +kernel
theorem dX1_holds_103 : decode cX1_holds 103 = .ok (.iload 4, 2) := by decide +kernel
theorem dX1_holds_105 : decode cX1_holds 105 = .ok (.invokevirtual 59, 3) := by decide +kernel
theorem dX1_holds_108 : decode cX1_holds 108 = .ok (.invokevirtual 81, 3) := by decide +kernel
theorem dX1_holds_111 : decode cX1_holds 111 = .ok (.invokevirtual 85, 3) := by decide +kernel
theorem dX1_holds_114 : decode cX1_holds 114 = .ok (.goto 9, 3) := by decide +kernel
theorem dX1_holds_117 : decode cX1_holds 117 = .ok (.aload_n 0, 1) := by decide +kernel
theorem dX1_holds_118 : decode cX1_holds 118 = .ok (.iload 5, 2) := by decide +kernel
theorem dX1_holds_120 : decode cX1_holds 120 = .ok (.invokevirtual 88, 3) := by decide +kernel
theorem dX1_holds_123 : decode cX1_holds 123 = .ok (.iinc 4 1, 3) := by decide +kernel
theorem dX1_holds_126 : decode cX1_holds 126 = .ok (.goto (-84), 3) := by decide +kernel
theorem dX1_holds_129 : decode cX1_holds 129 = .ok (.aload_n 0, 1) := by decide +kernel
theorem dX1_holds_130 : decode cX1_holds 130 = .ok (.invokevirtual 91, 3) := by decide +kernel
theorem dX1_holds_133 : decode cX1_holds 133 = .ok (.ifCond .eq 7, 3) := by decide +kernel
theorem dX1_holds_136 : decode cX1_holds 136 = .ok (.iconst 1, 1) := by decide +kernel
theorem dX1_holds_137 : decode cX1_holds 137 = .ok (.goto 4, 3) := by decide +kernel
theorem dX1_holds_140 : decode cX1_holds 140 = .ok (.iconst 0, 1) := by decide +kernel
theorem dX1_holds_141 : decode cX1_holds 141 = .ok (.ireturn, 1) := by decide +kernel
theorem dX1_push_0 : decode cX1_push 0 = .ok (.aload_n 0, 1) := by decide +kernel
theorem dX1_push_1 : decode cX1_push 1 = .ok (.getfield 24, 3) := by decide +kernel
theorem dX1_push_4 : decode cX1_push 4 = .ok (.aload_n 0, 1) := by decide +kernel
theorem dX1_push_5 : decode cX1_push 5 = .ok (.getfield 72, 3) := by decide +kernel
theorem dX1_push_8 : decode cX1_push 8 = .ok (.iload_n 1, 1) := by decide +kernel
theorem dX1_push_9 : decode cX1_push 9 = .ok (.invokevirtual 95, 3) := by decide +kernel
theorem dX1_push_12 : decode cX1_push 12 = .ok (.aload_n 0, 1) := by decide +kernel
theorem dX1_push_13 : decode cX1_push 13 = .ok (.dup, 1) := by decide +kernel
theorem dX1_push_14 : decode cX1_push 14 = .ok (.getfield 72, 3) := by decide +kernel
theorem dX1_push_17 : decode cX1_push 17 = .ok (.iconst 1, 1) := by decide +kernel
theorem dX1_push_18 : decode cX1_push 18 = .ok (.iadd, 1) := by decide +kernel
theorem dX1_push_19 : decode cX1_push 19 = .ok (.putfield 72, 3) := by decide +kernel
theorem dX1_push_22 : decode cX1_push 22 = .ok (.return_, 1) := by decide +kernel
theorem dX1_pop_0 : decode cX1_pop 0 = .ok (.aload_n 0, 1) := by decide +kernel
theorem dX1_pop_1 : decode cX1_pop 1 = .ok (.dup, 1) := by decide +kernel
theorem dX1_pop_2 : decode cX1_pop 2 = .ok (.getfield 72, 3) := by decide +kernel
theorem dX1_pop_5 : decode cX1_pop 5 = .ok (.iconst 1, 1) := by decide +kernel
theorem dX1_pop_6 : decode cX1_pop 6 = .ok (.isub, 1) := by decide +kernel
theorem dX1_pop_7 : decode cX1_pop 7 = .ok (.putfield 72, 3) := by decide +kernel
theorem dX1_pop_10 : decode cX1_pop 10 = .ok (.aload_n 0, 1) := by decide +kernel
theorem dX1_pop_11 : decode cX1_pop 11 = .ok (.getfield 24, 3) := by decide +kernel
theorem dX1_pop_14 : decode cX1_pop 14 = .ok (.aload_n 0, 1) := by decide +kernel
theorem dX1_pop_15 : decode cX1_pop 15 = .ok (.getfield 72, 3) := by decide +kernel
theorem dX1_pop_18 : decode cX1_pop 18 = .ok (.invokevirtual 59, 3) := by decide +kernel
theorem dX1_pop_21 : decode cX1_pop 21 = .ok (.ireturn, 1) := by decide +kernel
theorem dX1_fact_0 : decode cX1_fact 0 = .ok (.iload_n 1, 1) := by decide +kernel
theorem dX1_fact_1 : decode cX1_fact 1 = .ok (.lookupswitch 227 #[(131, 91), (210, 93), (211, 98), (212, 113), (213, 191), (214, 125), (215, 137), (217, 150), (218, 172), (219, 203)], 91) := by decide +kernel
theorem dX1_fact_92 : decode cX1_fact 92 = .ok (.iload_n 2, 1) := by decide +kernel
theorem dX1_fact_93 : decode cX1_fact 93 = .ok (.ireturn, 1) := by decide +kernel
theorem dX1_fact_94 : decode cX1_fact 94 = .ok (.aload_n 0, 1) := by decide +kernel
theorem dX1_fact_95 : decode cX1_fact 95 = .ok (.getfield 32, 3) := by decide +kernel
theorem dX1_fact_98 : decode cX1_fact 98 = .ok (.ireturn, 1) := by decide +kernel
theorem dX1_fact_99 : decode cX1_fact 99 = .ok (.aload_n 0, 1) := by decide +kernel
theorem dX1_fact_100 : decode cX1_fact 100 = .ok (.getfield 15, 3) := by decide +kernel
theorem dX1_fact_103 : decode cX1_fact 103 = .ok (.aload_n 0, 1) := by decide +kernel
theorem dX1_fact_104 : decode cX1_fact 104 = .ok (.getfield 28, 3) := by decide +kernel
theorem dX1_fact_107 : decode cX1_fact 107 = .ok (.invokevirtual 99, 3) := by decide +kernel
theorem dX1_fact_110 : decode cX1_fact 110 = .ok (.invokestatic 104, 3) := by decide +kernel
theorem dX1_fact_113 : decode cX1_fact 113 = .ok (.ireturn, 1) := by decide +kernel
theorem dX1_fact_114 : decode cX1_fact 114 = .ok (.aload_n 0, 1) := by decide +kernel
theorem dX1_fact_115 : decode cX1_fact 115 = .ok (.getfield 15, 3) := by decide +kernel
theorem dX1_fact_118 : decode cX1_fact 118 = .ok (.aload_n 0, 1) := by decide +kernel
theorem dX1_fact_119 : decode cX1_fact 119 = .ok (.getfield 28, 3) := by decide +kernel
theorem dX1_fact_122 : decode cX1_fact 122 = .ok (.invokevirtual 109, 3) := by decide +kernel
theorem dX1_fact_125 : decode cX1_fact 125 = .ok (.ireturn, 1) := by decide +kernel
theorem dX1_fact_126 : decode cX1_fact 126 = .ok (.aload_n 0, 1) := by decide +kernel
theorem dX1_fact_127 : decode cX1_fact 127 = .ok (.getfield 9, 3) := by decide +kernel
theorem dX1_fact_130 : decode cX1_fact 130 = .ok (.getfield 112, 3) := by decide +kernel
theorem dX1_fact_133 : decode cX1_fact 133 = .ok (.iload_n 2, 1) := by decide +kernel
theorem dX1_fact_134 : decode cX1_fact 134 = .ok (.invokevirtual 116, 3) := by decide +kernel
theorem dX1_fact_137 : decode cX1_fact 137 = .ok (.ireturn, 1) := by decide +kernel
theorem dX1_fact_138 : decode cX1_fact 138 = .ok (.aload_n 0, 1) := by decide +kernel
theorem dX1_fact_139 : decode cX1_fact 139 = .ok (.getfield 15, 3) := by decide +kernel
theorem dX1_fact_142 : decode cX1_fact 142 = .ok (.iload_n 2, 1) := by decide +kernel
theorem dX1_fact_143 : decode cX1_fact 143 = .ok (.aload_n 0, 1) := by decide +kernel
theorem dX1_fact_144 : decode cX1_fact 144 = .ok (.getfield 28, 3) := by decide +kernel
theorem dX1_fact_147 : decode cX1_fact 147 = .ok (.invokevirtual 121, 3) := by decide +kernel
theorem dX1_fact_150 : decode cX1_fact 150 = .ok (.ireturn, 1) := by decide +kernel
theorem dX1_fact_151 : decode cX1_fact 151 = .ok (.aload_n 0, 1) := by decide +kernel
theorem dX1_fact_152 : decode cX1_fact 152 = .ok (.getfield 15, 3) := by decide +kernel
theorem dX1_fact_155 : decode cX1_fact 155 = .ok (.iload_n 2, 1) := by decide +kernel
theorem dX1_fact_156 : decode cX1_fact 156 = .ok (.iconst 4, 1) := by decide +kernel
theorem dX1_fact_157 : decode cX1_fact 157 = .ok (.ishr, 1) := by decide +kernel
theorem dX1_fact_158 : decode cX1_fact 158 = .ok (.iload_n 2, 1) := by decide +kernel
theorem dX1_fact_159 : decode cX1_fact 159 = .ok (.bipush 15, 2) := by decide +kernel
theorem dX1_fact_161 : decode cX1_fact 161 = .ok (.iand, 1) := by decide +kernel
theorem dX1_fact_162 : decode cX1_fact 162 = .ok (.aload_n 0, 1) := by decide +kernel
theorem dX1_fact_163 : decode cX1_fact 163 = .ok (.getfield 28, 3) := by decide +kernel
theorem dX1_fact_166 : decode cX1_fact 166 = .ok (.invokevirtual 124, 3) := by decide +kernel
theorem dX1_fact_169 : decode cX1_fact 169 = .ok (.invokestatic 128, 3) := by decide +kernel
theorem dX1_fact_172 : decode cX1_fact 172 = .ok (.ireturn, 1) := by decide +kernel
theorem dX1_fact_173 : decode cX1_fact 173 = .ok (.aload_n 0, 1) := by decide +kernel
theorem dX1_fact_174 : decode cX1_fact 174 = .ok (.getfield 15, 3) := by decide +kernel
theorem dX1_fact_177 : decode cX1_fact 177 = .ok (.aload_n 0, 1) := by decide +kernel
theorem dX1_fact_178 : decode cX1_fact 178 = .ok (.getfield 28, 3) := by decide +kernel
theorem dX1_fact_181 : decode cX1_fact 181 = .ok (.invokevirtual 99, 3) := by decide +kernel
theorem dX1_fact_184 : decode cX1_fact 184 = .ok (.iload_n 2, 1) := by decide +kernel
theorem dX1_fact_185 : decode cX1_fact 185 = .ok (.invokestatic 132, 3) := by decide +kernel
theorem dX1_fact_188 : decode cX1_fact 188 = .ok (.invokestatic 128, 3) := by decide +kernel
theorem dX1_fact_191 : decode cX1_fact 191 = .ok (.ireturn, 1) := by decide +kernel
theorem dX1_fact_192 : decode cX1_fact 192 = .ok (.aload_n 0, 1) := by decide +kernel
theorem dX1_fact_193 : decode cX1_fact 193 = .ok (.getfield 28, 3) := by decide +kernel
theorem dX1_fact_196 : decode cX1_fact 196 = .ok (.iload_n 2, 1) := by decide +kernel
theorem dX1_fact_197 : decode cX1_fact 197 = .ok (.invokestatic 132, 3) := by decide +kernel
theorem dX1_fact_200 : decode cX1_fact 200 = .ok (.invokestatic 128, 3) := by decide +kernel
theorem dX1_fact_203 : decode cX1_fact 203 = .ok (.ireturn, 1) := by decide +kernel
theorem dX1_fact_204 : decode cX1_fact 204 = .ok (.aload_n 0, 1) := by decide +kernel
theorem dX1_fact_205 : decode cX1_fact 205 = .ok (.getfield 15, 3) := by decide +kernel
theorem dX1_fact_208 : decode cX1_fact 208 = .ok (.iload_n 2, 1) := by decide +kernel
theorem dX1_fact_209 : decode cX1_fact 209 = .ok (.aload_n 0, 1) := by decide +kernel
theorem dX1_fact_210 : decode cX1_fact 210 = .ok (.getfield 28, 3) := by decide +kernel
theorem dX1_fact_213 : decode cX1_fact 213 = .ok (.invokevirtual 121, 3) := by decide +kernel
theorem dX1_fact_216 : decode cX1_fact 216 = .ok (.ifCond .le 7, 3) := by decide +kernel
theorem dX1_fact_219 : decode cX1_fact 219 = .ok (.iconst 1, 1) := by decide +kernel
theorem dX1_fact_220 : decode cX1_fact 220 = .ok (.goto 4, 3) := by decide +kernel
theorem dX1_fact_223 : decode cX1_fact 223 = .ok (.iconst 0, 1) := by decide +kernel
theorem dX1_fact_224 : decode cX1_fact 224 = .ok (.invokestatic 128, 3) := by decide +kernel
theorem dX1_fact_227 : decode cX1_fact 227 = .ok (.ireturn, 1) := by decide +kernel
theorem dX1_fact_228 : decode cX1_fact 228 = .ok (.iconst 0, 1) := by decide +kernel
theorem dX1_fact_229 : decode cX1_fact 229 = .ok (.ireturn, 1) := by decide +kernel
theorem dX1_reckon_0 : decode cX1_reckon 0 = .ok (.aload_n 0, 1) := by decide +kernel
theorem dX1_reckon_1 : decode cX1_reckon 1 = .ok (.invokevirtual 91, 3) := by decide +kernel
theorem dX1_reckon_4 : decode cX1_reckon 4 = .ok (.istore_n 2, 1) := by decide +kernel
theorem dX1_reckon_5 : decode cX1_reckon 5 = .ok (.iload_n 1, 1) := by decide +kernel
theorem dX1_reckon_6 : decode cX1_reckon 6 = .ok (.sipush 134, 3) := by decide +kernel
theorem dX1_reckon_9 : decode cX1_reckon 9 = .ok (.if_icmp .ne 12, 3) := by decide +kernel
theorem dX1_reckon_12 : decode cX1_reckon 12 = .ok (.aload_n 0, 1) := by decide +kernel
theorem dX1_reckon_13 : decode cX1_reckon 13 = .ok (.iload_n 2, 1) := by decide +kernel
theorem dX1_reckon_14 : decode cX1_reckon 14 = .ok (.ineg, 1) := by decide +kernel
theorem dX1_reckon_15 : decode cX1_reckon 15 = .ok (.invokevirtual 85, 3) := by decide +kernel
theorem dX1_reckon_18 : decode cX1_reckon 18 = .ok (.goto 42, 3) := by decide +kernel
theorem dX1_reckon_21 : decode cX1_reckon 21 = .ok (.iload_n 1, 1) := by decide +kernel
theorem dX1_reckon_22 : decode cX1_reckon 22 = .ok (.sipush 220, 3) := by decide +kernel
theorem dX1_reckon_25 : decode cX1_reckon 25 = .ok (.if_icmp .ne 22, 3) := by decide +kernel
theorem dX1_reckon_28 : decode cX1_reckon 28 = .ok (.aload_n 0, 1) := by decide +kernel
theorem dX1_reckon_29 : decode cX1_reckon 29 = .ok (.iload_n 2, 1) := by decide +kernel
theorem dX1_reckon_30 : decode cX1_reckon 30 = .ok (.ifCond .ne 7, 3) := by decide +kernel
theorem dX1_reckon_33 : decode cX1_reckon 33 = .ok (.iconst 1, 1) := by decide +kernel
theorem dX1_reckon_34 : decode cX1_reckon 34 = .ok (.goto 4, 3) := by decide +kernel
theorem dX1_reckon_37 : decode cX1_reckon 37 = .ok (.iconst 0, 1) := by decide +kernel
theorem dX1_reckon_38 : decode cX1_reckon 38 = .ok (.invokestatic 128, 3) := by decide +kernel
theorem dX1_reckon_41 : decode cX1_reckon 41 = .ok (.invokevirtual 85, 3) := by decide +kernel
theorem dX1_reckon_44 : decode cX1_reckon 44 = .ok (.goto 16, 3) := by decide +kernel
theorem dX1_reckon_47 : decode cX1_reckon 47 = .ok (.aload_n 0, 1) := by decide +kernel
theorem dX1_reckon_48 : decode cX1_reckon 48 = .ok (.iload_n 1, 1) := by decide +kernel
theorem dX1_reckon_49 : decode cX1_reckon 49 = .ok (.aload_n 0, 1) := by decide +kernel
theorem dX1_reckon_50 : decode cX1_reckon 50 = .ok (.invokevirtual 91, 3) := by decide +kernel
theorem dX1_reckon_53 : decode cX1_reckon 53 = .ok (.iload_n 2, 1) := by decide +kernel
theorem dX1_reckon_54 : decode cX1_reckon 54 = .ok (.invokestatic 136, 3) := by decide +kernel
theorem dX1_reckon_57 : decode cX1_reckon 57 = .ok (.invokevirtual 85, 3) := by decide +kernel
theorem dX1_reckon_60 : decode cX1_reckon 60 = .ok (.return_, 1) := by decide +kernel
theorem dX1_combine_0 : decode cX1_combine 0 = .ok (.iload_n 0, 1) := by decide +kernel
theorem dX1_combine_1 : decode cX1_combine 1 = .ok (.lookupswitch 229 #[(42, 123), (43, 115), (45, 119), (47, 127), (60, 151), (61, 179), (62, 165), (128, 193), (129, 207), (221, 221), (222, 225), (223, 139), (224, 145)], 115) := by decide +kernel
theorem dX1_combine_116 : decode cX1_combine 116 = .ok (.iload_n 1, 1) := by decide +kernel
theorem dX1_combine_117 : decode cX1_combine 117 = .ok (.iload_n 2, 1) := by decide +kernel
theorem dX1_combine_118 : decode cX1_combine 118 = .ok (.iadd, 1) := by decide +kernel
theorem dX1_combine_119 : decode cX1_combine 119 = .ok (.ireturn, 1) := by decide +kernel
theorem dX1_combine_120 : decode cX1_combine 120 = .ok (.iload_n 1, 1) := by decide +kernel
theorem dX1_combine_121 : decode cX1_combine 121 = .ok (.iload_n 2, 1) := by decide +kernel
theorem dX1_combine_122 : decode cX1_combine 122 = .ok (.isub, 1) := by decide +kernel
theorem dX1_combine_123 : decode cX1_combine 123 = .ok (.ireturn, 1) := by decide +kernel
theorem dX1_combine_124 : decode cX1_combine 124 = .ok (.iload_n 1, 1) := by decide +kernel
theorem dX1_combine_125 : decode cX1_combine 125 = .ok (.iload_n 2, 1) := by decide +kernel
theorem dX1_combine_126 : decode cX1_combine 126 = .ok (.imul, 1) := by decide +kernel
theorem dX1_combine_127 : decode cX1_combine 127 = .ok (.ireturn, 1) := by decide +kernel
theorem dX1_combine_128 : decode cX1_combine 128 = .ok (.iload_n 2, 1) := by decide +kernel
theorem dX1_combine_129 : decode cX1_combine 129 = .ok (.ifCond .ne 7, 3) := by decide +kernel
theorem dX1_combine_132 : decode cX1_combine 132 = .ok (.iconst 0, 1) := by decide +kernel
theorem dX1_combine_133 : decode cX1_combine 133 = .ok (.goto 6, 3) := by decide +kernel
theorem dX1_combine_136 : decode cX1_combine 136 = .ok (.iload_n 1, 1) := by decide +kernel
theorem dX1_combine_137 : decode cX1_combine 137 = .ok (.iload_n 2, 1) := by decide +kernel
theorem dX1_combine_138 : decode cX1_combine 138 = .ok (.idiv, 1) := by decide +kernel
theorem dX1_combine_139 : decode cX1_combine 139 = .ok (.ireturn, 1) := by decide +kernel
theorem dX1_combine_140 : decode cX1_combine 140 = .ok (.iload_n 1, 1) := by decide +kernel
theorem dX1_combine_141 : decode cX1_combine 141 = .ok (.iload_n 2, 1) := by decide +kernel
theorem dX1_combine_142 : decode cX1_combine 142 = .ok (.invokestatic 140, 3) := by decide +kernel
theorem dX1_combine_145 : decode cX1_combine 145 = .ok (.ireturn, 1) := by decide +kernel
theorem dX1_combine_146 : decode cX1_combine 146 = .ok (.iload_n 1, 1) := by decide +kernel
theorem dX1_combine_147 : decode cX1_combine 147 = .ok (.iload_n 2, 1) := by decide +kernel
theorem dX1_combine_148 : decode cX1_combine 148 = .ok (.invokestatic 145, 3) := by decide +kernel
theorem dX1_combine_151 : decode cX1_combine 151 = .ok (.ireturn, 1) := by decide +kernel
theorem dX1_combine_152 : decode cX1_combine 152 = .ok (.iload_n 1, 1) := by decide +kernel
theorem dX1_combine_153 : decode cX1_combine 153 = .ok (.iload_n 2, 1) := by decide +kernel
theorem dX1_combine_154 : decode cX1_combine 154 = .ok (.if_icmp .ge 7, 3) := by decide +kernel
theorem dX1_combine_157 : decode cX1_combine 157 = .ok (.iconst 1, 1) := by decide +kernel
theorem dX1_combine_158 : decode cX1_combine 158 = .ok (.goto 4, 3) := by decide +kernel
theorem dX1_combine_161 : decode cX1_combine 161 = .ok (.iconst 0, 1) := by decide +kernel
theorem dX1_combine_162 : decode cX1_combine 162 = .ok (.invokestatic 128, 3) := by decide +kernel
theorem dX1_combine_165 : decode cX1_combine 165 = .ok (.ireturn, 1) := by decide +kernel
theorem dX1_combine_166 : decode cX1_combine 166 = .ok (.iload_n 1, 1) := by decide +kernel
theorem dX1_combine_167 : decode cX1_combine 167 = .ok (.iload_n 2, 1) := by decide +kernel
theorem dX1_combine_168 : decode cX1_combine 168 = .ok (.if_icmp .le 7, 3) := by decide +kernel
theorem dX1_combine_171 : decode cX1_combine 171 = .ok (.iconst 1, 1) := by decide +kernel
theorem dX1_combine_172 : decode cX1_combine 172 = .ok (.goto 4, 3) := by decide +kernel
theorem dX1_combine_175 : decode cX1_combine 175 = .ok (.iconst 0, 1) := by decide +kernel
theorem dX1_combine_176 : decode cX1_combine 176 = .ok (.invokestatic 128, 3) := by decide +kernel
theorem dX1_combine_179 : decode cX1_combine 179 = .ok (.ireturn, 1) := by decide +kernel
theorem dX1_combine_180 : decode cX1_combine 180 = .ok (.iload_n 1, 1) := by decide +kernel
theorem dX1_combine_181 : decode cX1_combine 181 = .ok (.iload_n 2, 1) := by decide +kernel
theorem dX1_combine_182 : decode cX1_combine 182 = .ok (.if_icmp .ne 7, 3) := by decide +kernel
theorem dX1_combine_185 : decode cX1_combine 185 = .ok (.iconst 1, 1) := by decide +kernel
theorem dX1_combine_186 : decode cX1_combine 186 = .ok (.goto 4, 3) := by decide +kernel
theorem dX1_combine_189 : decode cX1_combine 189 = .ok (.iconst 0, 1) := by decide +kernel
theorem dX1_combine_190 : decode cX1_combine 190 = .ok (.invokestatic 128, 3) := by decide +kernel
theorem dX1_combine_193 : decode cX1_combine 193 = .ok (.ireturn, 1) := by decide +kernel
theorem dX1_combine_194 : decode cX1_combine 194 = .ok (.iload_n 1, 1) := by decide +kernel
theorem dX1_combine_195 : decode cX1_combine 195 = .ok (.iload_n 2, 1) := by decide +kernel
theorem dX1_combine_196 : decode cX1_combine 196 = .ok (.if_icmp .gt 7, 3) := by decide +kernel
theorem dX1_combine_199 : decode cX1_combine 199 = .ok (.iconst 1, 1) := by decide +kernel
theorem dX1_combine_200 : decode cX1_combine 200 = .ok (.goto 4, 3) := by decide +kernel
theorem dX1_combine_203 : decode cX1_combine 203 = .ok (.iconst 0, 1) := by decide +kernel
theorem dX1_combine_204 : decode cX1_combine 204 = .ok (.invokestatic 128, 3) := by decide +kernel
theorem dX1_combine_207 : decode cX1_combine 207 = .ok (.ireturn, 1) := by decide +kernel
theorem dX1_combine_208 : decode cX1_combine 208 = .ok (.iload_n 1, 1) := by decide +kernel
theorem dX1_combine_209 : decode cX1_combine 209 = .ok (.iload_n 2, 1) := by decide +kernel
theorem dX1_combine_210 : decode cX1_combine 210 = .ok (.if_icmp .lt 7, 3) := by decide +kernel
theorem dX1_combine_213 : decode cX1_combine 213 = .ok (.iconst 1, 1) := by decide +kernel
theorem dX1_combine_214 : decode cX1_combine 214 = .ok (.goto 4, 3) := by decide +kernel
theorem dX1_combine_217 : decode cX1_combine 217 = .ok (.iconst 0, 1) := by decide +kernel
theorem dX1_combine_218 : decode cX1_combine 218 = .ok (.invokestatic 128, 3) := by decide +kernel
theorem dX1_combine_221 : decode cX1_combine 221 = .ok (.ireturn, 1) := by decide +kernel
theorem dX1_combine_222 : decode cX1_combine 222 = .ok (.iload_n 1, 1) := by decide +kernel
theorem dX1_combine_223 : decode cX1_combine 223 = .ok (.iload_n 2, 1) := by decide +kernel
theorem dX1_combine_224 : decode cX1_combine 224 = .ok (.iand, 1) := by decide +kernel
theorem dX1_combine_225 : decode cX1_combine 225 = .ok (.ireturn, 1) := by decide +kernel
theorem dX1_combine_226 : decode cX1_combine 226 = .ok (.iload_n 1, 1) := by decide +kernel
theorem dX1_combine_227 : decode cX1_combine 227 = .ok (.iload_n 2, 1) := by decide +kernel
theorem dX1_combine_228 : decode cX1_combine 228 = .ok (.ior, 1) := by decide +kernel
theorem dX1_combine_229 : decode cX1_combine 229 = .ok (.ireturn, 1) := by decide +kernel
theorem dX1_combine_230 : decode cX1_combine 230 = .ok (.iconst 0, 1) := by decide +kernel
theorem dX1_combine_231 : decode cX1_combine 231 = .ok (.ireturn, 1) := by decide +kernel
theorem dX2_init_0 : decode cX2_init 0 = .ok (.aload_n 0, 1) := by decide +kernel
theorem dX2_init_1 : decode cX2_init 1 = .ok (.invokespecial 1, 3) := by decide +kernel
theorem dX2_init_4 : decode cX2_init 4 = .ok (.aload_n 0, 1) := by decide +kernel
theorem dX2_init_5 : decode cX2_init 5 = .ok (.iload_n 1, 1) := by decide +kernel
theorem dX2_init_6 : decode cX2_init 6 = .ok (.ifCond .le 7, 3) := by decide +kernel
theorem dX2_init_9 : decode cX2_init 9 = .ok (.iload_n 1, 1) := by decide +kernel
theorem dX2_init_10 : decode cX2_init 10 = .ok (.goto 4, 3) := by decide +kernel
theorem dX2_init_13 : decode cX2_init 13 = .ok (.iconst 0, 1) := by decide +kernel
theorem dX2_init_14 : decode cX2_init 14 = .ok (.newarray .long, 2) := by decide +kernel
theorem dX2_init_16 : decode cX2_init 16 = .ok (.putfield 7, 3) := by decide +kernel
theorem dX2_init_19 : decode cX2_init 19 = .ok (.aload_n 0, 1) := by decide +kernel
theorem dX2_init_20 : decode cX2_init 20 = .ok (.iconst 0, 1) := by decide +kernel
theorem dX2_init_21 : decode cX2_init 21 = .ok (.putfield 13, 3) := by decide +kernel
theorem dX2_init_24 : decode cX2_init 24 = .ok (.return_, 1) := by decide +kernel
theorem dX2_isFull_0 : decode cX2_isFull 0 = .ok (.aload_n 0, 1) := by decide +kernel
theorem dX2_isFull_1 : decode cX2_isFull 1 = .ok (.getfield 13, 3) := by decide +kernel
theorem dX2_isFull_4 : decode cX2_isFull 4 = .ok (.aload_n 0, 1) := by decide +kernel
theorem dX2_isFull_5 : decode cX2_isFull 5 = .ok (.getfield 7, 3) := by decide +kernel
theorem dX2_isFull_8 : decode cX2_isFull 8 = .ok (.arraylength, 1) := by decide +kernel
theorem dX2_isFull_9 : decode cX2_isFull 9 = .ok (.if_icmp .lt 7, 3) := by decide +kernel
theorem dX2_isFull_12 : decode cX2_isFull 12 = .ok (.iconst 1, 1) := by decide +kernel
theorem dX2_isFull_13 : decode cX2_isFull 13 = .ok (.goto 4, 3) := by decide +kernel
theorem dX2_isFull_16 : decode cX2_isFull 16 = .ok (.iconst 0, 1) := by decide +kernel
theorem dX2_isFull_17 : decode cX2_isFull 17 = .ok (.ireturn, 1) := by decide +kernel
theorem dX2_add_0 : decode cX2_add 0 = .ok (.aload_n 0, 1) := by decide +kernel
theorem dX2_add_1 : decode cX2_add 1 = .ok (.getfield 13, 3) := by decide +kernel
theorem dX2_add_4 : decode cX2_add 4 = .ok (.ifCond .lt 35, 3) := by decide +kernel
theorem dX2_add_7 : decode cX2_add 7 = .ok (.aload_n 0, 1) := by decide +kernel
theorem dX2_add_8 : decode cX2_add 8 = .ok (.getfield 13, 3) := by decide +kernel
theorem dX2_add_11 : decode cX2_add 11 = .ok (.aload_n 0, 1) := by decide +kernel
theorem dX2_add_12 : decode cX2_add 12 = .ok (.getfield 7, 3) := by decide +kernel
theorem dX2_add_15 : decode cX2_add 15 = .ok (.arraylength, 1) := by decide +kernel
theorem dX2_add_16 : decode cX2_add 16 = .ok (.if_icmp .ge 23, 3) := by decide +kernel
theorem dX2_add_19 : decode cX2_add 19 = .ok (.aload_n 0, 1) := by decide +kernel
theorem dX2_add_20 : decode cX2_add 20 = .ok (.getfield 7, 3) := by decide +kernel
theorem dX2_add_23 : decode cX2_add 23 = .ok (.aload_n 0, 1) := by decide +kernel
theorem dX2_add_24 : decode cX2_add 24 = .ok (.getfield 13, 3) := by decide +kernel
theorem dX2_add_27 : decode cX2_add 27 = .ok (.lload_n 1, 1) := by decide +kernel
theorem dX2_add_28 : decode cX2_add 28 = .ok (.lastore, 1) := by decide +kernel
theorem dX2_add_29 : decode cX2_add 29 = .ok (.aload_n 0, 1) := by decide +kernel
theorem dX2_add_30 : decode cX2_add 30 = .ok (.dup, 1) := by decide +kernel
theorem dX2_add_31 : decode cX2_add 31 = .ok (.getfield 13, 3) := by decide +kernel
theorem dX2_add_34 : decode cX2_add 34 = .ok (.iconst 1, 1) := by decide +kernel
theorem dX2_add_35 : decode cX2_add 35 = .ok (.iadd, 1) := by decide +kernel
theorem dX2_add_36 : decode cX2_add 36 = .ok (.putfield 13, 3) := by decide +kernel
theorem dX2_add_39 : decode cX2_add 39 = .ok (.return_, 1) := by decide +kernel
theorem dX2_find_0 : decode cX2_find 0 = .ok (.iconst 0, 1) := by decide +kernel
theorem dX2_find_1 : decode cX2_find 1 = .ok (.istore_n 3, 1) := by decide +kernel
theorem dX2_find_2 : decode cX2_find 2 = .ok (.iload_n 3, 1) := by decide +kernel
theorem dX2_find_3 : decode cX2_find 3 = .ok (.aload_n 0, 1) := by decide +kernel
theorem dX2_find_4 : decode cX2_find 4 = .ok (.getfield 13, 3) := by decide +kernel
theorem dX2_find_7 : decode cX2_find 7 = .ok (.if_icmp .ge 31, 3) := by decide +kernel
theorem dX2_find_10 : decode cX2_find 10 = .ok (.iload_n 3, 1) := by decide +kernel
theorem dX2_find_11 : decode cX2_find 11 = .ok (.aload_n 0, 1) := by decide +kernel
theorem dX2_find_12 : decode cX2_find 12 = .ok (.getfield 7, 3) := by decide +kernel
theorem dX2_find_15 : decode cX2_find 15 = .ok (.arraylength, 1) := by decide +kernel
theorem dX2_find_16 : decode cX2_find 16 = .ok (.if_icmp .ge 22, 3) := by decide +kernel
theorem dX2_find_19 : decode cX2_find 19 = .ok (.aload_n 0, 1) := by decide +kernel
theorem dX2_find_20 : decode cX2_find 20 = .ok (.getfield 7, 3) := by decide +kernel
theorem dX2_find_23 : decode cX2_find 23 = .ok (.iload_n 3, 1) := by decide +kernel
theorem dX2_find_24 : decode cX2_find 24 = .ok (.laload, 1) := by decide +kernel
theorem dX2_find_25 : decode cX2_find 25 = .ok (.lload_n 1, 1) := by decide +kernel
theorem dX2_find_26 : decode cX2_find 26 = .ok (.lcmp, 1) := by decide +kernel
theorem dX2_find_27 : decode cX2_find 27 = .ok (.ifCond .ne 5, 3) := by decide +kernel
theorem dX2_find_30 : decode cX2_find 30 = .ok (.iload_n 3, 1) := by decide +kernel
theorem dX2_find_31 : decode cX2_find 31 = .ok (.ireturn, 1) := by decide +kernel
theorem dX2_find_32 : decode cX2_find 32 = .ok (.iinc 3 1, 3) := by decide +kernel
theorem dX2_find_35 : decode cX2_find 35 = .ok (.goto (-33), 3) := by decide +kernel
theorem dX2_find_38 : decode cX2_find 38 = .ok (.iconst (-1), 1) := by decide +kernel
theorem dX2_find_39 : decode cX2_find 39 = .ok (.ireturn, 1) := by decide +kernel
theorem dX3_init_0 : decode cX3_init 0 = .ok (.aload_n 0, 1) := by decide +kernel
theorem dX3_init_1 : decode cX3_init 1 = .ok (.invokespecial 3, 3) := by decide +kernel
theorem dX3_init_4 : decode cX3_init 4 = .ok (.aload_n 0, 1) := by decide +kernel
theorem dX3_init_5 : decode cX3_init 5 = .ok (.new 9, 3) := by decide +kernel
theorem dX3_init_8 : decode cX3_init 8 = .ok (.dup, 1) := by decide +kernel
theorem dX3_init_9 : decode cX3_init 9 = .ok (.bipush 16, 2) := by decide +kernel
theorem dX3_init_11 : decode cX3_init 11 = .ok (.invokespecial 11, 3) := by decide +kernel
theorem dX3_init_14 : decode cX3_init 14 = .ok (.putfield 14, 3) := by decide +kernel
theorem dX3_init_17 : decode cX3_init 17 = .ok (.aload_n 0, 1) := by decide +kernel
theorem dX3_init_18 : decode cX3_init 18 = .ok (.new 9, 3) := by decide +kernel
theorem dX3_init_21 : decode cX3_init 21 = .ok (.dup, 1) := by decide +kernel
theorem dX3_init_22 : decode cX3_init 22 = .ok (.bipush 16, 2) := by decide +kernel
theorem dX3_init_24 : decode cX3_init 24 = .ok (.invokespecial 11, 3) := by decide +kernel
theorem dX3_init_27 : decode cX3_init 27 = .ok (.putfield 20, 3) := by decide +kernel
theorem dX3_init_30 : decode cX3_init 30 = .ok (.aload_n 0, 1) := by decide +kernel
theorem dX3_init_31 : decode cX3_init 31 = .ok (.new 9, 3) := by decide +kernel
theorem dX3_init_34 : decode cX3_init 34 = .ok (.dup, 1) := by decide +kernel
theorem dX3_init_35 : decode cX3_init 35 = .ok (.bipush 16, 2) := by decide +kernel
theorem dX3_init_37 : decode cX3_init 37 = .ok (.invokespecial 11, 3) := by decide +kernel
theorem dX3_init_40 : decode cX3_init 40 = .ok (.putfield 23, 3) := by decide +kernel
theorem dX3_init_43 : decode cX3_init 43 = .ok (.aload_n 0, 1) := by decide +kernel
theorem dX3_init_44 : decode cX3_init 44 = .ok (.new 9, 3) := by decide +kernel
theorem dX3_init_47 : decode cX3_init 47 = .ok (.dup, 1) := by decide +kernel
theorem dX3_init_48 : decode cX3_init 48 = .ok (.sipush 400, 3) := by decide +kernel
theorem dX3_init_51 : decode cX3_init 51 = .ok (.invokespecial 11, 3) := by decide +kernel
theorem dX3_init_54 : decode cX3_init 54 = .ok (.putfield 26, 3) := by decide +kernel
theorem dX3_init_57 : decode cX3_init 57 = .ok (.aload_n 0, 1) := by decide +kernel
theorem dX3_init_58 : decode cX3_init 58 = .ok (.new 9, 3) := by decide +kernel
theorem dX3_init_61 : decode cX3_init 61 = .ok (.dup, 1) := by decide +kernel
theorem dX3_init_62 : decode cX3_init 62 = .ok (.sipush 400, 3) := by decide +kernel
theorem dX3_init_65 : decode cX3_init 65 = .ok (.invokespecial 11, 3) := by decide +kernel
theorem dX3_init_68 : decode cX3_init 68 = .ok (.putfield 29, 3) := by decide +kernel
theorem dX3_init_71 : decode cX3_init 71 = .ok (.aload_n 0, 1) := by decide +kernel
theorem dX3_init_72 : decode cX3_init 72 = .ok (.iconst 0, 1) := by decide +kernel
theorem dX3_init_73 : decode cX3_init 73 = .ok (.putfield 32, 3) := by decide +kernel
theorem dX3_init_76 : decode cX3_init 76 = .ok (.aload_n 0, 1) := by decide +kernel
theorem dX3_init_77 : decode cX3_init 77 = .ok (.iconst 0, 1) := by decide +kernel
theorem dX3_init_78 : decode cX3_init 78 = .ok (.putfield 36, 3) := by decide +kernel
theorem dX3_init_81 : decode cX3_init 81 = .ok (.return_, 1) := by decide +kernel
theorem dX3_copyFrom_0 : decode cX3_copyFrom 0 = .ok (.aload_n 0, 1) := by decide +kernel
theorem dX3_copyFrom_1 : decode cX3_copyFrom 1 = .ok (.getfield 14, 3) := by decide +kernel
theorem dX3_copyFrom_4 : decode cX3_copyFrom 4 = .ok (.aload_n 1, 1) := by decide +kernel
theorem dX3_copyFrom_5 : decode cX3_copyFrom 5 = .ok (.getfield 14, 3) := by decide +kernel
theorem dX3_copyFrom_8 : decode cX3_copyFrom 8 = .ok (.invokevirtual 39, 3) := by decide +kernel
theorem dX3_copyFrom_11 : decode cX3_copyFrom 11 = .ok (.aload_n 0, 1) := by decide +kernel
theorem dX3_copyFrom_12 : decode cX3_copyFrom 12 = .ok (.getfield 20, 3) := by decide +kernel
theorem dX3_copyFrom_15 : decode cX3_copyFrom 15 = .ok (.aload_n 1, 1) := by decide +kernel
theorem dX3_copyFrom_16 : decode cX3_copyFrom 16 = .ok (.getfield 20, 3) := by decide +kernel
theorem dX3_copyFrom_19 : decode cX3_copyFrom 19 = .ok (.invokevirtual 39, 3) := by decide +kernel
theorem dX3_copyFrom_22 : decode cX3_copyFrom 22 = .ok (.aload_n 0, 1) := by decide +kernel
theorem dX3_copyFrom_23 : decode cX3_copyFrom 23 = .ok (.getfield 23, 3) := by decide +kernel
theorem dX3_copyFrom_26 : decode cX3_copyFrom 26 = .ok (.aload_n 1, 1) := by decide +kernel
theorem dX3_copyFrom_27 : decode cX3_copyFrom 27 = .ok (.getfield 23, 3) := by decide +kernel
theorem dX3_copyFrom_30 : decode cX3_copyFrom 30 = .ok (.invokevirtual 39, 3) := by decide +kernel
theorem dX3_copyFrom_33 : decode cX3_copyFrom 33 = .ok (.aload_n 0, 1) := by decide +kernel
theorem dX3_copyFrom_34 : decode cX3_copyFrom 34 = .ok (.getfield 26, 3) := by decide +kernel
theorem dX3_copyFrom_37 : decode cX3_copyFrom 37 = .ok (.aload_n 1, 1) := by decide +kernel
theorem dX3_copyFrom_38 : decode cX3_copyFrom 38 = .ok (.getfield 26, 3) := by decide +kernel
theorem dX3_copyFrom_41 : decode cX3_copyFrom 41 = .ok (.invokevirtual 39, 3) := by decide +kernel
theorem dX3_copyFrom_44 : decode cX3_copyFrom 44 = .ok (.aload_n 0, 1) := by decide +kernel
theorem dX3_copyFrom_45 : decode cX3_copyFrom 45 = .ok (.getfield 29, 3) := by decide +kernel
theorem dX3_copyFrom_48 : decode cX3_copyFrom 48 = .ok (.aload_n 1, 1) := by decide +kernel
theorem dX3_copyFrom_49 : decode cX3_copyFrom 49 = .ok (.getfield 29, 3) := by decide +kernel
theorem dX3_copyFrom_52 : decode cX3_copyFrom 52 = .ok (.invokevirtual 39, 3) := by decide +kernel
theorem dX3_copyFrom_55 : decode cX3_copyFrom 55 = .ok (.aload_n 0, 1) := by decide +kernel
theorem dX3_copyFrom_56 : decode cX3_copyFrom 56 = .ok (.aload_n 1, 1) := by decide +kernel
theorem dX3_copyFrom_57 : decode cX3_copyFrom 57 = .ok (.getfield 32, 3) := by decide +kernel
theorem dX3_copyFrom_60 : decode cX3_copyFrom 60 = .ok (.putfield 32, 3) := by decide +kernel
theorem dX3_copyFrom_63 : decode cX3_copyFrom 63 = .ok (.aload_n 0, 1) := by decide +kernel
theorem dX3_copyFrom_64 : decode cX3_copyFrom 64 = .ok (.aload_n 1, 1) := by decide +kernel
theorem dX3_copyFrom_65 : decode cX3_copyFrom 65 = .ok (.getfield 36, 3) := by decide +kernel
theorem dX3_copyFrom_68 : decode cX3_copyFrom 68 = .ok (.putfield 36, 3) := by decide +kernel
theorem dX3_copyFrom_71 : decode cX3_copyFrom 71 = .ok (.return_, 1) := by decide +kernel
theorem dX3_isFull_0 : decode cX3_isFull 0 = .ok (.aload_n 0, 1) := by decide +kernel
theorem dX3_isFull_1 : decode cX3_isFull 1 = .ok (.getfield 32, 3) := by decide +kernel
theorem dX3_isFull_4 : decode cX3_isFull 4 = .ok (.bipush 16, 2) := by decide +kernel
theorem dX3_isFull_6 : decode cX3_isFull 6 = .ok (.if_icmp .lt 7, 3) := by decide +kernel
theorem dX3_isFull_9 : decode cX3_isFull 9 = .ok (.iconst 1, 1) := by decide +kernel
theorem dX3_isFull_10 : decode cX3_isFull 10 = .ok (.goto 4, 3) := by decide +kernel
theorem dX3_isFull_13 : decode cX3_isFull 13 = .ok (.iconst 0, 1) := by decide +kernel
theorem dX3_isFull_14 : decode cX3_isFull 14 = .ok (.ireturn, 1) := by decide +kernel
theorem dX3_addStep_0 : decode cX3_addStep 0 = .ok (.aload_n 0, 1) := by decide +kernel
theorem dX3_addStep_1 : decode cX3_addStep 1 = .ok (.getfield 36, 3) := by decide +kernel
theorem dX3_addStep_4 : decode cX3_addStep 4 = .ok (.sipush 400, 3) := by decide +kernel
theorem dX3_addStep_7 : decode cX3_addStep 7 = .ok (.if_icmp .ge 37, 3) := by decide +kernel
theorem dX3_addStep_10 : decode cX3_addStep 10 = .ok (.aload_n 0, 1) := by decide +kernel
theorem dX3_addStep_11 : decode cX3_addStep 11 = .ok (.getfield 26, 3) := by decide +kernel
theorem dX3_addStep_14 : decode cX3_addStep 14 = .ok (.aload_n 0, 1) := by decide +kernel
theorem dX3_addStep_15 : decode cX3_addStep 15 = .ok (.getfield 36, 3) := by decide +kernel
theorem dX3_addStep_18 : decode cX3_addStep 18 = .ok (.iload_n 1, 1) := by decide +kernel
theorem dX3_addStep_19 : decode cX3_addStep 19 = .ok (.invokevirtual 43, 3) := by decide +kernel
theorem dX3_addStep_22 : decode cX3_addStep 22 = .ok (.aload_n 0, 1) := by decide +kernel
theorem dX3_addStep_23 : decode cX3_addStep 23 = .ok (.getfield 29, 3) := by decide +kernel
theorem dX3_addStep_26 : decode cX3_addStep 26 = .ok (.aload_n 0, 1) := by decide +kernel
theorem dX3_addStep_27 : decode cX3_addStep 27 = .ok (.getfield 36, 3) := by decide +kernel
theorem dX3_addStep_30 : decode cX3_addStep 30 = .ok (.iload_n 2, 1) := by decide +kernel
theorem dX3_addStep_31 : decode cX3_addStep 31 = .ok (.invokevirtual 43, 3) := by decide +kernel
theorem dX3_addStep_34 : decode cX3_addStep 34 = .ok (.aload_n 0, 1) := by decide +kernel
theorem dX3_addStep_35 : decode cX3_addStep 35 = .ok (.dup, 1) := by decide +kernel
theorem dX3_addStep_36 : decode cX3_addStep 36 = .ok (.getfield 36, 3) := by decide +kernel
theorem dX3_addStep_39 : decode cX3_addStep 39 = .ok (.iconst 1, 1) := by decide +kernel
theorem dX3_addStep_40 : decode cX3_addStep 40 = .ok (.iadd, 1) := by decide +kernel
theorem dX3_addStep_41 : decode cX3_addStep 41 = .ok (.putfield 36, 3) := by decide +kernel
theorem dX3_addStep_44 : decode cX3_addStep 44 = .ok (.return_, 1) := by decide +kernel
theorem dX3_add_0 : decode cX3_add 0 = .ok (.aload_n 0, 1) := by decide +kernel
theorem dX3_add_1 : decode cX3_add 1 = .ok (.invokevirtual 47, 3) := by decide +kernel
theorem dX3_add_4 : decode cX3_add 4 = .ok (.ifCond .eq 4, 3) := by decide +kernel
theorem dX3_add_7 : decode cX3_add 7 = .ok (.return_, 1) := by decide +kernel
theorem dX3_add_8 : decode cX3_add 8 = .ok (.aload_n 0, 1) := by decide +kernel
theorem dX3_add_9 : decode cX3_add 9 = .ok (.getfield 14, 3) := by decide +kernel
theorem dX3_add_12 : decode cX3_add 12 = .ok (.aload_n 0, 1) := by decide +kernel
theorem dX3_add_13 : decode cX3_add 13 = .ok (.getfield 32, 3) := by decide +kernel
theorem dX3_add_16 : decode cX3_add 16 = .ok (.iload_n 1, 1) := by decide +kernel
theorem dX3_add_17 : decode cX3_add 17 = .ok (.invokestatic 51, 3) := by decide +kernel
theorem dX3_add_20 : decode cX3_add 20 = .ok (.invokevirtual 43, 3) := by decide +kernel
theorem dX3_add_23 : decode cX3_add 23 = .ok (.aload_n 0, 1) := by decide +kernel
theorem dX3_add_24 : decode cX3_add 24 = .ok (.getfield 20, 3) := by decide +kernel
theorem dX3_add_27 : decode cX3_add 27 = .ok (.aload_n 0, 1) := by decide +kernel
theorem dX3_add_28 : decode cX3_add 28 = .ok (.getfield 32, 3) := by decide +kernel
theorem dX3_add_31 : decode cX3_add 31 = .ok (.iload_n 2, 1) := by decide +kernel
theorem dX3_add_32 : decode cX3_add 32 = .ok (.invokevirtual 43, 3) := by decide +kernel
theorem dX3_add_35 : decode cX3_add 35 = .ok (.aload_n 0, 1) := by decide +kernel
theorem dX3_add_36 : decode cX3_add 36 = .ok (.getfield 23, 3) := by decide +kernel
theorem dX3_add_39 : decode cX3_add 39 = .ok (.aload_n 0, 1) := by decide +kernel
theorem dX3_add_40 : decode cX3_add 40 = .ok (.getfield 32, 3) := by decide +kernel
theorem dX3_add_43 : decode cX3_add 43 = .ok (.aload_n 0, 1) := by decide +kernel
theorem dX3_add_44 : decode cX3_add 44 = .ok (.getfield 36, 3) := by decide +kernel
theorem dX3_add_47 : decode cX3_add 47 = .ok (.invokevirtual 43, 3) := by decide +kernel
theorem dX3_add_50 : decode cX3_add 50 = .ok (.aload_n 0, 1) := by decide +kernel
theorem dX3_add_51 : decode cX3_add 51 = .ok (.dup, 1) := by decide +kernel
theorem dX3_add_52 : decode cX3_add 52 = .ok (.getfield 32, 3) := by decide +kernel
theorem dX3_add_55 : decode cX3_add 55 = .ok (.iconst 1, 1) := by decide +kernel
theorem dX3_add_56 : decode cX3_add 56 = .ok (.iadd, 1) := by decide +kernel
theorem dX3_add_57 : decode cX3_add 57 = .ok (.putfield 32, 3) := by decide +kernel
theorem dX3_add_60 : decode cX3_add 60 = .ok (.return_, 1) := by decide +kernel
theorem dX3_startOf_0 : decode cX3_startOf 0 = .ok (.iload_n 1, 1) := by decide +kernel
theorem dX3_startOf_1 : decode cX3_startOf 1 = .ok (.ifCond .le 16, 3) := by decide +kernel
theorem dX3_startOf_4 : decode cX3_startOf 4 = .ok (.aload_n 0, 1) := by decide +kernel
theorem dX3_startOf_5 : decode cX3_startOf 5 = .ok (.getfield 23, 3) := by decide +kernel
theorem dX3_startOf_8 : decode cX3_startOf 8 = .ok (.iload_n 1, 1) := by decide +kernel
theorem dX3_startOf_9 : decode cX3_startOf 9 = .ok (.iconst 1, 1) := by decide +kernel
theorem dX3_startOf_10 : decode cX3_startOf 10 = .ok (.isub, 1) := by decide +kernel
theorem dX3_startOf_11 : decode cX3_startOf 11 = .ok (.invokevirtual 55, 3) := by decide +kernel
theorem dX3_startOf_14 : decode cX3_startOf 14 = .ok (.goto 4, 3) := by decide +kernel
theorem dX3_startOf_17 : decode cX3_startOf 17 = .ok (.iconst 0, 1) := by decide +kernel
theorem dX3_startOf_18 : decode cX3_startOf 18 = .ok (.ireturn, 1) := by decide +kernel
theorem dX4_init_0 : decode cX4_init 0 = .ok (.aload_n 0, 1) := by decide +kernel
theorem dX4_init_1 : decode cX4_init 1 = .ok (.invokespecial 3, 3) := by decide +kernel
theorem dX4_init_4 : decode cX4_init 4 = .ok (.aload_n 0, 1) := by decide +kernel
theorem dX4_init_5 : decode cX4_init 5 = .ok (.new 9, 3) := by decide +kernel
theorem dX4_init_8 : decode cX4_init 8 = .ok (.dup, 1) := by decide +kernel
theorem dX4_init_9 : decode cX4_init 9 = .ok (.aload_n 1, 1) := by decide +kernel
theorem dX4_init_10 : decode cX4_init 10 = .ok (.invokespecial 11, 3) := by decide +kernel
theorem dX4_init_13 : decode cX4_init 13 = .ok (.putfield 14, 3) := by decide +kernel
theorem dX4_init_16 : decode cX4_init 16 = .ok (.aload_n 0, 1) := by decide +kernel
theorem dX4_init_17 : decode cX4_init 17 = .ok (.new 20, 3) := by decide +kernel
theorem dX4_init_20 : decode cX4_init 20 = .ok (.dup, 1) := by decide +kernel
theorem dX4_init_21 : decode cX4_init 21 = .ok (.invokespecial 22, 3) := by decide +kernel
theorem dX4_init_24 : decode cX4_init 24 = .ok (.putfield 23, 3) := by decide +kernel
theorem dX4_init_27 : decode cX4_init 27 = .ok (.aload_n 0, 1) := by decide +kernel
theorem dX4_init_28 : decode cX4_init 28 = .ok (.new 27, 3) := by decide +kernel
theorem dX4_init_31 : decode cX4_init 31 = .ok (.dup, 1) := by decide +kernel
theorem dX4_init_32 : decode cX4_init 32 = .ok (.bipush 8, 2) := by decide +kernel
theorem dX4_init_34 : decode cX4_init 34 = .ok (.invokespecial 29, 3) := by decide +kernel
theorem dX4_init_37 : decode cX4_init 37 = .ok (.putfield 32, 3) := by decide +kernel
theorem dX4_init_40 : decode cX4_init 40 = .ok (.aload_n 0, 1) := by decide +kernel
theorem dX4_init_41 : decode cX4_init 41 = .ok (.new 27, 3) := by decide +kernel
theorem dX4_init_44 : decode cX4_init 44 = .ok (.dup, 1) := by decide +kernel
theorem dX4_init_45 : decode cX4_init 45 = .ok (.bipush 10, 2) := by decide +kernel
theorem dX4_init_47 : decode cX4_init 47 = .ok (.invokespecial 29, 3) := by decide +kernel
theorem dX4_init_50 : decode cX4_init 50 = .ok (.putfield 36, 3) := by decide +kernel
theorem dX4_init_53 : decode cX4_init 53 = .ok (.return_, 1) := by decide +kernel
theorem dX4_read_0 : decode cX4_read 0 = .ok (.aload_n 0, 1) := by decide +kernel
theorem dX4_read_1 : decode cX4_read 1 = .ok (.iload_n 1, 1) := by decide +kernel
theorem dX4_read_2 : decode cX4_read 2 = .ok (.invokevirtual 39, 3) := by decide +kernel
theorem dX4_read_5 : decode cX4_read 5 = .ok (.iconst 0, 1) := by decide +kernel
theorem dX4_read_6 : decode cX4_read 6 = .ok (.istore_n 2, 1) := by decide +kernel
theorem dX4_read_7 : decode cX4_read 7 = .ok (.iload_n 2, 1) := by decide +kernel
theorem dX4_read_8 : decode cX4_read 8 = .ok (.sipush 400, 3) := by decide +kernel
theorem dX4_read_11 : decode cX4_read 11 = .ok (.if_icmp .ge 123, 3) := by decide +kernel
theorem dX4_read_14 : decode cX4_read 14 = .ok (.aload_n 0, 1) := by decide +kernel
theorem dX4_read_15 : decode cX4_read 15 = .ok (.getfield 42, 3) := by decide +kernel
theorem dX4_read_18 : decode cX4_read 18 = .ok (.sipush 132, 3) := by decide +kernel
theorem dX4_read_21 : decode cX4_read 21 = .ok (.if_icmp .eq 113, 3) := by decide +kernel
theorem dX4_read_24 : decode cX4_read 24 = .ok (.aload_n 0, 1) := by decide +kernel
theorem dX4_read_25 : decode cX4_read 25 = .ok (.getfield 46, 3) := by decide +kernel
theorem dX4_read_28 : decode cX4_read 28 = .ok (.iconst 1, 1) := by decide +kernel
theorem dX4_read_29 : decode cX4_read 29 = .ok (.if_icmp .eq 105, 3) := by decide +kernel
theorem dX4_read_32 : decode cX4_read 32 = .ok (.aload_n 0, 1) := by decide +kernel
theorem dX4_read_33 : decode cX4_read 33 = .ok (.getfield 42, 3) := by decide +kernel
theorem dX4_read_36 : decode cX4_read 36 = .ok (.sipush 200, 3) := by decide +kernel
theorem dX4_read_39 : decode cX4_read 39 = .ok (.if_icmp .ne 14, 3) := by decide +kernel
theorem dX4_read_42 : decode cX4_read 42 = .ok (.aload_n 0, 1) := by decide +kernel
theorem dX4_read_43 : decode cX4_read 43 = .ok (.aload_n 0, 1) := by decide +kernel
theorem dX4_read_44 : decode cX4_read 44 = .ok (.getfield 32, 3) := by decide +kernel
theorem dX4_read_47 : decode cX4_read 47 = .ok (.invokevirtual 49, 3) := by decide +kernel
theorem dX4_read_50 : decode cX4_read 50 = .ok (.goto 72, 3) := by decide +kernel
theorem dX4_read_53 : decode cX4_read 53 = .ok (.aload_n 0, 1) := by decide +kernel
theorem dX4_read_54 : decode cX4_read 54 = .ok (.getfield 42, 3) := by decide +kernel
theorem dX4_read_57 : decode cX4_read 57 = .ok (.sipush 201, 3) := by decide +kernel
theorem dX4_read_60 : decode cX4_read 60 = .ok (.if_icmp .ne 14, 3) := by decide +kernel
theorem dX4_read_63 : decode cX4_read 63 = .ok (.aload_n 0, 1) := by decide +kernel
theorem dX4_read_64 : decode cX4_read 64 = .ok (.aload_n 0, 1) := by decide +kernel
theorem dX4_read_65 : decode cX4_read 65 = .ok (.getfield 36, 3) := by decide +kernel
theorem dX4_read_68 : decode cX4_read 68 = .ok (.invokevirtual 49, 3) := by decide +kernel
theorem dX4_read_71 : decode cX4_read 71 = .ok (.goto 51, 3) := by decide +kernel
theorem dX4_read_74 : decode cX4_read 74 = .ok (.aload_n 0, 1) := by decide +kernel
theorem dX4_read_75 : decode cX4_read 75 = .ok (.getfield 42, 3) := by decide +kernel
theorem dX4_read_78 : decode cX4_read 78 = .ok (.sipush 202, 3) := by decide +kernel
theorem dX4_read_81 : decode cX4_read 81 = .ok (.if_icmp .ne 10, 3) := by decide +kernel
theorem dX4_read_84 : decode cX4_read 84 = .ok (.aload_n 0, 1) := by decide +kernel
theorem dX4_read_85 : decode cX4_read 85 = .ok (.invokevirtual 53, 3) := by decide +kernel
theorem dX4_read_88 : decode cX4_read 88 = .ok (.goto 34, 3) := by decide +kernel
theorem dX4_read_91 : decode cX4_read 91 = .ok (.aload_n 0, 1) := by decide +kernel
theorem dX4_read_92 : decode cX4_read 92 = .ok (.getfield 42, 3) := by decide +kernel
theorem dX4_read_95 : decode cX4_read 95 = .ok (.sipush 207, 3) := by decide +kernel
theorem dX4_read_98 : decode cX4_read 98 = .ok (.if_icmp .eq 13, 3) := by decide +kernel
theorem dX4_read_101 : decode cX4_read 101 = .ok (.aload_n 0, 1) := by decide +kernel
theorem dX4_read_102 : decode cX4_read 102 = .ok (.getfield 42, 3) := by decide +kernel
theorem dX4_read_105 : decode cX4_read 105 = .ok (.sipush 208, 3) := by decide +kernel
theorem dX4_read_108 : decode cX4_read 108 = .ok (.if_icmp .ne 10, 3) := by decide +kernel
theorem dX4_read_111 : decode cX4_read 111 = .ok (.aload_n 0, 1) := by decide +kernel
theorem dX4_read_112 : decode cX4_read 112 = .ok (.invokevirtual 56, 3) := by decide +kernel
theorem dX4_read_115 : decode cX4_read 115 = .ok (.goto 7, 3) := by decide +kernel
theorem dX4_read_118 : decode cX4_read 118 = .ok (.aload_n 0, 1) := by decide +kernel
theorem dX4_read_119 : decode cX4_read 119 = .ok (.invokevirtual 59, 3) := by decide +kernel
theorem dX4_read_122 : decode cX4_read 122 = .ok (.aload_n 0, 1) := by decide +kernel
theorem dX4_read_123 : decode cX4_read 123 = .ok (.bipush 59, 2) := by decide +kernel
theorem dX4_read_125 : decode cX4_read 125 = .ok (.invokevirtual 62, 3) := by decide +kernel
theorem dX4_read_128 : decode cX4_read 128 = .ok (.iinc 2 1, 3) := by decide +kernel
theorem dX4_read_131 : decode cX4_read 131 = .ok (.goto (-124), 3) := by decide +kernel
theorem dX4_read_134 : decode cX4_read 134 = .ok (.aload_n 0, 1) := by decide +kernel
theorem dX4_read_135 : decode cX4_read 135 = .ok (.getfield 23, 3) := by decide +kernel
theorem dX4_read_138 : decode cX4_read 138 = .ok (.aload_n 0, 1) := by decide +kernel
theorem dX4_read_139 : decode cX4_read 139 = .ok (.getfield 32, 3) := by decide +kernel
theorem dX4_read_142 : decode cX4_read 142 = .ok (.getfield 65, 3) := by decide +kernel
theorem dX4_read_145 : decode cX4_read 145 = .ok (.putfield 68, 3) := by decide +kernel
theorem dX4_read_148 : decode cX4_read 148 = .ok (.aload_n 0, 1) := by decide +kernel
theorem dX4_read_149 : decode cX4_read 149 = .ok (.getfield 23, 3) := by decide +kernel
theorem dX4_read_152 : decode cX4_read 152 = .ok (.aload_n 0, 1) := by decide +kernel
theorem dX4_read_153 : decode cX4_read 153 = .ok (.getfield 36, 3) := by decide +kernel
theorem dX4_read_156 : decode cX4_read 156 = .ok (.getfield 65, 3) := by decide +kernel
theorem dX4_read_159 : decode cX4_read 159 = .ok (.putfield 71, 3) := by decide +kernel
theorem dX4_read_162 : decode cX4_read 162 = .ok (.aload_n 0, 1) := by decide +kernel
theorem dX4_read_163 : decode cX4_read 163 = .ok (.getfield 46, 3) := by decide +kernel
theorem dX4_read_166 : decode cX4_read 166 = .ok (.ireturn, 1) := by decide +kernel
theorem dX4_restart_0 : decode cX4_restart 0 = .ok (.aload_n 0, 1) := by decide +kernel
theorem dX4_restart_1 : decode cX4_restart 1 = .ok (.getfield 14, 3) := by decide +kernel
theorem dX4_restart_4 : decode cX4_restart 4 = .ok (.iload_n 1, 1) := by decide +kernel
theorem dX4_restart_5 : decode cX4_restart 5 = .ok (.invokevirtual 74, 3) := by decide +kernel
theorem dX4_restart_8 : decode cX4_restart 8 = .ok (.aload_n 0, 1) := by decide +kernel
theorem dX4_restart_9 : decode cX4_restart 9 = .ok (.getfield 23, 3) := by decide +kernel
theorem dX4_restart_12 : decode cX4_restart 12 = .ok (.invokevirtual 77, 3) := by decide +kernel
theorem dX4_restart_15 : decode cX4_restart 15 = .ok (.aload_n 0, 1) := by decide +kernel
theorem dX4_restart_16 : decode cX4_restart 16 = .ok (.getfield 32, 3) := by decide +kernel
theorem dX4_restart_19 : decode cX4_restart 19 = .ok (.iconst 0, 1) := by decide +kernel
theorem dX4_restart_20 : decode cX4_restart 20 = .ok (.putfield 65, 3) := by decide +kernel
theorem dX4_restart_23 : decode cX4_restart 23 = .ok (.aload_n 0, 1) := by decide +kernel
theorem dX4_restart_24 : decode cX4_restart 24 = .ok (.getfield 36, 3) := by decide +kernel
theorem dX4_restart_27 : decode cX4_restart 27 = .ok (.iconst 0, 1) := by decide +kernel
theorem dX4_restart_28 : decode cX4_restart 28 = .ok (.putfield 65, 3) := by decide +kernel
theorem dX4_restart_31 : decode cX4_restart 31 = .ok (.aload_n 0, 1) := by decide +kernel
theorem dX4_restart_32 : decode cX4_restart 32 = .ok (.iconst 0, 1) := by decide +kernel
theorem dX4_restart_33 : decode cX4_restart 33 = .ok (.putfield 80, 3) := by decide +kernel
theorem dX4_restart_36 : decode cX4_restart 36 = .ok (.aload_n 0, 1) := by decide +kernel
theorem dX4_restart_37 : decode cX4_restart 37 = .ok (.aload_n 0, 1) := by decide +kernel
theorem dX4_restart_38 : decode cX4_restart 38 = .ok (.getfield 14, 3) := by decide +kernel
theorem dX4_restart_41 : decode cX4_restart 41 = .ok (.getfield 83, 3) := by decide +kernel
theorem dX4_restart_44 : decode cX4_restart 44 = .ok (.iconst 0, 1) := by decide +kernel
theorem dX4_restart_45 : decode cX4_restart 45 = .ok (.invokevirtual 87, 3) := by decide +kernel
theorem dX4_restart_48 : decode cX4_restart 48 = .ok (.putfield 42, 3) := by decide +kernel
theorem dX4_restart_51 : decode cX4_restart 51 = .ok (.aload_n 0, 1) := by decide +kernel
theorem dX4_restart_52 : decode cX4_restart 52 = .ok (.iconst 0, 1) := by decide +kernel
theorem dX4_restart_53 : decode cX4_restart 53 = .ok (.putfield 93, 3) := by decide +kernel
theorem dX4_restart_56 : decode cX4_restart 56 = .ok (.aload_n 0, 1) := by decide +kernel
theorem dX4_restart_57 : decode cX4_restart 57 = .ok (.iconst 0, 1) := by decide +kernel
theorem dX4_restart_58 : decode cX4_restart 58 = .ok (.putfield 46, 3) := by decide +kernel
theorem dX4_restart_61 : decode cX4_restart 61 = .ok (.aload_n 0, 1) := by decide +kernel
theorem dX4_restart_62 : decode cX4_restart 62 = .ok (.iconst (-1), 1) := by decide +kernel
theorem dX4_restart_63 : decode cX4_restart 63 = .ok (.putfield 96, 3) := by decide +kernel
theorem dX4_restart_66 : decode cX4_restart 66 = .ok (.return_, 1) := by decide +kernel
theorem dX4_advance_0 : decode cX4_advance 0 = .ok (.aload_n 0, 1) := by decide +kernel
theorem dX4_advance_1 : decode cX4_advance 1 = .ok (.dup, 1) := by decide +kernel
theorem dX4_advance_2 : decode cX4_advance 2 = .ok (.getfield 80, 3) := by decide +kernel
theorem dX4_advance_5 : decode cX4_advance 5 = .ok (.iconst 1, 1) := by decide +kernel
theorem dX4_advance_6 : decode cX4_advance 6 = .ok (.iadd, 1) := by decide +kernel
theorem dX4_advance_7 : decode cX4_advance 7 = .ok (.putfield 80, 3) := by decide +kernel
theorem dX4_advance_10 : decode cX4_advance 10 = .ok (.aload_n 0, 1) := by decide +kernel
theorem dX4_advance_11 : decode cX4_advance 11 = .ok (.aload_n 0, 1) := by decide +kernel
theorem dX4_advance_12 : decode cX4_advance 12 = .ok (.getfield 14, 3) := by decide +kernel
theorem dX4_advance_15 : decode cX4_advance 15 = .ok (.getfield 83, 3) := by decide +kernel
theorem dX4_advance_18 : decode cX4_advance 18 = .ok (.aload_n 0, 1) := by decide +kernel
theorem dX4_advance_19 : decode cX4_advance 19 = .ok (.getfield 80, 3) := by decide +kernel
theorem dX4_advance_22 : decode cX4_advance 22 = .ok (.invokevirtual 87, 3) := by decide +kernel
theorem dX4_advance_25 : decode cX4_advance 25 = .ok (.putfield 42, 3) := by decide +kernel
theorem dX4_advance_28 : decode cX4_advance 28 = .ok (.return_, 1) := by decide +kernel
theorem dX4_note_0 : decode cX4_note 0 = .ok (.aload_n 0, 1) := by decide +kernel
theorem dX4_note_1 : decode cX4_note 1 = .ok (.getfield 46, 3) := by decide +kernel
theorem dX4_note_4 : decode cX4_note 4 = .ok (.ifCond .eq 16, 3) := by decide +kernel
theorem dX4_note_7 : decode cX4_note 7 = .ok (.iload_n 1, 1) := by decide +kernel
theorem dX4_note_8 : decode cX4_note 8 = .ok (.iconst 1, 1) := by decide +kernel
theorem dX4_note_9 : decode cX4_note 9 = .ok (.if_icmp .ne 34, 3) := by decide +kernel
theorem dX4_note_12 : decode cX4_note 12 = .ok (.aload_n 0, 1) := by decide +kernel
theorem dX4_note_13 : decode cX4_note 13 = .ok (.getfield 46, 3) := by decide +kernel
theorem dX4_note_16 : decode cX4_note 16 = .ok (.iconst 1, 1) := by decide +kernel
theorem dX4_note_17 : decode cX4_note 17 = .ok (.if_icmp .eq 26, 3) := by decide +kernel
theorem dX4_note_20 : decode cX4_note 20 = .ok (.aload_n 0, 1) := by decide +kernel
theorem dX4_note_21 : decode cX4_note 21 = .ok (.iload_n 1, 1) := by decide +kernel
theorem dX4_note_22 : decode cX4_note 22 = .ok (.putfield 46, 3) := by decide +kernel
theorem dX4_note_25 : decode cX4_note 25 = .ok (.aload_n 0, 1) := by decide +kernel
theorem dX4_note_26 : decode cX4_note 26 = .ok (.aload_n 0, 1) := by decide +kernel
theorem dX4_note_27 : decode cX4_note 27 = .ok (.getfield 14, 3) := by decide +kernel
theorem dX4_note_30 : decode cX4_note 30 = .ok (.getfield 99, 3) := by decide +kernel
theorem dX4_note_33 : decode cX4_note 33 = .ok (.aload_n 0, 1) := by decide +kernel
theorem dX4_note_34 : decode cX4_note 34 = .ok (.getfield 80, 3) := by decide +kernel
theorem dX4_note_37 : decode cX4_note 37 = .ok (.invokevirtual 87, 3) := by decide +kernel
theorem dX4_note_40 : decode cX4_note 40 = .ok (.putfield 96, 3) := by decide +kernel
theorem dX4_note_43 : decode cX4_note 43 = .ok (.return_, 1) := by decide +kernel
theorem dX4_fail_0 : decode cX4_fail 0 = .ok (.aload_n 0, 1) := by decide +kernel
theorem dX4_fail_1 : decode cX4_fail 1 = .ok (.iconst 1, 1) := by decide +kernel
theorem dX4_fail_2 : decode cX4_fail 2 = .ok (.invokevirtual 102, 3) := by decide +kernel
theorem dX4_fail_5 : decode cX4_fail 5 = .ok (.aload_n 0, 1) := by decide +kernel
theorem dX4_fail_6 : decode cX4_fail 6 = .ok (.sipush 133, 3) := by decide +kernel
theorem dX4_fail_9 : decode cX4_fail 9 = .ok (.putfield 42, 3) := by decide +kernel
theorem dX4_fail_12 : decode cX4_fail 12 = .ok (.return_, 1) := by decide +kernel
theorem dX4_expect_0 : decode cX4_expect 0 = .ok (.aload_n 0, 1) := by decide +kernel
theorem dX4_expect_1 : decode cX4_expect 1 = .ok (.getfield 42, 3) := by decide +kernel
theorem dX4_expect_4 : decode cX4_expect 4 = .ok (.iload_n 1, 1) := by decide +kernel
theorem dX4_expect_5 : decode cX4_expect 5 = .ok (.if_icmp .ne 10, 3) := by decide +kernel
theorem dX4_expect_8 : decode cX4_expect 8 = .ok (.aload_n 0, 1) := by decide +kernel
theorem dX4_expect_9 : decode cX4_expect 9 = .ok (.invokevirtual 105, 3) := by decide +kernel
theorem dX4_expect_12 : decode cX4_expect 12 = .ok (.goto 7, 3) := by decide +kernel
theorem dX4_expect_15 : decode cX4_expect 15 = .ok (.aload_n 0, 1) := by decide +kernel
theorem dX4_expect_16 : decode cX4_expect 16 = .ok (.invokevirtual 59, 3) := by decide +kernel
theorem dX4_expect_19 : decode cX4_expect 19 = .ok (.return_, 1) := by decide +kernel
theorem dX4_deepen_0 : decode cX4_deepen 0 = .ok (.aload_n 0, 1) := by decide +kernel
theorem dX4_deepen_1 : decode cX4_deepen 1 = .ok (.getfield 93, 3) := by decide +kernel
theorem dX4_deepen_4 : decode cX4_deepen 4 = .ok (.bipush 8, 2) := by decide +kernel
theorem dX4_deepen_6 : decode cX4_deepen 6 = .ok (.if_icmp .lt 9, 3) := by decide +kernel
theorem dX4_deepen_9 : decode cX4_deepen 9 = .ok (.aload_n 0, 1) := by decide +kernel
theorem dX4_deepen_10 : decode cX4_deepen 10 = .ok (.invokevirtual 59, 3) := by decide +kernel
theorem dX4_deepen_13 : decode cX4_deepen 13 = .ok (.iconst 0, 1) := by decide +kernel
theorem dX4_deepen_14 : decode cX4_deepen 14 = .ok (.ireturn, 1) := by decide +kernel
theorem dX4_deepen_15 : decode cX4_deepen 15 = .ok (.aload_n 0, 1) := by decide +kernel
theorem dX4_deepen_16 : decode cX4_deepen 16 = .ok (.dup, 1) := by decide +kernel
theorem dX4_deepen_17 : decode cX4_deepen 17 = .ok (.getfield 93, 3) := by decide +kernel
theorem dX4_deepen_20 : decode cX4_deepen 20 = .ok (.iconst 1, 1) := by decide +kernel
theorem dX4_deepen_21 : decode cX4_deepen 21 = .ok (.iadd, 1) := by decide +kernel
theorem dX4_deepen_22 : decode cX4_deepen 22 = .ok (.putfield 93, 3) := by decide +kernel
theorem dX4_deepen_25 : decode cX4_deepen 25 = .ok (.aload_n 0, 1) := by decide +kernel
theorem dX4_deepen_26 : decode cX4_deepen 26 = .ok (.invokevirtual 105, 3) := by decide +kernel
theorem dX4_deepen_29 : decode cX4_deepen 29 = .ok (.iconst 1, 1) := by decide +kernel
theorem dX4_deepen_30 : decode cX4_deepen 30 = .ok (.ireturn, 1) := by decide +kernel
theorem dX4_readNew_0 : decode cX4_readNew 0 = .ok (.aload_n 0, 1) := by decide +kernel
theorem dX4_readNew_1 : decode cX4_readNew 1 = .ok (.invokevirtual 105, 3) := by decide +kernel
theorem dX4_readNew_4 : decode cX4_readNew 4 = .ok (.aload_n 0, 1) := by decide +kernel
theorem dX4_readNew_5 : decode cX4_readNew 5 = .ok (.getfield 42, 3) := by decide +kernel
theorem dX4_readNew_8 : decode cX4_readNew 8 = .ok (.sipush 130, 3) := by decide +kernel
theorem dX4_readNew_11 : decode cX4_readNew 11 = .ok (.if_icmp .eq 8, 3) := by decide +kernel
theorem dX4_readNew_14 : decode cX4_readNew 14 = .ok (.aload_n 0, 1) := by decide +kernel
theorem dX4_readNew_15 : decode cX4_readNew 15 = .ok (.invokevirtual 59, 3) := by decide +kernel
theorem dX4_readNew_18 : decode cX4_readNew 18 = .ok (.return_, 1) := by decide +kernel
theorem dX4_readNew_19 : decode cX4_readNew 19 = .ok (.aload_n 1, 1) := by decide +kernel
theorem dX4_readNew_20 : decode cX4_readNew 20 = .ok (.aload_n 0, 1) := by decide +kernel
theorem dX4_readNew_21 : decode cX4_readNew 21 = .ok (.getfield 14, 3) := by decide +kernel
theorem dX4_readNew_24 : decode cX4_readNew 24 = .ok (.aload_n 0, 1) := by decide +kernel
theorem dX4_readNew_25 : decode cX4_readNew 25 = .ok (.getfield 80, 3) := by decide +kernel
theorem dX4_readNew_28 : decode cX4_readNew 28 = .ok (.invokevirtual 108, 3) := by decide +kernel
theorem dX4_readNew_31 : decode cX4_readNew 31 = .ok (.invokevirtual 112, 3) := by decide +kernel
theorem dX4_readNew_34 : decode cX4_readNew 34 = .ok (.ifCond .lt 11, 3) := by decide +kernel
theorem dX4_readNew_37 : decode cX4_readNew 37 = .ok (.aload_n 0, 1) := by decide +kernel
theorem dX4_readNew_38 : decode cX4_readNew 38 = .ok (.iconst 2, 1) := by decide +kernel
theorem dX4_readNew_39 : decode cX4_readNew 39 = .ok (.invokevirtual 102, 3) := by decide +kernel
theorem dX4_readNew_42 : decode cX4_readNew 42 = .ok (.goto 33, 3) := by decide +kernel
theorem dX4_readNew_45 : decode cX4_readNew 45 = .ok (.aload_n 1, 1) := by decide +kernel
theorem dX4_readNew_46 : decode cX4_readNew 46 = .ok (.invokevirtual 116, 3) := by decide +kernel
theorem dX4_readNew_49 : decode cX4_readNew 49 = .ok (.ifCond .eq 11, 3) := by decide +kernel
theorem dX4_readNew_52 : decode cX4_readNew 52 = .ok (.aload_n 0, 1) := by decide +kernel
theorem dX4_readNew_53 : decode cX4_readNew 53 = .ok (.iconst 4, 1) := by decide +kernel
theorem dX4_readNew_54 : decode cX4_readNew 54 = .ok (.invokevirtual 102, 3) := by decide +kernel
theorem dX4_readNew_57 : decode cX4_readNew 57 = .ok (.goto 18, 3) := by decide +kernel
theorem dX4_readNew_60 : decode cX4_readNew 60 = .ok (.aload_n 1, 1) := by decide +kernel
theorem dX4_readNew_61 : decode cX4_readNew 61 = .ok (.aload_n 0, 1) := by decide +kernel
theorem dX4_readNew_62 : decode cX4_readNew 62 = .ok (.getfield 14, 3) := by decide +kernel
theorem dX4_readNew_65 : decode cX4_readNew 65 = .ok (.aload_n 0, 1) := by decide +kernel
theorem dX4_readNew_66 : decode cX4_readNew 66 = .ok (.getfield 80, 3) := by decide +kernel
theorem dX4_readNew_69 : decode cX4_readNew 69 = .ok (.invokevirtual 108, 3) := by decide +kernel
theorem dX4_readNew_72 : decode cX4_readNew 72 = .ok (.invokevirtual 120, 3) := by decide +kernel
theorem dX4_readNew_75 : decode cX4_readNew 75 = .ok (.aload_n 0, 1) := by decide +kernel
theorem dX4_readNew_76 : decode cX4_readNew 76 = .ok (.invokevirtual 105, 3) := by decide +kernel
theorem dX4_readNew_79 : decode cX4_readNew 79 = .ok (.return_, 1) := by decide +kernel
theorem dX4_readKnown_0 : decode cX4_readKnown 0 = .ok (.aload_n 0, 1) := by decide +kernel
theorem dX4_readKnown_1 : decode cX4_readKnown 1 = .ok (.getfield 42, 3) := by decide +kernel
theorem dX4_readKnown_4 : decode cX4_readKnown 4 = .ok (.sipush 130, 3) := by decide +kernel
theorem dX4_readKnown_7 : decode cX4_readKnown 7 = .ok (.if_icmp .eq 9, 3) := by decide +kernel
theorem dX4_readKnown_10 : decode cX4_readKnown 10 = .ok (.aload_n 0, 1) := by decide +kernel
theorem dX4_readKnown_11 : decode cX4_readKnown 11 = .ok (.invokevirtual 59, 3) := by decide +kernel
theorem dX4_readKnown_14 : decode cX4_readKnown 14 = .ok (.iconst (-1), 1) := by decide +kernel
theorem dX4_readKnown_15 : decode cX4_readKnown 15 = .ok (.ireturn, 1) := by decide +kernel
theorem dX4_readKnown_16 : decode cX4_readKnown 16 = .ok (.aload_n 1, 1) := by decide +kernel
theorem dX4_readKnown_17 : decode cX4_readKnown 17 = .ok (.aload_n 0, 1) := by decide +kernel
theorem dX4_readKnown_18 : decode cX4_readKnown 18 = .ok (.getfield 14, 3) := by decide +kernel
theorem dX4_readKnown_21 : decode cX4_readKnown 21 = .ok (.aload_n 0, 1) := by decide +kernel
theorem dX4_readKnown_22 : decode cX4_readKnown 22 = .ok (.getfield 80, 3) := by decide +kernel
theorem dX4_readKnown_25 : decode cX4_readKnown 25 = .ok (.invokevirtual 108, 3) := by decide +kernel
theorem dX4_readKnown_28 : decode cX4_readKnown 28 = .ok (.invokevirtual 112, 3) := by decide +kernel
theorem dX4_readKnown_31 : decode cX4_readKnown 31 = .ok (.istore_n 2, 1) := by decide +kernel
theorem dX4_readKnown_32 : decode cX4_readKnown 32 = .ok (.iload_n 2, 1) := by decide +kernel
theorem dX4_readKnown_33 : decode cX4_readKnown 33 = .ok (.ifCond .ge 8, 3) := by decide +kernel
theorem dX4_readKnown_36 : decode cX4_readKnown 36 = .ok (.aload_n 0, 1) := by decide +kernel
theorem dX4_readKnown_37 : decode cX4_readKnown 37 = .ok (.iconst 3, 1) := by decide +kernel
theorem dX4_readKnown_38 : decode cX4_readKnown 38 = .ok (.invokevirtual 102, 3) := by decide +kernel
theorem dX4_readKnown_41 : decode cX4_readKnown 41 = .ok (.aload_n 0, 1) := by decide +kernel
theorem dX4_readKnown_42 : decode cX4_readKnown 42 = .ok (.invokevirtual 105, 3) := by decide +kernel
theorem dX4_readKnown_45 : decode cX4_readKnown 45 = .ok (.iload_n 2, 1) := by decide +kernel
theorem dX4_readKnown_46 : decode cX4_readKnown 46 = .ok (.ireturn, 1) := by decide +kernel
theorem dX4_readClaim_0 : decode cX4_readClaim 0 = .ok (.aload_n 0, 1) := by decide +kernel
theorem dX4_readClaim_1 : decode cX4_readClaim 1 = .ok (.getfield 23, 3) := by decide +kernel
theorem dX4_readClaim_4 : decode cX4_readClaim 4 = .ok (.getfield 124, 3) := by decide +kernel
theorem dX4_readClaim_7 : decode cX4_readClaim 7 = .ok (.invokevirtual 128, 3) := by decide +kernel
theorem dX4_readClaim_10 : decode cX4_readClaim 10 = .ok (.ifCond .eq 8, 3) := by decide +kernel
theorem dX4_readClaim_13 : decode cX4_readClaim 13 = .ok (.aload_n 0, 1) := by decide +kernel
theorem dX4_readClaim_14 : decode cX4_readClaim 14 = .ok (.iconst 4, 1) := by decide +kernel
theorem dX4_readClaim_15 : decode cX4_readClaim 15 = .ok (.invokevirtual 102, 3) := by decide +kernel
theorem dX4_readClaim_18 : decode cX4_readClaim 18 = .ok (.aload_n 0, 1) := by decide +kernel
theorem dX4_readClaim_19 : decode cX4_readClaim 19 = .ok (.invokevirtual 105, 3) := by decide +kernel
theorem dX4_readClaim_22 : decode cX4_readClaim 22 = .ok (.aload_n 0, 1) := by decide +kernel
theorem dX4_readClaim_23 : decode cX4_readClaim 23 = .ok (.aload_n 0, 1) := by decide +kernel
theorem dX4_readClaim_24 : decode cX4_readClaim 24 = .ok (.getfield 36, 3) := by decide +kernel
theorem dX4_readClaim_27 : decode cX4_readClaim 27 = .ok (.invokevirtual 131, 3) := by decide +kernel
theorem dX4_readClaim_30 : decode cX4_readClaim 30 = .ok (.istore_n 1, 1) := by decide +kernel
theorem dX4_readClaim_31 : decode cX4_readClaim 31 = .ok (.aload_n 0, 1) := by decide +kernel
theorem dX4_readClaim_32 : decode cX4_readClaim 32 = .ok (.aload_n 0, 1) := by decide +kernel
theorem dX4_readClaim_33 : decode cX4_readClaim 33 = .ok (.getfield 32, 3) := by decide +kernel
theorem dX4_readClaim_36 : decode cX4_readClaim 36 = .ok (.invokevirtual 131, 3) := by decide +kernel
theorem dX4_readClaim_39 : decode cX4_readClaim 39 = .ok (.istore_n 2, 1) := by decide +kernel
theorem dX4_readClaim_40 : decode cX4_readClaim 40 = .ok (.aload_n 0, 1) := by decide +kernel
theorem dX4_readClaim_41 : decode cX4_readClaim 41 = .ok (.getfield 42, 3) := by decide +kernel
theorem dX4_readClaim_44 : decode cX4_readClaim 44 = .ok (.sipush 203, 3) := by decide +kernel
theorem dX4_readClaim_47 : decode cX4_readClaim 47 = .ok (.if_icmp .ne 12, 3) := by decide +kernel
theorem dX4_readClaim_50 : decode cX4_readClaim 50 = .ok (.aload_n 0, 1) := by decide +kernel
theorem dX4_readClaim_51 : decode cX4_readClaim 51 = .ok (.iload_n 1, 1) := by decide +kernel
theorem dX4_readClaim_52 : decode cX4_readClaim 52 = .ok (.iload_n 2, 1) := by decide +kernel
theorem dX4_readClaim_53 : decode cX4_readClaim 53 = .ok (.invokevirtual 135, 3) := by decide +kernel
theorem dX4_readClaim_56 : decode cX4_readClaim 56 = .ok (.goto 36, 3) := by decide +kernel
theorem dX4_readClaim_59 : decode cX4_readClaim 59 = .ok (.aload_n 0, 1) := by decide +kernel
theorem dX4_readClaim_60 : decode cX4_readClaim 60 = .ok (.getfield 42, 3) := by decide +kernel
theorem dX4_readClaim_63 : decode cX4_readClaim 63 = .ok (.sipush 205, 3) := by decide +kernel
theorem dX4_readClaim_66 : decode cX4_readClaim 66 = .ok (.if_icmp .eq 13, 3) := by decide +kernel
theorem dX4_readClaim_69 : decode cX4_readClaim 69 = .ok (.aload_n 0, 1) := by decide +kernel
theorem dX4_readClaim_70 : decode cX4_readClaim 70 = .ok (.getfield 42, 3) := by decide +kernel
theorem dX4_readClaim_73 : decode cX4_readClaim 73 = .ok (.sipush 206, 3) := by decide +kernel
theorem dX4_readClaim_76 : decode cX4_readClaim 76 = .ok (.if_icmp .ne 12, 3) := by decide +kernel
theorem dX4_readClaim_79 : decode cX4_readClaim 79 = .ok (.aload_n 0, 1) := by decide +kernel
theorem dX4_readClaim_80 : decode cX4_readClaim 80 = .ok (.iload_n 1, 1) := by decide +kernel
theorem dX4_readClaim_81 : decode cX4_readClaim 81 = .ok (.iload_n 2, 1) := by decide +kernel
theorem dX4_readClaim_82 : decode cX4_readClaim 82 = .ok (.invokevirtual 139, 3) := by decide +kernel
theorem dX4_readClaim_85 : decode cX4_readClaim 85 = .ok (.goto 7, 3) := by decide +kernel
theorem dX4_readClaim_88 : decode cX4_readClaim 88 = .ok (.aload_n 0, 1) := by decide +kernel
theorem dX4_readClaim_89 : decode cX4_readClaim 89 = .ok (.invokevirtual 59, 3) := by decide +kernel
theorem dX4_readClaim_92 : decode cX4_readClaim 92 = .ok (.return_, 1) := by decide +kernel
theorem dX4_readHours_0 : decode cX4_readHours 0 = .ok (.aload_n 0, 1) := by decide +kernel
theorem dX4_readHours_1 : decode cX4_readHours 1 = .ok (.invokevirtual 105, 3) := by decide +kernel
theorem dX4_readHours_4 : decode cX4_readHours 4 = .ok (.aload_n 0, 1) := by decide +kernel
theorem dX4_readHours_5 : decode cX4_readHours 5 = .ok (.iconst 0, 1) := by decide +kernel
theorem dX4_readHours_6 : decode cX4_readHours 6 = .ok (.invokevirtual 142, 3) := by decide +kernel
theorem dX4_readHours_9 : decode cX4_readHours 9 = .ok (.istore_n 3, 1) := by decide +kernel
theorem dX4_readHours_10 : decode cX4_readHours 10 = .ok (.iload_n 3, 1) := by decide +kernel
theorem dX4_readHours_11 : decode cX4_readHours 11 = .ok (.istore 4, 2) := by decide +kernel
theorem dX4_readHours_13 : decode cX4_readHours 13 = .ok (.aload_n 0, 1) := by decide +kernel
theorem dX4_readHours_14 : decode cX4_readHours 14 = .ok (.getfield 42, 3) := by decide +kernel
theorem dX4_readHours_17 : decode cX4_readHours 17 = .ok (.sipush 204, 3) := by decide +kernel
theorem dX4_readHours_20 : decode cX4_readHours 20 = .ok (.if_icmp .ne 14, 3) := by decide +kernel
theorem dX4_readHours_23 : decode cX4_readHours 23 = .ok (.aload_n 0, 1) := by decide +kernel
theorem dX4_readHours_24 : decode cX4_readHours 24 = .ok (.invokevirtual 105, 3) := by decide +kernel
theorem dX4_readHours_27 : decode cX4_readHours 27 = .ok (.aload_n 0, 1) := by decide +kernel
theorem dX4_readHours_28 : decode cX4_readHours 28 = .ok (.iload_n 3, 1) := by decide +kernel
theorem dX4_readHours_29 : decode cX4_readHours 29 = .ok (.invokevirtual 142, 3) := by decide +kernel
theorem dX4_readHours_32 : decode cX4_readHours 32 = .ok (.istore 4, 2) := by decide +kernel
theorem dX4_readHours_34 : decode cX4_readHours 34 = .ok (.aload_n 0, 1) := by decide +kernel
theorem dX4_readHours_35 : decode cX4_readHours 35 = .ok (.getfield 46, 3) := by decide +kernel
theorem dX4_readHours_38 : decode cX4_readHours 38 = .ok (.ifCond .ne 19, 3) := by decide +kernel
theorem dX4_readHours_41 : decode cX4_readHours 41 = .ok (.aload_n 0, 1) := by decide +kernel
theorem dX4_readHours_42 : decode cX4_readHours 42 = .ok (.getfield 23, 3) := by decide +kernel
theorem dX4_readHours_45 : decode cX4_readHours 45 = .ok (.getfield 124, 3) := by decide +kernel
theorem dX4_readHours_48 : decode cX4_readHours 48 = .ok (.iload_n 1, 1) := by decide +kernel
theorem dX4_readHours_49 : decode cX4_readHours 49 = .ok (.iconst 0, 1) := by decide +kernel
theorem dX4_readHours_50 : decode cX4_readHours 50 = .ok (.iload_n 2, 1) := by decide +kernel
theorem dX4_readHours_51 : decode cX4_readHours 51 = .ok (.iload_n 3, 1) := by decide +kernel
theorem dX4_readHours_52 : decode cX4_readHours 52 = .ok (.iload 4, 2) := by decide +kernel
theorem dX4_readHours_54 : decode cX4_readHours 54 = .ok (.invokevirtual 145, 3) := by decide +kernel
theorem dX4_readHours_57 : decode cX4_readHours 57 = .ok (.return_, 1) := by decide +kernel
theorem dX4_readHour_0 : decode cX4_readHour 0 = .ok (.aload_n 0, 1) := by decide +kernel
theorem dX4_readHour_1 : decode cX4_readHour 1 = .ok (.getfield 14, 3) := by decide +kernel
theorem dX4_readHour_4 : decode cX4_readHour 4 = .ok (.getfield 148, 3) := by decide +kernel
theorem dX4_readHour_7 : decode cX4_readHour 7 = .ok (.aload_n 0, 1) := by decide +kernel
theorem dX4_readHour_8 : decode cX4_readHour 8 = .ok (.getfield 80, 3) := by decide +kernel
theorem dX4_readHour_11 : decode cX4_readHour 11 = .ok (.invokevirtual 87, 3) := by decide +kernel
theorem dX4_readHour_14 : decode cX4_readHour 14 = .ok (.istore_n 2, 1) := by decide +kernel
theorem dX4_readHour_15 : decode cX4_readHour 15 = .ok (.aload_n 0, 1) := by decide +kernel
theorem dX4_readHour_16 : decode cX4_readHour 16 = .ok (.getfield 42, 3) := by decide +kernel
theorem dX4_readHour_19 : decode cX4_readHour 19 = .ok (.sipush 131, 3) := by decide +kernel
theorem dX4_readHour_22 : decode cX4_readHour 22 = .ok (.if_icmp .ne 19, 3) := by decide +kernel
theorem dX4_readHour_25 : decode cX4_readHour 25 = .ok (.iload_n 2, 1) := by decide +kernel
theorem dX4_readHour_26 : decode cX4_readHour 26 = .ok (.bipush 99, 2) := by decide +kernel
theorem dX4_readHour_28 : decode cX4_readHour 28 = .ok (.if_icmp .gt 8, 3) := by decide +kernel
theorem dX4_readHour_31 : decode cX4_readHour 31 = .ok (.iload_n 2, 1) := by decide +kernel
theorem dX4_readHour_32 : decode cX4_readHour 32 = .ok (.iload_n 1, 1) := by decide +kernel
theorem dX4_readHour_33 : decode cX4_readHour 33 = .ok (.if_icmp .ge 8, 3) := by decide +kernel
theorem dX4_readHour_36 : decode cX4_readHour 36 = .ok (.aload_n 0, 1) := by decide +kernel
theorem dX4_readHour_37 : decode cX4_readHour 37 = .ok (.iconst 5, 1) := by decide +kernel
theorem dX4_readHour_38 : decode cX4_readHour 38 = .ok (.invokevirtual 102, 3) := by decide +kernel
theorem dX4_readHour_41 : decode cX4_readHour 41 = .ok (.aload_n 0, 1) := by decide +kernel
theorem dX4_readHour_42 : decode cX4_readHour 42 = .ok (.sipush 131, 3) := by decide +kernel
theorem dX4_readHour_45 : decode cX4_readHour 45 = .ok (.invokevirtual 62, 3) := by decide +kernel
theorem dX4_readHour_48 : decode cX4_readHour 48 = .ok (.iload_n 2, 1) := by decide +kernel
theorem dX4_readHour_49 : decode cX4_readHour 49 = .ok (.ireturn, 1) := by decide +kernel
theorem dX4_readOther_0 : decode cX4_readOther 0 = .ok (.aload_n 0, 1) := by decide +kernel
theorem dX4_readOther_1 : decode cX4_readOther 1 = .ok (.getfield 42, 3) := by decide +kernel
theorem dX4_readOther_4 : decode cX4_readOther 4 = .ok (.sipush 205, 3) := by decide +kernel
theorem dX4_readOther_7 : decode cX4_readOther 7 = .ok (.if_icmp .ne 7, 3) := by decide +kernel
theorem dX4_readOther_10 : decode cX4_readOther 10 = .ok (.iconst 1, 1) := by decide +kernel
theorem dX4_readOther_11 : decode cX4_readOther 11 = .ok (.goto 4, 3) := by decide +kernel
theorem dX4_readOther_14 : decode cX4_readOther 14 = .ok (.iconst 2, 1) := by decide +kernel
theorem dX4_readOther_15 : decode cX4_readOther 15 = .ok (.istore_n 3, 1) := by decide +kernel
theorem dX4_readOther_16 : decode cX4_readOther 16 = .ok (.aload_n 0, 1) := by decide +kernel
theorem dX4_readOther_17 : decode cX4_readOther 17 = .ok (.invokevirtual 105, 3) := by decide +kernel
theorem dX4_readOther_20 : decode cX4_readOther 20 = .ok (.aload_n 0, 1) := by decide +kernel
theorem dX4_readOther_21 : decode cX4_readOther 21 = .ok (.getfield 42, 3) := by decide +kernel
theorem dX4_readOther_24 : decode cX4_readOther 24 = .ok (.sipush 130, 3) := by decide +kernel
theorem dX4_readOther_27 : decode cX4_readOther 27 = .ok (.if_icmp .ne 34, 3) := by decide +kernel
theorem dX4_readOther_30 : decode cX4_readOther 30 = .ok (.iload_n 2, 1) := by decide +kernel
theorem dX4_readOther_31 : decode cX4_readOther 31 = .ok (.ifCond .lt 30, 3) := by decide +kernel
theorem dX4_readOther_34 : decode cX4_readOther 34 = .ok (.aload_n 0, 1) := by decide +kernel
theorem dX4_readOther_35 : decode cX4_readOther 35 = .ok (.getfield 32, 3) := by decide +kernel
theorem dX4_readOther_38 : decode cX4_readOther 38 = .ok (.aload_n 0, 1) := by decide +kernel
theorem dX4_readOther_39 : decode cX4_readOther 39 = .ok (.getfield 14, 3) := by decide +kernel
theorem dX4_readOther_42 : decode cX4_readOther 42 = .ok (.aload_n 0, 1) := by decide +kernel
theorem dX4_readOther_43 : decode cX4_readOther 43 = .ok (.getfield 80, 3) := by decide +kernel
theorem dX4_readOther_46 : decode cX4_readOther 46 = .ok (.invokevirtual 108, 3) := by decide +kernel
theorem dX4_readOther_49 : decode cX4_readOther 49 = .ok (.invokevirtual 112, 3) := by decide +kernel
theorem dX4_readOther_52 : decode cX4_readOther 52 = .ok (.iload_n 2, 1) := by decide +kernel
theorem dX4_readOther_53 : decode cX4_readOther 53 = .ok (.if_icmp .ne 8, 3) := by decide +kernel
theorem dX4_readOther_56 : decode cX4_readOther 56 = .ok (.aload_n 0, 1) := by decide +kernel
theorem dX4_readOther_57 : decode cX4_readOther 57 = .ok (.iconst 5, 1) := by decide +kernel
theorem dX4_readOther_58 : decode cX4_readOther 58 = .ok (.invokevirtual 102, 3) := by decide +kernel
theorem dX4_readOther_61 : decode cX4_readOther 61 = .ok (.aload_n 0, 1) := by decide +kernel
theorem dX4_readOther_62 : decode cX4_readOther 62 = .ok (.aload_n 0, 1) := by decide +kernel
theorem dX4_readOther_63 : decode cX4_readOther 63 = .ok (.getfield 32, 3) := by decide +kernel
theorem dX4_readOther_66 : decode cX4_readOther 66 = .ok (.invokevirtual 131, 3) := by decide +kernel
theorem dX4_readOther_69 : decode cX4_readOther 69 = .ok (.istore 4, 2) := by decide +kernel
theorem dX4_readOther_71 : decode cX4_readOther 71 = .ok (.aload_n 0, 1) := by decide +kernel
theorem dX4_readOther_72 : decode cX4_readOther 72 = .ok (.getfield 46, 3) := by decide +kernel
theorem dX4_readOther_75 : decode cX4_readOther 75 = .ok (.ifCond .ne 19, 3) := by decide +kernel
theorem dX4_readOther_78 : decode cX4_readOther 78 = .ok (.aload_n 0, 1) := by decide +kernel
theorem dX4_readOther_79 : decode cX4_readOther 79 = .ok (.getfield 23, 3) := by decide +kernel
theorem dX4_readOther_82 : decode cX4_readOther 82 = .ok (.getfield 124, 3) := by decide +kernel
theorem dX4_readOther_85 : decode cX4_readOther 85 = .ok (.iload_n 1, 1) := by decide +kernel
theorem dX4_readOther_86 : decode cX4_readOther 86 = .ok (.iload_n 3, 1) := by decide +kernel
theorem dX4_readOther_87 : decode cX4_readOther 87 = .ok (.iload_n 2, 1) := by decide +kernel
theorem dX4_readOther_88 : decode cX4_readOther 88 = .ok (.iload 4, 2) := by decide +kernel
theorem dX4_readOther_90 : decode cX4_readOther 90 = .ok (.iconst 0, 1) := by decide +kernel
theorem dX4_readOther_91 : decode cX4_readOther 91 = .ok (.invokevirtual 145, 3) := by decide +kernel
theorem dX4_readOther_94 : decode cX4_readOther 94 = .ok (.return_, 1) := by decide +kernel
theorem dX4_readOrder_0 : decode cX4_readOrder 0 = .ok (.aload_n 0, 1) := by decide +kernel
theorem dX4_readOrder_1 : decode cX4_readOrder 1 = .ok (.getfield 42, 3) := by decide +kernel
theorem dX4_readOrder_4 : decode cX4_readOrder 4 = .ok (.sipush 207, 3) := by decide +kernel
theorem dX4_readOrder_7 : decode cX4_readOrder 7 = .ok (.if_icmp .ne 7, 3) := by decide +kernel
theorem dX4_readOrder_10 : decode cX4_readOrder 10 = .ok (.iconst 1, 1) := by decide +kernel
theorem dX4_readOrder_11 : decode cX4_readOrder 11 = .ok (.goto 4, 3) := by decide +kernel
theorem dX4_readOrder_14 : decode cX4_readOrder 14 = .ok (.iconst 0, 1) := by decide +kernel
theorem dX4_readOrder_15 : decode cX4_readOrder 15 = .ok (.istore_n 1, 1) := by decide +kernel
theorem dX4_readOrder_16 : decode cX4_readOrder 16 = .ok (.aload_n 0, 1) := by decide +kernel
theorem dX4_readOrder_17 : decode cX4_readOrder 17 = .ok (.getfield 23, 3) := by decide +kernel
theorem dX4_readOrder_20 : decode cX4_readOrder 20 = .ok (.getfield 151, 3) := by decide +kernel
theorem dX4_readOrder_23 : decode cX4_readOrder 23 = .ok (.invokevirtual 155, 3) := by decide +kernel
theorem dX4_readOrder_26 : decode cX4_readOrder 26 = .ok (.ifCond .eq 8, 3) := by decide +kernel
theorem dX4_readOrder_29 : decode cX4_readOrder 29 = .ok (.aload_n 0, 1) := by decide +kernel
theorem dX4_readOrder_30 : decode cX4_readOrder 30 = .ok (.iconst 4, 1) := by decide +kernel
theorem dX4_readOrder_31 : decode cX4_readOrder 31 = .ok (.invokevirtual 102, 3) := by decide +kernel
theorem dX4_readOrder_34 : decode cX4_readOrder 34 = .ok (.aload_n 0, 1) := by decide +kernel
theorem dX4_readOrder_35 : decode cX4_readOrder 35 = .ok (.invokevirtual 105, 3) := by decide +kernel
theorem dX4_readOrder_38 : decode cX4_readOrder 38 = .ok (.aload_n 0, 1) := by decide +kernel
theorem dX4_readOrder_39 : decode cX4_readOrder 39 = .ok (.aload_n 0, 1) := by decide +kernel
theorem dX4_readOrder_40 : decode cX4_readOrder 40 = .ok (.getfield 36, 3) := by decide +kernel
theorem dX4_readOrder_43 : decode cX4_readOrder 43 = .ok (.invokevirtual 131, 3) := by decide +kernel
theorem dX4_readOrder_46 : decode cX4_readOrder 46 = .ok (.istore_n 2, 1) := by decide +kernel
theorem dX4_readOrder_47 : decode cX4_readOrder 47 = .ok (.aload_n 0, 1) := by decide +kernel
theorem dX4_readOrder_48 : decode cX4_readOrder 48 = .ok (.getfield 42, 3) := by decide +kernel
theorem dX4_readOrder_51 : decode cX4_readOrder 51 = .ok (.sipush 209, 3) := by decide +kernel
theorem dX4_readOrder_54 : decode cX4_readOrder 54 = .ok (.if_icmp .ne 11, 3) := by decide +kernel
theorem dX4_readOrder_57 : decode cX4_readOrder 57 = .ok (.aload_n 0, 1) := by decide +kernel
theorem dX4_readOrder_58 : decode cX4_readOrder 58 = .ok (.invokevirtual 105, 3) := by decide +kernel
theorem dX4_readOrder_61 : decode cX4_readOrder 61 = .ok (.aload_n 0, 1) := by decide +kernel
theorem dX4_readOrder_62 : decode cX4_readOrder 62 = .ok (.invokevirtual 158, 3) := by decide +kernel
theorem dX4_readOrder_65 : decode cX4_readOrder 65 = .ok (.aload_n 0, 1) := by decide +kernel
theorem dX4_readOrder_66 : decode cX4_readOrder 66 = .ok (.getfield 46, 3) := by decide +kernel
theorem dX4_readOrder_69 : decode cX4_readOrder 69 = .ok (.ifCond .ne 15, 3) := by decide +kernel
theorem dX4_readOrder_72 : decode cX4_readOrder 72 = .ok (.aload_n 0, 1) := by decide +kernel
theorem dX4_readOrder_73 : decode cX4_readOrder 73 = .ok (.getfield 23, 3) := by decide +kernel
theorem dX4_readOrder_76 : decode cX4_readOrder 76 = .ok (.getfield 151, 3) := by decide +kernel
theorem dX4_readOrder_79 : decode cX4_readOrder 79 = .ok (.iload_n 1, 1) := by decide +kernel
theorem dX4_readOrder_80 : decode cX4_readOrder 80 = .ok (.iload_n 2, 1) := by decide +kernel
theorem dX4_readOrder_81 : decode cX4_readOrder 81 = .ok (.invokevirtual 161, 3) := by decide +kernel
theorem dX4_readOrder_84 : decode cX4_readOrder 84 = .ok (.return_, 1) := by decide +kernel
theorem dX4_readTest_0 : decode cX4_readTest 0 = .ok (.aload_n 0, 1) := by decide +kernel
theorem dX4_readTest_1 : decode cX4_readTest 1 = .ok (.invokevirtual 164, 3) := by decide +kernel
theorem dX4_readTest_4 : decode cX4_readTest 4 = .ok (.iconst 0, 1) := by decide +kernel
theorem dX4_readTest_5 : decode cX4_readTest 5 = .ok (.istore_n 1, 1) := by decide +kernel
theorem dX4_readTest_6 : decode cX4_readTest 6 = .ok (.iload_n 1, 1) := by decide +kernel
theorem dX4_readTest_7 : decode cX4_readTest 7 = .ok (.sipush 400, 3) := by decide +kernel
theorem dX4_readTest_10 : decode cX4_readTest 10 = .ok (.if_icmp .ge 41, 3) := by decide +kernel
theorem dX4_readTest_13 : decode cX4_readTest 13 = .ok (.aload_n 0, 1) := by decide +kernel
theorem dX4_readTest_14 : decode cX4_readTest 14 = .ok (.getfield 42, 3) := by decide +kernel
theorem dX4_readTest_17 : decode cX4_readTest 17 = .ok (.sipush 222, 3) := by decide +kernel
theorem dX4_readTest_20 : decode cX4_readTest 20 = .ok (.if_icmp .ne 31, 3) := by decide +kernel
theorem dX4_readTest_23 : decode cX4_readTest 23 = .ok (.aload_n 0, 1) := by decide +kernel
theorem dX4_readTest_24 : decode cX4_readTest 24 = .ok (.invokevirtual 105, 3) := by decide +kernel
theorem dX4_readTest_27 : decode cX4_readTest 27 = .ok (.aload_n 0, 1) := by decide +kernel
theorem dX4_readTest_28 : decode cX4_readTest 28 = .ok (.invokevirtual 164, 3) := by decide +kernel
theorem dX4_readTest_31 : decode cX4_readTest 31 = .ok (.aload_n 0, 1) := by decide +kernel
theorem dX4_readTest_32 : decode cX4_readTest 32 = .ok (.getfield 23, 3) := by decide +kernel
theorem dX4_readTest_35 : decode cX4_readTest 35 = .ok (.getfield 151, 3) := by decide +kernel
theorem dX4_readTest_38 : decode cX4_readTest 38 = .ok (.sipush 222, 3) := by decide +kernel
theorem dX4_readTest_41 : decode cX4_readTest 41 = .ok (.iconst 0, 1) := by decide +kernel
theorem dX4_readTest_42 : decode cX4_readTest 42 = .ok (.invokevirtual 167, 3) := by decide +kernel
theorem dX4_readTest_45 : decode cX4_readTest 45 = .ok (.iinc 1 1, 3) := by decide +kernel
theorem dX4_readTest_48 : decode cX4_readTest 48 = .ok (.goto (-42), 3) := by decide +kernel
theorem dX4_readTest_51 : decode cX4_readTest 51 = .ok (.return_, 1) := by decide +kernel
theorem dX4_readBoth_0 : decode cX4_readBoth 0 = .ok (.aload_n 0, 1) := by decide +kernel
theorem dX4_readBoth_1 : decode cX4_readBoth 1 = .ok (.invokevirtual 170, 3) := by decide +kernel
theorem dX4_readBoth_4 : decode cX4_readBoth 4 = .ok (.iconst 0, 1) := by decide +kernel
theorem dX4_readBoth_5 : decode cX4_readBoth 5 = .ok (.istore_n 1, 1) := by decide +kernel
theorem dX4_readBoth_6 : decode cX4_readBoth 6 = .ok (.iload_n 1, 1) := by decide +kernel
theorem dX4_readBoth_7 : decode cX4_readBoth 7 = .ok (.sipush 400, 3) := by decide +kernel
theorem dX4_readBoth_10 : decode cX4_readBoth 10 = .ok (.if_icmp .ge 41, 3) := by decide +kernel
theorem dX4_readBoth_13 : decode cX4_readBoth 13 = .ok (.aload_n 0, 1) := by decide +kernel
theorem dX4_readBoth_14 : decode cX4_readBoth 14 = .ok (.getfield 42, 3) := by decide +kernel
theorem dX4_readBoth_17 : decode cX4_readBoth 17 = .ok (.sipush 221, 3) := by decide +kernel
theorem dX4_readBoth_20 : decode cX4_readBoth 20 = .ok (.if_icmp .ne 31, 3) := by decide +kernel
theorem dX4_readBoth_23 : decode cX4_readBoth 23 = .ok (.aload_n 0, 1) := by decide +kernel
theorem dX4_readBoth_24 : decode cX4_readBoth 24 = .ok (.invokevirtual 105, 3) := by decide +kernel
theorem dX4_readBoth_27 : decode cX4_readBoth 27 = .ok (.aload_n 0, 1) := by decide +kernel
theorem dX4_readBoth_28 : decode cX4_readBoth 28 = .ok (.invokevirtual 170, 3) := by decide +kernel
theorem dX4_readBoth_31 : decode cX4_readBoth 31 = .ok (.aload_n 0, 1) := by decide +kernel
theorem dX4_readBoth_32 : decode cX4_readBoth 32 = .ok (.getfield 23, 3) := by decide +kernel
theorem dX4_readBoth_35 : decode cX4_readBoth 35 = .ok (.getfield 151, 3) := by decide +kernel
theorem dX4_readBoth_38 : decode cX4_readBoth 38 = .ok (.sipush 221, 3) := by decide +kernel
theorem dX4_readBoth_41 : decode cX4_readBoth 41 = .ok (.iconst 0, 1) := by decide +kernel
theorem dX4_readBoth_42 : decode cX4_readBoth 42 = .ok (.invokevirtual 167, 3) := by decide +kernel
theorem dX4_readBoth_45 : decode cX4_readBoth 45 = .ok (.iinc 1 1, 3) := by decide +kernel
theorem dX4_readBoth_48 : decode cX4_readBoth 48 = .ok (.goto (-42), 3) := by decide +kernel
theorem dX4_readBoth_51 : decode cX4_readBoth 51 = .ok (.return_, 1) := by decide +kernel
theorem dX4_readSingle_0 : decode cX4_readSingle 0 = .ok (.aload_n 0, 1) := by decide +kernel
theorem dX4_readSingle_1 : decode cX4_readSingle 1 = .ok (.getfield 42, 3) := by decide +kernel
theorem dX4_readSingle_4 : decode cX4_readSingle 4 = .ok (.istore_n 1, 1) := by decide +kernel
theorem dX4_readSingle_5 : decode cX4_readSingle 5 = .ok (.iload_n 1, 1) := by decide +kernel
theorem dX4_readSingle_6 : decode cX4_readSingle 6 = .ok (.lookupswitch 187 #[(91, 96), (213, 133), (217, 126), (218, 133), (219, 159), (220, 58)], 58) := by decide +kernel
theorem dX4_readSingle_64 : decode cX4_readSingle 64 = .ok (.aload_n 0, 1) := by decide +kernel
theorem dX4_readSingle_65 : decode cX4_readSingle 65 = .ok (.invokevirtual 173, 3) := by decide +kernel
theorem dX4_readSingle_68 : decode cX4_readSingle 68 = .ok (.ifCond .eq 133, 3) := by decide +kernel
theorem dX4_readSingle_71 : decode cX4_readSingle 71 = .ok (.aload_n 0, 1) := by decide +kernel
theorem dX4_readSingle_72 : decode cX4_readSingle 72 = .ok (.invokevirtual 170, 3) := by decide +kernel
theorem dX4_readSingle_75 : decode cX4_readSingle 75 = .ok (.aload_n 0, 1) := by decide +kernel
theorem dX4_readSingle_76 : decode cX4_readSingle 76 = .ok (.dup, 1) := by decide +kernel
theorem dX4_readSingle_77 : decode cX4_readSingle 77 = .ok (.getfield 93, 3) := by decide +kernel
theorem dX4_readSingle_80 : decode cX4_readSingle 80 = .ok (.iconst 1, 1) := by decide +kernel
theorem dX4_readSingle_81 : decode cX4_readSingle 81 = .ok (.isub, 1) := by decide +kernel
theorem dX4_readSingle_82 : decode cX4_readSingle 82 = .ok (.putfield 93, 3) := by decide +kernel
theorem dX4_readSingle_85 : decode cX4_readSingle 85 = .ok (.aload_n 0, 1) := by decide +kernel
theorem dX4_readSingle_86 : decode cX4_readSingle 86 = .ok (.getfield 23, 3) := by decide +kernel
theorem dX4_readSingle_89 : decode cX4_readSingle 89 = .ok (.getfield 151, 3) := by decide +kernel
theorem dX4_readSingle_92 : decode cX4_readSingle 92 = .ok (.sipush 220, 3) := by decide +kernel
theorem dX4_readSingle_95 : decode cX4_readSingle 95 = .ok (.iconst 0, 1) := by decide +kernel
theorem dX4_readSingle_96 : decode cX4_readSingle 96 = .ok (.invokevirtual 167, 3) := by decide +kernel
theorem dX4_readSingle_99 : decode cX4_readSingle 99 = .ok (.goto 102, 3) := by decide +kernel
theorem dX4_readSingle_102 : decode cX4_readSingle 102 = .ok (.aload_n 0, 1) := by decide +kernel
theorem dX4_readSingle_103 : decode cX4_readSingle 103 = .ok (.invokevirtual 173, 3) := by decide +kernel
theorem dX4_readSingle_106 : decode cX4_readSingle 106 = .ok (.ifCond .eq 95, 3) := by decide +kernel
theorem dX4_readSingle_109 : decode cX4_readSingle 109 = .ok (.aload_n 0, 1) := by decide +kernel
theorem dX4_readSingle_110 : decode cX4_readSingle 110 = .ok (.invokevirtual 158, 3) := by decide +kernel
theorem dX4_readSingle_113 : decode cX4_readSingle 113 = .ok (.aload_n 0, 1) := by decide +kernel
theorem dX4_readSingle_114 : decode cX4_readSingle 114 = .ok (.dup, 1) := by decide +kernel
theorem dX4_readSingle_115 : decode cX4_readSingle 115 = .ok (.getfield 93, 3) := by decide +kernel
theorem dX4_readSingle_118 : decode cX4_readSingle 118 = .ok (.iconst 1, 1) := by decide +kernel
theorem dX4_readSingle_119 : decode cX4_readSingle 119 = .ok (.isub, 1) := by decide +kernel
theorem dX4_readSingle_120 : decode cX4_readSingle 120 = .ok (.putfield 93, 3) := by decide +kernel
theorem dX4_readSingle_123 : decode cX4_readSingle 123 = .ok (.aload_n 0, 1) := by decide +kernel
theorem dX4_readSingle_124 : decode cX4_readSingle 124 = .ok (.bipush 93, 2) := by decide +kernel
theorem dX4_readSingle_126 : decode cX4_readSingle 126 = .ok (.invokevirtual 62, 3) := by decide +kernel
theorem dX4_readSingle_129 : decode cX4_readSingle 129 = .ok (.goto 72, 3) := by decide +kernel
theorem dX4_readSingle_132 : decode cX4_readSingle 132 = .ok (.aload_n 0, 1) := by decide +kernel
theorem dX4_readSingle_133 : decode cX4_readSingle 133 = .ok (.invokevirtual 176, 3) := by decide +kernel
theorem dX4_readSingle_136 : decode cX4_readSingle 136 = .ok (.goto 65, 3) := by decide +kernel
theorem dX4_readSingle_139 : decode cX4_readSingle 139 = .ok (.aload_n 0, 1) := by decide +kernel
theorem dX4_readSingle_140 : decode cX4_readSingle 140 = .ok (.invokevirtual 105, 3) := by decide +kernel
theorem dX4_readSingle_143 : decode cX4_readSingle 143 = .ok (.aload_n 0, 1) := by decide +kernel
theorem dX4_readSingle_144 : decode cX4_readSingle 144 = .ok (.getfield 23, 3) := by decide +kernel
theorem dX4_readSingle_147 : decode cX4_readSingle 147 = .ok (.getfield 151, 3) := by decide +kernel
theorem dX4_readSingle_150 : decode cX4_readSingle 150 = .ok (.iload_n 1, 1) := by decide +kernel
theorem dX4_readSingle_151 : decode cX4_readSingle 151 = .ok (.aload_n 0, 1) := by decide +kernel
theorem dX4_readSingle_152 : decode cX4_readSingle 152 = .ok (.aload_n 0, 1) := by decide +kernel
theorem dX4_readSingle_153 : decode cX4_readSingle 153 = .ok (.getfield 36, 3) := by decide +kernel
theorem dX4_readSingle_156 : decode cX4_readSingle 156 = .ok (.invokevirtual 131, 3) := by decide +kernel
theorem dX4_readSingle_159 : decode cX4_readSingle 159 = .ok (.invokevirtual 167, 3) := by decide +kernel
theorem dX4_readSingle_162 : decode cX4_readSingle 162 = .ok (.goto 39, 3) := by decide +kernel
theorem dX4_readSingle_165 : decode cX4_readSingle 165 = .ok (.aload_n 0, 1) := by decide +kernel
theorem dX4_readSingle_166 : decode cX4_readSingle 166 = .ok (.invokevirtual 105, 3) := by decide +kernel
theorem dX4_readSingle_169 : decode cX4_readSingle 169 = .ok (.aload_n 0, 1) := by decide +kernel
theorem dX4_readSingle_170 : decode cX4_readSingle 170 = .ok (.getfield 23, 3) := by decide +kernel
theorem dX4_readSingle_173 : decode cX4_readSingle 173 = .ok (.getfield 151, 3) := by decide +kernel
theorem dX4_readSingle_176 : decode cX4_readSingle 176 = .ok (.sipush 219, 3) := by decide +kernel
theorem dX4_readSingle_179 : decode cX4_readSingle 179 = .ok (.aload_n 0, 1) := by decide +kernel
theorem dX4_readSingle_180 : decode cX4_readSingle 180 = .ok (.aload_n 0, 1) := by decide +kernel
theorem dX4_readSingle_181 : decode cX4_readSingle 181 = .ok (.getfield 32, 3) := by decide +kernel
theorem dX4_readSingle_184 : decode cX4_readSingle 184 = .ok (.invokevirtual 131, 3) := by decide +kernel
theorem dX4_readSingle_187 : decode cX4_readSingle 187 = .ok (.invokevirtual 167, 3) := by decide +kernel
theorem dX4_readSingle_190 : decode cX4_readSingle 190 = .ok (.goto 11, 3) := by decide +kernel
theorem dX4_readSingle_193 : decode cX4_readSingle 193 = .ok (.aload_n 0, 1) := by decide +kernel
theorem dX4_readSingle_194 : decode cX4_readSingle 194 = .ok (.invokevirtual 179, 3) := by decide +kernel
theorem dX4_readSingle_197 : decode cX4_readSingle 197 = .ok (.aload_n 0, 1) := by decide +kernel
theorem dX4_readSingle_198 : decode cX4_readSingle 198 = .ok (.invokevirtual 182, 3) := by decide +kernel
theorem dX4_readSingle_201 : decode cX4_readSingle 201 = .ok (.return_, 1) := by decide +kernel
theorem dX4_readTwoTellers_0 : decode cX4_readTwoTellers 0 = .ok (.aload_n 0, 1) := by decide +kernel
theorem dX4_readTwoTellers_1 : decode cX4_readTwoTellers 1 = .ok (.invokevirtual 105, 3) := by decide +kernel
theorem dX4_readTwoTellers_4 : decode cX4_readTwoTellers 4 = .ok (.aload_n 0, 1) := by decide +kernel
theorem dX4_readTwoTellers_5 : decode cX4_readTwoTellers 5 = .ok (.aload_n 0, 1) := by decide +kernel
theorem dX4_readTwoTellers_6 : decode cX4_readTwoTellers 6 = .ok (.getfield 36, 3) := by decide +kernel
theorem dX4_readTwoTellers_9 : decode cX4_readTwoTellers 9 = .ok (.invokevirtual 131, 3) := by decide +kernel
theorem dX4_readTwoTellers_12 : decode cX4_readTwoTellers 12 = .ok (.istore_n 1, 1) := by decide +kernel
theorem dX4_readTwoTellers_13 : decode cX4_readTwoTellers 13 = .ok (.aload_n 0, 1) := by decide +kernel
theorem dX4_readTwoTellers_14 : decode cX4_readTwoTellers 14 = .ok (.aload_n 0, 1) := by decide +kernel
theorem dX4_readTwoTellers_15 : decode cX4_readTwoTellers 15 = .ok (.getfield 36, 3) := by decide +kernel
theorem dX4_readTwoTellers_18 : decode cX4_readTwoTellers 18 = .ok (.invokevirtual 131, 3) := by decide +kernel
theorem dX4_readTwoTellers_21 : decode cX4_readTwoTellers 21 = .ok (.istore_n 2, 1) := by decide +kernel
theorem dX4_readTwoTellers_22 : decode cX4_readTwoTellers 22 = .ok (.aload_n 0, 1) := by decide +kernel
theorem dX4_readTwoTellers_23 : decode cX4_readTwoTellers 23 = .ok (.getfield 23, 3) := by decide +kernel
theorem dX4_readTwoTellers_26 : decode cX4_readTwoTellers 26 = .ok (.getfield 151, 3) := by decide +kernel
theorem dX4_readTwoTellers_29 : decode cX4_readTwoTellers 29 = .ok (.sipush 217, 3) := by decide +kernel
theorem dX4_readTwoTellers_32 : decode cX4_readTwoTellers 32 = .ok (.iload_n 1, 1) := by decide +kernel
theorem dX4_readTwoTellers_33 : decode cX4_readTwoTellers 33 = .ok (.iconst 4, 1) := by decide +kernel
theorem dX4_readTwoTellers_34 : decode cX4_readTwoTellers 34 = .ok (.ishl, 1) := by decide +kernel
theorem dX4_readTwoTellers_35 : decode cX4_readTwoTellers 35 = .ok (.iload_n 2, 1) := by decide +kernel
theorem dX4_readTwoTellers_36 : decode cX4_readTwoTellers 36 = .ok (.ior, 1) := by decide +kernel
theorem dX4_readTwoTellers_37 : decode cX4_readTwoTellers 37 = .ok (.invokevirtual 167, 3) := by decide +kernel
theorem dX4_readTwoTellers_40 : decode cX4_readTwoTellers 40 = .ok (.return_, 1) := by decide +kernel
theorem dX4_readCompared_0 : decode cX4_readCompared 0 = .ok (.aload_n 0, 1) := by decide +kernel
theorem dX4_readCompared_1 : decode cX4_readCompared 1 = .ok (.getfield 42, 3) := by decide +kernel
theorem dX4_readCompared_4 : decode cX4_readCompared 4 = .ok (.istore_n 1, 1) := by decide +kernel
theorem dX4_readCompared_5 : decode cX4_readCompared 5 = .ok (.iload_n 1, 1) := by decide +kernel
theorem dX4_readCompared_6 : decode cX4_readCompared 6 = .ok (.bipush 60, 2) := by decide +kernel
theorem dX4_readCompared_8 : decode cX4_readCompared 8 = .ok (.if_icmp .eq 34, 3) := by decide +kernel
theorem dX4_readCompared_11 : decode cX4_readCompared 11 = .ok (.iload_n 1, 1) := by decide +kernel
theorem dX4_readCompared_12 : decode cX4_readCompared 12 = .ok (.bipush 62, 2) := by decide +kernel
theorem dX4_readCompared_14 : decode cX4_readCompared 14 = .ok (.if_icmp .eq 28, 3) := by decide +kernel
theorem dX4_readCompared_17 : decode cX4_readCompared 17 = .ok (.iload_n 1, 1) := by decide +kernel
theorem dX4_readCompared_18 : decode cX4_readCompared 18 = .ok (.bipush 61, 2) := by decide +kernel
theorem dX4_readCompared_20 : decode cX4_readCompared 20 = .ok (.if_icmp .eq 22, 3) := by decide +kernel
theorem dX4_readCompared_23 : decode cX4_readCompared 23 = .ok (.iload_n 1, 1) := by decide +kernel
theorem dX4_readCompared_24 : decode cX4_readCompared 24 = .ok (.sipush 128, 3) := by decide +kernel
theorem dX4_readCompared_27 : decode cX4_readCompared 27 = .ok (.if_icmp .eq 15, 3) := by decide +kernel
theorem dX4_readCompared_30 : decode cX4_readCompared 30 = .ok (.iload_n 1, 1) := by decide +kernel
theorem dX4_readCompared_31 : decode cX4_readCompared 31 = .ok (.sipush 129, 3) := by decide +kernel
theorem dX4_readCompared_34 : decode cX4_readCompared 34 = .ok (.if_icmp .eq 8, 3) := by decide +kernel
theorem dX4_readCompared_37 : decode cX4_readCompared 37 = .ok (.aload_n 0, 1) := by decide +kernel
theorem dX4_readCompared_38 : decode cX4_readCompared 38 = .ok (.invokevirtual 59, 3) := by decide +kernel
theorem dX4_readCompared_41 : decode cX4_readCompared 41 = .ok (.return_, 1) := by decide +kernel
theorem dX4_readCompared_42 : decode cX4_readCompared 42 = .ok (.aload_n 0, 1) := by decide +kernel
theorem dX4_readCompared_43 : decode cX4_readCompared 43 = .ok (.invokevirtual 105, 3) := by decide +kernel
theorem dX4_readCompared_46 : decode cX4_readCompared 46 = .ok (.aload_n 0, 1) := by decide +kernel
theorem dX4_readCompared_47 : decode cX4_readCompared 47 = .ok (.invokevirtual 179, 3) := by decide +kernel
theorem dX4_readCompared_50 : decode cX4_readCompared 50 = .ok (.aload_n 0, 1) := by decide +kernel
theorem dX4_readCompared_51 : decode cX4_readCompared 51 = .ok (.getfield 23, 3) := by decide +kernel
theorem dX4_readCompared_54 : decode cX4_readCompared 54 = .ok (.getfield 151, 3) := by decide +kernel
theorem dX4_readCompared_57 : decode cX4_readCompared 57 = .ok (.iload_n 1, 1) := by decide +kernel
theorem dX4_readCompared_58 : decode cX4_readCompared 58 = .ok (.iconst 0, 1) := by decide +kernel
theorem dX4_readCompared_59 : decode cX4_readCompared 59 = .ok (.invokevirtual 167, 3) := by decide +kernel
theorem dX4_readCompared_62 : decode cX4_readCompared 62 = .ok (.return_, 1) := by decide +kernel
theorem dX4_readSum_0 : decode cX4_readSum 0 = .ok (.aload_n 0, 1) := by decide +kernel
theorem dX4_readSum_1 : decode cX4_readSum 1 = .ok (.invokevirtual 185, 3) := by decide +kernel
theorem dX4_readSum_4 : decode cX4_readSum 4 = .ok (.iconst 0, 1) := by decide +kernel
theorem dX4_readSum_5 : decode cX4_readSum 5 = .ok (.istore_n 1, 1) := by decide +kernel
theorem dX4_readSum_6 : decode cX4_readSum 6 = .ok (.iload_n 1, 1) := by decide +kernel
theorem dX4_readSum_7 : decode cX4_readSum 7 = .ok (.sipush 400, 3) := by decide +kernel
theorem dX4_readSum_10 : decode cX4_readSum 10 = .ok (.if_icmp .ge 52, 3) := by decide +kernel
theorem dX4_readSum_13 : decode cX4_readSum 13 = .ok (.aload_n 0, 1) := by decide +kernel
theorem dX4_readSum_14 : decode cX4_readSum 14 = .ok (.getfield 42, 3) := by decide +kernel
theorem dX4_readSum_17 : decode cX4_readSum 17 = .ok (.bipush 43, 2) := by decide +kernel
theorem dX4_readSum_19 : decode cX4_readSum 19 = .ok (.if_icmp .eq 12, 3) := by decide +kernel
theorem dX4_readSum_22 : decode cX4_readSum 22 = .ok (.aload_n 0, 1) := by decide +kernel
theorem dX4_readSum_23 : decode cX4_readSum 23 = .ok (.getfield 42, 3) := by decide +kernel
theorem dX4_readSum_26 : decode cX4_readSum 26 = .ok (.bipush 45, 2) := by decide +kernel
theorem dX4_readSum_28 : decode cX4_readSum 28 = .ok (.if_icmp .ne 34, 3) := by decide +kernel
theorem dX4_readSum_31 : decode cX4_readSum 31 = .ok (.aload_n 0, 1) := by decide +kernel
theorem dX4_readSum_32 : decode cX4_readSum 32 = .ok (.getfield 42, 3) := by decide +kernel
theorem dX4_readSum_35 : decode cX4_readSum 35 = .ok (.istore_n 2, 1) := by decide +kernel
theorem dX4_readSum_36 : decode cX4_readSum 36 = .ok (.aload_n 0, 1) := by decide +kernel
theorem dX4_readSum_37 : decode cX4_readSum 37 = .ok (.invokevirtual 105, 3) := by decide +kernel
theorem dX4_readSum_40 : decode cX4_readSum 40 = .ok (.aload_n 0, 1) := by decide +kernel
theorem dX4_readSum_41 : decode cX4_readSum 41 = .ok (.invokevirtual 185, 3) := by decide +kernel
theorem dX4_readSum_44 : decode cX4_readSum 44 = .ok (.aload_n 0, 1) := by decide +kernel
theorem dX4_readSum_45 : decode cX4_readSum 45 = .ok (.getfield 23, 3) := by decide +kernel
theorem dX4_readSum_48 : decode cX4_readSum 48 = .ok (.getfield 151, 3) := by decide +kernel
theorem dX4_readSum_51 : decode cX4_readSum 51 = .ok (.iload_n 2, 1) := by decide +kernel
theorem dX4_readSum_52 : decode cX4_readSum 52 = .ok (.iconst 0, 1) := by decide +kernel
theorem dX4_readSum_53 : decode cX4_readSum 53 = .ok (.invokevirtual 167, 3) := by decide +kernel
theorem dX4_readSum_56 : decode cX4_readSum 56 = .ok (.iinc 1 1, 3) := by decide +kernel
theorem dX4_readSum_59 : decode cX4_readSum 59 = .ok (.goto (-53), 3) := by decide +kernel
theorem dX4_readSum_62 : decode cX4_readSum 62 = .ok (.return_, 1) := by decide +kernel
theorem dX4_readProduct_0 : decode cX4_readProduct 0 = .ok (.aload_n 0, 1) := by decide +kernel
theorem dX4_readProduct_1 : decode cX4_readProduct 1 = .ok (.invokevirtual 188, 3) := by decide +kernel
theorem dX4_readProduct_4 : decode cX4_readProduct 4 = .ok (.iconst 0, 1) := by decide +kernel
theorem dX4_readProduct_5 : decode cX4_readProduct 5 = .ok (.istore_n 1, 1) := by decide +kernel
theorem dX4_readProduct_6 : decode cX4_readProduct 6 = .ok (.iload_n 1, 1) := by decide +kernel
theorem dX4_readProduct_7 : decode cX4_readProduct 7 = .ok (.sipush 400, 3) := by decide +kernel
theorem dX4_readProduct_10 : decode cX4_readProduct 10 = .ok (.if_icmp .ge 52, 3) := by decide +kernel
theorem dX4_readProduct_13 : decode cX4_readProduct 13 = .ok (.aload_n 0, 1) := by decide +kernel
theorem dX4_readProduct_14 : decode cX4_readProduct 14 = .ok (.getfield 42, 3) := by decide +kernel
theorem dX4_readProduct_17 : decode cX4_readProduct 17 = .ok (.bipush 42, 2) := by decide +kernel
theorem dX4_readProduct_19 : decode cX4_readProduct 19 = .ok (.if_icmp .eq 12, 3) := by decide +kernel
theorem dX4_readProduct_22 : decode cX4_readProduct 22 = .ok (.aload_n 0, 1) := by decide +kernel
theorem dX4_readProduct_23 : decode cX4_readProduct 23 = .ok (.getfield 42, 3) := by decide +kernel
theorem dX4_readProduct_26 : decode cX4_readProduct 26 = .ok (.bipush 47, 2) := by decide +kernel
theorem dX4_readProduct_28 : decode cX4_readProduct 28 = .ok (.if_icmp .ne 34, 3) := by decide +kernel
theorem dX4_readProduct_31 : decode cX4_readProduct 31 = .ok (.aload_n 0, 1) := by decide +kernel
theorem dX4_readProduct_32 : decode cX4_readProduct 32 = .ok (.getfield 42, 3) := by decide +kernel
theorem dX4_readProduct_35 : decode cX4_readProduct 35 = .ok (.istore_n 2, 1) := by decide +kernel
theorem dX4_readProduct_36 : decode cX4_readProduct 36 = .ok (.aload_n 0, 1) := by decide +kernel
theorem dX4_readProduct_37 : decode cX4_readProduct 37 = .ok (.invokevirtual 105, 3) := by decide +kernel
theorem dX4_readProduct_40 : decode cX4_readProduct 40 = .ok (.aload_n 0, 1) := by decide +kernel
theorem dX4_readProduct_41 : decode cX4_readProduct 41 = .ok (.invokevirtual 188, 3) := by decide +kernel
theorem dX4_readProduct_44 : decode cX4_readProduct 44 = .ok (.aload_n 0, 1) := by decide +kernel
theorem dX4_readProduct_45 : decode cX4_readProduct 45 = .ok (.getfield 23, 3) := by decide +kernel
theorem dX4_readProduct_48 : decode cX4_readProduct 48 = .ok (.getfield 151, 3) := by decide +kernel
theorem dX4_readProduct_51 : decode cX4_readProduct 51 = .ok (.iload_n 2, 1) := by decide +kernel
theorem dX4_readProduct_52 : decode cX4_readProduct 52 = .ok (.iconst 0, 1) := by decide +kernel
theorem dX4_readProduct_53 : decode cX4_readProduct 53 = .ok (.invokevirtual 167, 3) := by decide +kernel
theorem dX4_readProduct_56 : decode cX4_readProduct 56 = .ok (.iinc 1 1, 3) := by decide +kernel
theorem dX4_readProduct_59 : decode cX4_readProduct 59 = .ok (.goto (-53), 3) := by decide +kernel
theorem dX4_readProduct_62 : decode cX4_readProduct 62 = .ok (.return_, 1) := by decide +kernel
theorem dX4_readValue_0 : decode cX4_readValue 0 = .ok (.aload_n 0, 1) := by decide +kernel
theorem dX4_readValue_1 : decode cX4_readValue 1 = .ok (.getfield 42, 3) := by decide +kernel
theorem dX4_readValue_4 : decode cX4_readValue 4 = .ok (.istore_n 1, 1) := by decide +kernel
theorem dX4_readValue_5 : decode cX4_readValue 5 = .ok (.iload_n 1, 1) := by decide +kernel
theorem dX4_readValue_6 : decode cX4_readValue 6 = .ok (.lookupswitch 281 #[(40, 228), (45, 190), (131, 90), (210, 124), (211, 124), (212, 124), (214, 143), (215, 143), (223, 258), (224, 258)], 90) := by decide +kernel
theorem dX4_readValue_96 : decode cX4_readValue 96 = .ok (.aload_n 0, 1) := by decide +kernel
theorem dX4_readValue_97 : decode cX4_readValue 97 = .ok (.getfield 23, 3) := by decide +kernel
theorem dX4_readValue_100 : decode cX4_readValue 100 = .ok (.getfield 151, 3) := by decide +kernel
theorem dX4_readValue_103 : decode cX4_readValue 103 = .ok (.sipush 131, 3) := by decide +kernel
theorem dX4_readValue_106 : decode cX4_readValue 106 = .ok (.aload_n 0, 1) := by decide +kernel
theorem dX4_readValue_107 : decode cX4_readValue 107 = .ok (.getfield 14, 3) := by decide +kernel
theorem dX4_readValue_110 : decode cX4_readValue 110 = .ok (.getfield 148, 3) := by decide +kernel
theorem dX4_readValue_113 : decode cX4_readValue 113 = .ok (.aload_n 0, 1) := by decide +kernel
theorem dX4_readValue_114 : decode cX4_readValue 114 = .ok (.getfield 80, 3) := by decide +kernel
theorem dX4_readValue_117 : decode cX4_readValue 117 = .ok (.invokevirtual 87, 3) := by decide +kernel
theorem dX4_readValue_120 : decode cX4_readValue 120 = .ok (.invokevirtual 167, 3) := by decide +kernel
theorem dX4_readValue_123 : decode cX4_readValue 123 = .ok (.aload_n 0, 1) := by decide +kernel
theorem dX4_readValue_124 : decode cX4_readValue 124 = .ok (.invokevirtual 105, 3) := by decide +kernel
theorem dX4_readValue_127 : decode cX4_readValue 127 = .ok (.goto 164, 3) := by decide +kernel
theorem dX4_readValue_130 : decode cX4_readValue 130 = .ok (.aload_n 0, 1) := by decide +kernel
theorem dX4_readValue_131 : decode cX4_readValue 131 = .ok (.getfield 23, 3) := by decide +kernel
theorem dX4_readValue_134 : decode cX4_readValue 134 = .ok (.getfield 151, 3) := by decide +kernel
theorem dX4_readValue_137 : decode cX4_readValue 137 = .ok (.iload_n 1, 1) := by decide +kernel
theorem dX4_readValue_138 : decode cX4_readValue 138 = .ok (.iconst 0, 1) := by decide +kernel
theorem dX4_readValue_139 : decode cX4_readValue 139 = .ok (.invokevirtual 167, 3) := by decide +kernel
theorem dX4_readValue_142 : decode cX4_readValue 142 = .ok (.aload_n 0, 1) := by decide +kernel
theorem dX4_readValue_143 : decode cX4_readValue 143 = .ok (.invokevirtual 105, 3) := by decide +kernel
theorem dX4_readValue_146 : decode cX4_readValue 146 = .ok (.goto 145, 3) := by decide +kernel
theorem dX4_readValue_149 : decode cX4_readValue 149 = .ok (.aload_n 0, 1) := by decide +kernel
theorem dX4_readValue_150 : decode cX4_readValue 150 = .ok (.invokevirtual 105, 3) := by decide +kernel
theorem dX4_readValue_153 : decode cX4_readValue 153 = .ok (.aload_n 0, 1) := by decide +kernel
theorem dX4_readValue_154 : decode cX4_readValue 154 = .ok (.sipush 216, 3) := by decide +kernel
theorem dX4_readValue_157 : decode cX4_readValue 157 = .ok (.invokevirtual 62, 3) := by decide +kernel
theorem dX4_readValue_160 : decode cX4_readValue 160 = .ok (.aload_n 0, 1) := by decide +kernel
theorem dX4_readValue_161 : decode cX4_readValue 161 = .ok (.getfield 23, 3) := by decide +kernel
theorem dX4_readValue_164 : decode cX4_readValue 164 = .ok (.getfield 151, 3) := by decide +kernel
theorem dX4_readValue_167 : decode cX4_readValue 167 = .ok (.iload_n 1, 1) := by decide +kernel
theorem dX4_readValue_168 : decode cX4_readValue 168 = .ok (.aload_n 0, 1) := by decide +kernel
theorem dX4_readValue_169 : decode cX4_readValue 169 = .ok (.iload_n 1, 1) := by decide +kernel
theorem dX4_readValue_170 : decode cX4_readValue 170 = .ok (.sipush 214, 3) := by decide +kernel
theorem dX4_readValue_173 : decode cX4_readValue 173 = .ok (.if_icmp .ne 10, 3) := by decide +kernel
theorem dX4_readValue_176 : decode cX4_readValue 176 = .ok (.aload_n 0, 1) := by decide +kernel
theorem dX4_readValue_177 : decode cX4_readValue 177 = .ok (.getfield 36, 3) := by decide +kernel
theorem dX4_readValue_180 : decode cX4_readValue 180 = .ok (.goto 7, 3) := by decide +kernel
theorem dX4_readValue_183 : decode cX4_readValue 183 = .ok (.aload_n 0, 1) := by decide +kernel
theorem dX4_readValue_184 : decode cX4_readValue 184 = .ok (.getfield 32, 3) := by decide +kernel
theorem dX4_readValue_187 : decode cX4_readValue 187 = .ok (.invokevirtual 131, 3) := by decide +kernel
theorem dX4_readValue_190 : decode cX4_readValue 190 = .ok (.invokevirtual 167, 3) := by decide +kernel
theorem dX4_readValue_193 : decode cX4_readValue 193 = .ok (.goto 98, 3) := by decide +kernel
theorem dX4_readValue_196 : decode cX4_readValue 196 = .ok (.aload_n 0, 1) := by decide +kernel
theorem dX4_readValue_197 : decode cX4_readValue 197 = .ok (.invokevirtual 173, 3) := by decide +kernel
theorem dX4_readValue_200 : decode cX4_readValue 200 = .ok (.ifCond .eq 91, 3) := by decide +kernel
theorem dX4_readValue_203 : decode cX4_readValue 203 = .ok (.aload_n 0, 1) := by decide +kernel
theorem dX4_readValue_204 : decode cX4_readValue 204 = .ok (.invokevirtual 188, 3) := by decide +kernel
theorem dX4_readValue_207 : decode cX4_readValue 207 = .ok (.aload_n 0, 1) := by decide +kernel
theorem dX4_readValue_208 : decode cX4_readValue 208 = .ok (.dup, 1) := by decide +kernel
theorem dX4_readValue_209 : decode cX4_readValue 209 = .ok (.getfield 93, 3) := by decide +kernel
theorem dX4_readValue_212 : decode cX4_readValue 212 = .ok (.iconst 1, 1) := by decide +kernel
theorem dX4_readValue_213 : decode cX4_readValue 213 = .ok (.isub, 1) := by decide +kernel
theorem dX4_readValue_214 : decode cX4_readValue 214 = .ok (.putfield 93, 3) := by decide +kernel
theorem dX4_readValue_217 : decode cX4_readValue 217 = .ok (.aload_n 0, 1) := by decide +kernel
theorem dX4_readValue_218 : decode cX4_readValue 218 = .ok (.getfield 23, 3) := by decide +kernel
theorem dX4_readValue_221 : decode cX4_readValue 221 = .ok (.getfield 151, 3) := by decide +kernel
theorem dX4_readValue_224 : decode cX4_readValue 224 = .ok (.sipush 134, 3) := by decide +kernel
theorem dX4_readValue_227 : decode cX4_readValue 227 = .ok (.iconst 0, 1) := by decide +kernel
theorem dX4_readValue_228 : decode cX4_readValue 228 = .ok (.invokevirtual 167, 3) := by decide +kernel
theorem dX4_readValue_231 : decode cX4_readValue 231 = .ok (.goto 60, 3) := by decide +kernel
theorem dX4_readValue_234 : decode cX4_readValue 234 = .ok (.aload_n 0, 1) := by decide +kernel
theorem dX4_readValue_235 : decode cX4_readValue 235 = .ok (.invokevirtual 173, 3) := by decide +kernel
theorem dX4_readValue_238 : decode cX4_readValue 238 = .ok (.ifCond .eq 53, 3) := by decide +kernel
theorem dX4_readValue_241 : decode cX4_readValue 241 = .ok (.aload_n 0, 1) := by decide +kernel
theorem dX4_readValue_242 : decode cX4_readValue 242 = .ok (.invokevirtual 179, 3) := by decide +kernel
theorem dX4_readValue_245 : decode cX4_readValue 245 = .ok (.aload_n 0, 1) := by decide +kernel
theorem dX4_readValue_246 : decode cX4_readValue 246 = .ok (.dup, 1) := by decide +kernel
theorem dX4_readValue_247 : decode cX4_readValue 247 = .ok (.getfield 93, 3) := by decide +kernel
theorem dX4_readValue_250 : decode cX4_readValue 250 = .ok (.iconst 1, 1) := by decide +kernel
theorem dX4_readValue_251 : decode cX4_readValue 251 = .ok (.isub, 1) := by decide +kernel
theorem dX4_readValue_252 : decode cX4_readValue 252 = .ok (.putfield 93, 3) := by decide +kernel
theorem dX4_readValue_255 : decode cX4_readValue 255 = .ok (.aload_n 0, 1) := by decide +kernel
theorem dX4_readValue_256 : decode cX4_readValue 256 = .ok (.bipush 41, 2) := by decide +kernel
theorem dX4_readValue_258 : decode cX4_readValue 258 = .ok (.invokevirtual 62, 3) := by decide +kernel
theorem dX4_readValue_261 : decode cX4_readValue 261 = .ok (.goto 30, 3) := by decide +kernel
theorem dX4_readValue_264 : decode cX4_readValue 264 = .ok (.aload_n 0, 1) := by decide +kernel
theorem dX4_readValue_265 : decode cX4_readValue 265 = .ok (.invokevirtual 105, 3) := by decide +kernel
theorem dX4_readValue_268 : decode cX4_readValue 268 = .ok (.aload_n 0, 1) := by decide +kernel
theorem dX4_readValue_269 : decode cX4_readValue 269 = .ok (.invokevirtual 191, 3) := by decide +kernel
theorem dX4_readValue_272 : decode cX4_readValue 272 = .ok (.aload_n 0, 1) := by decide +kernel
theorem dX4_readValue_273 : decode cX4_readValue 273 = .ok (.getfield 23, 3) := by decide +kernel
theorem dX4_readValue_276 : decode cX4_readValue 276 = .ok (.getfield 151, 3) := by decide +kernel
theorem dX4_readValue_279 : decode cX4_readValue 279 = .ok (.iload_n 1, 1) := by decide +kernel
theorem dX4_readValue_280 : decode cX4_readValue 280 = .ok (.iconst 0, 1) := by decide +kernel
theorem dX4_readValue_281 : decode cX4_readValue 281 = .ok (.invokevirtual 167, 3) := by decide +kernel
theorem dX4_readValue_284 : decode cX4_readValue 284 = .ok (.goto 7, 3) := by decide +kernel
theorem dX4_readValue_287 : decode cX4_readValue 287 = .ok (.aload_n 0, 1) := by decide +kernel
theorem dX4_readValue_288 : decode cX4_readValue 288 = .ok (.invokevirtual 59, 3) := by decide +kernel
theorem dX4_readValue_291 : decode cX4_readValue 291 = .ok (.return_, 1) := by decide +kernel
theorem dX4_readTwoSums_0 : decode cX4_readTwoSums 0 = .ok (.aload_n 0, 1) := by decide +kernel
theorem dX4_readTwoSums_1 : decode cX4_readTwoSums 1 = .ok (.getfield 42, 3) := by decide +kernel
theorem dX4_readTwoSums_4 : decode cX4_readTwoSums 4 = .ok (.bipush 40, 2) := by decide +kernel
theorem dX4_readTwoSums_6 : decode cX4_readTwoSums 6 = .ok (.if_icmp .eq 8, 3) := by decide +kernel
theorem dX4_readTwoSums_9 : decode cX4_readTwoSums 9 = .ok (.aload_n 0, 1) := by decide +kernel
theorem dX4_readTwoSums_10 : decode cX4_readTwoSums 10 = .ok (.invokevirtual 59, 3) := by decide +kernel
theorem dX4_readTwoSums_13 : decode cX4_readTwoSums 13 = .ok (.return_, 1) := by decide +kernel
theorem dX4_readTwoSums_14 : decode cX4_readTwoSums 14 = .ok (.aload_n 0, 1) := by decide +kernel
theorem dX4_readTwoSums_15 : decode cX4_readTwoSums 15 = .ok (.invokevirtual 173, 3) := by decide +kernel
theorem dX4_readTwoSums_18 : decode cX4_readTwoSums 18 = .ok (.ifCond .eq 33, 3) := by decide +kernel
theorem dX4_readTwoSums_21 : decode cX4_readTwoSums 21 = .ok (.aload_n 0, 1) := by decide +kernel
theorem dX4_readTwoSums_22 : decode cX4_readTwoSums 22 = .ok (.invokevirtual 179, 3) := by decide +kernel
theorem dX4_readTwoSums_25 : decode cX4_readTwoSums 25 = .ok (.aload_n 0, 1) := by decide +kernel
theorem dX4_readTwoSums_26 : decode cX4_readTwoSums 26 = .ok (.bipush 44, 2) := by decide +kernel
theorem dX4_readTwoSums_28 : decode cX4_readTwoSums 28 = .ok (.invokevirtual 62, 3) := by decide +kernel
theorem dX4_readTwoSums_31 : decode cX4_readTwoSums 31 = .ok (.aload_n 0, 1) := by decide +kernel
theorem dX4_readTwoSums_32 : decode cX4_readTwoSums 32 = .ok (.invokevirtual 179, 3) := by decide +kernel
theorem dX4_readTwoSums_35 : decode cX4_readTwoSums 35 = .ok (.aload_n 0, 1) := by decide +kernel
theorem dX4_readTwoSums_36 : decode cX4_readTwoSums 36 = .ok (.dup, 1) := by decide +kernel
theorem dX4_readTwoSums_37 : decode cX4_readTwoSums 37 = .ok (.getfield 93, 3) := by decide +kernel
theorem dX4_readTwoSums_40 : decode cX4_readTwoSums 40 = .ok (.iconst 1, 1) := by decide +kernel
theorem dX4_readTwoSums_41 : decode cX4_readTwoSums 41 = .ok (.isub, 1) := by decide +kernel
theorem dX4_readTwoSums_42 : decode cX4_readTwoSums 42 = .ok (.putfield 93, 3) := by decide +kernel
theorem dX4_readTwoSums_45 : decode cX4_readTwoSums 45 = .ok (.aload_n 0, 1) := by decide +kernel
theorem dX4_readTwoSums_46 : decode cX4_readTwoSums 46 = .ok (.bipush 41, 2) := by decide +kernel
theorem dX4_readTwoSums_48 : decode cX4_readTwoSums 48 = .ok (.invokevirtual 62, 3) := by decide +kernel
theorem dX4_readTwoSums_51 : decode cX4_readTwoSums 51 = .ok (.return_, 1) := by decide +kernel
theorem dX5_init_0 : decode cX5_init 0 = .ok (.aload_n 0, 1) := by decide +kernel
theorem dX5_init_1 : decode cX5_init 1 = .ok (.invokespecial 1, 3) := by decide +kernel
theorem dX5_init_4 : decode cX5_init 4 = .ok (.aload_n 0, 1) := by decide +kernel
theorem dX5_init_5 : decode cX5_init 5 = .ok (.iload_n 1, 1) := by decide +kernel
theorem dX5_init_6 : decode cX5_init 6 = .ok (.ifCond .le 7, 3) := by decide +kernel
theorem dX5_init_9 : decode cX5_init 9 = .ok (.iload_n 1, 1) := by decide +kernel
theorem dX5_init_10 : decode cX5_init 10 = .ok (.goto 4, 3) := by decide +kernel
theorem dX5_init_13 : decode cX5_init 13 = .ok (.iconst 0, 1) := by decide +kernel
theorem dX5_init_14 : decode cX5_init 14 = .ok (.newarray .int, 2) := by decide +kernel
theorem dX5_init_16 : decode cX5_init 16 = .ok (.putfield 7, 3) := by decide +kernel
theorem dX5_init_19 : decode cX5_init 19 = .ok (.return_, 1) := by decide +kernel
theorem dX5_get_0 : decode cX5_get 0 = .ok (.iload_n 1, 1) := by decide +kernel
theorem dX5_get_1 : decode cX5_get 1 = .ok (.ifCond .lt 21, 3) := by decide +kernel
theorem dX5_get_4 : decode cX5_get 4 = .ok (.iload_n 1, 1) := by decide +kernel
theorem dX5_get_5 : decode cX5_get 5 = .ok (.aload_n 0, 1) := by decide +kernel
theorem dX5_get_6 : decode cX5_get 6 = .ok (.getfield 7, 3) := by decide +kernel
theorem dX5_get_9 : decode cX5_get 9 = .ok (.arraylength, 1) := by decide +kernel
theorem dX5_get_10 : decode cX5_get 10 = .ok (.if_icmp .ge 12, 3) := by decide +kernel
theorem dX5_get_13 : decode cX5_get 13 = .ok (.aload_n 0, 1) := by decide +kernel
theorem dX5_get_14 : decode cX5_get 14 = .ok (.getfield 7, 3) := by decide +kernel
theorem dX5_get_17 : decode cX5_get 17 = .ok (.iload_n 1, 1) := by decide +kernel
theorem dX5_get_18 : decode cX5_get 18 = .ok (.iaload, 1) := by decide +kernel
theorem dX5_get_19 : decode cX5_get 19 = .ok (.goto 4, 3) := by decide +kernel
theorem dX5_get_22 : decode cX5_get 22 = .ok (.iconst 0, 1) := by decide +kernel
theorem dX5_get_23 : decode cX5_get 23 = .ok (.ireturn, 1) := by decide +kernel
theorem dX5_set_0 : decode cX5_set 0 = .ok (.iload_n 1, 1) := by decide +kernel
theorem dX5_set_1 : decode cX5_set 1 = .ok (.ifCond .lt 19, 3) := by decide +kernel
theorem dX5_set_4 : decode cX5_set 4 = .ok (.iload_n 1, 1) := by decide +kernel
theorem dX5_set_5 : decode cX5_set 5 = .ok (.aload_n 0, 1) := by decide +kernel
theorem dX5_set_6 : decode cX5_set 6 = .ok (.getfield 7, 3) := by decide +kernel
theorem dX5_set_9 : decode cX5_set 9 = .ok (.arraylength, 1) := by decide +kernel
theorem dX5_set_10 : decode cX5_set 10 = .ok (.if_icmp .ge 10, 3) := by decide +kernel
theorem dX5_set_13 : decode cX5_set 13 = .ok (.aload_n 0, 1) := by decide +kernel
theorem dX5_set_14 : decode cX5_set 14 = .ok (.getfield 7, 3) := by decide +kernel
theorem dX5_set_17 : decode cX5_set 17 = .ok (.iload_n 1, 1) := by decide +kernel
theorem dX5_set_18 : decode cX5_set 18 = .ok (.iload_n 2, 1) := by decide +kernel
theorem dX5_set_19 : decode cX5_set 19 = .ok (.iastore, 1) := by decide +kernel
theorem dX5_set_20 : decode cX5_set 20 = .ok (.return_, 1) := by decide +kernel
theorem dX5_copyFrom_0 : decode cX5_copyFrom 0 = .ok (.iconst 0, 1) := by decide +kernel
theorem dX5_copyFrom_1 : decode cX5_copyFrom 1 = .ok (.istore_n 2, 1) := by decide +kernel
theorem dX5_copyFrom_2 : decode cX5_copyFrom 2 = .ok (.iload_n 2, 1) := by decide +kernel
theorem dX5_copyFrom_3 : decode cX5_copyFrom 3 = .ok (.aload_n 0, 1) := by decide +kernel
theorem dX5_copyFrom_4 : decode cX5_copyFrom 4 = .ok (.getfield 7, 3) := by decide +kernel
theorem dX5_copyFrom_7 : decode cX5_copyFrom 7 = .ok (.arraylength, 1) := by decide +kernel
theorem dX5_copyFrom_8 : decode cX5_copyFrom 8 = .ok (.if_icmp .ge 20, 3) := by decide +kernel
theorem dX5_copyFrom_11 : decode cX5_copyFrom 11 = .ok (.aload_n 0, 1) := by decide +kernel
theorem dX5_copyFrom_12 : decode cX5_copyFrom 12 = .ok (.getfield 7, 3) := by decide +kernel
theorem dX5_copyFrom_15 : decode cX5_copyFrom 15 = .ok (.iload_n 2, 1) := by decide +kernel
theorem dX5_copyFrom_16 : decode cX5_copyFrom 16 = .ok (.aload_n 1, 1) := by decide +kernel
theorem dX5_copyFrom_17 : decode cX5_copyFrom 17 = .ok (.iload_n 2, 1) := by decide +kernel
theorem dX5_copyFrom_18 : decode cX5_copyFrom 18 = .ok (.invokevirtual 13, 3) := by decide +kernel
theorem dX5_copyFrom_21 : decode cX5_copyFrom 21 = .ok (.iastore, 1) := by decide +kernel
theorem dX5_copyFrom_22 : decode cX5_copyFrom 22 = .ok (.iinc 2 1, 3) := by decide +kernel
theorem dX5_copyFrom_25 : decode cX5_copyFrom 25 = .ok (.goto (-23), 3) := by decide +kernel
theorem dX5_copyFrom_28 : decode cX5_copyFrom 28 = .ok (.return_, 1) := by decide +kernel
theorem dX6_init_0 : decode cX6_init 0 = .ok (.aload_n 0, 1) := by decide +kernel
theorem dX6_init_1 : decode cX6_init 1 = .ok (.invokespecial 1, 3) := by decide +kernel
theorem dX6_init_4 : decode cX6_init 4 = .ok (.aload_n 0, 1) := by decide +kernel
theorem dX6_init_5 : decode cX6_init 5 = .ok (.new 7, 3) := by decide +kernel
theorem dX6_init_8 : decode cX6_init 8 = .ok (.dup, 1) := by decide +kernel
theorem dX6_init_9 : decode cX6_init 9 = .ok (.invokespecial 9, 3) := by decide +kernel
theorem dX6_init_12 : decode cX6_init 12 = .ok (.putfield 10, 3) := by decide +kernel
theorem dX6_init_15 : decode cX6_init 15 = .ok (.aload_n 0, 1) := by decide +kernel
theorem dX6_init_16 : decode cX6_init 16 = .ok (.new 16, 3) := by decide +kernel
theorem dX6_init_19 : decode cX6_init 19 = .ok (.dup, 1) := by decide +kernel
theorem dX6_init_20 : decode cX6_init 20 = .ok (.invokespecial 18, 3) := by decide +kernel
theorem dX6_init_23 : decode cX6_init 23 = .ok (.putfield 19, 3) := by decide +kernel
theorem dX6_init_26 : decode cX6_init 26 = .ok (.return_, 1) := by decide +kernel
theorem dX6_clear_0 : decode cX6_clear 0 = .ok (.aload_n 0, 1) := by decide +kernel
theorem dX6_clear_1 : decode cX6_clear 1 = .ok (.getfield 10, 3) := by decide +kernel
theorem dX6_clear_4 : decode cX6_clear 4 = .ok (.iconst 0, 1) := by decide +kernel
theorem dX6_clear_5 : decode cX6_clear 5 = .ok (.putfield 23, 3) := by decide +kernel
theorem dX6_clear_8 : decode cX6_clear 8 = .ok (.aload_n 0, 1) := by decide +kernel
theorem dX6_clear_9 : decode cX6_clear 9 = .ok (.getfield 19, 3) := by decide +kernel
theorem dX6_clear_12 : decode cX6_clear 12 = .ok (.iconst 0, 1) := by decide +kernel
theorem dX6_clear_13 : decode cX6_clear 13 = .ok (.putfield 27, 3) := by decide +kernel
theorem dX6_clear_16 : decode cX6_clear 16 = .ok (.aload_n 0, 1) := by decide +kernel
theorem dX6_clear_17 : decode cX6_clear 17 = .ok (.getfield 19, 3) := by decide +kernel
theorem dX6_clear_20 : decode cX6_clear 20 = .ok (.iconst 0, 1) := by decide +kernel
theorem dX6_clear_21 : decode cX6_clear 21 = .ok (.putfield 28, 3) := by decide +kernel
theorem dX6_clear_24 : decode cX6_clear 24 = .ok (.aload_n 0, 1) := by decide +kernel
theorem dX6_clear_25 : decode cX6_clear 25 = .ok (.iconst 0, 1) := by decide +kernel
theorem dX6_clear_26 : decode cX6_clear 26 = .ok (.putfield 31, 3) := by decide +kernel
theorem dX6_clear_29 : decode cX6_clear 29 = .ok (.aload_n 0, 1) := by decide +kernel
theorem dX6_clear_30 : decode cX6_clear 30 = .ok (.iconst 0, 1) := by decide +kernel
theorem dX6_clear_31 : decode cX6_clear 31 = .ok (.putfield 34, 3) := by decide +kernel
theorem dX6_clear_34 : decode cX6_clear 34 = .ok (.return_, 1) := by decide +kernel
theorem dX6_copyFrom_0 : decode cX6_copyFrom 0 = .ok (.aload_n 0, 1) := by decide +kernel
theorem dX6_copyFrom_1 : decode cX6_copyFrom 1 = .ok (.getfield 10, 3) := by decide +kernel
theorem dX6_copyFrom_4 : decode cX6_copyFrom 4 = .ok (.aload_n 1, 1) := by decide +kernel
theorem dX6_copyFrom_5 : decode cX6_copyFrom 5 = .ok (.getfield 10, 3) := by decide +kernel
theorem dX6_copyFrom_8 : decode cX6_copyFrom 8 = .ok (.invokevirtual 37, 3) := by decide +kernel
theorem dX6_copyFrom_11 : decode cX6_copyFrom 11 = .ok (.aload_n 0, 1) := by decide +kernel
theorem dX6_copyFrom_12 : decode cX6_copyFrom 12 = .ok (.getfield 19, 3) := by decide +kernel
theorem dX6_copyFrom_15 : decode cX6_copyFrom 15 = .ok (.aload_n 1, 1) := by decide +kernel
theorem dX6_copyFrom_16 : decode cX6_copyFrom 16 = .ok (.getfield 19, 3) := by decide +kernel
theorem dX6_copyFrom_19 : decode cX6_copyFrom 19 = .ok (.invokevirtual 41, 3) := by decide +kernel
theorem dX6_copyFrom_22 : decode cX6_copyFrom 22 = .ok (.aload_n 0, 1) := by decide +kernel
theorem dX6_copyFrom_23 : decode cX6_copyFrom 23 = .ok (.aload_n 1, 1) := by decide +kernel
theorem dX6_copyFrom_24 : decode cX6_copyFrom 24 = .ok (.getfield 31, 3) := by decide +kernel
theorem dX6_copyFrom_27 : decode cX6_copyFrom 27 = .ok (.putfield 31, 3) := by decide +kernel
theorem dX6_copyFrom_30 : decode cX6_copyFrom 30 = .ok (.aload_n 0, 1) := by decide +kernel
theorem dX6_copyFrom_31 : decode cX6_copyFrom 31 = .ok (.aload_n 1, 1) := by decide +kernel
theorem dX6_copyFrom_32 : decode cX6_copyFrom 32 = .ok (.getfield 34, 3) := by decide +kernel
theorem dX6_copyFrom_35 : decode cX6_copyFrom 35 = .ok (.putfield 34, 3) := by decide +kernel
theorem dX6_copyFrom_38 : decode cX6_copyFrom 38 = .ok (.return_, 1) := by decide +kernel
theorem dX7_init_0 : decode cX7_init 0 = .ok (.aload_n 0, 1) := by decide +kernel
theorem dX7_init_1 : decode cX7_init 1 = .ok (.invokespecial 3, 3) := by decide +kernel
theorem dX7_init_4 : decode cX7_init 4 = .ok (.aload_n 0, 1) := by decide +kernel
theorem dX7_init_5 : decode cX7_init 5 = .ok (.aload_n 1, 1) := by decide +kernel
theorem dX7_init_6 : decode cX7_init 6 = .ok (.putfield 9, 3) := by decide +kernel
theorem dX7_init_9 : decode cX7_init 9 = .ok (.aload_n 0, 1) := by decide +kernel
theorem dX7_init_10 : decode cX7_init 10 = .ok (.new 15, 3) := by decide +kernel
theorem dX7_init_13 : decode cX7_init 13 = .ok (.dup, 1) := by decide +kernel
theorem dX7_init_14 : decode cX7_init 14 = .ok (.sipush 401, 3) := by decide +kernel
theorem dX7_init_17 : decode cX7_init 17 = .ok (.invokespecial 17, 3) := by decide +kernel
theorem dX7_init_20 : decode cX7_init 20 = .ok (.putfield 20, 3) := by decide +kernel
theorem dX7_init_23 : decode cX7_init 23 = .ok (.aload_n 0, 1) := by decide +kernel
theorem dX7_init_24 : decode cX7_init 24 = .ok (.new 15, 3) := by decide +kernel
theorem dX7_init_27 : decode cX7_init 27 = .ok (.dup, 1) := by decide +kernel
theorem dX7_init_28 : decode cX7_init 28 = .ok (.sipush 401, 3) := by decide +kernel
theorem dX7_init_31 : decode cX7_init 31 = .ok (.invokespecial 17, 3) := by decide +kernel
theorem dX7_init_34 : decode cX7_init 34 = .ok (.putfield 23, 3) := by decide +kernel
theorem dX7_init_37 : decode cX7_init 37 = .ok (.aload_n 0, 1) := by decide +kernel
theorem dX7_init_38 : decode cX7_init 38 = .ok (.new 15, 3) := by decide +kernel
theorem dX7_init_41 : decode cX7_init 41 = .ok (.dup, 1) := by decide +kernel
theorem dX7_init_42 : decode cX7_init 42 = .ok (.sipush 401, 3) := by decide +kernel
theorem dX7_init_45 : decode cX7_init 45 = .ok (.invokespecial 17, 3) := by decide +kernel
theorem dX7_init_48 : decode cX7_init 48 = .ok (.putfield 26, 3) := by decide +kernel
theorem dX7_init_51 : decode cX7_init 51 = .ok (.aload_n 0, 1) := by decide +kernel
theorem dX7_init_52 : decode cX7_init 52 = .ok (.sipush 401, 3) := by decide +kernel
theorem dX7_init_55 : decode cX7_init 55 = .ok (.newarray .long, 2) := by decide +kernel
theorem dX7_init_57 : decode cX7_init 57 = .ok (.putfield 29, 3) := by decide +kernel
theorem dX7_init_60 : decode cX7_init 60 = .ok (.aload_n 0, 1) := by decide +kernel
theorem dX7_init_61 : decode cX7_init 61 = .ok (.new 33, 3) := by decide +kernel
theorem dX7_init_64 : decode cX7_init 64 = .ok (.dup, 1) := by decide +kernel
theorem dX7_init_65 : decode cX7_init 65 = .ok (.bipush 25, 2) := by decide +kernel
theorem dX7_init_67 : decode cX7_init 67 = .ok (.invokespecial 35, 3) := by decide +kernel
theorem dX7_init_70 : decode cX7_init 70 = .ok (.putfield 36, 3) := by decide +kernel
theorem dX7_init_73 : decode cX7_init 73 = .ok (.aload_n 0, 1) := by decide +kernel
theorem dX7_init_74 : decode cX7_init 74 = .ok (.invokevirtual 40, 3) := by decide +kernel
theorem dX7_init_77 : decode cX7_init 77 = .ok (.return_, 1) := by decide +kernel
theorem dX7_fillKeywords_0 : decode cX7_fillKeywords 0 = .ok (.lconst 0, 1) := by decide +kernel
theorem dX7_fillKeywords_1 : decode cX7_fillKeywords 1 = .ok (.lstore_n 1, 1) := by decide +kernel
theorem dX7_fillKeywords_2 : decode cX7_fillKeywords 2 = .ok (.iconst 0, 1) := by decide +kernel
theorem dX7_fillKeywords_3 : decode cX7_fillKeywords 3 = .ok (.istore_n 3, 1) := by decide +kernel
theorem dX7_fillKeywords_4 : decode cX7_fillKeywords 4 = .ok (.iload_n 3, 1) := by decide +kernel
theorem dX7_fillKeywords_5 : decode cX7_fillKeywords 5 = .ok (.ldc 43, 2) := by decide +kernel
theorem dX7_fillKeywords_7 : decode cX7_fillKeywords 7 = .ok (.invokevirtual 45, 3) := by decide +kernel
theorem dX7_fillKeywords_10 : decode cX7_fillKeywords 10 = .ok (.if_icmp .ge 44, 3) := by decide +kernel
theorem dX7_fillKeywords_13 : decode cX7_fillKeywords 13 = .ok (.ldc 43, 2) := by decide +kernel
theorem dX7_fillKeywords_15 : decode cX7_fillKeywords 15 = .ok (.iload_n 3, 1) := by decide +kernel
theorem dX7_fillKeywords_16 : decode cX7_fillKeywords 16 = .ok (.invokevirtual 51, 3) := by decide +kernel
theorem dX7_fillKeywords_19 : decode cX7_fillKeywords 19 = .ok (.istore 4, 2) := by decide +kernel
theorem dX7_fillKeywords_21 : decode cX7_fillKeywords 21 = .ok (.iload 4, 2) := by decide +kernel
theorem dX7_fillKeywords_23 : decode cX7_fillKeywords 23 = .ok (.bipush 32, 2) := by decide +kernel
theorem dX7_fillKeywords_25 : decode cX7_fillKeywords 25 = .ok (.if_icmp .ne 16, 3) := by decide +kernel
theorem dX7_fillKeywords_28 : decode cX7_fillKeywords 28 = .ok (.aload_n 0, 1) := by decide +kernel
theorem dX7_fillKeywords_29 : decode cX7_fillKeywords 29 = .ok (.getfield 36, 3) := by decide +kernel
theorem dX7_fillKeywords_32 : decode cX7_fillKeywords 32 = .ok (.lload_n 1, 1) := by decide +kernel
theorem dX7_fillKeywords_33 : decode cX7_fillKeywords 33 = .ok (.invokevirtual 55, 3) := by decide +kernel
theorem dX7_fillKeywords_36 : decode cX7_fillKeywords 36 = .ok (.lconst 0, 1) := by decide +kernel
theorem dX7_fillKeywords_37 : decode cX7_fillKeywords 37 = .ok (.lstore_n 1, 1) := by decide +kernel
theorem dX7_fillKeywords_38 : decode cX7_fillKeywords 38 = .ok (.goto 10, 3) := by decide +kernel
theorem dX7_fillKeywords_41 : decode cX7_fillKeywords 41 = .ok (.lload_n 1, 1) := by decide +kernel
theorem dX7_fillKeywords_42 : decode cX7_fillKeywords 42 = .ok (.iload 4, 2) := by decide +kernel
theorem dX7_fillKeywords_44 : decode cX7_fillKeywords 44 = .ok (.invokestatic 59, 3) := by decide +kernel
theorem dX7_fillKeywords_47 : decode cX7_fillKeywords 47 = .ok (.lstore_n 1, 1) := by decide +kernel
theorem dX7_fillKeywords_48 : decode cX7_fillKeywords 48 = .ok (.iinc 3 1, 3) := by decide +kernel
theorem dX7_fillKeywords_51 : decode cX7_fillKeywords 51 = .ok (.goto (-47), 3) := by decide +kernel
theorem dX7_fillKeywords_54 : decode cX7_fillKeywords 54 = .ok (.return_, 1) := by decide +kernel
theorem dX7_split_0 : decode cX7_split 0 = .ok (.aload_n 0, 1) := by decide +kernel
theorem dX7_split_1 : decode cX7_split 1 = .ok (.iload_n 1, 1) := by decide +kernel
theorem dX7_split_2 : decode cX7_split 2 = .ok (.putfield 63, 3) := by decide +kernel
theorem dX7_split_5 : decode cX7_split 5 = .ok (.aload_n 0, 1) := by decide +kernel
theorem dX7_split_6 : decode cX7_split 6 = .ok (.iconst 0, 1) := by decide +kernel
theorem dX7_split_7 : decode cX7_split 7 = .ok (.putfield 67, 3) := by decide +kernel
theorem dX7_split_10 : decode cX7_split 10 = .ok (.sipush 130, 3) := by decide +kernel
theorem dX7_split_13 : decode cX7_split 13 = .ok (.istore_n 2, 1) := by decide +kernel
theorem dX7_split_14 : decode cX7_split 14 = .ok (.iconst 0, 1) := by decide +kernel
theorem dX7_split_15 : decode cX7_split 15 = .ok (.istore_n 3, 1) := by decide +kernel
theorem dX7_split_16 : decode cX7_split 16 = .ok (.iload_n 3, 1) := by decide +kernel
theorem dX7_split_17 : decode cX7_split 17 = .ok (.sipush 400, 3) := by decide +kernel
theorem dX7_split_20 : decode cX7_split 20 = .ok (.if_icmp .gt 102, 3) := by decide +kernel
theorem dX7_split_23 : decode cX7_split 23 = .ok (.iload_n 2, 1) := by decide +kernel
theorem dX7_split_24 : decode cX7_split 24 = .ok (.sipush 132, 3) := by decide +kernel
theorem dX7_split_27 : decode cX7_split 27 = .ok (.if_icmp .eq 95, 3) := by decide +kernel
theorem dX7_split_30 : decode cX7_split 30 = .ok (.iload_n 2, 1) := by decide +kernel
theorem dX7_split_31 : decode cX7_split 31 = .ok (.sipush 133, 3) := by decide +kernel
theorem dX7_split_34 : decode cX7_split 34 = .ok (.if_icmp .eq 88, 3) := by decide +kernel
theorem dX7_split_37 : decode cX7_split 37 = .ok (.aload_n 0, 1) := by decide +kernel
theorem dX7_split_38 : decode cX7_split 38 = .ok (.invokevirtual 70, 3) := by decide +kernel
theorem dX7_split_41 : decode cX7_split 41 = .ok (.aload_n 0, 1) := by decide +kernel
theorem dX7_split_42 : decode cX7_split 42 = .ok (.getfield 23, 3) := by decide +kernel
theorem dX7_split_45 : decode cX7_split 45 = .ok (.iload_n 3, 1) := by decide +kernel
theorem dX7_split_46 : decode cX7_split 46 = .ok (.aload_n 0, 1) := by decide +kernel
theorem dX7_split_47 : decode cX7_split 47 = .ok (.getfield 67, 3) := by decide +kernel
theorem dX7_split_50 : decode cX7_split 50 = .ok (.invokevirtual 73, 3) := by decide +kernel
theorem dX7_split_53 : decode cX7_split 53 = .ok (.aload_n 0, 1) := by decide +kernel
theorem dX7_split_54 : decode cX7_split 54 = .ok (.invokevirtual 77, 3) := by decide +kernel
theorem dX7_split_57 : decode cX7_split 57 = .ok (.istore_n 2, 1) := by decide +kernel
theorem dX7_split_58 : decode cX7_split 58 = .ok (.iload_n 3, 1) := by decide +kernel
theorem dX7_split_59 : decode cX7_split 59 = .ok (.sipush 400, 3) := by decide +kernel
theorem dX7_split_62 : decode cX7_split 62 = .ok (.if_icmp .ne 14, 3) := by decide +kernel
theorem dX7_split_65 : decode cX7_split 65 = .ok (.iload_n 2, 1) := by decide +kernel
theorem dX7_split_66 : decode cX7_split 66 = .ok (.sipush 132, 3) := by decide +kernel
theorem dX7_split_69 : decode cX7_split 69 = .ok (.if_icmp .eq 7, 3) := by decide +kernel
theorem dX7_split_72 : decode cX7_split 72 = .ok (.sipush 133, 3) := by decide +kernel
theorem dX7_split_75 : decode cX7_split 75 = .ok (.istore_n 2, 1) := by decide +kernel
theorem dX7_split_76 : decode cX7_split 76 = .ok (.aload_n 0, 1) := by decide +kernel
theorem dX7_split_77 : decode cX7_split 77 = .ok (.getfield 20, 3) := by decide +kernel
theorem dX7_split_80 : decode cX7_split 80 = .ok (.iload_n 3, 1) := by decide +kernel
theorem dX7_split_81 : decode cX7_split 81 = .ok (.iload_n 2, 1) := by decide +kernel
theorem dX7_split_82 : decode cX7_split 82 = .ok (.invokevirtual 73, 3) := by decide +kernel
theorem dX7_split_85 : decode cX7_split 85 = .ok (.aload_n 0, 1) := by decide +kernel
theorem dX7_split_86 : decode cX7_split 86 = .ok (.getfield 26, 3) := by decide +kernel
theorem dX7_split_89 : decode cX7_split 89 = .ok (.iload_n 3, 1) := by decide +kernel
theorem dX7_split_90 : decode cX7_split 90 = .ok (.aload_n 0, 1) := by decide +kernel
theorem dX7_split_91 : decode cX7_split 91 = .ok (.getfield 80, 3) := by decide +kernel
theorem dX7_split_94 : decode cX7_split 94 = .ok (.invokevirtual 73, 3) := by decide +kernel
theorem dX7_split_97 : decode cX7_split 97 = .ok (.iload_n 3, 1) := by decide +kernel
theorem dX7_split_98 : decode cX7_split 98 = .ok (.aload_n 0, 1) := by decide +kernel
theorem dX7_split_99 : decode cX7_split 99 = .ok (.getfield 29, 3) := by decide +kernel
theorem dX7_split_102 : decode cX7_split 102 = .ok (.arraylength, 1) := by decide +kernel
theorem dX7_split_103 : decode cX7_split 103 = .ok (.if_icmp .ge 13, 3) := by decide +kernel
theorem dX7_split_106 : decode cX7_split 106 = .ok (.aload_n 0, 1) := by decide +kernel
theorem dX7_split_107 : decode cX7_split 107 = .ok (.getfield 29, 3) := by decide +kernel
theorem dX7_split_110 : decode cX7_split 110 = .ok (.iload_n 3, 1) := by decide +kernel
theorem dX7_split_111 : decode cX7_split 111 = .ok (.aload_n 0, 1) := by decide +kernel
theorem dX7_split_112 : decode cX7_split 112 = .ok (.getfield 83, 3) := by decide +kernel
theorem dX7_split_115 : decode cX7_split 115 = .ok (.lastore, 1) := by decide +kernel
theorem dX7_split_116 : decode cX7_split 116 = .ok (.iinc 3 1, 3) := by decide +kernel
theorem dX7_split_119 : decode cX7_split 119 = .ok (.goto (-103), 3) := by decide +kernel
theorem dX7_split_122 : decode cX7_split 122 = .ok (.return_, 1) := by decide +kernel
theorem dX7_wordAt_0 : decode cX7_wordAt 0 = .ok (.iload_n 1, 1) := by decide +kernel
theorem dX7_wordAt_1 : decode cX7_wordAt 1 = .ok (.ifCond .lt 21, 3) := by decide +kernel
theorem dX7_wordAt_4 : decode cX7_wordAt 4 = .ok (.iload_n 1, 1) := by decide +kernel
theorem dX7_wordAt_5 : decode cX7_wordAt 5 = .ok (.aload_n 0, 1) := by decide +kernel
theorem dX7_wordAt_6 : decode cX7_wordAt 6 = .ok (.getfield 29, 3) := by decide +kernel
theorem dX7_wordAt_9 : decode cX7_wordAt 9 = .ok (.arraylength, 1) := by decide +kernel
theorem dX7_wordAt_10 : decode cX7_wordAt 10 = .ok (.if_icmp .ge 12, 3) := by decide +kernel
theorem dX7_wordAt_13 : decode cX7_wordAt 13 = .ok (.aload_n 0, 1) := by decide +kernel
theorem dX7_wordAt_14 : decode cX7_wordAt 14 = .ok (.getfield 29, 3) := by decide +kernel
theorem dX7_wordAt_17 : decode cX7_wordAt 17 = .ok (.iload_n 1, 1) := by decide +kernel
theorem dX7_wordAt_18 : decode cX7_wordAt 18 = .ok (.laload, 1) := by decide +kernel
theorem dX7_wordAt_19 : decode cX7_wordAt 19 = .ok (.goto 4, 3) := by decide +kernel
theorem dX7_wordAt_22 : decode cX7_wordAt 22 = .ok (.lconst 0, 1) := by decide +kernel
theorem dX7_wordAt_23 : decode cX7_wordAt 23 = .ok (.lreturn, 1) := by decide +kernel
theorem dX7_skipBlanks_0 : decode cX7_skipBlanks 0 = .ok (.aload_n 0, 1) := by decide +kernel
theorem dX7_skipBlanks_1 : decode cX7_skipBlanks 1 = .ok (.getfield 67, 3) := by decide +kernel
theorem dX7_skipBlanks_4 : decode cX7_skipBlanks 4 = .ok (.aload_n 0, 1) := by decide +kernel
theorem dX7_skipBlanks_5 : decode cX7_skipBlanks 5 = .ok (.getfield 63, 3) := by decide +kernel
theorem dX7_skipBlanks_8 : decode cX7_skipBlanks 8 = .ok (.if_icmp .ge 48, 3) := by decide +kernel
theorem dX7_skipBlanks_11 : decode cX7_skipBlanks 11 = .ok (.aload_n 0, 1) := by decide +kernel
theorem dX7_skipBlanks_12 : decode cX7_skipBlanks 12 = .ok (.getfield 9, 3) := by decide +kernel
theorem dX7_skipBlanks_15 : decode cX7_skipBlanks 15 = .ok (.aload_n 0, 1) := by decide +kernel
theorem dX7_skipBlanks_16 : decode cX7_skipBlanks 16 = .ok (.getfield 67, 3) := by decide +kernel
theorem dX7_skipBlanks_19 : decode cX7_skipBlanks 19 = .ok (.invokevirtual 87, 3) := by decide +kernel
theorem dX7_skipBlanks_22 : decode cX7_skipBlanks 22 = .ok (.bipush 32, 2) := by decide +kernel
theorem dX7_skipBlanks_24 : decode cX7_skipBlanks 24 = .ok (.if_icmp .eq 19, 3) := by decide +kernel
theorem dX7_skipBlanks_27 : decode cX7_skipBlanks 27 = .ok (.aload_n 0, 1) := by decide +kernel
theorem dX7_skipBlanks_28 : decode cX7_skipBlanks 28 = .ok (.getfield 9, 3) := by decide +kernel
theorem dX7_skipBlanks_31 : decode cX7_skipBlanks 31 = .ok (.aload_n 0, 1) := by decide +kernel
theorem dX7_skipBlanks_32 : decode cX7_skipBlanks 32 = .ok (.getfield 67, 3) := by decide +kernel
theorem dX7_skipBlanks_35 : decode cX7_skipBlanks 35 = .ok (.invokevirtual 87, 3) := by decide +kernel
theorem dX7_skipBlanks_38 : decode cX7_skipBlanks 38 = .ok (.bipush 10, 2) := by decide +kernel
theorem dX7_skipBlanks_40 : decode cX7_skipBlanks 40 = .ok (.if_icmp .ne 16, 3) := by decide +kernel
theorem dX7_skipBlanks_43 : decode cX7_skipBlanks 43 = .ok (.aload_n 0, 1) := by decide +kernel
theorem dX7_skipBlanks_44 : decode cX7_skipBlanks 44 = .ok (.dup, 1) := by decide +kernel
theorem dX7_skipBlanks_45 : decode cX7_skipBlanks 45 = .ok (.getfield 67, 3) := by decide +kernel
theorem dX7_skipBlanks_48 : decode cX7_skipBlanks 48 = .ok (.iconst 1, 1) := by decide +kernel
theorem dX7_skipBlanks_49 : decode cX7_skipBlanks 49 = .ok (.iadd, 1) := by decide +kernel
theorem dX7_skipBlanks_50 : decode cX7_skipBlanks 50 = .ok (.putfield 67, 3) := by decide +kernel
theorem dX7_skipBlanks_53 : decode cX7_skipBlanks 53 = .ok (.goto (-53), 3) := by decide +kernel
theorem dX7_skipBlanks_56 : decode cX7_skipBlanks 56 = .ok (.return_, 1) := by decide +kernel
theorem dX7_nextKind_0 : decode cX7_nextKind 0 = .ok (.aload_n 0, 1) := by decide +kernel
theorem dX7_nextKind_1 : decode cX7_nextKind 1 = .ok (.getfield 67, 3) := by decide +kernel
theorem dX7_nextKind_4 : decode cX7_nextKind 4 = .ok (.aload_n 0, 1) := by decide +kernel
theorem dX7_nextKind_5 : decode cX7_nextKind 5 = .ok (.getfield 63, 3) := by decide +kernel
theorem dX7_nextKind_8 : decode cX7_nextKind 8 = .ok (.if_icmp .lt 7, 3) := by decide +kernel
theorem dX7_nextKind_11 : decode cX7_nextKind 11 = .ok (.sipush 132, 3) := by decide +kernel
theorem dX7_nextKind_14 : decode cX7_nextKind 14 = .ok (.ireturn, 1) := by decide +kernel
theorem dX7_nextKind_15 : decode cX7_nextKind 15 = .ok (.aload_n 0, 1) := by decide +kernel
theorem dX7_nextKind_16 : decode cX7_nextKind 16 = .ok (.getfield 9, 3) := by decide +kernel
theorem dX7_nextKind_19 : decode cX7_nextKind 19 = .ok (.aload_n 0, 1) := by decide +kernel
theorem dX7_nextKind_20 : decode cX7_nextKind 20 = .ok (.getfield 67, 3) := by decide +kernel
theorem dX7_nextKind_23 : decode cX7_nextKind 23 = .ok (.invokevirtual 87, 3) := by decide +kernel
theorem dX7_nextKind_26 : decode cX7_nextKind 26 = .ok (.istore_n 1, 1) := by decide +kernel
theorem dX7_nextKind_27 : decode cX7_nextKind 27 = .ok (.iload_n 1, 1) := by decide +kernel
theorem dX7_nextKind_28 : decode cX7_nextKind 28 = .ok (.invokestatic 91, 3) := by decide +kernel
theorem dX7_nextKind_31 : decode cX7_nextKind 31 = .ok (.ifCond .eq 8, 3) := by decide +kernel
theorem dX7_nextKind_34 : decode cX7_nextKind 34 = .ok (.aload_n 0, 1) := by decide +kernel
theorem dX7_nextKind_35 : decode cX7_nextKind 35 = .ok (.invokevirtual 95, 3) := by decide +kernel
theorem dX7_nextKind_38 : decode cX7_nextKind 38 = .ok (.ireturn, 1) := by decide +kernel
theorem dX7_nextKind_39 : decode cX7_nextKind 39 = .ok (.iload_n 1, 1) := by decide +kernel
theorem dX7_nextKind_40 : decode cX7_nextKind 40 = .ok (.invokestatic 98, 3) := by decide +kernel
theorem dX7_nextKind_43 : decode cX7_nextKind 43 = .ok (.ifCond .eq 8, 3) := by decide +kernel
theorem dX7_nextKind_46 : decode cX7_nextKind 46 = .ok (.aload_n 0, 1) := by decide +kernel
theorem dX7_nextKind_47 : decode cX7_nextKind 47 = .ok (.invokevirtual 101, 3) := by decide +kernel
theorem dX7_nextKind_50 : decode cX7_nextKind 50 = .ok (.ireturn, 1) := by decide +kernel
theorem dX7_nextKind_51 : decode cX7_nextKind 51 = .ok (.aload_n 0, 1) := by decide +kernel
theorem dX7_nextKind_52 : decode cX7_nextKind 52 = .ok (.dup, 1) := by decide +kernel
theorem dX7_nextKind_53 : decode cX7_nextKind 53 = .ok (.getfield 67, 3) := by decide +kernel
theorem dX7_nextKind_56 : decode cX7_nextKind 56 = .ok (.iconst 1, 1) := by decide +kernel
theorem dX7_nextKind_57 : decode cX7_nextKind 57 = .ok (.iadd, 1) := by decide +kernel
theorem dX7_nextKind_58 : decode cX7_nextKind 58 = .ok (.putfield 67, 3) := by decide +kernel
theorem dX7_nextKind_61 : decode cX7_nextKind 61 = .ok (.iload_n 1, 1) := by decide +kernel
theorem dX7_nextKind_62 : decode cX7_nextKind 62 = .ok (.bipush 60, 2) := by decide +kernel
theorem dX7_nextKind_64 : decode cX7_nextKind 64 = .ok (.if_icmp .eq 9, 3) := by decide +kernel
theorem dX7_nextKind_67 : decode cX7_nextKind 67 = .ok (.iload_n 1, 1) := by decide +kernel
theorem dX7_nextKind_68 : decode cX7_nextKind 68 = .ok (.bipush 62, 2) := by decide +kernel
theorem dX7_nextKind_70 : decode cX7_nextKind 70 = .ok (.if_icmp .ne 56, 3) := by decide +kernel
theorem dX7_nextKind_73 : decode cX7_nextKind 73 = .ok (.aload_n 0, 1) := by decide +kernel
theorem dX7_nextKind_74 : decode cX7_nextKind 74 = .ok (.getfield 67, 3) := by decide +kernel
theorem dX7_nextKind_77 : decode cX7_nextKind 77 = .ok (.aload_n 0, 1) := by decide +kernel
theorem dX7_nextKind_78 : decode cX7_nextKind 78 = .ok (.getfield 63, 3) := by decide +kernel
theorem dX7_nextKind_81 : decode cX7_nextKind 81 = .ok (.if_icmp .ge 45, 3) := by decide +kernel
theorem dX7_nextKind_84 : decode cX7_nextKind 84 = .ok (.aload_n 0, 1) := by decide +kernel
theorem dX7_nextKind_85 : decode cX7_nextKind 85 = .ok (.getfield 9, 3) := by decide +kernel
theorem dX7_nextKind_88 : decode cX7_nextKind 88 = .ok (.aload_n 0, 1) := by decide +kernel
theorem dX7_nextKind_89 : decode cX7_nextKind 89 = .ok (.getfield 67, 3) := by decide +kernel
theorem dX7_nextKind_92 : decode cX7_nextKind 92 = .ok (.invokevirtual 87, 3) := by decide +kernel
theorem dX7_nextKind_95 : decode cX7_nextKind 95 = .ok (.bipush 61, 2) := by decide +kernel
theorem dX7_nextKind_97 : decode cX7_nextKind 97 = .ok (.if_icmp .ne 29, 3) := by decide +kernel
theorem dX7_nextKind_100 : decode cX7_nextKind 100 = .ok (.aload_n 0, 1) := by decide +kernel
theorem dX7_nextKind_101 : decode cX7_nextKind 101 = .ok (.dup, 1) := by decide +kernel
theorem dX7_nextKind_102 : decode cX7_nextKind 102 = .ok (.getfield 67, 3) := by decide +kernel
theorem dX7_nextKind_105 : decode cX7_nextKind 105 = .ok (.iconst 1, 1) := by decide +kernel
theorem dX7_nextKind_106 : decode cX7_nextKind 106 = .ok (.iadd, 1) := by decide +kernel
theorem dX7_nextKind_107 : decode cX7_nextKind 107 = .ok (.putfield 67, 3) := by decide +kernel
theorem dX7_nextKind_110 : decode cX7_nextKind 110 = .ok (.iload_n 1, 1) := by decide +kernel
theorem dX7_nextKind_111 : decode cX7_nextKind 111 = .ok (.bipush 60, 2) := by decide +kernel
theorem dX7_nextKind_113 : decode cX7_nextKind 113 = .ok (.if_icmp .ne 9, 3) := by decide +kernel
theorem dX7_nextKind_116 : decode cX7_nextKind 116 = .ok (.sipush 128, 3) := by decide +kernel
theorem dX7_nextKind_119 : decode cX7_nextKind 119 = .ok (.goto 6, 3) := by decide +kernel
theorem dX7_nextKind_122 : decode cX7_nextKind 122 = .ok (.sipush 129, 3) := by decide +kernel
theorem dX7_nextKind_125 : decode cX7_nextKind 125 = .ok (.ireturn, 1) := by decide +kernel
theorem dX7_nextKind_126 : decode cX7_nextKind 126 = .ok (.ldc 104, 2) := by decide +kernel
theorem dX7_nextKind_128 : decode cX7_nextKind 128 = .ok (.iload_n 1, 1) := by decide +kernel
theorem dX7_nextKind_129 : decode cX7_nextKind 129 = .ok (.i2c, 1) := by decide +kernel
theorem dX7_nextKind_130 : decode cX7_nextKind 130 = .ok (.invokevirtual 106, 3) := by decide +kernel
theorem dX7_nextKind_133 : decode cX7_nextKind 133 = .ok (.ifCond .lt 7, 3) := by decide +kernel
theorem dX7_nextKind_136 : decode cX7_nextKind 136 = .ok (.iload_n 1, 1) := by decide +kernel
theorem dX7_nextKind_137 : decode cX7_nextKind 137 = .ok (.goto 6, 3) := by decide +kernel
theorem dX7_nextKind_140 : decode cX7_nextKind 140 = .ok (.sipush 133, 3) := by decide +kernel
theorem dX7_nextKind_143 : decode cX7_nextKind 143 = .ok (.ireturn, 1) := by decide +kernel
theorem dX7_wordKind_0 : decode cX7_wordKind 0 = .ok (.aload_n 0, 1) := by decide +kernel
theorem dX7_wordKind_1 : decode cX7_wordKind 1 = .ok (.getfield 67, 3) := by decide +kernel
theorem dX7_wordKind_4 : decode cX7_wordKind 4 = .ok (.istore_n 1, 1) := by decide +kernel
theorem dX7_wordKind_5 : decode cX7_wordKind 5 = .ok (.aload_n 0, 1) := by decide +kernel
theorem dX7_wordKind_6 : decode cX7_wordKind 6 = .ok (.lconst 0, 1) := by decide +kernel
theorem dX7_wordKind_7 : decode cX7_wordKind 7 = .ok (.putfield 83, 3) := by decide +kernel
theorem dX7_wordKind_10 : decode cX7_wordKind 10 = .ok (.aload_n 0, 1) := by decide +kernel
theorem dX7_wordKind_11 : decode cX7_wordKind 11 = .ok (.getfield 67, 3) := by decide +kernel
theorem dX7_wordKind_14 : decode cX7_wordKind 14 = .ok (.aload_n 0, 1) := by decide +kernel
theorem dX7_wordKind_15 : decode cX7_wordKind 15 = .ok (.getfield 63, 3) := by decide +kernel
theorem dX7_wordKind_18 : decode cX7_wordKind 18 = .ok (.if_icmp .ge 72, 3) := by decide +kernel
theorem dX7_wordKind_21 : decode cX7_wordKind 21 = .ok (.aload_n 0, 1) := by decide +kernel
theorem dX7_wordKind_22 : decode cX7_wordKind 22 = .ok (.getfield 9, 3) := by decide +kernel
theorem dX7_wordKind_25 : decode cX7_wordKind 25 = .ok (.aload_n 0, 1) := by decide +kernel
theorem dX7_wordKind_26 : decode cX7_wordKind 26 = .ok (.getfield 67, 3) := by decide +kernel
theorem dX7_wordKind_29 : decode cX7_wordKind 29 = .ok (.invokevirtual 87, 3) := by decide +kernel
theorem dX7_wordKind_32 : decode cX7_wordKind 32 = .ok (.invokestatic 91, 3) := by decide +kernel
theorem dX7_wordKind_35 : decode cX7_wordKind 35 = .ok (.ifCond .ne 20, 3) := by decide +kernel
theorem dX7_wordKind_38 : decode cX7_wordKind 38 = .ok (.aload_n 0, 1) := by decide +kernel
theorem dX7_wordKind_39 : decode cX7_wordKind 39 = .ok (.getfield 9, 3) := by decide +kernel
theorem dX7_wordKind_42 : decode cX7_wordKind 42 = .ok (.aload_n 0, 1) := by decide +kernel
theorem dX7_wordKind_43 : decode cX7_wordKind 43 = .ok (.getfield 67, 3) := by decide +kernel
theorem dX7_wordKind_46 : decode cX7_wordKind 46 = .ok (.invokevirtual 87, 3) := by decide +kernel
theorem dX7_wordKind_49 : decode cX7_wordKind 49 = .ok (.invokestatic 98, 3) := by decide +kernel
theorem dX7_wordKind_52 : decode cX7_wordKind 52 = .ok (.ifCond .eq 38, 3) := by decide +kernel
theorem dX7_wordKind_55 : decode cX7_wordKind 55 = .ok (.aload_n 0, 1) := by decide +kernel
theorem dX7_wordKind_56 : decode cX7_wordKind 56 = .ok (.aload_n 0, 1) := by decide +kernel
theorem dX7_wordKind_57 : decode cX7_wordKind 57 = .ok (.getfield 83, 3) := by decide +kernel
theorem dX7_wordKind_60 : decode cX7_wordKind 60 = .ok (.aload_n 0, 1) := by decide +kernel
theorem dX7_wordKind_61 : decode cX7_wordKind 61 = .ok (.getfield 9, 3) := by decide +kernel
theorem dX7_wordKind_64 : decode cX7_wordKind 64 = .ok (.aload_n 0, 1) := by decide +kernel
theorem dX7_wordKind_65 : decode cX7_wordKind 65 = .ok (.getfield 67, 3) := by decide +kernel
theorem dX7_wordKind_68 : decode cX7_wordKind 68 = .ok (.invokevirtual 87, 3) := by decide +kernel
theorem dX7_wordKind_71 : decode cX7_wordKind 71 = .ok (.invokestatic 59, 3) := by decide +kernel
theorem dX7_wordKind_74 : decode cX7_wordKind 74 = .ok (.putfield 83, 3) := by decide +kernel
theorem dX7_wordKind_77 : decode cX7_wordKind 77 = .ok (.aload_n 0, 1) := by decide +kernel
theorem dX7_wordKind_78 : decode cX7_wordKind 78 = .ok (.dup, 1) := by decide +kernel
theorem dX7_wordKind_79 : decode cX7_wordKind 79 = .ok (.getfield 67, 3) := by decide +kernel
theorem dX7_wordKind_82 : decode cX7_wordKind 82 = .ok (.iconst 1, 1) := by decide +kernel
theorem dX7_wordKind_83 : decode cX7_wordKind 83 = .ok (.iadd, 1) := by decide +kernel
theorem dX7_wordKind_84 : decode cX7_wordKind 84 = .ok (.putfield 67, 3) := by decide +kernel
theorem dX7_wordKind_87 : decode cX7_wordKind 87 = .ok (.goto (-77), 3) := by decide +kernel
theorem dX7_wordKind_90 : decode cX7_wordKind 90 = .ok (.aload_n 0, 1) := by decide +kernel
theorem dX7_wordKind_91 : decode cX7_wordKind 91 = .ok (.getfield 67, 3) := by decide +kernel
theorem dX7_wordKind_94 : decode cX7_wordKind 94 = .ok (.iload_n 1, 1) := by decide +kernel
theorem dX7_wordKind_95 : decode cX7_wordKind 95 = .ok (.isub, 1) := by decide +kernel
theorem dX7_wordKind_96 : decode cX7_wordKind 96 = .ok (.bipush 10, 2) := by decide +kernel
theorem dX7_wordKind_98 : decode cX7_wordKind 98 = .ok (.if_icmp .le 7, 3) := by decide +kernel
theorem dX7_wordKind_101 : decode cX7_wordKind 101 = .ok (.sipush 133, 3) := by decide +kernel
theorem dX7_wordKind_104 : decode cX7_wordKind 104 = .ok (.ireturn, 1) := by decide +kernel
theorem dX7_wordKind_105 : decode cX7_wordKind 105 = .ok (.aload_n 0, 1) := by decide +kernel
theorem dX7_wordKind_106 : decode cX7_wordKind 106 = .ok (.getfield 36, 3) := by decide +kernel
theorem dX7_wordKind_109 : decode cX7_wordKind 109 = .ok (.aload_n 0, 1) := by decide +kernel
theorem dX7_wordKind_110 : decode cX7_wordKind 110 = .ok (.getfield 83, 3) := by decide +kernel
theorem dX7_wordKind_113 : decode cX7_wordKind 113 = .ok (.invokevirtual 109, 3) := by decide +kernel
theorem dX7_wordKind_116 : decode cX7_wordKind 116 = .ok (.istore_n 2, 1) := by decide +kernel
theorem dX7_wordKind_117 : decode cX7_wordKind 117 = .ok (.iload_n 2, 1) := by decide +kernel
theorem dX7_wordKind_118 : decode cX7_wordKind 118 = .ok (.ifCond .lt 11, 3) := by decide +kernel
theorem dX7_wordKind_121 : decode cX7_wordKind 121 = .ok (.sipush 200, 3) := by decide +kernel
theorem dX7_wordKind_124 : decode cX7_wordKind 124 = .ok (.iload_n 2, 1) := by decide +kernel
theorem dX7_wordKind_125 : decode cX7_wordKind 125 = .ok (.iadd, 1) := by decide +kernel
theorem dX7_wordKind_126 : decode cX7_wordKind 126 = .ok (.goto 6, 3) := by decide +kernel
theorem dX7_wordKind_129 : decode cX7_wordKind 129 = .ok (.sipush 130, 3) := by decide +kernel
theorem dX7_wordKind_132 : decode cX7_wordKind 132 = .ok (.ireturn, 1) := by decide +kernel
theorem dX7_numberKind_0 : decode cX7_numberKind 0 = .ok (.aload_n 0, 1) := by decide +kernel
theorem dX7_numberKind_1 : decode cX7_numberKind 1 = .ok (.getfield 67, 3) := by decide +kernel
theorem dX7_numberKind_4 : decode cX7_numberKind 4 = .ok (.istore_n 1, 1) := by decide +kernel
theorem dX7_numberKind_5 : decode cX7_numberKind 5 = .ok (.aload_n 0, 1) := by decide +kernel
theorem dX7_numberKind_6 : decode cX7_numberKind 6 = .ok (.iconst 0, 1) := by decide +kernel
theorem dX7_numberKind_7 : decode cX7_numberKind 7 = .ok (.putfield 80, 3) := by decide +kernel
theorem dX7_numberKind_10 : decode cX7_numberKind 10 = .ok (.aload_n 0, 1) := by decide +kernel
theorem dX7_numberKind_11 : decode cX7_numberKind 11 = .ok (.getfield 67, 3) := by decide +kernel
theorem dX7_numberKind_14 : decode cX7_numberKind 14 = .ok (.aload_n 0, 1) := by decide +kernel
theorem dX7_numberKind_15 : decode cX7_numberKind 15 = .ok (.getfield 63, 3) := by decide +kernel
theorem dX7_numberKind_18 : decode cX7_numberKind 18 = .ok (.if_icmp .ge 59, 3) := by decide +kernel
theorem dX7_numberKind_21 : decode cX7_numberKind 21 = .ok (.aload_n 0, 1) := by decide +kernel
theorem dX7_numberKind_22 : decode cX7_numberKind 22 = .ok (.getfield 9, 3) := by decide +kernel
theorem dX7_numberKind_25 : decode cX7_numberKind 25 = .ok (.aload_n 0, 1) := by decide +kernel
theorem dX7_numberKind_26 : decode cX7_numberKind 26 = .ok (.getfield 67, 3) := by decide +kernel
theorem dX7_numberKind_29 : decode cX7_numberKind 29 = .ok (.invokevirtual 87, 3) := by decide +kernel
theorem dX7_numberKind_32 : decode cX7_numberKind 32 = .ok (.invokestatic 98, 3) := by decide +kernel
theorem dX7_numberKind_35 : decode cX7_numberKind 35 = .ok (.ifCond .eq 42, 3) := by decide +kernel
theorem dX7_numberKind_38 : decode cX7_numberKind 38 = .ok (.aload_n 0, 1) := by decide +kernel
theorem dX7_numberKind_39 : decode cX7_numberKind 39 = .ok (.aload_n 0, 1) := by decide +kernel
theorem dX7_numberKind_40 : decode cX7_numberKind 40 = .ok (.getfield 80, 3) := by decide +kernel
theorem dX7_numberKind_43 : decode cX7_numberKind 43 = .ok (.bipush 10, 2) := by decide +kernel
theorem dX7_numberKind_45 : decode cX7_numberKind 45 = .ok (.imul, 1) := by decide +kernel
theorem dX7_numberKind_46 : decode cX7_numberKind 46 = .ok (.aload_n 0, 1) := by decide +kernel
theorem dX7_numberKind_47 : decode cX7_numberKind 47 = .ok (.getfield 9, 3) := by decide +kernel
theorem dX7_numberKind_50 : decode cX7_numberKind 50 = .ok (.aload_n 0, 1) := by decide +kernel
theorem dX7_numberKind_51 : decode cX7_numberKind 51 = .ok (.getfield 67, 3) := by decide +kernel
theorem dX7_numberKind_54 : decode cX7_numberKind 54 = .ok (.invokevirtual 87, 3) := by decide +kernel
theorem dX7_numberKind_57 : decode cX7_numberKind 57 = .ok (.bipush 48, 2) := by decide +kernel
theorem dX7_numberKind_59 : decode cX7_numberKind 59 = .ok (.isub, 1) := by decide +kernel
theorem dX7_numberKind_60 : decode cX7_numberKind 60 = .ok (.iadd, 1) := by decide +kernel
theorem dX7_numberKind_61 : decode cX7_numberKind 61 = .ok (.putfield 80, 3) := by decide +kernel
theorem dX7_numberKind_64 : decode cX7_numberKind 64 = .ok (.aload_n 0, 1) := by decide +kernel
theorem dX7_numberKind_65 : decode cX7_numberKind 65 = .ok (.dup, 1) := by decide +kernel
theorem dX7_numberKind_66 : decode cX7_numberKind 66 = .ok (.getfield 67, 3) := by decide +kernel
theorem dX7_numberKind_69 : decode cX7_numberKind 69 = .ok (.iconst 1, 1) := by decide +kernel
theorem dX7_numberKind_70 : decode cX7_numberKind 70 = .ok (.iadd, 1) := by decide +kernel
theorem dX7_numberKind_71 : decode cX7_numberKind 71 = .ok (.putfield 67, 3) := by decide +kernel
theorem dX7_numberKind_74 : decode cX7_numberKind 74 = .ok (.goto (-64), 3) := by decide +kernel
theorem dX7_numberKind_77 : decode cX7_numberKind 77 = .ok (.aload_n 0, 1) := by decide +kernel
theorem dX7_numberKind_78 : decode cX7_numberKind 78 = .ok (.getfield 67, 3) := by decide +kernel
theorem dX7_numberKind_81 : decode cX7_numberKind 81 = .ok (.iload_n 1, 1) := by decide +kernel
theorem dX7_numberKind_82 : decode cX7_numberKind 82 = .ok (.isub, 1) := by decide +kernel
theorem dX7_numberKind_83 : decode cX7_numberKind 83 = .ok (.bipush 6, 2) := by decide +kernel
theorem dX7_numberKind_85 : decode cX7_numberKind 85 = .ok (.if_icmp .le 9, 3) := by decide +kernel
theorem dX7_numberKind_88 : decode cX7_numberKind 88 = .ok (.sipush 133, 3) := by decide +kernel
theorem dX7_numberKind_91 : decode cX7_numberKind 91 = .ok (.goto 6, 3) := by decide +kernel
theorem dX7_numberKind_94 : decode cX7_numberKind 94 = .ok (.sipush 131, 3) := by decide +kernel
theorem dX7_numberKind_97 : decode cX7_numberKind 97 = .ok (.ireturn, 1) := by decide +kernel
theorem dX7_isLetter_0 : decode cX7_isLetter 0 = .ok (.iload_n 0, 1) := by decide +kernel
theorem dX7_isLetter_1 : decode cX7_isLetter 1 = .ok (.bipush 97, 2) := by decide +kernel
theorem dX7_isLetter_3 : decode cX7_isLetter 3 = .ok (.if_icmp .lt 13, 3) := by decide +kernel
theorem dX7_isLetter_6 : decode cX7_isLetter 6 = .ok (.iload_n 0, 1) := by decide +kernel
theorem dX7_isLetter_7 : decode cX7_isLetter 7 = .ok (.bipush 122, 2) := by decide +kernel
theorem dX7_isLetter_9 : decode cX7_isLetter 9 = .ok (.if_icmp .gt 7, 3) := by decide +kernel
theorem dX7_isLetter_12 : decode cX7_isLetter 12 = .ok (.iconst 1, 1) := by decide +kernel
theorem dX7_isLetter_13 : decode cX7_isLetter 13 = .ok (.goto 4, 3) := by decide +kernel
theorem dX7_isLetter_16 : decode cX7_isLetter 16 = .ok (.iconst 0, 1) := by decide +kernel
theorem dX7_isLetter_17 : decode cX7_isLetter 17 = .ok (.ireturn, 1) := by decide +kernel
theorem dX7_isDigit_0 : decode cX7_isDigit 0 = .ok (.iload_n 0, 1) := by decide +kernel
theorem dX7_isDigit_1 : decode cX7_isDigit 1 = .ok (.bipush 48, 2) := by decide +kernel
theorem dX7_isDigit_3 : decode cX7_isDigit 3 = .ok (.if_icmp .lt 13, 3) := by decide +kernel
theorem dX7_isDigit_6 : decode cX7_isDigit 6 = .ok (.iload_n 0, 1) := by decide +kernel
theorem dX7_isDigit_7 : decode cX7_isDigit 7 = .ok (.bipush 57, 2) := by decide +kernel
theorem dX7_isDigit_9 : decode cX7_isDigit 9 = .ok (.if_icmp .gt 7, 3) := by decide +kernel
theorem dX7_isDigit_12 : decode cX7_isDigit 12 = .ok (.iconst 1, 1) := by decide +kernel
theorem dX7_isDigit_13 : decode cX7_isDigit 13 = .ok (.goto 4, 3) := by decide +kernel
theorem dX7_isDigit_16 : decode cX7_isDigit 16 = .ok (.iconst 0, 1) := by decide +kernel
theorem dX7_isDigit_17 : decode cX7_isDigit 17 = .ok (.ireturn, 1) := by decide +kernel
theorem dX7_pack_0 : decode cX7_pack 0 = .ok (.lload_n 0, 1) := by decide +kernel
theorem dX7_pack_1 : decode cX7_pack 1 = .ok (.ldc2_w 113, 3) := by decide +kernel
theorem dX7_pack_4 : decode cX7_pack 4 = .ok (.lmul, 1) := by decide +kernel
theorem dX7_pack_5 : decode cX7_pack 5 = .ok (.iload_n 2, 1) := by decide +kernel
theorem dX7_pack_6 : decode cX7_pack 6 = .ok (.invokestatic 98, 3) := by decide +kernel
theorem dX7_pack_9 : decode cX7_pack 9 = .ok (.ifCond .eq 13, 3) := by decide +kernel
theorem dX7_pack_12 : decode cX7_pack 12 = .ok (.iload_n 2, 1) := by decide +kernel
theorem dX7_pack_13 : decode cX7_pack 13 = .ok (.bipush 48, 2) := by decide +kernel
theorem dX7_pack_15 : decode cX7_pack 15 = .ok (.isub, 1) := by decide +kernel
theorem dX7_pack_16 : decode cX7_pack 16 = .ok (.bipush 27, 2) := by decide +kernel
theorem dX7_pack_18 : decode cX7_pack 18 = .ok (.iadd, 1) := by decide +kernel
theorem dX7_pack_19 : decode cX7_pack 19 = .ok (.goto 9, 3) := by decide +kernel
theorem dX7_pack_22 : decode cX7_pack 22 = .ok (.iload_n 2, 1) := by decide +kernel
theorem dX7_pack_23 : decode cX7_pack 23 = .ok (.bipush 97, 2) := by decide +kernel
theorem dX7_pack_25 : decode cX7_pack 25 = .ok (.isub, 1) := by decide +kernel
theorem dX7_pack_26 : decode cX7_pack 26 = .ok (.iconst 1, 1) := by decide +kernel
theorem dX7_pack_27 : decode cX7_pack 27 = .ok (.iadd, 1) := by decide +kernel
theorem dX7_pack_28 : decode cX7_pack 28 = .ok (.i2l, 1) := by decide +kernel
theorem dX7_pack_29 : decode cX7_pack 29 = .ok (.ladd, 1) := by decide +kernel
theorem dX7_pack_30 : decode cX7_pack 30 = .ok (.lreturn, 1) := by decide +kernel
theorem dX8_init_0 : decode cX8_init 0 = .ok (.aload_n 0, 1) := by decide +kernel
theorem dX8_init_1 : decode cX8_init 1 = .ok (.invokespecial 3, 3) := by decide +kernel
theorem dX8_init_4 : decode cX8_init 4 = .ok (.aload_n 0, 1) := by decide +kernel
theorem dX8_init_5 : decode cX8_init 5 = .ok (.aload_n 1, 1) := by decide +kernel
theorem dX8_init_6 : decode cX8_init 6 = .ok (.putfield 9, 3) := by decide +kernel
theorem dX8_init_9 : decode cX8_init 9 = .ok (.aload_n 0, 1) := by decide +kernel
theorem dX8_init_10 : decode cX8_init 10 = .ok (.new 15, 3) := by decide +kernel
theorem dX8_init_13 : decode cX8_init 13 = .ok (.dup, 1) := by decide +kernel
theorem dX8_init_14 : decode cX8_init 14 = .ok (.bipush 10, 2) := by decide +kernel
theorem dX8_init_16 : decode cX8_init 16 = .ok (.invokespecial 17, 3) := by decide +kernel
theorem dX8_init_19 : decode cX8_init 19 = .ok (.putfield 20, 3) := by decide +kernel
theorem dX8_init_22 : decode cX8_init 22 = .ok (.aload_n 0, 1) := by decide +kernel
theorem dX8_init_23 : decode cX8_init 23 = .ok (.new 15, 3) := by decide +kernel
theorem dX8_init_26 : decode cX8_init 26 = .ok (.dup, 1) := by decide +kernel
theorem dX8_init_27 : decode cX8_init 27 = .ok (.bipush 8, 2) := by decide +kernel
theorem dX8_init_29 : decode cX8_init 29 = .ok (.invokespecial 17, 3) := by decide +kernel
theorem dX8_init_32 : decode cX8_init 32 = .ok (.putfield 24, 3) := by decide +kernel
theorem dX8_init_35 : decode cX8_init 35 = .ok (.aload_n 0, 1) := by decide +kernel
theorem dX8_init_36 : decode cX8_init 36 = .ok (.new 15, 3) := by decide +kernel
theorem dX8_init_39 : decode cX8_init 39 = .ok (.dup, 1) := by decide +kernel
theorem dX8_init_40 : decode cX8_init 40 = .ok (.bipush 8, 2) := by decide +kernel
theorem dX8_init_42 : decode cX8_init 42 = .ok (.invokespecial 17, 3) := by decide +kernel
theorem dX8_init_45 : decode cX8_init 45 = .ok (.putfield 27, 3) := by decide +kernel
theorem dX8_init_48 : decode cX8_init 48 = .ok (.aload_n 0, 1) := by decide +kernel
theorem dX8_init_49 : decode cX8_init 49 = .ok (.iconst (-1), 1) := by decide +kernel
theorem dX8_init_50 : decode cX8_init 50 = .ok (.putfield 30, 3) := by decide +kernel
theorem dX8_init_53 : decode cX8_init 53 = .ok (.return_, 1) := by decide +kernel
theorem dX8_hearClaims_0 : decode cX8_hearClaims 0 = .ok (.aload_n 0, 1) := by decide +kernel
theorem dX8_hearClaims_1 : decode cX8_hearClaims 1 = .ok (.iconst (-1), 1) := by decide +kernel
theorem dX8_hearClaims_2 : decode cX8_hearClaims 2 = .ok (.putfield 30, 3) := by decide +kernel
theorem dX8_hearClaims_5 : decode cX8_hearClaims 5 = .ok (.iconst 0, 1) := by decide +kernel
theorem dX8_hearClaims_6 : decode cX8_hearClaims 6 = .ok (.istore_n 1, 1) := by decide +kernel
theorem dX8_hearClaims_7 : decode cX8_hearClaims 7 = .ok (.iload_n 1, 1) := by decide +kernel
theorem dX8_hearClaims_8 : decode cX8_hearClaims 8 = .ok (.bipush 10, 2) := by decide +kernel
theorem dX8_hearClaims_10 : decode cX8_hearClaims 10 = .ok (.if_icmp .ge 18, 3) := by decide +kernel
theorem dX8_hearClaims_13 : decode cX8_hearClaims 13 = .ok (.aload_n 0, 1) := by decide +kernel
theorem dX8_hearClaims_14 : decode cX8_hearClaims 14 = .ok (.getfield 20, 3) := by decide +kernel
theorem dX8_hearClaims_17 : decode cX8_hearClaims 17 = .ok (.iload_n 1, 1) := by decide +kernel
theorem dX8_hearClaims_18 : decode cX8_hearClaims 18 = .ok (.iconst 0, 1) := by decide +kernel
theorem dX8_hearClaims_19 : decode cX8_hearClaims 19 = .ok (.invokevirtual 34, 3) := by decide +kernel
theorem dX8_hearClaims_22 : decode cX8_hearClaims 22 = .ok (.iinc 1 1, 3) := by decide +kernel
theorem dX8_hearClaims_25 : decode cX8_hearClaims 25 = .ok (.goto (-18), 3) := by decide +kernel
theorem dX8_hearClaims_28 : decode cX8_hearClaims 28 = .ok (.iconst 0, 1) := by decide +kernel
theorem dX8_hearClaims_29 : decode cX8_hearClaims 29 = .ok (.istore_n 1, 1) := by decide +kernel
theorem dX8_hearClaims_30 : decode cX8_hearClaims 30 = .ok (.iload_n 1, 1) := by decide +kernel
theorem dX8_hearClaims_31 : decode cX8_hearClaims 31 = .ok (.aload_n 0, 1) := by decide +kernel
theorem dX8_hearClaims_32 : decode cX8_hearClaims 32 = .ok (.getfield 9, 3) := by decide +kernel
theorem dX8_hearClaims_35 : decode cX8_hearClaims 35 = .ok (.getfield 38, 3) := by decide +kernel
theorem dX8_hearClaims_38 : decode cX8_hearClaims 38 = .ok (.getfield 44, 3) := by decide +kernel
theorem dX8_hearClaims_41 : decode cX8_hearClaims 41 = .ok (.if_icmp .ge 80, 3) := by decide +kernel
theorem dX8_hearClaims_44 : decode cX8_hearClaims 44 = .ok (.iload_n 1, 1) := by decide +kernel
theorem dX8_hearClaims_45 : decode cX8_hearClaims 45 = .ok (.iconst 1, 1) := by decide +kernel
theorem dX8_hearClaims_46 : decode cX8_hearClaims 46 = .ok (.iadd, 1) := by decide +kernel
theorem dX8_hearClaims_47 : decode cX8_hearClaims 47 = .ok (.istore_n 2, 1) := by decide +kernel
theorem dX8_hearClaims_48 : decode cX8_hearClaims 48 = .ok (.iload_n 2, 1) := by decide +kernel
theorem dX8_hearClaims_49 : decode cX8_hearClaims 49 = .ok (.aload_n 0, 1) := by decide +kernel
theorem dX8_hearClaims_50 : decode cX8_hearClaims 50 = .ok (.getfield 9, 3) := by decide +kernel
theorem dX8_hearClaims_53 : decode cX8_hearClaims 53 = .ok (.getfield 38, 3) := by decide +kernel
theorem dX8_hearClaims_56 : decode cX8_hearClaims 56 = .ok (.getfield 44, 3) := by decide +kernel
theorem dX8_hearClaims_59 : decode cX8_hearClaims 59 = .ok (.if_icmp .ge 56, 3) := by decide +kernel
theorem dX8_hearClaims_62 : decode cX8_hearClaims 62 = .ok (.aload_n 0, 1) := by decide +kernel
theorem dX8_hearClaims_63 : decode cX8_hearClaims 63 = .ok (.getfield 9, 3) := by decide +kernel
theorem dX8_hearClaims_66 : decode cX8_hearClaims 66 = .ok (.getfield 38, 3) := by decide +kernel
theorem dX8_hearClaims_69 : decode cX8_hearClaims 69 = .ok (.iload_n 1, 1) := by decide +kernel
theorem dX8_hearClaims_70 : decode cX8_hearClaims 70 = .ok (.iload_n 2, 1) := by decide +kernel
theorem dX8_hearClaims_71 : decode cX8_hearClaims 71 = .ok (.invokevirtual 49, 3) := by decide +kernel
theorem dX8_hearClaims_74 : decode cX8_hearClaims 74 = .ok (.ifCond .eq 35, 3) := by decide +kernel
theorem dX8_hearClaims_77 : decode cX8_hearClaims 77 = .ok (.aload_n 0, 1) := by decide +kernel
theorem dX8_hearClaims_78 : decode cX8_hearClaims 78 = .ok (.aload_n 0, 1) := by decide +kernel
theorem dX8_hearClaims_79 : decode cX8_hearClaims 79 = .ok (.getfield 9, 3) := by decide +kernel
theorem dX8_hearClaims_82 : decode cX8_hearClaims 82 = .ok (.getfield 38, 3) := by decide +kernel
theorem dX8_hearClaims_85 : decode cX8_hearClaims 85 = .ok (.getfield 53, 3) := by decide +kernel
theorem dX8_hearClaims_88 : decode cX8_hearClaims 88 = .ok (.iload_n 1, 1) := by decide +kernel
theorem dX8_hearClaims_89 : decode cX8_hearClaims 89 = .ok (.invokevirtual 56, 3) := by decide +kernel
theorem dX8_hearClaims_92 : decode cX8_hearClaims 92 = .ok (.aload_n 0, 1) := by decide +kernel
theorem dX8_hearClaims_93 : decode cX8_hearClaims 93 = .ok (.getfield 9, 3) := by decide +kernel
theorem dX8_hearClaims_96 : decode cX8_hearClaims 96 = .ok (.getfield 38, 3) := by decide +kernel
theorem dX8_hearClaims_99 : decode cX8_hearClaims 99 = .ok (.getfield 53, 3) := by decide +kernel
theorem dX8_hearClaims_102 : decode cX8_hearClaims 102 = .ok (.iload_n 2, 1) := by decide +kernel
theorem dX8_hearClaims_103 : decode cX8_hearClaims 103 = .ok (.invokevirtual 56, 3) := by decide +kernel
theorem dX8_hearClaims_106 : decode cX8_hearClaims 106 = .ok (.invokevirtual 60, 3) := by decide +kernel
theorem dX8_hearClaims_109 : decode cX8_hearClaims 109 = .ok (.iinc 2 1, 3) := by decide +kernel
theorem dX8_hearClaims_112 : decode cX8_hearClaims 112 = .ok (.goto (-64), 3) := by decide +kernel
theorem dX8_hearClaims_115 : decode cX8_hearClaims 115 = .ok (.iinc 1 1, 3) := by decide +kernel
theorem dX8_hearClaims_118 : decode cX8_hearClaims 118 = .ok (.goto (-88), 3) := by decide +kernel
theorem dX8_hearClaims_121 : decode cX8_hearClaims 121 = .ok (.return_, 1) := by decide +kernel
theorem dX8_setAgainst_0 : decode cX8_setAgainst 0 = .ok (.aload_n 0, 1) := by decide +kernel
theorem dX8_setAgainst_1 : decode cX8_setAgainst 1 = .ok (.getfield 20, 3) := by decide +kernel
theorem dX8_setAgainst_4 : decode cX8_setAgainst 4 = .ok (.iload_n 1, 1) := by decide +kernel
theorem dX8_setAgainst_5 : decode cX8_setAgainst 5 = .ok (.aload_n 0, 1) := by decide +kernel
theorem dX8_setAgainst_6 : decode cX8_setAgainst 6 = .ok (.getfield 20, 3) := by decide +kernel
theorem dX8_setAgainst_9 : decode cX8_setAgainst 9 = .ok (.iload_n 1, 1) := by decide +kernel
theorem dX8_setAgainst_10 : decode cX8_setAgainst 10 = .ok (.invokevirtual 56, 3) := by decide +kernel
theorem dX8_setAgainst_13 : decode cX8_setAgainst 13 = .ok (.iconst 1, 1) := by decide +kernel
theorem dX8_setAgainst_14 : decode cX8_setAgainst 14 = .ok (.iload_n 2, 1) := by decide +kernel
theorem dX8_setAgainst_15 : decode cX8_setAgainst 15 = .ok (.ishl, 1) := by decide +kernel
theorem dX8_setAgainst_16 : decode cX8_setAgainst 16 = .ok (.ior, 1) := by decide +kernel
theorem dX8_setAgainst_17 : decode cX8_setAgainst 17 = .ok (.invokevirtual 34, 3) := by decide +kernel
theorem dX8_setAgainst_20 : decode cX8_setAgainst 20 = .ok (.aload_n 0, 1) := by decide +kernel
theorem dX8_setAgainst_21 : decode cX8_setAgainst 21 = .ok (.getfield 20, 3) := by decide +kernel
theorem dX8_setAgainst_24 : decode cX8_setAgainst 24 = .ok (.iload_n 2, 1) := by decide +kernel
theorem dX8_setAgainst_25 : decode cX8_setAgainst 25 = .ok (.aload_n 0, 1) := by decide +kernel
theorem dX8_setAgainst_26 : decode cX8_setAgainst 26 = .ok (.getfield 20, 3) := by decide +kernel
theorem dX8_setAgainst_29 : decode cX8_setAgainst 29 = .ok (.iload_n 2, 1) := by decide +kernel
theorem dX8_setAgainst_30 : decode cX8_setAgainst 30 = .ok (.invokevirtual 56, 3) := by decide +kernel
theorem dX8_setAgainst_33 : decode cX8_setAgainst 33 = .ok (.iconst 1, 1) := by decide +kernel
theorem dX8_setAgainst_34 : decode cX8_setAgainst 34 = .ok (.iload_n 1, 1) := by decide +kernel
theorem dX8_setAgainst_35 : decode cX8_setAgainst 35 = .ok (.ishl, 1) := by decide +kernel
theorem dX8_setAgainst_36 : decode cX8_setAgainst 36 = .ok (.ior, 1) := by decide +kernel
theorem dX8_setAgainst_37 : decode cX8_setAgainst 37 = .ok (.invokevirtual 34, 3) := by decide +kernel
theorem dX8_setAgainst_40 : decode cX8_setAgainst 40 = .ok (.return_, 1) := by decide +kernel
theorem dX8_believedSet_0 : decode cX8_believedSet 0 = .ok (.iconst 1, 1) := by decide +kernel
theorem dX8_believedSet_1 : decode cX8_believedSet 1 = .ok (.aload_n 0, 1) := by decide +kernel
theorem dX8_believedSet_2 : decode cX8_believedSet 2 = .ok (.getfield 9, 3) := by decide +kernel
theorem dX8_believedSet_5 : decode cX8_believedSet 5 = .ok (.getfield 63, 3) := by decide +kernel
theorem dX8_believedSet_8 : decode cX8_believedSet 8 = .ok (.ishl, 1) := by decide +kernel
theorem dX8_believedSet_9 : decode cX8_believedSet 9 = .ok (.iconst 1, 1) := by decide +kernel
theorem dX8_believedSet_10 : decode cX8_believedSet 10 = .ok (.isub, 1) := by decide +kernel
theorem dX8_believedSet_11 : decode cX8_believedSet 11 = .ok (.iload_n 1, 1) := by decide +kernel
theorem dX8_believedSet_12 : decode cX8_believedSet 12 = .ok (.iconst (-1), 1) := by decide +kernel
theorem dX8_believedSet_13 : decode cX8_believedSet 13 = .ok (.ixor, 1) := by decide +kernel
theorem dX8_believedSet_14 : decode cX8_believedSet 14 = .ok (.iand, 1) := by decide +kernel
theorem dX8_believedSet_15 : decode cX8_believedSet 15 = .ok (.ireturn, 1) := by decide +kernel
theorem dX8_tellersContradict_0 : decode cX8_tellersContradict 0 = .ok (.iload_n 3, 1) := by decide +kernel
theorem dX8_tellersContradict_1 : decode cX8_tellersContradict 1 = .ok (.iload_n 1, 1) := by decide +kernel
theorem dX8_tellersContradict_2 : decode cX8_tellersContradict 2 = .ok (.invokestatic 66, 3) := by decide +kernel
theorem dX8_tellersContradict_5 : decode cX8_tellersContradict 5 = .ok (.ifCond .ne 30, 3) := by decide +kernel
theorem dX8_tellersContradict_8 : decode cX8_tellersContradict 8 = .ok (.iload_n 3, 1) := by decide +kernel
theorem dX8_tellersContradict_9 : decode cX8_tellersContradict 9 = .ok (.iload_n 2, 1) := by decide +kernel
theorem dX8_tellersContradict_10 : decode cX8_tellersContradict 10 = .ok (.invokestatic 66, 3) := by decide +kernel
theorem dX8_tellersContradict_13 : decode cX8_tellersContradict 13 = .ok (.ifCond .ne 22, 3) := by decide +kernel
theorem dX8_tellersContradict_16 : decode cX8_tellersContradict 16 = .ok (.aload_n 0, 1) := by decide +kernel
theorem dX8_tellersContradict_17 : decode cX8_tellersContradict 17 = .ok (.getfield 20, 3) := by decide +kernel
theorem dX8_tellersContradict_20 : decode cX8_tellersContradict 20 = .ok (.iload_n 1, 1) := by decide +kernel
theorem dX8_tellersContradict_21 : decode cX8_tellersContradict 21 = .ok (.invokevirtual 56, 3) := by decide +kernel
theorem dX8_tellersContradict_24 : decode cX8_tellersContradict 24 = .ok (.iload_n 2, 1) := by decide +kernel
theorem dX8_tellersContradict_25 : decode cX8_tellersContradict 25 = .ok (.invokestatic 66, 3) := by decide +kernel
theorem dX8_tellersContradict_28 : decode cX8_tellersContradict 28 = .ok (.ifCond .eq 7, 3) := by decide +kernel
theorem dX8_tellersContradict_31 : decode cX8_tellersContradict 31 = .ok (.iconst 1, 1) := by decide +kernel
theorem dX8_tellersContradict_32 : decode cX8_tellersContradict 32 = .ok (.goto 4, 3) := by decide +kernel
theorem dX8_tellersContradict_35 : decode cX8_tellersContradict 35 = .ok (.iconst 0, 1) := by decide +kernel
theorem dX8_tellersContradict_36 : decode cX8_tellersContradict 36 = .ok (.ireturn, 1) := by decide +kernel
theorem dX8_pairCount_0 : decode cX8_pairCount 0 = .ok (.iconst 0, 1) := by decide +kernel
theorem dX8_pairCount_1 : decode cX8_pairCount 1 = .ok (.istore_n 2, 1) := by decide +kernel
theorem dX8_pairCount_2 : decode cX8_pairCount 2 = .ok (.aload_n 0, 1) := by decide +kernel
theorem dX8_pairCount_3 : decode cX8_pairCount 3 = .ok (.iload_n 1, 1) := by decide +kernel
theorem dX8_pairCount_4 : decode cX8_pairCount 4 = .ok (.invokevirtual 69, 3) := by decide +kernel
theorem dX8_pairCount_7 : decode cX8_pairCount 7 = .ok (.istore_n 3, 1) := by decide +kernel
theorem dX8_pairCount_8 : decode cX8_pairCount 8 = .ok (.iconst 0, 1) := by decide +kernel
theorem dX8_pairCount_9 : decode cX8_pairCount 9 = .ok (.istore 4, 2) := by decide +kernel
theorem dX8_pairCount_11 : decode cX8_pairCount 11 = .ok (.iload 4, 2) := by decide +kernel
theorem dX8_pairCount_13 : decode cX8_pairCount 13 = .ok (.aload_n 0, 1) := by decide +kernel
theorem dX8_pairCount_14 : decode cX8_pairCount 14 = .ok (.getfield 9, 3) := by decide +kernel
theorem dX8_pairCount_17 : decode cX8_pairCount 17 = .ok (.getfield 63, 3) := by decide +kernel
theorem dX8_pairCount_20 : decode cX8_pairCount 20 = .ok (.if_icmp .ge 44, 3) := by decide +kernel
theorem dX8_pairCount_23 : decode cX8_pairCount 23 = .ok (.iload_n 3, 1) := by decide +kernel
theorem dX8_pairCount_24 : decode cX8_pairCount 24 = .ok (.iload 4, 2) := by decide +kernel
theorem dX8_pairCount_26 : decode cX8_pairCount 26 = .ok (.invokestatic 66, 3) := by decide +kernel
theorem dX8_pairCount_29 : decode cX8_pairCount 29 = .ok (.ifCond .eq 29, 3) := by decide +kernel
theorem dX8_pairCount_32 : decode cX8_pairCount 32 = .ok (.iload_n 3, 1) := by decide +kernel
theorem dX8_pairCount_33 : decode cX8_pairCount 33 = .ok (.iconst 1, 1) := by decide +kernel
theorem dX8_pairCount_34 : decode cX8_pairCount 34 = .ok (.iload 4, 2) := by decide +kernel
theorem dX8_pairCount_36 : decode cX8_pairCount 36 = .ok (.ishl, 1) := by decide +kernel
theorem dX8_pairCount_37 : decode cX8_pairCount 37 = .ok (.iconst (-1), 1) := by decide +kernel
theorem dX8_pairCount_38 : decode cX8_pairCount 38 = .ok (.ixor, 1) := by decide +kernel
theorem dX8_pairCount_39 : decode cX8_pairCount 39 = .ok (.iand, 1) := by decide +kernel
theorem dX8_pairCount_40 : decode cX8_pairCount 40 = .ok (.istore_n 3, 1) := by decide +kernel
theorem dX8_pairCount_41 : decode cX8_pairCount 41 = .ok (.iload_n 2, 1) := by decide +kernel
theorem dX8_pairCount_42 : decode cX8_pairCount 42 = .ok (.aload_n 0, 1) := by decide +kernel
theorem dX8_pairCount_43 : decode cX8_pairCount 43 = .ok (.getfield 20, 3) := by decide +kernel
theorem dX8_pairCount_46 : decode cX8_pairCount 46 = .ok (.iload 4, 2) := by decide +kernel
theorem dX8_pairCount_48 : decode cX8_pairCount 48 = .ok (.invokevirtual 56, 3) := by decide +kernel
theorem dX8_pairCount_51 : decode cX8_pairCount 51 = .ok (.iload_n 3, 1) := by decide +kernel
theorem dX8_pairCount_52 : decode cX8_pairCount 52 = .ok (.iand, 1) := by decide +kernel
theorem dX8_pairCount_53 : decode cX8_pairCount 53 = .ok (.invokestatic 72, 3) := by decide +kernel
theorem dX8_pairCount_56 : decode cX8_pairCount 56 = .ok (.iadd, 1) := by decide +kernel
theorem dX8_pairCount_57 : decode cX8_pairCount 57 = .ok (.istore_n 2, 1) := by decide +kernel
theorem dX8_pairCount_58 : decode cX8_pairCount 58 = .ok (.iinc 4 1, 3) := by decide +kernel
theorem dX8_pairCount_61 : decode cX8_pairCount 61 = .ok (.goto (-50), 3) := by decide +kernel
theorem dX8_pairCount_64 : decode cX8_pairCount 64 = .ok (.iload_n 2, 1) := by decide +kernel
theorem dX8_pairCount_65 : decode cX8_pairCount 65 = .ok (.ireturn, 1) := by decide +kernel
theorem dX8_liarSet_0 : decode cX8_liarSet 0 = .ok (.aload_n 0, 1) := by decide +kernel
theorem dX8_liarSet_1 : decode cX8_liarSet 1 = .ok (.iload_n 1, 1) := by decide +kernel
theorem dX8_liarSet_2 : decode cX8_liarSet 2 = .ok (.invokevirtual 77, 3) := by decide +kernel
theorem dX8_liarSet_5 : decode cX8_liarSet 5 = .ok (.aload_n 0, 1) := by decide +kernel
theorem dX8_liarSet_6 : decode cX8_liarSet 6 = .ok (.getfield 80, 3) := by decide +kernel
theorem dX8_liarSet_9 : decode cX8_liarSet 9 = .ok (.ireturn, 1) := by decide +kernel
theorem dX8_setCount_0 : decode cX8_setCount 0 = .ok (.aload_n 0, 1) := by decide +kernel
theorem dX8_setCount_1 : decode cX8_setCount 1 = .ok (.iload_n 1, 1) := by decide +kernel
theorem dX8_setCount_2 : decode cX8_setCount 2 = .ok (.invokevirtual 77, 3) := by decide +kernel
theorem dX8_setCount_5 : decode cX8_setCount 5 = .ok (.aload_n 0, 1) := by decide +kernel
theorem dX8_setCount_6 : decode cX8_setCount 6 = .ok (.getfield 83, 3) := by decide +kernel
theorem dX8_setCount_9 : decode cX8_setCount 9 = .ok (.ireturn, 1) := by decide +kernel
theorem dX8_judge_0 : decode cX8_judge 0 = .ok (.iload_n 1, 1) := by decide +kernel
theorem dX8_judge_1 : decode cX8_judge 1 = .ok (.aload_n 0, 1) := by decide +kernel
theorem dX8_judge_2 : decode cX8_judge 2 = .ok (.getfield 30, 3) := by decide +kernel
theorem dX8_judge_5 : decode cX8_judge 5 = .ok (.if_icmp .ne 4, 3) := by decide +kernel
theorem dX8_judge_8 : decode cX8_judge 8 = .ok (.return_, 1) := by decide +kernel
theorem dX8_judge_9 : decode cX8_judge 9 = .ok (.aload_n 0, 1) := by decide +kernel
theorem dX8_judge_10 : decode cX8_judge 10 = .ok (.iload_n 1, 1) := by decide +kernel
theorem dX8_judge_11 : decode cX8_judge 11 = .ok (.invokevirtual 69, 3) := by decide +kernel
theorem dX8_judge_14 : decode cX8_judge 14 = .ok (.istore_n 2, 1) := by decide +kernel
theorem dX8_judge_15 : decode cX8_judge 15 = .ok (.aload_n 0, 1) := by decide +kernel
theorem dX8_judge_16 : decode cX8_judge 16 = .ok (.iload_n 2, 1) := by decide +kernel
theorem dX8_judge_17 : decode cX8_judge 17 = .ok (.invokevirtual 86, 3) := by decide +kernel
theorem dX8_judge_20 : decode cX8_judge 20 = .ok (.istore_n 3, 1) := by decide +kernel
theorem dX8_judge_21 : decode cX8_judge 21 = .ok (.bipush 11, 2) := by decide +kernel
theorem dX8_judge_23 : decode cX8_judge 23 = .ok (.istore 4, 2) := by decide +kernel
theorem dX8_judge_25 : decode cX8_judge 25 = .ok (.iconst 1, 1) := by decide +kernel
theorem dX8_judge_26 : decode cX8_judge 26 = .ok (.iload_n 3, 1) := by decide +kernel
theorem dX8_judge_27 : decode cX8_judge 27 = .ok (.invokestatic 72, 3) := by decide +kernel
theorem dX8_judge_30 : decode cX8_judge 30 = .ok (.ishl, 1) := by decide +kernel
theorem dX8_judge_31 : decode cX8_judge 31 = .ok (.istore 5, 2) := by decide +kernel
theorem dX8_judge_33 : decode cX8_judge 33 = .ok (.iconst 0, 1) := by decide +kernel
theorem dX8_judge_34 : decode cX8_judge 34 = .ok (.istore 6, 2) := by decide +kernel
theorem dX8_judge_36 : decode cX8_judge 36 = .ok (.iconst 0, 1) := by decide +kernel
theorem dX8_judge_37 : decode cX8_judge 37 = .ok (.istore 7, 2) := by decide +kernel
theorem dX8_judge_39 : decode cX8_judge 39 = .ok (.iload 7, 2) := by decide +kernel
theorem dX8_judge_41 : decode cX8_judge 41 = .ok (.iload 5, 2) := by decide +kernel
theorem dX8_judge_43 : decode cX8_judge 43 = .ok (.if_icmp .ge 98, 3) := by decide +kernel
theorem dX8_judge_46 : decode cX8_judge 46 = .ok (.iload 6, 2) := by decide +kernel
theorem dX8_judge_48 : decode cX8_judge 48 = .ok (.invokestatic 72, 3) := by decide +kernel
theorem dX8_judge_51 : decode cX8_judge 51 = .ok (.istore 8, 2) := by decide +kernel
theorem dX8_judge_53 : decode cX8_judge 53 = .ok (.iload 8, 2) := by decide +kernel
theorem dX8_judge_55 : decode cX8_judge 55 = .ok (.iload 4, 2) := by decide +kernel
theorem dX8_judge_57 : decode cX8_judge 57 = .ok (.if_icmp .gt 70, 3) := by decide +kernel
theorem dX8_judge_60 : decode cX8_judge 60 = .ok (.aload_n 0, 1) := by decide +kernel
theorem dX8_judge_61 : decode cX8_judge 61 = .ok (.iload 6, 2) := by decide +kernel
theorem dX8_judge_63 : decode cX8_judge 63 = .ok (.iload_n 2, 1) := by decide +kernel
theorem dX8_judge_64 : decode cX8_judge 64 = .ok (.invokevirtual 89, 3) := by decide +kernel
theorem dX8_judge_67 : decode cX8_judge 67 = .ok (.ifCond .eq 60, 3) := by decide +kernel
theorem dX8_judge_70 : decode cX8_judge 70 = .ok (.aload_n 0, 1) := by decide +kernel
theorem dX8_judge_71 : decode cX8_judge 71 = .ok (.iload 8, 2) := by decide +kernel
theorem dX8_judge_73 : decode cX8_judge 73 = .ok (.iload 4, 2) := by decide +kernel
theorem dX8_judge_75 : decode cX8_judge 75 = .ok (.if_icmp .ge 7, 3) := by decide +kernel
theorem dX8_judge_78 : decode cX8_judge 78 = .ok (.iconst 1, 1) := by decide +kernel
theorem dX8_judge_79 : decode cX8_judge 79 = .ok (.goto 9, 3) := by decide +kernel
theorem dX8_judge_82 : decode cX8_judge 82 = .ok (.aload_n 0, 1) := by decide +kernel
theorem dX8_judge_83 : decode cX8_judge 83 = .ok (.getfield 83, 3) := by decide +kernel
theorem dX8_judge_86 : decode cX8_judge 86 = .ok (.iconst 1, 1) := by decide +kernel
theorem dX8_judge_87 : decode cX8_judge 87 = .ok (.iadd, 1) := by decide +kernel
theorem dX8_judge_88 : decode cX8_judge 88 = .ok (.putfield 83, 3) := by decide +kernel
theorem dX8_judge_91 : decode cX8_judge 91 = .ok (.aload_n 0, 1) := by decide +kernel
theorem dX8_judge_92 : decode cX8_judge 92 = .ok (.iload 8, 2) := by decide +kernel
theorem dX8_judge_94 : decode cX8_judge 94 = .ok (.iload 4, 2) := by decide +kernel
theorem dX8_judge_96 : decode cX8_judge 96 = .ok (.if_icmp .lt 15, 3) := by decide +kernel
theorem dX8_judge_99 : decode cX8_judge 99 = .ok (.iload 6, 2) := by decide +kernel
theorem dX8_judge_101 : decode cX8_judge 101 = .ok (.aload_n 0, 1) := by decide +kernel
theorem dX8_judge_102 : decode cX8_judge 102 = .ok (.getfield 80, 3) := by decide +kernel
theorem dX8_judge_105 : decode cX8_judge 105 = .ok (.invokestatic 92, 3) := by decide +kernel
theorem dX8_judge_108 : decode cX8_judge 108 = .ok (.ifCond .eq 8, 3) := by decide +kernel
theorem dX8_judge_111 : decode cX8_judge 111 = .ok (.iload 6, 2) := by decide +kernel
theorem dX8_judge_113 : decode cX8_judge 113 = .ok (.goto 7, 3) := by decide +kernel
theorem dX8_judge_116 : decode cX8_judge 116 = .ok (.aload_n 0, 1) := by decide +kernel
theorem dX8_judge_117 : decode cX8_judge 117 = .ok (.getfield 80, 3) := by decide +kernel
theorem dX8_judge_120 : decode cX8_judge 120 = .ok (.putfield 80, 3) := by decide +kernel
theorem dX8_judge_123 : decode cX8_judge 123 = .ok (.iload 8, 2) := by decide +kernel
theorem dX8_judge_125 : decode cX8_judge 125 = .ok (.istore 4, 2) := by decide +kernel
theorem dX8_judge_127 : decode cX8_judge 127 = .ok (.iload 6, 2) := by decide +kernel
theorem dX8_judge_129 : decode cX8_judge 129 = .ok (.iload_n 3, 1) := by decide +kernel
theorem dX8_judge_130 : decode cX8_judge 130 = .ok (.isub, 1) := by decide +kernel
theorem dX8_judge_131 : decode cX8_judge 131 = .ok (.iload_n 3, 1) := by decide +kernel
theorem dX8_judge_132 : decode cX8_judge 132 = .ok (.iand, 1) := by decide +kernel
theorem dX8_judge_133 : decode cX8_judge 133 = .ok (.istore 6, 2) := by decide +kernel
theorem dX8_judge_135 : decode cX8_judge 135 = .ok (.iinc 7 1, 3) := by decide +kernel
theorem dX8_judge_138 : decode cX8_judge 138 = .ok (.goto (-99), 3) := by decide +kernel
theorem dX8_judge_141 : decode cX8_judge 141 = .ok (.aload_n 0, 1) := by decide +kernel
theorem dX8_judge_142 : decode cX8_judge 142 = .ok (.iload_n 1, 1) := by decide +kernel
theorem dX8_judge_143 : decode cX8_judge 143 = .ok (.putfield 30, 3) := by decide +kernel
theorem dX8_judge_146 : decode cX8_judge 146 = .ok (.return_, 1) := by decide +kernel
theorem dX8_involvedIn_0 : decode cX8_involvedIn 0 = .ok (.iconst 0, 1) := by decide +kernel
theorem dX8_involvedIn_1 : decode cX8_involvedIn 1 = .ok (.istore_n 2, 1) := by decide +kernel
theorem dX8_involvedIn_2 : decode cX8_involvedIn 2 = .ok (.iconst 0, 1) := by decide +kernel
theorem dX8_involvedIn_3 : decode cX8_involvedIn 3 = .ok (.istore_n 3, 1) := by decide +kernel
theorem dX8_involvedIn_4 : decode cX8_involvedIn 4 = .ok (.iload_n 3, 1) := by decide +kernel
theorem dX8_involvedIn_5 : decode cX8_involvedIn 5 = .ok (.aload_n 0, 1) := by decide +kernel
theorem dX8_involvedIn_6 : decode cX8_involvedIn 6 = .ok (.getfield 9, 3) := by decide +kernel
theorem dX8_involvedIn_9 : decode cX8_involvedIn 9 = .ok (.getfield 63, 3) := by decide +kernel
theorem dX8_involvedIn_12 : decode cX8_involvedIn 12 = .ok (.if_icmp .ge 30, 3) := by decide +kernel
theorem dX8_involvedIn_15 : decode cX8_involvedIn 15 = .ok (.iload_n 1, 1) := by decide +kernel
theorem dX8_involvedIn_16 : decode cX8_involvedIn 16 = .ok (.iload_n 3, 1) := by decide +kernel
theorem dX8_involvedIn_17 : decode cX8_involvedIn 17 = .ok (.invokestatic 66, 3) := by decide +kernel
theorem dX8_involvedIn_20 : decode cX8_involvedIn 20 = .ok (.ifCond .eq 16, 3) := by decide +kernel
theorem dX8_involvedIn_23 : decode cX8_involvedIn 23 = .ok (.iload_n 2, 1) := by decide +kernel
theorem dX8_involvedIn_24 : decode cX8_involvedIn 24 = .ok (.aload_n 0, 1) := by decide +kernel
theorem dX8_involvedIn_25 : decode cX8_involvedIn 25 = .ok (.getfield 20, 3) := by decide +kernel
theorem dX8_involvedIn_28 : decode cX8_involvedIn 28 = .ok (.iload_n 3, 1) := by decide +kernel
theorem dX8_involvedIn_29 : decode cX8_involvedIn 29 = .ok (.invokevirtual 56, 3) := by decide +kernel
theorem dX8_involvedIn_32 : decode cX8_involvedIn 32 = .ok (.iload_n 1, 1) := by decide +kernel
theorem dX8_involvedIn_33 : decode cX8_involvedIn 33 = .ok (.iand, 1) := by decide +kernel
theorem dX8_involvedIn_34 : decode cX8_involvedIn 34 = .ok (.ior, 1) := by decide +kernel
theorem dX8_involvedIn_35 : decode cX8_involvedIn 35 = .ok (.istore_n 2, 1) := by decide +kernel
theorem dX8_involvedIn_36 : decode cX8_involvedIn 36 = .ok (.iinc 3 1, 3) := by decide +kernel
theorem dX8_involvedIn_39 : decode cX8_involvedIn 39 = .ok (.goto (-35), 3) := by decide +kernel
theorem dX8_involvedIn_42 : decode cX8_involvedIn 42 = .ok (.iload_n 2, 1) := by decide +kernel
theorem dX8_involvedIn_43 : decode cX8_involvedIn 43 = .ok (.ireturn, 1) := by decide +kernel
theorem dX8_isEnough_0 : decode cX8_isEnough 0 = .ok (.iload_n 2, 1) := by decide +kernel
theorem dX8_isEnough_1 : decode cX8_isEnough 1 = .ok (.iload_n 1, 1) := by decide +kernel
theorem dX8_isEnough_2 : decode cX8_isEnough 2 = .ok (.iconst (-1), 1) := by decide +kernel
theorem dX8_isEnough_3 : decode cX8_isEnough 3 = .ok (.ixor, 1) := by decide +kernel
theorem dX8_isEnough_4 : decode cX8_isEnough 4 = .ok (.iand, 1) := by decide +kernel
theorem dX8_isEnough_5 : decode cX8_isEnough 5 = .ok (.istore_n 3, 1) := by decide +kernel
theorem dX8_isEnough_6 : decode cX8_isEnough 6 = .ok (.iconst 0, 1) := by decide +kernel
theorem dX8_isEnough_7 : decode cX8_isEnough 7 = .ok (.istore 4, 2) := by decide +kernel
theorem dX8_isEnough_9 : decode cX8_isEnough 9 = .ok (.iload 4, 2) := by decide +kernel
theorem dX8_isEnough_11 : decode cX8_isEnough 11 = .ok (.aload_n 0, 1) := by decide +kernel
theorem dX8_isEnough_12 : decode cX8_isEnough 12 = .ok (.getfield 9, 3) := by decide +kernel
theorem dX8_isEnough_15 : decode cX8_isEnough 15 = .ok (.getfield 63, 3) := by decide +kernel
theorem dX8_isEnough_18 : decode cX8_isEnough 18 = .ok (.if_icmp .ge 34, 3) := by decide +kernel
theorem dX8_isEnough_21 : decode cX8_isEnough 21 = .ok (.iload_n 3, 1) := by decide +kernel
theorem dX8_isEnough_22 : decode cX8_isEnough 22 = .ok (.iload 4, 2) := by decide +kernel
theorem dX8_isEnough_24 : decode cX8_isEnough 24 = .ok (.invokestatic 66, 3) := by decide +kernel
theorem dX8_isEnough_27 : decode cX8_isEnough 27 = .ok (.ifCond .eq 19, 3) := by decide +kernel
theorem dX8_isEnough_30 : decode cX8_isEnough 30 = .ok (.aload_n 0, 1) := by decide +kernel
theorem dX8_isEnough_31 : decode cX8_isEnough 31 = .ok (.getfield 20, 3) := by decide +kernel
theorem dX8_isEnough_34 : decode cX8_isEnough 34 = .ok (.iload 4, 2) := by decide +kernel
theorem dX8_isEnough_36 : decode cX8_isEnough 36 = .ok (.invokevirtual 56, 3) := by decide +kernel
theorem dX8_isEnough_39 : decode cX8_isEnough 39 = .ok (.iload_n 3, 1) := by decide +kernel
theorem dX8_isEnough_40 : decode cX8_isEnough 40 = .ok (.iand, 1) := by decide +kernel
theorem dX8_isEnough_41 : decode cX8_isEnough 41 = .ok (.ifCond .eq 5, 3) := by decide +kernel
theorem dX8_isEnough_44 : decode cX8_isEnough 44 = .ok (.iconst 0, 1) := by decide +kernel
theorem dX8_isEnough_45 : decode cX8_isEnough 45 = .ok (.ireturn, 1) := by decide +kernel
theorem dX8_isEnough_46 : decode cX8_isEnough 46 = .ok (.iinc 4 1, 3) := by decide +kernel
theorem dX8_isEnough_49 : decode cX8_isEnough 49 = .ok (.goto (-40), 3) := by decide +kernel
theorem dX8_isEnough_52 : decode cX8_isEnough 52 = .ok (.iconst 1, 1) := by decide +kernel
theorem dX8_isEnough_53 : decode cX8_isEnough 53 = .ok (.ireturn, 1) := by decide +kernel
theorem dX8_isPreferred_0 : decode cX8_isPreferred 0 = .ok (.iload_n 0, 1) := by decide +kernel
theorem dX8_isPreferred_1 : decode cX8_isPreferred 1 = .ok (.iload_n 1, 1) := by decide +kernel
theorem dX8_isPreferred_2 : decode cX8_isPreferred 2 = .ok (.ixor, 1) := by decide +kernel
theorem dX8_isPreferred_3 : decode cX8_isPreferred 3 = .ok (.istore_n 2, 1) := by decide +kernel
theorem dX8_isPreferred_4 : decode cX8_isPreferred 4 = .ok (.iload_n 0, 1) := by decide +kernel
theorem dX8_isPreferred_5 : decode cX8_isPreferred 5 = .ok (.iload_n 2, 1) := by decide +kernel
theorem dX8_isPreferred_6 : decode cX8_isPreferred 6 = .ok (.iand, 1) := by decide +kernel
theorem dX8_isPreferred_7 : decode cX8_isPreferred 7 = .ok (.iload_n 2, 1) := by decide +kernel
theorem dX8_isPreferred_8 : decode cX8_isPreferred 8 = .ok (.ineg, 1) := by decide +kernel
theorem dX8_isPreferred_9 : decode cX8_isPreferred 9 = .ok (.iand, 1) := by decide +kernel
theorem dX8_isPreferred_10 : decode cX8_isPreferred 10 = .ok (.ifCond .ne 7, 3) := by decide +kernel
theorem dX8_isPreferred_13 : decode cX8_isPreferred 13 = .ok (.iconst 1, 1) := by decide +kernel
theorem dX8_isPreferred_14 : decode cX8_isPreferred 14 = .ok (.goto 4, 3) := by decide +kernel
theorem dX8_isPreferred_17 : decode cX8_isPreferred 17 = .ok (.iconst 0, 1) := by decide +kernel
theorem dX8_isPreferred_18 : decode cX8_isPreferred 18 = .ok (.ireturn, 1) := by decide +kernel
theorem dX8_firstHour_0 : decode cX8_firstHour 0 = .ok (.iconst 0, 1) := by decide +kernel
theorem dX8_firstHour_1 : decode cX8_firstHour 1 = .ok (.istore_n 3, 1) := by decide +kernel
theorem dX8_firstHour_2 : decode cX8_firstHour 2 = .ok (.iconst 0, 1) := by decide +kernel
theorem dX8_firstHour_3 : decode cX8_firstHour 3 = .ok (.istore 4, 2) := by decide +kernel
theorem dX8_firstHour_5 : decode cX8_firstHour 5 = .ok (.iload 4, 2) := by decide +kernel
theorem dX8_firstHour_7 : decode cX8_firstHour 7 = .ok (.aload_n 0, 1) := by decide +kernel
theorem dX8_firstHour_8 : decode cX8_firstHour 8 = .ok (.getfield 9, 3) := by decide +kernel
theorem dX8_firstHour_11 : decode cX8_firstHour 11 = .ok (.getfield 38, 3) := by decide +kernel
theorem dX8_firstHour_14 : decode cX8_firstHour 14 = .ok (.getfield 44, 3) := by decide +kernel
theorem dX8_firstHour_17 : decode cX8_firstHour 17 = .ok (.if_icmp .ge 40, 3) := by decide +kernel
theorem dX8_firstHour_20 : decode cX8_firstHour 20 = .ok (.aload_n 0, 1) := by decide +kernel
theorem dX8_firstHour_21 : decode cX8_firstHour 21 = .ok (.iload 4, 2) := by decide +kernel
theorem dX8_firstHour_23 : decode cX8_firstHour 23 = .ok (.iload_n 1, 1) := by decide +kernel
theorem dX8_firstHour_24 : decode cX8_firstHour 24 = .ok (.iload_n 2, 1) := by decide +kernel
theorem dX8_firstHour_25 : decode cX8_firstHour 25 = .ok (.invokevirtual 95, 3) := by decide +kernel
theorem dX8_firstHour_28 : decode cX8_firstHour 28 = .ok (.ifCond .eq 23, 3) := by decide +kernel
theorem dX8_firstHour_31 : decode cX8_firstHour 31 = .ok (.iload_n 3, 1) := by decide +kernel
theorem dX8_firstHour_32 : decode cX8_firstHour 32 = .ok (.aload_n 0, 1) := by decide +kernel
theorem dX8_firstHour_33 : decode cX8_firstHour 33 = .ok (.getfield 9, 3) := by decide +kernel
theorem dX8_firstHour_36 : decode cX8_firstHour 36 = .ok (.getfield 38, 3) := by decide +kernel
theorem dX8_firstHour_39 : decode cX8_firstHour 39 = .ok (.getfield 99, 3) := by decide +kernel
theorem dX8_firstHour_42 : decode cX8_firstHour 42 = .ok (.iload 4, 2) := by decide +kernel
theorem dX8_firstHour_44 : decode cX8_firstHour 44 = .ok (.invokevirtual 56, 3) := by decide +kernel
theorem dX8_firstHour_47 : decode cX8_firstHour 47 = .ok (.invokestatic 102, 3) := by decide +kernel
theorem dX8_firstHour_50 : decode cX8_firstHour 50 = .ok (.istore_n 3, 1) := by decide +kernel
theorem dX8_firstHour_51 : decode cX8_firstHour 51 = .ok (.iinc 4 1, 3) := by decide +kernel
theorem dX8_firstHour_54 : decode cX8_firstHour 54 = .ok (.goto (-49), 3) := by decide +kernel
theorem dX8_firstHour_57 : decode cX8_firstHour 57 = .ok (.iload_n 3, 1) := by decide +kernel
theorem dX8_firstHour_58 : decode cX8_firstHour 58 = .ok (.ireturn, 1) := by decide +kernel
theorem dX8_lastHour_0 : decode cX8_lastHour 0 = .ok (.bipush 99, 2) := by decide +kernel
theorem dX8_lastHour_2 : decode cX8_lastHour 2 = .ok (.istore_n 3, 1) := by decide +kernel
theorem dX8_lastHour_3 : decode cX8_lastHour 3 = .ok (.iconst 0, 1) := by decide +kernel
theorem dX8_lastHour_4 : decode cX8_lastHour 4 = .ok (.istore 4, 2) := by decide +kernel
theorem dX8_lastHour_6 : decode cX8_lastHour 6 = .ok (.iload 4, 2) := by decide +kernel
theorem dX8_lastHour_8 : decode cX8_lastHour 8 = .ok (.aload_n 0, 1) := by decide +kernel
theorem dX8_lastHour_9 : decode cX8_lastHour 9 = .ok (.getfield 9, 3) := by decide +kernel
theorem dX8_lastHour_12 : decode cX8_lastHour 12 = .ok (.getfield 38, 3) := by decide +kernel
theorem dX8_lastHour_15 : decode cX8_lastHour 15 = .ok (.getfield 44, 3) := by decide +kernel
theorem dX8_lastHour_18 : decode cX8_lastHour 18 = .ok (.if_icmp .ge 40, 3) := by decide +kernel
theorem dX8_lastHour_21 : decode cX8_lastHour 21 = .ok (.aload_n 0, 1) := by decide +kernel
theorem dX8_lastHour_22 : decode cX8_lastHour 22 = .ok (.iload 4, 2) := by decide +kernel
theorem dX8_lastHour_24 : decode cX8_lastHour 24 = .ok (.iload_n 1, 1) := by decide +kernel
theorem dX8_lastHour_25 : decode cX8_lastHour 25 = .ok (.iload_n 2, 1) := by decide +kernel
theorem dX8_lastHour_26 : decode cX8_lastHour 26 = .ok (.invokevirtual 95, 3) := by decide +kernel
theorem dX8_lastHour_29 : decode cX8_lastHour 29 = .ok (.ifCond .eq 23, 3) := by decide +kernel
theorem dX8_lastHour_32 : decode cX8_lastHour 32 = .ok (.iload_n 3, 1) := by decide +kernel
theorem dX8_lastHour_33 : decode cX8_lastHour 33 = .ok (.aload_n 0, 1) := by decide +kernel
theorem dX8_lastHour_34 : decode cX8_lastHour 34 = .ok (.getfield 9, 3) := by decide +kernel
theorem dX8_lastHour_37 : decode cX8_lastHour 37 = .ok (.getfield 38, 3) := by decide +kernel
theorem dX8_lastHour_40 : decode cX8_lastHour 40 = .ok (.getfield 108, 3) := by decide +kernel
theorem dX8_lastHour_43 : decode cX8_lastHour 43 = .ok (.iload 4, 2) := by decide +kernel
theorem dX8_lastHour_45 : decode cX8_lastHour 45 = .ok (.invokevirtual 56, 3) := by decide +kernel
theorem dX8_lastHour_48 : decode cX8_lastHour 48 = .ok (.invokestatic 111, 3) := by decide +kernel
theorem dX8_lastHour_51 : decode cX8_lastHour 51 = .ok (.istore_n 3, 1) := by decide +kernel
theorem dX8_lastHour_52 : decode cX8_lastHour 52 = .ok (.iinc 4 1, 3) := by decide +kernel
theorem dX8_lastHour_55 : decode cX8_lastHour 55 = .ok (.goto (-49), 3) := by decide +kernel
theorem dX8_lastHour_58 : decode cX8_lastHour 58 = .ok (.iload_n 3, 1) := by decide +kernel
theorem dX8_lastHour_59 : decode cX8_lastHour 59 = .ok (.ireturn, 1) := by decide +kernel
theorem dX8_windowHours_0 : decode cX8_windowHours 0 = .ok (.iconst 0, 1) := by decide +kernel
theorem dX8_windowHours_1 : decode cX8_windowHours 1 = .ok (.aload_n 0, 1) := by decide +kernel
theorem dX8_windowHours_2 : decode cX8_windowHours 2 = .ok (.iload_n 1, 1) := by decide +kernel
theorem dX8_windowHours_3 : decode cX8_windowHours 3 = .ok (.iload_n 2, 1) := by decide +kernel
theorem dX8_windowHours_4 : decode cX8_windowHours 4 = .ok (.invokevirtual 114, 3) := by decide +kernel
theorem dX8_windowHours_7 : decode cX8_windowHours 7 = .ok (.aload_n 0, 1) := by decide +kernel
theorem dX8_windowHours_8 : decode cX8_windowHours 8 = .ok (.iload_n 1, 1) := by decide +kernel
theorem dX8_windowHours_9 : decode cX8_windowHours 9 = .ok (.iload_n 2, 1) := by decide +kernel
theorem dX8_windowHours_10 : decode cX8_windowHours 10 = .ok (.invokevirtual 117, 3) := by decide +kernel
theorem dX8_windowHours_13 : decode cX8_windowHours 13 = .ok (.isub, 1) := by decide +kernel
theorem dX8_windowHours_14 : decode cX8_windowHours 14 = .ok (.iconst 1, 1) := by decide +kernel
theorem dX8_windowHours_15 : decode cX8_windowHours 15 = .ok (.iadd, 1) := by decide +kernel
theorem dX8_windowHours_16 : decode cX8_windowHours 16 = .ok (.invokestatic 102, 3) := by decide +kernel
theorem dX8_windowHours_19 : decode cX8_windowHours 19 = .ok (.ireturn, 1) := by decide +kernel
theorem dX8_isHeard_0 : decode cX8_isHeard 0 = .ok (.aload_n 0, 1) := by decide +kernel
theorem dX8_isHeard_1 : decode cX8_isHeard 1 = .ok (.getfield 9, 3) := by decide +kernel
theorem dX8_isHeard_4 : decode cX8_isHeard 4 = .ok (.getfield 38, 3) := by decide +kernel
theorem dX8_isHeard_7 : decode cX8_isHeard 7 = .ok (.getfield 120, 3) := by decide +kernel
theorem dX8_isHeard_10 : decode cX8_isHeard 10 = .ok (.iload_n 1, 1) := by decide +kernel
theorem dX8_isHeard_11 : decode cX8_isHeard 11 = .ok (.invokevirtual 56, 3) := by decide +kernel
theorem dX8_isHeard_14 : decode cX8_isHeard 14 = .ok (.ifCond .ne 46, 3) := by decide +kernel
theorem dX8_isHeard_17 : decode cX8_isHeard 17 = .ok (.aload_n 0, 1) := by decide +kernel
theorem dX8_isHeard_18 : decode cX8_isHeard 18 = .ok (.getfield 9, 3) := by decide +kernel
theorem dX8_isHeard_21 : decode cX8_isHeard 21 = .ok (.getfield 38, 3) := by decide +kernel
theorem dX8_isHeard_24 : decode cX8_isHeard 24 = .ok (.getfield 123, 3) := by decide +kernel
theorem dX8_isHeard_27 : decode cX8_isHeard 27 = .ok (.iload_n 1, 1) := by decide +kernel
theorem dX8_isHeard_28 : decode cX8_isHeard 28 = .ok (.invokevirtual 56, 3) := by decide +kernel
theorem dX8_isHeard_31 : decode cX8_isHeard 31 = .ok (.iload_n 2, 1) := by decide +kernel
theorem dX8_isHeard_32 : decode cX8_isHeard 32 = .ok (.if_icmp .ne 28, 3) := by decide +kernel
theorem dX8_isHeard_35 : decode cX8_isHeard 35 = .ok (.iload_n 3, 1) := by decide +kernel
theorem dX8_isHeard_36 : decode cX8_isHeard 36 = .ok (.aload_n 0, 1) := by decide +kernel
theorem dX8_isHeard_37 : decode cX8_isHeard 37 = .ok (.getfield 9, 3) := by decide +kernel
theorem dX8_isHeard_40 : decode cX8_isHeard 40 = .ok (.getfield 38, 3) := by decide +kernel
theorem dX8_isHeard_43 : decode cX8_isHeard 43 = .ok (.getfield 53, 3) := by decide +kernel
theorem dX8_isHeard_46 : decode cX8_isHeard 46 = .ok (.iload_n 1, 1) := by decide +kernel
theorem dX8_isHeard_47 : decode cX8_isHeard 47 = .ok (.invokevirtual 56, 3) := by decide +kernel
theorem dX8_isHeard_50 : decode cX8_isHeard 50 = .ok (.invokestatic 66, 3) := by decide +kernel
theorem dX8_isHeard_53 : decode cX8_isHeard 53 = .ok (.ifCond .ne 7, 3) := by decide +kernel
theorem dX8_isHeard_56 : decode cX8_isHeard 56 = .ok (.iconst 1, 1) := by decide +kernel
theorem dX8_isHeard_57 : decode cX8_isHeard 57 = .ok (.goto 4, 3) := by decide +kernel
theorem dX8_isHeard_60 : decode cX8_isHeard 60 = .ok (.iconst 0, 1) := by decide +kernel
theorem dX8_isHeard_61 : decode cX8_isHeard 61 = .ok (.ireturn, 1) := by decide +kernel
theorem dX8_arrange_0 : decode cX8_arrange 0 = .ok (.aload_n 0, 1) := by decide +kernel
theorem dX8_arrange_1 : decode cX8_arrange 1 = .ok (.aload_n 0, 1) := by decide +kernel
theorem dX8_arrange_2 : decode cX8_arrange 2 = .ok (.iload_n 1, 1) := by decide +kernel
theorem dX8_arrange_3 : decode cX8_arrange 3 = .ok (.invokevirtual 69, 3) := by decide +kernel
theorem dX8_arrange_6 : decode cX8_arrange 6 = .ok (.aload_n 0, 1) := by decide +kernel
theorem dX8_arrange_7 : decode cX8_arrange 7 = .ok (.iload_n 1, 1) := by decide +kernel
theorem dX8_arrange_8 : decode cX8_arrange 8 = .ok (.invokevirtual 126, 3) := by decide +kernel
theorem dX8_arrange_11 : decode cX8_arrange 11 = .ok (.iconst (-1), 1) := by decide +kernel
theorem dX8_arrange_12 : decode cX8_arrange 12 = .ok (.ixor, 1) := by decide +kernel
theorem dX8_arrange_13 : decode cX8_arrange 13 = .ok (.iand, 1) := by decide +kernel
theorem dX8_arrange_14 : decode cX8_arrange 14 = .ok (.invokevirtual 128, 3) := by decide +kernel
theorem dX8_arrange_17 : decode cX8_arrange 17 = .ok (.iconst 0, 1) := by decide +kernel
theorem dX8_arrange_18 : decode cX8_arrange 18 = .ok (.istore_n 2, 1) := by decide +kernel
theorem dX8_arrange_19 : decode cX8_arrange 19 = .ok (.iconst 0, 1) := by decide +kernel
theorem dX8_arrange_20 : decode cX8_arrange 20 = .ok (.istore_n 3, 1) := by decide +kernel
theorem dX8_arrange_21 : decode cX8_arrange 21 = .ok (.iload_n 3, 1) := by decide +kernel
theorem dX8_arrange_22 : decode cX8_arrange 22 = .ok (.aload_n 0, 1) := by decide +kernel
theorem dX8_arrange_23 : decode cX8_arrange 23 = .ok (.getfield 9, 3) := by decide +kernel
theorem dX8_arrange_26 : decode cX8_arrange 26 = .ok (.getfield 131, 3) := by decide +kernel
theorem dX8_arrange_29 : decode cX8_arrange 29 = .ok (.if_icmp .ge 40, 3) := by decide +kernel
theorem dX8_arrange_32 : decode cX8_arrange 32 = .ok (.aload_n 0, 1) := by decide +kernel
theorem dX8_arrange_33 : decode cX8_arrange 33 = .ok (.iload_n 2, 1) := by decide +kernel
theorem dX8_arrange_34 : decode cX8_arrange 34 = .ok (.invokevirtual 134, 3) := by decide +kernel
theorem dX8_arrange_37 : decode cX8_arrange 37 = .ok (.istore 4, 2) := by decide +kernel
theorem dX8_arrange_39 : decode cX8_arrange 39 = .ok (.iload 4, 2) := by decide +kernel
theorem dX8_arrange_41 : decode cX8_arrange 41 = .ok (.ifCond .ge 5, 3) := by decide +kernel
theorem dX8_arrange_44 : decode cX8_arrange 44 = .ok (.iconst 0, 1) := by decide +kernel
theorem dX8_arrange_45 : decode cX8_arrange 45 = .ok (.ireturn, 1) := by decide +kernel
theorem dX8_arrange_46 : decode cX8_arrange 46 = .ok (.aload_n 0, 1) := by decide +kernel
theorem dX8_arrange_47 : decode cX8_arrange 47 = .ok (.getfield 27, 3) := by decide +kernel
theorem dX8_arrange_50 : decode cX8_arrange 50 = .ok (.iload_n 3, 1) := by decide +kernel
theorem dX8_arrange_51 : decode cX8_arrange 51 = .ok (.iload 4, 2) := by decide +kernel
theorem dX8_arrange_53 : decode cX8_arrange 53 = .ok (.invokevirtual 34, 3) := by decide +kernel
theorem dX8_arrange_56 : decode cX8_arrange 56 = .ok (.iload_n 2, 1) := by decide +kernel
theorem dX8_arrange_57 : decode cX8_arrange 57 = .ok (.iconst 1, 1) := by decide +kernel
theorem dX8_arrange_58 : decode cX8_arrange 58 = .ok (.iload 4, 2) := by decide +kernel
theorem dX8_arrange_60 : decode cX8_arrange 60 = .ok (.ishl, 1) := by decide +kernel
theorem dX8_arrange_61 : decode cX8_arrange 61 = .ok (.ior, 1) := by decide +kernel
theorem dX8_arrange_62 : decode cX8_arrange 62 = .ok (.istore_n 2, 1) := by decide +kernel
theorem dX8_arrange_63 : decode cX8_arrange 63 = .ok (.iinc 3 1, 3) := by decide +kernel
theorem dX8_arrange_66 : decode cX8_arrange 66 = .ok (.goto (-45), 3) := by decide +kernel
theorem dX8_arrange_69 : decode cX8_arrange 69 = .ok (.iconst 1, 1) := by decide +kernel
theorem dX8_arrange_70 : decode cX8_arrange 70 = .ok (.ireturn, 1) := by decide +kernel
theorem dX8_gatherAhead_0 : decode cX8_gatherAhead 0 = .ok (.iconst 0, 1) := by decide +kernel
theorem dX8_gatherAhead_1 : decode cX8_gatherAhead 1 = .ok (.istore_n 2, 1) := by decide +kernel
theorem dX8_gatherAhead_2 : decode cX8_gatherAhead 2 = .ok (.iload_n 2, 1) := by decide +kernel
theorem dX8_gatherAhead_3 : decode cX8_gatherAhead 3 = .ok (.bipush 8, 2) := by decide +kernel
theorem dX8_gatherAhead_5 : decode cX8_gatherAhead 5 = .ok (.if_icmp .ge 18, 3) := by decide +kernel
theorem dX8_gatherAhead_8 : decode cX8_gatherAhead 8 = .ok (.aload_n 0, 1) := by decide +kernel
theorem dX8_gatherAhead_9 : decode cX8_gatherAhead 9 = .ok (.getfield 24, 3) := by decide +kernel
theorem dX8_gatherAhead_12 : decode cX8_gatherAhead 12 = .ok (.iload_n 2, 1) := by decide +kernel
theorem dX8_gatherAhead_13 : decode cX8_gatherAhead 13 = .ok (.iconst 0, 1) := by decide +kernel
theorem dX8_gatherAhead_14 : decode cX8_gatherAhead 14 = .ok (.invokevirtual 34, 3) := by decide +kernel
theorem dX8_gatherAhead_17 : decode cX8_gatherAhead 17 = .ok (.iinc 2 1, 3) := by decide +kernel
theorem dX8_gatherAhead_20 : decode cX8_gatherAhead 20 = .ok (.goto (-18), 3) := by decide +kernel
theorem dX8_gatherAhead_23 : decode cX8_gatherAhead 23 = .ok (.iconst 0, 1) := by decide +kernel
theorem dX8_gatherAhead_24 : decode cX8_gatherAhead 24 = .ok (.istore_n 2, 1) := by decide +kernel
theorem dX8_gatherAhead_25 : decode cX8_gatherAhead 25 = .ok (.iload_n 2, 1) := by decide +kernel
theorem dX8_gatherAhead_26 : decode cX8_gatherAhead 26 = .ok (.aload_n 0, 1) := by decide +kernel
theorem dX8_gatherAhead_27 : decode cX8_gatherAhead 27 = .ok (.getfield 9, 3) := by decide +kernel
theorem dX8_gatherAhead_30 : decode cX8_gatherAhead 30 = .ok (.getfield 38, 3) := by decide +kernel
theorem dX8_gatherAhead_33 : decode cX8_gatherAhead 33 = .ok (.getfield 44, 3) := by decide +kernel
theorem dX8_gatherAhead_36 : decode cX8_gatherAhead 36 = .ok (.if_icmp .ge 96, 3) := by decide +kernel
theorem dX8_gatherAhead_39 : decode cX8_gatherAhead 39 = .ok (.aload_n 0, 1) := by decide +kernel
theorem dX8_gatherAhead_40 : decode cX8_gatherAhead 40 = .ok (.getfield 9, 3) := by decide +kernel
theorem dX8_gatherAhead_43 : decode cX8_gatherAhead 43 = .ok (.getfield 38, 3) := by decide +kernel
theorem dX8_gatherAhead_46 : decode cX8_gatherAhead 46 = .ok (.getfield 120, 3) := by decide +kernel
theorem dX8_gatherAhead_49 : decode cX8_gatherAhead 49 = .ok (.iload_n 2, 1) := by decide +kernel
theorem dX8_gatherAhead_50 : decode cX8_gatherAhead 50 = .ok (.invokevirtual 56, 3) := by decide +kernel
theorem dX8_gatherAhead_53 : decode cX8_gatherAhead 53 = .ok (.iconst 1, 1) := by decide +kernel
theorem dX8_gatherAhead_54 : decode cX8_gatherAhead 54 = .ok (.if_icmp .ne 72, 3) := by decide +kernel
theorem dX8_gatherAhead_57 : decode cX8_gatherAhead 57 = .ok (.iload_n 1, 1) := by decide +kernel
theorem dX8_gatherAhead_58 : decode cX8_gatherAhead 58 = .ok (.aload_n 0, 1) := by decide +kernel
theorem dX8_gatherAhead_59 : decode cX8_gatherAhead 59 = .ok (.getfield 9, 3) := by decide +kernel
theorem dX8_gatherAhead_62 : decode cX8_gatherAhead 62 = .ok (.getfield 38, 3) := by decide +kernel
theorem dX8_gatherAhead_65 : decode cX8_gatherAhead 65 = .ok (.getfield 53, 3) := by decide +kernel
theorem dX8_gatherAhead_68 : decode cX8_gatherAhead 68 = .ok (.iload_n 2, 1) := by decide +kernel
theorem dX8_gatherAhead_69 : decode cX8_gatherAhead 69 = .ok (.invokevirtual 56, 3) := by decide +kernel
theorem dX8_gatherAhead_72 : decode cX8_gatherAhead 72 = .ok (.invokestatic 66, 3) := by decide +kernel
theorem dX8_gatherAhead_75 : decode cX8_gatherAhead 75 = .ok (.ifCond .eq 51, 3) := by decide +kernel
theorem dX8_gatherAhead_78 : decode cX8_gatherAhead 78 = .ok (.aload_n 0, 1) := by decide +kernel
theorem dX8_gatherAhead_79 : decode cX8_gatherAhead 79 = .ok (.getfield 9, 3) := by decide +kernel
theorem dX8_gatherAhead_82 : decode cX8_gatherAhead 82 = .ok (.getfield 38, 3) := by decide +kernel
