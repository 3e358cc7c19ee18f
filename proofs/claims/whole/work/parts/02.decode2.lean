theorem dX7_isFigure_5 : decode cX7_isFigure 5 = .ok (.invokestatic 88, 3) := by decide +kernel
theorem dX7_isFigure_8 : decode cX7_isFigure 8 = .ok (.ireturn, 1) := by decide +kernel
theorem dX7_readNumbers_0 : decode cX7_readNumbers 0 = .ok (.iconst 0, 1) := by decide +kernel
theorem dX7_readNumbers_1 : decode cX7_readNumbers 1 = .ok (.istore_n 2, 1) := by decide +kernel
theorem dX7_readNumbers_2 : decode cX7_readNumbers 2 = .ok (.iload_n 2, 1) := by decide +kernel
theorem dX7_readNumbers_3 : decode cX7_readNumbers 3 = .ok (.iload_n 1, 1) := by decide +kernel
theorem dX7_readNumbers_4 : decode cX7_readNumbers 4 = .ok (.if_icmp .ge 140, 3) := by decide +kernel
theorem dX7_readNumbers_7 : decode cX7_readNumbers 7 = .ok (.aload_n 0, 1) := by decide +kernel
theorem dX7_readNumbers_8 : decode cX7_readNumbers 8 = .ok (.aload_n 0, 1) := by decide +kernel
theorem dX7_readNumbers_9 : decode cX7_readNumbers 9 = .ok (.getfield 98, 3) := by decide +kernel
theorem dX7_readNumbers_12 : decode cX7_readNumbers 12 = .ok (.invokevirtual 101, 3) := by decide +kernel
theorem dX7_readNumbers_15 : decode cX7_readNumbers 15 = .ok (.invokestatic 105, 3) := by decide +kernel
theorem dX7_readNumbers_18 : decode cX7_readNumbers 18 = .ok (.ifCond .ne 5, 3) := by decide +kernel
theorem dX7_readNumbers_21 : decode cX7_readNumbers 21 = .ok (.iconst 0, 1) := by decide +kernel
theorem dX7_readNumbers_22 : decode cX7_readNumbers 22 = .ok (.ireturn, 1) := by decide +kernel
theorem dX7_readNumbers_23 : decode cX7_readNumbers 23 = .ok (.aload_n 0, 1) := by decide +kernel
theorem dX7_readNumbers_24 : decode cX7_readNumbers 24 = .ok (.getfield 37, 3) := by decide +kernel
theorem dX7_readNumbers_27 : decode cX7_readNumbers 27 = .ok (.iload_n 2, 1) := by decide +kernel
theorem dX7_readNumbers_28 : decode cX7_readNumbers 28 = .ok (.aload_n 0, 1) := by decide +kernel
theorem dX7_readNumbers_29 : decode cX7_readNumbers 29 = .ok (.aload_n 0, 1) := by decide +kernel
theorem dX7_readNumbers_30 : decode cX7_readNumbers 30 = .ok (.getfield 98, 3) := by decide +kernel
theorem dX7_readNumbers_33 : decode cX7_readNumbers 33 = .ok (.invokevirtual 101, 3) := by decide +kernel
theorem dX7_readNumbers_36 : decode cX7_readNumbers 36 = .ok (.bipush 48, 2) := by decide +kernel
theorem dX7_readNumbers_38 : decode cX7_readNumbers 38 = .ok (.isub, 1) := by decide +kernel
theorem dX7_readNumbers_39 : decode cX7_readNumbers 39 = .ok (.iastore, 1) := by decide +kernel
theorem dX7_readNumbers_40 : decode cX7_readNumbers 40 = .ok (.aload_n 0, 1) := by decide +kernel
theorem dX7_readNumbers_41 : decode cX7_readNumbers 41 = .ok (.dup, 1) := by decide +kernel
theorem dX7_readNumbers_42 : decode cX7_readNumbers 42 = .ok (.getfield 98, 3) := by decide +kernel
theorem dX7_readNumbers_45 : decode cX7_readNumbers 45 = .ok (.iconst 1, 1) := by decide +kernel
theorem dX7_readNumbers_46 : decode cX7_readNumbers 46 = .ok (.iadd, 1) := by decide +kernel
theorem dX7_readNumbers_47 : decode cX7_readNumbers 47 = .ok (.putfield 98, 3) := by decide +kernel
theorem dX7_readNumbers_50 : decode cX7_readNumbers 50 = .ok (.aload_n 0, 1) := by decide +kernel
theorem dX7_readNumbers_51 : decode cX7_readNumbers 51 = .ok (.aload_n 0, 1) := by decide +kernel
theorem dX7_readNumbers_52 : decode cX7_readNumbers 52 = .ok (.getfield 98, 3) := by decide +kernel
theorem dX7_readNumbers_55 : decode cX7_readNumbers 55 = .ok (.invokevirtual 101, 3) := by decide +kernel
theorem dX7_readNumbers_58 : decode cX7_readNumbers 58 = .ok (.invokestatic 105, 3) := by decide +kernel
theorem dX7_readNumbers_61 : decode cX7_readNumbers 61 = .ok (.ifCond .eq 40, 3) := by decide +kernel
theorem dX7_readNumbers_64 : decode cX7_readNumbers 64 = .ok (.aload_n 0, 1) := by decide +kernel
theorem dX7_readNumbers_65 : decode cX7_readNumbers 65 = .ok (.getfield 37, 3) := by decide +kernel
theorem dX7_readNumbers_68 : decode cX7_readNumbers 68 = .ok (.iload_n 2, 1) := by decide +kernel
theorem dX7_readNumbers_69 : decode cX7_readNumbers 69 = .ok (.bipush 10, 2) := by decide +kernel
theorem dX7_readNumbers_71 : decode cX7_readNumbers 71 = .ok (.aload_n 0, 1) := by decide +kernel
theorem dX7_readNumbers_72 : decode cX7_readNumbers 72 = .ok (.getfield 37, 3) := by decide +kernel
theorem dX7_readNumbers_75 : decode cX7_readNumbers 75 = .ok (.iload_n 2, 1) := by decide +kernel
theorem dX7_readNumbers_76 : decode cX7_readNumbers 76 = .ok (.iaload, 1) := by decide +kernel
theorem dX7_readNumbers_77 : decode cX7_readNumbers 77 = .ok (.imul, 1) := by decide +kernel
theorem dX7_readNumbers_78 : decode cX7_readNumbers 78 = .ok (.aload_n 0, 1) := by decide +kernel
theorem dX7_readNumbers_79 : decode cX7_readNumbers 79 = .ok (.aload_n 0, 1) := by decide +kernel
theorem dX7_readNumbers_80 : decode cX7_readNumbers 80 = .ok (.getfield 98, 3) := by decide +kernel
theorem dX7_readNumbers_83 : decode cX7_readNumbers 83 = .ok (.invokevirtual 101, 3) := by decide +kernel
theorem dX7_readNumbers_86 : decode cX7_readNumbers 86 = .ok (.iadd, 1) := by decide +kernel
theorem dX7_readNumbers_87 : decode cX7_readNumbers 87 = .ok (.bipush 48, 2) := by decide +kernel
theorem dX7_readNumbers_89 : decode cX7_readNumbers 89 = .ok (.isub, 1) := by decide +kernel
theorem dX7_readNumbers_90 : decode cX7_readNumbers 90 = .ok (.iastore, 1) := by decide +kernel
theorem dX7_readNumbers_91 : decode cX7_readNumbers 91 = .ok (.aload_n 0, 1) := by decide +kernel
theorem dX7_readNumbers_92 : decode cX7_readNumbers 92 = .ok (.dup, 1) := by decide +kernel
theorem dX7_readNumbers_93 : decode cX7_readNumbers 93 = .ok (.getfield 98, 3) := by decide +kernel
theorem dX7_readNumbers_96 : decode cX7_readNumbers 96 = .ok (.iconst 1, 1) := by decide +kernel
theorem dX7_readNumbers_97 : decode cX7_readNumbers 97 = .ok (.iadd, 1) := by decide +kernel
theorem dX7_readNumbers_98 : decode cX7_readNumbers 98 = .ok (.putfield 98, 3) := by decide +kernel
theorem dX7_readNumbers_101 : decode cX7_readNumbers 101 = .ok (.aload_n 0, 1) := by decide +kernel
theorem dX7_readNumbers_102 : decode cX7_readNumbers 102 = .ok (.aload_n 0, 1) := by decide +kernel
theorem dX7_readNumbers_103 : decode cX7_readNumbers 103 = .ok (.getfield 98, 3) := by decide +kernel
theorem dX7_readNumbers_106 : decode cX7_readNumbers 106 = .ok (.invokevirtual 101, 3) := by decide +kernel
theorem dX7_readNumbers_109 : decode cX7_readNumbers 109 = .ok (.iload_n 2, 1) := by decide +kernel
theorem dX7_readNumbers_110 : decode cX7_readNumbers 110 = .ok (.iload_n 1, 1) := by decide +kernel
theorem dX7_readNumbers_111 : decode cX7_readNumbers 111 = .ok (.iconst 1, 1) := by decide +kernel
theorem dX7_readNumbers_112 : decode cX7_readNumbers 112 = .ok (.isub, 1) := by decide +kernel
theorem dX7_readNumbers_113 : decode cX7_readNumbers 113 = .ok (.if_icmp .ge 8, 3) := by decide +kernel
theorem dX7_readNumbers_116 : decode cX7_readNumbers 116 = .ok (.bipush 44, 2) := by decide +kernel
theorem dX7_readNumbers_118 : decode cX7_readNumbers 118 = .ok (.goto 5, 3) := by decide +kernel
theorem dX7_readNumbers_121 : decode cX7_readNumbers 121 = .ok (.bipush 59, 2) := by decide +kernel
theorem dX7_readNumbers_123 : decode cX7_readNumbers 123 = .ok (.if_icmp .eq 5, 3) := by decide +kernel
theorem dX7_readNumbers_126 : decode cX7_readNumbers 126 = .ok (.iconst 0, 1) := by decide +kernel
theorem dX7_readNumbers_127 : decode cX7_readNumbers 127 = .ok (.ireturn, 1) := by decide +kernel
theorem dX7_readNumbers_128 : decode cX7_readNumbers 128 = .ok (.aload_n 0, 1) := by decide +kernel
theorem dX7_readNumbers_129 : decode cX7_readNumbers 129 = .ok (.dup, 1) := by decide +kernel
theorem dX7_readNumbers_130 : decode cX7_readNumbers 130 = .ok (.getfield 98, 3) := by decide +kernel
theorem dX7_readNumbers_133 : decode cX7_readNumbers 133 = .ok (.iconst 1, 1) := by decide +kernel
theorem dX7_readNumbers_134 : decode cX7_readNumbers 134 = .ok (.iadd, 1) := by decide +kernel
theorem dX7_readNumbers_135 : decode cX7_readNumbers 135 = .ok (.putfield 98, 3) := by decide +kernel
theorem dX7_readNumbers_138 : decode cX7_readNumbers 138 = .ok (.iinc 2 1, 3) := by decide +kernel
theorem dX7_readNumbers_141 : decode cX7_readNumbers 141 = .ok (.goto (-139), 3) := by decide +kernel
theorem dX7_readNumbers_144 : decode cX7_readNumbers 144 = .ok (.iconst 1, 1) := by decide +kernel
theorem dX7_readNumbers_145 : decode cX7_readNumbers 145 = .ok (.ireturn, 1) := by decide +kernel
theorem dX7_isTold_0 : decode cX7_isTold 0 = .ok (.aload_n 0, 1) := by decide +kernel
theorem dX7_isTold_1 : decode cX7_isTold 1 = .ok (.getfield 37, 3) := by decide +kernel
theorem dX7_isTold_4 : decode cX7_isTold 4 = .ok (.iload_n 1, 1) := by decide +kernel
theorem dX7_isTold_5 : decode cX7_isTold 5 = .ok (.iaload, 1) := by decide +kernel
theorem dX7_isTold_6 : decode cX7_isTold 6 = .ok (.iload_n 2, 1) := by decide +kernel
theorem dX7_isTold_7 : decode cX7_isTold 7 = .ok (.iload_n 3, 1) := by decide +kernel
theorem dX7_isTold_8 : decode cX7_isTold 8 = .ok (.invokestatic 88, 3) := by decide +kernel
theorem dX7_isTold_11 : decode cX7_isTold 11 = .ok (.ireturn, 1) := by decide +kernel
theorem dX7_clearTold_0 : decode cX7_clearTold 0 = .ok (.aload_n 0, 1) := by decide +kernel
theorem dX7_clearTold_1 : decode cX7_clearTold 1 = .ok (.iconst 0, 1) := by decide +kernel
theorem dX7_clearTold_2 : decode cX7_clearTold 2 = .ok (.putfield 78, 3) := by decide +kernel
theorem dX7_clearTold_5 : decode cX7_clearTold 5 = .ok (.aload_n 0, 1) := by decide +kernel
theorem dX7_clearTold_6 : decode cX7_clearTold 6 = .ok (.iconst 0, 1) := by decide +kernel
theorem dX7_clearTold_7 : decode cX7_clearTold 7 = .ok (.putfield 82, 3) := by decide +kernel
theorem dX7_clearTold_10 : decode cX7_clearTold 10 = .ok (.iconst 0, 1) := by decide +kernel
theorem dX7_clearTold_11 : decode cX7_clearTold 11 = .ok (.istore_n 1, 1) := by decide +kernel
theorem dX7_clearTold_12 : decode cX7_clearTold 12 = .ok (.iload_n 1, 1) := by decide +kernel
theorem dX7_clearTold_13 : decode cX7_clearTold 13 = .ok (.bipush 9, 2) := by decide +kernel
theorem dX7_clearTold_15 : decode cX7_clearTold 15 = .ok (.if_icmp .gt 16, 3) := by decide +kernel
theorem dX7_clearTold_18 : decode cX7_clearTold 18 = .ok (.aload_n 0, 1) := by decide +kernel
theorem dX7_clearTold_19 : decode cX7_clearTold 19 = .ok (.getfield 43, 3) := by decide +kernel
theorem dX7_clearTold_22 : decode cX7_clearTold 22 = .ok (.iload_n 1, 1) := by decide +kernel
theorem dX7_clearTold_23 : decode cX7_clearTold 23 = .ok (.iconst 4, 1) := by decide +kernel
theorem dX7_clearTold_24 : decode cX7_clearTold 24 = .ok (.iastore, 1) := by decide +kernel
theorem dX7_clearTold_25 : decode cX7_clearTold 25 = .ok (.iinc 1 1, 3) := by decide +kernel
theorem dX7_clearTold_28 : decode cX7_clearTold 28 = .ok (.goto (-16), 3) := by decide +kernel
theorem dX7_clearTold_31 : decode cX7_clearTold 31 = .ok (.aload_n 0, 1) := by decide +kernel
theorem dX7_clearTold_32 : decode cX7_clearTold 32 = .ok (.getfield 49, 3) := by decide +kernel
theorem dX7_clearTold_35 : decode cX7_clearTold 35 = .ok (.iconst 0, 1) := by decide +kernel
theorem dX7_clearTold_36 : decode cX7_clearTold 36 = .ok (.iconst 5, 1) := by decide +kernel
theorem dX7_clearTold_37 : decode cX7_clearTold 37 = .ok (.iastore, 1) := by decide +kernel
theorem dX7_clearTold_38 : decode cX7_clearTold 38 = .ok (.aload_n 0, 1) := by decide +kernel
theorem dX7_clearTold_39 : decode cX7_clearTold 39 = .ok (.getfield 49, 3) := by decide +kernel
theorem dX7_clearTold_42 : decode cX7_clearTold 42 = .ok (.iconst 1, 1) := by decide +kernel
theorem dX7_clearTold_43 : decode cX7_clearTold 43 = .ok (.iconst 5, 1) := by decide +kernel
theorem dX7_clearTold_44 : decode cX7_clearTold 44 = .ok (.iastore, 1) := by decide +kernel
theorem dX7_clearTold_45 : decode cX7_clearTold 45 = .ok (.aload_n 0, 1) := by decide +kernel
theorem dX7_clearTold_46 : decode cX7_clearTold 46 = .ok (.getfield 49, 3) := by decide +kernel
theorem dX7_clearTold_49 : decode cX7_clearTold 49 = .ok (.iconst 2, 1) := by decide +kernel
theorem dX7_clearTold_50 : decode cX7_clearTold 50 = .ok (.iconst 3, 1) := by decide +kernel
theorem dX7_clearTold_51 : decode cX7_clearTold 51 = .ok (.iastore, 1) := by decide +kernel
theorem dX7_clearTold_52 : decode cX7_clearTold 52 = .ok (.aload_n 0, 1) := by decide +kernel
theorem dX7_clearTold_53 : decode cX7_clearTold 53 = .ok (.getfield 49, 3) := by decide +kernel
theorem dX7_clearTold_56 : decode cX7_clearTold 56 = .ok (.iconst 3, 1) := by decide +kernel
theorem dX7_clearTold_57 : decode cX7_clearTold 57 = .ok (.iconst 0, 1) := by decide +kernel
theorem dX7_clearTold_58 : decode cX7_clearTold 58 = .ok (.iastore, 1) := by decide +kernel
theorem dX7_clearTold_59 : decode cX7_clearTold 59 = .ok (.aload_n 0, 1) := by decide +kernel
theorem dX7_clearTold_60 : decode cX7_clearTold 60 = .ok (.getfield 49, 3) := by decide +kernel
theorem dX7_clearTold_63 : decode cX7_clearTold 63 = .ok (.iconst 4, 1) := by decide +kernel
theorem dX7_clearTold_64 : decode cX7_clearTold 64 = .ok (.iconst 0, 1) := by decide +kernel
theorem dX7_clearTold_65 : decode cX7_clearTold 65 = .ok (.iastore, 1) := by decide +kernel
theorem dX7_clearTold_66 : decode cX7_clearTold 66 = .ok (.aload_n 0, 1) := by decide +kernel
theorem dX7_clearTold_67 : decode cX7_clearTold 67 = .ok (.getfield 49, 3) := by decide +kernel
theorem dX7_clearTold_70 : decode cX7_clearTold 70 = .ok (.iconst 5, 1) := by decide +kernel
theorem dX7_clearTold_71 : decode cX7_clearTold 71 = .ok (.iconst 1, 1) := by decide +kernel
theorem dX7_clearTold_72 : decode cX7_clearTold 72 = .ok (.iastore, 1) := by decide +kernel
theorem dX7_clearTold_73 : decode cX7_clearTold 73 = .ok (.aload_n 0, 1) := by decide +kernel
theorem dX7_clearTold_74 : decode cX7_clearTold 74 = .ok (.getfield 49, 3) := by decide +kernel
theorem dX7_clearTold_77 : decode cX7_clearTold 77 = .ok (.bipush 6, 2) := by decide +kernel
theorem dX7_clearTold_79 : decode cX7_clearTold 79 = .ok (.iconst (-1), 1) := by decide +kernel
theorem dX7_clearTold_80 : decode cX7_clearTold 80 = .ok (.iastore, 1) := by decide +kernel
theorem dX7_clearTold_81 : decode cX7_clearTold 81 = .ok (.return_, 1) := by decide +kernel
theorem dX7_readPegOf_0 : decode cX7_readPegOf 0 = .ok (.aload_n 0, 1) := by decide +kernel
theorem dX7_readPegOf_1 : decode cX7_readPegOf 1 = .ok (.getfield 78, 3) := by decide +kernel
theorem dX7_readPegOf_4 : decode cX7_readPegOf 4 = .ok (.bipush 7, 2) := by decide +kernel
theorem dX7_readPegOf_6 : decode cX7_readPegOf 6 = .ok (.if_icmp .eq 42, 3) := by decide +kernel
theorem dX7_readPegOf_9 : decode cX7_readPegOf 9 = .ok (.aload_n 0, 1) := by decide +kernel
theorem dX7_readPegOf_10 : decode cX7_readPegOf 10 = .ok (.iconst 3, 1) := by decide +kernel
theorem dX7_readPegOf_11 : decode cX7_readPegOf 11 = .ok (.invokevirtual 109, 3) := by decide +kernel
theorem dX7_readPegOf_14 : decode cX7_readPegOf 14 = .ok (.ifCond .eq 34, 3) := by decide +kernel
theorem dX7_readPegOf_17 : decode cX7_readPegOf 17 = .ok (.aload_n 0, 1) := by decide +kernel
theorem dX7_readPegOf_18 : decode cX7_readPegOf 18 = .ok (.iconst 0, 1) := by decide +kernel
theorem dX7_readPegOf_19 : decode cX7_readPegOf 19 = .ok (.iconst 0, 1) := by decide +kernel
theorem dX7_readPegOf_20 : decode cX7_readPegOf 20 = .ok (.iconst 3, 1) := by decide +kernel
theorem dX7_readPegOf_21 : decode cX7_readPegOf 21 = .ok (.invokevirtual 112, 3) := by decide +kernel
theorem dX7_readPegOf_24 : decode cX7_readPegOf 24 = .ok (.ifCond .eq 24, 3) := by decide +kernel
theorem dX7_readPegOf_27 : decode cX7_readPegOf 27 = .ok (.aload_n 0, 1) := by decide +kernel
theorem dX7_readPegOf_28 : decode cX7_readPegOf 28 = .ok (.iconst 1, 1) := by decide +kernel
theorem dX7_readPegOf_29 : decode cX7_readPegOf 29 = .ok (.iconst 0, 1) := by decide +kernel
theorem dX7_readPegOf_30 : decode cX7_readPegOf 30 = .ok (.bipush 9, 2) := by decide +kernel
theorem dX7_readPegOf_32 : decode cX7_readPegOf 32 = .ok (.invokevirtual 112, 3) := by decide +kernel
theorem dX7_readPegOf_35 : decode cX7_readPegOf 35 = .ok (.ifCond .eq 13, 3) := by decide +kernel
theorem dX7_readPegOf_38 : decode cX7_readPegOf 38 = .ok (.aload_n 0, 1) := by decide +kernel
theorem dX7_readPegOf_39 : decode cX7_readPegOf 39 = .ok (.iconst 2, 1) := by decide +kernel
theorem dX7_readPegOf_40 : decode cX7_readPegOf 40 = .ok (.iconst 0, 1) := by decide +kernel
theorem dX7_readPegOf_41 : decode cX7_readPegOf 41 = .ok (.iconst 3, 1) := by decide +kernel
theorem dX7_readPegOf_42 : decode cX7_readPegOf 42 = .ok (.invokevirtual 112, 3) := by decide +kernel
theorem dX7_readPegOf_45 : decode cX7_readPegOf 45 = .ok (.ifCond .ne 5, 3) := by decide +kernel
theorem dX7_readPegOf_48 : decode cX7_readPegOf 48 = .ok (.iconst 0, 1) := by decide +kernel
theorem dX7_readPegOf_49 : decode cX7_readPegOf 49 = .ok (.ireturn, 1) := by decide +kernel
theorem dX7_readPegOf_50 : decode cX7_readPegOf 50 = .ok (.aload_n 0, 1) := by decide +kernel
theorem dX7_readPegOf_51 : decode cX7_readPegOf 51 = .ok (.aload_n 0, 1) := by decide +kernel
theorem dX7_readPegOf_52 : decode cX7_readPegOf 52 = .ok (.getfield 37, 3) := by decide +kernel
theorem dX7_readPegOf_55 : decode cX7_readPegOf 55 = .ok (.iconst 0, 1) := by decide +kernel
theorem dX7_readPegOf_56 : decode cX7_readPegOf 56 = .ok (.iaload, 1) := by decide +kernel
theorem dX7_readPegOf_57 : decode cX7_readPegOf 57 = .ok (.aload_n 0, 1) := by decide +kernel
theorem dX7_readPegOf_58 : decode cX7_readPegOf 58 = .ok (.getfield 37, 3) := by decide +kernel
theorem dX7_readPegOf_61 : decode cX7_readPegOf 61 = .ok (.iconst 1, 1) := by decide +kernel
theorem dX7_readPegOf_62 : decode cX7_readPegOf 62 = .ok (.iaload, 1) := by decide +kernel
theorem dX7_readPegOf_63 : decode cX7_readPegOf 63 = .ok (.aload_n 0, 1) := by decide +kernel
theorem dX7_readPegOf_64 : decode cX7_readPegOf 64 = .ok (.getfield 37, 3) := by decide +kernel
theorem dX7_readPegOf_67 : decode cX7_readPegOf 67 = .ok (.iconst 2, 1) := by decide +kernel
theorem dX7_readPegOf_68 : decode cX7_readPegOf 68 = .ok (.iaload, 1) := by decide +kernel
theorem dX7_readPegOf_69 : decode cX7_readPegOf 69 = .ok (.invokevirtual 67, 3) := by decide +kernel
theorem dX7_readPegOf_72 : decode cX7_readPegOf 72 = .ok (.iconst 1, 1) := by decide +kernel
theorem dX7_readPegOf_73 : decode cX7_readPegOf 73 = .ok (.ireturn, 1) := by decide +kernel
theorem dX7_readWindOf_0 : decode cX7_readWindOf 0 = .ok (.aload_n 0, 1) := by decide +kernel
theorem dX7_readWindOf_1 : decode cX7_readWindOf 1 = .ok (.iconst 2, 1) := by decide +kernel
theorem dX7_readWindOf_2 : decode cX7_readWindOf 2 = .ok (.invokevirtual 109, 3) := by decide +kernel
theorem dX7_readWindOf_5 : decode cX7_readWindOf 5 = .ok (.ifCond .eq 24, 3) := by decide +kernel
theorem dX7_readWindOf_8 : decode cX7_readWindOf 8 = .ok (.aload_n 0, 1) := by decide +kernel
theorem dX7_readWindOf_9 : decode cX7_readWindOf 9 = .ok (.iconst 0, 1) := by decide +kernel
theorem dX7_readWindOf_10 : decode cX7_readWindOf 10 = .ok (.iconst 1, 1) := by decide +kernel
theorem dX7_readWindOf_11 : decode cX7_readWindOf 11 = .ok (.bipush 9, 2) := by decide +kernel
theorem dX7_readWindOf_13 : decode cX7_readWindOf 13 = .ok (.invokevirtual 112, 3) := by decide +kernel
theorem dX7_readWindOf_16 : decode cX7_readWindOf 16 = .ok (.ifCond .eq 13, 3) := by decide +kernel
theorem dX7_readWindOf_19 : decode cX7_readWindOf 19 = .ok (.aload_n 0, 1) := by decide +kernel
theorem dX7_readWindOf_20 : decode cX7_readWindOf 20 = .ok (.iconst 1, 1) := by decide +kernel
theorem dX7_readWindOf_21 : decode cX7_readWindOf 21 = .ok (.iconst 0, 1) := by decide +kernel
theorem dX7_readWindOf_22 : decode cX7_readWindOf 22 = .ok (.iconst 4, 1) := by decide +kernel
theorem dX7_readWindOf_23 : decode cX7_readWindOf 23 = .ok (.invokevirtual 112, 3) := by decide +kernel
theorem dX7_readWindOf_26 : decode cX7_readWindOf 26 = .ok (.ifCond .ne 5, 3) := by decide +kernel
theorem dX7_readWindOf_29 : decode cX7_readWindOf 29 = .ok (.iconst 0, 1) := by decide +kernel
theorem dX7_readWindOf_30 : decode cX7_readWindOf 30 = .ok (.ireturn, 1) := by decide +kernel
theorem dX7_readWindOf_31 : decode cX7_readWindOf 31 = .ok (.aload_n 0, 1) := by decide +kernel
theorem dX7_readWindOf_32 : decode cX7_readWindOf 32 = .ok (.getfield 43, 3) := by decide +kernel
theorem dX7_readWindOf_35 : decode cX7_readWindOf 35 = .ok (.aload_n 0, 1) := by decide +kernel
theorem dX7_readWindOf_36 : decode cX7_readWindOf 36 = .ok (.getfield 37, 3) := by decide +kernel
theorem dX7_readWindOf_39 : decode cX7_readWindOf 39 = .ok (.iconst 0, 1) := by decide +kernel
theorem dX7_readWindOf_40 : decode cX7_readWindOf 40 = .ok (.iaload, 1) := by decide +kernel
theorem dX7_readWindOf_41 : decode cX7_readWindOf 41 = .ok (.aload_n 0, 1) := by decide +kernel
theorem dX7_readWindOf_42 : decode cX7_readWindOf 42 = .ok (.getfield 37, 3) := by decide +kernel
theorem dX7_readWindOf_45 : decode cX7_readWindOf 45 = .ok (.iconst 1, 1) := by decide +kernel
theorem dX7_readWindOf_46 : decode cX7_readWindOf 46 = .ok (.iaload, 1) := by decide +kernel
theorem dX7_readWindOf_47 : decode cX7_readWindOf 47 = .ok (.iastore, 1) := by decide +kernel
theorem dX7_readWindOf_48 : decode cX7_readWindOf 48 = .ok (.iconst 1, 1) := by decide +kernel
theorem dX7_readWindOf_49 : decode cX7_readWindOf 49 = .ok (.ireturn, 1) := by decide +kernel
theorem dX7_readRoofOf_0 : decode cX7_readRoofOf 0 = .ok (.aload_n 0, 1) := by decide +kernel
theorem dX7_readRoofOf_1 : decode cX7_readRoofOf 1 = .ok (.getfield 82, 3) := by decide +kernel
theorem dX7_readRoofOf_4 : decode cX7_readRoofOf 4 = .ok (.bipush 6, 2) := by decide +kernel
theorem dX7_readRoofOf_6 : decode cX7_readRoofOf 6 = .ok (.if_icmp .eq 33, 3) := by decide +kernel
theorem dX7_readRoofOf_9 : decode cX7_readRoofOf 9 = .ok (.aload_n 0, 1) := by decide +kernel
theorem dX7_readRoofOf_10 : decode cX7_readRoofOf 10 = .ok (.iconst 2, 1) := by decide +kernel
theorem dX7_readRoofOf_11 : decode cX7_readRoofOf 11 = .ok (.invokevirtual 109, 3) := by decide +kernel
theorem dX7_readRoofOf_14 : decode cX7_readRoofOf 14 = .ok (.ifCond .eq 25, 3) := by decide +kernel
theorem dX7_readRoofOf_17 : decode cX7_readRoofOf 17 = .ok (.aload_n 0, 1) := by decide +kernel
theorem dX7_readRoofOf_18 : decode cX7_readRoofOf 18 = .ok (.iconst 0, 1) := by decide +kernel
theorem dX7_readRoofOf_19 : decode cX7_readRoofOf 19 = .ok (.iconst 0, 1) := by decide +kernel
theorem dX7_readRoofOf_20 : decode cX7_readRoofOf 20 = .ok (.bipush 9, 2) := by decide +kernel
theorem dX7_readRoofOf_22 : decode cX7_readRoofOf 22 = .ok (.invokevirtual 112, 3) := by decide +kernel
theorem dX7_readRoofOf_25 : decode cX7_readRoofOf 25 = .ok (.ifCond .eq 14, 3) := by decide +kernel
theorem dX7_readRoofOf_28 : decode cX7_readRoofOf 28 = .ok (.aload_n 0, 1) := by decide +kernel
theorem dX7_readRoofOf_29 : decode cX7_readRoofOf 29 = .ok (.iconst 1, 1) := by decide +kernel
theorem dX7_readRoofOf_30 : decode cX7_readRoofOf 30 = .ok (.iconst 0, 1) := by decide +kernel
theorem dX7_readRoofOf_31 : decode cX7_readRoofOf 31 = .ok (.bipush 9, 2) := by decide +kernel
theorem dX7_readRoofOf_33 : decode cX7_readRoofOf 33 = .ok (.invokevirtual 112, 3) := by decide +kernel
theorem dX7_readRoofOf_36 : decode cX7_readRoofOf 36 = .ok (.ifCond .ne 5, 3) := by decide +kernel
theorem dX7_readRoofOf_39 : decode cX7_readRoofOf 39 = .ok (.iconst 0, 1) := by decide +kernel
theorem dX7_readRoofOf_40 : decode cX7_readRoofOf 40 = .ok (.ireturn, 1) := by decide +kernel
theorem dX7_readRoofOf_41 : decode cX7_readRoofOf 41 = .ok (.aload_n 0, 1) := by decide +kernel
theorem dX7_readRoofOf_42 : decode cX7_readRoofOf 42 = .ok (.aload_n 0, 1) := by decide +kernel
theorem dX7_readRoofOf_43 : decode cX7_readRoofOf 43 = .ok (.getfield 37, 3) := by decide +kernel
theorem dX7_readRoofOf_46 : decode cX7_readRoofOf 46 = .ok (.iconst 0, 1) := by decide +kernel
theorem dX7_readRoofOf_47 : decode cX7_readRoofOf 47 = .ok (.iaload, 1) := by decide +kernel
theorem dX7_readRoofOf_48 : decode cX7_readRoofOf 48 = .ok (.aload_n 0, 1) := by decide +kernel
theorem dX7_readRoofOf_49 : decode cX7_readRoofOf 49 = .ok (.getfield 37, 3) := by decide +kernel
theorem dX7_readRoofOf_52 : decode cX7_readRoofOf 52 = .ok (.iconst 1, 1) := by decide +kernel
theorem dX7_readRoofOf_53 : decode cX7_readRoofOf 53 = .ok (.iaload, 1) := by decide +kernel
theorem dX7_readRoofOf_54 : decode cX7_readRoofOf 54 = .ok (.invokevirtual 71, 3) := by decide +kernel
theorem dX7_readRoofOf_57 : decode cX7_readRoofOf 57 = .ok (.iconst 1, 1) := by decide +kernel
theorem dX7_readRoofOf_58 : decode cX7_readRoofOf 58 = .ok (.ireturn, 1) := by decide +kernel
theorem dX7_readBeginsOf_0 : decode cX7_readBeginsOf 0 = .ok (.aload_n 0, 1) := by decide +kernel
theorem dX7_readBeginsOf_1 : decode cX7_readBeginsOf 1 = .ok (.iconst 4, 1) := by decide +kernel
theorem dX7_readBeginsOf_2 : decode cX7_readBeginsOf 2 = .ok (.invokevirtual 109, 3) := by decide +kernel
theorem dX7_readBeginsOf_5 : decode cX7_readBeginsOf 5 = .ok (.ifCond .eq 46, 3) := by decide +kernel
theorem dX7_readBeginsOf_8 : decode cX7_readBeginsOf 8 = .ok (.aload_n 0, 1) := by decide +kernel
theorem dX7_readBeginsOf_9 : decode cX7_readBeginsOf 9 = .ok (.iconst 0, 1) := by decide +kernel
theorem dX7_readBeginsOf_10 : decode cX7_readBeginsOf 10 = .ok (.iconst 0, 1) := by decide +kernel
theorem dX7_readBeginsOf_11 : decode cX7_readBeginsOf 11 = .ok (.bipush 9, 2) := by decide +kernel
theorem dX7_readBeginsOf_13 : decode cX7_readBeginsOf 13 = .ok (.invokevirtual 112, 3) := by decide +kernel
theorem dX7_readBeginsOf_16 : decode cX7_readBeginsOf 16 = .ok (.ifCond .eq 35, 3) := by decide +kernel
theorem dX7_readBeginsOf_19 : decode cX7_readBeginsOf 19 = .ok (.aload_n 0, 1) := by decide +kernel
theorem dX7_readBeginsOf_20 : decode cX7_readBeginsOf 20 = .ok (.iconst 1, 1) := by decide +kernel
theorem dX7_readBeginsOf_21 : decode cX7_readBeginsOf 21 = .ok (.iconst 0, 1) := by decide +kernel
theorem dX7_readBeginsOf_22 : decode cX7_readBeginsOf 22 = .ok (.bipush 9, 2) := by decide +kernel
theorem dX7_readBeginsOf_24 : decode cX7_readBeginsOf 24 = .ok (.invokevirtual 112, 3) := by decide +kernel
theorem dX7_readBeginsOf_27 : decode cX7_readBeginsOf 27 = .ok (.ifCond .eq 24, 3) := by decide +kernel
theorem dX7_readBeginsOf_30 : decode cX7_readBeginsOf 30 = .ok (.aload_n 0, 1) := by decide +kernel
theorem dX7_readBeginsOf_31 : decode cX7_readBeginsOf 31 = .ok (.iconst 2, 1) := by decide +kernel
theorem dX7_readBeginsOf_32 : decode cX7_readBeginsOf 32 = .ok (.iconst 1, 1) := by decide +kernel
theorem dX7_readBeginsOf_33 : decode cX7_readBeginsOf 33 = .ok (.bipush 9, 2) := by decide +kernel
theorem dX7_readBeginsOf_35 : decode cX7_readBeginsOf 35 = .ok (.invokevirtual 112, 3) := by decide +kernel
theorem dX7_readBeginsOf_38 : decode cX7_readBeginsOf 38 = .ok (.ifCond .eq 13, 3) := by decide +kernel
theorem dX7_readBeginsOf_41 : decode cX7_readBeginsOf 41 = .ok (.aload_n 0, 1) := by decide +kernel
theorem dX7_readBeginsOf_42 : decode cX7_readBeginsOf 42 = .ok (.iconst 3, 1) := by decide +kernel
theorem dX7_readBeginsOf_43 : decode cX7_readBeginsOf 43 = .ok (.iconst 0, 1) := by decide +kernel
theorem dX7_readBeginsOf_44 : decode cX7_readBeginsOf 44 = .ok (.iconst 3, 1) := by decide +kernel
theorem dX7_readBeginsOf_45 : decode cX7_readBeginsOf 45 = .ok (.invokevirtual 112, 3) := by decide +kernel
theorem dX7_readBeginsOf_48 : decode cX7_readBeginsOf 48 = .ok (.ifCond .ne 5, 3) := by decide +kernel
theorem dX7_readBeginsOf_51 : decode cX7_readBeginsOf 51 = .ok (.iconst 0, 1) := by decide +kernel
theorem dX7_readBeginsOf_52 : decode cX7_readBeginsOf 52 = .ok (.ireturn, 1) := by decide +kernel
theorem dX7_readBeginsOf_53 : decode cX7_readBeginsOf 53 = .ok (.iconst 0, 1) := by decide +kernel
theorem dX7_readBeginsOf_54 : decode cX7_readBeginsOf 54 = .ok (.istore_n 1, 1) := by decide +kernel
theorem dX7_readBeginsOf_55 : decode cX7_readBeginsOf 55 = .ok (.iload_n 1, 1) := by decide +kernel
theorem dX7_readBeginsOf_56 : decode cX7_readBeginsOf 56 = .ok (.iconst 4, 1) := by decide +kernel
theorem dX7_readBeginsOf_57 : decode cX7_readBeginsOf 57 = .ok (.if_icmp .ge 21, 3) := by decide +kernel
theorem dX7_readBeginsOf_60 : decode cX7_readBeginsOf 60 = .ok (.aload_n 0, 1) := by decide +kernel
theorem dX7_readBeginsOf_61 : decode cX7_readBeginsOf 61 = .ok (.getfield 49, 3) := by decide +kernel
theorem dX7_readBeginsOf_64 : decode cX7_readBeginsOf 64 = .ok (.iload_n 1, 1) := by decide +kernel
theorem dX7_readBeginsOf_65 : decode cX7_readBeginsOf 65 = .ok (.aload_n 0, 1) := by decide +kernel
theorem dX7_readBeginsOf_66 : decode cX7_readBeginsOf 66 = .ok (.getfield 37, 3) := by decide +kernel
theorem dX7_readBeginsOf_69 : decode cX7_readBeginsOf 69 = .ok (.iload_n 1, 1) := by decide +kernel
theorem dX7_readBeginsOf_70 : decode cX7_readBeginsOf 70 = .ok (.iaload, 1) := by decide +kernel
theorem dX7_readBeginsOf_71 : decode cX7_readBeginsOf 71 = .ok (.iastore, 1) := by decide +kernel
theorem dX7_readBeginsOf_72 : decode cX7_readBeginsOf 72 = .ok (.iinc 1 1, 3) := by decide +kernel
theorem dX7_readBeginsOf_75 : decode cX7_readBeginsOf 75 = .ok (.goto (-20), 3) := by decide +kernel
theorem dX7_readBeginsOf_78 : decode cX7_readBeginsOf 78 = .ok (.iconst 1, 1) := by decide +kernel
theorem dX7_readBeginsOf_79 : decode cX7_readBeginsOf 79 = .ok (.ireturn, 1) := by decide +kernel
theorem dX7_readRidersOf_0 : decode cX7_readRidersOf 0 = .ok (.aload_n 0, 1) := by decide +kernel
theorem dX7_readRidersOf_1 : decode cX7_readRidersOf 1 = .ok (.iconst 1, 1) := by decide +kernel
theorem dX7_readRidersOf_2 : decode cX7_readRidersOf 2 = .ok (.invokevirtual 109, 3) := by decide +kernel
theorem dX7_readRidersOf_5 : decode cX7_readRidersOf 5 = .ok (.ifCond .eq 13, 3) := by decide +kernel
theorem dX7_readRidersOf_8 : decode cX7_readRidersOf 8 = .ok (.aload_n 0, 1) := by decide +kernel
theorem dX7_readRidersOf_9 : decode cX7_readRidersOf 9 = .ok (.iconst 0, 1) := by decide +kernel
theorem dX7_readRidersOf_10 : decode cX7_readRidersOf 10 = .ok (.iconst 1, 1) := by decide +kernel
theorem dX7_readRidersOf_11 : decode cX7_readRidersOf 11 = .ok (.iconst 2, 1) := by decide +kernel
theorem dX7_readRidersOf_12 : decode cX7_readRidersOf 12 = .ok (.invokevirtual 112, 3) := by decide +kernel
theorem dX7_readRidersOf_15 : decode cX7_readRidersOf 15 = .ok (.ifCond .ne 5, 3) := by decide +kernel
theorem dX7_readRidersOf_18 : decode cX7_readRidersOf 18 = .ok (.iconst 0, 1) := by decide +kernel
theorem dX7_readRidersOf_19 : decode cX7_readRidersOf 19 = .ok (.ireturn, 1) := by decide +kernel
theorem dX7_readRidersOf_20 : decode cX7_readRidersOf 20 = .ok (.aload_n 0, 1) := by decide +kernel
theorem dX7_readRidersOf_21 : decode cX7_readRidersOf 21 = .ok (.getfield 49, 3) := by decide +kernel
theorem dX7_readRidersOf_24 : decode cX7_readRidersOf 24 = .ok (.iconst 5, 1) := by decide +kernel
theorem dX7_readRidersOf_25 : decode cX7_readRidersOf 25 = .ok (.aload_n 0, 1) := by decide +kernel
theorem dX7_readRidersOf_26 : decode cX7_readRidersOf 26 = .ok (.getfield 37, 3) := by decide +kernel
theorem dX7_readRidersOf_29 : decode cX7_readRidersOf 29 = .ok (.iconst 0, 1) := by decide +kernel
theorem dX7_readRidersOf_30 : decode cX7_readRidersOf 30 = .ok (.iaload, 1) := by decide +kernel
theorem dX7_readRidersOf_31 : decode cX7_readRidersOf 31 = .ok (.iastore, 1) := by decide +kernel
theorem dX7_readRidersOf_32 : decode cX7_readRidersOf 32 = .ok (.iconst 1, 1) := by decide +kernel
theorem dX7_readRidersOf_33 : decode cX7_readRidersOf 33 = .ok (.ireturn, 1) := by decide +kernel
theorem dX7_readItem_0 : decode cX7_readItem 0 = .ok (.aload_n 0, 1) := by decide +kernel
theorem dX7_readItem_1 : decode cX7_readItem 1 = .ok (.aload_n 0, 1) := by decide +kernel
theorem dX7_readItem_2 : decode cX7_readItem 2 = .ok (.getfield 98, 3) := by decide +kernel
theorem dX7_readItem_5 : decode cX7_readItem 5 = .ok (.invokevirtual 101, 3) := by decide +kernel
theorem dX7_readItem_8 : decode cX7_readItem 8 = .ok (.istore_n 1, 1) := by decide +kernel
theorem dX7_readItem_9 : decode cX7_readItem 9 = .ok (.aload_n 0, 1) := by decide +kernel
theorem dX7_readItem_10 : decode cX7_readItem 10 = .ok (.dup, 1) := by decide +kernel
theorem dX7_readItem_11 : decode cX7_readItem 11 = .ok (.getfield 98, 3) := by decide +kernel
theorem dX7_readItem_14 : decode cX7_readItem 14 = .ok (.iconst 1, 1) := by decide +kernel
theorem dX7_readItem_15 : decode cX7_readItem 15 = .ok (.iadd, 1) := by decide +kernel
theorem dX7_readItem_16 : decode cX7_readItem 16 = .ok (.putfield 98, 3) := by decide +kernel
theorem dX7_readItem_19 : decode cX7_readItem 19 = .ok (.iload_n 1, 1) := by decide +kernel
theorem dX7_readItem_20 : decode cX7_readItem 20 = .ok (.lookupswitch 77 #[(98, 67), (112, 52), (114, 62), (116, 72), (119, 57)], 52) := by decide +kernel
theorem dX7_readItem_72 : decode cX7_readItem 72 = .ok (.aload_n 0, 1) := by decide +kernel
theorem dX7_readItem_73 : decode cX7_readItem 73 = .ok (.invokevirtual 115, 3) := by decide +kernel
theorem dX7_readItem_76 : decode cX7_readItem 76 = .ok (.ireturn, 1) := by decide +kernel
theorem dX7_readItem_77 : decode cX7_readItem 77 = .ok (.aload_n 0, 1) := by decide +kernel
theorem dX7_readItem_78 : decode cX7_readItem 78 = .ok (.invokevirtual 119, 3) := by decide +kernel
theorem dX7_readItem_81 : decode cX7_readItem 81 = .ok (.ireturn, 1) := by decide +kernel
theorem dX7_readItem_82 : decode cX7_readItem 82 = .ok (.aload_n 0, 1) := by decide +kernel
theorem dX7_readItem_83 : decode cX7_readItem 83 = .ok (.invokevirtual 122, 3) := by decide +kernel
theorem dX7_readItem_86 : decode cX7_readItem 86 = .ok (.ireturn, 1) := by decide +kernel
theorem dX7_readItem_87 : decode cX7_readItem 87 = .ok (.aload_n 0, 1) := by decide +kernel
theorem dX7_readItem_88 : decode cX7_readItem 88 = .ok (.invokevirtual 125, 3) := by decide +kernel
theorem dX7_readItem_91 : decode cX7_readItem 91 = .ok (.ireturn, 1) := by decide +kernel
theorem dX7_readItem_92 : decode cX7_readItem 92 = .ok (.aload_n 0, 1) := by decide +kernel
theorem dX7_readItem_93 : decode cX7_readItem 93 = .ok (.invokevirtual 128, 3) := by decide +kernel
theorem dX7_readItem_96 : decode cX7_readItem 96 = .ok (.ireturn, 1) := by decide +kernel
theorem dX7_readItem_97 : decode cX7_readItem 97 = .ok (.iconst 0, 1) := by decide +kernel
theorem dX7_readItem_98 : decode cX7_readItem 98 = .ok (.ireturn, 1) := by decide +kernel
theorem dX7_fault_0 : decode cX7_fault 0 = .ok (.aload_n 0, 1) := by decide +kernel
theorem dX7_fault_1 : decode cX7_fault 1 = .ok (.iconst 0, 1) := by decide +kernel
theorem dX7_fault_2 : decode cX7_fault 2 = .ok (.putfield 98, 3) := by decide +kernel
theorem dX7_fault_5 : decode cX7_fault 5 = .ok (.aload_n 0, 1) := by decide +kernel
theorem dX7_fault_6 : decode cX7_fault 6 = .ok (.invokevirtual 64, 3) := by decide +kernel
theorem dX7_fault_9 : decode cX7_fault 9 = .ok (.aload_n 0, 1) := by decide +kernel
theorem dX7_fault_10 : decode cX7_fault 10 = .ok (.getfield 98, 3) := by decide +kernel
theorem dX7_fault_13 : decode cX7_fault 13 = .ok (.aload_n 0, 1) := by decide +kernel
theorem dX7_fault_14 : decode cX7_fault 14 = .ok (.getfield 95, 3) := by decide +kernel
theorem dX7_fault_17 : decode cX7_fault 17 = .ok (.if_icmp .ge 20, 3) := by decide +kernel
theorem dX7_fault_20 : decode cX7_fault 20 = .ok (.aload_n 0, 1) := by decide +kernel
theorem dX7_fault_21 : decode cX7_fault 21 = .ok (.getfield 98, 3) := by decide +kernel
theorem dX7_fault_24 : decode cX7_fault 24 = .ok (.istore_n 1, 1) := by decide +kernel
theorem dX7_fault_25 : decode cX7_fault 25 = .ok (.aload_n 0, 1) := by decide +kernel
theorem dX7_fault_26 : decode cX7_fault 26 = .ok (.invokevirtual 131, 3) := by decide +kernel
theorem dX7_fault_29 : decode cX7_fault 29 = .ok (.ifCond .ne 5, 3) := by decide +kernel
theorem dX7_fault_32 : decode cX7_fault 32 = .ok (.iload_n 1, 1) := by decide +kernel
theorem dX7_fault_33 : decode cX7_fault 33 = .ok (.ireturn, 1) := by decide +kernel
theorem dX7_fault_34 : decode cX7_fault 34 = .ok (.goto (-25), 3) := by decide +kernel
theorem dX7_fault_37 : decode cX7_fault 37 = .ok (.bipush (-4), 2) := by decide +kernel
theorem dX7_fault_39 : decode cX7_fault 39 = .ok (.ireturn, 1) := by decide +kernel
theorem dX7_lay_0 : decode cX7_lay 0 = .ok (.aload_n 0, 1) := by decide +kernel
theorem dX7_lay_1 : decode cX7_lay 1 = .ok (.invokevirtual 134, 3) := by decide +kernel
theorem dX7_lay_4 : decode cX7_lay 4 = .ok (.bipush (-4), 2) := by decide +kernel
theorem dX7_lay_6 : decode cX7_lay 6 = .ok (.if_icmp .ne 10, 3) := by decide +kernel
theorem dX7_lay_9 : decode cX7_lay 9 = .ok (.aload_n 0, 1) := by decide +kernel
theorem dX7_lay_10 : decode cX7_lay 10 = .ok (.getfield 78, 3) := by decide +kernel
theorem dX7_lay_13 : decode cX7_lay 13 = .ok (.ifCond .ne 6, 3) := by decide +kernel
theorem dX7_lay_16 : decode cX7_lay 16 = .ok (.bipush (-2), 2) := by decide +kernel
theorem dX7_lay_18 : decode cX7_lay 18 = .ok (.ireturn, 1) := by decide +kernel
theorem dX7_lay_19 : decode cX7_lay 19 = .ok (.aload_n 0, 1) := by decide +kernel
theorem dX7_lay_20 : decode cX7_lay 20 = .ok (.invokevirtual 75, 3) := by decide +kernel
theorem dX7_lay_23 : decode cX7_lay 23 = .ok (.aload_n 0, 1) := by decide +kernel
theorem dX7_lay_24 : decode cX7_lay 24 = .ok (.getfield 85, 3) := by decide +kernel
theorem dX7_lay_27 : decode cX7_lay 27 = .ok (.ireturn, 1) := by decide +kernel
theorem dX7_copies_0 : decode cX7_copies 0 = .ok (.iconst 0, 1) := by decide +kernel
theorem dX7_copies_1 : decode cX7_copies 1 = .ok (.istore 5, 2) := by decide +kernel
theorem dX7_copies_3 : decode cX7_copies 3 = .ok (.iload 5, 2) := by decide +kernel
theorem dX7_copies_5 : decode cX7_copies 5 = .ok (.iload 4, 2) := by decide +kernel
theorem dX7_copies_7 : decode cX7_copies 7 = .ok (.if_icmp .ge 21, 3) := by decide +kernel
theorem dX7_copies_10 : decode cX7_copies 10 = .ok (.aload_n 0, 1) := by decide +kernel
theorem dX7_copies_11 : decode cX7_copies 11 = .ok (.iload_n 1, 1) := by decide +kernel
theorem dX7_copies_12 : decode cX7_copies 12 = .ok (.iload 5, 2) := by decide +kernel
theorem dX7_copies_14 : decode cX7_copies 14 = .ok (.iadd, 1) := by decide +kernel
theorem dX7_copies_15 : decode cX7_copies 15 = .ok (.aload_n 2, 1) := by decide +kernel
theorem dX7_copies_16 : decode cX7_copies 16 = .ok (.iload_n 3, 1) := by decide +kernel
theorem dX7_copies_17 : decode cX7_copies 17 = .ok (.iload 5, 2) := by decide +kernel
theorem dX7_copies_19 : decode cX7_copies 19 = .ok (.iadd, 1) := by decide +kernel
theorem dX7_copies_20 : decode cX7_copies 20 = .ok (.iaload, 1) := by decide +kernel
theorem dX7_copies_21 : decode cX7_copies 21 = .ok (.iastore, 1) := by decide +kernel
theorem dX7_copies_22 : decode cX7_copies 22 = .ok (.iinc 5 1, 3) := by decide +kernel
theorem dX7_copies_25 : decode cX7_copies 25 = .ok (.goto (-22), 3) := by decide +kernel
theorem dX7_copies_28 : decode cX7_copies 28 = .ok (.return_, 1) := by decide +kernel
theorem dX7_settles_0 : decode cX7_settles 0 = .ok (.aload_n 0, 1) := by decide +kernel
theorem dX7_settles_1 : decode cX7_settles 1 = .ok (.aload_n 0, 1) := by decide +kernel
theorem dX7_settles_2 : decode cX7_settles 2 = .ok (.getfield 78, 3) := by decide +kernel
theorem dX7_settles_5 : decode cX7_settles 5 = .ok (.putfield 85, 3) := by decide +kernel
theorem dX7_settles_8 : decode cX7_settles 8 = .ok (.aload_n 0, 1) := by decide +kernel
theorem dX7_settles_9 : decode cX7_settles 9 = .ok (.getfield 7, 3) := by decide +kernel
theorem dX7_settles_12 : decode cX7_settles 12 = .ok (.iconst 0, 1) := by decide +kernel
theorem dX7_settles_13 : decode cX7_settles 13 = .ok (.aload_n 0, 1) := by decide +kernel
theorem dX7_settles_14 : decode cX7_settles 14 = .ok (.getfield 40, 3) := by decide +kernel
theorem dX7_settles_17 : decode cX7_settles 17 = .ok (.iconst 0, 1) := by decide +kernel
theorem dX7_settles_18 : decode cX7_settles 18 = .ok (.bipush 21, 2) := by decide +kernel
theorem dX7_settles_20 : decode cX7_settles 20 = .ok (.invokestatic 138, 3) := by decide +kernel
theorem dX7_settles_23 : decode cX7_settles 23 = .ok (.aload_n 0, 1) := by decide +kernel
theorem dX7_settles_24 : decode cX7_settles 24 = .ok (.getfield 13, 3) := by decide +kernel
theorem dX7_settles_27 : decode cX7_settles 27 = .ok (.iconst 0, 1) := by decide +kernel
theorem dX7_settles_28 : decode cX7_settles 28 = .ok (.aload_n 0, 1) := by decide +kernel
theorem dX7_settles_29 : decode cX7_settles 29 = .ok (.getfield 43, 3) := by decide +kernel
theorem dX7_settles_32 : decode cX7_settles 32 = .ok (.iconst 0, 1) := by decide +kernel
theorem dX7_settles_33 : decode cX7_settles 33 = .ok (.bipush 10, 2) := by decide +kernel
theorem dX7_settles_35 : decode cX7_settles 35 = .ok (.invokestatic 138, 3) := by decide +kernel
theorem dX7_settles_38 : decode cX7_settles 38 = .ok (.aload_n 0, 1) := by decide +kernel
theorem dX7_settles_39 : decode cX7_settles 39 = .ok (.aload_n 0, 1) := by decide +kernel
theorem dX7_settles_40 : decode cX7_settles 40 = .ok (.getfield 82, 3) := by decide +kernel
theorem dX7_settles_43 : decode cX7_settles 43 = .ok (.putfield 92, 3) := by decide +kernel
theorem dX7_settles_46 : decode cX7_settles 46 = .ok (.aload_n 0, 1) := by decide +kernel
theorem dX7_settles_47 : decode cX7_settles 47 = .ok (.getfield 16, 3) := by decide +kernel
theorem dX7_settles_50 : decode cX7_settles 50 = .ok (.iconst 0, 1) := by decide +kernel
theorem dX7_settles_51 : decode cX7_settles 51 = .ok (.aload_n 0, 1) := by decide +kernel
theorem dX7_settles_52 : decode cX7_settles 52 = .ok (.getfield 46, 3) := by decide +kernel
theorem dX7_settles_55 : decode cX7_settles 55 = .ok (.iconst 0, 1) := by decide +kernel
theorem dX7_settles_56 : decode cX7_settles 56 = .ok (.bipush 12, 2) := by decide +kernel
theorem dX7_settles_58 : decode cX7_settles 58 = .ok (.invokestatic 138, 3) := by decide +kernel
theorem dX7_settles_61 : decode cX7_settles 61 = .ok (.aload_n 0, 1) := by decide +kernel
theorem dX7_settles_62 : decode cX7_settles 62 = .ok (.getfield 19, 3) := by decide +kernel
theorem dX7_settles_65 : decode cX7_settles 65 = .ok (.iconst 0, 1) := by decide +kernel
theorem dX7_settles_66 : decode cX7_settles 66 = .ok (.aload_n 0, 1) := by decide +kernel
theorem dX7_settles_67 : decode cX7_settles 67 = .ok (.getfield 49, 3) := by decide +kernel
theorem dX7_settles_70 : decode cX7_settles 70 = .ok (.iconst 0, 1) := by decide +kernel
theorem dX7_settles_71 : decode cX7_settles 71 = .ok (.bipush 7, 2) := by decide +kernel
theorem dX7_settles_73 : decode cX7_settles 73 = .ok (.invokestatic 138, 3) := by decide +kernel
theorem dX7_settles_76 : decode cX7_settles 76 = .ok (.aload_n 0, 1) := by decide +kernel
theorem dX7_settles_77 : decode cX7_settles 77 = .ok (.getfield 22, 3) := by decide +kernel
theorem dX7_settles_80 : decode cX7_settles 80 = .ok (.iconst 0, 1) := by decide +kernel
theorem dX7_settles_81 : decode cX7_settles 81 = .ok (.aload_n 0, 1) := by decide +kernel
theorem dX7_settles_82 : decode cX7_settles 82 = .ok (.getfield 19, 3) := by decide +kernel
theorem dX7_settles_85 : decode cX7_settles 85 = .ok (.iconst 0, 1) := by decide +kernel
theorem dX7_settles_86 : decode cX7_settles 86 = .ok (.bipush 7, 2) := by decide +kernel
theorem dX7_settles_88 : decode cX7_settles 88 = .ok (.invokestatic 138, 3) := by decide +kernel
theorem dX7_settles_91 : decode cX7_settles 91 = .ok (.aload_n 0, 1) := by decide +kernel
theorem dX7_settles_92 : decode cX7_settles 92 = .ok (.iconst 0, 1) := by decide +kernel
theorem dX7_settles_93 : decode cX7_settles 93 = .ok (.putfield 142, 3) := by decide +kernel
theorem dX7_settles_96 : decode cX7_settles 96 = .ok (.aload_n 0, 1) := by decide +kernel
theorem dX7_settles_97 : decode cX7_settles 97 = .ok (.iconst 0, 1) := by decide +kernel
theorem dX7_settles_98 : decode cX7_settles 98 = .ok (.putfield 145, 3) := by decide +kernel
theorem dX7_settles_101 : decode cX7_settles 101 = .ok (.aload_n 0, 1) := by decide +kernel
theorem dX7_settles_102 : decode cX7_settles 102 = .ok (.iconst 0, 1) := by decide +kernel
theorem dX7_settles_103 : decode cX7_settles 103 = .ok (.putfield 148, 3) := by decide +kernel
theorem dX7_settles_106 : decode cX7_settles 106 = .ok (.return_, 1) := by decide +kernel
theorem dX7_from_0 : decode cX7_from 0 = .ok (.aload_n 0, 1) := by decide +kernel
theorem dX7_from_1 : decode cX7_from 1 = .ok (.getfield 52, 3) := by decide +kernel
theorem dX7_from_4 : decode cX7_from 4 = .ok (.iconst 0, 1) := by decide +kernel
theorem dX7_from_5 : decode cX7_from 5 = .ok (.aload_n 1, 1) := by decide +kernel
theorem dX7_from_6 : decode cX7_from 6 = .ok (.iconst 0, 1) := by decide +kernel
theorem dX7_from_7 : decode cX7_from 7 = .ok (.bipush 7, 2) := by decide +kernel
theorem dX7_from_9 : decode cX7_from 9 = .ok (.invokestatic 138, 3) := by decide +kernel
theorem dX7_from_12 : decode cX7_from 12 = .ok (.return_, 1) := by decide +kernel
theorem dX7_isOver_0 : decode cX7_isOver 0 = .ok (.aload_n 0, 1) := by decide +kernel
theorem dX7_isOver_1 : decode cX7_isOver 1 = .ok (.getfield 16, 3) := by decide +kernel
theorem dX7_isOver_4 : decode cX7_isOver 4 = .ok (.iconst 2, 1) := by decide +kernel
theorem dX7_isOver_5 : decode cX7_isOver 5 = .ok (.iload_n 1, 1) := by decide +kernel
theorem dX7_isOver_6 : decode cX7_isOver 6 = .ok (.imul, 1) := by decide +kernel
theorem dX7_isOver_7 : decode cX7_isOver 7 = .ok (.iaload, 1) := by decide +kernel
theorem dX7_isOver_8 : decode cX7_isOver 8 = .ok (.aload_n 0, 1) := by decide +kernel
theorem dX7_isOver_9 : decode cX7_isOver 9 = .ok (.getfield 52, 3) := by decide +kernel
theorem dX7_isOver_12 : decode cX7_isOver 12 = .ok (.iconst 0, 1) := by decide +kernel
theorem dX7_isOver_13 : decode cX7_isOver 13 = .ok (.iaload, 1) := by decide +kernel
theorem dX7_isOver_14 : decode cX7_isOver 14 = .ok (.if_icmp .ne 26, 3) := by decide +kernel
theorem dX7_isOver_17 : decode cX7_isOver 17 = .ok (.aload_n 0, 1) := by decide +kernel
theorem dX7_isOver_18 : decode cX7_isOver 18 = .ok (.getfield 16, 3) := by decide +kernel
theorem dX7_isOver_21 : decode cX7_isOver 21 = .ok (.iconst 2, 1) := by decide +kernel
theorem dX7_isOver_22 : decode cX7_isOver 22 = .ok (.iload_n 1, 1) := by decide +kernel
theorem dX7_isOver_23 : decode cX7_isOver 23 = .ok (.imul, 1) := by decide +kernel
theorem dX7_isOver_24 : decode cX7_isOver 24 = .ok (.iconst 1, 1) := by decide +kernel
theorem dX7_isOver_25 : decode cX7_isOver 25 = .ok (.iadd, 1) := by decide +kernel
theorem dX7_isOver_26 : decode cX7_isOver 26 = .ok (.iaload, 1) := by decide +kernel
theorem dX7_isOver_27 : decode cX7_isOver 27 = .ok (.aload_n 0, 1) := by decide +kernel
theorem dX7_isOver_28 : decode cX7_isOver 28 = .ok (.getfield 52, 3) := by decide +kernel
theorem dX7_isOver_31 : decode cX7_isOver 31 = .ok (.iconst 1, 1) := by decide +kernel
theorem dX7_isOver_32 : decode cX7_isOver 32 = .ok (.iaload, 1) := by decide +kernel
theorem dX7_isOver_33 : decode cX7_isOver 33 = .ok (.if_icmp .ne 7, 3) := by decide +kernel
theorem dX7_isOver_36 : decode cX7_isOver 36 = .ok (.iconst 1, 1) := by decide +kernel
theorem dX7_isOver_37 : decode cX7_isOver 37 = .ok (.goto 4, 3) := by decide +kernel
theorem dX7_isOver_40 : decode cX7_isOver 40 = .ok (.iconst 0, 1) := by decide +kernel
theorem dX7_isOver_41 : decode cX7_isOver 41 = .ok (.ireturn, 1) := by decide +kernel
theorem dX7_isDown_0 : decode cX7_isDown 0 = .ok (.aload_n 0, 1) := by decide +kernel
theorem dX7_isDown_1 : decode cX7_isDown 1 = .ok (.getfield 52, 3) := by decide +kernel
theorem dX7_isDown_4 : decode cX7_isDown 4 = .ok (.iconst 2, 1) := by decide +kernel
theorem dX7_isDown_5 : decode cX7_isDown 5 = .ok (.iaload, 1) := by decide +kernel
theorem dX7_isDown_6 : decode cX7_isDown 6 = .ok (.ifCond .ne 7, 3) := by decide +kernel
theorem dX7_isDown_9 : decode cX7_isDown 9 = .ok (.iconst 1, 1) := by decide +kernel
theorem dX7_isDown_10 : decode cX7_isDown 10 = .ok (.goto 4, 3) := by decide +kernel
theorem dX7_isDown_13 : decode cX7_isDown 13 = .ok (.iconst 0, 1) := by decide +kernel
theorem dX7_isDown_14 : decode cX7_isDown 14 = .ok (.ireturn, 1) := by decide +kernel
theorem dX7_hasLanded_0 : decode cX7_hasLanded 0 = .ok (.iconst 0, 1) := by decide +kernel
theorem dX7_hasLanded_1 : decode cX7_hasLanded 1 = .ok (.istore_n 1, 1) := by decide +kernel
theorem dX7_hasLanded_2 : decode cX7_hasLanded 2 = .ok (.iconst 0, 1) := by decide +kernel
theorem dX7_hasLanded_3 : decode cX7_hasLanded 3 = .ok (.istore_n 2, 1) := by decide +kernel
theorem dX7_hasLanded_4 : decode cX7_hasLanded 4 = .ok (.iload_n 2, 1) := by decide +kernel
theorem dX7_hasLanded_5 : decode cX7_hasLanded 5 = .ok (.aload_n 0, 1) := by decide +kernel
theorem dX7_hasLanded_6 : decode cX7_hasLanded 6 = .ok (.getfield 92, 3) := by decide +kernel
theorem dX7_hasLanded_9 : decode cX7_hasLanded 9 = .ok (.if_icmp .ge 34, 3) := by decide +kernel
theorem dX7_hasLanded_12 : decode cX7_hasLanded 12 = .ok (.iload_n 1, 1) := by decide +kernel
theorem dX7_hasLanded_13 : decode cX7_hasLanded 13 = .ok (.ifCond .ne 18, 3) := by decide +kernel
theorem dX7_hasLanded_16 : decode cX7_hasLanded 16 = .ok (.aload_n 0, 1) := by decide +kernel
theorem dX7_hasLanded_17 : decode cX7_hasLanded 17 = .ok (.invokevirtual 151, 3) := by decide +kernel
theorem dX7_hasLanded_20 : decode cX7_hasLanded 20 = .ok (.ifCond .eq 15, 3) := by decide +kernel
theorem dX7_hasLanded_23 : decode cX7_hasLanded 23 = .ok (.aload_n 0, 1) := by decide +kernel
theorem dX7_hasLanded_24 : decode cX7_hasLanded 24 = .ok (.iload_n 2, 1) := by decide +kernel
theorem dX7_hasLanded_25 : decode cX7_hasLanded 25 = .ok (.invokevirtual 154, 3) := by decide +kernel
theorem dX7_hasLanded_28 : decode cX7_hasLanded 28 = .ok (.ifCond .eq 7, 3) := by decide +kernel
theorem dX7_hasLanded_31 : decode cX7_hasLanded 31 = .ok (.iconst 1, 1) := by decide +kernel
theorem dX7_hasLanded_32 : decode cX7_hasLanded 32 = .ok (.goto 4, 3) := by decide +kernel
theorem dX7_hasLanded_35 : decode cX7_hasLanded 35 = .ok (.iconst 0, 1) := by decide +kernel
theorem dX7_hasLanded_36 : decode cX7_hasLanded 36 = .ok (.istore_n 1, 1) := by decide +kernel
theorem dX7_hasLanded_37 : decode cX7_hasLanded 37 = .ok (.iinc 2 1, 3) := by decide +kernel
theorem dX7_hasLanded_40 : decode cX7_hasLanded 40 = .ok (.goto (-36), 3) := by decide +kernel
theorem dX7_hasLanded_43 : decode cX7_hasLanded 43 = .ok (.iload_n 1, 1) := by decide +kernel
theorem dX7_hasLanded_44 : decode cX7_hasLanded 44 = .ok (.ireturn, 1) := by decide +kernel
theorem dX7_lifts_0 : decode cX7_lifts 0 = .ok (.iload_n 0, 1) := by decide +kernel
theorem dX7_lifts_1 : decode cX7_lifts 1 = .ok (.tableswitch 75 1 3 #[27, 43, 58], 27) := by decide +kernel
theorem dX7_lifts_28 : decode cX7_lifts 28 = .ok (.iload_n 3, 1) := by decide +kernel
theorem dX7_lifts_29 : decode cX7_lifts 29 = .ok (.ifCond .eq 11, 3) := by decide +kernel
theorem dX7_lifts_32 : decode cX7_lifts 32 = .ok (.iconst 2, 1) := by decide +kernel
theorem dX7_lifts_33 : decode cX7_lifts 33 = .ok (.iload_n 1, 1) := by decide +kernel
theorem dX7_lifts_34 : decode cX7_lifts 34 = .ok (.iconst 5, 1) := by decide +kernel
theorem dX7_lifts_35 : decode cX7_lifts 35 = .ok (.isub, 1) := by decide +kernel
theorem dX7_lifts_36 : decode cX7_lifts 36 = .ok (.imul, 1) := by decide +kernel
theorem dX7_lifts_37 : decode cX7_lifts 37 = .ok (.goto 6, 3) := by decide +kernel
theorem dX7_lifts_40 : decode cX7_lifts 40 = .ok (.iload_n 1, 1) := by decide +kernel
theorem dX7_lifts_41 : decode cX7_lifts 41 = .ok (.iconst 5, 1) := by decide +kernel
theorem dX7_lifts_42 : decode cX7_lifts 42 = .ok (.isub, 1) := by decide +kernel
theorem dX7_lifts_43 : decode cX7_lifts 43 = .ok (.ireturn, 1) := by decide +kernel
theorem dX7_lifts_44 : decode cX7_lifts 44 = .ok (.iload_n 2, 1) := by decide +kernel
theorem dX7_lifts_45 : decode cX7_lifts 45 = .ok (.iconst 1, 1) := by decide +kernel
theorem dX7_lifts_46 : decode cX7_lifts 46 = .ok (.if_icmp .le 9, 3) := by decide +kernel
theorem dX7_lifts_49 : decode cX7_lifts 49 = .ok (.iconst 5, 1) := by decide +kernel
theorem dX7_lifts_50 : decode cX7_lifts 50 = .ok (.iload_n 1, 1) := by decide +kernel
theorem dX7_lifts_51 : decode cX7_lifts 51 = .ok (.isub, 1) := by decide +kernel
theorem dX7_lifts_52 : decode cX7_lifts 52 = .ok (.goto 6, 3) := by decide +kernel
theorem dX7_lifts_55 : decode cX7_lifts 55 = .ok (.iload_n 1, 1) := by decide +kernel
theorem dX7_lifts_56 : decode cX7_lifts 56 = .ok (.iconst 5, 1) := by decide +kernel
theorem dX7_lifts_57 : decode cX7_lifts 57 = .ok (.isub, 1) := by decide +kernel
theorem dX7_lifts_58 : decode cX7_lifts 58 = .ok (.ireturn, 1) := by decide +kernel
theorem dX7_lifts_59 : decode cX7_lifts 59 = .ok (.iload 4, 2) := by decide +kernel
theorem dX7_lifts_61 : decode cX7_lifts 61 = .ok (.iconst 2, 1) := by decide +kernel
theorem dX7_lifts_62 : decode cX7_lifts 62 = .ok (.if_icmp .ne 10, 3) := by decide +kernel
theorem dX7_lifts_65 : decode cX7_lifts 65 = .ok (.iload_n 1, 1) := by decide +kernel
theorem dX7_lifts_66 : decode cX7_lifts 66 = .ok (.bipush 7, 2) := by decide +kernel
theorem dX7_lifts_68 : decode cX7_lifts 68 = .ok (.isub, 1) := by decide +kernel
theorem dX7_lifts_69 : decode cX7_lifts 69 = .ok (.goto 6, 3) := by decide +kernel
theorem dX7_lifts_72 : decode cX7_lifts 72 = .ok (.iload_n 1, 1) := by decide +kernel
theorem dX7_lifts_73 : decode cX7_lifts 73 = .ok (.iconst 5, 1) := by decide +kernel
theorem dX7_lifts_74 : decode cX7_lifts 74 = .ok (.isub, 1) := by decide +kernel
theorem dX7_lifts_75 : decode cX7_lifts 75 = .ok (.ireturn, 1) := by decide +kernel
theorem dX7_lifts_76 : decode cX7_lifts 76 = .ok (.iload_n 1, 1) := by decide +kernel
theorem dX7_lifts_77 : decode cX7_lifts 77 = .ok (.iconst 5, 1) := by decide +kernel
theorem dX7_lifts_78 : decode cX7_lifts 78 = .ok (.isub, 1) := by decide +kernel
theorem dX7_lifts_79 : decode cX7_lifts 79 = .ok (.ireturn, 1) := by decide +kernel
theorem dX7_liftOf_0 : decode cX7_liftOf 0 = .ok (.aload_n 0, 1) := by decide +kernel
theorem dX7_liftOf_1 : decode cX7_liftOf 1 = .ok (.getfield 52, 3) := by decide +kernel
theorem dX7_liftOf_4 : decode cX7_liftOf 4 = .ok (.bipush 6, 2) := by decide +kernel
theorem dX7_liftOf_6 : decode cX7_liftOf 6 = .ok (.iaload, 1) := by decide +kernel
theorem dX7_liftOf_7 : decode cX7_liftOf 7 = .ok (.ifCond .lt 25, 3) := by decide +kernel
theorem dX7_liftOf_10 : decode cX7_liftOf 10 = .ok (.aload_n 0, 1) := by decide +kernel
theorem dX7_liftOf_11 : decode cX7_liftOf 11 = .ok (.getfield 7, 3) := by decide +kernel
theorem dX7_liftOf_14 : decode cX7_liftOf 14 = .ok (.iconst 3, 1) := by decide +kernel
theorem dX7_liftOf_15 : decode cX7_liftOf 15 = .ok (.aload_n 0, 1) := by decide +kernel
theorem dX7_liftOf_16 : decode cX7_liftOf 16 = .ok (.getfield 52, 3) := by decide +kernel
theorem dX7_liftOf_19 : decode cX7_liftOf 19 = .ok (.bipush 6, 2) := by decide +kernel
theorem dX7_liftOf_21 : decode cX7_liftOf 21 = .ok (.iaload, 1) := by decide +kernel
theorem dX7_liftOf_22 : decode cX7_liftOf 22 = .ok (.imul, 1) := by decide +kernel
theorem dX7_liftOf_23 : decode cX7_liftOf 23 = .ok (.iaload, 1) := by decide +kernel
theorem dX7_liftOf_24 : decode cX7_liftOf 24 = .ok (.iconst 1, 1) := by decide +kernel
theorem dX7_liftOf_25 : decode cX7_liftOf 25 = .ok (.if_icmp .ne 7, 3) := by decide +kernel
theorem dX7_liftOf_28 : decode cX7_liftOf 28 = .ok (.iconst 1, 1) := by decide +kernel
theorem dX7_liftOf_29 : decode cX7_liftOf 29 = .ok (.goto 4, 3) := by decide +kernel
theorem dX7_liftOf_32 : decode cX7_liftOf 32 = .ok (.iconst 0, 1) := by decide +kernel
theorem dX7_liftOf_33 : decode cX7_liftOf 33 = .ok (.istore_n 2, 1) := by decide +kernel
theorem dX7_liftOf_34 : decode cX7_liftOf 34 = .ok (.aload_n 0, 1) := by decide +kernel
theorem dX7_liftOf_35 : decode cX7_liftOf 35 = .ok (.getfield 7, 3) := by decide +kernel
theorem dX7_liftOf_38 : decode cX7_liftOf 38 = .ok (.iconst 3, 1) := by decide +kernel
theorem dX7_liftOf_39 : decode cX7_liftOf 39 = .ok (.iload_n 1, 1) := by decide +kernel
theorem dX7_liftOf_40 : decode cX7_liftOf 40 = .ok (.imul, 1) := by decide +kernel
theorem dX7_liftOf_41 : decode cX7_liftOf 41 = .ok (.iaload, 1) := by decide +kernel
theorem dX7_liftOf_42 : decode cX7_liftOf 42 = .ok (.aload_n 0, 1) := by decide +kernel
theorem dX7_liftOf_43 : decode cX7_liftOf 43 = .ok (.getfield 7, 3) := by decide +kernel
theorem dX7_liftOf_46 : decode cX7_liftOf 46 = .ok (.iconst 3, 1) := by decide +kernel
theorem dX7_liftOf_47 : decode cX7_liftOf 47 = .ok (.iload_n 1, 1) := by decide +kernel
theorem dX7_liftOf_48 : decode cX7_liftOf 48 = .ok (.imul, 1) := by decide +kernel
theorem dX7_liftOf_49 : decode cX7_liftOf 49 = .ok (.iconst 1, 1) := by decide +kernel
theorem dX7_liftOf_50 : decode cX7_liftOf 50 = .ok (.iadd, 1) := by decide +kernel
theorem dX7_liftOf_51 : decode cX7_liftOf 51 = .ok (.iaload, 1) := by decide +kernel
theorem dX7_liftOf_52 : decode cX7_liftOf 52 = .ok (.aload_n 0, 1) := by decide +kernel
theorem dX7_liftOf_53 : decode cX7_liftOf 53 = .ok (.getfield 52, 3) := by decide +kernel
theorem dX7_liftOf_56 : decode cX7_liftOf 56 = .ok (.iconst 3, 1) := by decide +kernel
theorem dX7_liftOf_57 : decode cX7_liftOf 57 = .ok (.iaload, 1) := by decide +kernel
theorem dX7_liftOf_58 : decode cX7_liftOf 58 = .ok (.iload_n 2, 1) := by decide +kernel
theorem dX7_liftOf_59 : decode cX7_liftOf 59 = .ok (.aload_n 0, 1) := by decide +kernel
theorem dX7_liftOf_60 : decode cX7_liftOf 60 = .ok (.getfield 52, 3) := by decide +kernel
theorem dX7_liftOf_63 : decode cX7_liftOf 63 = .ok (.iconst 5, 1) := by decide +kernel
theorem dX7_liftOf_64 : decode cX7_liftOf 64 = .ok (.iaload, 1) := by decide +kernel
theorem dX7_liftOf_65 : decode cX7_liftOf 65 = .ok (.invokestatic 157, 3) := by decide +kernel
theorem dX7_liftOf_68 : decode cX7_liftOf 68 = .ok (.ireturn, 1) := by decide +kernel
theorem dX7_quartersOf_0 : decode cX7_quartersOf 0 = .ok (.aload_n 0, 1) := by decide +kernel
theorem dX7_quartersOf_1 : decode cX7_quartersOf 1 = .ok (.getfield 7, 3) := by decide +kernel
theorem dX7_quartersOf_4 : decode cX7_quartersOf 4 = .ok (.iconst 3, 1) := by decide +kernel
theorem dX7_quartersOf_5 : decode cX7_quartersOf 5 = .ok (.iload_n 1, 1) := by decide +kernel
theorem dX7_quartersOf_6 : decode cX7_quartersOf 6 = .ok (.imul, 1) := by decide +kernel
theorem dX7_quartersOf_7 : decode cX7_quartersOf 7 = .ok (.iaload, 1) := by decide +kernel
theorem dX7_quartersOf_8 : decode cX7_quartersOf 8 = .ok (.iconst 2, 1) := by decide +kernel
theorem dX7_quartersOf_9 : decode cX7_quartersOf 9 = .ok (.if_icmp .ne 17, 3) := by decide +kernel
theorem dX7_quartersOf_12 : decode cX7_quartersOf 12 = .ok (.aload_n 0, 1) := by decide +kernel
theorem dX7_quartersOf_13 : decode cX7_quartersOf 13 = .ok (.getfield 52, 3) := by decide +kernel
theorem dX7_quartersOf_16 : decode cX7_quartersOf 16 = .ok (.iconst 3, 1) := by decide +kernel
theorem dX7_quartersOf_17 : decode cX7_quartersOf 17 = .ok (.iaload, 1) := by decide +kernel
theorem dX7_quartersOf_18 : decode cX7_quartersOf 18 = .ok (.iconst 1, 1) := by decide +kernel
theorem dX7_quartersOf_19 : decode cX7_quartersOf 19 = .ok (.if_icmp .le 7, 3) := by decide +kernel
theorem dX7_quartersOf_22 : decode cX7_quartersOf 22 = .ok (.iconst 1, 1) := by decide +kernel
theorem dX7_quartersOf_23 : decode cX7_quartersOf 23 = .ok (.goto 4, 3) := by decide +kernel
theorem dX7_quartersOf_26 : decode cX7_quartersOf 26 = .ok (.iconst 0, 1) := by decide +kernel
theorem dX7_quartersOf_27 : decode cX7_quartersOf 27 = .ok (.istore_n 2, 1) := by decide +kernel
theorem dX7_quartersOf_28 : decode cX7_quartersOf 28 = .ok (.iload_n 2, 1) := by decide +kernel
theorem dX7_quartersOf_29 : decode cX7_quartersOf 29 = .ok (.ifCond .eq 20, 3) := by decide +kernel
theorem dX7_quartersOf_32 : decode cX7_quartersOf 32 = .ok (.iconst 4, 1) := by decide +kernel
theorem dX7_quartersOf_33 : decode cX7_quartersOf 33 = .ok (.aload_n 0, 1) := by decide +kernel
theorem dX7_quartersOf_34 : decode cX7_quartersOf 34 = .ok (.getfield 7, 3) := by decide +kernel
theorem dX7_quartersOf_37 : decode cX7_quartersOf 37 = .ok (.iconst 3, 1) := by decide +kernel
theorem dX7_quartersOf_38 : decode cX7_quartersOf 38 = .ok (.iload_n 1, 1) := by decide +kernel
theorem dX7_quartersOf_39 : decode cX7_quartersOf 39 = .ok (.imul, 1) := by decide +kernel
theorem dX7_quartersOf_40 : decode cX7_quartersOf 40 = .ok (.iconst 2, 1) := by decide +kernel
theorem dX7_quartersOf_41 : decode cX7_quartersOf 41 = .ok (.iadd, 1) := by decide +kernel
theorem dX7_quartersOf_42 : decode cX7_quartersOf 42 = .ok (.iaload, 1) := by decide +kernel
theorem dX7_quartersOf_43 : decode cX7_quartersOf 43 = .ok (.isub, 1) := by decide +kernel
theorem dX7_quartersOf_44 : decode cX7_quartersOf 44 = .ok (.iconst 4, 1) := by decide +kernel
theorem dX7_quartersOf_45 : decode cX7_quartersOf 45 = .ok (.irem, 1) := by decide +kernel
theorem dX7_quartersOf_46 : decode cX7_quartersOf 46 = .ok (.goto 13, 3) := by decide +kernel
theorem dX7_quartersOf_49 : decode cX7_quartersOf 49 = .ok (.aload_n 0, 1) := by decide +kernel
theorem dX7_quartersOf_50 : decode cX7_quartersOf 50 = .ok (.getfield 7, 3) := by decide +kernel
theorem dX7_quartersOf_53 : decode cX7_quartersOf 53 = .ok (.iconst 3, 1) := by decide +kernel
theorem dX7_quartersOf_54 : decode cX7_quartersOf 54 = .ok (.iload_n 1, 1) := by decide +kernel
theorem dX7_quartersOf_55 : decode cX7_quartersOf 55 = .ok (.imul, 1) := by decide +kernel
theorem dX7_quartersOf_56 : decode cX7_quartersOf 56 = .ok (.iconst 2, 1) := by decide +kernel
theorem dX7_quartersOf_57 : decode cX7_quartersOf 57 = .ok (.iadd, 1) := by decide +kernel
theorem dX7_quartersOf_58 : decode cX7_quartersOf 58 = .ok (.iaload, 1) := by decide +kernel
theorem dX7_quartersOf_59 : decode cX7_quartersOf 59 = .ok (.ireturn, 1) := by decide +kernel
theorem dX7_bounded_0 : decode cX7_bounded 0 = .ok (.iload_n 0, 1) := by decide +kernel
theorem dX7_bounded_1 : decode cX7_bounded 1 = .ok (.ifCond .ge 7, 3) := by decide +kernel
theorem dX7_bounded_4 : decode cX7_bounded 4 = .ok (.iconst 0, 1) := by decide +kernel
theorem dX7_bounded_5 : decode cX7_bounded 5 = .ok (.goto 15, 3) := by decide +kernel
theorem dX7_bounded_8 : decode cX7_bounded 8 = .ok (.iload_n 0, 1) := by decide +kernel
theorem dX7_bounded_9 : decode cX7_bounded 9 = .ok (.bipush 9, 2) := by decide +kernel
theorem dX7_bounded_11 : decode cX7_bounded 11 = .ok (.if_icmp .le 8, 3) := by decide +kernel
theorem dX7_bounded_14 : decode cX7_bounded 14 = .ok (.bipush 9, 2) := by decide +kernel
theorem dX7_bounded_16 : decode cX7_bounded 16 = .ok (.goto 4, 3) := by decide +kernel
theorem dX7_bounded_19 : decode cX7_bounded 19 = .ok (.iload_n 0, 1) := by decide +kernel
theorem dX7_bounded_20 : decode cX7_bounded 20 = .ok (.ireturn, 1) := by decide +kernel
theorem dX7_goesTo_0 : decode cX7_goesTo 0 = .ok (.aload_n 0, 1) := by decide +kernel
theorem dX7_goesTo_1 : decode cX7_goesTo 1 = .ok (.getfield 52, 3) := by decide +kernel
theorem dX7_goesTo_4 : decode cX7_goesTo 4 = .ok (.iconst 0, 1) := by decide +kernel
theorem dX7_goesTo_5 : decode cX7_goesTo 5 = .ok (.aload_n 0, 1) := by decide +kernel
theorem dX7_goesTo_6 : decode cX7_goesTo 6 = .ok (.getfield 52, 3) := by decide +kernel
theorem dX7_goesTo_9 : decode cX7_goesTo 9 = .ok (.iconst 0, 1) := by decide +kernel
theorem dX7_goesTo_10 : decode cX7_goesTo 10 = .ok (.iaload, 1) := by decide +kernel
theorem dX7_goesTo_11 : decode cX7_goesTo 11 = .ok (.iload_n 1, 1) := by decide +kernel
theorem dX7_goesTo_12 : decode cX7_goesTo 12 = .ok (.iconst 1, 1) := by decide +kernel
theorem dX7_goesTo_13 : decode cX7_goesTo 13 = .ok (.if_icmp .ne 7, 3) := by decide +kernel
theorem dX7_goesTo_16 : decode cX7_goesTo 16 = .ok (.iconst 1, 1) := by decide +kernel
theorem dX7_goesTo_17 : decode cX7_goesTo 17 = .ok (.goto 13, 3) := by decide +kernel
theorem dX7_goesTo_20 : decode cX7_goesTo 20 = .ok (.iload_n 1, 1) := by decide +kernel
theorem dX7_goesTo_21 : decode cX7_goesTo 21 = .ok (.iconst 3, 1) := by decide +kernel
theorem dX7_goesTo_22 : decode cX7_goesTo 22 = .ok (.if_icmp .ne 7, 3) := by decide +kernel
theorem dX7_goesTo_25 : decode cX7_goesTo 25 = .ok (.iconst (-1), 1) := by decide +kernel
theorem dX7_goesTo_26 : decode cX7_goesTo 26 = .ok (.goto 4, 3) := by decide +kernel
theorem dX7_goesTo_29 : decode cX7_goesTo 29 = .ok (.iconst 0, 1) := by decide +kernel
theorem dX7_goesTo_30 : decode cX7_goesTo 30 = .ok (.iadd, 1) := by decide +kernel
theorem dX7_goesTo_31 : decode cX7_goesTo 31 = .ok (.invokestatic 161, 3) := by decide +kernel
theorem dX7_goesTo_34 : decode cX7_goesTo 34 = .ok (.iastore, 1) := by decide +kernel
theorem dX7_goesTo_35 : decode cX7_goesTo 35 = .ok (.aload_n 0, 1) := by decide +kernel
theorem dX7_goesTo_36 : decode cX7_goesTo 36 = .ok (.getfield 52, 3) := by decide +kernel
theorem dX7_goesTo_39 : decode cX7_goesTo 39 = .ok (.iconst 1, 1) := by decide +kernel
theorem dX7_goesTo_40 : decode cX7_goesTo 40 = .ok (.aload_n 0, 1) := by decide +kernel
theorem dX7_goesTo_41 : decode cX7_goesTo 41 = .ok (.getfield 52, 3) := by decide +kernel
theorem dX7_goesTo_44 : decode cX7_goesTo 44 = .ok (.iconst 1, 1) := by decide +kernel
theorem dX7_goesTo_45 : decode cX7_goesTo 45 = .ok (.iaload, 1) := by decide +kernel
theorem dX7_goesTo_46 : decode cX7_goesTo 46 = .ok (.iload_n 1, 1) := by decide +kernel
theorem dX7_goesTo_47 : decode cX7_goesTo 47 = .ok (.iconst 2, 1) := by decide +kernel
theorem dX7_goesTo_48 : decode cX7_goesTo 48 = .ok (.if_icmp .ne 7, 3) := by decide +kernel
theorem dX7_goesTo_51 : decode cX7_goesTo 51 = .ok (.iconst 1, 1) := by decide +kernel
theorem dX7_goesTo_52 : decode cX7_goesTo 52 = .ok (.goto 12, 3) := by decide +kernel
theorem dX7_goesTo_55 : decode cX7_goesTo 55 = .ok (.iload_n 1, 1) := by decide +kernel
theorem dX7_goesTo_56 : decode cX7_goesTo 56 = .ok (.ifCond .ne 7, 3) := by decide +kernel
theorem dX7_goesTo_59 : decode cX7_goesTo 59 = .ok (.iconst (-1), 1) := by decide +kernel
theorem dX7_goesTo_60 : decode cX7_goesTo 60 = .ok (.goto 4, 3) := by decide +kernel
theorem dX7_goesTo_63 : decode cX7_goesTo 63 = .ok (.iconst 0, 1) := by decide +kernel
theorem dX7_goesTo_64 : decode cX7_goesTo 64 = .ok (.iadd, 1) := by decide +kernel
theorem dX7_goesTo_65 : decode cX7_goesTo 65 = .ok (.invokestatic 161, 3) := by decide +kernel
theorem dX7_goesTo_68 : decode cX7_goesTo 68 = .ok (.iastore, 1) := by decide +kernel
theorem dX7_goesTo_69 : decode cX7_goesTo 69 = .ok (.return_, 1) := by decide +kernel
theorem dX7_flies_0 : decode cX7_flies 0 = .ok (.aload_n 0, 1) := by decide +kernel
theorem dX7_flies_1 : decode cX7_flies 1 = .ok (.aload_n 0, 1) := by decide +kernel
theorem dX7_flies_2 : decode cX7_flies 2 = .ok (.getfield 52, 3) := by decide +kernel
theorem dX7_flies_5 : decode cX7_flies 5 = .ok (.iconst 3, 1) := by decide +kernel
theorem dX7_flies_6 : decode cX7_flies 6 = .ok (.iaload, 1) := by decide +kernel
theorem dX7_flies_7 : decode cX7_flies 7 = .ok (.invokevirtual 164, 3) := by decide +kernel
theorem dX7_flies_10 : decode cX7_flies 10 = .ok (.aload_n 0, 1) := by decide +kernel
theorem dX7_flies_11 : decode cX7_flies 11 = .ok (.aload_n 0, 1) := by decide +kernel
theorem dX7_flies_12 : decode cX7_flies 12 = .ok (.invokevirtual 151, 3) := by decide +kernel
theorem dX7_flies_15 : decode cX7_flies 15 = .ok (.ifCond .eq 7, 3) := by decide +kernel
theorem dX7_flies_18 : decode cX7_flies 18 = .ok (.iconst 4, 1) := by decide +kernel
theorem dX7_flies_19 : decode cX7_flies 19 = .ok (.goto 14, 3) := by decide +kernel
theorem dX7_flies_22 : decode cX7_flies 22 = .ok (.aload_n 0, 1) := by decide +kernel
theorem dX7_flies_23 : decode cX7_flies 23 = .ok (.getfield 13, 3) := by decide +kernel
theorem dX7_flies_26 : decode cX7_flies 26 = .ok (.aload_n 0, 1) := by decide +kernel
theorem dX7_flies_27 : decode cX7_flies 27 = .ok (.getfield 52, 3) := by decide +kernel
theorem dX7_flies_30 : decode cX7_flies 30 = .ok (.iconst 2, 1) := by decide +kernel
theorem dX7_flies_31 : decode cX7_flies 31 = .ok (.iaload, 1) := by decide +kernel
theorem dX7_flies_32 : decode cX7_flies 32 = .ok (.iaload, 1) := by decide +kernel
theorem dX7_flies_33 : decode cX7_flies 33 = .ok (.invokevirtual 164, 3) := by decide +kernel
theorem dX7_flies_36 : decode cX7_flies 36 = .ok (.aload_n 0, 1) := by decide +kernel
theorem dX7_flies_37 : decode cX7_flies 37 = .ok (.getfield 52, 3) := by decide +kernel
theorem dX7_flies_40 : decode cX7_flies 40 = .ok (.iconst 4, 1) := by decide +kernel
theorem dX7_flies_41 : decode cX7_flies 41 = .ok (.dup2, 1) := by decide +kernel
theorem dX7_flies_42 : decode cX7_flies 42 = .ok (.iaload, 1) := by decide +kernel
theorem dX7_flies_43 : decode cX7_flies 43 = .ok (.iconst 1, 1) := by decide +kernel
theorem dX7_flies_44 : decode cX7_flies 44 = .ok (.iadd, 1) := by decide +kernel
theorem dX7_flies_45 : decode cX7_flies 45 = .ok (.iastore, 1) := by decide +kernel
theorem dX7_flies_46 : decode cX7_flies 46 = .ok (.return_, 1) := by decide +kernel
theorem dX7_turns_0 : decode cX7_turns 0 = .ok (.aload_n 0, 1) := by decide +kernel
theorem dX7_turns_1 : decode cX7_turns 1 = .ok (.iload_n 1, 1) := by decide +kernel
theorem dX7_turns_2 : decode cX7_turns 2 = .ok (.invokevirtual 168, 3) := by decide +kernel
theorem dX7_turns_5 : decode cX7_turns 5 = .ok (.istore_n 2, 1) := by decide +kernel
theorem dX7_turns_6 : decode cX7_turns 6 = .ok (.aload_n 0, 1) := by decide +kernel
theorem dX7_turns_7 : decode cX7_turns 7 = .ok (.getfield 52, 3) := by decide +kernel
theorem dX7_turns_10 : decode cX7_turns 10 = .ok (.iconst 2, 1) := by decide +kernel
theorem dX7_turns_11 : decode cX7_turns 11 = .ok (.aload_n 0, 1) := by decide +kernel
theorem dX7_turns_12 : decode cX7_turns 12 = .ok (.getfield 52, 3) := by decide +kernel
theorem dX7_turns_15 : decode cX7_turns 15 = .ok (.iconst 2, 1) := by decide +kernel
theorem dX7_turns_16 : decode cX7_turns 16 = .ok (.iaload, 1) := by decide +kernel
theorem dX7_turns_17 : decode cX7_turns 17 = .ok (.aload_n 0, 1) := by decide +kernel
theorem dX7_turns_18 : decode cX7_turns 18 = .ok (.iload_n 1, 1) := by decide +kernel
theorem dX7_turns_19 : decode cX7_turns 19 = .ok (.invokevirtual 171, 3) := by decide +kernel
theorem dX7_turns_22 : decode cX7_turns 22 = .ok (.iadd, 1) := by decide +kernel
theorem dX7_turns_23 : decode cX7_turns 23 = .ok (.invokestatic 161, 3) := by decide +kernel
theorem dX7_turns_26 : decode cX7_turns 26 = .ok (.iastore, 1) := by decide +kernel
theorem dX7_turns_27 : decode cX7_turns 27 = .ok (.aload_n 0, 1) := by decide +kernel
theorem dX7_turns_28 : decode cX7_turns 28 = .ok (.getfield 52, 3) := by decide +kernel
theorem dX7_turns_31 : decode cX7_turns 31 = .ok (.iconst 3, 1) := by decide +kernel
theorem dX7_turns_32 : decode cX7_turns 32 = .ok (.aload_n 0, 1) := by decide +kernel
theorem dX7_turns_33 : decode cX7_turns 33 = .ok (.getfield 52, 3) := by decide +kernel
theorem dX7_turns_36 : decode cX7_turns 36 = .ok (.iconst 3, 1) := by decide +kernel
theorem dX7_turns_37 : decode cX7_turns 37 = .ok (.iaload, 1) := by decide +kernel
theorem dX7_turns_38 : decode cX7_turns 38 = .ok (.iload_n 2, 1) := by decide +kernel
theorem dX7_turns_39 : decode cX7_turns 39 = .ok (.iadd, 1) := by decide +kernel
theorem dX7_turns_40 : decode cX7_turns 40 = .ok (.iconst 4, 1) := by decide +kernel
theorem dX7_turns_41 : decode cX7_turns 41 = .ok (.irem, 1) := by decide +kernel
theorem dX7_turns_42 : decode cX7_turns 42 = .ok (.iastore, 1) := by decide +kernel
theorem dX7_turns_43 : decode cX7_turns 43 = .ok (.aload_n 0, 1) := by decide +kernel
theorem dX7_turns_44 : decode cX7_turns 44 = .ok (.invokevirtual 174, 3) := by decide +kernel
theorem dX7_turns_47 : decode cX7_turns 47 = .ok (.aload_n 0, 1) := by decide +kernel
theorem dX7_turns_48 : decode cX7_turns 48 = .ok (.getfield 52, 3) := by decide +kernel
theorem dX7_turns_51 : decode cX7_turns 51 = .ok (.bipush 6, 2) := by decide +kernel
theorem dX7_turns_53 : decode cX7_turns 53 = .ok (.iload_n 1, 1) := by decide +kernel
theorem dX7_turns_54 : decode cX7_turns 54 = .ok (.iastore, 1) := by decide +kernel
theorem dX7_turns_55 : decode cX7_turns 55 = .ok (.return_, 1) := by decide +kernel
theorem dX7_place_0 : decode cX7_place 0 = .ok (.bipush 10, 2) := by decide +kernel
theorem dX7_place_2 : decode cX7_place 2 = .ok (.aload_n 0, 1) := by decide +kernel
theorem dX7_place_3 : decode cX7_place 3 = .ok (.getfield 52, 3) := by decide +kernel
theorem dX7_place_6 : decode cX7_place 6 = .ok (.iconst 1, 1) := by decide +kernel
theorem dX7_place_7 : decode cX7_place 7 = .ok (.iaload, 1) := by decide +kernel
theorem dX7_place_8 : decode cX7_place 8 = .ok (.imul, 1) := by decide +kernel
theorem dX7_place_9 : decode cX7_place 9 = .ok (.aload_n 0, 1) := by decide +kernel
theorem dX7_place_10 : decode cX7_place 10 = .ok (.getfield 52, 3) := by decide +kernel
theorem dX7_place_13 : decode cX7_place 13 = .ok (.iconst 0, 1) := by decide +kernel
theorem dX7_place_14 : decode cX7_place 14 = .ok (.iaload, 1) := by decide +kernel
theorem dX7_place_15 : decode cX7_place 15 = .ok (.iadd, 1) := by decide +kernel
theorem dX7_place_16 : decode cX7_place 16 = .ok (.ireturn, 1) := by decide +kernel
theorem dX7_peg_0 : decode cX7_peg 0 = .ok (.aload_n 0, 1) := by decide +kernel
theorem dX7_peg_1 : decode cX7_peg 1 = .ok (.iload_n 1, 1) := by decide +kernel
theorem dX7_peg_2 : decode cX7_peg 2 = .ok (.invokevirtual 177, 3) := by decide +kernel
theorem dX7_peg_5 : decode cX7_peg 5 = .ok (.ifCond .eq 12, 3) := by decide +kernel
theorem dX7_peg_8 : decode cX7_peg 8 = .ok (.iload_n 2, 1) := by decide +kernel
theorem dX7_peg_9 : decode cX7_peg 9 = .ok (.iconst 0, 1) := by decide +kernel
theorem dX7_peg_10 : decode cX7_peg 10 = .ok (.iconst 4, 1) := by decide +kernel
theorem dX7_peg_11 : decode cX7_peg 11 = .ok (.invokestatic 88, 3) := by decide +kernel
theorem dX7_peg_14 : decode cX7_peg 14 = .ok (.ifCond .ne 5, 3) := by decide +kernel
theorem dX7_peg_17 : decode cX7_peg 17 = .ok (.iconst (-1), 1) := by decide +kernel
theorem dX7_peg_18 : decode cX7_peg 18 = .ok (.ireturn, 1) := by decide +kernel
theorem dX7_peg_19 : decode cX7_peg 19 = .ok (.aload_n 0, 1) := by decide +kernel
theorem dX7_peg_20 : decode cX7_peg 20 = .ok (.aload_n 0, 1) := by decide +kernel
theorem dX7_peg_21 : decode cX7_peg 21 = .ok (.getfield 22, 3) := by decide +kernel
theorem dX7_peg_24 : decode cX7_peg 24 = .ok (.invokevirtual 180, 3) := by decide +kernel
theorem dX7_peg_27 : decode cX7_peg 27 = .ok (.iload_n 2, 1) := by decide +kernel
theorem dX7_peg_28 : decode cX7_peg 28 = .ok (.iconst 3, 1) := by decide +kernel
theorem dX7_peg_29 : decode cX7_peg 29 = .ok (.if_icmp .ge 16, 3) := by decide +kernel
theorem dX7_peg_32 : decode cX7_peg 32 = .ok (.aload_n 0, 1) := by decide +kernel
theorem dX7_peg_33 : decode cX7_peg 33 = .ok (.getfield 7, 3) := by decide +kernel
theorem dX7_peg_36 : decode cX7_peg 36 = .ok (.iconst 3, 1) := by decide +kernel
theorem dX7_peg_37 : decode cX7_peg 37 = .ok (.iload_n 1, 1) := by decide +kernel
theorem dX7_peg_38 : decode cX7_peg 38 = .ok (.imul, 1) := by decide +kernel
theorem dX7_peg_39 : decode cX7_peg 39 = .ok (.iload_n 2, 1) := by decide +kernel
theorem dX7_peg_40 : decode cX7_peg 40 = .ok (.iadd, 1) := by decide +kernel
theorem dX7_peg_41 : decode cX7_peg 41 = .ok (.iaload, 1) := by decide +kernel
theorem dX7_peg_42 : decode cX7_peg 42 = .ok (.goto 24, 3) := by decide +kernel
theorem dX7_peg_45 : decode cX7_peg 45 = .ok (.iload_n 2, 1) := by decide +kernel
theorem dX7_peg_46 : decode cX7_peg 46 = .ok (.iconst 3, 1) := by decide +kernel
theorem dX7_peg_47 : decode cX7_peg 47 = .ok (.if_icmp .ne 14, 3) := by decide +kernel
theorem dX7_peg_50 : decode cX7_peg 50 = .ok (.aload_n 0, 1) := by decide +kernel
theorem dX7_peg_51 : decode cX7_peg 51 = .ok (.iload_n 1, 1) := by decide +kernel
theorem dX7_peg_52 : decode cX7_peg 52 = .ok (.invokevirtual 171, 3) := by decide +kernel
theorem dX7_peg_55 : decode cX7_peg 55 = .ok (.bipush 20, 2) := by decide +kernel
theorem dX7_peg_57 : decode cX7_peg 57 = .ok (.iadd, 1) := by decide +kernel
theorem dX7_peg_58 : decode cX7_peg 58 = .ok (.goto 8, 3) := by decide +kernel
theorem dX7_peg_61 : decode cX7_peg 61 = .ok (.aload_n 0, 1) := by decide +kernel
theorem dX7_peg_62 : decode cX7_peg 62 = .ok (.iload_n 1, 1) := by decide +kernel
theorem dX7_peg_63 : decode cX7_peg 63 = .ok (.invokevirtual 168, 3) := by decide +kernel
theorem dX7_peg_66 : decode cX7_peg 66 = .ok (.ireturn, 1) := by decide +kernel
theorem dX7_wind_0 : decode cX7_wind 0 = .ok (.iload_n 1, 1) := by decide +kernel
theorem dX7_wind_1 : decode cX7_wind 1 = .ok (.iconst 1, 1) := by decide +kernel
theorem dX7_wind_2 : decode cX7_wind 2 = .ok (.bipush 9, 2) := by decide +kernel
theorem dX7_wind_4 : decode cX7_wind 4 = .ok (.invokestatic 88, 3) := by decide +kernel
theorem dX7_wind_7 : decode cX7_wind 7 = .ok (.ifCond .eq 12, 3) := by decide +kernel
theorem dX7_wind_10 : decode cX7_wind 10 = .ok (.aload_n 0, 1) := by decide +kernel
theorem dX7_wind_11 : decode cX7_wind 11 = .ok (.getfield 13, 3) := by decide +kernel
theorem dX7_wind_14 : decode cX7_wind 14 = .ok (.iload_n 1, 1) := by decide +kernel
theorem dX7_wind_15 : decode cX7_wind 15 = .ok (.iaload, 1) := by decide +kernel
theorem dX7_wind_16 : decode cX7_wind 16 = .ok (.goto 4, 3) := by decide +kernel
theorem dX7_wind_19 : decode cX7_wind 19 = .ok (.iconst (-1), 1) := by decide +kernel
theorem dX7_wind_20 : decode cX7_wind 20 = .ok (.ireturn, 1) := by decide +kernel
theorem dX7_roof_0 : decode cX7_roof 0 = .ok (.aload_n 0, 1) := by decide +kernel
theorem dX7_roof_1 : decode cX7_roof 1 = .ok (.iload_n 1, 1) := by decide +kernel
theorem dX7_roof_2 : decode cX7_roof 2 = .ok (.invokevirtual 184, 3) := by decide +kernel
theorem dX7_roof_5 : decode cX7_roof 5 = .ok (.ifCond .eq 25, 3) := by decide +kernel
theorem dX7_roof_8 : decode cX7_roof 8 = .ok (.iload_n 2, 1) := by decide +kernel
theorem dX7_roof_9 : decode cX7_roof 9 = .ok (.iconst 0, 1) := by decide +kernel
theorem dX7_roof_10 : decode cX7_roof 10 = .ok (.iconst 1, 1) := by decide +kernel
theorem dX7_roof_11 : decode cX7_roof 11 = .ok (.invokestatic 88, 3) := by decide +kernel
theorem dX7_roof_14 : decode cX7_roof 14 = .ok (.ifCond .eq 16, 3) := by decide +kernel
theorem dX7_roof_17 : decode cX7_roof 17 = .ok (.aload_n 0, 1) := by decide +kernel
theorem dX7_roof_18 : decode cX7_roof 18 = .ok (.getfield 16, 3) := by decide +kernel
theorem dX7_roof_21 : decode cX7_roof 21 = .ok (.iconst 2, 1) := by decide +kernel
theorem dX7_roof_22 : decode cX7_roof 22 = .ok (.iload_n 1, 1) := by decide +kernel
theorem dX7_roof_23 : decode cX7_roof 23 = .ok (.imul, 1) := by decide +kernel
theorem dX7_roof_24 : decode cX7_roof 24 = .ok (.iload_n 2, 1) := by decide +kernel
theorem dX7_roof_25 : decode cX7_roof 25 = .ok (.iadd, 1) := by decide +kernel
theorem dX7_roof_26 : decode cX7_roof 26 = .ok (.iaload, 1) := by decide +kernel
theorem dX7_roof_27 : decode cX7_roof 27 = .ok (.goto 4, 3) := by decide +kernel
theorem dX7_roof_30 : decode cX7_roof 30 = .ok (.iconst (-1), 1) := by decide +kernel
theorem dX7_roof_31 : decode cX7_roof 31 = .ok (.ireturn, 1) := by decide +kernel
theorem dX7_remembers_0 : decode cX7_remembers 0 = .ok (.aload_n 0, 1) := by decide +kernel
theorem dX7_remembers_1 : decode cX7_remembers 1 = .ok (.getfield 142, 3) := by decide +kernel
theorem dX7_remembers_4 : decode cX7_remembers 4 = .ok (.bipush 8, 2) := by decide +kernel
theorem dX7_remembers_6 : decode cX7_remembers 6 = .ok (.if_icmp .ne 42, 3) := by decide +kernel
theorem dX7_remembers_9 : decode cX7_remembers 9 = .ok (.iconst 0, 1) := by decide +kernel
theorem dX7_remembers_10 : decode cX7_remembers 10 = .ok (.istore_n 1, 1) := by decide +kernel
theorem dX7_remembers_11 : decode cX7_remembers 11 = .ok (.iload_n 1, 1) := by decide +kernel
theorem dX7_remembers_12 : decode cX7_remembers 12 = .ok (.bipush 49, 2) := by decide +kernel
theorem dX7_remembers_14 : decode cX7_remembers 14 = .ok (.if_icmp .ge 24, 3) := by decide +kernel
theorem dX7_remembers_17 : decode cX7_remembers 17 = .ok (.aload_n 0, 1) := by decide +kernel
theorem dX7_remembers_18 : decode cX7_remembers 18 = .ok (.getfield 25, 3) := by decide +kernel
theorem dX7_remembers_21 : decode cX7_remembers 21 = .ok (.iload_n 1, 1) := by decide +kernel
theorem dX7_remembers_22 : decode cX7_remembers 22 = .ok (.aload_n 0, 1) := by decide +kernel
theorem dX7_remembers_23 : decode cX7_remembers 23 = .ok (.getfield 25, 3) := by decide +kernel
theorem dX7_remembers_26 : decode cX7_remembers 26 = .ok (.iload_n 1, 1) := by decide +kernel
theorem dX7_remembers_27 : decode cX7_remembers 27 = .ok (.bipush 7, 2) := by decide +kernel
theorem dX7_remembers_29 : decode cX7_remembers 29 = .ok (.iadd, 1) := by decide +kernel
theorem dX7_remembers_30 : decode cX7_remembers 30 = .ok (.iaload, 1) := by decide +kernel
theorem dX7_remembers_31 : decode cX7_remembers 31 = .ok (.iastore, 1) := by decide +kernel
theorem dX7_remembers_32 : decode cX7_remembers 32 = .ok (.iinc 1 1, 3) := by decide +kernel
theorem dX7_remembers_35 : decode cX7_remembers 35 = .ok (.goto (-24), 3) := by decide +kernel
theorem dX7_remembers_38 : decode cX7_remembers 38 = .ok (.aload_n 0, 1) := by decide +kernel
theorem dX7_remembers_39 : decode cX7_remembers 39 = .ok (.dup, 1) := by decide +kernel
theorem dX7_remembers_40 : decode cX7_remembers 40 = .ok (.getfield 142, 3) := by decide +kernel
theorem dX7_remembers_43 : decode cX7_remembers 43 = .ok (.iconst 1, 1) := by decide +kernel
theorem dX7_remembers_44 : decode cX7_remembers 44 = .ok (.isub, 1) := by decide +kernel
theorem dX7_remembers_45 : decode cX7_remembers 45 = .ok (.putfield 142, 3) := by decide +kernel
theorem dX7_remembers_48 : decode cX7_remembers 48 = .ok (.aload_n 0, 1) := by decide +kernel
theorem dX7_remembers_49 : decode cX7_remembers 49 = .ok (.getfield 25, 3) := by decide +kernel
theorem dX7_remembers_52 : decode cX7_remembers 52 = .ok (.bipush 7, 2) := by decide +kernel
theorem dX7_remembers_54 : decode cX7_remembers 54 = .ok (.aload_n 0, 1) := by decide +kernel
theorem dX7_remembers_55 : decode cX7_remembers 55 = .ok (.getfield 142, 3) := by decide +kernel
theorem dX7_remembers_58 : decode cX7_remembers 58 = .ok (.imul, 1) := by decide +kernel
theorem dX7_remembers_59 : decode cX7_remembers 59 = .ok (.aload_n 0, 1) := by decide +kernel
theorem dX7_remembers_60 : decode cX7_remembers 60 = .ok (.getfield 22, 3) := by decide +kernel
theorem dX7_remembers_63 : decode cX7_remembers 63 = .ok (.iconst 0, 1) := by decide +kernel
theorem dX7_remembers_64 : decode cX7_remembers 64 = .ok (.bipush 7, 2) := by decide +kernel
theorem dX7_remembers_66 : decode cX7_remembers 66 = .ok (.invokestatic 138, 3) := by decide +kernel
theorem dX7_remembers_69 : decode cX7_remembers 69 = .ok (.aload_n 0, 1) := by decide +kernel
theorem dX7_remembers_70 : decode cX7_remembers 70 = .ok (.dup, 1) := by decide +kernel
theorem dX7_remembers_71 : decode cX7_remembers 71 = .ok (.getfield 142, 3) := by decide +kernel
theorem dX7_remembers_74 : decode cX7_remembers 74 = .ok (.iconst 1, 1) := by decide +kernel
theorem dX7_remembers_75 : decode cX7_remembers 75 = .ok (.iadd, 1) := by decide +kernel
theorem dX7_remembers_76 : decode cX7_remembers 76 = .ok (.putfield 142, 3) := by decide +kernel
theorem dX7_remembers_79 : decode cX7_remembers 79 = .ok (.return_, 1) := by decide +kernel
theorem dX7_turn_0 : decode cX7_turn 0 = .ok (.aload_n 0, 1) := by decide +kernel
theorem dX7_turn_1 : decode cX7_turn 1 = .ok (.iload_n 1, 1) := by decide +kernel
theorem dX7_turn_2 : decode cX7_turn 2 = .ok (.invokevirtual 177, 3) := by decide +kernel
theorem dX7_turn_5 : decode cX7_turn 5 = .ok (.ifCond .ne 5, 3) := by decide +kernel
theorem dX7_turn_8 : decode cX7_turn 8 = .ok (.iconst (-1), 1) := by decide +kernel
theorem dX7_turn_9 : decode cX7_turn 9 = .ok (.ireturn, 1) := by decide +kernel
theorem dX7_turn_10 : decode cX7_turn 10 = .ok (.aload_n 0, 1) := by decide +kernel
theorem dX7_turn_11 : decode cX7_turn 11 = .ok (.aload_n 0, 1) := by decide +kernel
theorem dX7_turn_12 : decode cX7_turn 12 = .ok (.getfield 22, 3) := by decide +kernel
theorem dX7_turn_15 : decode cX7_turn 15 = .ok (.invokevirtual 180, 3) := by decide +kernel
theorem dX7_turn_18 : decode cX7_turn 18 = .ok (.aload_n 0, 1) := by decide +kernel
theorem dX7_turn_19 : decode cX7_turn 19 = .ok (.invokevirtual 151, 3) := by decide +kernel
theorem dX7_turn_22 : decode cX7_turn 22 = .ok (.ifCond .eq 6, 3) := by decide +kernel
theorem dX7_turn_25 : decode cX7_turn 25 = .ok (.bipush (-2), 2) := by decide +kernel
theorem dX7_turn_27 : decode cX7_turn 27 = .ok (.ireturn, 1) := by decide +kernel
theorem dX7_turn_28 : decode cX7_turn 28 = .ok (.aload_n 0, 1) := by decide +kernel
theorem dX7_turn_29 : decode cX7_turn 29 = .ok (.invokevirtual 187, 3) := by decide +kernel
theorem dX7_turn_32 : decode cX7_turn 32 = .ok (.aload_n 0, 1) := by decide +kernel
theorem dX7_turn_33 : decode cX7_turn 33 = .ok (.iload_n 1, 1) := by decide +kernel
theorem dX7_turn_34 : decode cX7_turn 34 = .ok (.invokevirtual 190, 3) := by decide +kernel
theorem dX7_turn_37 : decode cX7_turn 37 = .ok (.aload_n 0, 1) := by decide +kernel
theorem dX7_turn_38 : decode cX7_turn 38 = .ok (.getfield 22, 3) := by decide +kernel
theorem dX7_turn_41 : decode cX7_turn 41 = .ok (.iconst 0, 1) := by decide +kernel
theorem dX7_turn_42 : decode cX7_turn 42 = .ok (.aload_n 0, 1) := by decide +kernel
theorem dX7_turn_43 : decode cX7_turn 43 = .ok (.getfield 52, 3) := by decide +kernel
theorem dX7_turn_46 : decode cX7_turn 46 = .ok (.iconst 0, 1) := by decide +kernel
theorem dX7_turn_47 : decode cX7_turn 47 = .ok (.bipush 7, 2) := by decide +kernel
theorem dX7_turn_49 : decode cX7_turn 49 = .ok (.invokestatic 138, 3) := by decide +kernel
theorem dX7_turn_52 : decode cX7_turn 52 = .ok (.aload_n 0, 1) := by decide +kernel
theorem dX7_turn_53 : decode cX7_turn 53 = .ok (.getfield 22, 3) := by decide +kernel
theorem dX7_turn_56 : decode cX7_turn 56 = .ok (.iconst 2, 1) := by decide +kernel
theorem dX7_turn_57 : decode cX7_turn 57 = .ok (.iaload, 1) := by decide +kernel
theorem dX7_turn_58 : decode cX7_turn 58 = .ok (.ireturn, 1) := by decide +kernel
theorem dX7_flyOn_0 : decode cX7_flyOn 0 = .ok (.aload_n 0, 1) := by decide +kernel
theorem dX7_flyOn_1 : decode cX7_flyOn 1 = .ok (.aload_n 0, 1) := by decide +kernel
theorem dX7_flyOn_2 : decode cX7_flyOn 2 = .ok (.getfield 22, 3) := by decide +kernel
theorem dX7_flyOn_5 : decode cX7_flyOn 5 = .ok (.invokevirtual 180, 3) := by decide +kernel
theorem dX7_flyOn_8 : decode cX7_flyOn 8 = .ok (.aload_n 0, 1) := by decide +kernel
theorem dX7_flyOn_9 : decode cX7_flyOn 9 = .ok (.invokevirtual 151, 3) := by decide +kernel
theorem dX7_flyOn_12 : decode cX7_flyOn 12 = .ok (.ifCond .eq 6, 3) := by decide +kernel
theorem dX7_flyOn_15 : decode cX7_flyOn 15 = .ok (.bipush (-2), 2) := by decide +kernel
theorem dX7_flyOn_17 : decode cX7_flyOn 17 = .ok (.ireturn, 1) := by decide +kernel
theorem dX7_flyOn_18 : decode cX7_flyOn 18 = .ok (.aload_n 0, 1) := by decide +kernel
theorem dX7_flyOn_19 : decode cX7_flyOn 19 = .ok (.invokevirtual 187, 3) := by decide +kernel
theorem dX7_flyOn_22 : decode cX7_flyOn 22 = .ok (.aload_n 0, 1) := by decide +kernel
theorem dX7_flyOn_23 : decode cX7_flyOn 23 = .ok (.invokevirtual 174, 3) := by decide +kernel
theorem dX7_flyOn_26 : decode cX7_flyOn 26 = .ok (.aload_n 0, 1) := by decide +kernel
theorem dX7_flyOn_27 : decode cX7_flyOn 27 = .ok (.getfield 52, 3) := by decide +kernel
theorem dX7_flyOn_30 : decode cX7_flyOn 30 = .ok (.bipush 6, 2) := by decide +kernel
theorem dX7_flyOn_32 : decode cX7_flyOn 32 = .ok (.iconst (-1), 1) := by decide +kernel
theorem dX7_flyOn_33 : decode cX7_flyOn 33 = .ok (.iastore, 1) := by decide +kernel
theorem dX7_flyOn_34 : decode cX7_flyOn 34 = .ok (.aload_n 0, 1) := by decide +kernel
theorem dX7_flyOn_35 : decode cX7_flyOn 35 = .ok (.getfield 22, 3) := by decide +kernel
theorem dX7_flyOn_38 : decode cX7_flyOn 38 = .ok (.iconst 0, 1) := by decide +kernel
theorem dX7_flyOn_39 : decode cX7_flyOn 39 = .ok (.aload_n 0, 1) := by decide +kernel
theorem dX7_flyOn_40 : decode cX7_flyOn 40 = .ok (.getfield 52, 3) := by decide +kernel
theorem dX7_flyOn_43 : decode cX7_flyOn 43 = .ok (.iconst 0, 1) := by decide +kernel
theorem dX7_flyOn_44 : decode cX7_flyOn 44 = .ok (.bipush 7, 2) := by decide +kernel
theorem dX7_flyOn_46 : decode cX7_flyOn 46 = .ok (.invokestatic 138, 3) := by decide +kernel
theorem dX7_flyOn_49 : decode cX7_flyOn 49 = .ok (.aload_n 0, 1) := by decide +kernel
theorem dX7_flyOn_50 : decode cX7_flyOn 50 = .ok (.invokevirtual 193, 3) := by decide +kernel
theorem dX7_flyOn_53 : decode cX7_flyOn 53 = .ok (.ireturn, 1) := by decide +kernel
theorem dX7_setDown_0 : decode cX7_setDown 0 = .ok (.aload_n 0, 1) := by decide +kernel
theorem dX7_setDown_1 : decode cX7_setDown 1 = .ok (.aload_n 0, 1) := by decide +kernel
theorem dX7_setDown_2 : decode cX7_setDown 2 = .ok (.getfield 22, 3) := by decide +kernel
theorem dX7_setDown_5 : decode cX7_setDown 5 = .ok (.invokevirtual 180, 3) := by decide +kernel
theorem dX7_setDown_8 : decode cX7_setDown 8 = .ok (.aload_n 0, 1) := by decide +kernel
theorem dX7_setDown_9 : decode cX7_setDown 9 = .ok (.invokevirtual 196, 3) := by decide +kernel
theorem dX7_setDown_12 : decode cX7_setDown 12 = .ok (.ifCond .eq 13, 3) := by decide +kernel
theorem dX7_setDown_15 : decode cX7_setDown 15 = .ok (.aload_n 0, 1) := by decide +kernel
theorem dX7_setDown_16 : decode cX7_setDown 16 = .ok (.getfield 22, 3) := by decide +kernel
theorem dX7_setDown_19 : decode cX7_setDown 19 = .ok (.iconst 5, 1) := by decide +kernel
theorem dX7_setDown_20 : decode cX7_setDown 20 = .ok (.iaload, 1) := by decide +kernel
theorem dX7_setDown_21 : decode cX7_setDown 21 = .ok (.iconst 2, 1) := by decide +kernel
theorem dX7_setDown_22 : decode cX7_setDown 22 = .ok (.if_icmp .eq 6, 3) := by decide +kernel
theorem dX7_setDown_25 : decode cX7_setDown 25 = .ok (.bipush (-2), 2) := by decide +kernel
theorem dX7_setDown_27 : decode cX7_setDown 27 = .ok (.ireturn, 1) := by decide +kernel
theorem dX7_setDown_28 : decode cX7_setDown 28 = .ok (.aload_n 0, 1) := by decide +kernel
theorem dX7_setDown_29 : decode cX7_setDown 29 = .ok (.invokevirtual 187, 3) := by decide +kernel
theorem dX7_setDown_32 : decode cX7_setDown 32 = .ok (.aload_n 0, 1) := by decide +kernel
theorem dX7_setDown_33 : decode cX7_setDown 33 = .ok (.getfield 22, 3) := by decide +kernel
theorem dX7_setDown_36 : decode cX7_setDown 36 = .ok (.iconst 5, 1) := by decide +kernel
theorem dX7_setDown_37 : decode cX7_setDown 37 = .ok (.iconst 1, 1) := by decide +kernel
theorem dX7_setDown_38 : decode cX7_setDown 38 = .ok (.iastore, 1) := by decide +kernel
theorem dX7_setDown_39 : decode cX7_setDown 39 = .ok (.aload_n 0, 1) := by decide +kernel
theorem dX7_setDown_40 : decode cX7_setDown 40 = .ok (.getfield 22, 3) := by decide +kernel
theorem dX7_setDown_43 : decode cX7_setDown 43 = .ok (.iconst 2, 1) := by decide +kernel
theorem dX7_setDown_44 : decode cX7_setDown 44 = .ok (.iconst 1, 1) := by decide +kernel
theorem dX7_setDown_45 : decode cX7_setDown 45 = .ok (.iastore, 1) := by decide +kernel
theorem dX7_setDown_46 : decode cX7_setDown 46 = .ok (.aload_n 0, 1) := by decide +kernel
theorem dX7_setDown_47 : decode cX7_setDown 47 = .ok (.getfield 22, 3) := by decide +kernel
theorem dX7_setDown_50 : decode cX7_setDown 50 = .ok (.bipush 6, 2) := by decide +kernel
theorem dX7_setDown_52 : decode cX7_setDown 52 = .ok (.iconst (-1), 1) := by decide +kernel
theorem dX7_setDown_53 : decode cX7_setDown 53 = .ok (.iastore, 1) := by decide +kernel
theorem dX7_setDown_54 : decode cX7_setDown 54 = .ok (.iconst 1, 1) := by decide +kernel
theorem dX7_setDown_55 : decode cX7_setDown 55 = .ok (.ireturn, 1) := by decide +kernel
theorem dX7_undo_0 : decode cX7_undo 0 = .ok (.aload_n 0, 1) := by decide +kernel
theorem dX7_undo_1 : decode cX7_undo 1 = .ok (.getfield 142, 3) := by decide +kernel
theorem dX7_undo_4 : decode cX7_undo 4 = .ok (.ifCond .ne 6, 3) := by decide +kernel
theorem dX7_undo_7 : decode cX7_undo 7 = .ok (.bipush (-2), 2) := by decide +kernel
theorem dX7_undo_9 : decode cX7_undo 9 = .ok (.ireturn, 1) := by decide +kernel
theorem dX7_undo_10 : decode cX7_undo 10 = .ok (.aload_n 0, 1) := by decide +kernel
theorem dX7_undo_11 : decode cX7_undo 11 = .ok (.dup, 1) := by decide +kernel
theorem dX7_undo_12 : decode cX7_undo 12 = .ok (.getfield 142, 3) := by decide +kernel
theorem dX7_undo_15 : decode cX7_undo 15 = .ok (.iconst 1, 1) := by decide +kernel
theorem dX7_undo_16 : decode cX7_undo 16 = .ok (.isub, 1) := by decide +kernel
theorem dX7_undo_17 : decode cX7_undo 17 = .ok (.putfield 142, 3) := by decide +kernel
theorem dX7_undo_20 : decode cX7_undo 20 = .ok (.aload_n 0, 1) := by decide +kernel
theorem dX7_undo_21 : decode cX7_undo 21 = .ok (.getfield 22, 3) := by decide +kernel
theorem dX7_undo_24 : decode cX7_undo 24 = .ok (.iconst 0, 1) := by decide +kernel
theorem dX7_undo_25 : decode cX7_undo 25 = .ok (.aload_n 0, 1) := by decide +kernel
theorem dX7_undo_26 : decode cX7_undo 26 = .ok (.getfield 25, 3) := by decide +kernel
theorem dX7_undo_29 : decode cX7_undo 29 = .ok (.bipush 7, 2) := by decide +kernel
theorem dX7_undo_31 : decode cX7_undo 31 = .ok (.aload_n 0, 1) := by decide +kernel
theorem dX7_undo_32 : decode cX7_undo 32 = .ok (.getfield 142, 3) := by decide +kernel
theorem dX7_undo_35 : decode cX7_undo 35 = .ok (.imul, 1) := by decide +kernel
theorem dX7_undo_36 : decode cX7_undo 36 = .ok (.bipush 7, 2) := by decide +kernel
theorem dX7_undo_38 : decode cX7_undo 38 = .ok (.invokestatic 138, 3) := by decide +kernel
theorem dX7_undo_41 : decode cX7_undo 41 = .ok (.aload_n 0, 1) := by decide +kernel
theorem dX7_undo_42 : decode cX7_undo 42 = .ok (.getfield 142, 3) := by decide +kernel
theorem dX7_undo_45 : decode cX7_undo 45 = .ok (.ireturn, 1) := by decide +kernel
theorem dX7_now_0 : decode cX7_now 0 = .ok (.iload_n 1, 1) := by decide +kernel
theorem dX7_now_1 : decode cX7_now 1 = .ok (.iconst 0, 1) := by decide +kernel
theorem dX7_now_2 : decode cX7_now 2 = .ok (.bipush 8, 2) := by decide +kernel
theorem dX7_now_4 : decode cX7_now 4 = .ok (.invokestatic 88, 3) := by decide +kernel
theorem dX7_now_7 : decode cX7_now 7 = .ok (.ifCond .ne 5, 3) := by decide +kernel
theorem dX7_now_10 : decode cX7_now 10 = .ok (.iconst (-1), 1) := by decide +kernel
theorem dX7_now_11 : decode cX7_now 11 = .ok (.ireturn, 1) := by decide +kernel
theorem dX7_now_12 : decode cX7_now 12 = .ok (.aload_n 0, 1) := by decide +kernel
theorem dX7_now_13 : decode cX7_now 13 = .ok (.aload_n 0, 1) := by decide +kernel
theorem dX7_now_14 : decode cX7_now 14 = .ok (.getfield 22, 3) := by decide +kernel
theorem dX7_now_17 : decode cX7_now 17 = .ok (.invokevirtual 180, 3) := by decide +kernel
theorem dX7_now_20 : decode cX7_now 20 = .ok (.iload_n 1, 1) := by decide +kernel
theorem dX7_now_21 : decode cX7_now 21 = .ok (.bipush 6, 2) := by decide +kernel
theorem dX7_now_23 : decode cX7_now 23 = .ok (.if_icmp .ge 10, 3) := by decide +kernel
theorem dX7_now_26 : decode cX7_now 26 = .ok (.aload_n 0, 1) := by decide +kernel
theorem dX7_now_27 : decode cX7_now 27 = .ok (.getfield 22, 3) := by decide +kernel
theorem dX7_now_30 : decode cX7_now 30 = .ok (.iload_n 1, 1) := by decide +kernel
theorem dX7_now_31 : decode cX7_now 31 = .ok (.iaload, 1) := by decide +kernel
theorem dX7_now_32 : decode cX7_now 32 = .ok (.ireturn, 1) := by decide +kernel
theorem dX7_now_33 : decode cX7_now 33 = .ok (.iload_n 1, 1) := by decide +kernel
theorem dX7_now_34 : decode cX7_now 34 = .ok (.bipush 6, 2) := by decide +kernel
theorem dX7_now_36 : decode cX7_now 36 = .ok (.if_icmp .ne 18, 3) := by decide +kernel
theorem dX7_now_39 : decode cX7_now 39 = .ok (.aload_n 0, 1) := by decide +kernel
theorem dX7_now_40 : decode cX7_now 40 = .ok (.invokevirtual 196, 3) := by decide +kernel
theorem dX7_now_43 : decode cX7_now 43 = .ok (.ifCond .eq 7, 3) := by decide +kernel
theorem dX7_now_46 : decode cX7_now 46 = .ok (.iconst 1, 1) := by decide +kernel
theorem dX7_now_47 : decode cX7_now 47 = .ok (.goto 57, 3) := by decide +kernel
theorem dX7_now_50 : decode cX7_now 50 = .ok (.iconst 0, 1) := by decide +kernel
theorem dX7_now_51 : decode cX7_now 51 = .ok (.goto 53, 3) := by decide +kernel
theorem dX7_now_54 : decode cX7_now 54 = .ok (.iload_n 1, 1) := by decide +kernel
theorem dX7_now_55 : decode cX7_now 55 = .ok (.bipush 7, 2) := by decide +kernel
theorem dX7_now_57 : decode cX7_now 57 = .ok (.if_icmp .ne 25, 3) := by decide +kernel
theorem dX7_now_60 : decode cX7_now 60 = .ok (.aload_n 0, 1) := by decide +kernel
theorem dX7_now_61 : decode cX7_now 61 = .ok (.invokevirtual 151, 3) := by decide +kernel
theorem dX7_now_64 : decode cX7_now 64 = .ok (.ifCond .eq 14, 3) := by decide +kernel
theorem dX7_now_67 : decode cX7_now 67 = .ok (.aload_n 0, 1) := by decide +kernel
theorem dX7_now_68 : decode cX7_now 68 = .ok (.invokevirtual 196, 3) := by decide +kernel
theorem dX7_now_71 : decode cX7_now 71 = .ok (.ifCond .ne 7, 3) := by decide +kernel
theorem dX7_now_74 : decode cX7_now 74 = .ok (.iconst 1, 1) := by decide +kernel
theorem dX7_now_75 : decode cX7_now 75 = .ok (.goto 29, 3) := by decide +kernel
theorem dX7_now_78 : decode cX7_now 78 = .ok (.iconst 0, 1) := by decide +kernel
theorem dX7_now_79 : decode cX7_now 79 = .ok (.goto 25, 3) := by decide +kernel
theorem dX7_now_82 : decode cX7_now 82 = .ok (.aload_n 0, 1) := by decide +kernel
theorem dX7_now_83 : decode cX7_now 83 = .ok (.getfield 22, 3) := by decide +kernel
theorem dX7_now_86 : decode cX7_now 86 = .ok (.bipush 6, 2) := by decide +kernel
theorem dX7_now_88 : decode cX7_now 88 = .ok (.iaload, 1) := by decide +kernel
theorem dX7_now_89 : decode cX7_now 89 = .ok (.ifCond .ge 8, 3) := by decide +kernel
theorem dX7_now_92 : decode cX7_now 92 = .ok (.bipush (-4), 2) := by decide +kernel
theorem dX7_now_94 : decode cX7_now 94 = .ok (.goto 10, 3) := by decide +kernel
theorem dX7_now_97 : decode cX7_now 97 = .ok (.aload_n 0, 1) := by decide +kernel
theorem dX7_now_98 : decode cX7_now 98 = .ok (.getfield 22, 3) := by decide +kernel
theorem dX7_now_101 : decode cX7_now 101 = .ok (.bipush 6, 2) := by decide +kernel
theorem dX7_now_103 : decode cX7_now 103 = .ok (.iaload, 1) := by decide +kernel
theorem dX7_now_104 : decode cX7_now 104 = .ok (.ireturn, 1) := by decide +kernel
theorem dX7_safe_0 : decode cX7_safe 0 = .ok (.iconst 0, 1) := by decide +kernel
theorem dX7_safe_1 : decode cX7_safe 1 = .ok (.istore_n 1, 1) := by decide +kernel
theorem dX7_safe_2 : decode cX7_safe 2 = .ok (.iconst 0, 1) := by decide +kernel
theorem dX7_safe_3 : decode cX7_safe 3 = .ok (.istore_n 2, 1) := by decide +kernel
theorem dX7_safe_4 : decode cX7_safe 4 = .ok (.iload_n 2, 1) := by decide +kernel
theorem dX7_safe_5 : decode cX7_safe 5 = .ok (.aload_n 0, 1) := by decide +kernel
theorem dX7_safe_6 : decode cX7_safe 6 = .ok (.getfield 85, 3) := by decide +kernel
theorem dX7_safe_9 : decode cX7_safe 9 = .ok (.if_icmp .ge 53, 3) := by decide +kernel
theorem dX7_safe_12 : decode cX7_safe 12 = .ok (.aload_n 0, 1) := by decide +kernel
theorem dX7_safe_13 : decode cX7_safe 13 = .ok (.aload_n 0, 1) := by decide +kernel
theorem dX7_safe_14 : decode cX7_safe 14 = .ok (.getfield 22, 3) := by decide +kernel
theorem dX7_safe_17 : decode cX7_safe 17 = .ok (.invokevirtual 180, 3) := by decide +kernel
theorem dX7_safe_20 : decode cX7_safe 20 = .ok (.aload_n 0, 1) := by decide +kernel
theorem dX7_safe_21 : decode cX7_safe 21 = .ok (.invokevirtual 151, 3) := by decide +kernel
theorem dX7_safe_24 : decode cX7_safe 24 = .ok (.ifCond .ne 32, 3) := by decide +kernel
theorem dX7_safe_27 : decode cX7_safe 27 = .ok (.aload_n 0, 1) := by decide +kernel
theorem dX7_safe_28 : decode cX7_safe 28 = .ok (.iload_n 2, 1) := by decide +kernel
theorem dX7_safe_29 : decode cX7_safe 29 = .ok (.invokevirtual 190, 3) := by decide +kernel
theorem dX7_safe_32 : decode cX7_safe 32 = .ok (.iload_n 1, 1) := by decide +kernel
theorem dX7_safe_33 : decode cX7_safe 33 = .ok (.aload_n 0, 1) := by decide +kernel
theorem dX7_safe_34 : decode cX7_safe 34 = .ok (.invokevirtual 151, 3) := by decide +kernel
theorem dX7_safe_37 : decode cX7_safe 37 = .ok (.ifCond .eq 10, 3) := by decide +kernel
theorem dX7_safe_40 : decode cX7_safe 40 = .ok (.aload_n 0, 1) := by decide +kernel
theorem dX7_safe_41 : decode cX7_safe 41 = .ok (.invokevirtual 196, 3) := by decide +kernel
theorem dX7_safe_44 : decode cX7_safe 44 = .ok (.ifCond .eq 9, 3) := by decide +kernel
theorem dX7_safe_47 : decode cX7_safe 47 = .ok (.iconst 1, 1) := by decide +kernel
theorem dX7_safe_48 : decode cX7_safe 48 = .ok (.iload_n 2, 1) := by decide +kernel
theorem dX7_safe_49 : decode cX7_safe 49 = .ok (.ishl, 1) := by decide +kernel
theorem dX7_safe_50 : decode cX7_safe 50 = .ok (.goto 4, 3) := by decide +kernel
theorem dX7_safe_53 : decode cX7_safe 53 = .ok (.iconst 0, 1) := by decide +kernel
theorem dX7_safe_54 : decode cX7_safe 54 = .ok (.ior, 1) := by decide +kernel
theorem dX7_safe_55 : decode cX7_safe 55 = .ok (.istore_n 1, 1) := by decide +kernel
theorem dX7_safe_56 : decode cX7_safe 56 = .ok (.iinc 2 1, 3) := by decide +kernel
theorem dX7_safe_59 : decode cX7_safe 59 = .ok (.goto (-55), 3) := by decide +kernel
theorem dX7_safe_62 : decode cX7_safe 62 = .ok (.iload_n 1, 1) := by decide +kernel
theorem dX7_safe_63 : decode cX7_safe 63 = .ok (.ireturn, 1) := by decide +kernel
theorem dX7_keepsRow_0 : decode cX7_keepsRow 0 = .ok (.aload_n 0, 1) := by decide +kernel
theorem dX7_keepsRow_1 : decode cX7_keepsRow 1 = .ok (.getfield 58, 3) := by decide +kernel
theorem dX7_keepsRow_4 : decode cX7_keepsRow 4 = .ok (.bipush 7, 2) := by decide +kernel
theorem dX7_keepsRow_6 : decode cX7_keepsRow 6 = .ok (.aload_n 0, 1) := by decide +kernel
theorem dX7_keepsRow_7 : decode cX7_keepsRow 7 = .ok (.getfield 199, 3) := by decide +kernel
theorem dX7_keepsRow_10 : decode cX7_keepsRow 10 = .ok (.imul, 1) := by decide +kernel
theorem dX7_keepsRow_11 : decode cX7_keepsRow 11 = .ok (.aload_n 0, 1) := by decide +kernel
theorem dX7_keepsRow_12 : decode cX7_keepsRow 12 = .ok (.getfield 52, 3) := by decide +kernel
theorem dX7_keepsRow_15 : decode cX7_keepsRow 15 = .ok (.iconst 0, 1) := by decide +kernel
theorem dX7_keepsRow_16 : decode cX7_keepsRow 16 = .ok (.bipush 7, 2) := by decide +kernel
theorem dX7_keepsRow_18 : decode cX7_keepsRow 18 = .ok (.invokestatic 138, 3) := by decide +kernel
theorem dX7_keepsRow_21 : decode cX7_keepsRow 21 = .ok (.return_, 1) := by decide +kernel
theorem dX7_beginsRows_0 : decode cX7_beginsRows 0 = .ok (.aload_n 0, 1) := by decide +kernel
theorem dX7_beginsRows_1 : decode cX7_beginsRows 1 = .ok (.iconst 0, 1) := by decide +kernel
theorem dX7_beginsRows_2 : decode cX7_beginsRows 2 = .ok (.putfield 199, 3) := by decide +kernel
theorem dX7_beginsRows_5 : decode cX7_beginsRows 5 = .ok (.aload_n 0, 1) := by decide +kernel
theorem dX7_beginsRows_6 : decode cX7_beginsRows 6 = .ok (.aload_n 0, 1) := by decide +kernel
theorem dX7_beginsRows_7 : decode cX7_beginsRows 7 = .ok (.getfield 22, 3) := by decide +kernel
theorem dX7_beginsRows_10 : decode cX7_beginsRows 10 = .ok (.invokevirtual 180, 3) := by decide +kernel
theorem dX7_beginsRows_13 : decode cX7_beginsRows 13 = .ok (.aload_n 0, 1) := by decide +kernel
theorem dX7_beginsRows_14 : decode cX7_beginsRows 14 = .ok (.invokevirtual 202, 3) := by decide +kernel
theorem dX7_beginsRows_17 : decode cX7_beginsRows 17 = .ok (.aload_n 0, 1) := by decide +kernel
theorem dX7_beginsRows_18 : decode cX7_beginsRows 18 = .ok (.getfield 55, 3) := by decide +kernel
theorem dX7_beginsRows_21 : decode cX7_beginsRows 21 = .ok (.iconst 0, 1) := by decide +kernel
theorem dX7_beginsRows_22 : decode cX7_beginsRows 22 = .ok (.iconst (-1), 1) := by decide +kernel
theorem dX7_beginsRows_23 : decode cX7_beginsRows 23 = .ok (.iastore, 1) := by decide +kernel
theorem dX7_beginsRows_24 : decode cX7_beginsRows 24 = .ok (.return_, 1) := by decide +kernel
theorem dX7_nextRow_0 : decode cX7_nextRow 0 = .ok (.aload_n 0, 1) := by decide +kernel
theorem dX7_nextRow_1 : decode cX7_nextRow 1 = .ok (.getfield 199, 3) := by decide +kernel
theorem dX7_nextRow_4 : decode cX7_nextRow 4 = .ok (.ifCond .lt 122, 3) := by decide +kernel
theorem dX7_nextRow_7 : decode cX7_nextRow 7 = .ok (.aload_n 0, 1) := by decide +kernel
theorem dX7_nextRow_8 : decode cX7_nextRow 8 = .ok (.getfield 52, 3) := by decide +kernel
theorem dX7_nextRow_11 : decode cX7_nextRow 11 = .ok (.iconst 0, 1) := by decide +kernel
theorem dX7_nextRow_12 : decode cX7_nextRow 12 = .ok (.aload_n 0, 1) := by decide +kernel
theorem dX7_nextRow_13 : decode cX7_nextRow 13 = .ok (.getfield 58, 3) := by decide +kernel
theorem dX7_nextRow_16 : decode cX7_nextRow 16 = .ok (.bipush 7, 2) := by decide +kernel
theorem dX7_nextRow_18 : decode cX7_nextRow 18 = .ok (.aload_n 0, 1) := by decide +kernel
theorem dX7_nextRow_19 : decode cX7_nextRow 19 = .ok (.getfield 199, 3) := by decide +kernel
theorem dX7_nextRow_22 : decode cX7_nextRow 22 = .ok (.imul, 1) := by decide +kernel
theorem dX7_nextRow_23 : decode cX7_nextRow 23 = .ok (.bipush 7, 2) := by decide +kernel
theorem dX7_nextRow_25 : decode cX7_nextRow 25 = .ok (.invokestatic 138, 3) := by decide +kernel
theorem dX7_nextRow_28 : decode cX7_nextRow 28 = .ok (.aload_n 0, 1) := by decide +kernel
theorem dX7_nextRow_29 : decode cX7_nextRow 29 = .ok (.getfield 199, 3) := by decide +kernel
theorem dX7_nextRow_32 : decode cX7_nextRow 32 = .ok (.iload_n 1, 1) := by decide +kernel
theorem dX7_nextRow_33 : decode cX7_nextRow 33 = .ok (.if_icmp .ge 80, 3) := by decide +kernel
theorem dX7_nextRow_36 : decode cX7_nextRow 36 = .ok (.aload_n 0, 1) := by decide +kernel
theorem dX7_nextRow_37 : decode cX7_nextRow 37 = .ok (.invokevirtual 151, 3) := by decide +kernel
theorem dX7_nextRow_40 : decode cX7_nextRow 40 = .ok (.ifCond .ne 73, 3) := by decide +kernel
theorem dX7_nextRow_43 : decode cX7_nextRow 43 = .ok (.aload_n 0, 1) := by decide +kernel
theorem dX7_nextRow_44 : decode cX7_nextRow 44 = .ok (.getfield 55, 3) := by decide +kernel
theorem dX7_nextRow_47 : decode cX7_nextRow 47 = .ok (.aload_n 0, 1) := by decide +kernel
theorem dX7_nextRow_48 : decode cX7_nextRow 48 = .ok (.getfield 199, 3) := by decide +kernel
theorem dX7_nextRow_51 : decode cX7_nextRow 51 = .ok (.iaload, 1) := by decide +kernel
theorem dX7_nextRow_52 : decode cX7_nextRow 52 = .ok (.aload_n 0, 1) := by decide +kernel
theorem dX7_nextRow_53 : decode cX7_nextRow 53 = .ok (.getfield 85, 3) := by decide +kernel
theorem dX7_nextRow_56 : decode cX7_nextRow 56 = .ok (.iconst 1, 1) := by decide +kernel
theorem dX7_nextRow_57 : decode cX7_nextRow 57 = .ok (.isub, 1) := by decide +kernel
theorem dX7_nextRow_58 : decode cX7_nextRow 58 = .ok (.if_icmp .ge 55, 3) := by decide +kernel
theorem dX7_nextRow_61 : decode cX7_nextRow 61 = .ok (.aload_n 0, 1) := by decide +kernel
theorem dX7_nextRow_62 : decode cX7_nextRow 62 = .ok (.getfield 55, 3) := by decide +kernel
theorem dX7_nextRow_65 : decode cX7_nextRow 65 = .ok (.aload_n 0, 1) := by decide +kernel
theorem dX7_nextRow_66 : decode cX7_nextRow 66 = .ok (.getfield 199, 3) := by decide +kernel
theorem dX7_nextRow_69 : decode cX7_nextRow 69 = .ok (.dup2, 1) := by decide +kernel
theorem dX7_nextRow_70 : decode cX7_nextRow 70 = .ok (.iaload, 1) := by decide +kernel
theorem dX7_nextRow_71 : decode cX7_nextRow 71 = .ok (.iconst 1, 1) := by decide +kernel
theorem dX7_nextRow_72 : decode cX7_nextRow 72 = .ok (.iadd, 1) := by decide +kernel
theorem dX7_nextRow_73 : decode cX7_nextRow 73 = .ok (.iastore, 1) := by decide +kernel
theorem dX7_nextRow_74 : decode cX7_nextRow 74 = .ok (.aload_n 0, 1) := by decide +kernel
theorem dX7_nextRow_75 : decode cX7_nextRow 75 = .ok (.aload_n 0, 1) := by decide +kernel
theorem dX7_nextRow_76 : decode cX7_nextRow 76 = .ok (.getfield 55, 3) := by decide +kernel
theorem dX7_nextRow_79 : decode cX7_nextRow 79 = .ok (.aload_n 0, 1) := by decide +kernel
theorem dX7_nextRow_80 : decode cX7_nextRow 80 = .ok (.getfield 199, 3) := by decide +kernel
theorem dX7_nextRow_83 : decode cX7_nextRow 83 = .ok (.iaload, 1) := by decide +kernel
theorem dX7_nextRow_84 : decode cX7_nextRow 84 = .ok (.invokevirtual 190, 3) := by decide +kernel
theorem dX7_nextRow_87 : decode cX7_nextRow 87 = .ok (.aload_n 0, 1) := by decide +kernel
theorem dX7_nextRow_88 : decode cX7_nextRow 88 = .ok (.dup, 1) := by decide +kernel
theorem dX7_nextRow_89 : decode cX7_nextRow 89 = .ok (.getfield 199, 3) := by decide +kernel
theorem dX7_nextRow_92 : decode cX7_nextRow 92 = .ok (.iconst 1, 1) := by decide +kernel
theorem dX7_nextRow_93 : decode cX7_nextRow 93 = .ok (.iadd, 1) := by decide +kernel
theorem dX7_nextRow_94 : decode cX7_nextRow 94 = .ok (.putfield 199, 3) := by decide +kernel
theorem dX7_nextRow_97 : decode cX7_nextRow 97 = .ok (.aload_n 0, 1) := by decide +kernel
theorem dX7_nextRow_98 : decode cX7_nextRow 98 = .ok (.invokevirtual 202, 3) := by decide +kernel
theorem dX7_nextRow_101 : decode cX7_nextRow 101 = .ok (.aload_n 0, 1) := by decide +kernel
theorem dX7_nextRow_102 : decode cX7_nextRow 102 = .ok (.getfield 55, 3) := by decide +kernel
theorem dX7_nextRow_105 : decode cX7_nextRow 105 = .ok (.aload_n 0, 1) := by decide +kernel
theorem dX7_nextRow_106 : decode cX7_nextRow 106 = .ok (.getfield 199, 3) := by decide +kernel
theorem dX7_nextRow_109 : decode cX7_nextRow 109 = .ok (.iconst (-1), 1) := by decide +kernel
theorem dX7_nextRow_110 : decode cX7_nextRow 110 = .ok (.iastore, 1) := by decide +kernel
theorem dX7_nextRow_111 : decode cX7_nextRow 111 = .ok (.iconst 1, 1) := by decide +kernel
theorem dX7_nextRow_112 : decode cX7_nextRow 112 = .ok (.ireturn, 1) := by decide +kernel
theorem dX7_nextRow_113 : decode cX7_nextRow 113 = .ok (.aload_n 0, 1) := by decide +kernel
theorem dX7_nextRow_114 : decode cX7_nextRow 114 = .ok (.dup, 1) := by decide +kernel
theorem dX7_nextRow_115 : decode cX7_nextRow 115 = .ok (.getfield 199, 3) := by decide +kernel
theorem dX7_nextRow_118 : decode cX7_nextRow 118 = .ok (.iconst 1, 1) := by decide +kernel
theorem dX7_nextRow_119 : decode cX7_nextRow 119 = .ok (.isub, 1) := by decide +kernel
theorem dX7_nextRow_120 : decode cX7_nextRow 120 = .ok (.putfield 199, 3) := by decide +kernel
theorem dX7_nextRow_123 : decode cX7_nextRow 123 = .ok (.goto (-123), 3) := by decide +kernel
theorem dX7_nextRow_126 : decode cX7_nextRow 126 = .ok (.iconst 0, 1) := by decide +kernel
theorem dX7_nextRow_127 : decode cX7_nextRow 127 = .ok (.ireturn, 1) := by decide +kernel
theorem dX7_wayTo_0 : decode cX7_wayTo 0 = .ok (.aload_n 0, 1) := by decide +kernel
theorem dX7_wayTo_1 : decode cX7_wayTo 1 = .ok (.aload_n 0, 1) := by decide +kernel
theorem dX7_wayTo_2 : decode cX7_wayTo 2 = .ok (.getfield 22, 3) := by decide +kernel
theorem dX7_wayTo_5 : decode cX7_wayTo 5 = .ok (.invokevirtual 180, 3) := by decide +kernel
theorem dX7_wayTo_8 : decode cX7_wayTo 8 = .ok (.aload_n 0, 1) := by decide +kernel
theorem dX7_wayTo_9 : decode cX7_wayTo 9 = .ok (.invokevirtual 151, 3) := by decide +kernel
theorem dX7_wayTo_12 : decode cX7_wayTo 12 = .ok (.ifCond .eq 18, 3) := by decide +kernel
theorem dX7_wayTo_15 : decode cX7_wayTo 15 = .ok (.aload_n 0, 1) := by decide +kernel
theorem dX7_wayTo_16 : decode cX7_wayTo 16 = .ok (.iload_n 1, 1) := by decide +kernel
theorem dX7_wayTo_17 : decode cX7_wayTo 17 = .ok (.invokevirtual 154, 3) := by decide +kernel
theorem dX7_wayTo_20 : decode cX7_wayTo 20 = .ok (.ifCond .eq 7, 3) := by decide +kernel
theorem dX7_wayTo_23 : decode cX7_wayTo 23 = .ok (.iconst 0, 1) := by decide +kernel
theorem dX7_wayTo_24 : decode cX7_wayTo 24 = .ok (.goto 5, 3) := by decide +kernel
theorem dX7_wayTo_27 : decode cX7_wayTo 27 = .ok (.bipush (-4), 2) := by decide +kernel
theorem dX7_wayTo_29 : decode cX7_wayTo 29 = .ok (.ireturn, 1) := by decide +kernel
theorem dX7_wayTo_30 : decode cX7_wayTo 30 = .ok (.iconst 1, 1) := by decide +kernel
theorem dX7_wayTo_31 : decode cX7_wayTo 31 = .ok (.istore_n 3, 1) := by decide +kernel
theorem dX7_wayTo_32 : decode cX7_wayTo 32 = .ok (.iload_n 3, 1) := by decide +kernel
theorem dX7_wayTo_33 : decode cX7_wayTo 33 = .ok (.iload_n 2, 1) := by decide +kernel
theorem dX7_wayTo_34 : decode cX7_wayTo 34 = .ok (.if_icmp .gt 46, 3) := by decide +kernel
theorem dX7_wayTo_37 : decode cX7_wayTo 37 = .ok (.aload_n 0, 1) := by decide +kernel
theorem dX7_wayTo_38 : decode cX7_wayTo 38 = .ok (.invokevirtual 205, 3) := by decide +kernel
theorem dX7_wayTo_41 : decode cX7_wayTo 41 = .ok (.aload_n 0, 1) := by decide +kernel
theorem dX7_wayTo_42 : decode cX7_wayTo 42 = .ok (.iload_n 3, 1) := by decide +kernel
theorem dX7_wayTo_43 : decode cX7_wayTo 43 = .ok (.invokevirtual 208, 3) := by decide +kernel
theorem dX7_wayTo_46 : decode cX7_wayTo 46 = .ok (.ifCond .eq 28, 3) := by decide +kernel
theorem dX7_wayTo_49 : decode cX7_wayTo 49 = .ok (.aload_n 0, 1) := by decide +kernel
theorem dX7_wayTo_50 : decode cX7_wayTo 50 = .ok (.getfield 199, 3) := by decide +kernel
theorem dX7_wayTo_53 : decode cX7_wayTo 53 = .ok (.iload_n 3, 1) := by decide +kernel
theorem dX7_wayTo_54 : decode cX7_wayTo 54 = .ok (.if_icmp .ne (-13), 3) := by decide +kernel
theorem dX7_wayTo_57 : decode cX7_wayTo 57 = .ok (.aload_n 0, 1) := by decide +kernel
theorem dX7_wayTo_58 : decode cX7_wayTo 58 = .ok (.invokevirtual 151, 3) := by decide +kernel
theorem dX7_wayTo_61 : decode cX7_wayTo 61 = .ok (.ifCond .eq (-20), 3) := by decide +kernel
theorem dX7_wayTo_64 : decode cX7_wayTo 64 = .ok (.aload_n 0, 1) := by decide +kernel
theorem dX7_wayTo_65 : decode cX7_wayTo 65 = .ok (.iload_n 1, 1) := by decide +kernel
theorem dX7_wayTo_66 : decode cX7_wayTo 66 = .ok (.invokevirtual 154, 3) := by decide +kernel
theorem dX7_wayTo_69 : decode cX7_wayTo 69 = .ok (.ifCond .eq (-28), 3) := by decide +kernel
theorem dX7_wayTo_72 : decode cX7_wayTo 72 = .ok (.iload_n 3, 1) := by decide +kernel
theorem dX7_wayTo_73 : decode cX7_wayTo 73 = .ok (.ireturn, 1) := by decide +kernel
theorem dX7_wayTo_74 : decode cX7_wayTo 74 = .ok (.iinc 3 1, 3) := by decide +kernel
theorem dX7_wayTo_77 : decode cX7_wayTo 77 = .ok (.goto (-45), 3) := by decide +kernel
theorem dX7_wayTo_80 : decode cX7_wayTo 80 = .ok (.bipush (-4), 2) := by decide +kernel
theorem dX7_wayTo_82 : decode cX7_wayTo 82 = .ok (.ireturn, 1) := by decide +kernel
theorem dX7_way_0 : decode cX7_way 0 = .ok (.aload_n 0, 1) := by decide +kernel
theorem dX7_way_1 : decode cX7_way 1 = .ok (.iload_n 1, 1) := by decide +kernel
theorem dX7_way_2 : decode cX7_way 2 = .ok (.invokevirtual 184, 3) := by decide +kernel
theorem dX7_way_5 : decode cX7_way 5 = .ok (.ifCond .eq 12, 3) := by decide +kernel
theorem dX7_way_8 : decode cX7_way 8 = .ok (.iload_n 2, 1) := by decide +kernel
theorem dX7_way_9 : decode cX7_way 9 = .ok (.iconst (-1), 1) := by decide +kernel
theorem dX7_way_10 : decode cX7_way 10 = .ok (.iconst 5, 1) := by decide +kernel
theorem dX7_way_11 : decode cX7_way 11 = .ok (.invokestatic 88, 3) := by decide +kernel
theorem dX7_way_14 : decode cX7_way 14 = .ok (.ifCond .ne 5, 3) := by decide +kernel
theorem dX7_way_17 : decode cX7_way 17 = .ok (.iconst (-1), 1) := by decide +kernel
theorem dX7_way_18 : decode cX7_way 18 = .ok (.ireturn, 1) := by decide +kernel
theorem dX7_way_19 : decode cX7_way 19 = .ok (.aload_n 0, 1) := by decide +kernel
theorem dX7_way_20 : decode cX7_way 20 = .ok (.iload_n 1, 1) := by decide +kernel
theorem dX7_way_21 : decode cX7_way 21 = .ok (.bipush 6, 2) := by decide +kernel
theorem dX7_way_23 : decode cX7_way 23 = .ok (.invokevirtual 211, 3) := by decide +kernel
theorem dX7_way_26 : decode cX7_way 26 = .ok (.istore_n 3, 1) := by decide +kernel
theorem dX7_way_27 : decode cX7_way 27 = .ok (.iload_n 2, 1) := by decide +kernel
theorem dX7_way_28 : decode cX7_way 28 = .ok (.ifCond .ge 7, 3) := by decide +kernel
theorem dX7_way_31 : decode cX7_way 31 = .ok (.iload_n 3, 1) := by decide +kernel
theorem dX7_way_32 : decode cX7_way 32 = .ok (.goto 19, 3) := by decide +kernel
theorem dX7_way_35 : decode cX7_way 35 = .ok (.iload_n 2, 1) := by decide +kernel
theorem dX7_way_36 : decode cX7_way 36 = .ok (.iload_n 3, 1) := by decide +kernel
theorem dX7_way_37 : decode cX7_way 37 = .ok (.if_icmp .ge 12, 3) := by decide +kernel
theorem dX7_way_40 : decode cX7_way 40 = .ok (.aload_n 0, 1) := by decide +kernel
theorem dX7_way_41 : decode cX7_way 41 = .ok (.getfield 55, 3) := by decide +kernel
theorem dX7_way_44 : decode cX7_way 44 = .ok (.iload_n 2, 1) := by decide +kernel
theorem dX7_way_45 : decode cX7_way 45 = .ok (.iaload, 1) := by decide +kernel
theorem dX7_way_46 : decode cX7_way 46 = .ok (.goto 5, 3) := by decide +kernel
theorem dX7_way_49 : decode cX7_way 49 = .ok (.bipush (-4), 2) := by decide +kernel
theorem dX7_way_51 : decode cX7_way 51 = .ok (.ireturn, 1) := by decide +kernel
theorem dX7_near_0 : decode cX7_near 0 = .ok (.iload_n 1, 1) := by decide +kernel
theorem dX7_near_1 : decode cX7_near 1 = .ok (.iconst 0, 1) := by decide +kernel
theorem dX7_near_2 : decode cX7_near 2 = .ok (.iconst 5, 1) := by decide +kernel
theorem dX7_near_3 : decode cX7_near 3 = .ok (.invokestatic 88, 3) := by decide +kernel
theorem dX7_near_6 : decode cX7_near 6 = .ok (.ifCond .ne 5, 3) := by decide +kernel
theorem dX7_near_9 : decode cX7_near 9 = .ok (.iconst (-1), 1) := by decide +kernel
theorem dX7_near_10 : decode cX7_near 10 = .ok (.ireturn, 1) := by decide +kernel
theorem dX7_near_11 : decode cX7_near 11 = .ok (.iconst 0, 1) := by decide +kernel
theorem dX7_near_12 : decode cX7_near 12 = .ok (.istore_n 2, 1) := by decide +kernel
theorem dX7_near_13 : decode cX7_near 13 = .ok (.iconst 0, 1) := by decide +kernel
theorem dX7_near_14 : decode cX7_near 14 = .ok (.istore_n 3, 1) := by decide +kernel
theorem dX7_near_15 : decode cX7_near 15 = .ok (.iload_n 3, 1) := by decide +kernel
theorem dX7_near_16 : decode cX7_near 16 = .ok (.aload_n 0, 1) := by decide +kernel
theorem dX7_near_17 : decode cX7_near 17 = .ok (.getfield 92, 3) := by decide +kernel
theorem dX7_near_20 : decode cX7_near 20 = .ok (.if_icmp .ge 28, 3) := by decide +kernel
theorem dX7_near_23 : decode cX7_near 23 = .ok (.iload_n 2, 1) := by decide +kernel
theorem dX7_near_24 : decode cX7_near 24 = .ok (.aload_n 0, 1) := by decide +kernel
theorem dX7_near_25 : decode cX7_near 25 = .ok (.iload_n 3, 1) := by decide +kernel
theorem dX7_near_26 : decode cX7_near 26 = .ok (.iload_n 1, 1) := by decide +kernel
theorem dX7_near_27 : decode cX7_near 27 = .ok (.invokevirtual 211, 3) := by decide +kernel
theorem dX7_near_30 : decode cX7_near 30 = .ok (.ifCond .lt 9, 3) := by decide +kernel
theorem dX7_near_33 : decode cX7_near 33 = .ok (.iconst 1, 1) := by decide +kernel
theorem dX7_near_34 : decode cX7_near 34 = .ok (.iload_n 3, 1) := by decide +kernel
theorem dX7_near_35 : decode cX7_near 35 = .ok (.ishl, 1) := by decide +kernel
theorem dX7_near_36 : decode cX7_near 36 = .ok (.goto 4, 3) := by decide +kernel
theorem dX7_near_39 : decode cX7_near 39 = .ok (.iconst 0, 1) := by decide +kernel
theorem dX7_near_40 : decode cX7_near 40 = .ok (.ior, 1) := by decide +kernel
theorem dX7_near_41 : decode cX7_near 41 = .ok (.istore_n 2, 1) := by decide +kernel
theorem dX7_near_42 : decode cX7_near 42 = .ok (.iinc 3 1, 3) := by decide +kernel
theorem dX7_near_45 : decode cX7_near 45 = .ok (.goto (-30), 3) := by decide +kernel
theorem dX7_near_48 : decode cX7_near 48 = .ok (.iload_n 2, 1) := by decide +kernel
theorem dX7_near_49 : decode cX7_near 49 = .ok (.ireturn, 1) := by decide +kernel
theorem dX7_undoes_0 : decode cX7_undoes 0 = .ok (.aload_n 0, 1) := by decide +kernel
theorem dX7_undoes_1 : decode cX7_undoes 1 = .ok (.iload_n 1, 1) := by decide +kernel
theorem dX7_undoes_2 : decode cX7_undoes 2 = .ok (.invokevirtual 177, 3) := by decide +kernel
theorem dX7_undoes_5 : decode cX7_undoes 5 = .ok (.ifCond .ne 5, 3) := by decide +kernel
theorem dX7_undoes_8 : decode cX7_undoes 8 = .ok (.iconst (-1), 1) := by decide +kernel
theorem dX7_undoes_9 : decode cX7_undoes 9 = .ok (.ireturn, 1) := by decide +kernel
theorem dX7_undoes_10 : decode cX7_undoes 10 = .ok (.iconst 0, 1) := by decide +kernel
theorem dX7_undoes_11 : decode cX7_undoes 11 = .ok (.istore_n 2, 1) := by decide +kernel
theorem dX7_undoes_12 : decode cX7_undoes 12 = .ok (.iconst 0, 1) := by decide +kernel
theorem dX7_undoes_13 : decode cX7_undoes 13 = .ok (.istore_n 3, 1) := by decide +kernel
theorem dX7_undoes_14 : decode cX7_undoes 14 = .ok (.iload_n 3, 1) := by decide +kernel
theorem dX7_undoes_15 : decode cX7_undoes 15 = .ok (.aload_n 0, 1) := by decide +kernel
theorem dX7_undoes_16 : decode cX7_undoes 16 = .ok (.getfield 85, 3) := by decide +kernel
theorem dX7_undoes_19 : decode cX7_undoes 19 = .ok (.if_icmp .ge 105, 3) := by decide +kernel
theorem dX7_undoes_22 : decode cX7_undoes 22 = .ok (.aload_n 0, 1) := by decide +kernel
theorem dX7_undoes_23 : decode cX7_undoes 23 = .ok (.aload_n 0, 1) := by decide +kernel
theorem dX7_undoes_24 : decode cX7_undoes 24 = .ok (.getfield 22, 3) := by decide +kernel
theorem dX7_undoes_27 : decode cX7_undoes 27 = .ok (.invokevirtual 180, 3) := by decide +kernel
theorem dX7_undoes_30 : decode cX7_undoes 30 = .ok (.aload_n 0, 1) := by decide +kernel
theorem dX7_undoes_31 : decode cX7_undoes 31 = .ok (.invokevirtual 151, 3) := by decide +kernel
theorem dX7_undoes_34 : decode cX7_undoes 34 = .ok (.ifCond .ne 7, 3) := by decide +kernel
theorem dX7_undoes_37 : decode cX7_undoes 37 = .ok (.iconst 1, 1) := by decide +kernel
theorem dX7_undoes_38 : decode cX7_undoes 38 = .ok (.goto 4, 3) := by decide +kernel
theorem dX7_undoes_41 : decode cX7_undoes 41 = .ok (.iconst 0, 1) := by decide +kernel
theorem dX7_undoes_42 : decode cX7_undoes 42 = .ok (.istore 4, 2) := by decide +kernel
theorem dX7_undoes_44 : decode cX7_undoes 44 = .ok (.iload 4, 2) := by decide +kernel
theorem dX7_undoes_46 : decode cX7_undoes 46 = .ok (.ifCond .eq 22, 3) := by decide +kernel
theorem dX7_undoes_49 : decode cX7_undoes 49 = .ok (.aload_n 0, 1) := by decide +kernel
theorem dX7_undoes_50 : decode cX7_undoes 50 = .ok (.iload_n 1, 1) := by decide +kernel
theorem dX7_undoes_51 : decode cX7_undoes 51 = .ok (.invokevirtual 190, 3) := by decide +kernel
theorem dX7_undoes_54 : decode cX7_undoes 54 = .ok (.aload_n 0, 1) := by decide +kernel
theorem dX7_undoes_55 : decode cX7_undoes 55 = .ok (.invokevirtual 151, 3) := by decide +kernel
theorem dX7_undoes_58 : decode cX7_undoes 58 = .ok (.ifCond .ne 7, 3) := by decide +kernel
theorem dX7_undoes_61 : decode cX7_undoes 61 = .ok (.iconst 1, 1) := by decide +kernel
theorem dX7_undoes_62 : decode cX7_undoes 62 = .ok (.goto 4, 3) := by decide +kernel
theorem dX7_undoes_65 : decode cX7_undoes 65 = .ok (.iconst 0, 1) := by decide +kernel
theorem dX7_undoes_66 : decode cX7_undoes 66 = .ok (.istore 4, 2) := by decide +kernel
theorem dX7_undoes_68 : decode cX7_undoes 68 = .ok (.iload 4, 2) := by decide +kernel
theorem dX7_undoes_70 : decode cX7_undoes 70 = .ok (.ifCond .eq 48, 3) := by decide +kernel
theorem dX7_undoes_73 : decode cX7_undoes 73 = .ok (.aload_n 0, 1) := by decide +kernel
theorem dX7_undoes_74 : decode cX7_undoes 74 = .ok (.iload_n 3, 1) := by decide +kernel
theorem dX7_undoes_75 : decode cX7_undoes 75 = .ok (.invokevirtual 190, 3) := by decide +kernel
theorem dX7_undoes_78 : decode cX7_undoes 78 = .ok (.iload_n 2, 1) := by decide +kernel
theorem dX7_undoes_79 : decode cX7_undoes 79 = .ok (.aload_n 0, 1) := by decide +kernel
theorem dX7_undoes_80 : decode cX7_undoes 80 = .ok (.getfield 52, 3) := by decide +kernel
theorem dX7_undoes_83 : decode cX7_undoes 83 = .ok (.iconst 2, 1) := by decide +kernel
theorem dX7_undoes_84 : decode cX7_undoes 84 = .ok (.iaload, 1) := by decide +kernel
theorem dX7_undoes_85 : decode cX7_undoes 85 = .ok (.aload_n 0, 1) := by decide +kernel
theorem dX7_undoes_86 : decode cX7_undoes 86 = .ok (.getfield 22, 3) := by decide +kernel
theorem dX7_undoes_89 : decode cX7_undoes 89 = .ok (.iconst 2, 1) := by decide +kernel
theorem dX7_undoes_90 : decode cX7_undoes 90 = .ok (.iaload, 1) := by decide +kernel
theorem dX7_undoes_91 : decode cX7_undoes 91 = .ok (.if_icmp .ne 24, 3) := by decide +kernel
theorem dX7_undoes_94 : decode cX7_undoes 94 = .ok (.aload_n 0, 1) := by decide +kernel
theorem dX7_undoes_95 : decode cX7_undoes 95 = .ok (.getfield 52, 3) := by decide +kernel
theorem dX7_undoes_98 : decode cX7_undoes 98 = .ok (.iconst 3, 1) := by decide +kernel
theorem dX7_undoes_99 : decode cX7_undoes 99 = .ok (.iaload, 1) := by decide +kernel
theorem dX7_undoes_100 : decode cX7_undoes 100 = .ok (.aload_n 0, 1) := by decide +kernel
theorem dX7_undoes_101 : decode cX7_undoes 101 = .ok (.getfield 22, 3) := by decide +kernel
theorem dX7_undoes_104 : decode cX7_undoes 104 = .ok (.iconst 3, 1) := by decide +kernel
theorem dX7_undoes_105 : decode cX7_undoes 105 = .ok (.iaload, 1) := by decide +kernel
theorem dX7_undoes_106 : decode cX7_undoes 106 = .ok (.if_icmp .ne 9, 3) := by decide +kernel
theorem dX7_undoes_109 : decode cX7_undoes 109 = .ok (.iconst 1, 1) := by decide +kernel
theorem dX7_undoes_110 : decode cX7_undoes 110 = .ok (.iload_n 3, 1) := by decide +kernel
theorem dX7_undoes_111 : decode cX7_undoes 111 = .ok (.ishl, 1) := by decide +kernel
theorem dX7_undoes_112 : decode cX7_undoes 112 = .ok (.goto 4, 3) := by decide +kernel
theorem dX7_undoes_115 : decode cX7_undoes 115 = .ok (.iconst 0, 1) := by decide +kernel
theorem dX7_undoes_116 : decode cX7_undoes 116 = .ok (.ior, 1) := by decide +kernel
theorem dX7_undoes_117 : decode cX7_undoes 117 = .ok (.istore_n 2, 1) := by decide +kernel
theorem dX7_undoes_118 : decode cX7_undoes 118 = .ok (.iinc 3 1, 3) := by decide +kernel
theorem dX7_undoes_121 : decode cX7_undoes 121 = .ok (.goto (-107), 3) := by decide +kernel
theorem dX7_undoes_124 : decode cX7_undoes 124 = .ok (.iload_n 2, 1) := by decide +kernel
theorem dX7_undoes_125 : decode cX7_undoes 125 = .ok (.ireturn, 1) := by decide +kernel
theorem dX7_turnsBoth_0 : decode cX7_turnsBoth 0 = .ok (.aload_n 0, 1) := by decide +kernel
theorem dX7_turnsBoth_1 : decode cX7_turnsBoth 1 = .ok (.aload_n 0, 1) := by decide +kernel
