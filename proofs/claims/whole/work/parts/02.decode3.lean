theorem dX7_turnsBoth_2 : decode cX7_turnsBoth 2 = .ok (.getfield 22, 3) := by decide +kernel
theorem dX7_turnsBoth_5 : decode cX7_turnsBoth 5 = .ok (.invokevirtual 180, 3) := by decide +kernel
theorem dX7_turnsBoth_8 : decode cX7_turnsBoth 8 = .ok (.aload_n 0, 1) := by decide +kernel
theorem dX7_turnsBoth_9 : decode cX7_turnsBoth 9 = .ok (.invokevirtual 151, 3) := by decide +kernel
theorem dX7_turnsBoth_12 : decode cX7_turnsBoth 12 = .ok (.ifCond .eq 5, 3) := by decide +kernel
theorem dX7_turnsBoth_15 : decode cX7_turnsBoth 15 = .ok (.iconst 0, 1) := by decide +kernel
theorem dX7_turnsBoth_16 : decode cX7_turnsBoth 16 = .ok (.ireturn, 1) := by decide +kernel
theorem dX7_turnsBoth_17 : decode cX7_turnsBoth 17 = .ok (.aload_n 0, 1) := by decide +kernel
theorem dX7_turnsBoth_18 : decode cX7_turnsBoth 18 = .ok (.iload_n 1, 1) := by decide +kernel
theorem dX7_turnsBoth_19 : decode cX7_turnsBoth 19 = .ok (.invokevirtual 190, 3) := by decide +kernel
theorem dX7_turnsBoth_22 : decode cX7_turnsBoth 22 = .ok (.aload_n 0, 1) := by decide +kernel
theorem dX7_turnsBoth_23 : decode cX7_turnsBoth 23 = .ok (.invokevirtual 151, 3) := by decide +kernel
theorem dX7_turnsBoth_26 : decode cX7_turnsBoth 26 = .ok (.ifCond .eq 5, 3) := by decide +kernel
theorem dX7_turnsBoth_29 : decode cX7_turnsBoth 29 = .ok (.iconst 0, 1) := by decide +kernel
theorem dX7_turnsBoth_30 : decode cX7_turnsBoth 30 = .ok (.ireturn, 1) := by decide +kernel
theorem dX7_turnsBoth_31 : decode cX7_turnsBoth 31 = .ok (.aload_n 0, 1) := by decide +kernel
theorem dX7_turnsBoth_32 : decode cX7_turnsBoth 32 = .ok (.iload_n 2, 1) := by decide +kernel
theorem dX7_turnsBoth_33 : decode cX7_turnsBoth 33 = .ok (.invokevirtual 190, 3) := by decide +kernel
theorem dX7_turnsBoth_36 : decode cX7_turnsBoth 36 = .ok (.iconst 1, 1) := by decide +kernel
theorem dX7_turnsBoth_37 : decode cX7_turnsBoth 37 = .ok (.ireturn, 1) := by decide +kernel
theorem dX7_either_0 : decode cX7_either 0 = .ok (.aload_n 0, 1) := by decide +kernel
theorem dX7_either_1 : decode cX7_either 1 = .ok (.iload_n 1, 1) := by decide +kernel
theorem dX7_either_2 : decode cX7_either 2 = .ok (.invokevirtual 177, 3) := by decide +kernel
theorem dX7_either_5 : decode cX7_either 5 = .ok (.ifCond .eq 11, 3) := by decide +kernel
theorem dX7_either_8 : decode cX7_either 8 = .ok (.aload_n 0, 1) := by decide +kernel
theorem dX7_either_9 : decode cX7_either 9 = .ok (.iload_n 2, 1) := by decide +kernel
theorem dX7_either_10 : decode cX7_either 10 = .ok (.invokevirtual 177, 3) := by decide +kernel
theorem dX7_either_13 : decode cX7_either 13 = .ok (.ifCond .ne 5, 3) := by decide +kernel
theorem dX7_either_16 : decode cX7_either 16 = .ok (.iconst (-1), 1) := by decide +kernel
theorem dX7_either_17 : decode cX7_either 17 = .ok (.ireturn, 1) := by decide +kernel
theorem dX7_either_18 : decode cX7_either 18 = .ok (.aload_n 0, 1) := by decide +kernel
theorem dX7_either_19 : decode cX7_either 19 = .ok (.iload_n 1, 1) := by decide +kernel
theorem dX7_either_20 : decode cX7_either 20 = .ok (.iload_n 2, 1) := by decide +kernel
theorem dX7_either_21 : decode cX7_either 21 = .ok (.invokevirtual 215, 3) := by decide +kernel
theorem dX7_either_24 : decode cX7_either 24 = .ok (.ifCond .ne 5, 3) := by decide +kernel
theorem dX7_either_27 : decode cX7_either 27 = .ok (.iconst 0, 1) := by decide +kernel
theorem dX7_either_28 : decode cX7_either 28 = .ok (.ireturn, 1) := by decide +kernel
theorem dX7_either_29 : decode cX7_either 29 = .ok (.aload_n 0, 1) := by decide +kernel
theorem dX7_either_30 : decode cX7_either 30 = .ok (.getfield 61, 3) := by decide +kernel
theorem dX7_either_33 : decode cX7_either 33 = .ok (.iconst 0, 1) := by decide +kernel
theorem dX7_either_34 : decode cX7_either 34 = .ok (.aload_n 0, 1) := by decide +kernel
theorem dX7_either_35 : decode cX7_either 35 = .ok (.getfield 52, 3) := by decide +kernel
theorem dX7_either_38 : decode cX7_either 38 = .ok (.iconst 0, 1) := by decide +kernel
theorem dX7_either_39 : decode cX7_either 39 = .ok (.bipush 7, 2) := by decide +kernel
theorem dX7_either_41 : decode cX7_either 41 = .ok (.invokestatic 138, 3) := by decide +kernel
theorem dX7_either_44 : decode cX7_either 44 = .ok (.aload_n 0, 1) := by decide +kernel
theorem dX7_either_45 : decode cX7_either 45 = .ok (.iload_n 2, 1) := by decide +kernel
theorem dX7_either_46 : decode cX7_either 46 = .ok (.iload_n 1, 1) := by decide +kernel
theorem dX7_either_47 : decode cX7_either 47 = .ok (.invokevirtual 215, 3) := by decide +kernel
theorem dX7_either_50 : decode cX7_either 50 = .ok (.ifCond .ne 5, 3) := by decide +kernel
theorem dX7_either_53 : decode cX7_either 53 = .ok (.iconst 0, 1) := by decide +kernel
theorem dX7_either_54 : decode cX7_either 54 = .ok (.ireturn, 1) := by decide +kernel
theorem dX7_either_55 : decode cX7_either 55 = .ok (.iconst 1, 1) := by decide +kernel
theorem dX7_either_56 : decode cX7_either 56 = .ok (.istore_n 3, 1) := by decide +kernel
theorem dX7_either_57 : decode cX7_either 57 = .ok (.iconst 0, 1) := by decide +kernel
theorem dX7_either_58 : decode cX7_either 58 = .ok (.istore 4, 2) := by decide +kernel
theorem dX7_either_60 : decode cX7_either 60 = .ok (.iload 4, 2) := by decide +kernel
theorem dX7_either_62 : decode cX7_either 62 = .ok (.iconst 3, 1) := by decide +kernel
theorem dX7_either_63 : decode cX7_either 63 = .ok (.if_icmp .gt 36, 3) := by decide +kernel
theorem dX7_either_66 : decode cX7_either 66 = .ok (.iload_n 3, 1) := by decide +kernel
theorem dX7_either_67 : decode cX7_either 67 = .ok (.ifCond .eq 24, 3) := by decide +kernel
theorem dX7_either_70 : decode cX7_either 70 = .ok (.aload_n 0, 1) := by decide +kernel
theorem dX7_either_71 : decode cX7_either 71 = .ok (.getfield 52, 3) := by decide +kernel
theorem dX7_either_74 : decode cX7_either 74 = .ok (.iload 4, 2) := by decide +kernel
theorem dX7_either_76 : decode cX7_either 76 = .ok (.iaload, 1) := by decide +kernel
theorem dX7_either_77 : decode cX7_either 77 = .ok (.aload_n 0, 1) := by decide +kernel
theorem dX7_either_78 : decode cX7_either 78 = .ok (.getfield 61, 3) := by decide +kernel
theorem dX7_either_81 : decode cX7_either 81 = .ok (.iload 4, 2) := by decide +kernel
theorem dX7_either_83 : decode cX7_either 83 = .ok (.iaload, 1) := by decide +kernel
theorem dX7_either_84 : decode cX7_either 84 = .ok (.if_icmp .ne 7, 3) := by decide +kernel
theorem dX7_either_87 : decode cX7_either 87 = .ok (.iconst 1, 1) := by decide +kernel
theorem dX7_either_88 : decode cX7_either 88 = .ok (.goto 4, 3) := by decide +kernel
theorem dX7_either_91 : decode cX7_either 91 = .ok (.iconst 0, 1) := by decide +kernel
theorem dX7_either_92 : decode cX7_either 92 = .ok (.istore_n 3, 1) := by decide +kernel
theorem dX7_either_93 : decode cX7_either 93 = .ok (.iinc 4 1, 3) := by decide +kernel
theorem dX7_either_96 : decode cX7_either 96 = .ok (.goto (-36), 3) := by decide +kernel
theorem dX7_either_99 : decode cX7_either 99 = .ok (.iload_n 3, 1) := by decide +kernel
theorem dX7_either_100 : decode cX7_either 100 = .ok (.ifCond .eq 7, 3) := by decide +kernel
theorem dX7_either_103 : decode cX7_either 103 = .ok (.iconst 1, 1) := by decide +kernel
theorem dX7_either_104 : decode cX7_either 104 = .ok (.goto 4, 3) := by decide +kernel
theorem dX7_either_107 : decode cX7_either 107 = .ok (.iconst 0, 1) := by decide +kernel
theorem dX7_either_108 : decode cX7_either 108 = .ok (.ireturn, 1) := by decide +kernel
theorem dX7_drift_0 : decode cX7_drift 0 = .ok (.iload_n 1, 1) := by decide +kernel
theorem dX7_drift_1 : decode cX7_drift 1 = .ok (.iconst 1, 1) := by decide +kernel
theorem dX7_drift_2 : decode cX7_drift 2 = .ok (.bipush 20, 2) := by decide +kernel
theorem dX7_drift_4 : decode cX7_drift 4 = .ok (.invokestatic 88, 3) := by decide +kernel
theorem dX7_drift_7 : decode cX7_drift 7 = .ok (.ifCond .ne 5, 3) := by decide +kernel
theorem dX7_drift_10 : decode cX7_drift 10 = .ok (.iconst (-1), 1) := by decide +kernel
theorem dX7_drift_11 : decode cX7_drift 11 = .ok (.ireturn, 1) := by decide +kernel
theorem dX7_drift_12 : decode cX7_drift 12 = .ok (.aload_n 0, 1) := by decide +kernel
theorem dX7_drift_13 : decode cX7_drift 13 = .ok (.aload_n 0, 1) := by decide +kernel
theorem dX7_drift_14 : decode cX7_drift 14 = .ok (.getfield 22, 3) := by decide +kernel
theorem dX7_drift_17 : decode cX7_drift 17 = .ok (.invokevirtual 180, 3) := by decide +kernel
theorem dX7_drift_20 : decode cX7_drift 20 = .ok (.aload_n 0, 1) := by decide +kernel
theorem dX7_drift_21 : decode cX7_drift 21 = .ok (.invokevirtual 151, 3) := by decide +kernel
theorem dX7_drift_24 : decode cX7_drift 24 = .ok (.ifCond .eq 6, 3) := by decide +kernel
theorem dX7_drift_27 : decode cX7_drift 27 = .ok (.bipush (-2), 2) := by decide +kernel
theorem dX7_drift_29 : decode cX7_drift 29 = .ok (.ireturn, 1) := by decide +kernel
theorem dX7_drift_30 : decode cX7_drift 30 = .ok (.iconst 0, 1) := by decide +kernel
theorem dX7_drift_31 : decode cX7_drift 31 = .ok (.istore_n 2, 1) := by decide +kernel
theorem dX7_drift_32 : decode cX7_drift 32 = .ok (.iload_n 2, 1) := by decide +kernel
theorem dX7_drift_33 : decode cX7_drift 33 = .ok (.iload_n 1, 1) := by decide +kernel
theorem dX7_drift_34 : decode cX7_drift 34 = .ok (.if_icmp .ge 13, 3) := by decide +kernel
theorem dX7_drift_37 : decode cX7_drift 37 = .ok (.aload_n 0, 1) := by decide +kernel
theorem dX7_drift_38 : decode cX7_drift 38 = .ok (.invokevirtual 174, 3) := by decide +kernel
theorem dX7_drift_41 : decode cX7_drift 41 = .ok (.iinc 2 1, 3) := by decide +kernel
theorem dX7_drift_44 : decode cX7_drift 44 = .ok (.goto (-12), 3) := by decide +kernel
theorem dX7_drift_47 : decode cX7_drift 47 = .ok (.aload_n 0, 1) := by decide +kernel
theorem dX7_drift_48 : decode cX7_drift 48 = .ok (.invokevirtual 193, 3) := by decide +kernel
theorem dX7_drift_51 : decode cX7_drift 51 = .ok (.ireturn, 1) := by decide +kernel
theorem dX7_seen_0 : decode cX7_seen 0 = .ok (.aload_n 0, 1) := by decide +kernel
theorem dX7_seen_1 : decode cX7_seen 1 = .ok (.iload_n 1, 1) := by decide +kernel
theorem dX7_seen_2 : decode cX7_seen 2 = .ok (.invokevirtual 177, 3) := by decide +kernel
theorem dX7_seen_5 : decode cX7_seen 5 = .ok (.ifCond .eq 22, 3) := by decide +kernel
theorem dX7_seen_8 : decode cX7_seen 8 = .ok (.iload_n 2, 1) := by decide +kernel
theorem dX7_seen_9 : decode cX7_seen 9 = .ok (.iconst 0, 1) := by decide +kernel
theorem dX7_seen_10 : decode cX7_seen 10 = .ok (.iconst 3, 1) := by decide +kernel
theorem dX7_seen_11 : decode cX7_seen 11 = .ok (.invokestatic 88, 3) := by decide +kernel
theorem dX7_seen_14 : decode cX7_seen 14 = .ok (.ifCond .eq 13, 3) := by decide +kernel
theorem dX7_seen_17 : decode cX7_seen 17 = .ok (.iload_n 3, 1) := by decide +kernel
theorem dX7_seen_18 : decode cX7_seen 18 = .ok (.iconst 0, 1) := by decide +kernel
theorem dX7_seen_19 : decode cX7_seen 19 = .ok (.bipush 36, 2) := by decide +kernel
theorem dX7_seen_21 : decode cX7_seen 21 = .ok (.invokestatic 88, 3) := by decide +kernel
theorem dX7_seen_24 : decode cX7_seen 24 = .ok (.ifCond .ne 5, 3) := by decide +kernel
theorem dX7_seen_27 : decode cX7_seen 27 = .ok (.iconst (-1), 1) := by decide +kernel
theorem dX7_seen_28 : decode cX7_seen 28 = .ok (.ireturn, 1) := by decide +kernel
theorem dX7_seen_29 : decode cX7_seen 29 = .ok (.aload_n 0, 1) := by decide +kernel
theorem dX7_seen_30 : decode cX7_seen 30 = .ok (.getfield 148, 3) := by decide +kernel
theorem dX7_seen_33 : decode cX7_seen 33 = .ok (.bipush 6, 2) := by decide +kernel
theorem dX7_seen_35 : decode cX7_seen 35 = .ok (.if_icmp .ne 6, 3) := by decide +kernel
theorem dX7_seen_38 : decode cX7_seen 38 = .ok (.bipush (-3), 2) := by decide +kernel
theorem dX7_seen_40 : decode cX7_seen 40 = .ok (.ireturn, 1) := by decide +kernel
theorem dX7_seen_41 : decode cX7_seen 41 = .ok (.aload_n 0, 1) := by decide +kernel
theorem dX7_seen_42 : decode cX7_seen 42 = .ok (.getfield 31, 3) := by decide +kernel
theorem dX7_seen_45 : decode cX7_seen 45 = .ok (.iconst 3, 1) := by decide +kernel
theorem dX7_seen_46 : decode cX7_seen 46 = .ok (.aload_n 0, 1) := by decide +kernel
theorem dX7_seen_47 : decode cX7_seen 47 = .ok (.getfield 148, 3) := by decide +kernel
theorem dX7_seen_50 : decode cX7_seen 50 = .ok (.imul, 1) := by decide +kernel
theorem dX7_seen_51 : decode cX7_seen 51 = .ok (.iload_n 1, 1) := by decide +kernel
theorem dX7_seen_52 : decode cX7_seen 52 = .ok (.iastore, 1) := by decide +kernel
theorem dX7_seen_53 : decode cX7_seen 53 = .ok (.aload_n 0, 1) := by decide +kernel
theorem dX7_seen_54 : decode cX7_seen 54 = .ok (.getfield 31, 3) := by decide +kernel
theorem dX7_seen_57 : decode cX7_seen 57 = .ok (.iconst 3, 1) := by decide +kernel
theorem dX7_seen_58 : decode cX7_seen 58 = .ok (.aload_n 0, 1) := by decide +kernel
theorem dX7_seen_59 : decode cX7_seen 59 = .ok (.getfield 148, 3) := by decide +kernel
theorem dX7_seen_62 : decode cX7_seen 62 = .ok (.imul, 1) := by decide +kernel
theorem dX7_seen_63 : decode cX7_seen 63 = .ok (.iconst 1, 1) := by decide +kernel
theorem dX7_seen_64 : decode cX7_seen 64 = .ok (.iadd, 1) := by decide +kernel
theorem dX7_seen_65 : decode cX7_seen 65 = .ok (.iload_n 2, 1) := by decide +kernel
theorem dX7_seen_66 : decode cX7_seen 66 = .ok (.iastore, 1) := by decide +kernel
theorem dX7_seen_67 : decode cX7_seen 67 = .ok (.aload_n 0, 1) := by decide +kernel
theorem dX7_seen_68 : decode cX7_seen 68 = .ok (.getfield 31, 3) := by decide +kernel
theorem dX7_seen_71 : decode cX7_seen 71 = .ok (.iconst 3, 1) := by decide +kernel
theorem dX7_seen_72 : decode cX7_seen 72 = .ok (.aload_n 0, 1) := by decide +kernel
theorem dX7_seen_73 : decode cX7_seen 73 = .ok (.getfield 148, 3) := by decide +kernel
theorem dX7_seen_76 : decode cX7_seen 76 = .ok (.imul, 1) := by decide +kernel
theorem dX7_seen_77 : decode cX7_seen 77 = .ok (.iconst 2, 1) := by decide +kernel
theorem dX7_seen_78 : decode cX7_seen 78 = .ok (.iadd, 1) := by decide +kernel
theorem dX7_seen_79 : decode cX7_seen 79 = .ok (.iload_n 3, 1) := by decide +kernel
theorem dX7_seen_80 : decode cX7_seen 80 = .ok (.iastore, 1) := by decide +kernel
theorem dX7_seen_81 : decode cX7_seen 81 = .ok (.aload_n 0, 1) := by decide +kernel
theorem dX7_seen_82 : decode cX7_seen 82 = .ok (.dup, 1) := by decide +kernel
theorem dX7_seen_83 : decode cX7_seen 83 = .ok (.getfield 148, 3) := by decide +kernel
theorem dX7_seen_86 : decode cX7_seen 86 = .ok (.iconst 1, 1) := by decide +kernel
theorem dX7_seen_87 : decode cX7_seen 87 = .ok (.iadd, 1) := by decide +kernel
theorem dX7_seen_88 : decode cX7_seen 88 = .ok (.putfield 148, 3) := by decide +kernel
theorem dX7_seen_91 : decode cX7_seen 91 = .ok (.aload_n 0, 1) := by decide +kernel
theorem dX7_seen_92 : decode cX7_seen 92 = .ok (.getfield 148, 3) := by decide +kernel
theorem dX7_seen_95 : decode cX7_seen 95 = .ok (.ireturn, 1) := by decide +kernel
theorem dX7_forget_0 : decode cX7_forget 0 = .ok (.aload_n 0, 1) := by decide +kernel
theorem dX7_forget_1 : decode cX7_forget 1 = .ok (.getfield 148, 3) := by decide +kernel
theorem dX7_forget_4 : decode cX7_forget 4 = .ok (.istore_n 1, 1) := by decide +kernel
theorem dX7_forget_5 : decode cX7_forget 5 = .ok (.aload_n 0, 1) := by decide +kernel
theorem dX7_forget_6 : decode cX7_forget 6 = .ok (.iconst 0, 1) := by decide +kernel
theorem dX7_forget_7 : decode cX7_forget 7 = .ok (.putfield 148, 3) := by decide +kernel
theorem dX7_forget_10 : decode cX7_forget 10 = .ok (.iload_n 1, 1) := by decide +kernel
theorem dX7_forget_11 : decode cX7_forget 11 = .ok (.ireturn, 1) := by decide +kernel
theorem dX7_isSo_0 : decode cX7_isSo 0 = .ok (.iconst 1, 1) := by decide +kernel
theorem dX7_isSo_1 : decode cX7_isSo 1 = .ok (.istore 4, 2) := by decide +kernel
theorem dX7_isSo_3 : decode cX7_isSo 3 = .ok (.iconst 0, 1) := by decide +kernel
theorem dX7_isSo_4 : decode cX7_isSo 4 = .ok (.istore 5, 2) := by decide +kernel
theorem dX7_isSo_6 : decode cX7_isSo 6 = .ok (.iload 5, 2) := by decide +kernel
theorem dX7_isSo_8 : decode cX7_isSo 8 = .ok (.aload_n 0, 1) := by decide +kernel
theorem dX7_isSo_9 : decode cX7_isSo 9 = .ok (.getfield 148, 3) := by decide +kernel
theorem dX7_isSo_12 : decode cX7_isSo 12 = .ok (.if_icmp .ge 69, 3) := by decide +kernel
theorem dX7_isSo_15 : decode cX7_isSo 15 = .ok (.iload 4, 2) := by decide +kernel
theorem dX7_isSo_17 : decode cX7_isSo 17 = .ok (.ifCond .eq 55, 3) := by decide +kernel
theorem dX7_isSo_20 : decode cX7_isSo 20 = .ok (.aload_n 0, 1) := by decide +kernel
theorem dX7_isSo_21 : decode cX7_isSo 21 = .ok (.getfield 31, 3) := by decide +kernel
theorem dX7_isSo_24 : decode cX7_isSo 24 = .ok (.iconst 3, 1) := by decide +kernel
theorem dX7_isSo_25 : decode cX7_isSo 25 = .ok (.iload 5, 2) := by decide +kernel
theorem dX7_isSo_27 : decode cX7_isSo 27 = .ok (.imul, 1) := by decide +kernel
theorem dX7_isSo_28 : decode cX7_isSo 28 = .ok (.iaload, 1) := by decide +kernel
theorem dX7_isSo_29 : decode cX7_isSo 29 = .ok (.iload_n 1, 1) := by decide +kernel
theorem dX7_isSo_30 : decode cX7_isSo 30 = .ok (.if_icmp .ne 38, 3) := by decide +kernel
theorem dX7_isSo_33 : decode cX7_isSo 33 = .ok (.iload_n 2, 1) := by decide +kernel
theorem dX7_isSo_34 : decode cX7_isSo 34 = .ok (.iload_n 3, 1) := by decide +kernel
theorem dX7_isSo_35 : decode cX7_isSo 35 = .ok (.aload_n 0, 1) := by decide +kernel
theorem dX7_isSo_36 : decode cX7_isSo 36 = .ok (.getfield 31, 3) := by decide +kernel
theorem dX7_isSo_39 : decode cX7_isSo 39 = .ok (.iconst 3, 1) := by decide +kernel
theorem dX7_isSo_40 : decode cX7_isSo 40 = .ok (.iload 5, 2) := by decide +kernel
theorem dX7_isSo_42 : decode cX7_isSo 42 = .ok (.imul, 1) := by decide +kernel
theorem dX7_isSo_43 : decode cX7_isSo 43 = .ok (.iconst 1, 1) := by decide +kernel
theorem dX7_isSo_44 : decode cX7_isSo 44 = .ok (.iadd, 1) := by decide +kernel
theorem dX7_isSo_45 : decode cX7_isSo 45 = .ok (.iaload, 1) := by decide +kernel
theorem dX7_isSo_46 : decode cX7_isSo 46 = .ok (.iconst 0, 1) := by decide +kernel
theorem dX7_isSo_47 : decode cX7_isSo 47 = .ok (.iconst 1, 1) := by decide +kernel
theorem dX7_isSo_48 : decode cX7_isSo 48 = .ok (.invokestatic 157, 3) := by decide +kernel
theorem dX7_isSo_51 : decode cX7_isSo 51 = .ok (.aload_n 0, 1) := by decide +kernel
theorem dX7_isSo_52 : decode cX7_isSo 52 = .ok (.getfield 31, 3) := by decide +kernel
theorem dX7_isSo_55 : decode cX7_isSo 55 = .ok (.iconst 3, 1) := by decide +kernel
theorem dX7_isSo_56 : decode cX7_isSo 56 = .ok (.iload 5, 2) := by decide +kernel
theorem dX7_isSo_58 : decode cX7_isSo 58 = .ok (.imul, 1) := by decide +kernel
theorem dX7_isSo_59 : decode cX7_isSo 59 = .ok (.iconst 2, 1) := by decide +kernel
theorem dX7_isSo_60 : decode cX7_isSo 60 = .ok (.iadd, 1) := by decide +kernel
theorem dX7_isSo_61 : decode cX7_isSo 61 = .ok (.iaload, 1) := by decide +kernel
theorem dX7_isSo_62 : decode cX7_isSo 62 = .ok (.bipush 18, 2) := by decide +kernel
theorem dX7_isSo_64 : decode cX7_isSo 64 = .ok (.isub, 1) := by decide +kernel
theorem dX7_isSo_65 : decode cX7_isSo 65 = .ok (.if_icmp .ne 7, 3) := by decide +kernel
theorem dX7_isSo_68 : decode cX7_isSo 68 = .ok (.iconst 1, 1) := by decide +kernel
theorem dX7_isSo_69 : decode cX7_isSo 69 = .ok (.goto 4, 3) := by decide +kernel
theorem dX7_isSo_72 : decode cX7_isSo 72 = .ok (.iconst 0, 1) := by decide +kernel
theorem dX7_isSo_73 : decode cX7_isSo 73 = .ok (.istore 4, 2) := by decide +kernel
theorem dX7_isSo_75 : decode cX7_isSo 75 = .ok (.iinc 5 1, 3) := by decide +kernel
theorem dX7_isSo_78 : decode cX7_isSo 78 = .ok (.goto (-72), 3) := by decide +kernel
theorem dX7_isSo_81 : decode cX7_isSo 81 = .ok (.iload 4, 2) := by decide +kernel
theorem dX7_isSo_83 : decode cX7_isSo 83 = .ok (.ireturn, 1) := by decide +kernel
theorem dX7_may_0 : decode cX7_may 0 = .ok (.aload_n 0, 1) := by decide +kernel
theorem dX7_may_1 : decode cX7_may 1 = .ok (.iload_n 1, 1) := by decide +kernel
theorem dX7_may_2 : decode cX7_may 2 = .ok (.invokevirtual 177, 3) := by decide +kernel
theorem dX7_may_5 : decode cX7_may 5 = .ok (.ifCond .eq 12, 3) := by decide +kernel
theorem dX7_may_8 : decode cX7_may 8 = .ok (.iload_n 2, 1) := by decide +kernel
theorem dX7_may_9 : decode cX7_may 9 = .ok (.iconst 0, 1) := by decide +kernel
theorem dX7_may_10 : decode cX7_may 10 = .ok (.iconst 1, 1) := by decide +kernel
theorem dX7_may_11 : decode cX7_may 11 = .ok (.invokestatic 88, 3) := by decide +kernel
theorem dX7_may_14 : decode cX7_may 14 = .ok (.ifCond .ne 5, 3) := by decide +kernel
theorem dX7_may_17 : decode cX7_may 17 = .ok (.iconst (-1), 1) := by decide +kernel
theorem dX7_may_18 : decode cX7_may 18 = .ok (.ireturn, 1) := by decide +kernel
theorem dX7_may_19 : decode cX7_may 19 = .ok (.iconst 0, 1) := by decide +kernel
theorem dX7_may_20 : decode cX7_may 20 = .ok (.istore_n 3, 1) := by decide +kernel
theorem dX7_may_21 : decode cX7_may 21 = .ok (.iconst 0, 1) := by decide +kernel
theorem dX7_may_22 : decode cX7_may 22 = .ok (.istore 4, 2) := by decide +kernel
theorem dX7_may_24 : decode cX7_may 24 = .ok (.iload 4, 2) := by decide +kernel
theorem dX7_may_26 : decode cX7_may 26 = .ok (.iload_n 2, 1) := by decide +kernel
theorem dX7_may_27 : decode cX7_may 27 = .ok (.ifCond .ne 7, 3) := by decide +kernel
theorem dX7_may_30 : decode cX7_may 30 = .ok (.iconst 4, 1) := by decide +kernel
theorem dX7_may_31 : decode cX7_may 31 = .ok (.goto 5, 3) := by decide +kernel
theorem dX7_may_34 : decode cX7_may 34 = .ok (.bipush 10, 2) := by decide +kernel
theorem dX7_may_36 : decode cX7_may 36 = .ok (.if_icmp .ge 66, 3) := by decide +kernel
theorem dX7_may_39 : decode cX7_may 39 = .ok (.iload_n 2, 1) := by decide +kernel
theorem dX7_may_40 : decode cX7_may 40 = .ok (.ifCond .ne 23, 3) := by decide +kernel
theorem dX7_may_43 : decode cX7_may 43 = .ok (.aload_n 0, 1) := by decide +kernel
theorem dX7_may_44 : decode cX7_may 44 = .ok (.iload_n 1, 1) := by decide +kernel
theorem dX7_may_45 : decode cX7_may 45 = .ok (.iload 4, 2) := by decide +kernel
theorem dX7_may_47 : decode cX7_may 47 = .ok (.aload_n 0, 1) := by decide +kernel
theorem dX7_may_48 : decode cX7_may 48 = .ok (.getfield 7, 3) := by decide +kernel
theorem dX7_may_51 : decode cX7_may 51 = .ok (.iconst 3, 1) := by decide +kernel
theorem dX7_may_52 : decode cX7_may 52 = .ok (.iload_n 1, 1) := by decide +kernel
theorem dX7_may_53 : decode cX7_may 53 = .ok (.imul, 1) := by decide +kernel
theorem dX7_may_54 : decode cX7_may 54 = .ok (.iconst 1, 1) := by decide +kernel
theorem dX7_may_55 : decode cX7_may 55 = .ok (.iadd, 1) := by decide +kernel
theorem dX7_may_56 : decode cX7_may 56 = .ok (.iaload, 1) := by decide +kernel
theorem dX7_may_57 : decode cX7_may 57 = .ok (.invokevirtual 219, 3) := by decide +kernel
theorem dX7_may_60 : decode cX7_may 60 = .ok (.goto 18, 3) := by decide +kernel
theorem dX7_may_63 : decode cX7_may 63 = .ok (.aload_n 0, 1) := by decide +kernel
theorem dX7_may_64 : decode cX7_may 64 = .ok (.iload_n 1, 1) := by decide +kernel
theorem dX7_may_65 : decode cX7_may 65 = .ok (.aload_n 0, 1) := by decide +kernel
theorem dX7_may_66 : decode cX7_may 66 = .ok (.getfield 7, 3) := by decide +kernel
theorem dX7_may_69 : decode cX7_may 69 = .ok (.iconst 3, 1) := by decide +kernel
theorem dX7_may_70 : decode cX7_may 70 = .ok (.iload_n 1, 1) := by decide +kernel
theorem dX7_may_71 : decode cX7_may 71 = .ok (.imul, 1) := by decide +kernel
theorem dX7_may_72 : decode cX7_may 72 = .ok (.iaload, 1) := by decide +kernel
theorem dX7_may_73 : decode cX7_may 73 = .ok (.iload 4, 2) := by decide +kernel
theorem dX7_may_75 : decode cX7_may 75 = .ok (.invokevirtual 219, 3) := by decide +kernel
theorem dX7_may_78 : decode cX7_may 78 = .ok (.istore 5, 2) := by decide +kernel
theorem dX7_may_80 : decode cX7_may 80 = .ok (.iload_n 3, 1) := by decide +kernel
theorem dX7_may_81 : decode cX7_may 81 = .ok (.iload 5, 2) := by decide +kernel
theorem dX7_may_83 : decode cX7_may 83 = .ok (.ifCond .eq 10, 3) := by decide +kernel
theorem dX7_may_86 : decode cX7_may 86 = .ok (.iconst 1, 1) := by decide +kernel
theorem dX7_may_87 : decode cX7_may 87 = .ok (.iload 4, 2) := by decide +kernel
theorem dX7_may_89 : decode cX7_may 89 = .ok (.ishl, 1) := by decide +kernel
theorem dX7_may_90 : decode cX7_may 90 = .ok (.goto 4, 3) := by decide +kernel
theorem dX7_may_93 : decode cX7_may 93 = .ok (.iconst 0, 1) := by decide +kernel
theorem dX7_may_94 : decode cX7_may 94 = .ok (.ior, 1) := by decide +kernel
theorem dX7_may_95 : decode cX7_may 95 = .ok (.istore_n 3, 1) := by decide +kernel
theorem dX7_may_96 : decode cX7_may 96 = .ok (.iinc 4 1, 3) := by decide +kernel
theorem dX7_may_99 : decode cX7_may 99 = .ok (.goto (-75), 3) := by decide +kernel
theorem dX7_may_102 : decode cX7_may 102 = .ok (.iload_n 3, 1) := by decide +kernel
theorem dX7_may_103 : decode cX7_may 103 = .ok (.ireturn, 1) := by decide +kernel
theorem dX7_which_0 : decode cX7_which 0 = .ok (.iload_n 1, 1) := by decide +kernel
theorem dX7_which_1 : decode cX7_which 1 = .ok (.iconst 0, 1) := by decide +kernel
theorem dX7_which_2 : decode cX7_which 2 = .ok (.bipush 9, 2) := by decide +kernel
theorem dX7_which_4 : decode cX7_which 4 = .ok (.invokestatic 88, 3) := by decide +kernel
theorem dX7_which_7 : decode cX7_which 7 = .ok (.ifCond .eq 23, 3) := by decide +kernel
theorem dX7_which_10 : decode cX7_which 10 = .ok (.iload_n 2, 1) := by decide +kernel
theorem dX7_which_11 : decode cX7_which 11 = .ok (.iconst 0, 1) := by decide +kernel
theorem dX7_which_12 : decode cX7_which 12 = .ok (.bipush 9, 2) := by decide +kernel
theorem dX7_which_14 : decode cX7_which 14 = .ok (.invokestatic 88, 3) := by decide +kernel
theorem dX7_which_17 : decode cX7_which 17 = .ok (.ifCond .eq 13, 3) := by decide +kernel
theorem dX7_which_20 : decode cX7_which 20 = .ok (.iload_n 3, 1) := by decide +kernel
theorem dX7_which_21 : decode cX7_which 21 = .ok (.iconst 0, 1) := by decide +kernel
theorem dX7_which_22 : decode cX7_which 22 = .ok (.bipush 9, 2) := by decide +kernel
theorem dX7_which_24 : decode cX7_which 24 = .ok (.invokestatic 88, 3) := by decide +kernel
theorem dX7_which_27 : decode cX7_which 27 = .ok (.ifCond .ne 5, 3) := by decide +kernel
theorem dX7_which_30 : decode cX7_which 30 = .ok (.iconst (-1), 1) := by decide +kernel
theorem dX7_which_31 : decode cX7_which 31 = .ok (.ireturn, 1) := by decide +kernel
theorem dX7_which_32 : decode cX7_which 32 = .ok (.iconst 0, 1) := by decide +kernel
theorem dX7_which_33 : decode cX7_which 33 = .ok (.istore 4, 2) := by decide +kernel
theorem dX7_which_35 : decode cX7_which 35 = .ok (.iconst 0, 1) := by decide +kernel
theorem dX7_which_36 : decode cX7_which 36 = .ok (.istore 5, 2) := by decide +kernel
theorem dX7_which_38 : decode cX7_which 38 = .ok (.iload 5, 2) := by decide +kernel
theorem dX7_which_40 : decode cX7_which 40 = .ok (.aload_n 0, 1) := by decide +kernel
theorem dX7_which_41 : decode cX7_which 41 = .ok (.getfield 85, 3) := by decide +kernel
theorem dX7_which_44 : decode cX7_which 44 = .ok (.if_icmp .ge 66, 3) := by decide +kernel
theorem dX7_which_47 : decode cX7_which 47 = .ok (.aload_n 0, 1) := by decide +kernel
theorem dX7_which_48 : decode cX7_which 48 = .ok (.aload_n 0, 1) := by decide +kernel
theorem dX7_which_49 : decode cX7_which 49 = .ok (.getfield 19, 3) := by decide +kernel
theorem dX7_which_52 : decode cX7_which 52 = .ok (.invokevirtual 180, 3) := by decide +kernel
theorem dX7_which_55 : decode cX7_which 55 = .ok (.aload_n 0, 1) := by decide +kernel
theorem dX7_which_56 : decode cX7_which 56 = .ok (.iload 5, 2) := by decide +kernel
theorem dX7_which_58 : decode cX7_which 58 = .ok (.invokevirtual 190, 3) := by decide +kernel
theorem dX7_which_61 : decode cX7_which 61 = .ok (.iload 4, 2) := by decide +kernel
theorem dX7_which_63 : decode cX7_which 63 = .ok (.aload_n 0, 1) := by decide +kernel
theorem dX7_which_64 : decode cX7_which 64 = .ok (.getfield 52, 3) := by decide +kernel
theorem dX7_which_67 : decode cX7_which 67 = .ok (.iconst 0, 1) := by decide +kernel
theorem dX7_which_68 : decode cX7_which 68 = .ok (.iaload, 1) := by decide +kernel
theorem dX7_which_69 : decode cX7_which 69 = .ok (.iload_n 1, 1) := by decide +kernel
theorem dX7_which_70 : decode cX7_which 70 = .ok (.if_icmp .ne 30, 3) := by decide +kernel
theorem dX7_which_73 : decode cX7_which 73 = .ok (.aload_n 0, 1) := by decide +kernel
theorem dX7_which_74 : decode cX7_which 74 = .ok (.getfield 52, 3) := by decide +kernel
theorem dX7_which_77 : decode cX7_which 77 = .ok (.iconst 1, 1) := by decide +kernel
theorem dX7_which_78 : decode cX7_which 78 = .ok (.iaload, 1) := by decide +kernel
theorem dX7_which_79 : decode cX7_which 79 = .ok (.iload_n 2, 1) := by decide +kernel
theorem dX7_which_80 : decode cX7_which 80 = .ok (.if_icmp .ne 20, 3) := by decide +kernel
theorem dX7_which_83 : decode cX7_which 83 = .ok (.aload_n 0, 1) := by decide +kernel
theorem dX7_which_84 : decode cX7_which 84 = .ok (.getfield 52, 3) := by decide +kernel
theorem dX7_which_87 : decode cX7_which 87 = .ok (.iconst 2, 1) := by decide +kernel
theorem dX7_which_88 : decode cX7_which 88 = .ok (.iaload, 1) := by decide +kernel
theorem dX7_which_89 : decode cX7_which 89 = .ok (.iload_n 3, 1) := by decide +kernel
theorem dX7_which_90 : decode cX7_which 90 = .ok (.if_icmp .ne 10, 3) := by decide +kernel
theorem dX7_which_93 : decode cX7_which 93 = .ok (.iconst 1, 1) := by decide +kernel
theorem dX7_which_94 : decode cX7_which 94 = .ok (.iload 5, 2) := by decide +kernel
theorem dX7_which_96 : decode cX7_which 96 = .ok (.ishl, 1) := by decide +kernel
theorem dX7_which_97 : decode cX7_which 97 = .ok (.goto 4, 3) := by decide +kernel
theorem dX7_which_100 : decode cX7_which 100 = .ok (.iconst 0, 1) := by decide +kernel
theorem dX7_which_101 : decode cX7_which 101 = .ok (.ior, 1) := by decide +kernel
theorem dX7_which_102 : decode cX7_which 102 = .ok (.istore 4, 2) := by decide +kernel
theorem dX7_which_104 : decode cX7_which 104 = .ok (.iinc 5 1, 3) := by decide +kernel
theorem dX7_which_107 : decode cX7_which 107 = .ok (.goto (-69), 3) := by decide +kernel
theorem dX7_which_110 : decode cX7_which 110 = .ok (.iload 4, 2) := by decide +kernel
theorem dX7_which_112 : decode cX7_which 112 = .ok (.ireturn, 1) := by decide +kernel
theorem dX7_likely_0 : decode cX7_likely 0 = .ok (.iload_n 1, 1) := by decide +kernel
theorem dX7_likely_1 : decode cX7_likely 1 = .ok (.iconst 0, 1) := by decide +kernel
theorem dX7_likely_2 : decode cX7_likely 2 = .ok (.iconst 5, 1) := by decide +kernel
theorem dX7_likely_3 : decode cX7_likely 3 = .ok (.invokestatic 88, 3) := by decide +kernel
theorem dX7_likely_6 : decode cX7_likely 6 = .ok (.ifCond .eq 12, 3) := by decide +kernel
theorem dX7_likely_9 : decode cX7_likely 9 = .ok (.iload_n 2, 1) := by decide +kernel
theorem dX7_likely_10 : decode cX7_likely 10 = .ok (.iconst 0, 1) := by decide +kernel
theorem dX7_likely_11 : decode cX7_likely 11 = .ok (.iconst 1, 1) := by decide +kernel
theorem dX7_likely_12 : decode cX7_likely 12 = .ok (.invokestatic 88, 3) := by decide +kernel
theorem dX7_likely_15 : decode cX7_likely 15 = .ok (.ifCond .ne 5, 3) := by decide +kernel
theorem dX7_likely_18 : decode cX7_likely 18 = .ok (.iconst (-1), 1) := by decide +kernel
theorem dX7_likely_19 : decode cX7_likely 19 = .ok (.ireturn, 1) := by decide +kernel
theorem dX7_likely_20 : decode cX7_likely 20 = .ok (.iconst 1, 1) := by decide +kernel
theorem dX7_likely_21 : decode cX7_likely 21 = .ok (.istore_n 3, 1) := by decide +kernel
theorem dX7_likely_22 : decode cX7_likely 22 = .ok (.iconst 0, 1) := by decide +kernel
theorem dX7_likely_23 : decode cX7_likely 23 = .ok (.istore 4, 2) := by decide +kernel
theorem dX7_likely_25 : decode cX7_likely 25 = .ok (.iload 4, 2) := by decide +kernel
theorem dX7_likely_27 : decode cX7_likely 27 = .ok (.iload_n 1, 1) := by decide +kernel
theorem dX7_likely_28 : decode cX7_likely 28 = .ok (.if_icmp .ge 16, 3) := by decide +kernel
theorem dX7_likely_31 : decode cX7_likely 31 = .ok (.iload_n 3, 1) := by decide +kernel
theorem dX7_likely_32 : decode cX7_likely 32 = .ok (.aload_n 0, 1) := by decide +kernel
theorem dX7_likely_33 : decode cX7_likely 33 = .ok (.getfield 85, 3) := by decide +kernel
theorem dX7_likely_36 : decode cX7_likely 36 = .ok (.imul, 1) := by decide +kernel
theorem dX7_likely_37 : decode cX7_likely 37 = .ok (.istore_n 3, 1) := by decide +kernel
theorem dX7_likely_38 : decode cX7_likely 38 = .ok (.iinc 4 1, 3) := by decide +kernel
theorem dX7_likely_41 : decode cX7_likely 41 = .ok (.goto (-16), 3) := by decide +kernel
theorem dX7_likely_44 : decode cX7_likely 44 = .ok (.aload_n 0, 1) := by decide +kernel
theorem dX7_likely_45 : decode cX7_likely 45 = .ok (.aload_n 0, 1) := by decide +kernel
theorem dX7_likely_46 : decode cX7_likely 46 = .ok (.getfield 22, 3) := by decide +kernel
theorem dX7_likely_49 : decode cX7_likely 49 = .ok (.invokevirtual 180, 3) := by decide +kernel
theorem dX7_likely_52 : decode cX7_likely 52 = .ok (.aload_n 0, 1) := by decide +kernel
theorem dX7_likely_53 : decode cX7_likely 53 = .ok (.invokevirtual 196, 3) := by decide +kernel
theorem dX7_likely_56 : decode cX7_likely 56 = .ok (.ifCond .eq 7, 3) := by decide +kernel
theorem dX7_likely_59 : decode cX7_likely 59 = .ok (.iload_n 3, 1) := by decide +kernel
theorem dX7_likely_60 : decode cX7_likely 60 = .ok (.goto 4, 3) := by decide +kernel
theorem dX7_likely_63 : decode cX7_likely 63 = .ok (.iconst 0, 1) := by decide +kernel
theorem dX7_likely_64 : decode cX7_likely 64 = .ok (.istore 4, 2) := by decide +kernel
theorem dX7_likely_66 : decode cX7_likely 66 = .ok (.aload_n 0, 1) := by decide +kernel
theorem dX7_likely_67 : decode cX7_likely 67 = .ok (.invokevirtual 205, 3) := by decide +kernel
theorem dX7_likely_70 : decode cX7_likely 70 = .ok (.aload_n 0, 1) := by decide +kernel
theorem dX7_likely_71 : decode cX7_likely 71 = .ok (.iload_n 1, 1) := by decide +kernel
theorem dX7_likely_72 : decode cX7_likely 72 = .ok (.invokevirtual 208, 3) := by decide +kernel
theorem dX7_likely_75 : decode cX7_likely 75 = .ok (.ifCond .eq 50, 3) := by decide +kernel
theorem dX7_likely_78 : decode cX7_likely 78 = .ok (.aload_n 0, 1) := by decide +kernel
theorem dX7_likely_79 : decode cX7_likely 79 = .ok (.invokevirtual 196, 3) := by decide +kernel
theorem dX7_likely_82 : decode cX7_likely 82 = .ok (.ifCond .eq (-12), 3) := by decide +kernel
theorem dX7_likely_85 : decode cX7_likely 85 = .ok (.iload_n 3, 1) := by decide +kernel
theorem dX7_likely_86 : decode cX7_likely 86 = .ok (.istore 5, 2) := by decide +kernel
theorem dX7_likely_88 : decode cX7_likely 88 = .ok (.iconst 0, 1) := by decide +kernel
theorem dX7_likely_89 : decode cX7_likely 89 = .ok (.istore 6, 2) := by decide +kernel
theorem dX7_likely_91 : decode cX7_likely 91 = .ok (.iload 6, 2) := by decide +kernel
theorem dX7_likely_93 : decode cX7_likely 93 = .ok (.aload_n 0, 1) := by decide +kernel
theorem dX7_likely_94 : decode cX7_likely 94 = .ok (.getfield 199, 3) := by decide +kernel
theorem dX7_likely_97 : decode cX7_likely 97 = .ok (.if_icmp .ge 18, 3) := by decide +kernel
theorem dX7_likely_100 : decode cX7_likely 100 = .ok (.iload 5, 2) := by decide +kernel
theorem dX7_likely_102 : decode cX7_likely 102 = .ok (.aload_n 0, 1) := by decide +kernel
theorem dX7_likely_103 : decode cX7_likely 103 = .ok (.getfield 85, 3) := by decide +kernel
theorem dX7_likely_106 : decode cX7_likely 106 = .ok (.idiv, 1) := by decide +kernel
theorem dX7_likely_107 : decode cX7_likely 107 = .ok (.istore 5, 2) := by decide +kernel
theorem dX7_likely_109 : decode cX7_likely 109 = .ok (.iinc 6 1, 3) := by decide +kernel
theorem dX7_likely_112 : decode cX7_likely 112 = .ok (.goto (-21), 3) := by decide +kernel
theorem dX7_likely_115 : decode cX7_likely 115 = .ok (.iload 4, 2) := by decide +kernel
theorem dX7_likely_117 : decode cX7_likely 117 = .ok (.iload 5, 2) := by decide +kernel
theorem dX7_likely_119 : decode cX7_likely 119 = .ok (.iadd, 1) := by decide +kernel
theorem dX7_likely_120 : decode cX7_likely 120 = .ok (.istore 4, 2) := by decide +kernel
theorem dX7_likely_122 : decode cX7_likely 122 = .ok (.goto (-52), 3) := by decide +kernel
theorem dX7_likely_125 : decode cX7_likely 125 = .ok (.iload 4, 2) := by decide +kernel
theorem dX7_likely_127 : decode cX7_likely 127 = .ok (.istore 5, 2) := by decide +kernel
theorem dX7_likely_129 : decode cX7_likely 129 = .ok (.iload_n 3, 1) := by decide +kernel
theorem dX7_likely_130 : decode cX7_likely 130 = .ok (.istore 6, 2) := by decide +kernel
theorem dX7_likely_132 : decode cX7_likely 132 = .ok (.iload 6, 2) := by decide +kernel
theorem dX7_likely_134 : decode cX7_likely 134 = .ok (.ifCond .le 21, 3) := by decide +kernel
theorem dX7_likely_137 : decode cX7_likely 137 = .ok (.iload 5, 2) := by decide +kernel
theorem dX7_likely_139 : decode cX7_likely 139 = .ok (.iload 6, 2) := by decide +kernel
theorem dX7_likely_141 : decode cX7_likely 141 = .ok (.irem, 1) := by decide +kernel
theorem dX7_likely_142 : decode cX7_likely 142 = .ok (.istore 7, 2) := by decide +kernel
theorem dX7_likely_144 : decode cX7_likely 144 = .ok (.iload 6, 2) := by decide +kernel
theorem dX7_likely_146 : decode cX7_likely 146 = .ok (.istore 5, 2) := by decide +kernel
theorem dX7_likely_148 : decode cX7_likely 148 = .ok (.iload 7, 2) := by decide +kernel
theorem dX7_likely_150 : decode cX7_likely 150 = .ok (.istore 6, 2) := by decide +kernel
theorem dX7_likely_152 : decode cX7_likely 152 = .ok (.goto (-20), 3) := by decide +kernel
theorem dX7_likely_155 : decode cX7_likely 155 = .ok (.iload_n 2, 1) := by decide +kernel
theorem dX7_likely_156 : decode cX7_likely 156 = .ok (.ifCond .ne 8, 3) := by decide +kernel
theorem dX7_likely_159 : decode cX7_likely 159 = .ok (.iload 4, 2) := by decide +kernel
theorem dX7_likely_161 : decode cX7_likely 161 = .ok (.goto 4, 3) := by decide +kernel
theorem dX7_likely_164 : decode cX7_likely 164 = .ok (.iload_n 3, 1) := by decide +kernel
theorem dX7_likely_165 : decode cX7_likely 165 = .ok (.iload 5, 2) := by decide +kernel
theorem dX7_likely_167 : decode cX7_likely 167 = .ok (.idiv, 1) := by decide +kernel
theorem dX7_likely_168 : decode cX7_likely 168 = .ok (.ireturn, 1) := by decide +kernel
theorem dX7_flight_0 : decode cX7_flight 0 = .ok (.iload_n 1, 1) := by decide +kernel
theorem dX7_flight_1 : decode cX7_flight 1 = .ok (.iconst 0, 1) := by decide +kernel
theorem dX7_flight_2 : decode cX7_flight 2 = .ok (.sipush 9999, 3) := by decide +kernel
theorem dX7_flight_5 : decode cX7_flight 5 = .ok (.invokestatic 88, 3) := by decide +kernel
theorem dX7_flight_8 : decode cX7_flight 8 = .ok (.ifCond .eq 22, 3) := by decide +kernel
theorem dX7_flight_11 : decode cX7_flight 11 = .ok (.iload_n 2, 1) := by decide +kernel
theorem dX7_flight_12 : decode cX7_flight 12 = .ok (.iconst 1, 1) := by decide +kernel
theorem dX7_flight_13 : decode cX7_flight 13 = .ok (.bipush 40, 2) := by decide +kernel
theorem dX7_flight_15 : decode cX7_flight 15 = .ok (.invokestatic 88, 3) := by decide +kernel
theorem dX7_flight_18 : decode cX7_flight 18 = .ok (.ifCond .eq 12, 3) := by decide +kernel
theorem dX7_flight_21 : decode cX7_flight 21 = .ok (.iload_n 3, 1) := by decide +kernel
theorem dX7_flight_22 : decode cX7_flight 22 = .ok (.iconst 0, 1) := by decide +kernel
theorem dX7_flight_23 : decode cX7_flight 23 = .ok (.iconst 1, 1) := by decide +kernel
theorem dX7_flight_24 : decode cX7_flight 24 = .ok (.invokestatic 88, 3) := by decide +kernel
theorem dX7_flight_27 : decode cX7_flight 27 = .ok (.ifCond .ne 5, 3) := by decide +kernel
theorem dX7_flight_30 : decode cX7_flight 30 = .ok (.iconst (-1), 1) := by decide +kernel
theorem dX7_flight_31 : decode cX7_flight 31 = .ok (.ireturn, 1) := by decide +kernel
theorem dX7_flight_32 : decode cX7_flight 32 = .ok (.aload_n 0, 1) := by decide +kernel
theorem dX7_flight_33 : decode cX7_flight 33 = .ok (.aload_n 0, 1) := by decide +kernel
theorem dX7_flight_34 : decode cX7_flight 34 = .ok (.getfield 22, 3) := by decide +kernel
theorem dX7_flight_37 : decode cX7_flight 37 = .ok (.invokevirtual 180, 3) := by decide +kernel
theorem dX7_flight_40 : decode cX7_flight 40 = .ok (.iconst 0, 1) := by decide +kernel
theorem dX7_flight_41 : decode cX7_flight 41 = .ok (.istore 4, 2) := by decide +kernel
theorem dX7_flight_43 : decode cX7_flight 43 = .ok (.iload 4, 2) := by decide +kernel
theorem dX7_flight_45 : decode cX7_flight 45 = .ok (.iload_n 2, 1) := by decide +kernel
theorem dX7_flight_46 : decode cX7_flight 46 = .ok (.if_icmp .ge 57, 3) := by decide +kernel
theorem dX7_flight_49 : decode cX7_flight 49 = .ok (.aload_n 0, 1) := by decide +kernel
theorem dX7_flight_50 : decode cX7_flight 50 = .ok (.invokevirtual 151, 3) := by decide +kernel
theorem dX7_flight_53 : decode cX7_flight 53 = .ok (.ifCond .ne 50, 3) := by decide +kernel
theorem dX7_flight_56 : decode cX7_flight 56 = .ok (.ldc2_w 222, 3) := by decide +kernel
theorem dX7_flight_59 : decode cX7_flight 59 = .ok (.iload_n 1, 1) := by decide +kernel
theorem dX7_flight_60 : decode cX7_flight 60 = .ok (.i2l, 1) := by decide +kernel
theorem dX7_flight_61 : decode cX7_flight 61 = .ok (.lmul, 1) := by decide +kernel
theorem dX7_flight_62 : decode cX7_flight 62 = .ok (.ldc2_w 224, 3) := by decide +kernel
theorem dX7_flight_65 : decode cX7_flight 65 = .ok (.iload 4, 2) := by decide +kernel
theorem dX7_flight_67 : decode cX7_flight 67 = .ok (.i2l, 1) := by decide +kernel
theorem dX7_flight_68 : decode cX7_flight 68 = .ok (.lmul, 1) := by decide +kernel
theorem dX7_flight_69 : decode cX7_flight 69 = .ok (.ladd, 1) := by decide +kernel
theorem dX7_flight_70 : decode cX7_flight 70 = .ok (.lconst 1, 1) := by decide +kernel
theorem dX7_flight_71 : decode cX7_flight 71 = .ok (.ladd, 1) := by decide +kernel
theorem dX7_flight_72 : decode cX7_flight 72 = .ok (.lstore 5, 2) := by decide +kernel
theorem dX7_flight_74 : decode cX7_flight 74 = .ok (.aload_n 0, 1) := by decide +kernel
theorem dX7_flight_75 : decode cX7_flight 75 = .ok (.lload 5, 2) := by decide +kernel
theorem dX7_flight_77 : decode cX7_flight 77 = .ok (.lload 5, 2) := by decide +kernel
theorem dX7_flight_79 : decode cX7_flight 79 = .ok (.lmul, 1) := by decide +kernel
theorem dX7_flight_80 : decode cX7_flight 80 = .ok (.ldc2_w 226, 3) := by decide +kernel
theorem dX7_flight_83 : decode cX7_flight 83 = .ok (.lrem, 1) := by decide +kernel
theorem dX7_flight_84 : decode cX7_flight 84 = .ok (.ldc2_w 228, 3) := by decide +kernel
theorem dX7_flight_87 : decode cX7_flight 87 = .ok (.ldiv, 1) := by decide +kernel
theorem dX7_flight_88 : decode cX7_flight 88 = .ok (.l2i, 1) := by decide +kernel
theorem dX7_flight_89 : decode cX7_flight 89 = .ok (.aload_n 0, 1) := by decide +kernel
theorem dX7_flight_90 : decode cX7_flight 90 = .ok (.getfield 85, 3) := by decide +kernel
theorem dX7_flight_93 : decode cX7_flight 93 = .ok (.irem, 1) := by decide +kernel
theorem dX7_flight_94 : decode cX7_flight 94 = .ok (.invokevirtual 190, 3) := by decide +kernel
theorem dX7_flight_97 : decode cX7_flight 97 = .ok (.iinc 4 1, 3) := by decide +kernel
theorem dX7_flight_100 : decode cX7_flight 100 = .ok (.goto (-57), 3) := by decide +kernel
theorem dX7_flight_103 : decode cX7_flight 103 = .ok (.iload_n 3, 1) := by decide +kernel
theorem dX7_flight_104 : decode cX7_flight 104 = .ok (.iconst 1, 1) := by decide +kernel
theorem dX7_flight_105 : decode cX7_flight 105 = .ok (.if_icmp .ne 20, 3) := by decide +kernel
theorem dX7_flight_108 : decode cX7_flight 108 = .ok (.bipush 100, 2) := by decide +kernel
theorem dX7_flight_110 : decode cX7_flight 110 = .ok (.aload_n 0, 1) := by decide +kernel
theorem dX7_flight_111 : decode cX7_flight 111 = .ok (.getfield 52, 3) := by decide +kernel
theorem dX7_flight_114 : decode cX7_flight 114 = .ok (.iconst 2, 1) := by decide +kernel
theorem dX7_flight_115 : decode cX7_flight 115 = .ok (.iaload, 1) := by decide +kernel
theorem dX7_flight_116 : decode cX7_flight 116 = .ok (.imul, 1) := by decide +kernel
theorem dX7_flight_117 : decode cX7_flight 117 = .ok (.aload_n 0, 1) := by decide +kernel
theorem dX7_flight_118 : decode cX7_flight 118 = .ok (.invokevirtual 193, 3) := by decide +kernel
theorem dX7_flight_121 : decode cX7_flight 121 = .ok (.iadd, 1) := by decide +kernel
theorem dX7_flight_122 : decode cX7_flight 122 = .ok (.goto 17, 3) := by decide +kernel
theorem dX7_flight_125 : decode cX7_flight 125 = .ok (.aload_n 0, 1) := by decide +kernel
theorem dX7_flight_126 : decode cX7_flight 126 = .ok (.invokevirtual 196, 3) := by decide +kernel
theorem dX7_flight_129 : decode cX7_flight 129 = .ok (.ifCond .eq 8, 3) := by decide +kernel
theorem dX7_flight_132 : decode cX7_flight 132 = .ok (.iload 4, 2) := by decide +kernel
theorem dX7_flight_134 : decode cX7_flight 134 = .ok (.goto 5, 3) := by decide +kernel
theorem dX7_flight_137 : decode cX7_flight 137 = .ok (.bipush (-4), 2) := by decide +kernel
theorem dX7_flight_139 : decode cX7_flight 139 = .ok (.ireturn, 1) := by decide +kernel
theorem dX7_keep_0 : decode cX7_keep 0 = .ok (.aload_n 0, 1) := by decide +kernel
theorem dX7_keep_1 : decode cX7_keep 1 = .ok (.getfield 145, 3) := by decide +kernel
theorem dX7_keep_4 : decode cX7_keep 4 = .ok (.iconst 2, 1) := by decide +kernel
theorem dX7_keep_5 : decode cX7_keep 5 = .ok (.if_icmp .ne 6, 3) := by decide +kernel
theorem dX7_keep_8 : decode cX7_keep 8 = .ok (.bipush (-3), 2) := by decide +kernel
theorem dX7_keep_10 : decode cX7_keep 10 = .ok (.ireturn, 1) := by decide +kernel
theorem dX7_keep_11 : decode cX7_keep 11 = .ok (.aload_n 0, 1) := by decide +kernel
theorem dX7_keep_12 : decode cX7_keep 12 = .ok (.getfield 28, 3) := by decide +kernel
theorem dX7_keep_15 : decode cX7_keep 15 = .ok (.bipush 7, 2) := by decide +kernel
theorem dX7_keep_17 : decode cX7_keep 17 = .ok (.aload_n 0, 1) := by decide +kernel
theorem dX7_keep_18 : decode cX7_keep 18 = .ok (.getfield 145, 3) := by decide +kernel
theorem dX7_keep_21 : decode cX7_keep 21 = .ok (.imul, 1) := by decide +kernel
theorem dX7_keep_22 : decode cX7_keep 22 = .ok (.aload_n 0, 1) := by decide +kernel
theorem dX7_keep_23 : decode cX7_keep 23 = .ok (.getfield 22, 3) := by decide +kernel
theorem dX7_keep_26 : decode cX7_keep 26 = .ok (.iconst 0, 1) := by decide +kernel
theorem dX7_keep_27 : decode cX7_keep 27 = .ok (.bipush 7, 2) := by decide +kernel
theorem dX7_keep_29 : decode cX7_keep 29 = .ok (.invokestatic 138, 3) := by decide +kernel
theorem dX7_keep_32 : decode cX7_keep 32 = .ok (.aload_n 0, 1) := by decide +kernel
theorem dX7_keep_33 : decode cX7_keep 33 = .ok (.dup, 1) := by decide +kernel
theorem dX7_keep_34 : decode cX7_keep 34 = .ok (.getfield 145, 3) := by decide +kernel
theorem dX7_keep_37 : decode cX7_keep 37 = .ok (.iconst 1, 1) := by decide +kernel
theorem dX7_keep_38 : decode cX7_keep 38 = .ok (.iadd, 1) := by decide +kernel
theorem dX7_keep_39 : decode cX7_keep 39 = .ok (.putfield 145, 3) := by decide +kernel
theorem dX7_keep_42 : decode cX7_keep 42 = .ok (.aload_n 0, 1) := by decide +kernel
theorem dX7_keep_43 : decode cX7_keep 43 = .ok (.getfield 145, 3) := by decide +kernel
theorem dX7_keep_46 : decode cX7_keep 46 = .ok (.ireturn, 1) := by decide +kernel
theorem dX7_back_0 : decode cX7_back 0 = .ok (.aload_n 0, 1) := by decide +kernel
theorem dX7_back_1 : decode cX7_back 1 = .ok (.getfield 145, 3) := by decide +kernel
theorem dX7_back_4 : decode cX7_back 4 = .ok (.ifCond .ne 6, 3) := by decide +kernel
theorem dX7_back_7 : decode cX7_back 7 = .ok (.bipush (-2), 2) := by decide +kernel
theorem dX7_back_9 : decode cX7_back 9 = .ok (.ireturn, 1) := by decide +kernel
theorem dX7_back_10 : decode cX7_back 10 = .ok (.aload_n 0, 1) := by decide +kernel
theorem dX7_back_11 : decode cX7_back 11 = .ok (.dup, 1) := by decide +kernel
theorem dX7_back_12 : decode cX7_back 12 = .ok (.getfield 145, 3) := by decide +kernel
theorem dX7_back_15 : decode cX7_back 15 = .ok (.iconst 1, 1) := by decide +kernel
theorem dX7_back_16 : decode cX7_back 16 = .ok (.isub, 1) := by decide +kernel
theorem dX7_back_17 : decode cX7_back 17 = .ok (.putfield 145, 3) := by decide +kernel
theorem dX7_back_20 : decode cX7_back 20 = .ok (.aload_n 0, 1) := by decide +kernel
theorem dX7_back_21 : decode cX7_back 21 = .ok (.getfield 22, 3) := by decide +kernel
theorem dX7_back_24 : decode cX7_back 24 = .ok (.iconst 0, 1) := by decide +kernel
theorem dX7_back_25 : decode cX7_back 25 = .ok (.aload_n 0, 1) := by decide +kernel
theorem dX7_back_26 : decode cX7_back 26 = .ok (.getfield 28, 3) := by decide +kernel
theorem dX7_back_29 : decode cX7_back 29 = .ok (.bipush 7, 2) := by decide +kernel
theorem dX7_back_31 : decode cX7_back 31 = .ok (.aload_n 0, 1) := by decide +kernel
theorem dX7_back_32 : decode cX7_back 32 = .ok (.getfield 145, 3) := by decide +kernel
theorem dX7_back_35 : decode cX7_back 35 = .ok (.imul, 1) := by decide +kernel
theorem dX7_back_36 : decode cX7_back 36 = .ok (.bipush 7, 2) := by decide +kernel
theorem dX7_back_38 : decode cX7_back 38 = .ok (.invokestatic 138, 3) := by decide +kernel
theorem dX7_back_41 : decode cX7_back 41 = .ok (.aload_n 0, 1) := by decide +kernel
theorem dX7_back_42 : decode cX7_back 42 = .ok (.iconst 0, 1) := by decide +kernel
theorem dX7_back_43 : decode cX7_back 43 = .ok (.putfield 142, 3) := by decide +kernel
theorem dX7_back_46 : decode cX7_back 46 = .ok (.aload_n 0, 1) := by decide +kernel
theorem dX7_back_47 : decode cX7_back 47 = .ok (.getfield 145, 3) := by decide +kernel
theorem dX7_back_50 : decode cX7_back 50 = .ok (.ireturn, 1) := by decide +kernel
theorem dX7_count_0 : decode cX7_count 0 = .ok (.iload_n 1, 1) := by decide +kernel
theorem dX7_count_1 : decode cX7_count 1 = .ok (.tableswitch 69 0 5 #[39, 44, 49, 54, 59, 64], 39) := by decide +kernel
theorem dX7_count_40 : decode cX7_count 40 = .ok (.aload_n 0, 1) := by decide +kernel
theorem dX7_count_41 : decode cX7_count 41 = .ok (.getfield 85, 3) := by decide +kernel
theorem dX7_count_44 : decode cX7_count 44 = .ok (.ireturn, 1) := by decide +kernel
theorem dX7_count_45 : decode cX7_count 45 = .ok (.aload_n 0, 1) := by decide +kernel
theorem dX7_count_46 : decode cX7_count 46 = .ok (.getfield 92, 3) := by decide +kernel
theorem dX7_count_49 : decode cX7_count 49 = .ok (.ireturn, 1) := by decide +kernel
theorem dX7_count_50 : decode cX7_count 50 = .ok (.aload_n 0, 1) := by decide +kernel
theorem dX7_count_51 : decode cX7_count 51 = .ok (.getfield 148, 3) := by decide +kernel
theorem dX7_count_54 : decode cX7_count 54 = .ok (.ireturn, 1) := by decide +kernel
theorem dX7_count_55 : decode cX7_count 55 = .ok (.aload_n 0, 1) := by decide +kernel
theorem dX7_count_56 : decode cX7_count 56 = .ok (.getfield 142, 3) := by decide +kernel
theorem dX7_count_59 : decode cX7_count 59 = .ok (.ireturn, 1) := by decide +kernel
theorem dX7_count_60 : decode cX7_count 60 = .ok (.aload_n 0, 1) := by decide +kernel
theorem dX7_count_61 : decode cX7_count 61 = .ok (.getfield 145, 3) := by decide +kernel
theorem dX7_count_64 : decode cX7_count 64 = .ok (.ireturn, 1) := by decide +kernel
theorem dX7_count_65 : decode cX7_count 65 = .ok (.aload_n 0, 1) := by decide +kernel
theorem dX7_count_66 : decode cX7_count 66 = .ok (.getfield 95, 3) := by decide +kernel
theorem dX7_count_69 : decode cX7_count 69 = .ok (.ireturn, 1) := by decide +kernel
theorem dX7_count_70 : decode cX7_count 70 = .ok (.iconst (-1), 1) := by decide +kernel
theorem dX7_count_71 : decode cX7_count 71 = .ok (.ireturn, 1) := by decide +kernel
theorem dJ9_max_7cf53_0 : decode cJ9_max_7cf53 0 = .ok (.iload_n 0, 1) := by decide +kernel
theorem dJ9_max_7cf53_1 : decode cJ9_max_7cf53 1 = .ok (.iload_n 1, 1) := by decide +kernel
theorem dJ9_max_7cf53_2 : decode cJ9_max_7cf53 2 = .ok (.if_icmp .lt 7, 3) := by decide +kernel
theorem dJ9_max_7cf53_5 : decode cJ9_max_7cf53 5 = .ok (.iload_n 0, 1) := by decide +kernel
theorem dJ9_max_7cf53_6 : decode cJ9_max_7cf53 6 = .ok (.goto 4, 3) := by decide +kernel
theorem dJ9_max_7cf53_9 : decode cJ9_max_7cf53 9 = .ok (.iload_n 1, 1) := by decide +kernel
theorem dJ9_max_7cf53_10 : decode cJ9_max_7cf53 10 = .ok (.ireturn, 1) := by decide +kernel
theorem dJ0_length_8abf5_0 : decode cJ0_length_8abf5 0 = .ok (.aload_n 0, 1) := by decide +kernel
theorem dJ0_length_8abf5_1 : decode cJ0_length_8abf5 1 = .ok (.getfield 9, 3) := by decide +kernel
theorem dJ0_length_8abf5_4 : decode cJ0_length_8abf5 4 = .ok (.arraylength, 1) := by decide +kernel
theorem dJ0_length_8abf5_5 : decode cJ0_length_8abf5 5 = .ok (.aload_n 0, 1) := by decide +kernel
theorem dJ0_length_8abf5_6 : decode cJ0_length_8abf5 6 = .ok (.invokevirtual 335, 3) := by decide +kernel
theorem dJ0_length_8abf5_9 : decode cJ0_length_8abf5 9 = .ok (.ishr, 1) := by decide +kernel
theorem dJ0_length_8abf5_10 : decode cJ0_length_8abf5 10 = .ok (.ireturn, 1) := by decide +kernel
theorem dJ0_charAt_5068e_0 : decode cJ0_charAt_5068e 0 = .ok (.aload_n 0, 1) := by decide +kernel
theorem dJ0_charAt_5068e_1 : decode cJ0_charAt_5068e 1 = .ok (.invokevirtual 492, 3) := by decide +kernel
theorem dJ0_charAt_5068e_4 : decode cJ0_charAt_5068e 4 = .ok (.ifCond .eq 12, 3) := by decide +kernel
theorem dJ0_charAt_5068e_7 : decode cJ0_charAt_5068e 7 = .ok (.aload_n 0, 1) := by decide +kernel
theorem dJ0_charAt_5068e_8 : decode cJ0_charAt_5068e 8 = .ok (.getfield 9, 3) := by decide +kernel
theorem dJ0_charAt_5068e_11 : decode cJ0_charAt_5068e 11 = .ok (.iload_n 1, 1) := by decide +kernel
theorem dJ0_charAt_5068e_12 : decode cJ0_charAt_5068e 12 = .ok (.invokestatic 495, 3) := by decide +kernel
theorem dJ0_charAt_5068e_15 : decode cJ0_charAt_5068e 15 = .ok (.ireturn, 1) := by decide +kernel
theorem dJ0_charAt_5068e_16 : decode cJ0_charAt_5068e 16 = .ok (.aload_n 0, 1) := by decide +kernel
theorem dJ0_charAt_5068e_17 : decode cJ0_charAt_5068e 17 = .ok (.getfield 9, 3) := by decide +kernel
theorem dJ0_charAt_5068e_20 : decode cJ0_charAt_5068e 20 = .ok (.iload_n 1, 1) := by decide +kernel
theorem dJ0_charAt_5068e_21 : decode cJ0_charAt_5068e 21 = .ok (.invokestatic 498, 3) := by decide +kernel
theorem dJ0_charAt_5068e_24 : decode cJ0_charAt_5068e 24 = .ok (.ireturn, 1) := by decide +kernel
theorem dJ0_coder_7d493_0 : decode cJ0_coder_7d493 0 = .ok (.getstatic 38, 3) := by decide +kernel
theorem dJ0_coder_7d493_3 : decode cJ0_coder_7d493 3 = .ok (.ifCond .eq 10, 3) := by decide +kernel
theorem dJ0_coder_7d493_6 : decode cJ0_coder_7d493 6 = .ok (.aload_n 0, 1) := by decide +kernel
theorem dJ0_coder_7d493_7 : decode cJ0_coder_7d493 7 = .ok (.getfield 15, 3) := by decide +kernel
theorem dJ0_coder_7d493_10 : decode cJ0_coder_7d493 10 = .ok (.goto 4, 3) := by decide +kernel
theorem dJ0_coder_7d493_13 : decode cJ0_coder_7d493 13 = .ok (.iconst 1, 1) := by decide +kernel
theorem dJ0_coder_7d493_14 : decode cJ0_coder_7d493 14 = .ok (.ireturn, 1) := by decide +kernel
theorem dJ0_isLatin1_aae02_0 : decode cJ0_isLatin1_aae02 0 = .ok (.getstatic 38, 3) := by decide +kernel
theorem dJ0_isLatin1_aae02_3 : decode cJ0_isLatin1_aae02 3 = .ok (.ifCond .eq 14, 3) := by decide +kernel
theorem dJ0_isLatin1_aae02_6 : decode cJ0_isLatin1_aae02 6 = .ok (.aload_n 0, 1) := by decide +kernel
theorem dJ0_isLatin1_aae02_7 : decode cJ0_isLatin1_aae02 7 = .ok (.getfield 15, 3) := by decide +kernel
theorem dJ0_isLatin1_aae02_10 : decode cJ0_isLatin1_aae02 10 = .ok (.ifCond .ne 7, 3) := by decide +kernel
theorem dJ0_isLatin1_aae02_13 : decode cJ0_isLatin1_aae02 13 = .ok (.iconst 1, 1) := by decide +kernel
theorem dJ0_isLatin1_aae02_14 : decode cJ0_isLatin1_aae02 14 = .ok (.goto 4, 3) := by decide +kernel
theorem dJ0_isLatin1_aae02_17 : decode cJ0_isLatin1_aae02 17 = .ok (.iconst 0, 1) := by decide +kernel
theorem dJ0_isLatin1_aae02_18 : decode cJ0_isLatin1_aae02 18 = .ok (.ireturn, 1) := by decide +kernel
theorem dJ0_checkIndex_df160_0 : decode cJ0_checkIndex_df160 0 = .ok (.iload_n 0, 1) := by decide +kernel
theorem dJ0_checkIndex_df160_1 : decode cJ0_checkIndex_df160 1 = .ok (.iload_n 1, 1) := by decide +kernel
theorem dJ0_checkIndex_df160_2 : decode cJ0_checkIndex_df160 2 = .ok (.getstatic 1053, 3) := by decide +kernel
theorem dJ0_checkIndex_df160_5 : decode cJ0_checkIndex_df160 5 = .ok (.invokestatic 1059, 3) := by decide +kernel
theorem dJ0_checkIndex_df160_8 : decode cJ0_checkIndex_df160 8 = .ok (.pop, 1) := by decide +kernel
theorem dJ0_checkIndex_df160_9 : decode cJ0_checkIndex_df160 9 = .ok (.return_, 1) := by decide +kernel
theorem dJ1_charAt_3b067_0 : decode cJ1_charAt_3b067 0 = .ok (.iload_n 1, 1) := by decide +kernel
theorem dJ1_charAt_3b067_1 : decode cJ1_charAt_3b067 1 = .ok (.aload_n 0, 1) := by decide +kernel
theorem dJ1_charAt_3b067_2 : decode cJ1_charAt_3b067 2 = .ok (.arraylength, 1) := by decide +kernel
theorem dJ1_charAt_3b067_3 : decode cJ1_charAt_3b067 3 = .ok (.invokestatic 9, 3) := by decide +kernel
theorem dJ1_charAt_3b067_6 : decode cJ1_charAt_3b067 6 = .ok (.aload_n 0, 1) := by decide +kernel
theorem dJ1_charAt_3b067_7 : decode cJ1_charAt_3b067 7 = .ok (.iload_n 1, 1) := by decide +kernel
theorem dJ1_charAt_3b067_8 : decode cJ1_charAt_3b067 8 = .ok (.baload, 1) := by decide +kernel
theorem dJ1_charAt_3b067_9 : decode cJ1_charAt_3b067 9 = .ok (.sipush 255, 3) := by decide +kernel
theorem dJ1_charAt_3b067_12 : decode cJ1_charAt_3b067 12 = .ok (.iand, 1) := by decide +kernel
theorem dJ1_charAt_3b067_13 : decode cJ1_charAt_3b067 13 = .ok (.i2c, 1) := by decide +kernel
theorem dJ1_charAt_3b067_14 : decode cJ1_charAt_3b067 14 = .ok (.ireturn, 1) := by decide +kernel
theorem dJ2_getChar_3b067_0 : decode cJ2_getChar_3b067 0 = .ok (.getstatic 44, 3) := by decide +kernel
theorem dJ2_getChar_3b067_3 : decode cJ2_getChar_3b067 3 = .ok (.ifCond .ne 25, 3) := by decide +kernel
theorem dJ2_getChar_3b067_6 : decode cJ2_getChar_3b067 6 = .ok (.iload_n 1, 1) := by decide +kernel
theorem dJ2_getChar_3b067_7 : decode cJ2_getChar_3b067 7 = .ok (.ifCond .lt 11, 3) := by decide +kernel
theorem dJ2_getChar_3b067_10 : decode cJ2_getChar_3b067 10 = .ok (.iload_n 1, 1) := by decide +kernel
theorem dJ2_getChar_3b067_11 : decode cJ2_getChar_3b067 11 = .ok (.aload_n 0, 1) := by decide +kernel
theorem dJ2_getChar_3b067_12 : decode cJ2_getChar_3b067 12 = .ok (.invokestatic 48, 3) := by decide +kernel
theorem dJ2_getChar_3b067_15 : decode cJ2_getChar_3b067 15 = .ok (.if_icmp .lt 13, 3) := by decide +kernel
theorem dJ2_getChar_3b067_18 : decode cJ2_getChar_3b067 18 = .ok (.new 52, 3) := by decide +kernel
theorem dJ2_getChar_3b067_21 : decode cJ2_getChar_3b067 21 = .ok (.dup, 1) := by decide +kernel
theorem dJ2_getChar_3b067_22 : decode cJ2_getChar_3b067 22 = .ok (.ldc 54, 2) := by decide +kernel
theorem dJ2_getChar_3b067_24 : decode cJ2_getChar_3b067 24 = .ok (.invokespecial 56, 3) := by decide +kernel
theorem dJ2_getChar_3b067_27 : decode cJ2_getChar_3b067 27 = .ok (.athrow, 1) := by decide +kernel
theorem dJ2_getChar_3b067_28 : decode cJ2_getChar_3b067 28 = .ok (.iload_n 1, 1) := by decide +kernel
theorem dJ2_getChar_3b067_29 : decode cJ2_getChar_3b067 29 = .ok (.iconst 1, 1) := by decide +kernel
theorem dJ2_getChar_3b067_30 : decode cJ2_getChar_3b067 30 = .ok (.ishl, 1) := by decide +kernel
theorem dJ2_getChar_3b067_31 : decode cJ2_getChar_3b067 31 = .ok (.istore_n 1, 1) := by decide +kernel
theorem dJ2_getChar_3b067_32 : decode cJ2_getChar_3b067 32 = .ok (.aload_n 0, 1) := by decide +kernel
theorem dJ2_getChar_3b067_33 : decode cJ2_getChar_3b067 33 = .ok (.iload_n 1, 1) := by decide +kernel
theorem dJ2_getChar_3b067_34 : decode cJ2_getChar_3b067 34 = .ok (.iinc 1 1, 3) := by decide +kernel
theorem dJ2_getChar_3b067_37 : decode cJ2_getChar_3b067 37 = .ok (.baload, 1) := by decide +kernel
theorem dJ2_getChar_3b067_38 : decode cJ2_getChar_3b067 38 = .ok (.sipush 255, 3) := by decide +kernel
theorem dJ2_getChar_3b067_41 : decode cJ2_getChar_3b067 41 = .ok (.iand, 1) := by decide +kernel
theorem dJ2_getChar_3b067_42 : decode cJ2_getChar_3b067 42 = .ok (.getstatic 59, 3) := by decide +kernel
theorem dJ2_getChar_3b067_45 : decode cJ2_getChar_3b067 45 = .ok (.ishl, 1) := by decide +kernel
theorem dJ2_getChar_3b067_46 : decode cJ2_getChar_3b067 46 = .ok (.aload_n 0, 1) := by decide +kernel
theorem dJ2_getChar_3b067_47 : decode cJ2_getChar_3b067 47 = .ok (.iload_n 1, 1) := by decide +kernel
theorem dJ2_getChar_3b067_48 : decode cJ2_getChar_3b067 48 = .ok (.baload, 1) := by decide +kernel
theorem dJ2_getChar_3b067_49 : decode cJ2_getChar_3b067 49 = .ok (.sipush 255, 3) := by decide +kernel
theorem dJ2_getChar_3b067_52 : decode cJ2_getChar_3b067 52 = .ok (.iand, 1) := by decide +kernel
theorem dJ2_getChar_3b067_53 : decode cJ2_getChar_3b067 53 = .ok (.getstatic 63, 3) := by decide +kernel
theorem dJ2_getChar_3b067_56 : decode cJ2_getChar_3b067 56 = .ok (.ishl, 1) := by decide +kernel
theorem dJ2_getChar_3b067_57 : decode cJ2_getChar_3b067 57 = .ok (.ior, 1) := by decide +kernel
theorem dJ2_getChar_3b067_58 : decode cJ2_getChar_3b067 58 = .ok (.i2c, 1) := by decide +kernel
theorem dJ2_getChar_3b067_59 : decode cJ2_getChar_3b067 59 = .ok (.ireturn, 1) := by decide +kernel
theorem dJ2_length_9d52b_0 : decode cJ2_length_9d52b 0 = .ok (.aload_n 0, 1) := by decide +kernel
theorem dJ2_length_9d52b_1 : decode cJ2_length_9d52b 1 = .ok (.arraylength, 1) := by decide +kernel
theorem dJ2_length_9d52b_2 : decode cJ2_length_9d52b 2 = .ok (.iconst 1, 1) := by decide +kernel
theorem dJ2_length_9d52b_3 : decode cJ2_length_9d52b 3 = .ok (.ishr, 1) := by decide +kernel
theorem dJ2_length_9d52b_4 : decode cJ2_length_9d52b 4 = .ok (.ireturn, 1) := by decide +kernel
theorem dJ2_charAt_3b067_0 : decode cJ2_charAt_3b067 0 = .ok (.iload_n 1, 1) := by decide +kernel
theorem dJ2_charAt_3b067_1 : decode cJ2_charAt_3b067 1 = .ok (.aload_n 0, 1) := by decide +kernel
theorem dJ2_charAt_3b067_2 : decode cJ2_charAt_3b067 2 = .ok (.invokestatic 67, 3) := by decide +kernel
theorem dJ2_charAt_3b067_5 : decode cJ2_charAt_3b067 5 = .ok (.aload_n 0, 1) := by decide +kernel
theorem dJ2_charAt_3b067_6 : decode cJ2_charAt_3b067 6 = .ok (.iload_n 1, 1) := by decide +kernel
theorem dJ2_charAt_3b067_7 : decode cJ2_charAt_3b067 7 = .ok (.invokestatic 71, 3) := by decide +kernel
theorem dJ2_charAt_3b067_10 : decode cJ2_charAt_3b067 10 = .ok (.ireturn, 1) := by decide +kernel
theorem dJ2_checkIndex_2214a_0 : decode cJ2_checkIndex_2214a 0 = .ok (.iload_n 0, 1) := by decide +kernel
theorem dJ2_checkIndex_2214a_1 : decode cJ2_checkIndex_2214a 1 = .ok (.aload_n 1, 1) := by decide +kernel
theorem dJ2_checkIndex_2214a_2 : decode cJ2_checkIndex_2214a 2 = .ok (.invokestatic 48, 3) := by decide +kernel
theorem dJ2_checkIndex_2214a_5 : decode cJ2_checkIndex_2214a 5 = .ok (.invokestatic 414, 3) := by decide +kernel
theorem dJ2_checkIndex_2214a_8 : decode cJ2_checkIndex_2214a 8 = .ok (.return_, 1) := by decide +kernel
theorem dJ3_checkIndex_8e157_0 : decode cJ3_checkIndex_8e157 0 = .ok (.iload_n 0, 1) := by decide +kernel
theorem dJ3_checkIndex_8e157_1 : decode cJ3_checkIndex_8e157 1 = .ok (.ifCond .lt 8, 3) := by decide +kernel
theorem dJ3_checkIndex_8e157_4 : decode cJ3_checkIndex_8e157 4 = .ok (.iload_n 0, 1) := by decide +kernel
theorem dJ3_checkIndex_8e157_5 : decode cJ3_checkIndex_8e157 5 = .ok (.iload_n 1, 1) := by decide +kernel
theorem dJ3_checkIndex_8e157_6 : decode cJ3_checkIndex_8e157 6 = .ok (.if_icmp .lt 10, 3) := by decide +kernel
theorem dJ3_checkIndex_8e157_9 : decode cJ3_checkIndex_8e157 9 = .ok (.aload_n 2, 1) := by decide +kernel
theorem dJ3_checkIndex_8e157_10 : decode cJ3_checkIndex_8e157 10 = .ok (.iload_n 0, 1) := by decide +kernel
theorem dJ3_checkIndex_8e157_11 : decode cJ3_checkIndex_8e157 11 = .ok (.iload_n 1, 1) := by decide +kernel
theorem dJ3_checkIndex_8e157_12 : decode cJ3_checkIndex_8e157 12 = .ok (.invokestatic 95, 3) := by decide +kernel
theorem dJ3_checkIndex_8e157_15 : decode cJ3_checkIndex_8e157 15 = .ok (.athrow, 1) := by decide +kernel
theorem dJ3_checkIndex_8e157_16 : decode cJ3_checkIndex_8e157 16 = .ok (.iload_n 0, 1) := by decide +kernel
theorem dJ3_checkIndex_8e157_17 : decode cJ3_checkIndex_8e157 17 = .ok (.ireturn, 1) := by decide +kernel
theorem dL_law_0 : decode cL_law 0 = .ok (.new 7, 3) := by decide +kernel
theorem dL_law_3 : decode cL_law 3 = .ok (.dup, 1) := by decide +kernel
theorem dL_law_4 : decode cL_law 4 = .ok (.invokespecial 9, 3) := by decide +kernel
theorem dL_law_7 : decode cL_law 7 = .ok (.astore_n 1, 1) := by decide +kernel
theorem dL_law_8 : decode cL_law 8 = .ok (.new 10, 3) := by decide +kernel
theorem dL_law_11 : decode cL_law 11 = .ok (.dup, 1) := by decide +kernel
theorem dL_law_12 : decode cL_law 12 = .ok (.invokespecial 12, 3) := by decide +kernel
theorem dL_law_15 : decode cL_law 15 = .ok (.astore_n 2, 1) := by decide +kernel
theorem dL_law_16 : decode cL_law 16 = .ok (.iconst 0, 1) := by decide +kernel
theorem dL_law_17 : decode cL_law 17 = .ok (.istore_n 3, 1) := by decide +kernel
theorem dL_law_18 : decode cL_law 18 = .ok (.iload_n 3, 1) := by decide +kernel
theorem dL_law_19 : decode cL_law 19 = .ok (.aload_n 0, 1) := by decide +kernel
theorem dL_law_20 : decode cL_law 20 = .ok (.arraylength, 1) := by decide +kernel
theorem dL_law_21 : decode cL_law 21 = .ok (.iconst 4, 1) := by decide +kernel
theorem dL_law_22 : decode cL_law 22 = .ok (.isub, 1) := by decide +kernel
theorem dL_law_23 : decode cL_law 23 = .ok (.if_icmp .gt 780, 3) := by decide +kernel
theorem dL_law_26 : decode cL_law 26 = .ok (.aload_n 0, 1) := by decide +kernel
theorem dL_law_27 : decode cL_law 27 = .ok (.iload_n 3, 1) := by decide +kernel
theorem dL_law_28 : decode cL_law 28 = .ok (.iaload, 1) := by decide +kernel
theorem dL_law_29 : decode cL_law 29 = .ok (.bipush 31, 2) := by decide +kernel
theorem dL_law_31 : decode cL_law 31 = .ok (.iand, 1) := by decide +kernel
theorem dL_law_32 : decode cL_law 32 = .ok (.tableswitch 765 0 26 #[124, 147, 160, 173, 186, 219, 242, 275, 298, 311, 324, 337, 360, 373, 406, 429, 452, 485, 508, 551, 564, 597, 640, 673, 716, 729, 742], 124) := by decide +kernel
theorem dL_law_156 : decode cL_law 156 = .ok (.aload_n 1, 1) := by decide +kernel
theorem dL_law_157 : decode cL_law 157 = .ok (.aload_n 0, 1) := by decide +kernel
theorem dL_law_158 : decode cL_law 158 = .ok (.iload_n 3, 1) := by decide +kernel
theorem dL_law_159 : decode cL_law 159 = .ok (.iconst 1, 1) := by decide +kernel
theorem dL_law_160 : decode cL_law 160 = .ok (.iadd, 1) := by decide +kernel
theorem dL_law_161 : decode cL_law 161 = .ok (.iaload, 1) := by decide +kernel
theorem dL_law_162 : decode cL_law 162 = .ok (.invokevirtual 13, 3) := by decide +kernel
theorem dL_law_165 : decode cL_law 165 = .ok (.aload_n 2, 1) := by decide +kernel
theorem dL_law_166 : decode cL_law 166 = .ok (.aload_n 0, 1) := by decide +kernel
theorem dL_law_167 : decode cL_law 167 = .ok (.iload_n 3, 1) := by decide +kernel
theorem dL_law_168 : decode cL_law 168 = .ok (.iconst 1, 1) := by decide +kernel
theorem dL_law_169 : decode cL_law 169 = .ok (.iadd, 1) := by decide +kernel
theorem dL_law_170 : decode cL_law 170 = .ok (.iaload, 1) := by decide +kernel
theorem dL_law_171 : decode cL_law 171 = .ok (.invokevirtual 17, 3) := by decide +kernel
theorem dL_law_174 : decode cL_law 174 = .ok (.if_icmp .eq 623, 3) := by decide +kernel
theorem dL_law_177 : decode cL_law 177 = .ok (.iconst 0, 1) := by decide +kernel
theorem dL_law_178 : decode cL_law 178 = .ok (.ireturn, 1) := by decide +kernel
theorem dL_law_179 : decode cL_law 179 = .ok (.aload_n 1, 1) := by decide +kernel
theorem dL_law_180 : decode cL_law 180 = .ok (.invokevirtual 18, 3) := by decide +kernel
theorem dL_law_183 : decode cL_law 183 = .ok (.aload_n 2, 1) := by decide +kernel
theorem dL_law_184 : decode cL_law 184 = .ok (.invokevirtual 22, 3) := by decide +kernel
theorem dL_law_187 : decode cL_law 187 = .ok (.if_icmp .eq 610, 3) := by decide +kernel
theorem dL_law_190 : decode cL_law 190 = .ok (.iconst 0, 1) := by decide +kernel
theorem dL_law_191 : decode cL_law 191 = .ok (.ireturn, 1) := by decide +kernel
theorem dL_law_192 : decode cL_law 192 = .ok (.aload_n 1, 1) := by decide +kernel
theorem dL_law_193 : decode cL_law 193 = .ok (.invokevirtual 23, 3) := by decide +kernel
theorem dL_law_196 : decode cL_law 196 = .ok (.aload_n 2, 1) := by decide +kernel
theorem dL_law_197 : decode cL_law 197 = .ok (.invokevirtual 26, 3) := by decide +kernel
theorem dL_law_200 : decode cL_law 200 = .ok (.if_icmp .eq 597, 3) := by decide +kernel
theorem dL_law_203 : decode cL_law 203 = .ok (.iconst 0, 1) := by decide +kernel
theorem dL_law_204 : decode cL_law 204 = .ok (.ireturn, 1) := by decide +kernel
theorem dL_law_205 : decode cL_law 205 = .ok (.aload_n 1, 1) := by decide +kernel
theorem dL_law_206 : decode cL_law 206 = .ok (.invokevirtual 27, 3) := by decide +kernel
theorem dL_law_209 : decode cL_law 209 = .ok (.aload_n 2, 1) := by decide +kernel
theorem dL_law_210 : decode cL_law 210 = .ok (.invokevirtual 30, 3) := by decide +kernel
theorem dL_law_213 : decode cL_law 213 = .ok (.if_icmp .eq 584, 3) := by decide +kernel
theorem dL_law_216 : decode cL_law 216 = .ok (.iconst 0, 1) := by decide +kernel
theorem dL_law_217 : decode cL_law 217 = .ok (.ireturn, 1) := by decide +kernel
theorem dL_law_218 : decode cL_law 218 = .ok (.aload_n 1, 1) := by decide +kernel
theorem dL_law_219 : decode cL_law 219 = .ok (.aload_n 0, 1) := by decide +kernel
theorem dL_law_220 : decode cL_law 220 = .ok (.iload_n 3, 1) := by decide +kernel
theorem dL_law_221 : decode cL_law 221 = .ok (.iconst 1, 1) := by decide +kernel
theorem dL_law_222 : decode cL_law 222 = .ok (.iadd, 1) := by decide +kernel
theorem dL_law_223 : decode cL_law 223 = .ok (.iaload, 1) := by decide +kernel
theorem dL_law_224 : decode cL_law 224 = .ok (.aload_n 0, 1) := by decide +kernel
theorem dL_law_225 : decode cL_law 225 = .ok (.iload_n 3, 1) := by decide +kernel
theorem dL_law_226 : decode cL_law 226 = .ok (.iconst 2, 1) := by decide +kernel
theorem dL_law_227 : decode cL_law 227 = .ok (.iadd, 1) := by decide +kernel
theorem dL_law_228 : decode cL_law 228 = .ok (.iaload, 1) := by decide +kernel
theorem dL_law_229 : decode cL_law 229 = .ok (.invokevirtual 31, 3) := by decide +kernel
theorem dL_law_232 : decode cL_law 232 = .ok (.aload_n 2, 1) := by decide +kernel
theorem dL_law_233 : decode cL_law 233 = .ok (.aload_n 0, 1) := by decide +kernel
theorem dL_law_234 : decode cL_law 234 = .ok (.iload_n 3, 1) := by decide +kernel
theorem dL_law_235 : decode cL_law 235 = .ok (.iconst 1, 1) := by decide +kernel
theorem dL_law_236 : decode cL_law 236 = .ok (.iadd, 1) := by decide +kernel
theorem dL_law_237 : decode cL_law 237 = .ok (.iaload, 1) := by decide +kernel
theorem dL_law_238 : decode cL_law 238 = .ok (.aload_n 0, 1) := by decide +kernel
theorem dL_law_239 : decode cL_law 239 = .ok (.iload_n 3, 1) := by decide +kernel
theorem dL_law_240 : decode cL_law 240 = .ok (.iconst 2, 1) := by decide +kernel
theorem dL_law_241 : decode cL_law 241 = .ok (.iadd, 1) := by decide +kernel
theorem dL_law_242 : decode cL_law 242 = .ok (.iaload, 1) := by decide +kernel
theorem dL_law_243 : decode cL_law 243 = .ok (.invokevirtual 35, 3) := by decide +kernel
theorem dL_law_246 : decode cL_law 246 = .ok (.if_icmp .eq 551, 3) := by decide +kernel
theorem dL_law_249 : decode cL_law 249 = .ok (.iconst 0, 1) := by decide +kernel
theorem dL_law_250 : decode cL_law 250 = .ok (.ireturn, 1) := by decide +kernel
theorem dL_law_251 : decode cL_law 251 = .ok (.aload_n 1, 1) := by decide +kernel
theorem dL_law_252 : decode cL_law 252 = .ok (.aload_n 0, 1) := by decide +kernel
theorem dL_law_253 : decode cL_law 253 = .ok (.iload_n 3, 1) := by decide +kernel
theorem dL_law_254 : decode cL_law 254 = .ok (.iconst 1, 1) := by decide +kernel
theorem dL_law_255 : decode cL_law 255 = .ok (.iadd, 1) := by decide +kernel
theorem dL_law_256 : decode cL_law 256 = .ok (.iaload, 1) := by decide +kernel
theorem dL_law_257 : decode cL_law 257 = .ok (.invokevirtual 36, 3) := by decide +kernel
theorem dL_law_260 : decode cL_law 260 = .ok (.aload_n 2, 1) := by decide +kernel
theorem dL_law_261 : decode cL_law 261 = .ok (.aload_n 0, 1) := by decide +kernel
theorem dL_law_262 : decode cL_law 262 = .ok (.iload_n 3, 1) := by decide +kernel
theorem dL_law_263 : decode cL_law 263 = .ok (.iconst 1, 1) := by decide +kernel
theorem dL_law_264 : decode cL_law 264 = .ok (.iadd, 1) := by decide +kernel
theorem dL_law_265 : decode cL_law 265 = .ok (.iaload, 1) := by decide +kernel
theorem dL_law_266 : decode cL_law 266 = .ok (.invokevirtual 39, 3) := by decide +kernel
theorem dL_law_269 : decode cL_law 269 = .ok (.if_icmp .eq 528, 3) := by decide +kernel
theorem dL_law_272 : decode cL_law 272 = .ok (.iconst 0, 1) := by decide +kernel
theorem dL_law_273 : decode cL_law 273 = .ok (.ireturn, 1) := by decide +kernel
theorem dL_law_274 : decode cL_law 274 = .ok (.aload_n 1, 1) := by decide +kernel
theorem dL_law_275 : decode cL_law 275 = .ok (.aload_n 0, 1) := by decide +kernel
theorem dL_law_276 : decode cL_law 276 = .ok (.iload_n 3, 1) := by decide +kernel
theorem dL_law_277 : decode cL_law 277 = .ok (.iconst 1, 1) := by decide +kernel
theorem dL_law_278 : decode cL_law 278 = .ok (.iadd, 1) := by decide +kernel
theorem dL_law_279 : decode cL_law 279 = .ok (.iaload, 1) := by decide +kernel
theorem dL_law_280 : decode cL_law 280 = .ok (.aload_n 0, 1) := by decide +kernel
theorem dL_law_281 : decode cL_law 281 = .ok (.iload_n 3, 1) := by decide +kernel
theorem dL_law_282 : decode cL_law 282 = .ok (.iconst 2, 1) := by decide +kernel
theorem dL_law_283 : decode cL_law 283 = .ok (.iadd, 1) := by decide +kernel
theorem dL_law_284 : decode cL_law 284 = .ok (.iaload, 1) := by decide +kernel
theorem dL_law_285 : decode cL_law 285 = .ok (.invokevirtual 40, 3) := by decide +kernel
theorem dL_law_288 : decode cL_law 288 = .ok (.aload_n 2, 1) := by decide +kernel
theorem dL_law_289 : decode cL_law 289 = .ok (.aload_n 0, 1) := by decide +kernel
theorem dL_law_290 : decode cL_law 290 = .ok (.iload_n 3, 1) := by decide +kernel
theorem dL_law_291 : decode cL_law 291 = .ok (.iconst 1, 1) := by decide +kernel
theorem dL_law_292 : decode cL_law 292 = .ok (.iadd, 1) := by decide +kernel
theorem dL_law_293 : decode cL_law 293 = .ok (.iaload, 1) := by decide +kernel
theorem dL_law_294 : decode cL_law 294 = .ok (.aload_n 0, 1) := by decide +kernel
theorem dL_law_295 : decode cL_law 295 = .ok (.iload_n 3, 1) := by decide +kernel
theorem dL_law_296 : decode cL_law 296 = .ok (.iconst 2, 1) := by decide +kernel
theorem dL_law_297 : decode cL_law 297 = .ok (.iadd, 1) := by decide +kernel
theorem dL_law_298 : decode cL_law 298 = .ok (.iaload, 1) := by decide +kernel
theorem dL_law_299 : decode cL_law 299 = .ok (.invokevirtual 43, 3) := by decide +kernel
theorem dL_law_302 : decode cL_law 302 = .ok (.if_icmp .eq 495, 3) := by decide +kernel
theorem dL_law_305 : decode cL_law 305 = .ok (.iconst 0, 1) := by decide +kernel
theorem dL_law_306 : decode cL_law 306 = .ok (.ireturn, 1) := by decide +kernel
theorem dL_law_307 : decode cL_law 307 = .ok (.aload_n 1, 1) := by decide +kernel
theorem dL_law_308 : decode cL_law 308 = .ok (.aload_n 0, 1) := by decide +kernel
theorem dL_law_309 : decode cL_law 309 = .ok (.iload_n 3, 1) := by decide +kernel
theorem dL_law_310 : decode cL_law 310 = .ok (.iconst 1, 1) := by decide +kernel
theorem dL_law_311 : decode cL_law 311 = .ok (.iadd, 1) := by decide +kernel
theorem dL_law_312 : decode cL_law 312 = .ok (.iaload, 1) := by decide +kernel
theorem dL_law_313 : decode cL_law 313 = .ok (.invokevirtual 44, 3) := by decide +kernel
theorem dL_law_316 : decode cL_law 316 = .ok (.aload_n 2, 1) := by decide +kernel
theorem dL_law_317 : decode cL_law 317 = .ok (.aload_n 0, 1) := by decide +kernel
theorem dL_law_318 : decode cL_law 318 = .ok (.iload_n 3, 1) := by decide +kernel
theorem dL_law_319 : decode cL_law 319 = .ok (.iconst 1, 1) := by decide +kernel
theorem dL_law_320 : decode cL_law 320 = .ok (.iadd, 1) := by decide +kernel
theorem dL_law_321 : decode cL_law 321 = .ok (.iaload, 1) := by decide +kernel
theorem dL_law_322 : decode cL_law 322 = .ok (.invokevirtual 47, 3) := by decide +kernel
theorem dL_law_325 : decode cL_law 325 = .ok (.if_icmp .eq 472, 3) := by decide +kernel
theorem dL_law_328 : decode cL_law 328 = .ok (.iconst 0, 1) := by decide +kernel
theorem dL_law_329 : decode cL_law 329 = .ok (.ireturn, 1) := by decide +kernel
theorem dL_law_330 : decode cL_law 330 = .ok (.aload_n 1, 1) := by decide +kernel
theorem dL_law_331 : decode cL_law 331 = .ok (.invokevirtual 48, 3) := by decide +kernel
theorem dL_law_334 : decode cL_law 334 = .ok (.aload_n 2, 1) := by decide +kernel
theorem dL_law_335 : decode cL_law 335 = .ok (.invokevirtual 51, 3) := by decide +kernel
theorem dL_law_338 : decode cL_law 338 = .ok (.if_icmp .eq 459, 3) := by decide +kernel
theorem dL_law_341 : decode cL_law 341 = .ok (.iconst 0, 1) := by decide +kernel
theorem dL_law_342 : decode cL_law 342 = .ok (.ireturn, 1) := by decide +kernel
theorem dL_law_343 : decode cL_law 343 = .ok (.aload_n 1, 1) := by decide +kernel
theorem dL_law_344 : decode cL_law 344 = .ok (.invokevirtual 52, 3) := by decide +kernel
theorem dL_law_347 : decode cL_law 347 = .ok (.aload_n 2, 1) := by decide +kernel
theorem dL_law_348 : decode cL_law 348 = .ok (.invokevirtual 55, 3) := by decide +kernel
theorem dL_law_351 : decode cL_law 351 = .ok (.if_icmp .eq 446, 3) := by decide +kernel
theorem dL_law_354 : decode cL_law 354 = .ok (.iconst 0, 1) := by decide +kernel
theorem dL_law_355 : decode cL_law 355 = .ok (.ireturn, 1) := by decide +kernel
theorem dL_law_356 : decode cL_law 356 = .ok (.aload_n 1, 1) := by decide +kernel
theorem dL_law_357 : decode cL_law 357 = .ok (.invokevirtual 56, 3) := by decide +kernel
theorem dL_law_360 : decode cL_law 360 = .ok (.aload_n 2, 1) := by decide +kernel
theorem dL_law_361 : decode cL_law 361 = .ok (.invokevirtual 59, 3) := by decide +kernel
theorem dL_law_364 : decode cL_law 364 = .ok (.if_icmp .eq 433, 3) := by decide +kernel
theorem dL_law_367 : decode cL_law 367 = .ok (.iconst 0, 1) := by decide +kernel
theorem dL_law_368 : decode cL_law 368 = .ok (.ireturn, 1) := by decide +kernel
theorem dL_law_369 : decode cL_law 369 = .ok (.aload_n 1, 1) := by decide +kernel
theorem dL_law_370 : decode cL_law 370 = .ok (.aload_n 0, 1) := by decide +kernel
theorem dL_law_371 : decode cL_law 371 = .ok (.iload_n 3, 1) := by decide +kernel
theorem dL_law_372 : decode cL_law 372 = .ok (.iconst 1, 1) := by decide +kernel
theorem dL_law_373 : decode cL_law 373 = .ok (.iadd, 1) := by decide +kernel
theorem dL_law_374 : decode cL_law 374 = .ok (.iaload, 1) := by decide +kernel
theorem dL_law_375 : decode cL_law 375 = .ok (.invokevirtual 60, 3) := by decide +kernel
theorem dL_law_378 : decode cL_law 378 = .ok (.aload_n 2, 1) := by decide +kernel
theorem dL_law_379 : decode cL_law 379 = .ok (.aload_n 0, 1) := by decide +kernel
theorem dL_law_380 : decode cL_law 380 = .ok (.iload_n 3, 1) := by decide +kernel
theorem dL_law_381 : decode cL_law 381 = .ok (.iconst 1, 1) := by decide +kernel
theorem dL_law_382 : decode cL_law 382 = .ok (.iadd, 1) := by decide +kernel
theorem dL_law_383 : decode cL_law 383 = .ok (.iaload, 1) := by decide +kernel
theorem dL_law_384 : decode cL_law 384 = .ok (.invokevirtual 63, 3) := by decide +kernel
theorem dL_law_387 : decode cL_law 387 = .ok (.if_icmp .eq 410, 3) := by decide +kernel
theorem dL_law_390 : decode cL_law 390 = .ok (.iconst 0, 1) := by decide +kernel
theorem dL_law_391 : decode cL_law 391 = .ok (.ireturn, 1) := by decide +kernel
theorem dL_law_392 : decode cL_law 392 = .ok (.aload_n 1, 1) := by decide +kernel
theorem dL_law_393 : decode cL_law 393 = .ok (.invokevirtual 64, 3) := by decide +kernel
theorem dL_law_396 : decode cL_law 396 = .ok (.aload_n 2, 1) := by decide +kernel
theorem dL_law_397 : decode cL_law 397 = .ok (.invokevirtual 67, 3) := by decide +kernel
theorem dL_law_400 : decode cL_law 400 = .ok (.if_icmp .eq 397, 3) := by decide +kernel
theorem dL_law_403 : decode cL_law 403 = .ok (.iconst 0, 1) := by decide +kernel
theorem dL_law_404 : decode cL_law 404 = .ok (.ireturn, 1) := by decide +kernel
theorem dL_law_405 : decode cL_law 405 = .ok (.aload_n 1, 1) := by decide +kernel
theorem dL_law_406 : decode cL_law 406 = .ok (.aload_n 0, 1) := by decide +kernel
theorem dL_law_407 : decode cL_law 407 = .ok (.iload_n 3, 1) := by decide +kernel
theorem dL_law_408 : decode cL_law 408 = .ok (.iconst 1, 1) := by decide +kernel
theorem dL_law_409 : decode cL_law 409 = .ok (.iadd, 1) := by decide +kernel
theorem dL_law_410 : decode cL_law 410 = .ok (.iaload, 1) := by decide +kernel
theorem dL_law_411 : decode cL_law 411 = .ok (.aload_n 0, 1) := by decide +kernel
theorem dL_law_412 : decode cL_law 412 = .ok (.iload_n 3, 1) := by decide +kernel
theorem dL_law_413 : decode cL_law 413 = .ok (.iconst 2, 1) := by decide +kernel
theorem dL_law_414 : decode cL_law 414 = .ok (.iadd, 1) := by decide +kernel
theorem dL_law_415 : decode cL_law 415 = .ok (.iaload, 1) := by decide +kernel
theorem dL_law_416 : decode cL_law 416 = .ok (.invokevirtual 68, 3) := by decide +kernel
theorem dL_law_419 : decode cL_law 419 = .ok (.aload_n 2, 1) := by decide +kernel
theorem dL_law_420 : decode cL_law 420 = .ok (.aload_n 0, 1) := by decide +kernel
theorem dL_law_421 : decode cL_law 421 = .ok (.iload_n 3, 1) := by decide +kernel
theorem dL_law_422 : decode cL_law 422 = .ok (.iconst 1, 1) := by decide +kernel
theorem dL_law_423 : decode cL_law 423 = .ok (.iadd, 1) := by decide +kernel
theorem dL_law_424 : decode cL_law 424 = .ok (.iaload, 1) := by decide +kernel
theorem dL_law_425 : decode cL_law 425 = .ok (.aload_n 0, 1) := by decide +kernel
theorem dL_law_426 : decode cL_law 426 = .ok (.iload_n 3, 1) := by decide +kernel
theorem dL_law_427 : decode cL_law 427 = .ok (.iconst 2, 1) := by decide +kernel
theorem dL_law_428 : decode cL_law 428 = .ok (.iadd, 1) := by decide +kernel
theorem dL_law_429 : decode cL_law 429 = .ok (.iaload, 1) := by decide +kernel
theorem dL_law_430 : decode cL_law 430 = .ok (.invokevirtual 71, 3) := by decide +kernel
theorem dL_law_433 : decode cL_law 433 = .ok (.if_icmp .eq 364, 3) := by decide +kernel
theorem dL_law_436 : decode cL_law 436 = .ok (.iconst 0, 1) := by decide +kernel
theorem dL_law_437 : decode cL_law 437 = .ok (.ireturn, 1) := by decide +kernel
theorem dL_law_438 : decode cL_law 438 = .ok (.aload_n 1, 1) := by decide +kernel
theorem dL_law_439 : decode cL_law 439 = .ok (.aload_n 0, 1) := by decide +kernel
theorem dL_law_440 : decode cL_law 440 = .ok (.iload_n 3, 1) := by decide +kernel
theorem dL_law_441 : decode cL_law 441 = .ok (.iconst 1, 1) := by decide +kernel
theorem dL_law_442 : decode cL_law 442 = .ok (.iadd, 1) := by decide +kernel
theorem dL_law_443 : decode cL_law 443 = .ok (.iaload, 1) := by decide +kernel
theorem dL_law_444 : decode cL_law 444 = .ok (.invokevirtual 72, 3) := by decide +kernel
theorem dL_law_447 : decode cL_law 447 = .ok (.aload_n 2, 1) := by decide +kernel
theorem dL_law_448 : decode cL_law 448 = .ok (.aload_n 0, 1) := by decide +kernel
theorem dL_law_449 : decode cL_law 449 = .ok (.iload_n 3, 1) := by decide +kernel
theorem dL_law_450 : decode cL_law 450 = .ok (.iconst 1, 1) := by decide +kernel
theorem dL_law_451 : decode cL_law 451 = .ok (.iadd, 1) := by decide +kernel
theorem dL_law_452 : decode cL_law 452 = .ok (.iaload, 1) := by decide +kernel
theorem dL_law_453 : decode cL_law 453 = .ok (.invokevirtual 75, 3) := by decide +kernel
theorem dL_law_456 : decode cL_law 456 = .ok (.if_icmp .eq 341, 3) := by decide +kernel
theorem dL_law_459 : decode cL_law 459 = .ok (.iconst 0, 1) := by decide +kernel
theorem dL_law_460 : decode cL_law 460 = .ok (.ireturn, 1) := by decide +kernel
theorem dL_law_461 : decode cL_law 461 = .ok (.aload_n 1, 1) := by decide +kernel
theorem dL_law_462 : decode cL_law 462 = .ok (.aload_n 0, 1) := by decide +kernel
theorem dL_law_463 : decode cL_law 463 = .ok (.iload_n 3, 1) := by decide +kernel
theorem dL_law_464 : decode cL_law 464 = .ok (.iconst 1, 1) := by decide +kernel
theorem dL_law_465 : decode cL_law 465 = .ok (.iadd, 1) := by decide +kernel
theorem dL_law_466 : decode cL_law 466 = .ok (.iaload, 1) := by decide +kernel
theorem dL_law_467 : decode cL_law 467 = .ok (.invokevirtual 76, 3) := by decide +kernel
theorem dL_law_470 : decode cL_law 470 = .ok (.aload_n 2, 1) := by decide +kernel
theorem dL_law_471 : decode cL_law 471 = .ok (.aload_n 0, 1) := by decide +kernel
theorem dL_law_472 : decode cL_law 472 = .ok (.iload_n 3, 1) := by decide +kernel
theorem dL_law_473 : decode cL_law 473 = .ok (.iconst 1, 1) := by decide +kernel
theorem dL_law_474 : decode cL_law 474 = .ok (.iadd, 1) := by decide +kernel
theorem dL_law_475 : decode cL_law 475 = .ok (.iaload, 1) := by decide +kernel
theorem dL_law_476 : decode cL_law 476 = .ok (.invokevirtual 79, 3) := by decide +kernel
theorem dL_law_479 : decode cL_law 479 = .ok (.if_icmp .eq 318, 3) := by decide +kernel
theorem dL_law_482 : decode cL_law 482 = .ok (.iconst 0, 1) := by decide +kernel
theorem dL_law_483 : decode cL_law 483 = .ok (.ireturn, 1) := by decide +kernel
theorem dL_law_484 : decode cL_law 484 = .ok (.aload_n 1, 1) := by decide +kernel
theorem dL_law_485 : decode cL_law 485 = .ok (.aload_n 0, 1) := by decide +kernel
theorem dL_law_486 : decode cL_law 486 = .ok (.iload_n 3, 1) := by decide +kernel
theorem dL_law_487 : decode cL_law 487 = .ok (.iconst 1, 1) := by decide +kernel
theorem dL_law_488 : decode cL_law 488 = .ok (.iadd, 1) := by decide +kernel
theorem dL_law_489 : decode cL_law 489 = .ok (.iaload, 1) := by decide +kernel
theorem dL_law_490 : decode cL_law 490 = .ok (.aload_n 0, 1) := by decide +kernel
theorem dL_law_491 : decode cL_law 491 = .ok (.iload_n 3, 1) := by decide +kernel
theorem dL_law_492 : decode cL_law 492 = .ok (.iconst 2, 1) := by decide +kernel
theorem dL_law_493 : decode cL_law 493 = .ok (.iadd, 1) := by decide +kernel
theorem dL_law_494 : decode cL_law 494 = .ok (.iaload, 1) := by decide +kernel
theorem dL_law_495 : decode cL_law 495 = .ok (.invokevirtual 80, 3) := by decide +kernel
theorem dL_law_498 : decode cL_law 498 = .ok (.aload_n 2, 1) := by decide +kernel
theorem dL_law_499 : decode cL_law 499 = .ok (.aload_n 0, 1) := by decide +kernel
theorem dL_law_500 : decode cL_law 500 = .ok (.iload_n 3, 1) := by decide +kernel
theorem dL_law_501 : decode cL_law 501 = .ok (.iconst 1, 1) := by decide +kernel
theorem dL_law_502 : decode cL_law 502 = .ok (.iadd, 1) := by decide +kernel
theorem dL_law_503 : decode cL_law 503 = .ok (.iaload, 1) := by decide +kernel
theorem dL_law_504 : decode cL_law 504 = .ok (.aload_n 0, 1) := by decide +kernel
theorem dL_law_505 : decode cL_law 505 = .ok (.iload_n 3, 1) := by decide +kernel
theorem dL_law_506 : decode cL_law 506 = .ok (.iconst 2, 1) := by decide +kernel
theorem dL_law_507 : decode cL_law 507 = .ok (.iadd, 1) := by decide +kernel
theorem dL_law_508 : decode cL_law 508 = .ok (.iaload, 1) := by decide +kernel
theorem dL_law_509 : decode cL_law 509 = .ok (.invokevirtual 83, 3) := by decide +kernel
theorem dL_law_512 : decode cL_law 512 = .ok (.if_icmp .eq 285, 3) := by decide +kernel
theorem dL_law_515 : decode cL_law 515 = .ok (.iconst 0, 1) := by decide +kernel
theorem dL_law_516 : decode cL_law 516 = .ok (.ireturn, 1) := by decide +kernel
theorem dL_law_517 : decode cL_law 517 = .ok (.aload_n 1, 1) := by decide +kernel
theorem dL_law_518 : decode cL_law 518 = .ok (.aload_n 0, 1) := by decide +kernel
theorem dL_law_519 : decode cL_law 519 = .ok (.iload_n 3, 1) := by decide +kernel
theorem dL_law_520 : decode cL_law 520 = .ok (.iconst 1, 1) := by decide +kernel
theorem dL_law_521 : decode cL_law 521 = .ok (.iadd, 1) := by decide +kernel
theorem dL_law_522 : decode cL_law 522 = .ok (.iaload, 1) := by decide +kernel
theorem dL_law_523 : decode cL_law 523 = .ok (.invokevirtual 84, 3) := by decide +kernel
theorem dL_law_526 : decode cL_law 526 = .ok (.aload_n 2, 1) := by decide +kernel
theorem dL_law_527 : decode cL_law 527 = .ok (.aload_n 0, 1) := by decide +kernel
theorem dL_law_528 : decode cL_law 528 = .ok (.iload_n 3, 1) := by decide +kernel
theorem dL_law_529 : decode cL_law 529 = .ok (.iconst 1, 1) := by decide +kernel
theorem dL_law_530 : decode cL_law 530 = .ok (.iadd, 1) := by decide +kernel
theorem dL_law_531 : decode cL_law 531 = .ok (.iaload, 1) := by decide +kernel
theorem dL_law_532 : decode cL_law 532 = .ok (.invokevirtual 87, 3) := by decide +kernel
theorem dL_law_535 : decode cL_law 535 = .ok (.if_icmp .eq 262, 3) := by decide +kernel
theorem dL_law_538 : decode cL_law 538 = .ok (.iconst 0, 1) := by decide +kernel
theorem dL_law_539 : decode cL_law 539 = .ok (.ireturn, 1) := by decide +kernel
theorem dL_law_540 : decode cL_law 540 = .ok (.aload_n 1, 1) := by decide +kernel
theorem dL_law_541 : decode cL_law 541 = .ok (.aload_n 0, 1) := by decide +kernel
theorem dL_law_542 : decode cL_law 542 = .ok (.iload_n 3, 1) := by decide +kernel
theorem dL_law_543 : decode cL_law 543 = .ok (.iconst 1, 1) := by decide +kernel
theorem dL_law_544 : decode cL_law 544 = .ok (.iadd, 1) := by decide +kernel
theorem dL_law_545 : decode cL_law 545 = .ok (.iaload, 1) := by decide +kernel
theorem dL_law_546 : decode cL_law 546 = .ok (.aload_n 0, 1) := by decide +kernel
theorem dL_law_547 : decode cL_law 547 = .ok (.iload_n 3, 1) := by decide +kernel
theorem dL_law_548 : decode cL_law 548 = .ok (.iconst 2, 1) := by decide +kernel
theorem dL_law_549 : decode cL_law 549 = .ok (.iadd, 1) := by decide +kernel
theorem dL_law_550 : decode cL_law 550 = .ok (.iaload, 1) := by decide +kernel
theorem dL_law_551 : decode cL_law 551 = .ok (.aload_n 0, 1) := by decide +kernel
theorem dL_law_552 : decode cL_law 552 = .ok (.iload_n 3, 1) := by decide +kernel
theorem dL_law_553 : decode cL_law 553 = .ok (.iconst 3, 1) := by decide +kernel
theorem dL_law_554 : decode cL_law 554 = .ok (.iadd, 1) := by decide +kernel
theorem dL_law_555 : decode cL_law 555 = .ok (.iaload, 1) := by decide +kernel
theorem dL_law_556 : decode cL_law 556 = .ok (.invokevirtual 88, 3) := by decide +kernel
theorem dL_law_559 : decode cL_law 559 = .ok (.aload_n 2, 1) := by decide +kernel
theorem dL_law_560 : decode cL_law 560 = .ok (.aload_n 0, 1) := by decide +kernel
theorem dL_law_561 : decode cL_law 561 = .ok (.iload_n 3, 1) := by decide +kernel
theorem dL_law_562 : decode cL_law 562 = .ok (.iconst 1, 1) := by decide +kernel
theorem dL_law_563 : decode cL_law 563 = .ok (.iadd, 1) := by decide +kernel
theorem dL_law_564 : decode cL_law 564 = .ok (.iaload, 1) := by decide +kernel
theorem dL_law_565 : decode cL_law 565 = .ok (.aload_n 0, 1) := by decide +kernel
theorem dL_law_566 : decode cL_law 566 = .ok (.iload_n 3, 1) := by decide +kernel
theorem dL_law_567 : decode cL_law 567 = .ok (.iconst 2, 1) := by decide +kernel
theorem dL_law_568 : decode cL_law 568 = .ok (.iadd, 1) := by decide +kernel
theorem dL_law_569 : decode cL_law 569 = .ok (.iaload, 1) := by decide +kernel
theorem dL_law_570 : decode cL_law 570 = .ok (.aload_n 0, 1) := by decide +kernel
theorem dL_law_571 : decode cL_law 571 = .ok (.iload_n 3, 1) := by decide +kernel
theorem dL_law_572 : decode cL_law 572 = .ok (.iconst 3, 1) := by decide +kernel
theorem dL_law_573 : decode cL_law 573 = .ok (.iadd, 1) := by decide +kernel
theorem dL_law_574 : decode cL_law 574 = .ok (.iaload, 1) := by decide +kernel
theorem dL_law_575 : decode cL_law 575 = .ok (.invokevirtual 92, 3) := by decide +kernel
theorem dL_law_578 : decode cL_law 578 = .ok (.if_icmp .eq 219, 3) := by decide +kernel
theorem dL_law_581 : decode cL_law 581 = .ok (.iconst 0, 1) := by decide +kernel
theorem dL_law_582 : decode cL_law 582 = .ok (.ireturn, 1) := by decide +kernel
theorem dL_law_583 : decode cL_law 583 = .ok (.aload_n 1, 1) := by decide +kernel
theorem dL_law_584 : decode cL_law 584 = .ok (.invokevirtual 93, 3) := by decide +kernel
theorem dL_law_587 : decode cL_law 587 = .ok (.aload_n 2, 1) := by decide +kernel
theorem dL_law_588 : decode cL_law 588 = .ok (.invokevirtual 96, 3) := by decide +kernel
theorem dL_law_591 : decode cL_law 591 = .ok (.if_icmp .eq 206, 3) := by decide +kernel
theorem dL_law_594 : decode cL_law 594 = .ok (.iconst 0, 1) := by decide +kernel
theorem dL_law_595 : decode cL_law 595 = .ok (.ireturn, 1) := by decide +kernel
theorem dL_law_596 : decode cL_law 596 = .ok (.aload_n 1, 1) := by decide +kernel
theorem dL_law_597 : decode cL_law 597 = .ok (.aload_n 0, 1) := by decide +kernel
theorem dL_law_598 : decode cL_law 598 = .ok (.iload_n 3, 1) := by decide +kernel
theorem dL_law_599 : decode cL_law 599 = .ok (.iconst 1, 1) := by decide +kernel
theorem dL_law_600 : decode cL_law 600 = .ok (.iadd, 1) := by decide +kernel
theorem dL_law_601 : decode cL_law 601 = .ok (.iaload, 1) := by decide +kernel
theorem dL_law_602 : decode cL_law 602 = .ok (.aload_n 0, 1) := by decide +kernel
theorem dL_law_603 : decode cL_law 603 = .ok (.iload_n 3, 1) := by decide +kernel
theorem dL_law_604 : decode cL_law 604 = .ok (.iconst 2, 1) := by decide +kernel
theorem dL_law_605 : decode cL_law 605 = .ok (.iadd, 1) := by decide +kernel
theorem dL_law_606 : decode cL_law 606 = .ok (.iaload, 1) := by decide +kernel
theorem dL_law_607 : decode cL_law 607 = .ok (.invokevirtual 97, 3) := by decide +kernel
theorem dL_law_610 : decode cL_law 610 = .ok (.aload_n 2, 1) := by decide +kernel
theorem dL_law_611 : decode cL_law 611 = .ok (.aload_n 0, 1) := by decide +kernel
theorem dL_law_612 : decode cL_law 612 = .ok (.iload_n 3, 1) := by decide +kernel
theorem dL_law_613 : decode cL_law 613 = .ok (.iconst 1, 1) := by decide +kernel
theorem dL_law_614 : decode cL_law 614 = .ok (.iadd, 1) := by decide +kernel
theorem dL_law_615 : decode cL_law 615 = .ok (.iaload, 1) := by decide +kernel
theorem dL_law_616 : decode cL_law 616 = .ok (.aload_n 0, 1) := by decide +kernel
theorem dL_law_617 : decode cL_law 617 = .ok (.iload_n 3, 1) := by decide +kernel
theorem dL_law_618 : decode cL_law 618 = .ok (.iconst 2, 1) := by decide +kernel
theorem dL_law_619 : decode cL_law 619 = .ok (.iadd, 1) := by decide +kernel
theorem dL_law_620 : decode cL_law 620 = .ok (.iaload, 1) := by decide +kernel
theorem dL_law_621 : decode cL_law 621 = .ok (.invokevirtual 100, 3) := by decide +kernel
theorem dL_law_624 : decode cL_law 624 = .ok (.if_icmp .eq 173, 3) := by decide +kernel
theorem dL_law_627 : decode cL_law 627 = .ok (.iconst 0, 1) := by decide +kernel
theorem dL_law_628 : decode cL_law 628 = .ok (.ireturn, 1) := by decide +kernel
theorem dL_law_629 : decode cL_law 629 = .ok (.aload_n 1, 1) := by decide +kernel
theorem dL_law_630 : decode cL_law 630 = .ok (.aload_n 0, 1) := by decide +kernel
theorem dL_law_631 : decode cL_law 631 = .ok (.iload_n 3, 1) := by decide +kernel
theorem dL_law_632 : decode cL_law 632 = .ok (.iconst 1, 1) := by decide +kernel
theorem dL_law_633 : decode cL_law 633 = .ok (.iadd, 1) := by decide +kernel
theorem dL_law_634 : decode cL_law 634 = .ok (.iaload, 1) := by decide +kernel
theorem dL_law_635 : decode cL_law 635 = .ok (.aload_n 0, 1) := by decide +kernel
theorem dL_law_636 : decode cL_law 636 = .ok (.iload_n 3, 1) := by decide +kernel
theorem dL_law_637 : decode cL_law 637 = .ok (.iconst 2, 1) := by decide +kernel
theorem dL_law_638 : decode cL_law 638 = .ok (.iadd, 1) := by decide +kernel
theorem dL_law_639 : decode cL_law 639 = .ok (.iaload, 1) := by decide +kernel
theorem dL_law_640 : decode cL_law 640 = .ok (.aload_n 0, 1) := by decide +kernel
theorem dL_law_641 : decode cL_law 641 = .ok (.iload_n 3, 1) := by decide +kernel
theorem dL_law_642 : decode cL_law 642 = .ok (.iconst 3, 1) := by decide +kernel
theorem dL_law_643 : decode cL_law 643 = .ok (.iadd, 1) := by decide +kernel
theorem dL_law_644 : decode cL_law 644 = .ok (.iaload, 1) := by decide +kernel
theorem dL_law_645 : decode cL_law 645 = .ok (.invokevirtual 101, 3) := by decide +kernel
theorem dL_law_648 : decode cL_law 648 = .ok (.aload_n 2, 1) := by decide +kernel
theorem dL_law_649 : decode cL_law 649 = .ok (.aload_n 0, 1) := by decide +kernel
theorem dL_law_650 : decode cL_law 650 = .ok (.iload_n 3, 1) := by decide +kernel
theorem dL_law_651 : decode cL_law 651 = .ok (.iconst 1, 1) := by decide +kernel
theorem dL_law_652 : decode cL_law 652 = .ok (.iadd, 1) := by decide +kernel
theorem dL_law_653 : decode cL_law 653 = .ok (.iaload, 1) := by decide +kernel
theorem dL_law_654 : decode cL_law 654 = .ok (.aload_n 0, 1) := by decide +kernel
theorem dL_law_655 : decode cL_law 655 = .ok (.iload_n 3, 1) := by decide +kernel
theorem dL_law_656 : decode cL_law 656 = .ok (.iconst 2, 1) := by decide +kernel
theorem dL_law_657 : decode cL_law 657 = .ok (.iadd, 1) := by decide +kernel
theorem dL_law_658 : decode cL_law 658 = .ok (.iaload, 1) := by decide +kernel
theorem dL_law_659 : decode cL_law 659 = .ok (.aload_n 0, 1) := by decide +kernel
theorem dL_law_660 : decode cL_law 660 = .ok (.iload_n 3, 1) := by decide +kernel
theorem dL_law_661 : decode cL_law 661 = .ok (.iconst 3, 1) := by decide +kernel
theorem dL_law_662 : decode cL_law 662 = .ok (.iadd, 1) := by decide +kernel
theorem dL_law_663 : decode cL_law 663 = .ok (.iaload, 1) := by decide +kernel
theorem dL_law_664 : decode cL_law 664 = .ok (.invokevirtual 104, 3) := by decide +kernel
theorem dL_law_667 : decode cL_law 667 = .ok (.if_icmp .eq 130, 3) := by decide +kernel
theorem dL_law_670 : decode cL_law 670 = .ok (.iconst 0, 1) := by decide +kernel
theorem dL_law_671 : decode cL_law 671 = .ok (.ireturn, 1) := by decide +kernel
theorem dL_law_672 : decode cL_law 672 = .ok (.aload_n 1, 1) := by decide +kernel
theorem dL_law_673 : decode cL_law 673 = .ok (.aload_n 0, 1) := by decide +kernel
theorem dL_law_674 : decode cL_law 674 = .ok (.iload_n 3, 1) := by decide +kernel
theorem dL_law_675 : decode cL_law 675 = .ok (.iconst 1, 1) := by decide +kernel
theorem dL_law_676 : decode cL_law 676 = .ok (.iadd, 1) := by decide +kernel
theorem dL_law_677 : decode cL_law 677 = .ok (.iaload, 1) := by decide +kernel
theorem dL_law_678 : decode cL_law 678 = .ok (.aload_n 0, 1) := by decide +kernel
theorem dL_law_679 : decode cL_law 679 = .ok (.iload_n 3, 1) := by decide +kernel
theorem dL_law_680 : decode cL_law 680 = .ok (.iconst 2, 1) := by decide +kernel
theorem dL_law_681 : decode cL_law 681 = .ok (.iadd, 1) := by decide +kernel
theorem dL_law_682 : decode cL_law 682 = .ok (.iaload, 1) := by decide +kernel
theorem dL_law_683 : decode cL_law 683 = .ok (.invokevirtual 105, 3) := by decide +kernel
theorem dL_law_686 : decode cL_law 686 = .ok (.aload_n 2, 1) := by decide +kernel
theorem dL_law_687 : decode cL_law 687 = .ok (.aload_n 0, 1) := by decide +kernel
theorem dL_law_688 : decode cL_law 688 = .ok (.iload_n 3, 1) := by decide +kernel
theorem dL_law_689 : decode cL_law 689 = .ok (.iconst 1, 1) := by decide +kernel
theorem dL_law_690 : decode cL_law 690 = .ok (.iadd, 1) := by decide +kernel
theorem dL_law_691 : decode cL_law 691 = .ok (.iaload, 1) := by decide +kernel
theorem dL_law_692 : decode cL_law 692 = .ok (.aload_n 0, 1) := by decide +kernel
theorem dL_law_693 : decode cL_law 693 = .ok (.iload_n 3, 1) := by decide +kernel
theorem dL_law_694 : decode cL_law 694 = .ok (.iconst 2, 1) := by decide +kernel
theorem dL_law_695 : decode cL_law 695 = .ok (.iadd, 1) := by decide +kernel
theorem dL_law_696 : decode cL_law 696 = .ok (.iaload, 1) := by decide +kernel
theorem dL_law_697 : decode cL_law 697 = .ok (.invokevirtual 108, 3) := by decide +kernel
theorem dL_law_700 : decode cL_law 700 = .ok (.if_icmp .eq 97, 3) := by decide +kernel
theorem dL_law_703 : decode cL_law 703 = .ok (.iconst 0, 1) := by decide +kernel
theorem dL_law_704 : decode cL_law 704 = .ok (.ireturn, 1) := by decide +kernel
theorem dL_law_705 : decode cL_law 705 = .ok (.aload_n 1, 1) := by decide +kernel
theorem dL_law_706 : decode cL_law 706 = .ok (.aload_n 0, 1) := by decide +kernel
theorem dL_law_707 : decode cL_law 707 = .ok (.iload_n 3, 1) := by decide +kernel
theorem dL_law_708 : decode cL_law 708 = .ok (.iconst 1, 1) := by decide +kernel
theorem dL_law_709 : decode cL_law 709 = .ok (.iadd, 1) := by decide +kernel
theorem dL_law_710 : decode cL_law 710 = .ok (.iaload, 1) := by decide +kernel
theorem dL_law_711 : decode cL_law 711 = .ok (.aload_n 0, 1) := by decide +kernel
theorem dL_law_712 : decode cL_law 712 = .ok (.iload_n 3, 1) := by decide +kernel
theorem dL_law_713 : decode cL_law 713 = .ok (.iconst 2, 1) := by decide +kernel
theorem dL_law_714 : decode cL_law 714 = .ok (.iadd, 1) := by decide +kernel
theorem dL_law_715 : decode cL_law 715 = .ok (.iaload, 1) := by decide +kernel
theorem dL_law_716 : decode cL_law 716 = .ok (.aload_n 0, 1) := by decide +kernel
theorem dL_law_717 : decode cL_law 717 = .ok (.iload_n 3, 1) := by decide +kernel
theorem dL_law_718 : decode cL_law 718 = .ok (.iconst 3, 1) := by decide +kernel
theorem dL_law_719 : decode cL_law 719 = .ok (.iadd, 1) := by decide +kernel
theorem dL_law_720 : decode cL_law 720 = .ok (.iaload, 1) := by decide +kernel
theorem dL_law_721 : decode cL_law 721 = .ok (.invokevirtual 109, 3) := by decide +kernel
theorem dL_law_724 : decode cL_law 724 = .ok (.aload_n 2, 1) := by decide +kernel
theorem dL_law_725 : decode cL_law 725 = .ok (.aload_n 0, 1) := by decide +kernel
theorem dL_law_726 : decode cL_law 726 = .ok (.iload_n 3, 1) := by decide +kernel
theorem dL_law_727 : decode cL_law 727 = .ok (.iconst 1, 1) := by decide +kernel
theorem dL_law_728 : decode cL_law 728 = .ok (.iadd, 1) := by decide +kernel
theorem dL_law_729 : decode cL_law 729 = .ok (.iaload, 1) := by decide +kernel
theorem dL_law_730 : decode cL_law 730 = .ok (.aload_n 0, 1) := by decide +kernel
theorem dL_law_731 : decode cL_law 731 = .ok (.iload_n 3, 1) := by decide +kernel
theorem dL_law_732 : decode cL_law 732 = .ok (.iconst 2, 1) := by decide +kernel
theorem dL_law_733 : decode cL_law 733 = .ok (.iadd, 1) := by decide +kernel
theorem dL_law_734 : decode cL_law 734 = .ok (.iaload, 1) := by decide +kernel
theorem dL_law_735 : decode cL_law 735 = .ok (.aload_n 0, 1) := by decide +kernel
theorem dL_law_736 : decode cL_law 736 = .ok (.iload_n 3, 1) := by decide +kernel
theorem dL_law_737 : decode cL_law 737 = .ok (.iconst 3, 1) := by decide +kernel
theorem dL_law_738 : decode cL_law 738 = .ok (.iadd, 1) := by decide +kernel
theorem dL_law_739 : decode cL_law 739 = .ok (.iaload, 1) := by decide +kernel
theorem dL_law_740 : decode cL_law 740 = .ok (.invokevirtual 112, 3) := by decide +kernel
theorem dL_law_743 : decode cL_law 743 = .ok (.if_icmp .eq 54, 3) := by decide +kernel
theorem dL_law_746 : decode cL_law 746 = .ok (.iconst 0, 1) := by decide +kernel
theorem dL_law_747 : decode cL_law 747 = .ok (.ireturn, 1) := by decide +kernel
theorem dL_law_748 : decode cL_law 748 = .ok (.aload_n 1, 1) := by decide +kernel
theorem dL_law_749 : decode cL_law 749 = .ok (.invokevirtual 113, 3) := by decide +kernel
theorem dL_law_752 : decode cL_law 752 = .ok (.aload_n 2, 1) := by decide +kernel
theorem dL_law_753 : decode cL_law 753 = .ok (.invokevirtual 116, 3) := by decide +kernel
theorem dL_law_756 : decode cL_law 756 = .ok (.if_icmp .eq 41, 3) := by decide +kernel
theorem dL_law_759 : decode cL_law 759 = .ok (.iconst 0, 1) := by decide +kernel
theorem dL_law_760 : decode cL_law 760 = .ok (.ireturn, 1) := by decide +kernel
theorem dL_law_761 : decode cL_law 761 = .ok (.aload_n 1, 1) := by decide +kernel
theorem dL_law_762 : decode cL_law 762 = .ok (.invokevirtual 117, 3) := by decide +kernel
theorem dL_law_765 : decode cL_law 765 = .ok (.aload_n 2, 1) := by decide +kernel
theorem dL_law_766 : decode cL_law 766 = .ok (.invokevirtual 120, 3) := by decide +kernel
theorem dL_law_769 : decode cL_law 769 = .ok (.if_icmp .eq 28, 3) := by decide +kernel
theorem dL_law_772 : decode cL_law 772 = .ok (.iconst 0, 1) := by decide +kernel
theorem dL_law_773 : decode cL_law 773 = .ok (.ireturn, 1) := by decide +kernel
theorem dL_law_774 : decode cL_law 774 = .ok (.aload_n 1, 1) := by decide +kernel
theorem dL_law_775 : decode cL_law 775 = .ok (.aload_n 0, 1) := by decide +kernel
theorem dL_law_776 : decode cL_law 776 = .ok (.iload_n 3, 1) := by decide +kernel
theorem dL_law_777 : decode cL_law 777 = .ok (.iconst 1, 1) := by decide +kernel
theorem dL_law_778 : decode cL_law 778 = .ok (.iadd, 1) := by decide +kernel
theorem dL_law_779 : decode cL_law 779 = .ok (.iaload, 1) := by decide +kernel
theorem dL_law_780 : decode cL_law 780 = .ok (.invokevirtual 121, 3) := by decide +kernel
theorem dL_law_783 : decode cL_law 783 = .ok (.aload_n 2, 1) := by decide +kernel
theorem dL_law_784 : decode cL_law 784 = .ok (.aload_n 0, 1) := by decide +kernel
theorem dL_law_785 : decode cL_law 785 = .ok (.iload_n 3, 1) := by decide +kernel
theorem dL_law_786 : decode cL_law 786 = .ok (.iconst 1, 1) := by decide +kernel
theorem dL_law_787 : decode cL_law 787 = .ok (.iadd, 1) := by decide +kernel
theorem dL_law_788 : decode cL_law 788 = .ok (.iaload, 1) := by decide +kernel
theorem dL_law_789 : decode cL_law 789 = .ok (.invokevirtual 124, 3) := by decide +kernel
theorem dL_law_792 : decode cL_law 792 = .ok (.if_icmp .eq 5, 3) := by decide +kernel
theorem dL_law_795 : decode cL_law 795 = .ok (.iconst 0, 1) := by decide +kernel
theorem dL_law_796 : decode cL_law 796 = .ok (.ireturn, 1) := by decide +kernel
theorem dL_law_797 : decode cL_law 797 = .ok (.iinc 3 4, 3) := by decide +kernel
theorem dL_law_800 : decode cL_law 800 = .ok (.goto (-782), 3) := by decide +kernel
theorem dL_law_803 : decode cL_law 803 = .ok (.iconst 1, 1) := by decide +kernel
theorem dL_law_804 : decode cL_law 804 = .ok (.ireturn, 1) := by decide +kernel
