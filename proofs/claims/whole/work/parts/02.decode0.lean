theorem dX0_init_0 : decode cX0_init 0 = .ok (.aload_n 0, 1) := by decide +kernel
theorem dX0_init_1 : decode cX0_init 1 = .ok (.invokespecial 3, 3) := by decide +kernel
theorem dX0_init_4 : decode cX0_init 4 = .ok (.aload_n 0, 1) := by decide +kernel
theorem dX0_init_5 : decode cX0_init 5 = .ok (.bipush (-4), 2) := by decide +kernel
theorem dX0_init_7 : decode cX0_init 7 = .ok (.putfield 9, 3) := by decide +kernel
theorem dX0_init_10 : decode cX0_init 10 = .ok (.return_, 1) := by decide +kernel
theorem dX0_copy_0 : decode cX0_copy 0 = .ok (.aload_n 0, 1) := by decide +kernel
theorem dX0_copy_1 : decode cX0_copy 1 = .ok (.aload_n 1, 1) := by decide +kernel
theorem dX0_copy_2 : decode cX0_copy 2 = .ok (.getfield 15, 3) := by decide +kernel
theorem dX0_copy_5 : decode cX0_copy 5 = .ok (.putfield 15, 3) := by decide +kernel
theorem dX0_copy_8 : decode cX0_copy 8 = .ok (.aload_n 0, 1) := by decide +kernel
theorem dX0_copy_9 : decode cX0_copy 9 = .ok (.aload_n 1, 1) := by decide +kernel
theorem dX0_copy_10 : decode cX0_copy 10 = .ok (.getfield 18, 3) := by decide +kernel
theorem dX0_copy_13 : decode cX0_copy 13 = .ok (.putfield 18, 3) := by decide +kernel
theorem dX0_copy_16 : decode cX0_copy 16 = .ok (.aload_n 0, 1) := by decide +kernel
theorem dX0_copy_17 : decode cX0_copy 17 = .ok (.aload_n 1, 1) := by decide +kernel
theorem dX0_copy_18 : decode cX0_copy 18 = .ok (.getfield 21, 3) := by decide +kernel
theorem dX0_copy_21 : decode cX0_copy 21 = .ok (.putfield 21, 3) := by decide +kernel
theorem dX0_copy_24 : decode cX0_copy 24 = .ok (.aload_n 0, 1) := by decide +kernel
theorem dX0_copy_25 : decode cX0_copy 25 = .ok (.aload_n 1, 1) := by decide +kernel
theorem dX0_copy_26 : decode cX0_copy 26 = .ok (.getfield 24, 3) := by decide +kernel
theorem dX0_copy_29 : decode cX0_copy 29 = .ok (.putfield 24, 3) := by decide +kernel
theorem dX0_copy_32 : decode cX0_copy 32 = .ok (.aload_n 0, 1) := by decide +kernel
theorem dX0_copy_33 : decode cX0_copy 33 = .ok (.aload_n 1, 1) := by decide +kernel
theorem dX0_copy_34 : decode cX0_copy 34 = .ok (.getfield 27, 3) := by decide +kernel
theorem dX0_copy_37 : decode cX0_copy 37 = .ok (.putfield 27, 3) := by decide +kernel
theorem dX0_copy_40 : decode cX0_copy 40 = .ok (.aload_n 0, 1) := by decide +kernel
theorem dX0_copy_41 : decode cX0_copy 41 = .ok (.aload_n 1, 1) := by decide +kernel
theorem dX0_copy_42 : decode cX0_copy 42 = .ok (.getfield 30, 3) := by decide +kernel
theorem dX0_copy_45 : decode cX0_copy 45 = .ok (.putfield 30, 3) := by decide +kernel
theorem dX0_copy_48 : decode cX0_copy 48 = .ok (.aload_n 0, 1) := by decide +kernel
theorem dX0_copy_49 : decode cX0_copy 49 = .ok (.aload_n 1, 1) := by decide +kernel
theorem dX0_copy_50 : decode cX0_copy 50 = .ok (.getfield 9, 3) := by decide +kernel
theorem dX0_copy_53 : decode cX0_copy 53 = .ok (.putfield 9, 3) := by decide +kernel
theorem dX0_copy_56 : decode cX0_copy 56 = .ok (.return_, 1) := by decide +kernel
theorem dX0_spot_0 : decode cX0_spot 0 = .ok (.bipush 10, 2) := by decide +kernel
theorem dX0_spot_2 : decode cX0_spot 2 = .ok (.aload_n 0, 1) := by decide +kernel
theorem dX0_spot_3 : decode cX0_spot 3 = .ok (.getfield 18, 3) := by decide +kernel
theorem dX0_spot_6 : decode cX0_spot 6 = .ok (.imul, 1) := by decide +kernel
theorem dX0_spot_7 : decode cX0_spot 7 = .ok (.aload_n 0, 1) := by decide +kernel
theorem dX0_spot_8 : decode cX0_spot 8 = .ok (.getfield 15, 3) := by decide +kernel
theorem dX0_spot_11 : decode cX0_spot 11 = .ok (.iadd, 1) := by decide +kernel
theorem dX0_spot_12 : decode cX0_spot 12 = .ok (.ireturn, 1) := by decide +kernel
theorem dX0_isDown_0 : decode cX0_isDown 0 = .ok (.aload_n 0, 1) := by decide +kernel
theorem dX0_isDown_1 : decode cX0_isDown 1 = .ok (.getfield 21, 3) := by decide +kernel
theorem dX0_isDown_4 : decode cX0_isDown 4 = .ok (.ifCond .ne 7, 3) := by decide +kernel
theorem dX0_isDown_7 : decode cX0_isDown 7 = .ok (.iconst 1, 1) := by decide +kernel
theorem dX0_isDown_8 : decode cX0_isDown 8 = .ok (.goto 4, 3) := by decide +kernel
theorem dX0_isDown_11 : decode cX0_isDown 11 = .ok (.iconst 0, 1) := by decide +kernel
theorem dX0_isDown_12 : decode cX0_isDown 12 = .ok (.ireturn, 1) := by decide +kernel
theorem dX0_isLike_0 : decode cX0_isLike 0 = .ok (.aload_n 0, 1) := by decide +kernel
theorem dX0_isLike_1 : decode cX0_isLike 1 = .ok (.getfield 15, 3) := by decide +kernel
theorem dX0_isLike_4 : decode cX0_isLike 4 = .ok (.aload_n 1, 1) := by decide +kernel
theorem dX0_isLike_5 : decode cX0_isLike 5 = .ok (.getfield 15, 3) := by decide +kernel
theorem dX0_isLike_8 : decode cX0_isLike 8 = .ok (.if_icmp .ne 40, 3) := by decide +kernel
theorem dX0_isLike_11 : decode cX0_isLike 11 = .ok (.aload_n 0, 1) := by decide +kernel
theorem dX0_isLike_12 : decode cX0_isLike 12 = .ok (.getfield 18, 3) := by decide +kernel
theorem dX0_isLike_15 : decode cX0_isLike 15 = .ok (.aload_n 1, 1) := by decide +kernel
theorem dX0_isLike_16 : decode cX0_isLike 16 = .ok (.getfield 18, 3) := by decide +kernel
theorem dX0_isLike_19 : decode cX0_isLike 19 = .ok (.if_icmp .ne 29, 3) := by decide +kernel
theorem dX0_isLike_22 : decode cX0_isLike 22 = .ok (.aload_n 0, 1) := by decide +kernel
theorem dX0_isLike_23 : decode cX0_isLike 23 = .ok (.getfield 21, 3) := by decide +kernel
theorem dX0_isLike_26 : decode cX0_isLike 26 = .ok (.aload_n 1, 1) := by decide +kernel
theorem dX0_isLike_27 : decode cX0_isLike 27 = .ok (.getfield 21, 3) := by decide +kernel
theorem dX0_isLike_30 : decode cX0_isLike 30 = .ok (.if_icmp .ne 18, 3) := by decide +kernel
theorem dX0_isLike_33 : decode cX0_isLike 33 = .ok (.aload_n 0, 1) := by decide +kernel
theorem dX0_isLike_34 : decode cX0_isLike 34 = .ok (.getfield 24, 3) := by decide +kernel
theorem dX0_isLike_37 : decode cX0_isLike 37 = .ok (.aload_n 1, 1) := by decide +kernel
theorem dX0_isLike_38 : decode cX0_isLike 38 = .ok (.getfield 24, 3) := by decide +kernel
theorem dX0_isLike_41 : decode cX0_isLike 41 = .ok (.if_icmp .ne 7, 3) := by decide +kernel
theorem dX0_isLike_44 : decode cX0_isLike 44 = .ok (.iconst 1, 1) := by decide +kernel
theorem dX0_isLike_45 : decode cX0_isLike 45 = .ok (.goto 4, 3) := by decide +kernel
theorem dX0_isLike_48 : decode cX0_isLike 48 = .ok (.iconst 0, 1) := by decide +kernel
theorem dX0_isLike_49 : decode cX0_isLike 49 = .ok (.ireturn, 1) := by decide +kernel
theorem dX0_step_0 : decode cX0_step 0 = .ok (.iload_n 1, 1) := by decide +kernel
theorem dX0_step_1 : decode cX0_step 1 = .ok (.ifCond .lt 8, 3) := by decide +kernel
theorem dX0_step_4 : decode cX0_step 4 = .ok (.iload_n 1, 1) := by decide +kernel
theorem dX0_step_5 : decode cX0_step 5 = .ok (.iconst 4, 1) := by decide +kernel
theorem dX0_step_6 : decode cX0_step 6 = .ok (.if_icmp .le 4, 3) := by decide +kernel
theorem dX0_step_9 : decode cX0_step 9 = .ok (.return_, 1) := by decide +kernel
theorem dX0_step_10 : decode cX0_step 10 = .ok (.aload_n 0, 1) := by decide +kernel
theorem dX0_step_11 : decode cX0_step 11 = .ok (.aload_n 0, 1) := by decide +kernel
theorem dX0_step_12 : decode cX0_step 12 = .ok (.getfield 15, 3) := by decide +kernel
theorem dX0_step_15 : decode cX0_step 15 = .ok (.getstatic 33, 3) := by decide +kernel
theorem dX0_step_18 : decode cX0_step 18 = .ok (.iload_n 1, 1) := by decide +kernel
theorem dX0_step_19 : decode cX0_step 19 = .ok (.iaload, 1) := by decide +kernel
theorem dX0_step_20 : decode cX0_step 20 = .ok (.iadd, 1) := by decide +kernel
theorem dX0_step_21 : decode cX0_step 21 = .ok (.bipush 9, 2) := by decide +kernel
theorem dX0_step_23 : decode cX0_step 23 = .ok (.invokestatic 37, 3) := by decide +kernel
theorem dX0_step_26 : decode cX0_step 26 = .ok (.putfield 15, 3) := by decide +kernel
theorem dX0_step_29 : decode cX0_step 29 = .ok (.aload_n 0, 1) := by decide +kernel
theorem dX0_step_30 : decode cX0_step 30 = .ok (.aload_n 0, 1) := by decide +kernel
theorem dX0_step_31 : decode cX0_step 31 = .ok (.getfield 18, 3) := by decide +kernel
theorem dX0_step_34 : decode cX0_step 34 = .ok (.getstatic 41, 3) := by decide +kernel
theorem dX0_step_37 : decode cX0_step 37 = .ok (.iload_n 1, 1) := by decide +kernel
theorem dX0_step_38 : decode cX0_step 38 = .ok (.iaload, 1) := by decide +kernel
theorem dX0_step_39 : decode cX0_step 39 = .ok (.iadd, 1) := by decide +kernel
theorem dX0_step_40 : decode cX0_step 40 = .ok (.bipush 9, 2) := by decide +kernel
theorem dX0_step_42 : decode cX0_step 42 = .ok (.invokestatic 37, 3) := by decide +kernel
theorem dX0_step_45 : decode cX0_step 45 = .ok (.putfield 18, 3) := by decide +kernel
theorem dX0_step_48 : decode cX0_step 48 = .ok (.return_, 1) := by decide +kernel
theorem dX1_init_0 : decode cX1_init 0 = .ok (.aload_n 0, 1) := by decide +kernel
theorem dX1_init_1 : decode cX1_init 1 = .ok (.invokespecial 3, 3) := by decide +kernel
theorem dX1_init_4 : decode cX1_init 4 = .ok (.aload_n 0, 1) := by decide +kernel
theorem dX1_init_5 : decode cX1_init 5 = .ok (.new 9, 3) := by decide +kernel
theorem dX1_init_8 : decode cX1_init 8 = .ok (.dup, 1) := by decide +kernel
theorem dX1_init_9 : decode cX1_init 9 = .ok (.invokespecial 11, 3) := by decide +kernel
theorem dX1_init_12 : decode cX1_init 12 = .ok (.putfield 12, 3) := by decide +kernel
theorem dX1_init_15 : decode cX1_init 15 = .ok (.aload_n 0, 1) := by decide +kernel
theorem dX1_init_16 : decode cX1_init 16 = .ok (.sipush 8000, 3) := by decide +kernel
theorem dX1_init_19 : decode cX1_init 19 = .ok (.newarray .int, 2) := by decide +kernel
theorem dX1_init_21 : decode cX1_init 21 = .ok (.putfield 18, 3) := by decide +kernel
theorem dX1_init_24 : decode cX1_init 24 = .ok (.aload_n 0, 1) := by decide +kernel
theorem dX1_init_25 : decode cX1_init 25 = .ok (.sipush 250, 3) := by decide +kernel
theorem dX1_init_28 : decode cX1_init 28 = .ok (.newarray .int, 2) := by decide +kernel
theorem dX1_init_30 : decode cX1_init 30 = .ok (.putfield 22, 3) := by decide +kernel
theorem dX1_init_33 : decode cX1_init 33 = .ok (.aload_n 0, 1) := by decide +kernel
theorem dX1_init_34 : decode cX1_init 34 = .ok (.aload_n 1, 1) := by decide +kernel
theorem dX1_init_35 : decode cX1_init 35 = .ok (.putfield 25, 3) := by decide +kernel
theorem dX1_init_38 : decode cX1_init 38 = .ok (.return_, 1) := by decide +kernel
theorem dX1_startAt_0 : decode cX1_startAt 0 = .ok (.iconst 0, 1) := by decide +kernel
theorem dX1_startAt_1 : decode cX1_startAt 1 = .ok (.istore_n 2, 1) := by decide +kernel
theorem dX1_startAt_2 : decode cX1_startAt 2 = .ok (.iload_n 2, 1) := by decide +kernel
theorem dX1_startAt_3 : decode cX1_startAt 3 = .ok (.aload_n 0, 1) := by decide +kernel
theorem dX1_startAt_4 : decode cX1_startAt 4 = .ok (.getfield 22, 3) := by decide +kernel
theorem dX1_startAt_7 : decode cX1_startAt 7 = .ok (.arraylength, 1) := by decide +kernel
theorem dX1_startAt_8 : decode cX1_startAt 8 = .ok (.if_icmp .ge 16, 3) := by decide +kernel
theorem dX1_startAt_11 : decode cX1_startAt 11 = .ok (.aload_n 0, 1) := by decide +kernel
theorem dX1_startAt_12 : decode cX1_startAt 12 = .ok (.getfield 22, 3) := by decide +kernel
theorem dX1_startAt_15 : decode cX1_startAt 15 = .ok (.iload_n 2, 1) := by decide +kernel
theorem dX1_startAt_16 : decode cX1_startAt 16 = .ok (.iconst 0, 1) := by decide +kernel
theorem dX1_startAt_17 : decode cX1_startAt 17 = .ok (.iastore, 1) := by decide +kernel
theorem dX1_startAt_18 : decode cX1_startAt 18 = .ok (.iinc 2 1, 3) := by decide +kernel
theorem dX1_startAt_21 : decode cX1_startAt 21 = .ok (.goto (-19), 3) := by decide +kernel
theorem dX1_startAt_24 : decode cX1_startAt 24 = .ok (.aload_n 0, 1) := by decide +kernel
theorem dX1_startAt_25 : decode cX1_startAt 25 = .ok (.iconst 0, 1) := by decide +kernel
theorem dX1_startAt_26 : decode cX1_startAt 26 = .ok (.putfield 29, 3) := by decide +kernel
theorem dX1_startAt_29 : decode cX1_startAt 29 = .ok (.aload_n 0, 1) := by decide +kernel
theorem dX1_startAt_30 : decode cX1_startAt 30 = .ok (.iconst 0, 1) := by decide +kernel
theorem dX1_startAt_31 : decode cX1_startAt 31 = .ok (.putfield 33, 3) := by decide +kernel
theorem dX1_startAt_34 : decode cX1_startAt 34 = .ok (.aload_n 0, 1) := by decide +kernel
theorem dX1_startAt_35 : decode cX1_startAt 35 = .ok (.iconst 0, 1) := by decide +kernel
theorem dX1_startAt_36 : decode cX1_startAt 36 = .ok (.aload_n 0, 1) := by decide +kernel
theorem dX1_startAt_37 : decode cX1_startAt 37 = .ok (.aload_n 1, 1) := by decide +kernel
theorem dX1_startAt_38 : decode cX1_startAt 38 = .ok (.invokevirtual 36, 3) := by decide +kernel
theorem dX1_startAt_41 : decode cX1_startAt 41 = .ok (.invokevirtual 40, 3) := by decide +kernel
theorem dX1_startAt_44 : decode cX1_startAt 44 = .ok (.return_, 1) := by decide +kernel
theorem dX1_grow_0 : decode cX1_grow 0 = .ok (.aload_n 0, 1) := by decide +kernel
theorem dX1_grow_1 : decode cX1_grow 1 = .ok (.getfield 33, 3) := by decide +kernel
theorem dX1_grow_4 : decode cX1_grow 4 = .ok (.istore_n 1, 1) := by decide +kernel
theorem dX1_grow_5 : decode cX1_grow 5 = .ok (.aload_n 0, 1) := by decide +kernel
theorem dX1_grow_6 : decode cX1_grow 6 = .ok (.getfield 29, 3) := by decide +kernel
theorem dX1_grow_9 : decode cX1_grow 9 = .ok (.istore_n 2, 1) := by decide +kernel
theorem dX1_grow_10 : decode cX1_grow 10 = .ok (.iload_n 2, 1) := by decide +kernel
theorem dX1_grow_11 : decode cX1_grow 11 = .ok (.iload_n 1, 1) := by decide +kernel
theorem dX1_grow_12 : decode cX1_grow 12 = .ok (.if_icmp .ge 79, 3) := by decide +kernel
theorem dX1_grow_15 : decode cX1_grow 15 = .ok (.aload_n 0, 1) := by decide +kernel
theorem dX1_grow_16 : decode cX1_grow 16 = .ok (.getfield 18, 3) := by decide +kernel
theorem dX1_grow_19 : decode cX1_grow 19 = .ok (.iload_n 2, 1) := by decide +kernel
theorem dX1_grow_20 : decode cX1_grow 20 = .ok (.iaload, 1) := by decide +kernel
theorem dX1_grow_21 : decode cX1_grow 21 = .ok (.bipush 13, 2) := by decide +kernel
theorem dX1_grow_23 : decode cX1_grow 23 = .ok (.ishr, 1) := by decide +kernel
theorem dX1_grow_24 : decode cX1_grow 24 = .ok (.istore_n 3, 1) := by decide +kernel
theorem dX1_grow_25 : decode cX1_grow 25 = .ok (.aload_n 0, 1) := by decide +kernel
theorem dX1_grow_26 : decode cX1_grow 26 = .ok (.getfield 18, 3) := by decide +kernel
theorem dX1_grow_29 : decode cX1_grow 29 = .ok (.iload_n 2, 1) := by decide +kernel
theorem dX1_grow_30 : decode cX1_grow 30 = .ok (.iaload, 1) := by decide +kernel
theorem dX1_grow_31 : decode cX1_grow 31 = .ok (.sipush 8191, 3) := by decide +kernel
theorem dX1_grow_34 : decode cX1_grow 34 = .ok (.iand, 1) := by decide +kernel
theorem dX1_grow_35 : decode cX1_grow 35 = .ok (.istore 4, 2) := by decide +kernel
theorem dX1_grow_37 : decode cX1_grow 37 = .ok (.iload 4, 2) := by decide +kernel
theorem dX1_grow_39 : decode cX1_grow 39 = .ok (.invokestatic 44, 3) := by decide +kernel
theorem dX1_grow_42 : decode cX1_grow 42 = .ok (.ifCond .le 43, 3) := by decide +kernel
theorem dX1_grow_45 : decode cX1_grow 45 = .ok (.iconst 0, 1) := by decide +kernel
theorem dX1_grow_46 : decode cX1_grow 46 = .ok (.istore 5, 2) := by decide +kernel
theorem dX1_grow_48 : decode cX1_grow 48 = .ok (.iload 5, 2) := by decide +kernel
theorem dX1_grow_50 : decode cX1_grow 50 = .ok (.aload_n 0, 1) := by decide +kernel
theorem dX1_grow_51 : decode cX1_grow 51 = .ok (.getfield 25, 3) := by decide +kernel
theorem dX1_grow_54 : decode cX1_grow 54 = .ok (.getfield 48, 3) := by decide +kernel
theorem dX1_grow_57 : decode cX1_grow 57 = .ok (.if_icmp .ge 28, 3) := by decide +kernel
theorem dX1_grow_60 : decode cX1_grow 60 = .ok (.aload_n 0, 1) := by decide +kernel
theorem dX1_grow_61 : decode cX1_grow 61 = .ok (.bipush 8, 2) := by decide +kernel
theorem dX1_grow_63 : decode cX1_grow 63 = .ok (.iload_n 3, 1) := by decide +kernel
theorem dX1_grow_64 : decode cX1_grow 64 = .ok (.imul, 1) := by decide +kernel
theorem dX1_grow_65 : decode cX1_grow 65 = .ok (.iload 5, 2) := by decide +kernel
theorem dX1_grow_67 : decode cX1_grow 67 = .ok (.iadd, 1) := by decide +kernel
theorem dX1_grow_68 : decode cX1_grow 68 = .ok (.aload_n 0, 1) := by decide +kernel
theorem dX1_grow_69 : decode cX1_grow 69 = .ok (.iload 4, 2) := by decide +kernel
theorem dX1_grow_71 : decode cX1_grow 71 = .ok (.iload 5, 2) := by decide +kernel
theorem dX1_grow_73 : decode cX1_grow 73 = .ok (.invokevirtual 53, 3) := by decide +kernel
theorem dX1_grow_76 : decode cX1_grow 76 = .ok (.invokevirtual 40, 3) := by decide +kernel
theorem dX1_grow_79 : decode cX1_grow 79 = .ok (.iinc 5 1, 3) := by decide +kernel
theorem dX1_grow_82 : decode cX1_grow 82 = .ok (.goto (-34), 3) := by decide +kernel
theorem dX1_grow_85 : decode cX1_grow 85 = .ok (.iinc 2 1, 3) := by decide +kernel
theorem dX1_grow_88 : decode cX1_grow 88 = .ok (.goto (-78), 3) := by decide +kernel
theorem dX1_grow_91 : decode cX1_grow 91 = .ok (.aload_n 0, 1) := by decide +kernel
theorem dX1_grow_92 : decode cX1_grow 92 = .ok (.iload_n 1, 1) := by decide +kernel
theorem dX1_grow_93 : decode cX1_grow 93 = .ok (.putfield 29, 3) := by decide +kernel
theorem dX1_grow_96 : decode cX1_grow 96 = .ok (.return_, 1) := by decide +kernel
theorem dX1_pathTo_0 : decode cX1_pathTo 0 = .ok (.aload_n 0, 1) := by decide +kernel
theorem dX1_pathTo_1 : decode cX1_pathTo 1 = .ok (.getfield 29, 3) := by decide +kernel
theorem dX1_pathTo_4 : decode cX1_pathTo 4 = .ok (.istore_n 3, 1) := by decide +kernel
theorem dX1_pathTo_5 : decode cX1_pathTo 5 = .ok (.iload_n 3, 1) := by decide +kernel
theorem dX1_pathTo_6 : decode cX1_pathTo 6 = .ok (.aload_n 0, 1) := by decide +kernel
theorem dX1_pathTo_7 : decode cX1_pathTo 7 = .ok (.getfield 33, 3) := by decide +kernel
theorem dX1_pathTo_10 : decode cX1_pathTo 10 = .ok (.if_icmp .ge 65, 3) := by decide +kernel
theorem dX1_pathTo_13 : decode cX1_pathTo 13 = .ok (.aload_n 0, 1) := by decide +kernel
theorem dX1_pathTo_14 : decode cX1_pathTo 14 = .ok (.aload_n 0, 1) := by decide +kernel
theorem dX1_pathTo_15 : decode cX1_pathTo 15 = .ok (.getfield 18, 3) := by decide +kernel
theorem dX1_pathTo_18 : decode cX1_pathTo 18 = .ok (.iload_n 3, 1) := by decide +kernel
theorem dX1_pathTo_19 : decode cX1_pathTo 19 = .ok (.iaload, 1) := by decide +kernel
theorem dX1_pathTo_20 : decode cX1_pathTo 20 = .ok (.sipush 8191, 3) := by decide +kernel
theorem dX1_pathTo_23 : decode cX1_pathTo 23 = .ok (.iand, 1) := by decide +kernel
theorem dX1_pathTo_24 : decode cX1_pathTo 24 = .ok (.invokevirtual 57, 3) := by decide +kernel
theorem dX1_pathTo_27 : decode cX1_pathTo 27 = .ok (.aload_n 0, 1) := by decide +kernel
theorem dX1_pathTo_28 : decode cX1_pathTo 28 = .ok (.getfield 12, 3) := by decide +kernel
theorem dX1_pathTo_31 : decode cX1_pathTo 31 = .ok (.invokevirtual 61, 3) := by decide +kernel
theorem dX1_pathTo_34 : decode cX1_pathTo 34 = .ok (.ifCond .eq 35, 3) := by decide +kernel
theorem dX1_pathTo_37 : decode cX1_pathTo 37 = .ok (.aload_n 0, 1) := by decide +kernel
theorem dX1_pathTo_38 : decode cX1_pathTo 38 = .ok (.getfield 12, 3) := by decide +kernel
theorem dX1_pathTo_41 : decode cX1_pathTo 41 = .ok (.getfield 65, 3) := by decide +kernel
theorem dX1_pathTo_44 : decode cX1_pathTo 44 = .ok (.iload_n 1, 1) := by decide +kernel
theorem dX1_pathTo_45 : decode cX1_pathTo 45 = .ok (.if_icmp .ne 24, 3) := by decide +kernel
theorem dX1_pathTo_48 : decode cX1_pathTo 48 = .ok (.aload_n 0, 1) := by decide +kernel
theorem dX1_pathTo_49 : decode cX1_pathTo 49 = .ok (.getfield 12, 3) := by decide +kernel
theorem dX1_pathTo_52 : decode cX1_pathTo 52 = .ok (.getfield 68, 3) := by decide +kernel
theorem dX1_pathTo_55 : decode cX1_pathTo 55 = .ok (.iload_n 2, 1) := by decide +kernel
theorem dX1_pathTo_56 : decode cX1_pathTo 56 = .ok (.if_icmp .ne 13, 3) := by decide +kernel
theorem dX1_pathTo_59 : decode cX1_pathTo 59 = .ok (.aload_n 0, 1) := by decide +kernel
theorem dX1_pathTo_60 : decode cX1_pathTo 60 = .ok (.getfield 18, 3) := by decide +kernel
theorem dX1_pathTo_63 : decode cX1_pathTo 63 = .ok (.iload_n 3, 1) := by decide +kernel
theorem dX1_pathTo_64 : decode cX1_pathTo 64 = .ok (.iaload, 1) := by decide +kernel
theorem dX1_pathTo_65 : decode cX1_pathTo 65 = .ok (.bipush 13, 2) := by decide +kernel
theorem dX1_pathTo_67 : decode cX1_pathTo 67 = .ok (.ishr, 1) := by decide +kernel
theorem dX1_pathTo_68 : decode cX1_pathTo 68 = .ok (.ireturn, 1) := by decide +kernel
theorem dX1_pathTo_69 : decode cX1_pathTo 69 = .ok (.iinc 3 1, 3) := by decide +kernel
theorem dX1_pathTo_72 : decode cX1_pathTo 72 = .ok (.goto (-67), 3) := by decide +kernel
theorem dX1_pathTo_75 : decode cX1_pathTo 75 = .ok (.iconst (-1), 1) := by decide +kernel
theorem dX1_pathTo_76 : decode cX1_pathTo 76 = .ok (.ireturn, 1) := by decide +kernel
theorem dX1_roofsReached_0 : decode cX1_roofsReached 0 = .ok (.iconst 0, 1) := by decide +kernel
theorem dX1_roofsReached_1 : decode cX1_roofsReached 1 = .ok (.istore_n 1, 1) := by decide +kernel
theorem dX1_roofsReached_2 : decode cX1_roofsReached 2 = .ok (.iconst 0, 1) := by decide +kernel
theorem dX1_roofsReached_3 : decode cX1_roofsReached 3 = .ok (.istore_n 2, 1) := by decide +kernel
theorem dX1_roofsReached_4 : decode cX1_roofsReached 4 = .ok (.iload_n 2, 1) := by decide +kernel
theorem dX1_roofsReached_5 : decode cX1_roofsReached 5 = .ok (.aload_n 0, 1) := by decide +kernel
theorem dX1_roofsReached_6 : decode cX1_roofsReached 6 = .ok (.getfield 25, 3) := by decide +kernel
theorem dX1_roofsReached_9 : decode cX1_roofsReached 9 = .ok (.getfield 71, 3) := by decide +kernel
theorem dX1_roofsReached_12 : decode cX1_roofsReached 12 = .ok (.if_icmp .ge 40, 3) := by decide +kernel
theorem dX1_roofsReached_15 : decode cX1_roofsReached 15 = .ok (.aload_n 0, 1) := by decide +kernel
theorem dX1_roofsReached_16 : decode cX1_roofsReached 16 = .ok (.aload_n 0, 1) := by decide +kernel
theorem dX1_roofsReached_17 : decode cX1_roofsReached 17 = .ok (.getfield 25, 3) := by decide +kernel
theorem dX1_roofsReached_20 : decode cX1_roofsReached 20 = .ok (.getfield 74, 3) := by decide +kernel
theorem dX1_roofsReached_23 : decode cX1_roofsReached 23 = .ok (.iload_n 2, 1) := by decide +kernel
theorem dX1_roofsReached_24 : decode cX1_roofsReached 24 = .ok (.iaload, 1) := by decide +kernel
theorem dX1_roofsReached_25 : decode cX1_roofsReached 25 = .ok (.aload_n 0, 1) := by decide +kernel
theorem dX1_roofsReached_26 : decode cX1_roofsReached 26 = .ok (.getfield 25, 3) := by decide +kernel
theorem dX1_roofsReached_29 : decode cX1_roofsReached 29 = .ok (.getfield 77, 3) := by decide +kernel
theorem dX1_roofsReached_32 : decode cX1_roofsReached 32 = .ok (.iload_n 2, 1) := by decide +kernel
theorem dX1_roofsReached_33 : decode cX1_roofsReached 33 = .ok (.iaload, 1) := by decide +kernel
theorem dX1_roofsReached_34 : decode cX1_roofsReached 34 = .ok (.invokevirtual 80, 3) := by decide +kernel
theorem dX1_roofsReached_37 : decode cX1_roofsReached 37 = .ok (.ifCond .lt 9, 3) := by decide +kernel
theorem dX1_roofsReached_40 : decode cX1_roofsReached 40 = .ok (.iload_n 1, 1) := by decide +kernel
theorem dX1_roofsReached_41 : decode cX1_roofsReached 41 = .ok (.iconst 1, 1) := by decide +kernel
theorem dX1_roofsReached_42 : decode cX1_roofsReached 42 = .ok (.iload_n 2, 1) := by decide +kernel
theorem dX1_roofsReached_43 : decode cX1_roofsReached 43 = .ok (.ishl, 1) := by decide +kernel
theorem dX1_roofsReached_44 : decode cX1_roofsReached 44 = .ok (.ior, 1) := by decide +kernel
theorem dX1_roofsReached_45 : decode cX1_roofsReached 45 = .ok (.istore_n 1, 1) := by decide +kernel
theorem dX1_roofsReached_46 : decode cX1_roofsReached 46 = .ok (.iinc 2 1, 3) := by decide +kernel
theorem dX1_roofsReached_49 : decode cX1_roofsReached 49 = .ok (.goto (-45), 3) := by decide +kernel
theorem dX1_roofsReached_52 : decode cX1_roofsReached 52 = .ok (.iload_n 1, 1) := by decide +kernel
theorem dX1_roofsReached_53 : decode cX1_roofsReached 53 = .ok (.ireturn, 1) := by decide +kernel
theorem dX1_meet_0 : decode cX1_meet 0 = .ok (.iload_n 2, 1) := by decide +kernel
theorem dX1_meet_1 : decode cX1_meet 1 = .ok (.ifCond .lt 20, 3) := by decide +kernel
theorem dX1_meet_4 : decode cX1_meet 4 = .ok (.iload_n 2, 1) := by decide +kernel
theorem dX1_meet_5 : decode cX1_meet 5 = .ok (.sipush 8000, 3) := by decide +kernel
theorem dX1_meet_8 : decode cX1_meet 8 = .ok (.if_icmp .ge 13, 3) := by decide +kernel
theorem dX1_meet_11 : decode cX1_meet 11 = .ok (.aload_n 0, 1) := by decide +kernel
theorem dX1_meet_12 : decode cX1_meet 12 = .ok (.getfield 33, 3) := by decide +kernel
theorem dX1_meet_15 : decode cX1_meet 15 = .ok (.sipush 8000, 3) := by decide +kernel
theorem dX1_meet_18 : decode cX1_meet 18 = .ok (.if_icmp .lt 4, 3) := by decide +kernel
theorem dX1_meet_21 : decode cX1_meet 21 = .ok (.return_, 1) := by decide +kernel
theorem dX1_meet_22 : decode cX1_meet 22 = .ok (.iconst 1, 1) := by decide +kernel
theorem dX1_meet_23 : decode cX1_meet 23 = .ok (.iload_n 2, 1) := by decide +kernel
theorem dX1_meet_24 : decode cX1_meet 24 = .ok (.bipush 31, 2) := by decide +kernel
theorem dX1_meet_26 : decode cX1_meet 26 = .ok (.iand, 1) := by decide +kernel
theorem dX1_meet_27 : decode cX1_meet 27 = .ok (.ishl, 1) := by decide +kernel
theorem dX1_meet_28 : decode cX1_meet 28 = .ok (.istore_n 3, 1) := by decide +kernel
theorem dX1_meet_29 : decode cX1_meet 29 = .ok (.aload_n 0, 1) := by decide +kernel
theorem dX1_meet_30 : decode cX1_meet 30 = .ok (.getfield 22, 3) := by decide +kernel
theorem dX1_meet_33 : decode cX1_meet 33 = .ok (.iload_n 2, 1) := by decide +kernel
theorem dX1_meet_34 : decode cX1_meet 34 = .ok (.iconst 5, 1) := by decide +kernel
theorem dX1_meet_35 : decode cX1_meet 35 = .ok (.ishr, 1) := by decide +kernel
theorem dX1_meet_36 : decode cX1_meet 36 = .ok (.iaload, 1) := by decide +kernel
theorem dX1_meet_37 : decode cX1_meet 37 = .ok (.iload_n 3, 1) := by decide +kernel
theorem dX1_meet_38 : decode cX1_meet 38 = .ok (.iand, 1) := by decide +kernel
theorem dX1_meet_39 : decode cX1_meet 39 = .ok (.ifCond .ne 40, 3) := by decide +kernel
theorem dX1_meet_42 : decode cX1_meet 42 = .ok (.aload_n 0, 1) := by decide +kernel
theorem dX1_meet_43 : decode cX1_meet 43 = .ok (.getfield 22, 3) := by decide +kernel
theorem dX1_meet_46 : decode cX1_meet 46 = .ok (.iload_n 2, 1) := by decide +kernel
theorem dX1_meet_47 : decode cX1_meet 47 = .ok (.iconst 5, 1) := by decide +kernel
theorem dX1_meet_48 : decode cX1_meet 48 = .ok (.ishr, 1) := by decide +kernel
theorem dX1_meet_49 : decode cX1_meet 49 = .ok (.dup2, 1) := by decide +kernel
theorem dX1_meet_50 : decode cX1_meet 50 = .ok (.iaload, 1) := by decide +kernel
theorem dX1_meet_51 : decode cX1_meet 51 = .ok (.iload_n 3, 1) := by decide +kernel
theorem dX1_meet_52 : decode cX1_meet 52 = .ok (.ior, 1) := by decide +kernel
theorem dX1_meet_53 : decode cX1_meet 53 = .ok (.iastore, 1) := by decide +kernel
theorem dX1_meet_54 : decode cX1_meet 54 = .ok (.aload_n 0, 1) := by decide +kernel
theorem dX1_meet_55 : decode cX1_meet 55 = .ok (.getfield 18, 3) := by decide +kernel
theorem dX1_meet_58 : decode cX1_meet 58 = .ok (.aload_n 0, 1) := by decide +kernel
theorem dX1_meet_59 : decode cX1_meet 59 = .ok (.getfield 33, 3) := by decide +kernel
theorem dX1_meet_62 : decode cX1_meet 62 = .ok (.iload_n 1, 1) := by decide +kernel
theorem dX1_meet_63 : decode cX1_meet 63 = .ok (.bipush 13, 2) := by decide +kernel
theorem dX1_meet_65 : decode cX1_meet 65 = .ok (.ishl, 1) := by decide +kernel
theorem dX1_meet_66 : decode cX1_meet 66 = .ok (.iload_n 2, 1) := by decide +kernel
theorem dX1_meet_67 : decode cX1_meet 67 = .ok (.ior, 1) := by decide +kernel
theorem dX1_meet_68 : decode cX1_meet 68 = .ok (.iastore, 1) := by decide +kernel
theorem dX1_meet_69 : decode cX1_meet 69 = .ok (.aload_n 0, 1) := by decide +kernel
theorem dX1_meet_70 : decode cX1_meet 70 = .ok (.dup, 1) := by decide +kernel
theorem dX1_meet_71 : decode cX1_meet 71 = .ok (.getfield 33, 3) := by decide +kernel
theorem dX1_meet_74 : decode cX1_meet 74 = .ok (.iconst 1, 1) := by decide +kernel
theorem dX1_meet_75 : decode cX1_meet 75 = .ok (.iadd, 1) := by decide +kernel
theorem dX1_meet_76 : decode cX1_meet 76 = .ok (.putfield 33, 3) := by decide +kernel
theorem dX1_meet_79 : decode cX1_meet 79 = .ok (.return_, 1) := by decide +kernel
theorem dX1_after_0 : decode cX1_after 0 = .ok (.aload_n 0, 1) := by decide +kernel
theorem dX1_after_1 : decode cX1_after 1 = .ok (.iload_n 1, 1) := by decide +kernel
theorem dX1_after_2 : decode cX1_after 2 = .ok (.invokevirtual 57, 3) := by decide +kernel
theorem dX1_after_5 : decode cX1_after 5 = .ok (.aload_n 0, 1) := by decide +kernel
theorem dX1_after_6 : decode cX1_after 6 = .ok (.getfield 25, 3) := by decide +kernel
theorem dX1_after_9 : decode cX1_after 9 = .ok (.aload_n 0, 1) := by decide +kernel
theorem dX1_after_10 : decode cX1_after 10 = .ok (.getfield 12, 3) := by decide +kernel
theorem dX1_after_13 : decode cX1_after 13 = .ok (.iload_n 2, 1) := by decide +kernel
theorem dX1_after_14 : decode cX1_after 14 = .ok (.invokevirtual 83, 3) := by decide +kernel
theorem dX1_after_17 : decode cX1_after 17 = .ok (.aload_n 0, 1) := by decide +kernel
theorem dX1_after_18 : decode cX1_after 18 = .ok (.aload_n 0, 1) := by decide +kernel
theorem dX1_after_19 : decode cX1_after 19 = .ok (.getfield 12, 3) := by decide +kernel
theorem dX1_after_22 : decode cX1_after 22 = .ok (.invokevirtual 87, 3) := by decide +kernel
theorem dX1_after_25 : decode cX1_after 25 = .ok (.ireturn, 1) := by decide +kernel
theorem dX1_enter_0 : decode cX1_enter 0 = .ok (.aload_n 0, 1) := by decide +kernel
theorem dX1_enter_1 : decode cX1_enter 1 = .ok (.getfield 12, 3) := by decide +kernel
theorem dX1_enter_4 : decode cX1_enter 4 = .ok (.aload_n 1, 1) := by decide +kernel
theorem dX1_enter_5 : decode cX1_enter 5 = .ok (.getfield 90, 3) := by decide +kernel
theorem dX1_enter_8 : decode cX1_enter 8 = .ok (.putfield 90, 3) := by decide +kernel
theorem dX1_enter_11 : decode cX1_enter 11 = .ok (.aload_n 0, 1) := by decide +kernel
theorem dX1_enter_12 : decode cX1_enter 12 = .ok (.aload_n 1, 1) := by decide +kernel
theorem dX1_enter_13 : decode cX1_enter 13 = .ok (.invokevirtual 87, 3) := by decide +kernel
theorem dX1_enter_16 : decode cX1_enter 16 = .ok (.ireturn, 1) := by decide +kernel
theorem dX1_placeOf_0 : decode cX1_placeOf 0 = .ok (.bipush 100, 2) := by decide +kernel
theorem dX1_placeOf_2 : decode cX1_placeOf 2 = .ok (.aload_n 1, 1) := by decide +kernel
theorem dX1_placeOf_3 : decode cX1_placeOf 3 = .ok (.getfield 93, 3) := by decide +kernel
theorem dX1_placeOf_6 : decode cX1_placeOf 6 = .ok (.imul, 1) := by decide +kernel
theorem dX1_placeOf_7 : decode cX1_placeOf 7 = .ok (.aload_n 1, 1) := by decide +kernel
theorem dX1_placeOf_8 : decode cX1_placeOf 8 = .ok (.invokevirtual 96, 3) := by decide +kernel
theorem dX1_placeOf_11 : decode cX1_placeOf 11 = .ok (.iadd, 1) := by decide +kernel
theorem dX1_placeOf_12 : decode cX1_placeOf 12 = .ok (.istore_n 2, 1) := by decide +kernel
theorem dX1_placeOf_13 : decode cX1_placeOf 13 = .ok (.bipush 8, 2) := by decide +kernel
theorem dX1_placeOf_15 : decode cX1_placeOf 15 = .ok (.iload_n 2, 1) := by decide +kernel
theorem dX1_placeOf_16 : decode cX1_placeOf 16 = .ok (.imul, 1) := by decide +kernel
theorem dX1_placeOf_17 : decode cX1_placeOf 17 = .ok (.iconst 2, 1) := by decide +kernel
theorem dX1_placeOf_18 : decode cX1_placeOf 18 = .ok (.aload_n 1, 1) := by decide +kernel
theorem dX1_placeOf_19 : decode cX1_placeOf 19 = .ok (.getfield 100, 3) := by decide +kernel
theorem dX1_placeOf_22 : decode cX1_placeOf 22 = .ok (.imul, 1) := by decide +kernel
theorem dX1_placeOf_23 : decode cX1_placeOf 23 = .ok (.iadd, 1) := by decide +kernel
theorem dX1_placeOf_24 : decode cX1_placeOf 24 = .ok (.aload_n 0, 1) := by decide +kernel
theorem dX1_placeOf_25 : decode cX1_placeOf 25 = .ok (.getfield 25, 3) := by decide +kernel
theorem dX1_placeOf_28 : decode cX1_placeOf 28 = .ok (.aload_n 1, 1) := by decide +kernel
theorem dX1_placeOf_29 : decode cX1_placeOf 29 = .ok (.getfield 103, 3) := by decide +kernel
theorem dX1_placeOf_32 : decode cX1_placeOf 32 = .ok (.invokevirtual 106, 3) := by decide +kernel
theorem dX1_placeOf_35 : decode cX1_placeOf 35 = .ok (.ifCond .eq 7, 3) := by decide +kernel
theorem dX1_placeOf_38 : decode cX1_placeOf 38 = .ok (.iconst 1, 1) := by decide +kernel
theorem dX1_placeOf_39 : decode cX1_placeOf 39 = .ok (.goto 4, 3) := by decide +kernel
theorem dX1_placeOf_42 : decode cX1_placeOf 42 = .ok (.iconst 0, 1) := by decide +kernel
theorem dX1_placeOf_43 : decode cX1_placeOf 43 = .ok (.iadd, 1) := by decide +kernel
theorem dX1_placeOf_44 : decode cX1_placeOf 44 = .ok (.ireturn, 1) := by decide +kernel
theorem dX1_isLanding_0 : decode cX1_isLanding 0 = .ok (.aload_n 0, 1) := by decide +kernel
theorem dX1_isLanding_1 : decode cX1_isLanding 1 = .ok (.iload_n 1, 1) := by decide +kernel
theorem dX1_isLanding_2 : decode cX1_isLanding 2 = .ok (.invokevirtual 57, 3) := by decide +kernel
theorem dX1_isLanding_5 : decode cX1_isLanding 5 = .ok (.aload_n 0, 1) := by decide +kernel
theorem dX1_isLanding_6 : decode cX1_isLanding 6 = .ok (.getfield 25, 3) := by decide +kernel
theorem dX1_isLanding_9 : decode cX1_isLanding 9 = .ok (.aload_n 0, 1) := by decide +kernel
theorem dX1_isLanding_10 : decode cX1_isLanding 10 = .ok (.getfield 12, 3) := by decide +kernel
theorem dX1_isLanding_13 : decode cX1_isLanding 13 = .ok (.invokevirtual 110, 3) := by decide +kernel
theorem dX1_isLanding_16 : decode cX1_isLanding 16 = .ok (.ireturn, 1) := by decide +kernel
theorem dX1_standAt_0 : decode cX1_standAt 0 = .ok (.iload_n 1, 1) := by decide +kernel
theorem dX1_standAt_1 : decode cX1_standAt 1 = .ok (.iconst 3, 1) := by decide +kernel
theorem dX1_standAt_2 : decode cX1_standAt 2 = .ok (.ishr, 1) := by decide +kernel
theorem dX1_standAt_3 : decode cX1_standAt 3 = .ok (.istore_n 2, 1) := by decide +kernel
theorem dX1_standAt_4 : decode cX1_standAt 4 = .ok (.aload_n 0, 1) := by decide +kernel
theorem dX1_standAt_5 : decode cX1_standAt 5 = .ok (.getfield 12, 3) := by decide +kernel
theorem dX1_standAt_8 : decode cX1_standAt 8 = .ok (.iload_n 1, 1) := by decide +kernel
theorem dX1_standAt_9 : decode cX1_standAt 9 = .ok (.invokestatic 44, 3) := by decide +kernel
theorem dX1_standAt_12 : decode cX1_standAt 12 = .ok (.putfield 93, 3) := by decide +kernel
theorem dX1_standAt_15 : decode cX1_standAt 15 = .ok (.aload_n 0, 1) := by decide +kernel
theorem dX1_standAt_16 : decode cX1_standAt 16 = .ok (.getfield 12, 3) := by decide +kernel
theorem dX1_standAt_19 : decode cX1_standAt 19 = .ok (.iload_n 2, 1) := by decide +kernel
theorem dX1_standAt_20 : decode cX1_standAt 20 = .ok (.bipush 10, 2) := by decide +kernel
theorem dX1_standAt_22 : decode cX1_standAt 22 = .ok (.idiv, 1) := by decide +kernel
theorem dX1_standAt_23 : decode cX1_standAt 23 = .ok (.bipush 10, 2) := by decide +kernel
theorem dX1_standAt_25 : decode cX1_standAt 25 = .ok (.irem, 1) := by decide +kernel
theorem dX1_standAt_26 : decode cX1_standAt 26 = .ok (.putfield 68, 3) := by decide +kernel
theorem dX1_standAt_29 : decode cX1_standAt 29 = .ok (.aload_n 0, 1) := by decide +kernel
theorem dX1_standAt_30 : decode cX1_standAt 30 = .ok (.getfield 12, 3) := by decide +kernel
theorem dX1_standAt_33 : decode cX1_standAt 33 = .ok (.iload_n 2, 1) := by decide +kernel
theorem dX1_standAt_34 : decode cX1_standAt 34 = .ok (.bipush 10, 2) := by decide +kernel
theorem dX1_standAt_36 : decode cX1_standAt 36 = .ok (.irem, 1) := by decide +kernel
theorem dX1_standAt_37 : decode cX1_standAt 37 = .ok (.putfield 65, 3) := by decide +kernel
theorem dX1_standAt_40 : decode cX1_standAt 40 = .ok (.aload_n 0, 1) := by decide +kernel
theorem dX1_standAt_41 : decode cX1_standAt 41 = .ok (.getfield 12, 3) := by decide +kernel
theorem dX1_standAt_44 : decode cX1_standAt 44 = .ok (.iload_n 1, 1) := by decide +kernel
theorem dX1_standAt_45 : decode cX1_standAt 45 = .ok (.iconst 1, 1) := by decide +kernel
theorem dX1_standAt_46 : decode cX1_standAt 46 = .ok (.ishr, 1) := by decide +kernel
theorem dX1_standAt_47 : decode cX1_standAt 47 = .ok (.iconst 3, 1) := by decide +kernel
theorem dX1_standAt_48 : decode cX1_standAt 48 = .ok (.iand, 1) := by decide +kernel
theorem dX1_standAt_49 : decode cX1_standAt 49 = .ok (.putfield 100, 3) := by decide +kernel
theorem dX1_standAt_52 : decode cX1_standAt 52 = .ok (.aload_n 0, 1) := by decide +kernel
theorem dX1_standAt_53 : decode cX1_standAt 53 = .ok (.getfield 12, 3) := by decide +kernel
theorem dX1_standAt_56 : decode cX1_standAt 56 = .ok (.iload_n 1, 1) := by decide +kernel
theorem dX1_standAt_57 : decode cX1_standAt 57 = .ok (.iconst 1, 1) := by decide +kernel
theorem dX1_standAt_58 : decode cX1_standAt 58 = .ok (.iand, 1) := by decide +kernel
theorem dX1_standAt_59 : decode cX1_standAt 59 = .ok (.iconst 1, 1) := by decide +kernel
theorem dX1_standAt_60 : decode cX1_standAt 60 = .ok (.if_icmp .ne 13, 3) := by decide +kernel
theorem dX1_standAt_63 : decode cX1_standAt 63 = .ok (.aload_n 0, 1) := by decide +kernel
theorem dX1_standAt_64 : decode cX1_standAt 64 = .ok (.getfield 25, 3) := by decide +kernel
theorem dX1_standAt_67 : decode cX1_standAt 67 = .ok (.invokevirtual 114, 3) := by decide +kernel
theorem dX1_standAt_70 : decode cX1_standAt 70 = .ok (.goto 5, 3) := by decide +kernel
theorem dX1_standAt_73 : decode cX1_standAt 73 = .ok (.bipush (-4), 2) := by decide +kernel
theorem dX1_standAt_75 : decode cX1_standAt 75 = .ok (.putfield 103, 3) := by decide +kernel
theorem dX1_standAt_78 : decode cX1_standAt 78 = .ok (.return_, 1) := by decide +kernel
theorem dX1_heightOf_0 : decode cX1_heightOf 0 = .ok (.iload_n 0, 1) := by decide +kernel
theorem dX1_heightOf_1 : decode cX1_heightOf 1 = .ok (.sipush 800, 3) := by decide +kernel
theorem dX1_heightOf_4 : decode cX1_heightOf 4 = .ok (.idiv, 1) := by decide +kernel
theorem dX1_heightOf_5 : decode cX1_heightOf 5 = .ok (.ireturn, 1) := by decide +kernel
theorem dX2_init_0 : decode cX2_init 0 = .ok (.aload_n 0, 1) := by decide +kernel
theorem dX2_init_1 : decode cX2_init 1 = .ok (.invokespecial 3, 3) := by decide +kernel
theorem dX2_init_4 : decode cX2_init 4 = .ok (.aload_n 0, 1) := by decide +kernel
theorem dX2_init_5 : decode cX2_init 5 = .ok (.bipush 7, 2) := by decide +kernel
theorem dX2_init_7 : decode cX2_init 7 = .ok (.newarray .int, 2) := by decide +kernel
theorem dX2_init_9 : decode cX2_init 9 = .ok (.putfield 9, 3) := by decide +kernel
theorem dX2_init_12 : decode cX2_init 12 = .ok (.aload_n 0, 1) := by decide +kernel
theorem dX2_init_13 : decode cX2_init 13 = .ok (.bipush 7, 2) := by decide +kernel
theorem dX2_init_15 : decode cX2_init 15 = .ok (.newarray .int, 2) := by decide +kernel
theorem dX2_init_17 : decode cX2_init 17 = .ok (.putfield 15, 3) := by decide +kernel
theorem dX2_init_20 : decode cX2_init 20 = .ok (.aload_n 0, 1) := by decide +kernel
theorem dX2_init_21 : decode cX2_init 21 = .ok (.bipush 7, 2) := by decide +kernel
theorem dX2_init_23 : decode cX2_init 23 = .ok (.newarray .int, 2) := by decide +kernel
theorem dX2_init_25 : decode cX2_init 25 = .ok (.putfield 18, 3) := by decide +kernel
theorem dX2_init_28 : decode cX2_init 28 = .ok (.aload_n 0, 1) := by decide +kernel
theorem dX2_init_29 : decode cX2_init 29 = .ok (.bipush 10, 2) := by decide +kernel
theorem dX2_init_31 : decode cX2_init 31 = .ok (.newarray .int, 2) := by decide +kernel
theorem dX2_init_33 : decode cX2_init 33 = .ok (.putfield 21, 3) := by decide +kernel
theorem dX2_init_36 : decode cX2_init 36 = .ok (.aload_n 0, 1) := by decide +kernel
theorem dX2_init_37 : decode cX2_init 37 = .ok (.bipush 6, 2) := by decide +kernel
theorem dX2_init_39 : decode cX2_init 39 = .ok (.newarray .int, 2) := by decide +kernel
theorem dX2_init_41 : decode cX2_init 41 = .ok (.putfield 24, 3) := by decide +kernel
theorem dX2_init_44 : decode cX2_init 44 = .ok (.aload_n 0, 1) := by decide +kernel
theorem dX2_init_45 : decode cX2_init 45 = .ok (.bipush 6, 2) := by decide +kernel
theorem dX2_init_47 : decode cX2_init 47 = .ok (.newarray .int, 2) := by decide +kernel
theorem dX2_init_49 : decode cX2_init 49 = .ok (.putfield 27, 3) := by decide +kernel
theorem dX2_init_52 : decode cX2_init 52 = .ok (.aload_n 0, 1) := by decide +kernel
theorem dX2_init_53 : decode cX2_init 53 = .ok (.new 30, 3) := by decide +kernel
theorem dX2_init_56 : decode cX2_init 56 = .ok (.dup, 1) := by decide +kernel
theorem dX2_init_57 : decode cX2_init 57 = .ok (.invokespecial 32, 3) := by decide +kernel
theorem dX2_init_60 : decode cX2_init 60 = .ok (.putfield 33, 3) := by decide +kernel
theorem dX2_init_63 : decode cX2_init 63 = .ok (.return_, 1) := by decide +kernel
theorem dX2_clear_0 : decode cX2_clear 0 = .ok (.aload_n 0, 1) := by decide +kernel
theorem dX2_clear_1 : decode cX2_clear 1 = .ok (.iconst 0, 1) := by decide +kernel
theorem dX2_clear_2 : decode cX2_clear 2 = .ok (.putfield 37, 3) := by decide +kernel
theorem dX2_clear_5 : decode cX2_clear 5 = .ok (.aload_n 0, 1) := by decide +kernel
theorem dX2_clear_6 : decode cX2_clear 6 = .ok (.iconst 0, 1) := by decide +kernel
theorem dX2_clear_7 : decode cX2_clear 7 = .ok (.putfield 41, 3) := by decide +kernel
theorem dX2_clear_10 : decode cX2_clear 10 = .ok (.iconst 0, 1) := by decide +kernel
theorem dX2_clear_11 : decode cX2_clear 11 = .ok (.istore_n 1, 1) := by decide +kernel
theorem dX2_clear_12 : decode cX2_clear 12 = .ok (.iload_n 1, 1) := by decide +kernel
theorem dX2_clear_13 : decode cX2_clear 13 = .ok (.bipush 9, 2) := by decide +kernel
theorem dX2_clear_15 : decode cX2_clear 15 = .ok (.if_icmp .gt 16, 3) := by decide +kernel
theorem dX2_clear_18 : decode cX2_clear 18 = .ok (.aload_n 0, 1) := by decide +kernel
theorem dX2_clear_19 : decode cX2_clear 19 = .ok (.getfield 21, 3) := by decide +kernel
theorem dX2_clear_22 : decode cX2_clear 22 = .ok (.iload_n 1, 1) := by decide +kernel
theorem dX2_clear_23 : decode cX2_clear 23 = .ok (.iconst 4, 1) := by decide +kernel
theorem dX2_clear_24 : decode cX2_clear 24 = .ok (.iastore, 1) := by decide +kernel
theorem dX2_clear_25 : decode cX2_clear 25 = .ok (.iinc 1 1, 3) := by decide +kernel
theorem dX2_clear_28 : decode cX2_clear 28 = .ok (.goto (-16), 3) := by decide +kernel
theorem dX2_clear_31 : decode cX2_clear 31 = .ok (.aload_n 0, 1) := by decide +kernel
theorem dX2_clear_32 : decode cX2_clear 32 = .ok (.iconst 5, 1) := by decide +kernel
theorem dX2_clear_33 : decode cX2_clear 33 = .ok (.iconst 5, 1) := by decide +kernel
theorem dX2_clear_34 : decode cX2_clear 34 = .ok (.iconst 3, 1) := by decide +kernel
theorem dX2_clear_35 : decode cX2_clear 35 = .ok (.iconst 0, 1) := by decide +kernel
theorem dX2_clear_36 : decode cX2_clear 36 = .ok (.invokevirtual 44, 3) := by decide +kernel
theorem dX2_clear_39 : decode cX2_clear 39 = .ok (.pop, 1) := by decide +kernel
theorem dX2_clear_40 : decode cX2_clear 40 = .ok (.aload_n 0, 1) := by decide +kernel
theorem dX2_clear_41 : decode cX2_clear 41 = .ok (.getfield 33, 3) := by decide +kernel
theorem dX2_clear_44 : decode cX2_clear 44 = .ok (.iconst 1, 1) := by decide +kernel
theorem dX2_clear_45 : decode cX2_clear 45 = .ok (.putfield 48, 3) := by decide +kernel
theorem dX2_clear_48 : decode cX2_clear 48 = .ok (.return_, 1) := by decide +kernel
theorem dX2_hasPeg_0 : decode cX2_hasPeg 0 = .ok (.iload_n 1, 1) := by decide +kernel
theorem dX2_hasPeg_1 : decode cX2_hasPeg 1 = .ok (.ifCond .lt 21, 3) := by decide +kernel
theorem dX2_hasPeg_4 : decode cX2_hasPeg 4 = .ok (.iload_n 1, 1) := by decide +kernel
theorem dX2_hasPeg_5 : decode cX2_hasPeg 5 = .ok (.aload_n 0, 1) := by decide +kernel
theorem dX2_hasPeg_6 : decode cX2_hasPeg 6 = .ok (.getfield 37, 3) := by decide +kernel
theorem dX2_hasPeg_9 : decode cX2_hasPeg 9 = .ok (.if_icmp .ge 13, 3) := by decide +kernel
theorem dX2_hasPeg_12 : decode cX2_hasPeg 12 = .ok (.iload_n 1, 1) := by decide +kernel
theorem dX2_hasPeg_13 : decode cX2_hasPeg 13 = .ok (.bipush 7, 2) := by decide +kernel
theorem dX2_hasPeg_15 : decode cX2_hasPeg 15 = .ok (.if_icmp .ge 7, 3) := by decide +kernel
theorem dX2_hasPeg_18 : decode cX2_hasPeg 18 = .ok (.iconst 1, 1) := by decide +kernel
theorem dX2_hasPeg_19 : decode cX2_hasPeg 19 = .ok (.goto 4, 3) := by decide +kernel
theorem dX2_hasPeg_22 : decode cX2_hasPeg 22 = .ok (.iconst 0, 1) := by decide +kernel
theorem dX2_hasPeg_23 : decode cX2_hasPeg 23 = .ok (.ireturn, 1) := by decide +kernel
theorem dX2_hasRoof_0 : decode cX2_hasRoof 0 = .ok (.iload_n 1, 1) := by decide +kernel
theorem dX2_hasRoof_1 : decode cX2_hasRoof 1 = .ok (.ifCond .lt 21, 3) := by decide +kernel
theorem dX2_hasRoof_4 : decode cX2_hasRoof 4 = .ok (.iload_n 1, 1) := by decide +kernel
theorem dX2_hasRoof_5 : decode cX2_hasRoof 5 = .ok (.aload_n 0, 1) := by decide +kernel
theorem dX2_hasRoof_6 : decode cX2_hasRoof 6 = .ok (.getfield 41, 3) := by decide +kernel
theorem dX2_hasRoof_9 : decode cX2_hasRoof 9 = .ok (.if_icmp .ge 13, 3) := by decide +kernel
theorem dX2_hasRoof_12 : decode cX2_hasRoof 12 = .ok (.iload_n 1, 1) := by decide +kernel
theorem dX2_hasRoof_13 : decode cX2_hasRoof 13 = .ok (.bipush 6, 2) := by decide +kernel
theorem dX2_hasRoof_15 : decode cX2_hasRoof 15 = .ok (.if_icmp .ge 7, 3) := by decide +kernel
theorem dX2_hasRoof_18 : decode cX2_hasRoof 18 = .ok (.iconst 1, 1) := by decide +kernel
theorem dX2_hasRoof_19 : decode cX2_hasRoof 19 = .ok (.goto 4, 3) := by decide +kernel
theorem dX2_hasRoof_22 : decode cX2_hasRoof 22 = .ok (.iconst 0, 1) := by decide +kernel
theorem dX2_hasRoof_23 : decode cX2_hasRoof 23 = .ok (.ireturn, 1) := by decide +kernel
theorem dX2_windAt_0 : decode cX2_windAt 0 = .ok (.iload_n 1, 1) := by decide +kernel
theorem dX2_windAt_1 : decode cX2_windAt 1 = .ok (.iconst 1, 1) := by decide +kernel
theorem dX2_windAt_2 : decode cX2_windAt 2 = .ok (.if_icmp .lt 9, 3) := by decide +kernel
theorem dX2_windAt_5 : decode cX2_windAt 5 = .ok (.iload_n 1, 1) := by decide +kernel
theorem dX2_windAt_6 : decode cX2_windAt 6 = .ok (.bipush 9, 2) := by decide +kernel
theorem dX2_windAt_8 : decode cX2_windAt 8 = .ok (.if_icmp .le 7, 3) := by decide +kernel
theorem dX2_windAt_11 : decode cX2_windAt 11 = .ok (.iconst 4, 1) := by decide +kernel
theorem dX2_windAt_12 : decode cX2_windAt 12 = .ok (.goto 9, 3) := by decide +kernel
theorem dX2_windAt_15 : decode cX2_windAt 15 = .ok (.aload_n 0, 1) := by decide +kernel
theorem dX2_windAt_16 : decode cX2_windAt 16 = .ok (.getfield 21, 3) := by decide +kernel
theorem dX2_windAt_19 : decode cX2_windAt 19 = .ok (.iload_n 1, 1) := by decide +kernel
theorem dX2_windAt_20 : decode cX2_windAt 20 = .ok (.iaload, 1) := by decide +kernel
theorem dX2_windAt_21 : decode cX2_windAt 21 = .ok (.ireturn, 1) := by decide +kernel
theorem dX2_addPeg_0 : decode cX2_addPeg 0 = .ok (.aload_n 0, 1) := by decide +kernel
theorem dX2_addPeg_1 : decode cX2_addPeg 1 = .ok (.getfield 37, 3) := by decide +kernel
theorem dX2_addPeg_4 : decode cX2_addPeg 4 = .ok (.bipush 7, 2) := by decide +kernel
theorem dX2_addPeg_6 : decode cX2_addPeg 6 = .ok (.if_icmp .ge 19, 3) := by decide +kernel
theorem dX2_addPeg_9 : decode cX2_addPeg 9 = .ok (.iload_n 1, 1) := by decide +kernel
theorem dX2_addPeg_10 : decode cX2_addPeg 10 = .ok (.iconst 4, 1) := by decide +kernel
theorem dX2_addPeg_11 : decode cX2_addPeg 11 = .ok (.if_icmp .ge 14, 3) := by decide +kernel
theorem dX2_addPeg_14 : decode cX2_addPeg 14 = .ok (.iload_n 2, 1) := by decide +kernel
theorem dX2_addPeg_15 : decode cX2_addPeg 15 = .ok (.bipush 10, 2) := by decide +kernel
theorem dX2_addPeg_17 : decode cX2_addPeg 17 = .ok (.if_icmp .ge 8, 3) := by decide +kernel
theorem dX2_addPeg_20 : decode cX2_addPeg 20 = .ok (.iload_n 3, 1) := by decide +kernel
theorem dX2_addPeg_21 : decode cX2_addPeg 21 = .ok (.iconst 3, 1) := by decide +kernel
theorem dX2_addPeg_22 : decode cX2_addPeg 22 = .ok (.if_icmp .le 5, 3) := by decide +kernel
theorem dX2_addPeg_25 : decode cX2_addPeg 25 = .ok (.iconst 0, 1) := by decide +kernel
theorem dX2_addPeg_26 : decode cX2_addPeg 26 = .ok (.ireturn, 1) := by decide +kernel
theorem dX2_addPeg_27 : decode cX2_addPeg 27 = .ok (.aload_n 0, 1) := by decide +kernel
theorem dX2_addPeg_28 : decode cX2_addPeg 28 = .ok (.getfield 9, 3) := by decide +kernel
theorem dX2_addPeg_31 : decode cX2_addPeg 31 = .ok (.aload_n 0, 1) := by decide +kernel
theorem dX2_addPeg_32 : decode cX2_addPeg 32 = .ok (.getfield 37, 3) := by decide +kernel
theorem dX2_addPeg_35 : decode cX2_addPeg 35 = .ok (.iload_n 1, 1) := by decide +kernel
theorem dX2_addPeg_36 : decode cX2_addPeg 36 = .ok (.iastore, 1) := by decide +kernel
theorem dX2_addPeg_37 : decode cX2_addPeg 37 = .ok (.aload_n 0, 1) := by decide +kernel
theorem dX2_addPeg_38 : decode cX2_addPeg 38 = .ok (.getfield 15, 3) := by decide +kernel
theorem dX2_addPeg_41 : decode cX2_addPeg 41 = .ok (.aload_n 0, 1) := by decide +kernel
theorem dX2_addPeg_42 : decode cX2_addPeg 42 = .ok (.getfield 37, 3) := by decide +kernel
theorem dX2_addPeg_45 : decode cX2_addPeg 45 = .ok (.iload_n 2, 1) := by decide +kernel
theorem dX2_addPeg_46 : decode cX2_addPeg 46 = .ok (.iastore, 1) := by decide +kernel
theorem dX2_addPeg_47 : decode cX2_addPeg 47 = .ok (.aload_n 0, 1) := by decide +kernel
theorem dX2_addPeg_48 : decode cX2_addPeg 48 = .ok (.getfield 18, 3) := by decide +kernel
theorem dX2_addPeg_51 : decode cX2_addPeg 51 = .ok (.aload_n 0, 1) := by decide +kernel
theorem dX2_addPeg_52 : decode cX2_addPeg 52 = .ok (.getfield 37, 3) := by decide +kernel
theorem dX2_addPeg_55 : decode cX2_addPeg 55 = .ok (.iload_n 3, 1) := by decide +kernel
theorem dX2_addPeg_56 : decode cX2_addPeg 56 = .ok (.iastore, 1) := by decide +kernel
theorem dX2_addPeg_57 : decode cX2_addPeg 57 = .ok (.aload_n 0, 1) := by decide +kernel
theorem dX2_addPeg_58 : decode cX2_addPeg 58 = .ok (.dup, 1) := by decide +kernel
theorem dX2_addPeg_59 : decode cX2_addPeg 59 = .ok (.getfield 37, 3) := by decide +kernel
theorem dX2_addPeg_62 : decode cX2_addPeg 62 = .ok (.iconst 1, 1) := by decide +kernel
theorem dX2_addPeg_63 : decode cX2_addPeg 63 = .ok (.iadd, 1) := by decide +kernel
theorem dX2_addPeg_64 : decode cX2_addPeg 64 = .ok (.putfield 37, 3) := by decide +kernel
theorem dX2_addPeg_67 : decode cX2_addPeg 67 = .ok (.iconst 1, 1) := by decide +kernel
theorem dX2_addPeg_68 : decode cX2_addPeg 68 = .ok (.ireturn, 1) := by decide +kernel
theorem dX2_setWind_0 : decode cX2_setWind 0 = .ok (.iload_n 1, 1) := by decide +kernel
theorem dX2_setWind_1 : decode cX2_setWind 1 = .ok (.iconst 1, 1) := by decide +kernel
theorem dX2_setWind_2 : decode cX2_setWind 2 = .ok (.if_icmp .lt 14, 3) := by decide +kernel
theorem dX2_setWind_5 : decode cX2_setWind 5 = .ok (.iload_n 1, 1) := by decide +kernel
theorem dX2_setWind_6 : decode cX2_setWind 6 = .ok (.bipush 9, 2) := by decide +kernel
theorem dX2_setWind_8 : decode cX2_setWind 8 = .ok (.if_icmp .gt 8, 3) := by decide +kernel
theorem dX2_setWind_11 : decode cX2_setWind 11 = .ok (.iload_n 2, 1) := by decide +kernel
theorem dX2_setWind_12 : decode cX2_setWind 12 = .ok (.iconst 4, 1) := by decide +kernel
theorem dX2_setWind_13 : decode cX2_setWind 13 = .ok (.if_icmp .le 5, 3) := by decide +kernel
theorem dX2_setWind_16 : decode cX2_setWind 16 = .ok (.iconst 0, 1) := by decide +kernel
theorem dX2_setWind_17 : decode cX2_setWind 17 = .ok (.ireturn, 1) := by decide +kernel
theorem dX2_setWind_18 : decode cX2_setWind 18 = .ok (.aload_n 0, 1) := by decide +kernel
theorem dX2_setWind_19 : decode cX2_setWind 19 = .ok (.getfield 21, 3) := by decide +kernel
theorem dX2_setWind_22 : decode cX2_setWind 22 = .ok (.iload_n 1, 1) := by decide +kernel
theorem dX2_setWind_23 : decode cX2_setWind 23 = .ok (.iload_n 2, 1) := by decide +kernel
theorem dX2_setWind_24 : decode cX2_setWind 24 = .ok (.iastore, 1) := by decide +kernel
theorem dX2_setWind_25 : decode cX2_setWind 25 = .ok (.iconst 1, 1) := by decide +kernel
theorem dX2_setWind_26 : decode cX2_setWind 26 = .ok (.ireturn, 1) := by decide +kernel
theorem dX2_addRoof_0 : decode cX2_addRoof 0 = .ok (.aload_n 0, 1) := by decide +kernel
theorem dX2_addRoof_1 : decode cX2_addRoof 1 = .ok (.getfield 41, 3) := by decide +kernel
theorem dX2_addRoof_4 : decode cX2_addRoof 4 = .ok (.bipush 6, 2) := by decide +kernel
theorem dX2_addRoof_6 : decode cX2_addRoof 6 = .ok (.if_icmp .ge 15, 3) := by decide +kernel
theorem dX2_addRoof_9 : decode cX2_addRoof 9 = .ok (.iload_n 1, 1) := by decide +kernel
theorem dX2_addRoof_10 : decode cX2_addRoof 10 = .ok (.bipush 9, 2) := by decide +kernel
theorem dX2_addRoof_12 : decode cX2_addRoof 12 = .ok (.if_icmp .gt 9, 3) := by decide +kernel
theorem dX2_addRoof_15 : decode cX2_addRoof 15 = .ok (.iload_n 2, 1) := by decide +kernel
theorem dX2_addRoof_16 : decode cX2_addRoof 16 = .ok (.bipush 9, 2) := by decide +kernel
theorem dX2_addRoof_18 : decode cX2_addRoof 18 = .ok (.if_icmp .le 5, 3) := by decide +kernel
theorem dX2_addRoof_21 : decode cX2_addRoof 21 = .ok (.iconst 0, 1) := by decide +kernel
theorem dX2_addRoof_22 : decode cX2_addRoof 22 = .ok (.ireturn, 1) := by decide +kernel
theorem dX2_addRoof_23 : decode cX2_addRoof 23 = .ok (.aload_n 0, 1) := by decide +kernel
theorem dX2_addRoof_24 : decode cX2_addRoof 24 = .ok (.getfield 24, 3) := by decide +kernel
theorem dX2_addRoof_27 : decode cX2_addRoof 27 = .ok (.aload_n 0, 1) := by decide +kernel
theorem dX2_addRoof_28 : decode cX2_addRoof 28 = .ok (.getfield 41, 3) := by decide +kernel
theorem dX2_addRoof_31 : decode cX2_addRoof 31 = .ok (.iload_n 1, 1) := by decide +kernel
theorem dX2_addRoof_32 : decode cX2_addRoof 32 = .ok (.iastore, 1) := by decide +kernel
theorem dX2_addRoof_33 : decode cX2_addRoof 33 = .ok (.aload_n 0, 1) := by decide +kernel
theorem dX2_addRoof_34 : decode cX2_addRoof 34 = .ok (.getfield 27, 3) := by decide +kernel
theorem dX2_addRoof_37 : decode cX2_addRoof 37 = .ok (.aload_n 0, 1) := by decide +kernel
theorem dX2_addRoof_38 : decode cX2_addRoof 38 = .ok (.getfield 41, 3) := by decide +kernel
theorem dX2_addRoof_41 : decode cX2_addRoof 41 = .ok (.iload_n 2, 1) := by decide +kernel
theorem dX2_addRoof_42 : decode cX2_addRoof 42 = .ok (.iastore, 1) := by decide +kernel
theorem dX2_addRoof_43 : decode cX2_addRoof 43 = .ok (.aload_n 0, 1) := by decide +kernel
theorem dX2_addRoof_44 : decode cX2_addRoof 44 = .ok (.dup, 1) := by decide +kernel
theorem dX2_addRoof_45 : decode cX2_addRoof 45 = .ok (.getfield 41, 3) := by decide +kernel
theorem dX2_addRoof_48 : decode cX2_addRoof 48 = .ok (.iconst 1, 1) := by decide +kernel
theorem dX2_addRoof_49 : decode cX2_addRoof 49 = .ok (.iadd, 1) := by decide +kernel
theorem dX2_addRoof_50 : decode cX2_addRoof 50 = .ok (.putfield 41, 3) := by decide +kernel
theorem dX2_addRoof_53 : decode cX2_addRoof 53 = .ok (.iconst 1, 1) := by decide +kernel
theorem dX2_addRoof_54 : decode cX2_addRoof 54 = .ok (.ireturn, 1) := by decide +kernel
theorem dX2_begin_0 : decode cX2_begin 0 = .ok (.iload_n 1, 1) := by decide +kernel
theorem dX2_begin_1 : decode cX2_begin 1 = .ok (.bipush 9, 2) := by decide +kernel
theorem dX2_begin_3 : decode cX2_begin 3 = .ok (.if_icmp .gt 26, 3) := by decide +kernel
theorem dX2_begin_6 : decode cX2_begin 6 = .ok (.iload_n 2, 1) := by decide +kernel
theorem dX2_begin_7 : decode cX2_begin 7 = .ok (.bipush 9, 2) := by decide +kernel
theorem dX2_begin_9 : decode cX2_begin 9 = .ok (.if_icmp .gt 20, 3) := by decide +kernel
theorem dX2_begin_12 : decode cX2_begin 12 = .ok (.iload_n 3, 1) := by decide +kernel
theorem dX2_begin_13 : decode cX2_begin 13 = .ok (.iconst 1, 1) := by decide +kernel
theorem dX2_begin_14 : decode cX2_begin 14 = .ok (.if_icmp .lt 15, 3) := by decide +kernel
theorem dX2_begin_17 : decode cX2_begin 17 = .ok (.iload_n 3, 1) := by decide +kernel
theorem dX2_begin_18 : decode cX2_begin 18 = .ok (.bipush 9, 2) := by decide +kernel
theorem dX2_begin_20 : decode cX2_begin 20 = .ok (.if_icmp .gt 9, 3) := by decide +kernel
theorem dX2_begin_23 : decode cX2_begin 23 = .ok (.iload 4, 2) := by decide +kernel
theorem dX2_begin_25 : decode cX2_begin 25 = .ok (.iconst 3, 1) := by decide +kernel
theorem dX2_begin_26 : decode cX2_begin 26 = .ok (.if_icmp .le 5, 3) := by decide +kernel
theorem dX2_begin_29 : decode cX2_begin 29 = .ok (.iconst 0, 1) := by decide +kernel
theorem dX2_begin_30 : decode cX2_begin 30 = .ok (.ireturn, 1) := by decide +kernel
theorem dX2_begin_31 : decode cX2_begin 31 = .ok (.aload_n 0, 1) := by decide +kernel
theorem dX2_begin_32 : decode cX2_begin 32 = .ok (.getfield 33, 3) := by decide +kernel
theorem dX2_begin_35 : decode cX2_begin 35 = .ok (.iload_n 1, 1) := by decide +kernel
theorem dX2_begin_36 : decode cX2_begin 36 = .ok (.putfield 51, 3) := by decide +kernel
theorem dX2_begin_39 : decode cX2_begin 39 = .ok (.aload_n 0, 1) := by decide +kernel
theorem dX2_begin_40 : decode cX2_begin 40 = .ok (.getfield 33, 3) := by decide +kernel
theorem dX2_begin_43 : decode cX2_begin 43 = .ok (.iload_n 2, 1) := by decide +kernel
theorem dX2_begin_44 : decode cX2_begin 44 = .ok (.putfield 54, 3) := by decide +kernel
theorem dX2_begin_47 : decode cX2_begin 47 = .ok (.aload_n 0, 1) := by decide +kernel
theorem dX2_begin_48 : decode cX2_begin 48 = .ok (.getfield 33, 3) := by decide +kernel
theorem dX2_begin_51 : decode cX2_begin 51 = .ok (.iload_n 3, 1) := by decide +kernel
theorem dX2_begin_52 : decode cX2_begin 52 = .ok (.putfield 57, 3) := by decide +kernel
theorem dX2_begin_55 : decode cX2_begin 55 = .ok (.aload_n 0, 1) := by decide +kernel
theorem dX2_begin_56 : decode cX2_begin 56 = .ok (.getfield 33, 3) := by decide +kernel
theorem dX2_begin_59 : decode cX2_begin 59 = .ok (.iload 4, 2) := by decide +kernel
theorem dX2_begin_61 : decode cX2_begin 61 = .ok (.putfield 60, 3) := by decide +kernel
theorem dX2_begin_64 : decode cX2_begin 64 = .ok (.iconst 1, 1) := by decide +kernel
theorem dX2_begin_65 : decode cX2_begin 65 = .ok (.ireturn, 1) := by decide +kernel
theorem dX2_setRiders_0 : decode cX2_setRiders 0 = .ok (.iload_n 1, 1) := by decide +kernel
theorem dX2_setRiders_1 : decode cX2_setRiders 1 = .ok (.iconst 1, 1) := by decide +kernel
theorem dX2_setRiders_2 : decode cX2_setRiders 2 = .ok (.if_icmp .lt 8, 3) := by decide +kernel
theorem dX2_setRiders_5 : decode cX2_setRiders 5 = .ok (.iload_n 1, 1) := by decide +kernel
theorem dX2_setRiders_6 : decode cX2_setRiders 6 = .ok (.iconst 2, 1) := by decide +kernel
theorem dX2_setRiders_7 : decode cX2_setRiders 7 = .ok (.if_icmp .le 5, 3) := by decide +kernel
theorem dX2_setRiders_10 : decode cX2_setRiders 10 = .ok (.iconst 0, 1) := by decide +kernel
theorem dX2_setRiders_11 : decode cX2_setRiders 11 = .ok (.ireturn, 1) := by decide +kernel
theorem dX2_setRiders_12 : decode cX2_setRiders 12 = .ok (.aload_n 0, 1) := by decide +kernel
theorem dX2_setRiders_13 : decode cX2_setRiders 13 = .ok (.getfield 33, 3) := by decide +kernel
theorem dX2_setRiders_16 : decode cX2_setRiders 16 = .ok (.iload_n 1, 1) := by decide +kernel
theorem dX2_setRiders_17 : decode cX2_setRiders 17 = .ok (.putfield 48, 3) := by decide +kernel
theorem dX2_setRiders_20 : decode cX2_setRiders 20 = .ok (.iconst 1, 1) := by decide +kernel
theorem dX2_setRiders_21 : decode cX2_setRiders 21 = .ok (.ireturn, 1) := by decide +kernel
theorem dX2_isRoofAt_0 : decode cX2_isRoofAt 0 = .ok (.iconst 0, 1) := by decide +kernel
theorem dX2_isRoofAt_1 : decode cX2_isRoofAt 1 = .ok (.istore_n 3, 1) := by decide +kernel
theorem dX2_isRoofAt_2 : decode cX2_isRoofAt 2 = .ok (.iload_n 3, 1) := by decide +kernel
theorem dX2_isRoofAt_3 : decode cX2_isRoofAt 3 = .ok (.aload_n 0, 1) := by decide +kernel
theorem dX2_isRoofAt_4 : decode cX2_isRoofAt 4 = .ok (.getfield 41, 3) := by decide +kernel
theorem dX2_isRoofAt_7 : decode cX2_isRoofAt 7 = .ok (.if_icmp .ge 31, 3) := by decide +kernel
theorem dX2_isRoofAt_10 : decode cX2_isRoofAt 10 = .ok (.aload_n 0, 1) := by decide +kernel
theorem dX2_isRoofAt_11 : decode cX2_isRoofAt 11 = .ok (.getfield 24, 3) := by decide +kernel
theorem dX2_isRoofAt_14 : decode cX2_isRoofAt 14 = .ok (.iload_n 3, 1) := by decide +kernel
theorem dX2_isRoofAt_15 : decode cX2_isRoofAt 15 = .ok (.iaload, 1) := by decide +kernel
theorem dX2_isRoofAt_16 : decode cX2_isRoofAt 16 = .ok (.iload_n 1, 1) := by decide +kernel
theorem dX2_isRoofAt_17 : decode cX2_isRoofAt 17 = .ok (.if_icmp .ne 15, 3) := by decide +kernel
theorem dX2_isRoofAt_20 : decode cX2_isRoofAt 20 = .ok (.aload_n 0, 1) := by decide +kernel
theorem dX2_isRoofAt_21 : decode cX2_isRoofAt 21 = .ok (.getfield 27, 3) := by decide +kernel
theorem dX2_isRoofAt_24 : decode cX2_isRoofAt 24 = .ok (.iload_n 3, 1) := by decide +kernel
theorem dX2_isRoofAt_25 : decode cX2_isRoofAt 25 = .ok (.iaload, 1) := by decide +kernel
theorem dX2_isRoofAt_26 : decode cX2_isRoofAt 26 = .ok (.iload_n 2, 1) := by decide +kernel
theorem dX2_isRoofAt_27 : decode cX2_isRoofAt 27 = .ok (.if_icmp .ne 5, 3) := by decide +kernel
theorem dX2_isRoofAt_30 : decode cX2_isRoofAt 30 = .ok (.iconst 1, 1) := by decide +kernel
theorem dX2_isRoofAt_31 : decode cX2_isRoofAt 31 = .ok (.ireturn, 1) := by decide +kernel
theorem dX2_isRoofAt_32 : decode cX2_isRoofAt 32 = .ok (.iinc 3 1, 3) := by decide +kernel
theorem dX2_isRoofAt_35 : decode cX2_isRoofAt 35 = .ok (.goto (-33), 3) := by decide +kernel
theorem dX2_isRoofAt_38 : decode cX2_isRoofAt 38 = .ok (.iconst 0, 1) := by decide +kernel
theorem dX2_isRoofAt_39 : decode cX2_isRoofAt 39 = .ok (.ireturn, 1) := by decide +kernel
theorem dX2_hasLanded_0 : decode cX2_hasLanded 0 = .ok (.aload_n 1, 1) := by decide +kernel
theorem dX2_hasLanded_1 : decode cX2_hasLanded 1 = .ok (.invokevirtual 63, 3) := by decide +kernel
theorem dX2_hasLanded_4 : decode cX2_hasLanded 4 = .ok (.ifCond .eq 22, 3) := by decide +kernel
theorem dX2_hasLanded_7 : decode cX2_hasLanded 7 = .ok (.aload_n 0, 1) := by decide +kernel
theorem dX2_hasLanded_8 : decode cX2_hasLanded 8 = .ok (.aload_n 1, 1) := by decide +kernel
theorem dX2_hasLanded_9 : decode cX2_hasLanded 9 = .ok (.getfield 51, 3) := by decide +kernel
theorem dX2_hasLanded_12 : decode cX2_hasLanded 12 = .ok (.aload_n 1, 1) := by decide +kernel
theorem dX2_hasLanded_13 : decode cX2_hasLanded 13 = .ok (.getfield 54, 3) := by decide +kernel
theorem dX2_hasLanded_16 : decode cX2_hasLanded 16 = .ok (.invokevirtual 67, 3) := by decide +kernel
theorem dX2_hasLanded_19 : decode cX2_hasLanded 19 = .ok (.ifCond .eq 7, 3) := by decide +kernel
theorem dX2_hasLanded_22 : decode cX2_hasLanded 22 = .ok (.iconst 1, 1) := by decide +kernel
theorem dX2_hasLanded_23 : decode cX2_hasLanded 23 = .ok (.goto 4, 3) := by decide +kernel
theorem dX2_hasLanded_26 : decode cX2_hasLanded 26 = .ok (.iconst 0, 1) := by decide +kernel
theorem dX2_hasLanded_27 : decode cX2_hasLanded 27 = .ok (.ireturn, 1) := by decide +kernel
theorem dX2_hasFallen_0 : decode cX2_hasFallen 0 = .ok (.aload_n 1, 1) := by decide +kernel
theorem dX2_hasFallen_1 : decode cX2_hasFallen 1 = .ok (.invokevirtual 63, 3) := by decide +kernel
theorem dX2_hasFallen_4 : decode cX2_hasFallen 4 = .ok (.ifCond .eq 22, 3) := by decide +kernel
theorem dX2_hasFallen_7 : decode cX2_hasFallen 7 = .ok (.aload_n 0, 1) := by decide +kernel
theorem dX2_hasFallen_8 : decode cX2_hasFallen 8 = .ok (.aload_n 1, 1) := by decide +kernel
theorem dX2_hasFallen_9 : decode cX2_hasFallen 9 = .ok (.getfield 51, 3) := by decide +kernel
theorem dX2_hasFallen_12 : decode cX2_hasFallen 12 = .ok (.aload_n 1, 1) := by decide +kernel
theorem dX2_hasFallen_13 : decode cX2_hasFallen 13 = .ok (.getfield 54, 3) := by decide +kernel
theorem dX2_hasFallen_16 : decode cX2_hasFallen 16 = .ok (.invokevirtual 67, 3) := by decide +kernel
theorem dX2_hasFallen_19 : decode cX2_hasFallen 19 = .ok (.ifCond .ne 7, 3) := by decide +kernel
theorem dX2_hasFallen_22 : decode cX2_hasFallen 22 = .ok (.iconst 1, 1) := by decide +kernel
theorem dX2_hasFallen_23 : decode cX2_hasFallen 23 = .ok (.goto 4, 3) := by decide +kernel
theorem dX2_hasFallen_26 : decode cX2_hasFallen 26 = .ok (.iconst 0, 1) := by decide +kernel
theorem dX2_hasFallen_27 : decode cX2_hasFallen 27 = .ok (.ireturn, 1) := by decide +kernel
theorem dX2_isDoubling_0 : decode cX2_isDoubling 0 = .ok (.aload_n 0, 1) := by decide +kernel
theorem dX2_isDoubling_1 : decode cX2_isDoubling 1 = .ok (.iload_n 1, 1) := by decide +kernel
theorem dX2_isDoubling_2 : decode cX2_isDoubling 2 = .ok (.invokevirtual 71, 3) := by decide +kernel
theorem dX2_isDoubling_5 : decode cX2_isDoubling 5 = .ok (.ifCond .eq 17, 3) := by decide +kernel
theorem dX2_isDoubling_8 : decode cX2_isDoubling 8 = .ok (.aload_n 0, 1) := by decide +kernel
theorem dX2_isDoubling_9 : decode cX2_isDoubling 9 = .ok (.getfield 9, 3) := by decide +kernel
theorem dX2_isDoubling_12 : decode cX2_isDoubling 12 = .ok (.iload_n 1, 1) := by decide +kernel
theorem dX2_isDoubling_13 : decode cX2_isDoubling 13 = .ok (.iaload, 1) := by decide +kernel
theorem dX2_isDoubling_14 : decode cX2_isDoubling 14 = .ok (.iconst 1, 1) := by decide +kernel
theorem dX2_isDoubling_15 : decode cX2_isDoubling 15 = .ok (.if_icmp .ne 7, 3) := by decide +kernel
theorem dX2_isDoubling_18 : decode cX2_isDoubling 18 = .ok (.iconst 1, 1) := by decide +kernel
theorem dX2_isDoubling_19 : decode cX2_isDoubling 19 = .ok (.goto 4, 3) := by decide +kernel
theorem dX2_isDoubling_22 : decode cX2_isDoubling 22 = .ok (.iconst 0, 1) := by decide +kernel
theorem dX2_isDoubling_23 : decode cX2_isDoubling 23 = .ok (.ireturn, 1) := by decide +kernel
theorem dX2_firstDoubling_0 : decode cX2_firstDoubling 0 = .ok (.iconst 0, 1) := by decide +kernel
theorem dX2_firstDoubling_1 : decode cX2_firstDoubling 1 = .ok (.istore_n 1, 1) := by decide +kernel
theorem dX2_firstDoubling_2 : decode cX2_firstDoubling 2 = .ok (.iload_n 1, 1) := by decide +kernel
theorem dX2_firstDoubling_3 : decode cX2_firstDoubling 3 = .ok (.aload_n 0, 1) := by decide +kernel
theorem dX2_firstDoubling_4 : decode cX2_firstDoubling 4 = .ok (.getfield 37, 3) := by decide +kernel
theorem dX2_firstDoubling_7 : decode cX2_firstDoubling 7 = .ok (.if_icmp .ge 21, 3) := by decide +kernel
theorem dX2_firstDoubling_10 : decode cX2_firstDoubling 10 = .ok (.aload_n 0, 1) := by decide +kernel
theorem dX2_firstDoubling_11 : decode cX2_firstDoubling 11 = .ok (.getfield 9, 3) := by decide +kernel
theorem dX2_firstDoubling_14 : decode cX2_firstDoubling 14 = .ok (.iload_n 1, 1) := by decide +kernel
theorem dX2_firstDoubling_15 : decode cX2_firstDoubling 15 = .ok (.iaload, 1) := by decide +kernel
theorem dX2_firstDoubling_16 : decode cX2_firstDoubling 16 = .ok (.iconst 1, 1) := by decide +kernel
theorem dX2_firstDoubling_17 : decode cX2_firstDoubling 17 = .ok (.if_icmp .ne 5, 3) := by decide +kernel
theorem dX2_firstDoubling_20 : decode cX2_firstDoubling 20 = .ok (.iload_n 1, 1) := by decide +kernel
theorem dX2_firstDoubling_21 : decode cX2_firstDoubling 21 = .ok (.ireturn, 1) := by decide +kernel
theorem dX2_firstDoubling_22 : decode cX2_firstDoubling 22 = .ok (.iinc 1 1, 3) := by decide +kernel
theorem dX2_firstDoubling_25 : decode cX2_firstDoubling 25 = .ok (.goto (-23), 3) := by decide +kernel
theorem dX2_firstDoubling_28 : decode cX2_firstDoubling 28 = .ok (.bipush (-4), 2) := by decide +kernel
theorem dX2_firstDoubling_30 : decode cX2_firstDoubling 30 = .ok (.ireturn, 1) := by decide +kernel
theorem dX2_liftOf_0 : decode cX2_liftOf 0 = .ok (.aload_n 0, 1) := by decide +kernel
theorem dX2_liftOf_1 : decode cX2_liftOf 1 = .ok (.iload_n 1, 1) := by decide +kernel
theorem dX2_liftOf_2 : decode cX2_liftOf 2 = .ok (.invokevirtual 71, 3) := by decide +kernel
theorem dX2_liftOf_5 : decode cX2_liftOf 5 = .ok (.ifCond .ne 5, 3) := by decide +kernel
theorem dX2_liftOf_8 : decode cX2_liftOf 8 = .ok (.iconst 0, 1) := by decide +kernel
theorem dX2_liftOf_9 : decode cX2_liftOf 9 = .ok (.ireturn, 1) := by decide +kernel
theorem dX2_liftOf_10 : decode cX2_liftOf 10 = .ok (.aload_n 0, 1) := by decide +kernel
theorem dX2_liftOf_11 : decode cX2_liftOf 11 = .ok (.getfield 9, 3) := by decide +kernel
theorem dX2_liftOf_14 : decode cX2_liftOf 14 = .ok (.iload_n 1, 1) := by decide +kernel
theorem dX2_liftOf_15 : decode cX2_liftOf 15 = .ok (.iaload, 1) := by decide +kernel
theorem dX2_liftOf_16 : decode cX2_liftOf 16 = .ok (.aload_n 0, 1) := by decide +kernel
theorem dX2_liftOf_17 : decode cX2_liftOf 17 = .ok (.getfield 15, 3) := by decide +kernel
theorem dX2_liftOf_20 : decode cX2_liftOf 20 = .ok (.iload_n 1, 1) := by decide +kernel
theorem dX2_liftOf_21 : decode cX2_liftOf 21 = .ok (.iaload, 1) := by decide +kernel
theorem dX2_liftOf_22 : decode cX2_liftOf 22 = .ok (.aload_n 2, 1) := by decide +kernel
theorem dX2_liftOf_23 : decode cX2_liftOf 23 = .ok (.getfield 60, 3) := by decide +kernel
theorem dX2_liftOf_26 : decode cX2_liftOf 26 = .ok (.aload_n 0, 1) := by decide +kernel
theorem dX2_liftOf_27 : decode cX2_liftOf 27 = .ok (.aload_n 2, 1) := by decide +kernel
theorem dX2_liftOf_28 : decode cX2_liftOf 28 = .ok (.getfield 75, 3) := by decide +kernel
theorem dX2_liftOf_31 : decode cX2_liftOf 31 = .ok (.invokevirtual 78, 3) := by decide +kernel
theorem dX2_liftOf_34 : decode cX2_liftOf 34 = .ok (.aload_n 2, 1) := by decide +kernel
theorem dX2_liftOf_35 : decode cX2_liftOf 35 = .ok (.getfield 48, 3) := by decide +kernel
theorem dX2_liftOf_38 : decode cX2_liftOf 38 = .ok (.invokestatic 81, 3) := by decide +kernel
theorem dX2_liftOf_41 : decode cX2_liftOf 41 = .ok (.ireturn, 1) := by decide +kernel
theorem dX2_quartersOf_0 : decode cX2_quartersOf 0 = .ok (.aload_n 0, 1) := by decide +kernel
theorem dX2_quartersOf_1 : decode cX2_quartersOf 1 = .ok (.iload_n 1, 1) := by decide +kernel
theorem dX2_quartersOf_2 : decode cX2_quartersOf 2 = .ok (.invokevirtual 71, 3) := by decide +kernel
theorem dX2_quartersOf_5 : decode cX2_quartersOf 5 = .ok (.ifCond .ne 5, 3) := by decide +kernel
theorem dX2_quartersOf_8 : decode cX2_quartersOf 8 = .ok (.iconst 0, 1) := by decide +kernel
theorem dX2_quartersOf_9 : decode cX2_quartersOf 9 = .ok (.ireturn, 1) := by decide +kernel
theorem dX2_quartersOf_10 : decode cX2_quartersOf 10 = .ok (.aload_n 0, 1) := by decide +kernel
theorem dX2_quartersOf_11 : decode cX2_quartersOf 11 = .ok (.getfield 9, 3) := by decide +kernel
theorem dX2_quartersOf_14 : decode cX2_quartersOf 14 = .ok (.iload_n 1, 1) := by decide +kernel
theorem dX2_quartersOf_15 : decode cX2_quartersOf 15 = .ok (.iaload, 1) := by decide +kernel
theorem dX2_quartersOf_16 : decode cX2_quartersOf 16 = .ok (.iconst 2, 1) := by decide +kernel
theorem dX2_quartersOf_17 : decode cX2_quartersOf 17 = .ok (.if_icmp .ne 15, 3) := by decide +kernel
theorem dX2_quartersOf_20 : decode cX2_quartersOf 20 = .ok (.aload_n 2, 1) := by decide +kernel
theorem dX2_quartersOf_21 : decode cX2_quartersOf 21 = .ok (.getfield 60, 3) := by decide +kernel
theorem dX2_quartersOf_24 : decode cX2_quartersOf 24 = .ok (.iconst 2, 1) := by decide +kernel
theorem dX2_quartersOf_25 : decode cX2_quartersOf 25 = .ok (.if_icmp .lt 7, 3) := by decide +kernel
theorem dX2_quartersOf_28 : decode cX2_quartersOf 28 = .ok (.iconst 1, 1) := by decide +kernel
theorem dX2_quartersOf_29 : decode cX2_quartersOf 29 = .ok (.goto 4, 3) := by decide +kernel
theorem dX2_quartersOf_32 : decode cX2_quartersOf 32 = .ok (.iconst 0, 1) := by decide +kernel
theorem dX2_quartersOf_33 : decode cX2_quartersOf 33 = .ok (.istore_n 3, 1) := by decide +kernel
theorem dX2_quartersOf_34 : decode cX2_quartersOf 34 = .ok (.iload_n 3, 1) := by decide +kernel
theorem dX2_quartersOf_35 : decode cX2_quartersOf 35 = .ok (.ifCond .eq 13, 3) := by decide +kernel
theorem dX2_quartersOf_38 : decode cX2_quartersOf 38 = .ok (.aload_n 0, 1) := by decide +kernel
theorem dX2_quartersOf_39 : decode cX2_quartersOf 39 = .ok (.getfield 18, 3) := by decide +kernel
theorem dX2_quartersOf_42 : decode cX2_quartersOf 42 = .ok (.iload_n 1, 1) := by decide +kernel
theorem dX2_quartersOf_43 : decode cX2_quartersOf 43 = .ok (.iaload, 1) := by decide +kernel
theorem dX2_quartersOf_44 : decode cX2_quartersOf 44 = .ok (.ineg, 1) := by decide +kernel
theorem dX2_quartersOf_45 : decode cX2_quartersOf 45 = .ok (.goto 9, 3) := by decide +kernel
theorem dX2_quartersOf_48 : decode cX2_quartersOf 48 = .ok (.aload_n 0, 1) := by decide +kernel
theorem dX2_quartersOf_49 : decode cX2_quartersOf 49 = .ok (.getfield 18, 3) := by decide +kernel
theorem dX2_quartersOf_52 : decode cX2_quartersOf 52 = .ok (.iload_n 1, 1) := by decide +kernel
theorem dX2_quartersOf_53 : decode cX2_quartersOf 53 = .ok (.iaload, 1) := by decide +kernel
theorem dX2_quartersOf_54 : decode cX2_quartersOf 54 = .ok (.iconst 3, 1) := by decide +kernel
theorem dX2_quartersOf_55 : decode cX2_quartersOf 55 = .ok (.iand, 1) := by decide +kernel
theorem dX2_quartersOf_56 : decode cX2_quartersOf 56 = .ok (.ireturn, 1) := by decide +kernel
theorem dX2_turnPeg_0 : decode cX2_turnPeg 0 = .ok (.aload_n 0, 1) := by decide +kernel
theorem dX2_turnPeg_1 : decode cX2_turnPeg 1 = .ok (.iload_n 2, 1) := by decide +kernel
theorem dX2_turnPeg_2 : decode cX2_turnPeg 2 = .ok (.aload_n 1, 1) := by decide +kernel
theorem dX2_turnPeg_3 : decode cX2_turnPeg 3 = .ok (.invokevirtual 85, 3) := by decide +kernel
theorem dX2_turnPeg_6 : decode cX2_turnPeg 6 = .ok (.istore_n 3, 1) := by decide +kernel
theorem dX2_turnPeg_7 : decode cX2_turnPeg 7 = .ok (.aload_n 0, 1) := by decide +kernel
theorem dX2_turnPeg_8 : decode cX2_turnPeg 8 = .ok (.iload_n 2, 1) := by decide +kernel
theorem dX2_turnPeg_9 : decode cX2_turnPeg 9 = .ok (.aload_n 1, 1) := by decide +kernel
theorem dX2_turnPeg_10 : decode cX2_turnPeg 10 = .ok (.invokevirtual 89, 3) := by decide +kernel
theorem dX2_turnPeg_13 : decode cX2_turnPeg 13 = .ok (.istore 4, 2) := by decide +kernel
theorem dX2_turnPeg_15 : decode cX2_turnPeg 15 = .ok (.aload_n 1, 1) := by decide +kernel
theorem dX2_turnPeg_16 : decode cX2_turnPeg 16 = .ok (.aload_n 1, 1) := by decide +kernel
theorem dX2_turnPeg_17 : decode cX2_turnPeg 17 = .ok (.getfield 57, 3) := by decide +kernel
theorem dX2_turnPeg_20 : decode cX2_turnPeg 20 = .ok (.iload_n 3, 1) := by decide +kernel
theorem dX2_turnPeg_21 : decode cX2_turnPeg 21 = .ok (.iadd, 1) := by decide +kernel
theorem dX2_turnPeg_22 : decode cX2_turnPeg 22 = .ok (.bipush 9, 2) := by decide +kernel
theorem dX2_turnPeg_24 : decode cX2_turnPeg 24 = .ok (.invokestatic 92, 3) := by decide +kernel
theorem dX2_turnPeg_27 : decode cX2_turnPeg 27 = .ok (.putfield 57, 3) := by decide +kernel
theorem dX2_turnPeg_30 : decode cX2_turnPeg 30 = .ok (.aload_n 1, 1) := by decide +kernel
theorem dX2_turnPeg_31 : decode cX2_turnPeg 31 = .ok (.aload_n 1, 1) := by decide +kernel
theorem dX2_turnPeg_32 : decode cX2_turnPeg 32 = .ok (.getfield 60, 3) := by decide +kernel
theorem dX2_turnPeg_35 : decode cX2_turnPeg 35 = .ok (.iload 4, 2) := by decide +kernel
theorem dX2_turnPeg_37 : decode cX2_turnPeg 37 = .ok (.iadd, 1) := by decide +kernel
theorem dX2_turnPeg_38 : decode cX2_turnPeg 38 = .ok (.iconst 3, 1) := by decide +kernel
theorem dX2_turnPeg_39 : decode cX2_turnPeg 39 = .ok (.iand, 1) := by decide +kernel
theorem dX2_turnPeg_40 : decode cX2_turnPeg 40 = .ok (.putfield 60, 3) := by decide +kernel
theorem dX2_turnPeg_43 : decode cX2_turnPeg 43 = .ok (.aload_n 0, 1) := by decide +kernel
theorem dX2_turnPeg_44 : decode cX2_turnPeg 44 = .ok (.aload_n 1, 1) := by decide +kernel
theorem dX2_turnPeg_45 : decode cX2_turnPeg 45 = .ok (.invokevirtual 96, 3) := by decide +kernel
theorem dX2_turnPeg_48 : decode cX2_turnPeg 48 = .ok (.aload_n 1, 1) := by decide +kernel
theorem dX2_turnPeg_49 : decode cX2_turnPeg 49 = .ok (.iload_n 2, 1) := by decide +kernel
theorem dX2_turnPeg_50 : decode cX2_turnPeg 50 = .ok (.putfield 75, 3) := by decide +kernel
theorem dX2_turnPeg_53 : decode cX2_turnPeg 53 = .ok (.return_, 1) := by decide +kernel
theorem dX2_glide_0 : decode cX2_glide 0 = .ok (.aload_n 1, 1) := by decide +kernel
theorem dX2_glide_1 : decode cX2_glide 1 = .ok (.aload_n 1, 1) := by decide +kernel
theorem dX2_glide_2 : decode cX2_glide 2 = .ok (.getfield 60, 3) := by decide +kernel
theorem dX2_glide_5 : decode cX2_glide 5 = .ok (.invokevirtual 100, 3) := by decide +kernel
theorem dX2_glide_8 : decode cX2_glide 8 = .ok (.aload_n 1, 1) := by decide +kernel
theorem dX2_glide_9 : decode cX2_glide 9 = .ok (.aload_n 0, 1) := by decide +kernel
theorem dX2_glide_10 : decode cX2_glide 10 = .ok (.aload_n 1, 1) := by decide +kernel
theorem dX2_glide_11 : decode cX2_glide 11 = .ok (.getfield 57, 3) := by decide +kernel
theorem dX2_glide_14 : decode cX2_glide 14 = .ok (.invokevirtual 104, 3) := by decide +kernel
theorem dX2_glide_17 : decode cX2_glide 17 = .ok (.invokevirtual 100, 3) := by decide +kernel
theorem dX2_glide_20 : decode cX2_glide 20 = .ok (.aload_n 1, 1) := by decide +kernel
theorem dX2_glide_21 : decode cX2_glide 21 = .ok (.dup, 1) := by decide +kernel
theorem dX2_glide_22 : decode cX2_glide 22 = .ok (.getfield 108, 3) := by decide +kernel
theorem dX2_glide_25 : decode cX2_glide 25 = .ok (.iconst 1, 1) := by decide +kernel
theorem dX2_glide_26 : decode cX2_glide 26 = .ok (.iadd, 1) := by decide +kernel
theorem dX2_glide_27 : decode cX2_glide 27 = .ok (.putfield 108, 3) := by decide +kernel
theorem dX2_glide_30 : decode cX2_glide 30 = .ok (.aload_n 1, 1) := by decide +kernel
theorem dX2_glide_31 : decode cX2_glide 31 = .ok (.bipush (-4), 2) := by decide +kernel
theorem dX2_glide_33 : decode cX2_glide 33 = .ok (.putfield 75, 3) := by decide +kernel
theorem dX2_glide_36 : decode cX2_glide 36 = .ok (.return_, 1) := by decide +kernel
theorem dX3_init_0 : decode cX3_init 0 = .ok (.aload_n 0, 1) := by decide +kernel
theorem dX3_init_1 : decode cX3_init 1 = .ok (.invokespecial 3, 3) := by decide +kernel
theorem dX3_init_4 : decode cX3_init 4 = .ok (.aload_n 0, 1) := by decide +kernel
theorem dX3_init_5 : decode cX3_init 5 = .ok (.sipush 200, 3) := by decide +kernel
theorem dX3_init_8 : decode cX3_init 8 = .ok (.newarray .char, 2) := by decide +kernel
theorem dX3_init_10 : decode cX3_init 10 = .ok (.putfield 9, 3) := by decide +kernel
theorem dX3_init_13 : decode cX3_init 13 = .ok (.aload_n 0, 1) := by decide +kernel
theorem dX3_init_14 : decode cX3_init 14 = .ok (.iconst 4, 1) := by decide +kernel
theorem dX3_init_15 : decode cX3_init 15 = .ok (.newarray .int, 2) := by decide +kernel
theorem dX3_init_17 : decode cX3_init 17 = .ok (.putfield 15, 3) := by decide +kernel
theorem dX3_init_20 : decode cX3_init 20 = .ok (.return_, 1) := by decide +kernel
theorem dX3_add_0 : decode cX3_add 0 = .ok (.aload_n 0, 1) := by decide +kernel
theorem dX3_add_1 : decode cX3_add 1 = .ok (.getfield 19, 3) := by decide +kernel
theorem dX3_add_4 : decode cX3_add 4 = .ok (.sipush 200, 3) := by decide +kernel
theorem dX3_add_7 : decode cX3_add 7 = .ok (.if_icmp .lt 5, 3) := by decide +kernel
theorem dX3_add_10 : decode cX3_add 10 = .ok (.iconst 0, 1) := by decide +kernel
theorem dX3_add_11 : decode cX3_add 11 = .ok (.ireturn, 1) := by decide +kernel
theorem dX3_add_12 : decode cX3_add 12 = .ok (.aload_n 0, 1) := by decide +kernel
theorem dX3_add_13 : decode cX3_add 13 = .ok (.getfield 9, 3) := by decide +kernel
theorem dX3_add_16 : decode cX3_add 16 = .ok (.aload_n 0, 1) := by decide +kernel
theorem dX3_add_17 : decode cX3_add 17 = .ok (.getfield 19, 3) := by decide +kernel
theorem dX3_add_20 : decode cX3_add 20 = .ok (.iload_n 1, 1) := by decide +kernel
theorem dX3_add_21 : decode cX3_add 21 = .ok (.castore, 1) := by decide +kernel
theorem dX3_add_22 : decode cX3_add 22 = .ok (.aload_n 0, 1) := by decide +kernel
theorem dX3_add_23 : decode cX3_add 23 = .ok (.dup, 1) := by decide +kernel
theorem dX3_add_24 : decode cX3_add 24 = .ok (.getfield 19, 3) := by decide +kernel
theorem dX3_add_27 : decode cX3_add 27 = .ok (.iconst 1, 1) := by decide +kernel
theorem dX3_add_28 : decode cX3_add 28 = .ok (.iadd, 1) := by decide +kernel
theorem dX3_add_29 : decode cX3_add 29 = .ok (.putfield 19, 3) := by decide +kernel
theorem dX3_add_32 : decode cX3_add 32 = .ok (.iconst 1, 1) := by decide +kernel
theorem dX3_add_33 : decode cX3_add 33 = .ok (.ireturn, 1) := by decide +kernel
theorem dX3_readInto_0 : decode cX3_readInto 0 = .ok (.aload_n 1, 1) := by decide +kernel
theorem dX3_readInto_1 : decode cX3_readInto 1 = .ok (.invokevirtual 23, 3) := by decide +kernel
theorem dX3_readInto_4 : decode cX3_readInto 4 = .ok (.aload_n 0, 1) := by decide +kernel
theorem dX3_readInto_5 : decode cX3_readInto 5 = .ok (.iconst 0, 1) := by decide +kernel
theorem dX3_readInto_6 : decode cX3_readInto 6 = .ok (.putfield 28, 3) := by decide +kernel
theorem dX3_readInto_9 : decode cX3_readInto 9 = .ok (.iconst 0, 1) := by decide +kernel
theorem dX3_readInto_10 : decode cX3_readInto 10 = .ok (.istore_n 2, 1) := by decide +kernel
theorem dX3_readInto_11 : decode cX3_readInto 11 = .ok (.iload_n 2, 1) := by decide +kernel
theorem dX3_readInto_12 : decode cX3_readInto 12 = .ok (.sipush 200, 3) := by decide +kernel
theorem dX3_readInto_15 : decode cX3_readInto 15 = .ok (.if_icmp .ge 35, 3) := by decide +kernel
theorem dX3_readInto_18 : decode cX3_readInto 18 = .ok (.aload_n 0, 1) := by decide +kernel
theorem dX3_readInto_19 : decode cX3_readInto 19 = .ok (.getfield 28, 3) := by decide +kernel
theorem dX3_readInto_22 : decode cX3_readInto 22 = .ok (.aload_n 0, 1) := by decide +kernel
theorem dX3_readInto_23 : decode cX3_readInto 23 = .ok (.getfield 19, 3) := by decide +kernel
theorem dX3_readInto_26 : decode cX3_readInto 26 = .ok (.if_icmp .ge 24, 3) := by decide +kernel
theorem dX3_readInto_29 : decode cX3_readInto 29 = .ok (.aload_n 0, 1) := by decide +kernel
theorem dX3_readInto_30 : decode cX3_readInto 30 = .ok (.getfield 28, 3) := by decide +kernel
theorem dX3_readInto_33 : decode cX3_readInto 33 = .ok (.istore_n 3, 1) := by decide +kernel
theorem dX3_readInto_34 : decode cX3_readInto 34 = .ok (.aload_n 0, 1) := by decide +kernel
theorem dX3_readInto_35 : decode cX3_readInto 35 = .ok (.aload_n 1, 1) := by decide +kernel
theorem dX3_readInto_36 : decode cX3_readInto 36 = .ok (.invokevirtual 31, 3) := by decide +kernel
theorem dX3_readInto_39 : decode cX3_readInto 39 = .ok (.ifCond .ne 5, 3) := by decide +kernel
theorem dX3_readInto_42 : decode cX3_readInto 42 = .ok (.iload_n 3, 1) := by decide +kernel
theorem dX3_readInto_43 : decode cX3_readInto 43 = .ok (.ireturn, 1) := by decide +kernel
theorem dX3_readInto_44 : decode cX3_readInto 44 = .ok (.iinc 2 1, 3) := by decide +kernel
theorem dX3_readInto_47 : decode cX3_readInto 47 = .ok (.goto (-36), 3) := by decide +kernel
theorem dX3_readInto_50 : decode cX3_readInto 50 = .ok (.bipush (-4), 2) := by decide +kernel
theorem dX3_readInto_52 : decode cX3_readInto 52 = .ok (.ireturn, 1) := by decide +kernel
theorem dX3_readItem_0 : decode cX3_readItem 0 = .ok (.aload_n 0, 1) := by decide +kernel
theorem dX3_readItem_1 : decode cX3_readItem 1 = .ok (.invokevirtual 35, 3) := by decide +kernel
theorem dX3_readItem_4 : decode cX3_readItem 4 = .ok (.istore_n 2, 1) := by decide +kernel
theorem dX3_readItem_5 : decode cX3_readItem 5 = .ok (.aload_n 0, 1) := by decide +kernel
theorem dX3_readItem_6 : decode cX3_readItem 6 = .ok (.dup, 1) := by decide +kernel
theorem dX3_readItem_7 : decode cX3_readItem 7 = .ok (.getfield 28, 3) := by decide +kernel
theorem dX3_readItem_10 : decode cX3_readItem 10 = .ok (.iconst 1, 1) := by decide +kernel
theorem dX3_readItem_11 : decode cX3_readItem 11 = .ok (.iadd, 1) := by decide +kernel
theorem dX3_readItem_12 : decode cX3_readItem 12 = .ok (.putfield 28, 3) := by decide +kernel
theorem dX3_readItem_15 : decode cX3_readItem 15 = .ok (.iload_n 2, 1) := by decide +kernel
theorem dX3_readItem_16 : decode cX3_readItem 16 = .ok (.invokestatic 39, 3) := by decide +kernel
theorem dX3_readItem_19 : decode cX3_readItem 19 = .ok (.istore_n 3, 1) := by decide +kernel
theorem dX3_readItem_20 : decode cX3_readItem 20 = .ok (.iconst 0, 1) := by decide +kernel
theorem dX3_readItem_21 : decode cX3_readItem 21 = .ok (.istore 4, 2) := by decide +kernel
theorem dX3_readItem_23 : decode cX3_readItem 23 = .ok (.iload 4, 2) := by decide +kernel
theorem dX3_readItem_25 : decode cX3_readItem 25 = .ok (.iload_n 3, 1) := by decide +kernel
theorem dX3_readItem_26 : decode cX3_readItem 26 = .ok (.if_icmp .ge 64, 3) := by decide +kernel
theorem dX3_readItem_29 : decode cX3_readItem 29 = .ok (.aload_n 0, 1) := by decide +kernel
theorem dX3_readItem_30 : decode cX3_readItem 30 = .ok (.getfield 15, 3) := by decide +kernel
theorem dX3_readItem_33 : decode cX3_readItem 33 = .ok (.iload 4, 2) := by decide +kernel
theorem dX3_readItem_35 : decode cX3_readItem 35 = .ok (.aload_n 0, 1) := by decide +kernel
theorem dX3_readItem_36 : decode cX3_readItem 36 = .ok (.invokevirtual 43, 3) := by decide +kernel
theorem dX3_readItem_39 : decode cX3_readItem 39 = .ok (.iastore, 1) := by decide +kernel
theorem dX3_readItem_40 : decode cX3_readItem 40 = .ok (.aload_n 0, 1) := by decide +kernel
theorem dX3_readItem_41 : decode cX3_readItem 41 = .ok (.getfield 15, 3) := by decide +kernel
theorem dX3_readItem_44 : decode cX3_readItem 44 = .ok (.iload 4, 2) := by decide +kernel
theorem dX3_readItem_46 : decode cX3_readItem 46 = .ok (.iaload, 1) := by decide +kernel
theorem dX3_readItem_47 : decode cX3_readItem 47 = .ok (.ifCond .lt 25, 3) := by decide +kernel
theorem dX3_readItem_50 : decode cX3_readItem 50 = .ok (.aload_n 0, 1) := by decide +kernel
theorem dX3_readItem_51 : decode cX3_readItem 51 = .ok (.invokevirtual 35, 3) := by decide +kernel
theorem dX3_readItem_54 : decode cX3_readItem 54 = .ok (.iload 4, 2) := by decide +kernel
theorem dX3_readItem_56 : decode cX3_readItem 56 = .ok (.iload_n 3, 1) := by decide +kernel
theorem dX3_readItem_57 : decode cX3_readItem 57 = .ok (.iconst 1, 1) := by decide +kernel
theorem dX3_readItem_58 : decode cX3_readItem 58 = .ok (.isub, 1) := by decide +kernel
theorem dX3_readItem_59 : decode cX3_readItem 59 = .ok (.if_icmp .ge 8, 3) := by decide +kernel
theorem dX3_readItem_62 : decode cX3_readItem 62 = .ok (.bipush 44, 2) := by decide +kernel
theorem dX3_readItem_64 : decode cX3_readItem 64 = .ok (.goto 5, 3) := by decide +kernel
theorem dX3_readItem_67 : decode cX3_readItem 67 = .ok (.bipush 59, 2) := by decide +kernel
theorem dX3_readItem_69 : decode cX3_readItem 69 = .ok (.if_icmp .eq 5, 3) := by decide +kernel
theorem dX3_readItem_72 : decode cX3_readItem 72 = .ok (.iconst 0, 1) := by decide +kernel
theorem dX3_readItem_73 : decode cX3_readItem 73 = .ok (.ireturn, 1) := by decide +kernel
theorem dX3_readItem_74 : decode cX3_readItem 74 = .ok (.aload_n 0, 1) := by decide +kernel
theorem dX3_readItem_75 : decode cX3_readItem 75 = .ok (.dup, 1) := by decide +kernel
theorem dX3_readItem_76 : decode cX3_readItem 76 = .ok (.getfield 28, 3) := by decide +kernel
theorem dX3_readItem_79 : decode cX3_readItem 79 = .ok (.iconst 1, 1) := by decide +kernel
theorem dX3_readItem_80 : decode cX3_readItem 80 = .ok (.iadd, 1) := by decide +kernel
theorem dX3_readItem_81 : decode cX3_readItem 81 = .ok (.putfield 28, 3) := by decide +kernel
theorem dX3_readItem_84 : decode cX3_readItem 84 = .ok (.iinc 4 1, 3) := by decide +kernel
theorem dX3_readItem_87 : decode cX3_readItem 87 = .ok (.goto (-64), 3) := by decide +kernel
theorem dX3_readItem_90 : decode cX3_readItem 90 = .ok (.aload_n 0, 1) := by decide +kernel
theorem dX3_readItem_91 : decode cX3_readItem 91 = .ok (.aload_n 1, 1) := by decide +kernel
theorem dX3_readItem_92 : decode cX3_readItem 92 = .ok (.iload_n 2, 1) := by decide +kernel
theorem dX3_readItem_93 : decode cX3_readItem 93 = .ok (.invokevirtual 46, 3) := by decide +kernel
theorem dX3_readItem_96 : decode cX3_readItem 96 = .ok (.ireturn, 1) := by decide +kernel
theorem dX3_tell_0 : decode cX3_tell 0 = .ok (.iload_n 2, 1) := by decide +kernel
theorem dX3_tell_1 : decode cX3_tell 1 = .ok (.lookupswitch 148 #[(98, 108), (112, 51), (114, 91), (116, 137), (119, 74)], 51) := by decide +kernel
theorem dX3_tell_52 : decode cX3_tell 52 = .ok (.aload_n 1, 1) := by decide +kernel
theorem dX3_tell_53 : decode cX3_tell 53 = .ok (.aload_n 0, 1) := by decide +kernel
theorem dX3_tell_54 : decode cX3_tell 54 = .ok (.getfield 15, 3) := by decide +kernel
theorem dX3_tell_57 : decode cX3_tell 57 = .ok (.iconst 0, 1) := by decide +kernel
theorem dX3_tell_58 : decode cX3_tell 58 = .ok (.iaload, 1) := by decide +kernel
theorem dX3_tell_59 : decode cX3_tell 59 = .ok (.aload_n 0, 1) := by decide +kernel
theorem dX3_tell_60 : decode cX3_tell 60 = .ok (.getfield 15, 3) := by decide +kernel
theorem dX3_tell_63 : decode cX3_tell 63 = .ok (.iconst 1, 1) := by decide +kernel
theorem dX3_tell_64 : decode cX3_tell 64 = .ok (.iaload, 1) := by decide +kernel
theorem dX3_tell_65 : decode cX3_tell 65 = .ok (.aload_n 0, 1) := by decide +kernel
theorem dX3_tell_66 : decode cX3_tell 66 = .ok (.getfield 15, 3) := by decide +kernel
theorem dX3_tell_69 : decode cX3_tell 69 = .ok (.iconst 2, 1) := by decide +kernel
theorem dX3_tell_70 : decode cX3_tell 70 = .ok (.iaload, 1) := by decide +kernel
theorem dX3_tell_71 : decode cX3_tell 71 = .ok (.invokevirtual 50, 3) := by decide +kernel
theorem dX3_tell_74 : decode cX3_tell 74 = .ok (.ireturn, 1) := by decide +kernel
theorem dX3_tell_75 : decode cX3_tell 75 = .ok (.aload_n 1, 1) := by decide +kernel
theorem dX3_tell_76 : decode cX3_tell 76 = .ok (.aload_n 0, 1) := by decide +kernel
theorem dX3_tell_77 : decode cX3_tell 77 = .ok (.getfield 15, 3) := by decide +kernel
theorem dX3_tell_80 : decode cX3_tell 80 = .ok (.iconst 0, 1) := by decide +kernel
theorem dX3_tell_81 : decode cX3_tell 81 = .ok (.iaload, 1) := by decide +kernel
theorem dX3_tell_82 : decode cX3_tell 82 = .ok (.aload_n 0, 1) := by decide +kernel
theorem dX3_tell_83 : decode cX3_tell 83 = .ok (.getfield 15, 3) := by decide +kernel
theorem dX3_tell_86 : decode cX3_tell 86 = .ok (.iconst 1, 1) := by decide +kernel
theorem dX3_tell_87 : decode cX3_tell 87 = .ok (.iaload, 1) := by decide +kernel
theorem dX3_tell_88 : decode cX3_tell 88 = .ok (.invokevirtual 54, 3) := by decide +kernel
theorem dX3_tell_91 : decode cX3_tell 91 = .ok (.ireturn, 1) := by decide +kernel
theorem dX3_tell_92 : decode cX3_tell 92 = .ok (.aload_n 1, 1) := by decide +kernel
theorem dX3_tell_93 : decode cX3_tell 93 = .ok (.aload_n 0, 1) := by decide +kernel
theorem dX3_tell_94 : decode cX3_tell 94 = .ok (.getfield 15, 3) := by decide +kernel
theorem dX3_tell_97 : decode cX3_tell 97 = .ok (.iconst 0, 1) := by decide +kernel
theorem dX3_tell_98 : decode cX3_tell 98 = .ok (.iaload, 1) := by decide +kernel
theorem dX3_tell_99 : decode cX3_tell 99 = .ok (.aload_n 0, 1) := by decide +kernel
theorem dX3_tell_100 : decode cX3_tell 100 = .ok (.getfield 15, 3) := by decide +kernel
theorem dX3_tell_103 : decode cX3_tell 103 = .ok (.iconst 1, 1) := by decide +kernel
theorem dX3_tell_104 : decode cX3_tell 104 = .ok (.iaload, 1) := by decide +kernel
theorem dX3_tell_105 : decode cX3_tell 105 = .ok (.invokevirtual 58, 3) := by decide +kernel
theorem dX3_tell_108 : decode cX3_tell 108 = .ok (.ireturn, 1) := by decide +kernel
theorem dX3_tell_109 : decode cX3_tell 109 = .ok (.aload_n 1, 1) := by decide +kernel
theorem dX3_tell_110 : decode cX3_tell 110 = .ok (.aload_n 0, 1) := by decide +kernel
theorem dX3_tell_111 : decode cX3_tell 111 = .ok (.getfield 15, 3) := by decide +kernel
theorem dX3_tell_114 : decode cX3_tell 114 = .ok (.iconst 0, 1) := by decide +kernel
theorem dX3_tell_115 : decode cX3_tell 115 = .ok (.iaload, 1) := by decide +kernel
theorem dX3_tell_116 : decode cX3_tell 116 = .ok (.aload_n 0, 1) := by decide +kernel
theorem dX3_tell_117 : decode cX3_tell 117 = .ok (.getfield 15, 3) := by decide +kernel
theorem dX3_tell_120 : decode cX3_tell 120 = .ok (.iconst 1, 1) := by decide +kernel
theorem dX3_tell_121 : decode cX3_tell 121 = .ok (.iaload, 1) := by decide +kernel
theorem dX3_tell_122 : decode cX3_tell 122 = .ok (.aload_n 0, 1) := by decide +kernel
theorem dX3_tell_123 : decode cX3_tell 123 = .ok (.getfield 15, 3) := by decide +kernel
theorem dX3_tell_126 : decode cX3_tell 126 = .ok (.iconst 2, 1) := by decide +kernel
theorem dX3_tell_127 : decode cX3_tell 127 = .ok (.iaload, 1) := by decide +kernel
theorem dX3_tell_128 : decode cX3_tell 128 = .ok (.aload_n 0, 1) := by decide +kernel
theorem dX3_tell_129 : decode cX3_tell 129 = .ok (.getfield 15, 3) := by decide +kernel
theorem dX3_tell_132 : decode cX3_tell 132 = .ok (.iconst 3, 1) := by decide +kernel
theorem dX3_tell_133 : decode cX3_tell 133 = .ok (.iaload, 1) := by decide +kernel
theorem dX3_tell_134 : decode cX3_tell 134 = .ok (.invokevirtual 61, 3) := by decide +kernel
theorem dX3_tell_137 : decode cX3_tell 137 = .ok (.ireturn, 1) := by decide +kernel
theorem dX3_tell_138 : decode cX3_tell 138 = .ok (.aload_n 1, 1) := by decide +kernel
theorem dX3_tell_139 : decode cX3_tell 139 = .ok (.aload_n 0, 1) := by decide +kernel
theorem dX3_tell_140 : decode cX3_tell 140 = .ok (.getfield 15, 3) := by decide +kernel
theorem dX3_tell_143 : decode cX3_tell 143 = .ok (.iconst 0, 1) := by decide +kernel
theorem dX3_tell_144 : decode cX3_tell 144 = .ok (.iaload, 1) := by decide +kernel
theorem dX3_tell_145 : decode cX3_tell 145 = .ok (.invokevirtual 65, 3) := by decide +kernel
theorem dX3_tell_148 : decode cX3_tell 148 = .ok (.ireturn, 1) := by decide +kernel
theorem dX3_tell_149 : decode cX3_tell 149 = .ok (.iconst 0, 1) := by decide +kernel
theorem dX3_tell_150 : decode cX3_tell 150 = .ok (.ireturn, 1) := by decide +kernel
theorem dX3_numbersOf_0 : decode cX3_numbersOf 0 = .ok (.iload_n 0, 1) := by decide +kernel
theorem dX3_numbersOf_1 : decode cX3_numbersOf 1 = .ok (.lookupswitch 61 #[(98, 57), (112, 51), (114, 55), (116, 59), (119, 53)], 51) := by decide +kernel
theorem dX3_numbersOf_52 : decode cX3_numbersOf 52 = .ok (.iconst 3, 1) := by decide +kernel
theorem dX3_numbersOf_53 : decode cX3_numbersOf 53 = .ok (.ireturn, 1) := by decide +kernel
theorem dX3_numbersOf_54 : decode cX3_numbersOf 54 = .ok (.iconst 2, 1) := by decide +kernel
theorem dX3_numbersOf_55 : decode cX3_numbersOf 55 = .ok (.ireturn, 1) := by decide +kernel
theorem dX3_numbersOf_56 : decode cX3_numbersOf 56 = .ok (.iconst 2, 1) := by decide +kernel
theorem dX3_numbersOf_57 : decode cX3_numbersOf 57 = .ok (.ireturn, 1) := by decide +kernel
theorem dX3_numbersOf_58 : decode cX3_numbersOf 58 = .ok (.iconst 4, 1) := by decide +kernel
theorem dX3_numbersOf_59 : decode cX3_numbersOf 59 = .ok (.ireturn, 1) := by decide +kernel
theorem dX3_numbersOf_60 : decode cX3_numbersOf 60 = .ok (.iconst 1, 1) := by decide +kernel
theorem dX3_numbersOf_61 : decode cX3_numbersOf 61 = .ok (.ireturn, 1) := by decide +kernel
theorem dX3_numbersOf_62 : decode cX3_numbersOf 62 = .ok (.iconst 0, 1) := by decide +kernel
theorem dX3_numbersOf_63 : decode cX3_numbersOf 63 = .ok (.ireturn, 1) := by decide +kernel
theorem dX3_readNumber_0 : decode cX3_readNumber 0 = .ok (.aload_n 0, 1) := by decide +kernel
theorem dX3_readNumber_1 : decode cX3_readNumber 1 = .ok (.invokevirtual 69, 3) := by decide +kernel
theorem dX3_readNumber_4 : decode cX3_readNumber 4 = .ok (.istore_n 1, 1) := by decide +kernel
theorem dX3_readNumber_5 : decode cX3_readNumber 5 = .ok (.iload_n 1, 1) := by decide +kernel
theorem dX3_readNumber_6 : decode cX3_readNumber 6 = .ok (.ifCond .ge 5, 3) := by decide +kernel
theorem dX3_readNumber_9 : decode cX3_readNumber 9 = .ok (.iload_n 1, 1) := by decide +kernel
theorem dX3_readNumber_10 : decode cX3_readNumber 10 = .ok (.ireturn, 1) := by decide +kernel
theorem dX3_readNumber_11 : decode cX3_readNumber 11 = .ok (.aload_n 0, 1) := by decide +kernel
theorem dX3_readNumber_12 : decode cX3_readNumber 12 = .ok (.invokevirtual 69, 3) := by decide +kernel
theorem dX3_readNumber_15 : decode cX3_readNumber 15 = .ok (.istore_n 2, 1) := by decide +kernel
theorem dX3_readNumber_16 : decode cX3_readNumber 16 = .ok (.iload_n 2, 1) := by decide +kernel
theorem dX3_readNumber_17 : decode cX3_readNumber 17 = .ok (.ifCond .ge 7, 3) := by decide +kernel
theorem dX3_readNumber_20 : decode cX3_readNumber 20 = .ok (.iload_n 1, 1) := by decide +kernel
theorem dX3_readNumber_21 : decode cX3_readNumber 21 = .ok (.goto 9, 3) := by decide +kernel
theorem dX3_readNumber_24 : decode cX3_readNumber 24 = .ok (.bipush 10, 2) := by decide +kernel
theorem dX3_readNumber_26 : decode cX3_readNumber 26 = .ok (.iload_n 1, 1) := by decide +kernel
theorem dX3_readNumber_27 : decode cX3_readNumber 27 = .ok (.imul, 1) := by decide +kernel
theorem dX3_readNumber_28 : decode cX3_readNumber 28 = .ok (.iload_n 2, 1) := by decide +kernel
theorem dX3_readNumber_29 : decode cX3_readNumber 29 = .ok (.iadd, 1) := by decide +kernel
theorem dX3_readNumber_30 : decode cX3_readNumber 30 = .ok (.ireturn, 1) := by decide +kernel
theorem dX3_readFigure_0 : decode cX3_readFigure 0 = .ok (.aload_n 0, 1) := by decide +kernel
theorem dX3_readFigure_1 : decode cX3_readFigure 1 = .ok (.invokevirtual 35, 3) := by decide +kernel
theorem dX3_readFigure_4 : decode cX3_readFigure 4 = .ok (.istore_n 1, 1) := by decide +kernel
theorem dX3_readFigure_5 : decode cX3_readFigure 5 = .ok (.iload_n 1, 1) := by decide +kernel
theorem dX3_readFigure_6 : decode cX3_readFigure 6 = .ok (.bipush 48, 2) := by decide +kernel
theorem dX3_readFigure_8 : decode cX3_readFigure 8 = .ok (.if_icmp .lt 9, 3) := by decide +kernel
theorem dX3_readFigure_11 : decode cX3_readFigure 11 = .ok (.iload_n 1, 1) := by decide +kernel
theorem dX3_readFigure_12 : decode cX3_readFigure 12 = .ok (.bipush 57, 2) := by decide +kernel
theorem dX3_readFigure_14 : decode cX3_readFigure 14 = .ok (.if_icmp .le 5, 3) := by decide +kernel
theorem dX3_readFigure_17 : decode cX3_readFigure 17 = .ok (.iconst (-1), 1) := by decide +kernel
theorem dX3_readFigure_18 : decode cX3_readFigure 18 = .ok (.ireturn, 1) := by decide +kernel
theorem dX3_readFigure_19 : decode cX3_readFigure 19 = .ok (.aload_n 0, 1) := by decide +kernel
theorem dX3_readFigure_20 : decode cX3_readFigure 20 = .ok (.dup, 1) := by decide +kernel
theorem dX3_readFigure_21 : decode cX3_readFigure 21 = .ok (.getfield 28, 3) := by decide +kernel
theorem dX3_readFigure_24 : decode cX3_readFigure 24 = .ok (.iconst 1, 1) := by decide +kernel
theorem dX3_readFigure_25 : decode cX3_readFigure 25 = .ok (.iadd, 1) := by decide +kernel
theorem dX3_readFigure_26 : decode cX3_readFigure 26 = .ok (.putfield 28, 3) := by decide +kernel
theorem dX3_readFigure_29 : decode cX3_readFigure 29 = .ok (.iload_n 1, 1) := by decide +kernel
theorem dX3_readFigure_30 : decode cX3_readFigure 30 = .ok (.bipush 48, 2) := by decide +kernel
theorem dX3_readFigure_32 : decode cX3_readFigure 32 = .ok (.isub, 1) := by decide +kernel
theorem dX3_readFigure_33 : decode cX3_readFigure 33 = .ok (.ireturn, 1) := by decide +kernel
theorem dX3_sign_0 : decode cX3_sign 0 = .ok (.aload_n 0, 1) := by decide +kernel
theorem dX3_sign_1 : decode cX3_sign 1 = .ok (.getfield 28, 3) := by decide +kernel
theorem dX3_sign_4 : decode cX3_sign 4 = .ok (.ifCond .lt 36, 3) := by decide +kernel
theorem dX3_sign_7 : decode cX3_sign 7 = .ok (.aload_n 0, 1) := by decide +kernel
theorem dX3_sign_8 : decode cX3_sign 8 = .ok (.getfield 28, 3) := by decide +kernel
theorem dX3_sign_11 : decode cX3_sign 11 = .ok (.aload_n 0, 1) := by decide +kernel
theorem dX3_sign_12 : decode cX3_sign 12 = .ok (.getfield 19, 3) := by decide +kernel
theorem dX3_sign_15 : decode cX3_sign 15 = .ok (.if_icmp .ge 25, 3) := by decide +kernel
theorem dX3_sign_18 : decode cX3_sign 18 = .ok (.aload_n 0, 1) := by decide +kernel
theorem dX3_sign_19 : decode cX3_sign 19 = .ok (.getfield 28, 3) := by decide +kernel
theorem dX3_sign_22 : decode cX3_sign 22 = .ok (.sipush 200, 3) := by decide +kernel
theorem dX3_sign_25 : decode cX3_sign 25 = .ok (.if_icmp .ge 15, 3) := by decide +kernel
theorem dX3_sign_28 : decode cX3_sign 28 = .ok (.aload_n 0, 1) := by decide +kernel
theorem dX3_sign_29 : decode cX3_sign 29 = .ok (.getfield 9, 3) := by decide +kernel
theorem dX3_sign_32 : decode cX3_sign 32 = .ok (.aload_n 0, 1) := by decide +kernel
theorem dX3_sign_33 : decode cX3_sign 33 = .ok (.getfield 28, 3) := by decide +kernel
theorem dX3_sign_36 : decode cX3_sign 36 = .ok (.caload, 1) := by decide +kernel
theorem dX3_sign_37 : decode cX3_sign 37 = .ok (.goto 4, 3) := by decide +kernel
theorem dX3_sign_40 : decode cX3_sign 40 = .ok (.iconst 0, 1) := by decide +kernel
theorem dX3_sign_41 : decode cX3_sign 41 = .ok (.ireturn, 1) := by decide +kernel
theorem dX4_init_0 : decode cX4_init 0 = .ok (.aload_n 0, 1) := by decide +kernel
theorem dX4_init_1 : decode cX4_init 1 = .ok (.invokespecial 1, 3) := by decide +kernel
theorem dX4_init_4 : decode cX4_init 4 = .ok (.aload_n 0, 1) := by decide +kernel
theorem dX4_init_5 : decode cX4_init 5 = .ok (.iconst 1, 1) := by decide +kernel
theorem dX4_init_6 : decode cX4_init 6 = .ok (.iload_n 1, 1) := by decide +kernel
theorem dX4_init_7 : decode cX4_init 7 = .ok (.invokestatic 7, 3) := by decide +kernel
theorem dX4_init_10 : decode cX4_init 10 = .ok (.anewarray 13, 3) := by decide +kernel
theorem dX4_init_13 : decode cX4_init 13 = .ok (.putfield 15, 3) := by decide +kernel
theorem dX4_init_16 : decode cX4_init 16 = .ok (.iconst 0, 1) := by decide +kernel
theorem dX4_init_17 : decode cX4_init 17 = .ok (.istore_n 2, 1) := by decide +kernel
theorem dX4_init_18 : decode cX4_init 18 = .ok (.iload_n 2, 1) := by decide +kernel
theorem dX4_init_19 : decode cX4_init 19 = .ok (.aload_n 0, 1) := by decide +kernel
theorem dX4_init_20 : decode cX4_init 20 = .ok (.getfield 15, 3) := by decide +kernel
theorem dX4_init_23 : decode cX4_init 23 = .ok (.arraylength, 1) := by decide +kernel
theorem dX4_init_24 : decode cX4_init 24 = .ok (.if_icmp .ge 22, 3) := by decide +kernel
theorem dX4_init_27 : decode cX4_init 27 = .ok (.aload_n 0, 1) := by decide +kernel
theorem dX4_init_28 : decode cX4_init 28 = .ok (.getfield 15, 3) := by decide +kernel
theorem dX4_init_31 : decode cX4_init 31 = .ok (.iload_n 2, 1) := by decide +kernel
theorem dX4_init_32 : decode cX4_init 32 = .ok (.new 13, 3) := by decide +kernel
theorem dX4_init_35 : decode cX4_init 35 = .ok (.dup, 1) := by decide +kernel
theorem dX4_init_36 : decode cX4_init 36 = .ok (.invokespecial 21, 3) := by decide +kernel
theorem dX4_init_39 : decode cX4_init 39 = .ok (.aastore, 1) := by decide +kernel
theorem dX4_init_40 : decode cX4_init 40 = .ok (.iinc 2 1, 3) := by decide +kernel
theorem dX4_init_43 : decode cX4_init 43 = .ok (.goto (-25), 3) := by decide +kernel
theorem dX4_init_46 : decode cX4_init 46 = .ok (.return_, 1) := by decide +kernel
theorem dX4_isFull_0 : decode cX4_isFull 0 = .ok (.aload_n 0, 1) := by decide +kernel
theorem dX4_isFull_1 : decode cX4_isFull 1 = .ok (.getfield 22, 3) := by decide +kernel
theorem dX4_isFull_4 : decode cX4_isFull 4 = .ok (.aload_n 0, 1) := by decide +kernel
theorem dX4_isFull_5 : decode cX4_isFull 5 = .ok (.getfield 15, 3) := by decide +kernel
theorem dX4_isFull_8 : decode cX4_isFull 8 = .ok (.arraylength, 1) := by decide +kernel
theorem dX4_isFull_9 : decode cX4_isFull 9 = .ok (.if_icmp .lt 7, 3) := by decide +kernel
theorem dX4_isFull_12 : decode cX4_isFull 12 = .ok (.iconst 1, 1) := by decide +kernel
theorem dX4_isFull_13 : decode cX4_isFull 13 = .ok (.goto 4, 3) := by decide +kernel
theorem dX4_isFull_16 : decode cX4_isFull 16 = .ok (.iconst 0, 1) := by decide +kernel
theorem dX4_isFull_17 : decode cX4_isFull 17 = .ok (.ireturn, 1) := by decide +kernel
theorem dX4_put_0 : decode cX4_put 0 = .ok (.aload_n 0, 1) := by decide +kernel
theorem dX4_put_1 : decode cX4_put 1 = .ok (.invokevirtual 26, 3) := by decide +kernel
theorem dX4_put_4 : decode cX4_put 4 = .ok (.ifCond .eq 7, 3) := by decide +kernel
theorem dX4_put_7 : decode cX4_put 7 = .ok (.aload_n 0, 1) := by decide +kernel
theorem dX4_put_8 : decode cX4_put 8 = .ok (.invokevirtual 30, 3) := by decide +kernel
theorem dX4_put_11 : decode cX4_put 11 = .ok (.aload_n 0, 1) := by decide +kernel
theorem dX4_put_12 : decode cX4_put 12 = .ok (.getfield 15, 3) := by decide +kernel
theorem dX4_put_15 : decode cX4_put 15 = .ok (.aload_n 0, 1) := by decide +kernel
theorem dX4_put_16 : decode cX4_put 16 = .ok (.getfield 22, 3) := by decide +kernel
theorem dX4_put_19 : decode cX4_put 19 = .ok (.aaload, 1) := by decide +kernel
theorem dX4_put_20 : decode cX4_put 20 = .ok (.aload_n 1, 1) := by decide +kernel
theorem dX4_put_21 : decode cX4_put 21 = .ok (.invokevirtual 33, 3) := by decide +kernel
theorem dX4_put_24 : decode cX4_put 24 = .ok (.aload_n 0, 1) := by decide +kernel
theorem dX4_put_25 : decode cX4_put 25 = .ok (.dup, 1) := by decide +kernel
theorem dX4_put_26 : decode cX4_put 26 = .ok (.getfield 22, 3) := by decide +kernel
theorem dX4_put_29 : decode cX4_put 29 = .ok (.iconst 1, 1) := by decide +kernel
theorem dX4_put_30 : decode cX4_put 30 = .ok (.iadd, 1) := by decide +kernel
theorem dX4_put_31 : decode cX4_put 31 = .ok (.putfield 22, 3) := by decide +kernel
theorem dX4_put_34 : decode cX4_put 34 = .ok (.return_, 1) := by decide +kernel
theorem dX4_takeLast_0 : decode cX4_takeLast 0 = .ok (.aload_n 0, 1) := by decide +kernel
theorem dX4_takeLast_1 : decode cX4_takeLast 1 = .ok (.getfield 22, 3) := by decide +kernel
theorem dX4_takeLast_4 : decode cX4_takeLast 4 = .ok (.iconst 1, 1) := by decide +kernel
theorem dX4_takeLast_5 : decode cX4_takeLast 5 = .ok (.if_icmp .lt 15, 3) := by decide +kernel
theorem dX4_takeLast_8 : decode cX4_takeLast 8 = .ok (.aload_n 0, 1) := by decide +kernel
theorem dX4_takeLast_9 : decode cX4_takeLast 9 = .ok (.getfield 22, 3) := by decide +kernel
theorem dX4_takeLast_12 : decode cX4_takeLast 12 = .ok (.aload_n 0, 1) := by decide +kernel
theorem dX4_takeLast_13 : decode cX4_takeLast 13 = .ok (.getfield 15, 3) := by decide +kernel
theorem dX4_takeLast_16 : decode cX4_takeLast 16 = .ok (.arraylength, 1) := by decide +kernel
theorem dX4_takeLast_17 : decode cX4_takeLast 17 = .ok (.if_icmp .le 5, 3) := by decide +kernel
theorem dX4_takeLast_20 : decode cX4_takeLast 20 = .ok (.iconst 0, 1) := by decide +kernel
theorem dX4_takeLast_21 : decode cX4_takeLast 21 = .ok (.ireturn, 1) := by decide +kernel
theorem dX4_takeLast_22 : decode cX4_takeLast 22 = .ok (.aload_n 0, 1) := by decide +kernel
theorem dX4_takeLast_23 : decode cX4_takeLast 23 = .ok (.dup, 1) := by decide +kernel
theorem dX4_takeLast_24 : decode cX4_takeLast 24 = .ok (.getfield 22, 3) := by decide +kernel
theorem dX4_takeLast_27 : decode cX4_takeLast 27 = .ok (.iconst 1, 1) := by decide +kernel
theorem dX4_takeLast_28 : decode cX4_takeLast 28 = .ok (.isub, 1) := by decide +kernel
theorem dX4_takeLast_29 : decode cX4_takeLast 29 = .ok (.putfield 22, 3) := by decide +kernel
theorem dX4_takeLast_32 : decode cX4_takeLast 32 = .ok (.aload_n 1, 1) := by decide +kernel
theorem dX4_takeLast_33 : decode cX4_takeLast 33 = .ok (.aload_n 0, 1) := by decide +kernel
theorem dX4_takeLast_34 : decode cX4_takeLast 34 = .ok (.getfield 15, 3) := by decide +kernel
theorem dX4_takeLast_37 : decode cX4_takeLast 37 = .ok (.aload_n 0, 1) := by decide +kernel
theorem dX4_takeLast_38 : decode cX4_takeLast 38 = .ok (.getfield 22, 3) := by decide +kernel
theorem dX4_takeLast_41 : decode cX4_takeLast 41 = .ok (.aaload, 1) := by decide +kernel
theorem dX4_takeLast_42 : decode cX4_takeLast 42 = .ok (.invokevirtual 33, 3) := by decide +kernel
theorem dX4_takeLast_45 : decode cX4_takeLast 45 = .ok (.iconst 1, 1) := by decide +kernel
theorem dX4_takeLast_46 : decode cX4_takeLast 46 = .ok (.ireturn, 1) := by decide +kernel
theorem dX4_dropOldest_0 : decode cX4_dropOldest 0 = .ok (.aload_n 0, 1) := by decide +kernel
theorem dX4_dropOldest_1 : decode cX4_dropOldest 1 = .ok (.getfield 15, 3) := by decide +kernel
theorem dX4_dropOldest_4 : decode cX4_dropOldest 4 = .ok (.iconst 0, 1) := by decide +kernel
theorem dX4_dropOldest_5 : decode cX4_dropOldest 5 = .ok (.aaload, 1) := by decide +kernel
theorem dX4_dropOldest_6 : decode cX4_dropOldest 6 = .ok (.astore_n 1, 1) := by decide +kernel
theorem dX4_dropOldest_7 : decode cX4_dropOldest 7 = .ok (.iconst 1, 1) := by decide +kernel
theorem dX4_dropOldest_8 : decode cX4_dropOldest 8 = .ok (.istore_n 2, 1) := by decide +kernel
theorem dX4_dropOldest_9 : decode cX4_dropOldest 9 = .ok (.iload_n 2, 1) := by decide +kernel
theorem dX4_dropOldest_10 : decode cX4_dropOldest 10 = .ok (.aload_n 0, 1) := by decide +kernel
theorem dX4_dropOldest_11 : decode cX4_dropOldest 11 = .ok (.getfield 15, 3) := by decide +kernel
theorem dX4_dropOldest_14 : decode cX4_dropOldest 14 = .ok (.arraylength, 1) := by decide +kernel
theorem dX4_dropOldest_15 : decode cX4_dropOldest 15 = .ok (.if_icmp .ge 23, 3) := by decide +kernel
theorem dX4_dropOldest_18 : decode cX4_dropOldest 18 = .ok (.aload_n 0, 1) := by decide +kernel
theorem dX4_dropOldest_19 : decode cX4_dropOldest 19 = .ok (.getfield 15, 3) := by decide +kernel
theorem dX4_dropOldest_22 : decode cX4_dropOldest 22 = .ok (.iload_n 2, 1) := by decide +kernel
theorem dX4_dropOldest_23 : decode cX4_dropOldest 23 = .ok (.iconst 1, 1) := by decide +kernel
theorem dX4_dropOldest_24 : decode cX4_dropOldest 24 = .ok (.isub, 1) := by decide +kernel
theorem dX4_dropOldest_25 : decode cX4_dropOldest 25 = .ok (.aload_n 0, 1) := by decide +kernel
theorem dX4_dropOldest_26 : decode cX4_dropOldest 26 = .ok (.getfield 15, 3) := by decide +kernel
theorem dX4_dropOldest_29 : decode cX4_dropOldest 29 = .ok (.iload_n 2, 1) := by decide +kernel
theorem dX4_dropOldest_30 : decode cX4_dropOldest 30 = .ok (.aaload, 1) := by decide +kernel
theorem dX4_dropOldest_31 : decode cX4_dropOldest 31 = .ok (.aastore, 1) := by decide +kernel
theorem dX4_dropOldest_32 : decode cX4_dropOldest 32 = .ok (.iinc 2 1, 3) := by decide +kernel
theorem dX4_dropOldest_35 : decode cX4_dropOldest 35 = .ok (.goto (-26), 3) := by decide +kernel
theorem dX4_dropOldest_38 : decode cX4_dropOldest 38 = .ok (.aload_n 0, 1) := by decide +kernel
theorem dX4_dropOldest_39 : decode cX4_dropOldest 39 = .ok (.getfield 15, 3) := by decide +kernel
theorem dX4_dropOldest_42 : decode cX4_dropOldest 42 = .ok (.aload_n 0, 1) := by decide +kernel
theorem dX4_dropOldest_43 : decode cX4_dropOldest 43 = .ok (.getfield 15, 3) := by decide +kernel
theorem dX4_dropOldest_46 : decode cX4_dropOldest 46 = .ok (.arraylength, 1) := by decide +kernel
theorem dX4_dropOldest_47 : decode cX4_dropOldest 47 = .ok (.iconst 1, 1) := by decide +kernel
theorem dX4_dropOldest_48 : decode cX4_dropOldest 48 = .ok (.isub, 1) := by decide +kernel
theorem dX4_dropOldest_49 : decode cX4_dropOldest 49 = .ok (.aload_n 1, 1) := by decide +kernel
theorem dX4_dropOldest_50 : decode cX4_dropOldest 50 = .ok (.aastore, 1) := by decide +kernel
theorem dX4_dropOldest_51 : decode cX4_dropOldest 51 = .ok (.aload_n 0, 1) := by decide +kernel
theorem dX4_dropOldest_52 : decode cX4_dropOldest 52 = .ok (.aload_n 0, 1) := by decide +kernel
theorem dX4_dropOldest_53 : decode cX4_dropOldest 53 = .ok (.getfield 15, 3) := by decide +kernel
theorem dX4_dropOldest_56 : decode cX4_dropOldest 56 = .ok (.arraylength, 1) := by decide +kernel
theorem dX4_dropOldest_57 : decode cX4_dropOldest 57 = .ok (.iconst 1, 1) := by decide +kernel
theorem dX4_dropOldest_58 : decode cX4_dropOldest 58 = .ok (.isub, 1) := by decide +kernel
theorem dX4_dropOldest_59 : decode cX4_dropOldest 59 = .ok (.putfield 22, 3) := by decide +kernel
theorem dX4_dropOldest_62 : decode cX4_dropOldest 62 = .ok (.return_, 1) := by decide +kernel
theorem dX5_init_0 : decode cX5_init 0 = .ok (.aload_n 0, 1) := by decide +kernel
theorem dX5_init_1 : decode cX5_init 1 = .ok (.invokespecial 3, 3) := by decide +kernel
theorem dX5_init_4 : decode cX5_init 4 = .ok (.aload_n 0, 1) := by decide +kernel
theorem dX5_init_5 : decode cX5_init 5 = .ok (.bipush 6, 2) := by decide +kernel
theorem dX5_init_7 : decode cX5_init 7 = .ok (.newarray .int, 2) := by decide +kernel
theorem dX5_init_9 : decode cX5_init 9 = .ok (.putfield 9, 3) := by decide +kernel
theorem dX5_init_12 : decode cX5_init 12 = .ok (.aload_n 0, 1) := by decide +kernel
theorem dX5_init_13 : decode cX5_init 13 = .ok (.bipush 6, 2) := by decide +kernel
theorem dX5_init_15 : decode cX5_init 15 = .ok (.newarray .int, 2) := by decide +kernel
theorem dX5_init_17 : decode cX5_init 17 = .ok (.putfield 15, 3) := by decide +kernel
theorem dX5_init_20 : decode cX5_init 20 = .ok (.aload_n 0, 1) := by decide +kernel
theorem dX5_init_21 : decode cX5_init 21 = .ok (.bipush 6, 2) := by decide +kernel
theorem dX5_init_23 : decode cX5_init 23 = .ok (.newarray .int, 2) := by decide +kernel
theorem dX5_init_25 : decode cX5_init 25 = .ok (.putfield 18, 3) := by decide +kernel
theorem dX5_init_28 : decode cX5_init 28 = .ok (.return_, 1) := by decide +kernel
theorem dX5_add_0 : decode cX5_add 0 = .ok (.aload_n 0, 1) := by decide +kernel
theorem dX5_add_1 : decode cX5_add 1 = .ok (.getfield 21, 3) := by decide +kernel
theorem dX5_add_4 : decode cX5_add 4 = .ok (.bipush 6, 2) := by decide +kernel
theorem dX5_add_6 : decode cX5_add 6 = .ok (.if_icmp .lt 5, 3) := by decide +kernel
theorem dX5_add_9 : decode cX5_add 9 = .ok (.iconst 0, 1) := by decide +kernel
theorem dX5_add_10 : decode cX5_add 10 = .ok (.ireturn, 1) := by decide +kernel
theorem dX5_add_11 : decode cX5_add 11 = .ok (.aload_n 0, 1) := by decide +kernel
theorem dX5_add_12 : decode cX5_add 12 = .ok (.getfield 9, 3) := by decide +kernel
theorem dX5_add_15 : decode cX5_add 15 = .ok (.aload_n 0, 1) := by decide +kernel
theorem dX5_add_16 : decode cX5_add 16 = .ok (.getfield 21, 3) := by decide +kernel
theorem dX5_add_19 : decode cX5_add 19 = .ok (.iload_n 1, 1) := by decide +kernel
theorem dX5_add_20 : decode cX5_add 20 = .ok (.iastore, 1) := by decide +kernel
theorem dX5_add_21 : decode cX5_add 21 = .ok (.aload_n 0, 1) := by decide +kernel
theorem dX5_add_22 : decode cX5_add 22 = .ok (.getfield 15, 3) := by decide +kernel
theorem dX5_add_25 : decode cX5_add 25 = .ok (.aload_n 0, 1) := by decide +kernel
theorem dX5_add_26 : decode cX5_add 26 = .ok (.getfield 21, 3) := by decide +kernel
theorem dX5_add_29 : decode cX5_add 29 = .ok (.iload_n 2, 1) := by decide +kernel
theorem dX5_add_30 : decode cX5_add 30 = .ok (.iastore, 1) := by decide +kernel
theorem dX5_add_31 : decode cX5_add 31 = .ok (.aload_n 0, 1) := by decide +kernel
theorem dX5_add_32 : decode cX5_add 32 = .ok (.getfield 18, 3) := by decide +kernel
theorem dX5_add_35 : decode cX5_add 35 = .ok (.aload_n 0, 1) := by decide +kernel
theorem dX5_add_36 : decode cX5_add 36 = .ok (.getfield 21, 3) := by decide +kernel
theorem dX5_add_39 : decode cX5_add 39 = .ok (.iload_n 3, 1) := by decide +kernel
theorem dX5_add_40 : decode cX5_add 40 = .ok (.iastore, 1) := by decide +kernel
theorem dX5_add_41 : decode cX5_add 41 = .ok (.aload_n 0, 1) := by decide +kernel
theorem dX5_add_42 : decode cX5_add 42 = .ok (.dup, 1) := by decide +kernel
theorem dX5_add_43 : decode cX5_add 43 = .ok (.getfield 21, 3) := by decide +kernel
theorem dX5_add_46 : decode cX5_add 46 = .ok (.iconst 1, 1) := by decide +kernel
theorem dX5_add_47 : decode cX5_add 47 = .ok (.iadd, 1) := by decide +kernel
theorem dX5_add_48 : decode cX5_add 48 = .ok (.putfield 21, 3) := by decide +kernel
theorem dX5_add_51 : decode cX5_add 51 = .ok (.iconst 1, 1) := by decide +kernel
theorem dX5_add_52 : decode cX5_add 52 = .ok (.ireturn, 1) := by decide +kernel
theorem dX5_allow_0 : decode cX5_allow 0 = .ok (.iconst 0, 1) := by decide +kernel
theorem dX5_allow_1 : decode cX5_allow 1 = .ok (.istore 4, 2) := by decide +kernel
theorem dX5_allow_3 : decode cX5_allow 3 = .ok (.iload 4, 2) := by decide +kernel
theorem dX5_allow_5 : decode cX5_allow 5 = .ok (.aload_n 0, 1) := by decide +kernel
theorem dX5_allow_6 : decode cX5_allow 6 = .ok (.getfield 21, 3) := by decide +kernel
theorem dX5_allow_9 : decode cX5_allow 9 = .ok (.if_icmp .ge 46, 3) := by decide +kernel
theorem dX5_allow_12 : decode cX5_allow 12 = .ok (.aload_n 0, 1) := by decide +kernel
theorem dX5_allow_13 : decode cX5_allow 13 = .ok (.getfield 9, 3) := by decide +kernel
theorem dX5_allow_16 : decode cX5_allow 16 = .ok (.iload 4, 2) := by decide +kernel
theorem dX5_allow_18 : decode cX5_allow 18 = .ok (.iaload, 1) := by decide +kernel
theorem dX5_allow_19 : decode cX5_allow 19 = .ok (.iload_n 1, 1) := by decide +kernel
theorem dX5_allow_20 : decode cX5_allow 20 = .ok (.if_icmp .ne 29, 3) := by decide +kernel
theorem dX5_allow_23 : decode cX5_allow 23 = .ok (.iload_n 2, 1) := by decide +kernel
theorem dX5_allow_24 : decode cX5_allow 24 = .ok (.iload_n 3, 1) := by decide +kernel
theorem dX5_allow_25 : decode cX5_allow 25 = .ok (.aload_n 0, 1) := by decide +kernel
theorem dX5_allow_26 : decode cX5_allow 26 = .ok (.getfield 15, 3) := by decide +kernel
theorem dX5_allow_29 : decode cX5_allow 29 = .ok (.iload 4, 2) := by decide +kernel
theorem dX5_allow_31 : decode cX5_allow 31 = .ok (.iaload, 1) := by decide +kernel
theorem dX5_allow_32 : decode cX5_allow 32 = .ok (.iconst 0, 1) := by decide +kernel
theorem dX5_allow_33 : decode cX5_allow 33 = .ok (.iconst 1, 1) := by decide +kernel
theorem dX5_allow_34 : decode cX5_allow 34 = .ok (.invokestatic 25, 3) := by decide +kernel
theorem dX5_allow_37 : decode cX5_allow 37 = .ok (.aload_n 0, 1) := by decide +kernel
theorem dX5_allow_38 : decode cX5_allow 38 = .ok (.getfield 18, 3) := by decide +kernel
theorem dX5_allow_41 : decode cX5_allow 41 = .ok (.iload 4, 2) := by decide +kernel
theorem dX5_allow_43 : decode cX5_allow 43 = .ok (.iaload, 1) := by decide +kernel
theorem dX5_allow_44 : decode cX5_allow 44 = .ok (.if_icmp .eq 5, 3) := by decide +kernel
theorem dX5_allow_47 : decode cX5_allow 47 = .ok (.iconst 0, 1) := by decide +kernel
theorem dX5_allow_48 : decode cX5_allow 48 = .ok (.ireturn, 1) := by decide +kernel
theorem dX5_allow_49 : decode cX5_allow 49 = .ok (.iinc 4 1, 3) := by decide +kernel
theorem dX5_allow_52 : decode cX5_allow 52 = .ok (.goto (-49), 3) := by decide +kernel
theorem dX5_allow_55 : decode cX5_allow 55 = .ok (.iconst 1, 1) := by decide +kernel
theorem dX5_allow_56 : decode cX5_allow 56 = .ok (.ireturn, 1) := by decide +kernel
theorem dX6_init_0 : decode cX6_init 0 = .ok (.aload_n 0, 1) := by decide +kernel
theorem dX6_init_1 : decode cX6_init 1 = .ok (.invokespecial 1, 3) := by decide +kernel
theorem dX6_init_4 : decode cX6_init 4 = .ok (.aload_n 0, 1) := by decide +kernel
theorem dX6_init_5 : decode cX6_init 5 = .ok (.new 7, 3) := by decide +kernel
theorem dX6_init_8 : decode cX6_init 8 = .ok (.dup, 1) := by decide +kernel
theorem dX6_init_9 : decode cX6_init 9 = .ok (.invokespecial 9, 3) := by decide +kernel
theorem dX6_init_12 : decode cX6_init 12 = .ok (.putfield 10, 3) := by decide +kernel
theorem dX6_init_15 : decode cX6_init 15 = .ok (.aload_n 0, 1) := by decide +kernel
theorem dX6_init_16 : decode cX6_init 16 = .ok (.new 16, 3) := by decide +kernel
theorem dX6_init_19 : decode cX6_init 19 = .ok (.dup, 1) := by decide +kernel
theorem dX6_init_20 : decode cX6_init 20 = .ok (.invokespecial 18, 3) := by decide +kernel
theorem dX6_init_23 : decode cX6_init 23 = .ok (.putfield 19, 3) := by decide +kernel
theorem dX6_init_26 : decode cX6_init 26 = .ok (.aload_n 0, 1) := by decide +kernel
theorem dX6_init_27 : decode cX6_init 27 = .ok (.new 16, 3) := by decide +kernel
theorem dX6_init_30 : decode cX6_init 30 = .ok (.dup, 1) := by decide +kernel
theorem dX6_init_31 : decode cX6_init 31 = .ok (.invokespecial 18, 3) := by decide +kernel
theorem dX6_init_34 : decode cX6_init 34 = .ok (.putfield 23, 3) := by decide +kernel
theorem dX6_init_37 : decode cX6_init 37 = .ok (.aload_n 0, 1) := by decide +kernel
theorem dX6_init_38 : decode cX6_init 38 = .ok (.new 26, 3) := by decide +kernel
theorem dX6_init_41 : decode cX6_init 41 = .ok (.dup, 1) := by decide +kernel
theorem dX6_init_42 : decode cX6_init 42 = .ok (.invokespecial 28, 3) := by decide +kernel
theorem dX6_init_45 : decode cX6_init 45 = .ok (.putfield 29, 3) := by decide +kernel
theorem dX6_init_48 : decode cX6_init 48 = .ok (.aload_n 0, 1) := by decide +kernel
theorem dX6_init_49 : decode cX6_init 49 = .ok (.new 26, 3) := by decide +kernel
theorem dX6_init_52 : decode cX6_init 52 = .ok (.dup, 1) := by decide +kernel
theorem dX6_init_53 : decode cX6_init 53 = .ok (.invokespecial 28, 3) := by decide +kernel
theorem dX6_init_56 : decode cX6_init 56 = .ok (.putfield 33, 3) := by decide +kernel
theorem dX6_init_59 : decode cX6_init 59 = .ok (.aload_n 0, 1) := by decide +kernel
theorem dX6_init_60 : decode cX6_init 60 = .ok (.new 26, 3) := by decide +kernel
theorem dX6_init_63 : decode cX6_init 63 = .ok (.dup, 1) := by decide +kernel
theorem dX6_init_64 : decode cX6_init 64 = .ok (.invokespecial 28, 3) := by decide +kernel
theorem dX6_init_67 : decode cX6_init 67 = .ok (.putfield 36, 3) := by decide +kernel
theorem dX6_init_70 : decode cX6_init 70 = .ok (.aload_n 0, 1) := by decide +kernel
theorem dX6_init_71 : decode cX6_init 71 = .ok (.new 39, 3) := by decide +kernel
theorem dX6_init_74 : decode cX6_init 74 = .ok (.dup, 1) := by decide +kernel
theorem dX6_init_75 : decode cX6_init 75 = .ok (.bipush 8, 2) := by decide +kernel
theorem dX6_init_77 : decode cX6_init 77 = .ok (.invokespecial 41, 3) := by decide +kernel
theorem dX6_init_80 : decode cX6_init 80 = .ok (.putfield 44, 3) := by decide +kernel
theorem dX6_init_83 : decode cX6_init 83 = .ok (.aload_n 0, 1) := by decide +kernel
theorem dX6_init_84 : decode cX6_init 84 = .ok (.new 39, 3) := by decide +kernel
theorem dX6_init_87 : decode cX6_init 87 = .ok (.dup, 1) := by decide +kernel
theorem dX6_init_88 : decode cX6_init 88 = .ok (.iconst 2, 1) := by decide +kernel
theorem dX6_init_89 : decode cX6_init 89 = .ok (.invokespecial 41, 3) := by decide +kernel
theorem dX6_init_92 : decode cX6_init 92 = .ok (.putfield 48, 3) := by decide +kernel
theorem dX6_init_95 : decode cX6_init 95 = .ok (.aload_n 0, 1) := by decide +kernel
theorem dX6_init_96 : decode cX6_init 96 = .ok (.new 51, 3) := by decide +kernel
theorem dX6_init_99 : decode cX6_init 99 = .ok (.dup, 1) := by decide +kernel
theorem dX6_init_100 : decode cX6_init 100 = .ok (.invokespecial 53, 3) := by decide +kernel
theorem dX6_init_103 : decode cX6_init 103 = .ok (.putfield 54, 3) := by decide +kernel
theorem dX6_init_106 : decode cX6_init 106 = .ok (.aload_n 0, 1) := by decide +kernel
theorem dX6_init_107 : decode cX6_init 107 = .ok (.new 58, 3) := by decide +kernel
theorem dX6_init_110 : decode cX6_init 110 = .ok (.dup, 1) := by decide +kernel
theorem dX6_init_111 : decode cX6_init 111 = .ok (.aload_n 0, 1) := by decide +kernel
theorem dX6_init_112 : decode cX6_init 112 = .ok (.getfield 19, 3) := by decide +kernel
theorem dX6_init_115 : decode cX6_init 115 = .ok (.invokespecial 60, 3) := by decide +kernel
theorem dX6_init_118 : decode cX6_init 118 = .ok (.putfield 63, 3) := by decide +kernel
theorem dX6_init_121 : decode cX6_init 121 = .ok (.iconst 0, 1) := by decide +kernel
theorem dX6_init_122 : decode cX6_init 122 = .ok (.istore_n 1, 1) := by decide +kernel
theorem dX6_init_123 : decode cX6_init 123 = .ok (.iload_n 1, 1) := by decide +kernel
theorem dX6_init_124 : decode cX6_init 124 = .ok (.ldc 67, 2) := by decide +kernel
theorem dX6_init_126 : decode cX6_init 126 = .ok (.invokevirtual 69, 3) := by decide +kernel
theorem dX6_init_129 : decode cX6_init 129 = .ok (.if_icmp .ge 23, 3) := by decide +kernel
theorem dX6_init_132 : decode cX6_init 132 = .ok (.aload_n 0, 1) := by decide +kernel
theorem dX6_init_133 : decode cX6_init 133 = .ok (.getfield 10, 3) := by decide +kernel
theorem dX6_init_136 : decode cX6_init 136 = .ok (.ldc 67, 2) := by decide +kernel
theorem dX6_init_138 : decode cX6_init 138 = .ok (.iload_n 1, 1) := by decide +kernel
theorem dX6_init_139 : decode cX6_init 139 = .ok (.invokevirtual 75, 3) := by decide +kernel
theorem dX6_init_142 : decode cX6_init 142 = .ok (.invokevirtual 79, 3) := by decide +kernel
theorem dX6_init_145 : decode cX6_init 145 = .ok (.pop, 1) := by decide +kernel
theorem dX6_init_146 : decode cX6_init 146 = .ok (.iinc 1 1, 3) := by decide +kernel
theorem dX6_init_149 : decode cX6_init 149 = .ok (.goto (-26), 3) := by decide +kernel
theorem dX6_init_152 : decode cX6_init 152 = .ok (.aload_n 0, 1) := by decide +kernel
theorem dX6_init_153 : decode cX6_init 153 = .ok (.getfield 10, 3) := by decide +kernel
theorem dX6_init_156 : decode cX6_init 156 = .ok (.aload_n 0, 1) := by decide +kernel
theorem dX6_init_157 : decode cX6_init 157 = .ok (.getfield 19, 3) := by decide +kernel
theorem dX6_init_160 : decode cX6_init 160 = .ok (.invokevirtual 83, 3) := by decide +kernel
