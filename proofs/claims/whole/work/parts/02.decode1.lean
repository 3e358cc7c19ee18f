theorem dX6_init_163 : decode cX6_init 163 = .ok (.pop, 1) := by decide +kernel
theorem dX6_init_164 : decode cX6_init 164 = .ok (.aload_n 0, 1) := by decide +kernel
theorem dX6_init_165 : decode cX6_init 165 = .ok (.getfield 10, 3) := by decide +kernel
theorem dX6_init_168 : decode cX6_init 168 = .ok (.iconst 0, 1) := by decide +kernel
theorem dX6_init_169 : decode cX6_init 169 = .ok (.putfield 87, 3) := by decide +kernel
theorem dX6_init_172 : decode cX6_init 172 = .ok (.aload_n 0, 1) := by decide +kernel
theorem dX6_init_173 : decode cX6_init 173 = .ok (.getfield 29, 3) := by decide +kernel
theorem dX6_init_176 : decode cX6_init 176 = .ok (.aload_n 0, 1) := by decide +kernel
theorem dX6_init_177 : decode cX6_init 177 = .ok (.getfield 19, 3) := by decide +kernel
theorem dX6_init_180 : decode cX6_init 180 = .ok (.getfield 90, 3) := by decide +kernel
theorem dX6_init_183 : decode cX6_init 183 = .ok (.invokevirtual 93, 3) := by decide +kernel
theorem dX6_init_186 : decode cX6_init 186 = .ok (.return_, 1) := by decide +kernel
theorem dX6_write_0 : decode cX6_write 0 = .ok (.iload_n 1, 1) := by decide +kernel
theorem dX6_write_1 : decode cX6_write 1 = .ok (.bipush 32, 2) := by decide +kernel
theorem dX6_write_3 : decode cX6_write 3 = .ok (.if_icmp .lt 9, 3) := by decide +kernel
theorem dX6_write_6 : decode cX6_write 6 = .ok (.iload_n 1, 1) := by decide +kernel
theorem dX6_write_7 : decode cX6_write 7 = .ok (.bipush 126, 2) := by decide +kernel
theorem dX6_write_9 : decode cX6_write 9 = .ok (.if_icmp .le 5, 3) := by decide +kernel
theorem dX6_write_12 : decode cX6_write 12 = .ok (.iconst (-1), 1) := by decide +kernel
theorem dX6_write_13 : decode cX6_write 13 = .ok (.ireturn, 1) := by decide +kernel
theorem dX6_write_14 : decode cX6_write 14 = .ok (.aload_n 0, 1) := by decide +kernel
theorem dX6_write_15 : decode cX6_write 15 = .ok (.getfield 10, 3) := by decide +kernel
theorem dX6_write_18 : decode cX6_write 18 = .ok (.iload_n 1, 1) := by decide +kernel
theorem dX6_write_19 : decode cX6_write 19 = .ok (.i2c, 1) := by decide +kernel
theorem dX6_write_20 : decode cX6_write 20 = .ok (.invokevirtual 79, 3) := by decide +kernel
theorem dX6_write_23 : decode cX6_write 23 = .ok (.ifCond .eq 13, 3) := by decide +kernel
theorem dX6_write_26 : decode cX6_write 26 = .ok (.aload_n 0, 1) := by decide +kernel
theorem dX6_write_27 : decode cX6_write 27 = .ok (.getfield 10, 3) := by decide +kernel
theorem dX6_write_30 : decode cX6_write 30 = .ok (.getfield 87, 3) := by decide +kernel
theorem dX6_write_33 : decode cX6_write 33 = .ok (.goto 5, 3) := by decide +kernel
theorem dX6_write_36 : decode cX6_write 36 = .ok (.bipush (-3), 2) := by decide +kernel
theorem dX6_write_38 : decode cX6_write 38 = .ok (.ireturn, 1) := by decide +kernel
theorem dX6_wipe_0 : decode cX6_wipe 0 = .ok (.aload_n 0, 1) := by decide +kernel
theorem dX6_wipe_1 : decode cX6_wipe 1 = .ok (.getfield 10, 3) := by decide +kernel
theorem dX6_wipe_4 : decode cX6_wipe 4 = .ok (.getfield 87, 3) := by decide +kernel
theorem dX6_wipe_7 : decode cX6_wipe 7 = .ok (.istore_n 1, 1) := by decide +kernel
theorem dX6_wipe_8 : decode cX6_wipe 8 = .ok (.aload_n 0, 1) := by decide +kernel
theorem dX6_wipe_9 : decode cX6_wipe 9 = .ok (.getfield 10, 3) := by decide +kernel
theorem dX6_wipe_12 : decode cX6_wipe 12 = .ok (.iconst 0, 1) := by decide +kernel
theorem dX6_wipe_13 : decode cX6_wipe 13 = .ok (.putfield 87, 3) := by decide +kernel
theorem dX6_wipe_16 : decode cX6_wipe 16 = .ok (.iload_n 1, 1) := by decide +kernel
theorem dX6_wipe_17 : decode cX6_wipe 17 = .ok (.ireturn, 1) := by decide +kernel
theorem dX6_fault_0 : decode cX6_fault 0 = .ok (.aload_n 0, 1) := by decide +kernel
theorem dX6_fault_1 : decode cX6_fault 1 = .ok (.getfield 10, 3) := by decide +kernel
theorem dX6_fault_4 : decode cX6_fault 4 = .ok (.aload_n 0, 1) := by decide +kernel
theorem dX6_fault_5 : decode cX6_fault 5 = .ok (.getfield 23, 3) := by decide +kernel
theorem dX6_fault_8 : decode cX6_fault 8 = .ok (.invokevirtual 83, 3) := by decide +kernel
theorem dX6_fault_11 : decode cX6_fault 11 = .ok (.ireturn, 1) := by decide +kernel
theorem dX6_lay_0 : decode cX6_lay 0 = .ok (.aload_n 0, 1) := by decide +kernel
theorem dX6_lay_1 : decode cX6_lay 1 = .ok (.getfield 10, 3) := by decide +kernel
theorem dX6_lay_4 : decode cX6_lay 4 = .ok (.aload_n 0, 1) := by decide +kernel
theorem dX6_lay_5 : decode cX6_lay 5 = .ok (.getfield 23, 3) := by decide +kernel
theorem dX6_lay_8 : decode cX6_lay 8 = .ok (.invokevirtual 83, 3) := by decide +kernel
theorem dX6_lay_11 : decode cX6_lay 11 = .ok (.bipush (-4), 2) := by decide +kernel
theorem dX6_lay_13 : decode cX6_lay 13 = .ok (.if_icmp .ne 14, 3) := by decide +kernel
theorem dX6_lay_16 : decode cX6_lay 16 = .ok (.aload_n 0, 1) := by decide +kernel
theorem dX6_lay_17 : decode cX6_lay 17 = .ok (.getfield 23, 3) := by decide +kernel
theorem dX6_lay_20 : decode cX6_lay 20 = .ok (.getfield 97, 3) := by decide +kernel
theorem dX6_lay_23 : decode cX6_lay 23 = .ok (.iconst 1, 1) := by decide +kernel
theorem dX6_lay_24 : decode cX6_lay 24 = .ok (.if_icmp .ge 6, 3) := by decide +kernel
theorem dX6_lay_27 : decode cX6_lay 27 = .ok (.bipush (-2), 2) := by decide +kernel
theorem dX6_lay_29 : decode cX6_lay 29 = .ok (.ireturn, 1) := by decide +kernel
theorem dX6_lay_30 : decode cX6_lay 30 = .ok (.aload_n 0, 1) := by decide +kernel
theorem dX6_lay_31 : decode cX6_lay 31 = .ok (.getfield 10, 3) := by decide +kernel
theorem dX6_lay_34 : decode cX6_lay 34 = .ok (.aload_n 0, 1) := by decide +kernel
theorem dX6_lay_35 : decode cX6_lay 35 = .ok (.getfield 19, 3) := by decide +kernel
theorem dX6_lay_38 : decode cX6_lay 38 = .ok (.invokevirtual 83, 3) := by decide +kernel
theorem dX6_lay_41 : decode cX6_lay 41 = .ok (.pop, 1) := by decide +kernel
theorem dX6_lay_42 : decode cX6_lay 42 = .ok (.aload_n 0, 1) := by decide +kernel
theorem dX6_lay_43 : decode cX6_lay 43 = .ok (.getfield 29, 3) := by decide +kernel
theorem dX6_lay_46 : decode cX6_lay 46 = .ok (.aload_n 0, 1) := by decide +kernel
theorem dX6_lay_47 : decode cX6_lay 47 = .ok (.getfield 19, 3) := by decide +kernel
theorem dX6_lay_50 : decode cX6_lay 50 = .ok (.getfield 90, 3) := by decide +kernel
theorem dX6_lay_53 : decode cX6_lay 53 = .ok (.invokevirtual 93, 3) := by decide +kernel
theorem dX6_lay_56 : decode cX6_lay 56 = .ok (.aload_n 0, 1) := by decide +kernel
theorem dX6_lay_57 : decode cX6_lay 57 = .ok (.getfield 44, 3) := by decide +kernel
theorem dX6_lay_60 : decode cX6_lay 60 = .ok (.iconst 0, 1) := by decide +kernel
theorem dX6_lay_61 : decode cX6_lay 61 = .ok (.putfield 100, 3) := by decide +kernel
theorem dX6_lay_64 : decode cX6_lay 64 = .ok (.aload_n 0, 1) := by decide +kernel
theorem dX6_lay_65 : decode cX6_lay 65 = .ok (.getfield 48, 3) := by decide +kernel
theorem dX6_lay_68 : decode cX6_lay 68 = .ok (.iconst 0, 1) := by decide +kernel
theorem dX6_lay_69 : decode cX6_lay 69 = .ok (.putfield 100, 3) := by decide +kernel
theorem dX6_lay_72 : decode cX6_lay 72 = .ok (.aload_n 0, 1) := by decide +kernel
theorem dX6_lay_73 : decode cX6_lay 73 = .ok (.getfield 54, 3) := by decide +kernel
theorem dX6_lay_76 : decode cX6_lay 76 = .ok (.iconst 0, 1) := by decide +kernel
theorem dX6_lay_77 : decode cX6_lay 77 = .ok (.putfield 103, 3) := by decide +kernel
theorem dX6_lay_80 : decode cX6_lay 80 = .ok (.aload_n 0, 1) := by decide +kernel
theorem dX6_lay_81 : decode cX6_lay 81 = .ok (.getfield 19, 3) := by decide +kernel
theorem dX6_lay_84 : decode cX6_lay 84 = .ok (.getfield 97, 3) := by decide +kernel
theorem dX6_lay_87 : decode cX6_lay 87 = .ok (.ireturn, 1) := by decide +kernel
theorem dX6_peg_0 : decode cX6_peg 0 = .ok (.aload_n 0, 1) := by decide +kernel
theorem dX6_peg_1 : decode cX6_peg 1 = .ok (.getfield 19, 3) := by decide +kernel
theorem dX6_peg_4 : decode cX6_peg 4 = .ok (.iload_n 1, 1) := by decide +kernel
theorem dX6_peg_5 : decode cX6_peg 5 = .ok (.invokevirtual 104, 3) := by decide +kernel
theorem dX6_peg_8 : decode cX6_peg 8 = .ok (.ifCond .ne 5, 3) := by decide +kernel
theorem dX6_peg_11 : decode cX6_peg 11 = .ok (.iconst (-1), 1) := by decide +kernel
theorem dX6_peg_12 : decode cX6_peg 12 = .ok (.ireturn, 1) := by decide +kernel
theorem dX6_peg_13 : decode cX6_peg 13 = .ok (.iload_n 2, 1) := by decide +kernel
theorem dX6_peg_14 : decode cX6_peg 14 = .ok (.tableswitch 93 0 4 #[34, 44, 54, 64, 80], 34) := by decide +kernel
theorem dX6_peg_48 : decode cX6_peg 48 = .ok (.aload_n 0, 1) := by decide +kernel
theorem dX6_peg_49 : decode cX6_peg 49 = .ok (.getfield 19, 3) := by decide +kernel
theorem dX6_peg_52 : decode cX6_peg 52 = .ok (.getfield 108, 3) := by decide +kernel
theorem dX6_peg_55 : decode cX6_peg 55 = .ok (.iload_n 1, 1) := by decide +kernel
theorem dX6_peg_56 : decode cX6_peg 56 = .ok (.iaload, 1) := by decide +kernel
theorem dX6_peg_57 : decode cX6_peg 57 = .ok (.ireturn, 1) := by decide +kernel
theorem dX6_peg_58 : decode cX6_peg 58 = .ok (.aload_n 0, 1) := by decide +kernel
theorem dX6_peg_59 : decode cX6_peg 59 = .ok (.getfield 19, 3) := by decide +kernel
theorem dX6_peg_62 : decode cX6_peg 62 = .ok (.getfield 112, 3) := by decide +kernel
theorem dX6_peg_65 : decode cX6_peg 65 = .ok (.iload_n 1, 1) := by decide +kernel
theorem dX6_peg_66 : decode cX6_peg 66 = .ok (.iaload, 1) := by decide +kernel
theorem dX6_peg_67 : decode cX6_peg 67 = .ok (.ireturn, 1) := by decide +kernel
theorem dX6_peg_68 : decode cX6_peg 68 = .ok (.aload_n 0, 1) := by decide +kernel
theorem dX6_peg_69 : decode cX6_peg 69 = .ok (.getfield 19, 3) := by decide +kernel
theorem dX6_peg_72 : decode cX6_peg 72 = .ok (.getfield 115, 3) := by decide +kernel
theorem dX6_peg_75 : decode cX6_peg 75 = .ok (.iload_n 1, 1) := by decide +kernel
theorem dX6_peg_76 : decode cX6_peg 76 = .ok (.iaload, 1) := by decide +kernel
theorem dX6_peg_77 : decode cX6_peg 77 = .ok (.ireturn, 1) := by decide +kernel
theorem dX6_peg_78 : decode cX6_peg 78 = .ok (.aload_n 0, 1) := by decide +kernel
theorem dX6_peg_79 : decode cX6_peg 79 = .ok (.getfield 19, 3) := by decide +kernel
theorem dX6_peg_82 : decode cX6_peg 82 = .ok (.iload_n 1, 1) := by decide +kernel
theorem dX6_peg_83 : decode cX6_peg 83 = .ok (.aload_n 0, 1) := by decide +kernel
theorem dX6_peg_84 : decode cX6_peg 84 = .ok (.getfield 29, 3) := by decide +kernel
theorem dX6_peg_87 : decode cX6_peg 87 = .ok (.invokevirtual 118, 3) := by decide +kernel
theorem dX6_peg_90 : decode cX6_peg 90 = .ok (.bipush 20, 2) := by decide +kernel
theorem dX6_peg_92 : decode cX6_peg 92 = .ok (.iadd, 1) := by decide +kernel
theorem dX6_peg_93 : decode cX6_peg 93 = .ok (.ireturn, 1) := by decide +kernel
theorem dX6_peg_94 : decode cX6_peg 94 = .ok (.aload_n 0, 1) := by decide +kernel
theorem dX6_peg_95 : decode cX6_peg 95 = .ok (.getfield 19, 3) := by decide +kernel
theorem dX6_peg_98 : decode cX6_peg 98 = .ok (.iload_n 1, 1) := by decide +kernel
theorem dX6_peg_99 : decode cX6_peg 99 = .ok (.aload_n 0, 1) := by decide +kernel
theorem dX6_peg_100 : decode cX6_peg 100 = .ok (.getfield 29, 3) := by decide +kernel
theorem dX6_peg_103 : decode cX6_peg 103 = .ok (.invokevirtual 122, 3) := by decide +kernel
theorem dX6_peg_106 : decode cX6_peg 106 = .ok (.ireturn, 1) := by decide +kernel
theorem dX6_peg_107 : decode cX6_peg 107 = .ok (.iconst (-1), 1) := by decide +kernel
theorem dX6_peg_108 : decode cX6_peg 108 = .ok (.ireturn, 1) := by decide +kernel
theorem dX6_wind_0 : decode cX6_wind 0 = .ok (.iload_n 1, 1) := by decide +kernel
theorem dX6_wind_1 : decode cX6_wind 1 = .ok (.iconst 1, 1) := by decide +kernel
theorem dX6_wind_2 : decode cX6_wind 2 = .ok (.if_icmp .lt 9, 3) := by decide +kernel
theorem dX6_wind_5 : decode cX6_wind 5 = .ok (.iload_n 1, 1) := by decide +kernel
theorem dX6_wind_6 : decode cX6_wind 6 = .ok (.bipush 9, 2) := by decide +kernel
theorem dX6_wind_8 : decode cX6_wind 8 = .ok (.if_icmp .le 7, 3) := by decide +kernel
theorem dX6_wind_11 : decode cX6_wind 11 = .ok (.iconst (-1), 1) := by decide +kernel
theorem dX6_wind_12 : decode cX6_wind 12 = .ok (.goto 11, 3) := by decide +kernel
theorem dX6_wind_15 : decode cX6_wind 15 = .ok (.aload_n 0, 1) := by decide +kernel
theorem dX6_wind_16 : decode cX6_wind 16 = .ok (.getfield 19, 3) := by decide +kernel
theorem dX6_wind_19 : decode cX6_wind 19 = .ok (.iload_n 1, 1) := by decide +kernel
theorem dX6_wind_20 : decode cX6_wind 20 = .ok (.invokevirtual 125, 3) := by decide +kernel
theorem dX6_wind_23 : decode cX6_wind 23 = .ok (.ireturn, 1) := by decide +kernel
theorem dX6_roof_0 : decode cX6_roof 0 = .ok (.aload_n 0, 1) := by decide +kernel
theorem dX6_roof_1 : decode cX6_roof 1 = .ok (.getfield 19, 3) := by decide +kernel
theorem dX6_roof_4 : decode cX6_roof 4 = .ok (.iload_n 1, 1) := by decide +kernel
theorem dX6_roof_5 : decode cX6_roof 5 = .ok (.invokevirtual 129, 3) := by decide +kernel
theorem dX6_roof_8 : decode cX6_roof 8 = .ok (.ifCond .eq 12, 3) := by decide +kernel
theorem dX6_roof_11 : decode cX6_roof 11 = .ok (.iload_n 2, 1) := by decide +kernel
theorem dX6_roof_12 : decode cX6_roof 12 = .ok (.ifCond .lt 8, 3) := by decide +kernel
theorem dX6_roof_15 : decode cX6_roof 15 = .ok (.iload_n 2, 1) := by decide +kernel
theorem dX6_roof_16 : decode cX6_roof 16 = .ok (.iconst 1, 1) := by decide +kernel
theorem dX6_roof_17 : decode cX6_roof 17 = .ok (.if_icmp .le 5, 3) := by decide +kernel
theorem dX6_roof_20 : decode cX6_roof 20 = .ok (.iconst (-1), 1) := by decide +kernel
theorem dX6_roof_21 : decode cX6_roof 21 = .ok (.ireturn, 1) := by decide +kernel
theorem dX6_roof_22 : decode cX6_roof 22 = .ok (.iload_n 2, 1) := by decide +kernel
theorem dX6_roof_23 : decode cX6_roof 23 = .ok (.ifCond .ne 15, 3) := by decide +kernel
theorem dX6_roof_26 : decode cX6_roof 26 = .ok (.aload_n 0, 1) := by decide +kernel
theorem dX6_roof_27 : decode cX6_roof 27 = .ok (.getfield 19, 3) := by decide +kernel
theorem dX6_roof_30 : decode cX6_roof 30 = .ok (.getfield 132, 3) := by decide +kernel
theorem dX6_roof_33 : decode cX6_roof 33 = .ok (.iload_n 1, 1) := by decide +kernel
theorem dX6_roof_34 : decode cX6_roof 34 = .ok (.iaload, 1) := by decide +kernel
theorem dX6_roof_35 : decode cX6_roof 35 = .ok (.goto 12, 3) := by decide +kernel
theorem dX6_roof_38 : decode cX6_roof 38 = .ok (.aload_n 0, 1) := by decide +kernel
theorem dX6_roof_39 : decode cX6_roof 39 = .ok (.getfield 19, 3) := by decide +kernel
theorem dX6_roof_42 : decode cX6_roof 42 = .ok (.getfield 135, 3) := by decide +kernel
theorem dX6_roof_45 : decode cX6_roof 45 = .ok (.iload_n 1, 1) := by decide +kernel
theorem dX6_roof_46 : decode cX6_roof 46 = .ok (.iaload, 1) := by decide +kernel
theorem dX6_roof_47 : decode cX6_roof 47 = .ok (.ireturn, 1) := by decide +kernel
theorem dX6_turn_0 : decode cX6_turn 0 = .ok (.aload_n 0, 1) := by decide +kernel
theorem dX6_turn_1 : decode cX6_turn 1 = .ok (.getfield 19, 3) := by decide +kernel
theorem dX6_turn_4 : decode cX6_turn 4 = .ok (.iload_n 1, 1) := by decide +kernel
theorem dX6_turn_5 : decode cX6_turn 5 = .ok (.invokevirtual 104, 3) := by decide +kernel
theorem dX6_turn_8 : decode cX6_turn 8 = .ok (.ifCond .ne 5, 3) := by decide +kernel
theorem dX6_turn_11 : decode cX6_turn 11 = .ok (.iconst (-1), 1) := by decide +kernel
theorem dX6_turn_12 : decode cX6_turn 12 = .ok (.ireturn, 1) := by decide +kernel
theorem dX6_turn_13 : decode cX6_turn 13 = .ok (.aload_n 0, 1) := by decide +kernel
theorem dX6_turn_14 : decode cX6_turn 14 = .ok (.getfield 29, 3) := by decide +kernel
theorem dX6_turn_17 : decode cX6_turn 17 = .ok (.invokevirtual 138, 3) := by decide +kernel
theorem dX6_turn_20 : decode cX6_turn 20 = .ok (.ifCond .eq 6, 3) := by decide +kernel
theorem dX6_turn_23 : decode cX6_turn 23 = .ok (.bipush (-2), 2) := by decide +kernel
theorem dX6_turn_25 : decode cX6_turn 25 = .ok (.ireturn, 1) := by decide +kernel
theorem dX6_turn_26 : decode cX6_turn 26 = .ok (.aload_n 0, 1) := by decide +kernel
theorem dX6_turn_27 : decode cX6_turn 27 = .ok (.getfield 44, 3) := by decide +kernel
theorem dX6_turn_30 : decode cX6_turn 30 = .ok (.aload_n 0, 1) := by decide +kernel
theorem dX6_turn_31 : decode cX6_turn 31 = .ok (.getfield 29, 3) := by decide +kernel
theorem dX6_turn_34 : decode cX6_turn 34 = .ok (.invokevirtual 142, 3) := by decide +kernel
theorem dX6_turn_37 : decode cX6_turn 37 = .ok (.aload_n 0, 1) := by decide +kernel
theorem dX6_turn_38 : decode cX6_turn 38 = .ok (.getfield 19, 3) := by decide +kernel
theorem dX6_turn_41 : decode cX6_turn 41 = .ok (.aload_n 0, 1) := by decide +kernel
theorem dX6_turn_42 : decode cX6_turn 42 = .ok (.getfield 29, 3) := by decide +kernel
theorem dX6_turn_45 : decode cX6_turn 45 = .ok (.iload_n 1, 1) := by decide +kernel
theorem dX6_turn_46 : decode cX6_turn 46 = .ok (.invokevirtual 145, 3) := by decide +kernel
theorem dX6_turn_49 : decode cX6_turn 49 = .ok (.aload_n 0, 1) := by decide +kernel
theorem dX6_turn_50 : decode cX6_turn 50 = .ok (.getfield 29, 3) := by decide +kernel
theorem dX6_turn_53 : decode cX6_turn 53 = .ok (.getfield 149, 3) := by decide +kernel
theorem dX6_turn_56 : decode cX6_turn 56 = .ok (.ireturn, 1) := by decide +kernel
theorem dX6_flyOn_0 : decode cX6_flyOn 0 = .ok (.aload_n 0, 1) := by decide +kernel
theorem dX6_flyOn_1 : decode cX6_flyOn 1 = .ok (.getfield 29, 3) := by decide +kernel
theorem dX6_flyOn_4 : decode cX6_flyOn 4 = .ok (.invokevirtual 138, 3) := by decide +kernel
theorem dX6_flyOn_7 : decode cX6_flyOn 7 = .ok (.ifCond .eq 6, 3) := by decide +kernel
theorem dX6_flyOn_10 : decode cX6_flyOn 10 = .ok (.bipush (-2), 2) := by decide +kernel
theorem dX6_flyOn_12 : decode cX6_flyOn 12 = .ok (.ireturn, 1) := by decide +kernel
theorem dX6_flyOn_13 : decode cX6_flyOn 13 = .ok (.aload_n 0, 1) := by decide +kernel
theorem dX6_flyOn_14 : decode cX6_flyOn 14 = .ok (.getfield 44, 3) := by decide +kernel
theorem dX6_flyOn_17 : decode cX6_flyOn 17 = .ok (.aload_n 0, 1) := by decide +kernel
theorem dX6_flyOn_18 : decode cX6_flyOn 18 = .ok (.getfield 29, 3) := by decide +kernel
theorem dX6_flyOn_21 : decode cX6_flyOn 21 = .ok (.invokevirtual 142, 3) := by decide +kernel
theorem dX6_flyOn_24 : decode cX6_flyOn 24 = .ok (.aload_n 0, 1) := by decide +kernel
theorem dX6_flyOn_25 : decode cX6_flyOn 25 = .ok (.getfield 19, 3) := by decide +kernel
theorem dX6_flyOn_28 : decode cX6_flyOn 28 = .ok (.aload_n 0, 1) := by decide +kernel
theorem dX6_flyOn_29 : decode cX6_flyOn 29 = .ok (.getfield 29, 3) := by decide +kernel
theorem dX6_flyOn_32 : decode cX6_flyOn 32 = .ok (.invokevirtual 152, 3) := by decide +kernel
theorem dX6_flyOn_35 : decode cX6_flyOn 35 = .ok (.aload_n 0, 1) := by decide +kernel
theorem dX6_flyOn_36 : decode cX6_flyOn 36 = .ok (.getfield 29, 3) := by decide +kernel
theorem dX6_flyOn_39 : decode cX6_flyOn 39 = .ok (.invokevirtual 155, 3) := by decide +kernel
theorem dX6_flyOn_42 : decode cX6_flyOn 42 = .ok (.ireturn, 1) := by decide +kernel
theorem dX6_setDown_0 : decode cX6_setDown 0 = .ok (.aload_n 0, 1) := by decide +kernel
theorem dX6_setDown_1 : decode cX6_setDown 1 = .ok (.getfield 29, 3) := by decide +kernel
theorem dX6_setDown_4 : decode cX6_setDown 4 = .ok (.getfield 158, 3) := by decide +kernel
theorem dX6_setDown_7 : decode cX6_setDown 7 = .ok (.iconst 2, 1) := by decide +kernel
theorem dX6_setDown_8 : decode cX6_setDown 8 = .ok (.if_icmp .ne 17, 3) := by decide +kernel
theorem dX6_setDown_11 : decode cX6_setDown 11 = .ok (.aload_n 0, 1) := by decide +kernel
theorem dX6_setDown_12 : decode cX6_setDown 12 = .ok (.getfield 19, 3) := by decide +kernel
theorem dX6_setDown_15 : decode cX6_setDown 15 = .ok (.aload_n 0, 1) := by decide +kernel
theorem dX6_setDown_16 : decode cX6_setDown 16 = .ok (.getfield 29, 3) := by decide +kernel
theorem dX6_setDown_19 : decode cX6_setDown 19 = .ok (.invokevirtual 161, 3) := by decide +kernel
theorem dX6_setDown_22 : decode cX6_setDown 22 = .ok (.ifCond .ne 6, 3) := by decide +kernel
theorem dX6_setDown_25 : decode cX6_setDown 25 = .ok (.bipush (-2), 2) := by decide +kernel
theorem dX6_setDown_27 : decode cX6_setDown 27 = .ok (.ireturn, 1) := by decide +kernel
theorem dX6_setDown_28 : decode cX6_setDown 28 = .ok (.aload_n 0, 1) := by decide +kernel
theorem dX6_setDown_29 : decode cX6_setDown 29 = .ok (.getfield 44, 3) := by decide +kernel
theorem dX6_setDown_32 : decode cX6_setDown 32 = .ok (.aload_n 0, 1) := by decide +kernel
theorem dX6_setDown_33 : decode cX6_setDown 33 = .ok (.getfield 29, 3) := by decide +kernel
theorem dX6_setDown_36 : decode cX6_setDown 36 = .ok (.invokevirtual 142, 3) := by decide +kernel
theorem dX6_setDown_39 : decode cX6_setDown 39 = .ok (.aload_n 0, 1) := by decide +kernel
theorem dX6_setDown_40 : decode cX6_setDown 40 = .ok (.getfield 29, 3) := by decide +kernel
theorem dX6_setDown_43 : decode cX6_setDown 43 = .ok (.iconst 1, 1) := by decide +kernel
theorem dX6_setDown_44 : decode cX6_setDown 44 = .ok (.putfield 158, 3) := by decide +kernel
theorem dX6_setDown_47 : decode cX6_setDown 47 = .ok (.aload_n 0, 1) := by decide +kernel
theorem dX6_setDown_48 : decode cX6_setDown 48 = .ok (.getfield 29, 3) := by decide +kernel
theorem dX6_setDown_51 : decode cX6_setDown 51 = .ok (.iconst 1, 1) := by decide +kernel
theorem dX6_setDown_52 : decode cX6_setDown 52 = .ok (.putfield 149, 3) := by decide +kernel
theorem dX6_setDown_55 : decode cX6_setDown 55 = .ok (.aload_n 0, 1) := by decide +kernel
theorem dX6_setDown_56 : decode cX6_setDown 56 = .ok (.getfield 29, 3) := by decide +kernel
theorem dX6_setDown_59 : decode cX6_setDown 59 = .ok (.bipush (-4), 2) := by decide +kernel
theorem dX6_setDown_61 : decode cX6_setDown 61 = .ok (.putfield 165, 3) := by decide +kernel
theorem dX6_setDown_64 : decode cX6_setDown 64 = .ok (.aload_n 0, 1) := by decide +kernel
theorem dX6_setDown_65 : decode cX6_setDown 65 = .ok (.getfield 29, 3) := by decide +kernel
theorem dX6_setDown_68 : decode cX6_setDown 68 = .ok (.getfield 158, 3) := by decide +kernel
theorem dX6_setDown_71 : decode cX6_setDown 71 = .ok (.ireturn, 1) := by decide +kernel
theorem dX6_undo_0 : decode cX6_undo 0 = .ok (.aload_n 0, 1) := by decide +kernel
theorem dX6_undo_1 : decode cX6_undo 1 = .ok (.getfield 44, 3) := by decide +kernel
theorem dX6_undo_4 : decode cX6_undo 4 = .ok (.aload_n 0, 1) := by decide +kernel
theorem dX6_undo_5 : decode cX6_undo 5 = .ok (.getfield 29, 3) := by decide +kernel
theorem dX6_undo_8 : decode cX6_undo 8 = .ok (.invokevirtual 168, 3) := by decide +kernel
theorem dX6_undo_11 : decode cX6_undo 11 = .ok (.ifCond .eq 13, 3) := by decide +kernel
theorem dX6_undo_14 : decode cX6_undo 14 = .ok (.aload_n 0, 1) := by decide +kernel
theorem dX6_undo_15 : decode cX6_undo 15 = .ok (.getfield 44, 3) := by decide +kernel
theorem dX6_undo_18 : decode cX6_undo 18 = .ok (.getfield 100, 3) := by decide +kernel
theorem dX6_undo_21 : decode cX6_undo 21 = .ok (.goto 5, 3) := by decide +kernel
theorem dX6_undo_24 : decode cX6_undo 24 = .ok (.bipush (-2), 2) := by decide +kernel
theorem dX6_undo_26 : decode cX6_undo 26 = .ok (.ireturn, 1) := by decide +kernel
theorem dX6_now_0 : decode cX6_now 0 = .ok (.iload_n 1, 1) := by decide +kernel
theorem dX6_now_1 : decode cX6_now 1 = .ok (.tableswitch 147 0 8 #[51, 59, 67, 75, 83, 91, 99, 119, 139], 51) := by decide +kernel
theorem dX6_now_52 : decode cX6_now 52 = .ok (.aload_n 0, 1) := by decide +kernel
theorem dX6_now_53 : decode cX6_now 53 = .ok (.getfield 29, 3) := by decide +kernel
theorem dX6_now_56 : decode cX6_now 56 = .ok (.getfield 171, 3) := by decide +kernel
theorem dX6_now_59 : decode cX6_now 59 = .ok (.ireturn, 1) := by decide +kernel
theorem dX6_now_60 : decode cX6_now 60 = .ok (.aload_n 0, 1) := by decide +kernel
theorem dX6_now_61 : decode cX6_now 61 = .ok (.getfield 29, 3) := by decide +kernel
theorem dX6_now_64 : decode cX6_now 64 = .ok (.getfield 174, 3) := by decide +kernel
theorem dX6_now_67 : decode cX6_now 67 = .ok (.ireturn, 1) := by decide +kernel
theorem dX6_now_68 : decode cX6_now 68 = .ok (.aload_n 0, 1) := by decide +kernel
theorem dX6_now_69 : decode cX6_now 69 = .ok (.getfield 29, 3) := by decide +kernel
theorem dX6_now_72 : decode cX6_now 72 = .ok (.getfield 149, 3) := by decide +kernel
theorem dX6_now_75 : decode cX6_now 75 = .ok (.ireturn, 1) := by decide +kernel
theorem dX6_now_76 : decode cX6_now 76 = .ok (.aload_n 0, 1) := by decide +kernel
theorem dX6_now_77 : decode cX6_now 77 = .ok (.getfield 29, 3) := by decide +kernel
theorem dX6_now_80 : decode cX6_now 80 = .ok (.getfield 177, 3) := by decide +kernel
theorem dX6_now_83 : decode cX6_now 83 = .ok (.ireturn, 1) := by decide +kernel
theorem dX6_now_84 : decode cX6_now 84 = .ok (.aload_n 0, 1) := by decide +kernel
theorem dX6_now_85 : decode cX6_now 85 = .ok (.getfield 29, 3) := by decide +kernel
theorem dX6_now_88 : decode cX6_now 88 = .ok (.getfield 180, 3) := by decide +kernel
theorem dX6_now_91 : decode cX6_now 91 = .ok (.ireturn, 1) := by decide +kernel
theorem dX6_now_92 : decode cX6_now 92 = .ok (.aload_n 0, 1) := by decide +kernel
theorem dX6_now_93 : decode cX6_now 93 = .ok (.getfield 29, 3) := by decide +kernel
theorem dX6_now_96 : decode cX6_now 96 = .ok (.getfield 158, 3) := by decide +kernel
theorem dX6_now_99 : decode cX6_now 99 = .ok (.ireturn, 1) := by decide +kernel
theorem dX6_now_100 : decode cX6_now 100 = .ok (.aload_n 0, 1) := by decide +kernel
theorem dX6_now_101 : decode cX6_now 101 = .ok (.getfield 19, 3) := by decide +kernel
theorem dX6_now_104 : decode cX6_now 104 = .ok (.aload_n 0, 1) := by decide +kernel
theorem dX6_now_105 : decode cX6_now 105 = .ok (.getfield 29, 3) := by decide +kernel
theorem dX6_now_108 : decode cX6_now 108 = .ok (.invokevirtual 161, 3) := by decide +kernel
theorem dX6_now_111 : decode cX6_now 111 = .ok (.ifCond .eq 7, 3) := by decide +kernel
theorem dX6_now_114 : decode cX6_now 114 = .ok (.iconst 1, 1) := by decide +kernel
theorem dX6_now_115 : decode cX6_now 115 = .ok (.goto 4, 3) := by decide +kernel
theorem dX6_now_118 : decode cX6_now 118 = .ok (.iconst 0, 1) := by decide +kernel
theorem dX6_now_119 : decode cX6_now 119 = .ok (.ireturn, 1) := by decide +kernel
theorem dX6_now_120 : decode cX6_now 120 = .ok (.aload_n 0, 1) := by decide +kernel
theorem dX6_now_121 : decode cX6_now 121 = .ok (.getfield 19, 3) := by decide +kernel
theorem dX6_now_124 : decode cX6_now 124 = .ok (.aload_n 0, 1) := by decide +kernel
theorem dX6_now_125 : decode cX6_now 125 = .ok (.getfield 29, 3) := by decide +kernel
theorem dX6_now_128 : decode cX6_now 128 = .ok (.invokevirtual 183, 3) := by decide +kernel
theorem dX6_now_131 : decode cX6_now 131 = .ok (.ifCond .eq 7, 3) := by decide +kernel
theorem dX6_now_134 : decode cX6_now 134 = .ok (.iconst 1, 1) := by decide +kernel
theorem dX6_now_135 : decode cX6_now 135 = .ok (.goto 4, 3) := by decide +kernel
theorem dX6_now_138 : decode cX6_now 138 = .ok (.iconst 0, 1) := by decide +kernel
theorem dX6_now_139 : decode cX6_now 139 = .ok (.ireturn, 1) := by decide +kernel
theorem dX6_now_140 : decode cX6_now 140 = .ok (.aload_n 0, 1) := by decide +kernel
theorem dX6_now_141 : decode cX6_now 141 = .ok (.getfield 29, 3) := by decide +kernel
theorem dX6_now_144 : decode cX6_now 144 = .ok (.getfield 165, 3) := by decide +kernel
theorem dX6_now_147 : decode cX6_now 147 = .ok (.ireturn, 1) := by decide +kernel
theorem dX6_now_148 : decode cX6_now 148 = .ok (.iconst (-1), 1) := by decide +kernel
theorem dX6_now_149 : decode cX6_now 149 = .ok (.ireturn, 1) := by decide +kernel
theorem dX6_safe_0 : decode cX6_safe 0 = .ok (.aload_n 0, 1) := by decide +kernel
theorem dX6_safe_1 : decode cX6_safe 1 = .ok (.getfield 29, 3) := by decide +kernel
theorem dX6_safe_4 : decode cX6_safe 4 = .ok (.invokevirtual 138, 3) := by decide +kernel
theorem dX6_safe_7 : decode cX6_safe 7 = .ok (.ifCond .eq 5, 3) := by decide +kernel
theorem dX6_safe_10 : decode cX6_safe 10 = .ok (.iconst 0, 1) := by decide +kernel
theorem dX6_safe_11 : decode cX6_safe 11 = .ok (.ireturn, 1) := by decide +kernel
theorem dX6_safe_12 : decode cX6_safe 12 = .ok (.iconst 0, 1) := by decide +kernel
theorem dX6_safe_13 : decode cX6_safe 13 = .ok (.istore_n 1, 1) := by decide +kernel
theorem dX6_safe_14 : decode cX6_safe 14 = .ok (.iconst 0, 1) := by decide +kernel
theorem dX6_safe_15 : decode cX6_safe 15 = .ok (.istore_n 2, 1) := by decide +kernel
theorem dX6_safe_16 : decode cX6_safe 16 = .ok (.iload_n 2, 1) := by decide +kernel
theorem dX6_safe_17 : decode cX6_safe 17 = .ok (.aload_n 0, 1) := by decide +kernel
theorem dX6_safe_18 : decode cX6_safe 18 = .ok (.getfield 19, 3) := by decide +kernel
theorem dX6_safe_21 : decode cX6_safe 21 = .ok (.getfield 97, 3) := by decide +kernel
theorem dX6_safe_24 : decode cX6_safe 24 = .ok (.if_icmp .ge 52, 3) := by decide +kernel
theorem dX6_safe_27 : decode cX6_safe 27 = .ok (.aload_n 0, 1) := by decide +kernel
theorem dX6_safe_28 : decode cX6_safe 28 = .ok (.getfield 33, 3) := by decide +kernel
theorem dX6_safe_31 : decode cX6_safe 31 = .ok (.aload_n 0, 1) := by decide +kernel
theorem dX6_safe_32 : decode cX6_safe 32 = .ok (.getfield 29, 3) := by decide +kernel
theorem dX6_safe_35 : decode cX6_safe 35 = .ok (.invokevirtual 93, 3) := by decide +kernel
theorem dX6_safe_38 : decode cX6_safe 38 = .ok (.aload_n 0, 1) := by decide +kernel
theorem dX6_safe_39 : decode cX6_safe 39 = .ok (.getfield 19, 3) := by decide +kernel
theorem dX6_safe_42 : decode cX6_safe 42 = .ok (.aload_n 0, 1) := by decide +kernel
theorem dX6_safe_43 : decode cX6_safe 43 = .ok (.getfield 33, 3) := by decide +kernel
theorem dX6_safe_46 : decode cX6_safe 46 = .ok (.iload_n 2, 1) := by decide +kernel
theorem dX6_safe_47 : decode cX6_safe 47 = .ok (.invokevirtual 145, 3) := by decide +kernel
theorem dX6_safe_50 : decode cX6_safe 50 = .ok (.aload_n 0, 1) := by decide +kernel
theorem dX6_safe_51 : decode cX6_safe 51 = .ok (.getfield 19, 3) := by decide +kernel
theorem dX6_safe_54 : decode cX6_safe 54 = .ok (.aload_n 0, 1) := by decide +kernel
theorem dX6_safe_55 : decode cX6_safe 55 = .ok (.getfield 33, 3) := by decide +kernel
theorem dX6_safe_58 : decode cX6_safe 58 = .ok (.invokevirtual 183, 3) := by decide +kernel
theorem dX6_safe_61 : decode cX6_safe 61 = .ok (.ifCond .ne 9, 3) := by decide +kernel
theorem dX6_safe_64 : decode cX6_safe 64 = .ok (.iload_n 1, 1) := by decide +kernel
theorem dX6_safe_65 : decode cX6_safe 65 = .ok (.iconst 1, 1) := by decide +kernel
theorem dX6_safe_66 : decode cX6_safe 66 = .ok (.iload_n 2, 1) := by decide +kernel
theorem dX6_safe_67 : decode cX6_safe 67 = .ok (.ishl, 1) := by decide +kernel
theorem dX6_safe_68 : decode cX6_safe 68 = .ok (.ior, 1) := by decide +kernel
theorem dX6_safe_69 : decode cX6_safe 69 = .ok (.istore_n 1, 1) := by decide +kernel
theorem dX6_safe_70 : decode cX6_safe 70 = .ok (.iinc 2 1, 3) := by decide +kernel
theorem dX6_safe_73 : decode cX6_safe 73 = .ok (.goto (-57), 3) := by decide +kernel
theorem dX6_safe_76 : decode cX6_safe 76 = .ok (.iload_n 1, 1) := by decide +kernel
theorem dX6_safe_77 : decode cX6_safe 77 = .ok (.ireturn, 1) := by decide +kernel
theorem dX6_way_0 : decode cX6_way 0 = .ok (.aload_n 0, 1) := by decide +kernel
theorem dX6_way_1 : decode cX6_way 1 = .ok (.getfield 19, 3) := by decide +kernel
theorem dX6_way_4 : decode cX6_way 4 = .ok (.iload_n 1, 1) := by decide +kernel
theorem dX6_way_5 : decode cX6_way 5 = .ok (.invokevirtual 129, 3) := by decide +kernel
theorem dX6_way_8 : decode cX6_way 8 = .ok (.ifCond .eq 14, 3) := by decide +kernel
theorem dX6_way_11 : decode cX6_way 11 = .ok (.iload_n 2, 1) := by decide +kernel
theorem dX6_way_12 : decode cX6_way 12 = .ok (.iconst (-1), 1) := by decide +kernel
theorem dX6_way_13 : decode cX6_way 13 = .ok (.if_icmp .lt 9, 3) := by decide +kernel
theorem dX6_way_16 : decode cX6_way 16 = .ok (.iload_n 2, 1) := by decide +kernel
theorem dX6_way_17 : decode cX6_way 17 = .ok (.bipush 6, 2) := by decide +kernel
theorem dX6_way_19 : decode cX6_way 19 = .ok (.if_icmp .lt 5, 3) := by decide +kernel
theorem dX6_way_22 : decode cX6_way 22 = .ok (.iconst (-1), 1) := by decide +kernel
theorem dX6_way_23 : decode cX6_way 23 = .ok (.ireturn, 1) := by decide +kernel
theorem dX6_way_24 : decode cX6_way 24 = .ok (.aload_n 0, 1) := by decide +kernel
theorem dX6_way_25 : decode cX6_way 25 = .ok (.getfield 63, 3) := by decide +kernel
theorem dX6_way_28 : decode cX6_way 28 = .ok (.aload_n 0, 1) := by decide +kernel
theorem dX6_way_29 : decode cX6_way 29 = .ok (.getfield 29, 3) := by decide +kernel
theorem dX6_way_32 : decode cX6_way 32 = .ok (.invokevirtual 186, 3) := by decide +kernel
theorem dX6_way_35 : decode cX6_way 35 = .ok (.iconst 0, 1) := by decide +kernel
theorem dX6_way_36 : decode cX6_way 36 = .ok (.istore_n 3, 1) := by decide +kernel
theorem dX6_way_37 : decode cX6_way 37 = .ok (.iload_n 3, 1) := by decide +kernel
theorem dX6_way_38 : decode cX6_way 38 = .ok (.bipush 6, 2) := by decide +kernel
theorem dX6_way_40 : decode cX6_way 40 = .ok (.if_icmp .gt 70, 3) := by decide +kernel
theorem dX6_way_43 : decode cX6_way 43 = .ok (.aload_n 0, 1) := by decide +kernel
theorem dX6_way_44 : decode cX6_way 44 = .ok (.getfield 63, 3) := by decide +kernel
theorem dX6_way_47 : decode cX6_way 47 = .ok (.aload_n 0, 1) := by decide +kernel
theorem dX6_way_48 : decode cX6_way 48 = .ok (.getfield 19, 3) := by decide +kernel
theorem dX6_way_51 : decode cX6_way 51 = .ok (.getfield 132, 3) := by decide +kernel
theorem dX6_way_54 : decode cX6_way 54 = .ok (.iload_n 1, 1) := by decide +kernel
theorem dX6_way_55 : decode cX6_way 55 = .ok (.iaload, 1) := by decide +kernel
theorem dX6_way_56 : decode cX6_way 56 = .ok (.aload_n 0, 1) := by decide +kernel
theorem dX6_way_57 : decode cX6_way 57 = .ok (.getfield 19, 3) := by decide +kernel
theorem dX6_way_60 : decode cX6_way 60 = .ok (.getfield 135, 3) := by decide +kernel
theorem dX6_way_63 : decode cX6_way 63 = .ok (.iload_n 1, 1) := by decide +kernel
theorem dX6_way_64 : decode cX6_way 64 = .ok (.iaload, 1) := by decide +kernel
theorem dX6_way_65 : decode cX6_way 65 = .ok (.invokevirtual 189, 3) := by decide +kernel
theorem dX6_way_68 : decode cX6_way 68 = .ok (.istore 4, 2) := by decide +kernel
theorem dX6_way_70 : decode cX6_way 70 = .ok (.iload 4, 2) := by decide +kernel
theorem dX6_way_72 : decode cX6_way 72 = .ok (.ifCond .lt 19, 3) := by decide +kernel
theorem dX6_way_75 : decode cX6_way 75 = .ok (.iload_n 2, 1) := by decide +kernel
theorem dX6_way_76 : decode cX6_way 76 = .ok (.ifCond .ge 7, 3) := by decide +kernel
theorem dX6_way_79 : decode cX6_way 79 = .ok (.iload_n 3, 1) := by decide +kernel
theorem dX6_way_80 : decode cX6_way 80 = .ok (.goto 10, 3) := by decide +kernel
theorem dX6_way_83 : decode cX6_way 83 = .ok (.iload 4, 2) := by decide +kernel
theorem dX6_way_85 : decode cX6_way 85 = .ok (.iload_n 3, 1) := by decide +kernel
theorem dX6_way_86 : decode cX6_way 86 = .ok (.iload_n 2, 1) := by decide +kernel
theorem dX6_way_87 : decode cX6_way 87 = .ok (.invokestatic 193, 3) := by decide +kernel
theorem dX6_way_90 : decode cX6_way 90 = .ok (.ireturn, 1) := by decide +kernel
theorem dX6_way_91 : decode cX6_way 91 = .ok (.iload_n 3, 1) := by decide +kernel
theorem dX6_way_92 : decode cX6_way 92 = .ok (.bipush 6, 2) := by decide +kernel
theorem dX6_way_94 : decode cX6_way 94 = .ok (.if_icmp .ge 10, 3) := by decide +kernel
theorem dX6_way_97 : decode cX6_way 97 = .ok (.aload_n 0, 1) := by decide +kernel
theorem dX6_way_98 : decode cX6_way 98 = .ok (.getfield 63, 3) := by decide +kernel
theorem dX6_way_101 : decode cX6_way 101 = .ok (.invokevirtual 197, 3) := by decide +kernel
theorem dX6_way_104 : decode cX6_way 104 = .ok (.iinc 3 1, 3) := by decide +kernel
theorem dX6_way_107 : decode cX6_way 107 = .ok (.goto (-70), 3) := by decide +kernel
theorem dX6_way_110 : decode cX6_way 110 = .ok (.bipush (-4), 2) := by decide +kernel
theorem dX6_way_112 : decode cX6_way 112 = .ok (.ireturn, 1) := by decide +kernel
theorem dX6_near_0 : decode cX6_near 0 = .ok (.iload_n 1, 1) := by decide +kernel
theorem dX6_near_1 : decode cX6_near 1 = .ok (.ifCond .lt 8, 3) := by decide +kernel
theorem dX6_near_4 : decode cX6_near 4 = .ok (.iload_n 1, 1) := by decide +kernel
theorem dX6_near_5 : decode cX6_near 5 = .ok (.iconst 5, 1) := by decide +kernel
theorem dX6_near_6 : decode cX6_near 6 = .ok (.if_icmp .le 5, 3) := by decide +kernel
theorem dX6_near_9 : decode cX6_near 9 = .ok (.iconst (-1), 1) := by decide +kernel
theorem dX6_near_10 : decode cX6_near 10 = .ok (.ireturn, 1) := by decide +kernel
theorem dX6_near_11 : decode cX6_near 11 = .ok (.aload_n 0, 1) := by decide +kernel
theorem dX6_near_12 : decode cX6_near 12 = .ok (.getfield 63, 3) := by decide +kernel
theorem dX6_near_15 : decode cX6_near 15 = .ok (.aload_n 0, 1) := by decide +kernel
theorem dX6_near_16 : decode cX6_near 16 = .ok (.getfield 29, 3) := by decide +kernel
theorem dX6_near_19 : decode cX6_near 19 = .ok (.invokevirtual 186, 3) := by decide +kernel
theorem dX6_near_22 : decode cX6_near 22 = .ok (.aload_n 0, 1) := by decide +kernel
theorem dX6_near_23 : decode cX6_near 23 = .ok (.getfield 63, 3) := by decide +kernel
theorem dX6_near_26 : decode cX6_near 26 = .ok (.invokevirtual 200, 3) := by decide +kernel
theorem dX6_near_29 : decode cX6_near 29 = .ok (.istore_n 2, 1) := by decide +kernel
theorem dX6_near_30 : decode cX6_near 30 = .ok (.iconst 0, 1) := by decide +kernel
theorem dX6_near_31 : decode cX6_near 31 = .ok (.istore_n 3, 1) := by decide +kernel
theorem dX6_near_32 : decode cX6_near 32 = .ok (.iload_n 3, 1) := by decide +kernel
theorem dX6_near_33 : decode cX6_near 33 = .ok (.iload_n 1, 1) := by decide +kernel
theorem dX6_near_34 : decode cX6_near 34 = .ok (.if_icmp .ge 26, 3) := by decide +kernel
theorem dX6_near_37 : decode cX6_near 37 = .ok (.aload_n 0, 1) := by decide +kernel
theorem dX6_near_38 : decode cX6_near 38 = .ok (.getfield 63, 3) := by decide +kernel
theorem dX6_near_41 : decode cX6_near 41 = .ok (.invokevirtual 197, 3) := by decide +kernel
theorem dX6_near_44 : decode cX6_near 44 = .ok (.iload_n 2, 1) := by decide +kernel
theorem dX6_near_45 : decode cX6_near 45 = .ok (.aload_n 0, 1) := by decide +kernel
theorem dX6_near_46 : decode cX6_near 46 = .ok (.getfield 63, 3) := by decide +kernel
theorem dX6_near_49 : decode cX6_near 49 = .ok (.invokevirtual 200, 3) := by decide +kernel
theorem dX6_near_52 : decode cX6_near 52 = .ok (.ior, 1) := by decide +kernel
theorem dX6_near_53 : decode cX6_near 53 = .ok (.istore_n 2, 1) := by decide +kernel
theorem dX6_near_54 : decode cX6_near 54 = .ok (.iinc 3 1, 3) := by decide +kernel
theorem dX6_near_57 : decode cX6_near 57 = .ok (.goto (-25), 3) := by decide +kernel
theorem dX6_near_60 : decode cX6_near 60 = .ok (.iload_n 2, 1) := by decide +kernel
theorem dX6_near_61 : decode cX6_near 61 = .ok (.ireturn, 1) := by decide +kernel
theorem dX6_undoes_0 : decode cX6_undoes 0 = .ok (.aload_n 0, 1) := by decide +kernel
theorem dX6_undoes_1 : decode cX6_undoes 1 = .ok (.getfield 19, 3) := by decide +kernel
theorem dX6_undoes_4 : decode cX6_undoes 4 = .ok (.iload_n 1, 1) := by decide +kernel
theorem dX6_undoes_5 : decode cX6_undoes 5 = .ok (.invokevirtual 104, 3) := by decide +kernel
theorem dX6_undoes_8 : decode cX6_undoes 8 = .ok (.ifCond .ne 5, 3) := by decide +kernel
theorem dX6_undoes_11 : decode cX6_undoes 11 = .ok (.iconst (-1), 1) := by decide +kernel
theorem dX6_undoes_12 : decode cX6_undoes 12 = .ok (.ireturn, 1) := by decide +kernel
theorem dX6_undoes_13 : decode cX6_undoes 13 = .ok (.iconst 0, 1) := by decide +kernel
theorem dX6_undoes_14 : decode cX6_undoes 14 = .ok (.istore_n 2, 1) := by decide +kernel
theorem dX6_undoes_15 : decode cX6_undoes 15 = .ok (.iconst 0, 1) := by decide +kernel
theorem dX6_undoes_16 : decode cX6_undoes 16 = .ok (.istore_n 3, 1) := by decide +kernel
theorem dX6_undoes_17 : decode cX6_undoes 17 = .ok (.iload_n 3, 1) := by decide +kernel
theorem dX6_undoes_18 : decode cX6_undoes 18 = .ok (.aload_n 0, 1) := by decide +kernel
theorem dX6_undoes_19 : decode cX6_undoes 19 = .ok (.getfield 19, 3) := by decide +kernel
theorem dX6_undoes_22 : decode cX6_undoes 22 = .ok (.getfield 97, 3) := by decide +kernel
theorem dX6_undoes_25 : decode cX6_undoes 25 = .ok (.if_icmp .ge 73, 3) := by decide +kernel
theorem dX6_undoes_28 : decode cX6_undoes 28 = .ok (.aload_n 0, 1) := by decide +kernel
theorem dX6_undoes_29 : decode cX6_undoes 29 = .ok (.getfield 33, 3) := by decide +kernel
theorem dX6_undoes_32 : decode cX6_undoes 32 = .ok (.aload_n 0, 1) := by decide +kernel
theorem dX6_undoes_33 : decode cX6_undoes 33 = .ok (.getfield 29, 3) := by decide +kernel
theorem dX6_undoes_36 : decode cX6_undoes 36 = .ok (.invokevirtual 93, 3) := by decide +kernel
theorem dX6_undoes_39 : decode cX6_undoes 39 = .ok (.aload_n 0, 1) := by decide +kernel
theorem dX6_undoes_40 : decode cX6_undoes 40 = .ok (.aload_n 0, 1) := by decide +kernel
theorem dX6_undoes_41 : decode cX6_undoes 41 = .ok (.getfield 33, 3) := by decide +kernel
theorem dX6_undoes_44 : decode cX6_undoes 44 = .ok (.iload_n 1, 1) := by decide +kernel
theorem dX6_undoes_45 : decode cX6_undoes 45 = .ok (.iload_n 3, 1) := by decide +kernel
theorem dX6_undoes_46 : decode cX6_undoes 46 = .ok (.invokevirtual 203, 3) := by decide +kernel
theorem dX6_undoes_49 : decode cX6_undoes 49 = .ok (.ifCond .eq 43, 3) := by decide +kernel
theorem dX6_undoes_52 : decode cX6_undoes 52 = .ok (.aload_n 0, 1) := by decide +kernel
theorem dX6_undoes_53 : decode cX6_undoes 53 = .ok (.getfield 33, 3) := by decide +kernel
theorem dX6_undoes_56 : decode cX6_undoes 56 = .ok (.getfield 149, 3) := by decide +kernel
theorem dX6_undoes_59 : decode cX6_undoes 59 = .ok (.aload_n 0, 1) := by decide +kernel
theorem dX6_undoes_60 : decode cX6_undoes 60 = .ok (.getfield 29, 3) := by decide +kernel
theorem dX6_undoes_63 : decode cX6_undoes 63 = .ok (.getfield 149, 3) := by decide +kernel
theorem dX6_undoes_66 : decode cX6_undoes 66 = .ok (.if_icmp .ne 26, 3) := by decide +kernel
theorem dX6_undoes_69 : decode cX6_undoes 69 = .ok (.aload_n 0, 1) := by decide +kernel
theorem dX6_undoes_70 : decode cX6_undoes 70 = .ok (.getfield 33, 3) := by decide +kernel
theorem dX6_undoes_73 : decode cX6_undoes 73 = .ok (.getfield 177, 3) := by decide +kernel
theorem dX6_undoes_76 : decode cX6_undoes 76 = .ok (.aload_n 0, 1) := by decide +kernel
theorem dX6_undoes_77 : decode cX6_undoes 77 = .ok (.getfield 29, 3) := by decide +kernel
theorem dX6_undoes_80 : decode cX6_undoes 80 = .ok (.getfield 177, 3) := by decide +kernel
theorem dX6_undoes_83 : decode cX6_undoes 83 = .ok (.if_icmp .ne 9, 3) := by decide +kernel
theorem dX6_undoes_86 : decode cX6_undoes 86 = .ok (.iload_n 2, 1) := by decide +kernel
theorem dX6_undoes_87 : decode cX6_undoes 87 = .ok (.iconst 1, 1) := by decide +kernel
theorem dX6_undoes_88 : decode cX6_undoes 88 = .ok (.iload_n 3, 1) := by decide +kernel
theorem dX6_undoes_89 : decode cX6_undoes 89 = .ok (.ishl, 1) := by decide +kernel
theorem dX6_undoes_90 : decode cX6_undoes 90 = .ok (.ior, 1) := by decide +kernel
theorem dX6_undoes_91 : decode cX6_undoes 91 = .ok (.istore_n 2, 1) := by decide +kernel
theorem dX6_undoes_92 : decode cX6_undoes 92 = .ok (.iinc 3 1, 3) := by decide +kernel
theorem dX6_undoes_95 : decode cX6_undoes 95 = .ok (.goto (-78), 3) := by decide +kernel
theorem dX6_undoes_98 : decode cX6_undoes 98 = .ok (.iload_n 2, 1) := by decide +kernel
theorem dX6_undoes_99 : decode cX6_undoes 99 = .ok (.ireturn, 1) := by decide +kernel
theorem dX6_either_0 : decode cX6_either 0 = .ok (.aload_n 0, 1) := by decide +kernel
theorem dX6_either_1 : decode cX6_either 1 = .ok (.getfield 19, 3) := by decide +kernel
theorem dX6_either_4 : decode cX6_either 4 = .ok (.iload_n 1, 1) := by decide +kernel
theorem dX6_either_5 : decode cX6_either 5 = .ok (.invokevirtual 104, 3) := by decide +kernel
theorem dX6_either_8 : decode cX6_either 8 = .ok (.ifCond .eq 14, 3) := by decide +kernel
theorem dX6_either_11 : decode cX6_either 11 = .ok (.aload_n 0, 1) := by decide +kernel
theorem dX6_either_12 : decode cX6_either 12 = .ok (.getfield 19, 3) := by decide +kernel
theorem dX6_either_15 : decode cX6_either 15 = .ok (.iload_n 2, 1) := by decide +kernel
theorem dX6_either_16 : decode cX6_either 16 = .ok (.invokevirtual 104, 3) := by decide +kernel
theorem dX6_either_19 : decode cX6_either 19 = .ok (.ifCond .ne 5, 3) := by decide +kernel
theorem dX6_either_22 : decode cX6_either 22 = .ok (.iconst (-1), 1) := by decide +kernel
theorem dX6_either_23 : decode cX6_either 23 = .ok (.ireturn, 1) := by decide +kernel
theorem dX6_either_24 : decode cX6_either 24 = .ok (.aload_n 0, 1) := by decide +kernel
theorem dX6_either_25 : decode cX6_either 25 = .ok (.getfield 33, 3) := by decide +kernel
theorem dX6_either_28 : decode cX6_either 28 = .ok (.aload_n 0, 1) := by decide +kernel
theorem dX6_either_29 : decode cX6_either 29 = .ok (.getfield 29, 3) := by decide +kernel
theorem dX6_either_32 : decode cX6_either 32 = .ok (.invokevirtual 93, 3) := by decide +kernel
theorem dX6_either_35 : decode cX6_either 35 = .ok (.aload_n 0, 1) := by decide +kernel
theorem dX6_either_36 : decode cX6_either 36 = .ok (.getfield 36, 3) := by decide +kernel
theorem dX6_either_39 : decode cX6_either 39 = .ok (.aload_n 0, 1) := by decide +kernel
theorem dX6_either_40 : decode cX6_either 40 = .ok (.getfield 29, 3) := by decide +kernel
theorem dX6_either_43 : decode cX6_either 43 = .ok (.invokevirtual 93, 3) := by decide +kernel
theorem dX6_either_46 : decode cX6_either 46 = .ok (.aload_n 0, 1) := by decide +kernel
theorem dX6_either_47 : decode cX6_either 47 = .ok (.aload_n 0, 1) := by decide +kernel
theorem dX6_either_48 : decode cX6_either 48 = .ok (.getfield 33, 3) := by decide +kernel
theorem dX6_either_51 : decode cX6_either 51 = .ok (.iload_n 1, 1) := by decide +kernel
theorem dX6_either_52 : decode cX6_either 52 = .ok (.iload_n 2, 1) := by decide +kernel
theorem dX6_either_53 : decode cX6_either 53 = .ok (.invokevirtual 203, 3) := by decide +kernel
theorem dX6_either_56 : decode cX6_either 56 = .ok (.ifCond .eq 34, 3) := by decide +kernel
theorem dX6_either_59 : decode cX6_either 59 = .ok (.aload_n 0, 1) := by decide +kernel
theorem dX6_either_60 : decode cX6_either 60 = .ok (.aload_n 0, 1) := by decide +kernel
theorem dX6_either_61 : decode cX6_either 61 = .ok (.getfield 36, 3) := by decide +kernel
theorem dX6_either_64 : decode cX6_either 64 = .ok (.iload_n 2, 1) := by decide +kernel
theorem dX6_either_65 : decode cX6_either 65 = .ok (.iload_n 1, 1) := by decide +kernel
theorem dX6_either_66 : decode cX6_either 66 = .ok (.invokevirtual 203, 3) := by decide +kernel
theorem dX6_either_69 : decode cX6_either 69 = .ok (.ifCond .eq 21, 3) := by decide +kernel
theorem dX6_either_72 : decode cX6_either 72 = .ok (.aload_n 0, 1) := by decide +kernel
theorem dX6_either_73 : decode cX6_either 73 = .ok (.getfield 33, 3) := by decide +kernel
theorem dX6_either_76 : decode cX6_either 76 = .ok (.aload_n 0, 1) := by decide +kernel
theorem dX6_either_77 : decode cX6_either 77 = .ok (.getfield 36, 3) := by decide +kernel
theorem dX6_either_80 : decode cX6_either 80 = .ok (.invokevirtual 207, 3) := by decide +kernel
theorem dX6_either_83 : decode cX6_either 83 = .ok (.ifCond .eq 7, 3) := by decide +kernel
theorem dX6_either_86 : decode cX6_either 86 = .ok (.iconst 1, 1) := by decide +kernel
theorem dX6_either_87 : decode cX6_either 87 = .ok (.goto 4, 3) := by decide +kernel
theorem dX6_either_90 : decode cX6_either 90 = .ok (.iconst 0, 1) := by decide +kernel
theorem dX6_either_91 : decode cX6_either 91 = .ok (.ireturn, 1) := by decide +kernel
theorem dX6_drift_0 : decode cX6_drift 0 = .ok (.iload_n 1, 1) := by decide +kernel
theorem dX6_drift_1 : decode cX6_drift 1 = .ok (.iconst 1, 1) := by decide +kernel
theorem dX6_drift_2 : decode cX6_drift 2 = .ok (.if_icmp .lt 9, 3) := by decide +kernel
theorem dX6_drift_5 : decode cX6_drift 5 = .ok (.iload_n 1, 1) := by decide +kernel
theorem dX6_drift_6 : decode cX6_drift 6 = .ok (.bipush 20, 2) := by decide +kernel
theorem dX6_drift_8 : decode cX6_drift 8 = .ok (.if_icmp .le 5, 3) := by decide +kernel
theorem dX6_drift_11 : decode cX6_drift 11 = .ok (.iconst (-1), 1) := by decide +kernel
theorem dX6_drift_12 : decode cX6_drift 12 = .ok (.ireturn, 1) := by decide +kernel
theorem dX6_drift_13 : decode cX6_drift 13 = .ok (.aload_n 0, 1) := by decide +kernel
theorem dX6_drift_14 : decode cX6_drift 14 = .ok (.getfield 29, 3) := by decide +kernel
theorem dX6_drift_17 : decode cX6_drift 17 = .ok (.invokevirtual 138, 3) := by decide +kernel
theorem dX6_drift_20 : decode cX6_drift 20 = .ok (.ifCond .eq 6, 3) := by decide +kernel
theorem dX6_drift_23 : decode cX6_drift 23 = .ok (.bipush (-2), 2) := by decide +kernel
theorem dX6_drift_25 : decode cX6_drift 25 = .ok (.ireturn, 1) := by decide +kernel
theorem dX6_drift_26 : decode cX6_drift 26 = .ok (.aload_n 0, 1) := by decide +kernel
theorem dX6_drift_27 : decode cX6_drift 27 = .ok (.getfield 33, 3) := by decide +kernel
theorem dX6_drift_30 : decode cX6_drift 30 = .ok (.aload_n 0, 1) := by decide +kernel
theorem dX6_drift_31 : decode cX6_drift 31 = .ok (.getfield 29, 3) := by decide +kernel
theorem dX6_drift_34 : decode cX6_drift 34 = .ok (.invokevirtual 93, 3) := by decide +kernel
theorem dX6_drift_37 : decode cX6_drift 37 = .ok (.iconst 0, 1) := by decide +kernel
theorem dX6_drift_38 : decode cX6_drift 38 = .ok (.istore_n 2, 1) := by decide +kernel
theorem dX6_drift_39 : decode cX6_drift 39 = .ok (.iload_n 2, 1) := by decide +kernel
theorem dX6_drift_40 : decode cX6_drift 40 = .ok (.iload_n 1, 1) := by decide +kernel
theorem dX6_drift_41 : decode cX6_drift 41 = .ok (.if_icmp .ge 20, 3) := by decide +kernel
theorem dX6_drift_44 : decode cX6_drift 44 = .ok (.aload_n 0, 1) := by decide +kernel
theorem dX6_drift_45 : decode cX6_drift 45 = .ok (.getfield 19, 3) := by decide +kernel
theorem dX6_drift_48 : decode cX6_drift 48 = .ok (.aload_n 0, 1) := by decide +kernel
theorem dX6_drift_49 : decode cX6_drift 49 = .ok (.getfield 33, 3) := by decide +kernel
theorem dX6_drift_52 : decode cX6_drift 52 = .ok (.invokevirtual 152, 3) := by decide +kernel
theorem dX6_drift_55 : decode cX6_drift 55 = .ok (.iinc 2 1, 3) := by decide +kernel
theorem dX6_drift_58 : decode cX6_drift 58 = .ok (.goto (-19), 3) := by decide +kernel
theorem dX6_drift_61 : decode cX6_drift 61 = .ok (.aload_n 0, 1) := by decide +kernel
theorem dX6_drift_62 : decode cX6_drift 62 = .ok (.getfield 33, 3) := by decide +kernel
theorem dX6_drift_65 : decode cX6_drift 65 = .ok (.invokevirtual 155, 3) := by decide +kernel
theorem dX6_drift_68 : decode cX6_drift 68 = .ok (.ireturn, 1) := by decide +kernel
theorem dX6_seen_0 : decode cX6_seen 0 = .ok (.aload_n 0, 1) := by decide +kernel
theorem dX6_seen_1 : decode cX6_seen 1 = .ok (.getfield 19, 3) := by decide +kernel
theorem dX6_seen_4 : decode cX6_seen 4 = .ok (.iload_n 1, 1) := by decide +kernel
theorem dX6_seen_5 : decode cX6_seen 5 = .ok (.invokevirtual 104, 3) := by decide +kernel
theorem dX6_seen_8 : decode cX6_seen 8 = .ok (.ifCond .eq 22, 3) := by decide +kernel
theorem dX6_seen_11 : decode cX6_seen 11 = .ok (.iload_n 2, 1) := by decide +kernel
theorem dX6_seen_12 : decode cX6_seen 12 = .ok (.ifCond .lt 18, 3) := by decide +kernel
theorem dX6_seen_15 : decode cX6_seen 15 = .ok (.iload_n 2, 1) := by decide +kernel
theorem dX6_seen_16 : decode cX6_seen 16 = .ok (.iconst 3, 1) := by decide +kernel
theorem dX6_seen_17 : decode cX6_seen 17 = .ok (.if_icmp .gt 13, 3) := by decide +kernel
theorem dX6_seen_20 : decode cX6_seen 20 = .ok (.iload_n 3, 1) := by decide +kernel
theorem dX6_seen_21 : decode cX6_seen 21 = .ok (.ifCond .lt 9, 3) := by decide +kernel
theorem dX6_seen_24 : decode cX6_seen 24 = .ok (.iload_n 3, 1) := by decide +kernel
theorem dX6_seen_25 : decode cX6_seen 25 = .ok (.bipush 36, 2) := by decide +kernel
theorem dX6_seen_27 : decode cX6_seen 27 = .ok (.if_icmp .le 5, 3) := by decide +kernel
theorem dX6_seen_30 : decode cX6_seen 30 = .ok (.iconst (-1), 1) := by decide +kernel
theorem dX6_seen_31 : decode cX6_seen 31 = .ok (.ireturn, 1) := by decide +kernel
theorem dX6_seen_32 : decode cX6_seen 32 = .ok (.aload_n 0, 1) := by decide +kernel
theorem dX6_seen_33 : decode cX6_seen 33 = .ok (.getfield 54, 3) := by decide +kernel
theorem dX6_seen_36 : decode cX6_seen 36 = .ok (.iload_n 1, 1) := by decide +kernel
theorem dX6_seen_37 : decode cX6_seen 37 = .ok (.iload_n 2, 1) := by decide +kernel
theorem dX6_seen_38 : decode cX6_seen 38 = .ok (.iload_n 3, 1) := by decide +kernel
theorem dX6_seen_39 : decode cX6_seen 39 = .ok (.bipush 18, 2) := by decide +kernel
theorem dX6_seen_41 : decode cX6_seen 41 = .ok (.isub, 1) := by decide +kernel
theorem dX6_seen_42 : decode cX6_seen 42 = .ok (.invokevirtual 210, 3) := by decide +kernel
theorem dX6_seen_45 : decode cX6_seen 45 = .ok (.ifCond .eq 13, 3) := by decide +kernel
theorem dX6_seen_48 : decode cX6_seen 48 = .ok (.aload_n 0, 1) := by decide +kernel
theorem dX6_seen_49 : decode cX6_seen 49 = .ok (.getfield 54, 3) := by decide +kernel
theorem dX6_seen_52 : decode cX6_seen 52 = .ok (.getfield 103, 3) := by decide +kernel
theorem dX6_seen_55 : decode cX6_seen 55 = .ok (.goto 5, 3) := by decide +kernel
theorem dX6_seen_58 : decode cX6_seen 58 = .ok (.bipush (-3), 2) := by decide +kernel
theorem dX6_seen_60 : decode cX6_seen 60 = .ok (.ireturn, 1) := by decide +kernel
theorem dX6_forget_0 : decode cX6_forget 0 = .ok (.aload_n 0, 1) := by decide +kernel
theorem dX6_forget_1 : decode cX6_forget 1 = .ok (.getfield 54, 3) := by decide +kernel
theorem dX6_forget_4 : decode cX6_forget 4 = .ok (.getfield 103, 3) := by decide +kernel
theorem dX6_forget_7 : decode cX6_forget 7 = .ok (.istore_n 1, 1) := by decide +kernel
theorem dX6_forget_8 : decode cX6_forget 8 = .ok (.aload_n 0, 1) := by decide +kernel
theorem dX6_forget_9 : decode cX6_forget 9 = .ok (.getfield 54, 3) := by decide +kernel
theorem dX6_forget_12 : decode cX6_forget 12 = .ok (.iconst 0, 1) := by decide +kernel
theorem dX6_forget_13 : decode cX6_forget 13 = .ok (.putfield 103, 3) := by decide +kernel
theorem dX6_forget_16 : decode cX6_forget 16 = .ok (.iload_n 1, 1) := by decide +kernel
theorem dX6_forget_17 : decode cX6_forget 17 = .ok (.ireturn, 1) := by decide +kernel
theorem dX6_may_0 : decode cX6_may 0 = .ok (.aload_n 0, 1) := by decide +kernel
theorem dX6_may_1 : decode cX6_may 1 = .ok (.getfield 19, 3) := by decide +kernel
theorem dX6_may_4 : decode cX6_may 4 = .ok (.iload_n 1, 1) := by decide +kernel
theorem dX6_may_5 : decode cX6_may 5 = .ok (.invokevirtual 104, 3) := by decide +kernel
theorem dX6_may_8 : decode cX6_may 8 = .ok (.ifCond .eq 12, 3) := by decide +kernel
theorem dX6_may_11 : decode cX6_may 11 = .ok (.iload_n 2, 1) := by decide +kernel
theorem dX6_may_12 : decode cX6_may 12 = .ok (.ifCond .lt 8, 3) := by decide +kernel
theorem dX6_may_15 : decode cX6_may 15 = .ok (.iload_n 2, 1) := by decide +kernel
theorem dX6_may_16 : decode cX6_may 16 = .ok (.iconst 1, 1) := by decide +kernel
theorem dX6_may_17 : decode cX6_may 17 = .ok (.if_icmp .le 5, 3) := by decide +kernel
theorem dX6_may_20 : decode cX6_may 20 = .ok (.iconst (-1), 1) := by decide +kernel
theorem dX6_may_21 : decode cX6_may 21 = .ok (.ireturn, 1) := by decide +kernel
theorem dX6_may_22 : decode cX6_may 22 = .ok (.iconst 0, 1) := by decide +kernel
theorem dX6_may_23 : decode cX6_may 23 = .ok (.istore_n 3, 1) := by decide +kernel
theorem dX6_may_24 : decode cX6_may 24 = .ok (.iconst 0, 1) := by decide +kernel
theorem dX6_may_25 : decode cX6_may 25 = .ok (.istore 4, 2) := by decide +kernel
theorem dX6_may_27 : decode cX6_may 27 = .ok (.iload 4, 2) := by decide +kernel
theorem dX6_may_29 : decode cX6_may 29 = .ok (.iload_n 2, 1) := by decide +kernel
theorem dX6_may_30 : decode cX6_may 30 = .ok (.ifCond .ne 7, 3) := by decide +kernel
theorem dX6_may_33 : decode cX6_may 33 = .ok (.iconst 4, 1) := by decide +kernel
theorem dX6_may_34 : decode cX6_may 34 = .ok (.goto 5, 3) := by decide +kernel
theorem dX6_may_37 : decode cX6_may 37 = .ok (.bipush 10, 2) := by decide +kernel
theorem dX6_may_39 : decode cX6_may 39 = .ok (.if_icmp .ge 71, 3) := by decide +kernel
theorem dX6_may_42 : decode cX6_may 42 = .ok (.iload_n 2, 1) := by decide +kernel
theorem dX6_may_43 : decode cX6_may 43 = .ok (.ifCond .ne 8, 3) := by decide +kernel
theorem dX6_may_46 : decode cX6_may 46 = .ok (.iload 4, 2) := by decide +kernel
theorem dX6_may_48 : decode cX6_may 48 = .ok (.goto 12, 3) := by decide +kernel
theorem dX6_may_51 : decode cX6_may 51 = .ok (.aload_n 0, 1) := by decide +kernel
theorem dX6_may_52 : decode cX6_may 52 = .ok (.getfield 19, 3) := by decide +kernel
theorem dX6_may_55 : decode cX6_may 55 = .ok (.getfield 108, 3) := by decide +kernel
theorem dX6_may_58 : decode cX6_may 58 = .ok (.iload_n 1, 1) := by decide +kernel
theorem dX6_may_59 : decode cX6_may 59 = .ok (.iaload, 1) := by decide +kernel
theorem dX6_may_60 : decode cX6_may 60 = .ok (.istore 5, 2) := by decide +kernel
theorem dX6_may_62 : decode cX6_may 62 = .ok (.iload_n 2, 1) := by decide +kernel
theorem dX6_may_63 : decode cX6_may 63 = .ok (.ifCond .ne 15, 3) := by decide +kernel
theorem dX6_may_66 : decode cX6_may 66 = .ok (.aload_n 0, 1) := by decide +kernel
theorem dX6_may_67 : decode cX6_may 67 = .ok (.getfield 19, 3) := by decide +kernel
theorem dX6_may_70 : decode cX6_may 70 = .ok (.getfield 112, 3) := by decide +kernel
theorem dX6_may_73 : decode cX6_may 73 = .ok (.iload_n 1, 1) := by decide +kernel
theorem dX6_may_74 : decode cX6_may 74 = .ok (.iaload, 1) := by decide +kernel
theorem dX6_may_75 : decode cX6_may 75 = .ok (.goto 5, 3) := by decide +kernel
theorem dX6_may_78 : decode cX6_may 78 = .ok (.iload 4, 2) := by decide +kernel
theorem dX6_may_80 : decode cX6_may 80 = .ok (.istore 6, 2) := by decide +kernel
theorem dX6_may_82 : decode cX6_may 82 = .ok (.aload_n 0, 1) := by decide +kernel
theorem dX6_may_83 : decode cX6_may 83 = .ok (.getfield 54, 3) := by decide +kernel
theorem dX6_may_86 : decode cX6_may 86 = .ok (.iload_n 1, 1) := by decide +kernel
theorem dX6_may_87 : decode cX6_may 87 = .ok (.iload 5, 2) := by decide +kernel
theorem dX6_may_89 : decode cX6_may 89 = .ok (.iload 6, 2) := by decide +kernel
theorem dX6_may_91 : decode cX6_may 91 = .ok (.invokevirtual 213, 3) := by decide +kernel
theorem dX6_may_94 : decode cX6_may 94 = .ok (.ifCond .eq 10, 3) := by decide +kernel
theorem dX6_may_97 : decode cX6_may 97 = .ok (.iload_n 3, 1) := by decide +kernel
theorem dX6_may_98 : decode cX6_may 98 = .ok (.iconst 1, 1) := by decide +kernel
theorem dX6_may_99 : decode cX6_may 99 = .ok (.iload 4, 2) := by decide +kernel
theorem dX6_may_101 : decode cX6_may 101 = .ok (.ishl, 1) := by decide +kernel
theorem dX6_may_102 : decode cX6_may 102 = .ok (.ior, 1) := by decide +kernel
theorem dX6_may_103 : decode cX6_may 103 = .ok (.istore_n 3, 1) := by decide +kernel
theorem dX6_may_104 : decode cX6_may 104 = .ok (.iinc 4 1, 3) := by decide +kernel
theorem dX6_may_107 : decode cX6_may 107 = .ok (.goto (-80), 3) := by decide +kernel
theorem dX6_may_110 : decode cX6_may 110 = .ok (.iload_n 3, 1) := by decide +kernel
theorem dX6_may_111 : decode cX6_may 111 = .ok (.ireturn, 1) := by decide +kernel
theorem dX6_which_0 : decode cX6_which 0 = .ok (.iload_n 1, 1) := by decide +kernel
theorem dX6_which_1 : decode cX6_which 1 = .ok (.ifCond .lt 29, 3) := by decide +kernel
theorem dX6_which_4 : decode cX6_which 4 = .ok (.iload_n 1, 1) := by decide +kernel
theorem dX6_which_5 : decode cX6_which 5 = .ok (.bipush 9, 2) := by decide +kernel
theorem dX6_which_7 : decode cX6_which 7 = .ok (.if_icmp .gt 23, 3) := by decide +kernel
theorem dX6_which_10 : decode cX6_which 10 = .ok (.iload_n 2, 1) := by decide +kernel
theorem dX6_which_11 : decode cX6_which 11 = .ok (.ifCond .lt 19, 3) := by decide +kernel
theorem dX6_which_14 : decode cX6_which 14 = .ok (.iload_n 2, 1) := by decide +kernel
theorem dX6_which_15 : decode cX6_which 15 = .ok (.bipush 9, 2) := by decide +kernel
theorem dX6_which_17 : decode cX6_which 17 = .ok (.if_icmp .gt 13, 3) := by decide +kernel
theorem dX6_which_20 : decode cX6_which 20 = .ok (.iload_n 3, 1) := by decide +kernel
theorem dX6_which_21 : decode cX6_which 21 = .ok (.ifCond .lt 9, 3) := by decide +kernel
theorem dX6_which_24 : decode cX6_which 24 = .ok (.iload_n 3, 1) := by decide +kernel
theorem dX6_which_25 : decode cX6_which 25 = .ok (.bipush 9, 2) := by decide +kernel
theorem dX6_which_27 : decode cX6_which 27 = .ok (.if_icmp .le 5, 3) := by decide +kernel
theorem dX6_which_30 : decode cX6_which 30 = .ok (.iconst (-1), 1) := by decide +kernel
theorem dX6_which_31 : decode cX6_which 31 = .ok (.ireturn, 1) := by decide +kernel
theorem dX6_which_32 : decode cX6_which 32 = .ok (.iconst 0, 1) := by decide +kernel
theorem dX6_which_33 : decode cX6_which 33 = .ok (.istore 4, 2) := by decide +kernel
theorem dX6_which_35 : decode cX6_which 35 = .ok (.iconst 0, 1) := by decide +kernel
theorem dX6_which_36 : decode cX6_which 36 = .ok (.istore 5, 2) := by decide +kernel
theorem dX6_which_38 : decode cX6_which 38 = .ok (.iload 5, 2) := by decide +kernel
theorem dX6_which_40 : decode cX6_which 40 = .ok (.aload_n 0, 1) := by decide +kernel
theorem dX6_which_41 : decode cX6_which 41 = .ok (.getfield 19, 3) := by decide +kernel
theorem dX6_which_44 : decode cX6_which 44 = .ok (.getfield 97, 3) := by decide +kernel
theorem dX6_which_47 : decode cX6_which 47 = .ok (.if_icmp .ge 78, 3) := by decide +kernel
theorem dX6_which_50 : decode cX6_which 50 = .ok (.aload_n 0, 1) := by decide +kernel
theorem dX6_which_51 : decode cX6_which 51 = .ok (.getfield 33, 3) := by decide +kernel
theorem dX6_which_54 : decode cX6_which 54 = .ok (.aload_n 0, 1) := by decide +kernel
theorem dX6_which_55 : decode cX6_which 55 = .ok (.getfield 19, 3) := by decide +kernel
theorem dX6_which_58 : decode cX6_which 58 = .ok (.getfield 90, 3) := by decide +kernel
theorem dX6_which_61 : decode cX6_which 61 = .ok (.invokevirtual 93, 3) := by decide +kernel
theorem dX6_which_64 : decode cX6_which 64 = .ok (.aload_n 0, 1) := by decide +kernel
theorem dX6_which_65 : decode cX6_which 65 = .ok (.getfield 19, 3) := by decide +kernel
theorem dX6_which_68 : decode cX6_which 68 = .ok (.aload_n 0, 1) := by decide +kernel
theorem dX6_which_69 : decode cX6_which 69 = .ok (.getfield 33, 3) := by decide +kernel
theorem dX6_which_72 : decode cX6_which 72 = .ok (.iload 5, 2) := by decide +kernel
theorem dX6_which_74 : decode cX6_which 74 = .ok (.invokevirtual 145, 3) := by decide +kernel
theorem dX6_which_77 : decode cX6_which 77 = .ok (.aload_n 0, 1) := by decide +kernel
theorem dX6_which_78 : decode cX6_which 78 = .ok (.getfield 33, 3) := by decide +kernel
theorem dX6_which_81 : decode cX6_which 81 = .ok (.getfield 171, 3) := by decide +kernel
theorem dX6_which_84 : decode cX6_which 84 = .ok (.iload_n 1, 1) := by decide +kernel
theorem dX6_which_85 : decode cX6_which 85 = .ok (.if_icmp .ne 34, 3) := by decide +kernel
theorem dX6_which_88 : decode cX6_which 88 = .ok (.aload_n 0, 1) := by decide +kernel
theorem dX6_which_89 : decode cX6_which 89 = .ok (.getfield 33, 3) := by decide +kernel
theorem dX6_which_92 : decode cX6_which 92 = .ok (.getfield 174, 3) := by decide +kernel
theorem dX6_which_95 : decode cX6_which 95 = .ok (.iload_n 2, 1) := by decide +kernel
theorem dX6_which_96 : decode cX6_which 96 = .ok (.if_icmp .ne 23, 3) := by decide +kernel
theorem dX6_which_99 : decode cX6_which 99 = .ok (.aload_n 0, 1) := by decide +kernel
theorem dX6_which_100 : decode cX6_which 100 = .ok (.getfield 33, 3) := by decide +kernel
theorem dX6_which_103 : decode cX6_which 103 = .ok (.getfield 149, 3) := by decide +kernel
theorem dX6_which_106 : decode cX6_which 106 = .ok (.iload_n 3, 1) := by decide +kernel
theorem dX6_which_107 : decode cX6_which 107 = .ok (.if_icmp .ne 12, 3) := by decide +kernel
theorem dX6_which_110 : decode cX6_which 110 = .ok (.iload 4, 2) := by decide +kernel
theorem dX6_which_112 : decode cX6_which 112 = .ok (.iconst 1, 1) := by decide +kernel
theorem dX6_which_113 : decode cX6_which 113 = .ok (.iload 5, 2) := by decide +kernel
theorem dX6_which_115 : decode cX6_which 115 = .ok (.ishl, 1) := by decide +kernel
theorem dX6_which_116 : decode cX6_which 116 = .ok (.ior, 1) := by decide +kernel
theorem dX6_which_117 : decode cX6_which 117 = .ok (.istore 4, 2) := by decide +kernel
theorem dX6_which_119 : decode cX6_which 119 = .ok (.iinc 5 1, 3) := by decide +kernel
theorem dX6_which_122 : decode cX6_which 122 = .ok (.goto (-84), 3) := by decide +kernel
theorem dX6_which_125 : decode cX6_which 125 = .ok (.iload 4, 2) := by decide +kernel
theorem dX6_which_127 : decode cX6_which 127 = .ok (.ireturn, 1) := by decide +kernel
theorem dX6_likely_0 : decode cX6_likely 0 = .ok (.iload_n 1, 1) := by decide +kernel
theorem dX6_likely_1 : decode cX6_likely 1 = .ok (.ifCond .lt 17, 3) := by decide +kernel
theorem dX6_likely_4 : decode cX6_likely 4 = .ok (.iload_n 1, 1) := by decide +kernel
theorem dX6_likely_5 : decode cX6_likely 5 = .ok (.iconst 5, 1) := by decide +kernel
theorem dX6_likely_6 : decode cX6_likely 6 = .ok (.if_icmp .gt 12, 3) := by decide +kernel
theorem dX6_likely_9 : decode cX6_likely 9 = .ok (.iload_n 2, 1) := by decide +kernel
theorem dX6_likely_10 : decode cX6_likely 10 = .ok (.ifCond .lt 8, 3) := by decide +kernel
theorem dX6_likely_13 : decode cX6_likely 13 = .ok (.iload_n 2, 1) := by decide +kernel
theorem dX6_likely_14 : decode cX6_likely 14 = .ok (.iconst 1, 1) := by decide +kernel
theorem dX6_likely_15 : decode cX6_likely 15 = .ok (.if_icmp .le 5, 3) := by decide +kernel
theorem dX6_likely_18 : decode cX6_likely 18 = .ok (.iconst (-1), 1) := by decide +kernel
theorem dX6_likely_19 : decode cX6_likely 19 = .ok (.ireturn, 1) := by decide +kernel
theorem dX6_likely_20 : decode cX6_likely 20 = .ok (.aload_n 0, 1) := by decide +kernel
theorem dX6_likely_21 : decode cX6_likely 21 = .ok (.getfield 63, 3) := by decide +kernel
theorem dX6_likely_24 : decode cX6_likely 24 = .ok (.aload_n 0, 1) := by decide +kernel
theorem dX6_likely_25 : decode cX6_likely 25 = .ok (.getfield 63, 3) := by decide +kernel
theorem dX6_likely_28 : decode cX6_likely 28 = .ok (.aload_n 0, 1) := by decide +kernel
theorem dX6_likely_29 : decode cX6_likely 29 = .ok (.getfield 29, 3) := by decide +kernel
theorem dX6_likely_32 : decode cX6_likely 32 = .ok (.invokevirtual 216, 3) := by decide +kernel
theorem dX6_likely_35 : decode cX6_likely 35 = .ok (.iload_n 1, 1) := by decide +kernel
theorem dX6_likely_36 : decode cX6_likely 36 = .ok (.invokestatic 220, 3) := by decide +kernel
theorem dX6_likely_39 : decode cX6_likely 39 = .ok (.istore_n 3, 1) := by decide +kernel
theorem dX6_likely_40 : decode cX6_likely 40 = .ok (.aload_n 0, 1) := by decide +kernel
theorem dX6_likely_41 : decode cX6_likely 41 = .ok (.getfield 19, 3) := by decide +kernel
theorem dX6_likely_44 : decode cX6_likely 44 = .ok (.getfield 97, 3) := by decide +kernel
theorem dX6_likely_47 : decode cX6_likely 47 = .ok (.iload_n 1, 1) := by decide +kernel
theorem dX6_likely_48 : decode cX6_likely 48 = .ok (.invokestatic 224, 3) := by decide +kernel
theorem dX6_likely_51 : decode cX6_likely 51 = .ok (.istore 4, 2) := by decide +kernel
theorem dX6_likely_53 : decode cX6_likely 53 = .ok (.iload_n 3, 1) := by decide +kernel
theorem dX6_likely_54 : decode cX6_likely 54 = .ok (.iload 4, 2) := by decide +kernel
theorem dX6_likely_56 : decode cX6_likely 56 = .ok (.invokestatic 227, 3) := by decide +kernel
theorem dX6_likely_59 : decode cX6_likely 59 = .ok (.istore 5, 2) := by decide +kernel
theorem dX6_likely_61 : decode cX6_likely 61 = .ok (.iload 5, 2) := by decide +kernel
theorem dX6_likely_63 : decode cX6_likely 63 = .ok (.iconst 1, 1) := by decide +kernel
theorem dX6_likely_64 : decode cX6_likely 64 = .ok (.if_icmp .ge 5, 3) := by decide +kernel
theorem dX6_likely_67 : decode cX6_likely 67 = .ok (.iload_n 2, 1) := by decide +kernel
theorem dX6_likely_68 : decode cX6_likely 68 = .ok (.ireturn, 1) := by decide +kernel
theorem dX6_likely_69 : decode cX6_likely 69 = .ok (.iload_n 2, 1) := by decide +kernel
theorem dX6_likely_70 : decode cX6_likely 70 = .ok (.ifCond .ne 10, 3) := by decide +kernel
theorem dX6_likely_73 : decode cX6_likely 73 = .ok (.iload_n 3, 1) := by decide +kernel
theorem dX6_likely_74 : decode cX6_likely 74 = .ok (.iload 5, 2) := by decide +kernel
theorem dX6_likely_76 : decode cX6_likely 76 = .ok (.idiv, 1) := by decide +kernel
theorem dX6_likely_77 : decode cX6_likely 77 = .ok (.goto 8, 3) := by decide +kernel
theorem dX6_likely_80 : decode cX6_likely 80 = .ok (.iload 4, 2) := by decide +kernel
theorem dX6_likely_82 : decode cX6_likely 82 = .ok (.iload 5, 2) := by decide +kernel
theorem dX6_likely_84 : decode cX6_likely 84 = .ok (.idiv, 1) := by decide +kernel
theorem dX6_likely_85 : decode cX6_likely 85 = .ok (.ireturn, 1) := by decide +kernel
theorem dX6_flight_0 : decode cX6_flight 0 = .ok (.iload_n 1, 1) := by decide +kernel
theorem dX6_flight_1 : decode cX6_flight 1 = .ok (.ifCond .lt 30, 3) := by decide +kernel
theorem dX6_flight_4 : decode cX6_flight 4 = .ok (.iload_n 1, 1) := by decide +kernel
theorem dX6_flight_5 : decode cX6_flight 5 = .ok (.sipush 9999, 3) := by decide +kernel
theorem dX6_flight_8 : decode cX6_flight 8 = .ok (.if_icmp .gt 23, 3) := by decide +kernel
theorem dX6_flight_11 : decode cX6_flight 11 = .ok (.iload_n 2, 1) := by decide +kernel
theorem dX6_flight_12 : decode cX6_flight 12 = .ok (.iconst 1, 1) := by decide +kernel
theorem dX6_flight_13 : decode cX6_flight 13 = .ok (.if_icmp .lt 18, 3) := by decide +kernel
theorem dX6_flight_16 : decode cX6_flight 16 = .ok (.iload_n 2, 1) := by decide +kernel
theorem dX6_flight_17 : decode cX6_flight 17 = .ok (.bipush 40, 2) := by decide +kernel
theorem dX6_flight_19 : decode cX6_flight 19 = .ok (.if_icmp .gt 12, 3) := by decide +kernel
theorem dX6_flight_22 : decode cX6_flight 22 = .ok (.iload_n 3, 1) := by decide +kernel
theorem dX6_flight_23 : decode cX6_flight 23 = .ok (.ifCond .lt 8, 3) := by decide +kernel
theorem dX6_flight_26 : decode cX6_flight 26 = .ok (.iload_n 3, 1) := by decide +kernel
theorem dX6_flight_27 : decode cX6_flight 27 = .ok (.iconst 1, 1) := by decide +kernel
theorem dX6_flight_28 : decode cX6_flight 28 = .ok (.if_icmp .le 5, 3) := by decide +kernel
theorem dX6_flight_31 : decode cX6_flight 31 = .ok (.iconst (-1), 1) := by decide +kernel
theorem dX6_flight_32 : decode cX6_flight 32 = .ok (.ireturn, 1) := by decide +kernel
theorem dX6_flight_33 : decode cX6_flight 33 = .ok (.aload_n 0, 1) := by decide +kernel
theorem dX6_flight_34 : decode cX6_flight 34 = .ok (.getfield 33, 3) := by decide +kernel
theorem dX6_flight_37 : decode cX6_flight 37 = .ok (.aload_n 0, 1) := by decide +kernel
theorem dX6_flight_38 : decode cX6_flight 38 = .ok (.getfield 29, 3) := by decide +kernel
theorem dX6_flight_41 : decode cX6_flight 41 = .ok (.invokevirtual 93, 3) := by decide +kernel
theorem dX6_flight_44 : decode cX6_flight 44 = .ok (.iconst 0, 1) := by decide +kernel
theorem dX6_flight_45 : decode cX6_flight 45 = .ok (.istore 4, 2) := by decide +kernel
theorem dX6_flight_47 : decode cX6_flight 47 = .ok (.iload 4, 2) := by decide +kernel
theorem dX6_flight_49 : decode cX6_flight 49 = .ok (.iload_n 2, 1) := by decide +kernel
theorem dX6_flight_50 : decode cX6_flight 50 = .ok (.if_icmp .ge 37, 3) := by decide +kernel
theorem dX6_flight_53 : decode cX6_flight 53 = .ok (.aload_n 0, 1) := by decide +kernel
theorem dX6_flight_54 : decode cX6_flight 54 = .ok (.getfield 33, 3) := by decide +kernel
theorem dX6_flight_57 : decode cX6_flight 57 = .ok (.invokevirtual 138, 3) := by decide +kernel
theorem dX6_flight_60 : decode cX6_flight 60 = .ok (.ifCond .ne 27, 3) := by decide +kernel
theorem dX6_flight_63 : decode cX6_flight 63 = .ok (.aload_n 0, 1) := by decide +kernel
theorem dX6_flight_64 : decode cX6_flight 64 = .ok (.getfield 19, 3) := by decide +kernel
theorem dX6_flight_67 : decode cX6_flight 67 = .ok (.aload_n 0, 1) := by decide +kernel
theorem dX6_flight_68 : decode cX6_flight 68 = .ok (.getfield 33, 3) := by decide +kernel
theorem dX6_flight_71 : decode cX6_flight 71 = .ok (.aload_n 0, 1) := by decide +kernel
theorem dX6_flight_72 : decode cX6_flight 72 = .ok (.iload_n 1, 1) := by decide +kernel
theorem dX6_flight_73 : decode cX6_flight 73 = .ok (.iload 4, 2) := by decide +kernel
theorem dX6_flight_75 : decode cX6_flight 75 = .ok (.invokevirtual 230, 3) := by decide +kernel
theorem dX6_flight_78 : decode cX6_flight 78 = .ok (.invokevirtual 145, 3) := by decide +kernel
theorem dX6_flight_81 : decode cX6_flight 81 = .ok (.iinc 4 1, 3) := by decide +kernel
theorem dX6_flight_84 : decode cX6_flight 84 = .ok (.goto (-37), 3) := by decide +kernel
theorem dX6_flight_87 : decode cX6_flight 87 = .ok (.iload_n 3, 1) := by decide +kernel
theorem dX6_flight_88 : decode cX6_flight 88 = .ok (.iconst 1, 1) := by decide +kernel
theorem dX6_flight_89 : decode cX6_flight 89 = .ok (.if_icmp .ne 22, 3) := by decide +kernel
theorem dX6_flight_92 : decode cX6_flight 92 = .ok (.bipush 100, 2) := by decide +kernel
theorem dX6_flight_94 : decode cX6_flight 94 = .ok (.aload_n 0, 1) := by decide +kernel
theorem dX6_flight_95 : decode cX6_flight 95 = .ok (.getfield 33, 3) := by decide +kernel
theorem dX6_flight_98 : decode cX6_flight 98 = .ok (.getfield 149, 3) := by decide +kernel
theorem dX6_flight_101 : decode cX6_flight 101 = .ok (.imul, 1) := by decide +kernel
theorem dX6_flight_102 : decode cX6_flight 102 = .ok (.aload_n 0, 1) := by decide +kernel
theorem dX6_flight_103 : decode cX6_flight 103 = .ok (.getfield 33, 3) := by decide +kernel
theorem dX6_flight_106 : decode cX6_flight 106 = .ok (.invokevirtual 155, 3) := by decide +kernel
theorem dX6_flight_109 : decode cX6_flight 109 = .ok (.iadd, 1) := by decide +kernel
theorem dX6_flight_110 : decode cX6_flight 110 = .ok (.ireturn, 1) := by decide +kernel
theorem dX6_flight_111 : decode cX6_flight 111 = .ok (.aload_n 0, 1) := by decide +kernel
theorem dX6_flight_112 : decode cX6_flight 112 = .ok (.getfield 19, 3) := by decide +kernel
theorem dX6_flight_115 : decode cX6_flight 115 = .ok (.aload_n 0, 1) := by decide +kernel
theorem dX6_flight_116 : decode cX6_flight 116 = .ok (.getfield 33, 3) := by decide +kernel
theorem dX6_flight_119 : decode cX6_flight 119 = .ok (.invokevirtual 161, 3) := by decide +kernel
theorem dX6_flight_122 : decode cX6_flight 122 = .ok (.ifCond .eq 8, 3) := by decide +kernel
theorem dX6_flight_125 : decode cX6_flight 125 = .ok (.iload 4, 2) := by decide +kernel
theorem dX6_flight_127 : decode cX6_flight 127 = .ok (.goto 5, 3) := by decide +kernel
theorem dX6_flight_130 : decode cX6_flight 130 = .ok (.bipush (-4), 2) := by decide +kernel
theorem dX6_flight_132 : decode cX6_flight 132 = .ok (.ireturn, 1) := by decide +kernel
theorem dX6_keep_0 : decode cX6_keep 0 = .ok (.aload_n 0, 1) := by decide +kernel
theorem dX6_keep_1 : decode cX6_keep 1 = .ok (.getfield 48, 3) := by decide +kernel
theorem dX6_keep_4 : decode cX6_keep 4 = .ok (.invokevirtual 233, 3) := by decide +kernel
theorem dX6_keep_7 : decode cX6_keep 7 = .ok (.ifCond .eq 6, 3) := by decide +kernel
theorem dX6_keep_10 : decode cX6_keep 10 = .ok (.bipush (-3), 2) := by decide +kernel
theorem dX6_keep_12 : decode cX6_keep 12 = .ok (.ireturn, 1) := by decide +kernel
theorem dX6_keep_13 : decode cX6_keep 13 = .ok (.aload_n 0, 1) := by decide +kernel
theorem dX6_keep_14 : decode cX6_keep 14 = .ok (.getfield 48, 3) := by decide +kernel
theorem dX6_keep_17 : decode cX6_keep 17 = .ok (.aload_n 0, 1) := by decide +kernel
theorem dX6_keep_18 : decode cX6_keep 18 = .ok (.getfield 29, 3) := by decide +kernel
theorem dX6_keep_21 : decode cX6_keep 21 = .ok (.invokevirtual 142, 3) := by decide +kernel
theorem dX6_keep_24 : decode cX6_keep 24 = .ok (.aload_n 0, 1) := by decide +kernel
theorem dX6_keep_25 : decode cX6_keep 25 = .ok (.getfield 48, 3) := by decide +kernel
theorem dX6_keep_28 : decode cX6_keep 28 = .ok (.getfield 100, 3) := by decide +kernel
theorem dX6_keep_31 : decode cX6_keep 31 = .ok (.ireturn, 1) := by decide +kernel
theorem dX6_back_0 : decode cX6_back 0 = .ok (.aload_n 0, 1) := by decide +kernel
theorem dX6_back_1 : decode cX6_back 1 = .ok (.getfield 48, 3) := by decide +kernel
theorem dX6_back_4 : decode cX6_back 4 = .ok (.aload_n 0, 1) := by decide +kernel
theorem dX6_back_5 : decode cX6_back 5 = .ok (.getfield 29, 3) := by decide +kernel
theorem dX6_back_8 : decode cX6_back 8 = .ok (.invokevirtual 168, 3) := by decide +kernel
theorem dX6_back_11 : decode cX6_back 11 = .ok (.ifCond .ne 6, 3) := by decide +kernel
theorem dX6_back_14 : decode cX6_back 14 = .ok (.bipush (-2), 2) := by decide +kernel
theorem dX6_back_16 : decode cX6_back 16 = .ok (.ireturn, 1) := by decide +kernel
theorem dX6_back_17 : decode cX6_back 17 = .ok (.aload_n 0, 1) := by decide +kernel
theorem dX6_back_18 : decode cX6_back 18 = .ok (.getfield 44, 3) := by decide +kernel
theorem dX6_back_21 : decode cX6_back 21 = .ok (.iconst 0, 1) := by decide +kernel
theorem dX6_back_22 : decode cX6_back 22 = .ok (.putfield 100, 3) := by decide +kernel
theorem dX6_back_25 : decode cX6_back 25 = .ok (.aload_n 0, 1) := by decide +kernel
theorem dX6_back_26 : decode cX6_back 26 = .ok (.getfield 48, 3) := by decide +kernel
theorem dX6_back_29 : decode cX6_back 29 = .ok (.getfield 100, 3) := by decide +kernel
theorem dX6_back_32 : decode cX6_back 32 = .ok (.ireturn, 1) := by decide +kernel
theorem dX6_count_0 : decode cX6_count 0 = .ok (.iload_n 1, 1) := by decide +kernel
theorem dX6_count_1 : decode cX6_count 1 = .ok (.tableswitch 87 0 5 #[39, 47, 55, 63, 71, 79], 39) := by decide +kernel
theorem dX6_count_40 : decode cX6_count 40 = .ok (.aload_n 0, 1) := by decide +kernel
theorem dX6_count_41 : decode cX6_count 41 = .ok (.getfield 19, 3) := by decide +kernel
theorem dX6_count_44 : decode cX6_count 44 = .ok (.getfield 97, 3) := by decide +kernel
theorem dX6_count_47 : decode cX6_count 47 = .ok (.ireturn, 1) := by decide +kernel
theorem dX6_count_48 : decode cX6_count 48 = .ok (.aload_n 0, 1) := by decide +kernel
theorem dX6_count_49 : decode cX6_count 49 = .ok (.getfield 19, 3) := by decide +kernel
theorem dX6_count_52 : decode cX6_count 52 = .ok (.getfield 236, 3) := by decide +kernel
theorem dX6_count_55 : decode cX6_count 55 = .ok (.ireturn, 1) := by decide +kernel
theorem dX6_count_56 : decode cX6_count 56 = .ok (.aload_n 0, 1) := by decide +kernel
theorem dX6_count_57 : decode cX6_count 57 = .ok (.getfield 54, 3) := by decide +kernel
theorem dX6_count_60 : decode cX6_count 60 = .ok (.getfield 103, 3) := by decide +kernel
theorem dX6_count_63 : decode cX6_count 63 = .ok (.ireturn, 1) := by decide +kernel
theorem dX6_count_64 : decode cX6_count 64 = .ok (.aload_n 0, 1) := by decide +kernel
theorem dX6_count_65 : decode cX6_count 65 = .ok (.getfield 44, 3) := by decide +kernel
theorem dX6_count_68 : decode cX6_count 68 = .ok (.getfield 100, 3) := by decide +kernel
theorem dX6_count_71 : decode cX6_count 71 = .ok (.ireturn, 1) := by decide +kernel
theorem dX6_count_72 : decode cX6_count 72 = .ok (.aload_n 0, 1) := by decide +kernel
theorem dX6_count_73 : decode cX6_count 73 = .ok (.getfield 48, 3) := by decide +kernel
theorem dX6_count_76 : decode cX6_count 76 = .ok (.getfield 100, 3) := by decide +kernel
theorem dX6_count_79 : decode cX6_count 79 = .ok (.ireturn, 1) := by decide +kernel
theorem dX6_count_80 : decode cX6_count 80 = .ok (.aload_n 0, 1) := by decide +kernel
theorem dX6_count_81 : decode cX6_count 81 = .ok (.getfield 10, 3) := by decide +kernel
theorem dX6_count_84 : decode cX6_count 84 = .ok (.getfield 87, 3) := by decide +kernel
theorem dX6_count_87 : decode cX6_count 87 = .ok (.ireturn, 1) := by decide +kernel
theorem dX6_count_88 : decode cX6_count 88 = .ok (.iconst (-1), 1) := by decide +kernel
theorem dX6_count_89 : decode cX6_count 89 = .ok (.ireturn, 1) := by decide +kernel
theorem dX6_turnBoth_0 : decode cX6_turnBoth 0 = .ok (.aload_n 1, 1) := by decide +kernel
theorem dX6_turnBoth_1 : decode cX6_turnBoth 1 = .ok (.invokevirtual 138, 3) := by decide +kernel
theorem dX6_turnBoth_4 : decode cX6_turnBoth 4 = .ok (.ifCond .eq 5, 3) := by decide +kernel
theorem dX6_turnBoth_7 : decode cX6_turnBoth 7 = .ok (.iconst 0, 1) := by decide +kernel
theorem dX6_turnBoth_8 : decode cX6_turnBoth 8 = .ok (.ireturn, 1) := by decide +kernel
theorem dX6_turnBoth_9 : decode cX6_turnBoth 9 = .ok (.aload_n 0, 1) := by decide +kernel
theorem dX6_turnBoth_10 : decode cX6_turnBoth 10 = .ok (.getfield 19, 3) := by decide +kernel
theorem dX6_turnBoth_13 : decode cX6_turnBoth 13 = .ok (.aload_n 1, 1) := by decide +kernel
theorem dX6_turnBoth_14 : decode cX6_turnBoth 14 = .ok (.iload_n 2, 1) := by decide +kernel
theorem dX6_turnBoth_15 : decode cX6_turnBoth 15 = .ok (.invokevirtual 145, 3) := by decide +kernel
theorem dX6_turnBoth_18 : decode cX6_turnBoth 18 = .ok (.aload_n 1, 1) := by decide +kernel
theorem dX6_turnBoth_19 : decode cX6_turnBoth 19 = .ok (.invokevirtual 138, 3) := by decide +kernel
theorem dX6_turnBoth_22 : decode cX6_turnBoth 22 = .ok (.ifCond .eq 5, 3) := by decide +kernel
theorem dX6_turnBoth_25 : decode cX6_turnBoth 25 = .ok (.iconst 0, 1) := by decide +kernel
theorem dX6_turnBoth_26 : decode cX6_turnBoth 26 = .ok (.ireturn, 1) := by decide +kernel
theorem dX6_turnBoth_27 : decode cX6_turnBoth 27 = .ok (.aload_n 0, 1) := by decide +kernel
theorem dX6_turnBoth_28 : decode cX6_turnBoth 28 = .ok (.getfield 19, 3) := by decide +kernel
theorem dX6_turnBoth_31 : decode cX6_turnBoth 31 = .ok (.aload_n 1, 1) := by decide +kernel
theorem dX6_turnBoth_32 : decode cX6_turnBoth 32 = .ok (.iload_n 3, 1) := by decide +kernel
theorem dX6_turnBoth_33 : decode cX6_turnBoth 33 = .ok (.invokevirtual 145, 3) := by decide +kernel
theorem dX6_turnBoth_36 : decode cX6_turnBoth 36 = .ok (.iconst 1, 1) := by decide +kernel
theorem dX6_turnBoth_37 : decode cX6_turnBoth 37 = .ok (.ireturn, 1) := by decide +kernel
theorem dX6_drawnPeg_0 : decode cX6_drawnPeg 0 = .ok (.aload_n 0, 1) := by decide +kernel
theorem dX6_drawnPeg_1 : decode cX6_drawnPeg 1 = .ok (.getfield 19, 3) := by decide +kernel
theorem dX6_drawnPeg_4 : decode cX6_drawnPeg 4 = .ok (.getfield 97, 3) := by decide +kernel
theorem dX6_drawnPeg_7 : decode cX6_drawnPeg 7 = .ok (.iconst 1, 1) := by decide +kernel
theorem dX6_drawnPeg_8 : decode cX6_drawnPeg 8 = .ok (.if_icmp .ge 5, 3) := by decide +kernel
theorem dX6_drawnPeg_11 : decode cX6_drawnPeg 11 = .ok (.iconst 0, 1) := by decide +kernel
theorem dX6_drawnPeg_12 : decode cX6_drawnPeg 12 = .ok (.ireturn, 1) := by decide +kernel
theorem dX6_drawnPeg_13 : decode cX6_drawnPeg 13 = .ok (.ldc2_w 239, 3) := by decide +kernel
theorem dX6_drawnPeg_16 : decode cX6_drawnPeg 16 = .ok (.iload_n 1, 1) := by decide +kernel
theorem dX6_drawnPeg_17 : decode cX6_drawnPeg 17 = .ok (.i2l, 1) := by decide +kernel
theorem dX6_drawnPeg_18 : decode cX6_drawnPeg 18 = .ok (.lmul, 1) := by decide +kernel
theorem dX6_drawnPeg_19 : decode cX6_drawnPeg 19 = .ok (.ldc2_w 241, 3) := by decide +kernel
theorem dX6_drawnPeg_22 : decode cX6_drawnPeg 22 = .ok (.iload_n 2, 1) := by decide +kernel
theorem dX6_drawnPeg_23 : decode cX6_drawnPeg 23 = .ok (.i2l, 1) := by decide +kernel
theorem dX6_drawnPeg_24 : decode cX6_drawnPeg 24 = .ok (.lmul, 1) := by decide +kernel
theorem dX6_drawnPeg_25 : decode cX6_drawnPeg 25 = .ok (.ladd, 1) := by decide +kernel
theorem dX6_drawnPeg_26 : decode cX6_drawnPeg 26 = .ok (.lconst 1, 1) := by decide +kernel
theorem dX6_drawnPeg_27 : decode cX6_drawnPeg 27 = .ok (.ladd, 1) := by decide +kernel
theorem dX6_drawnPeg_28 : decode cX6_drawnPeg 28 = .ok (.lstore_n 3, 1) := by decide +kernel
theorem dX6_drawnPeg_29 : decode cX6_drawnPeg 29 = .ok (.lload_n 3, 1) := by decide +kernel
theorem dX6_drawnPeg_30 : decode cX6_drawnPeg 30 = .ok (.lload_n 3, 1) := by decide +kernel
theorem dX6_drawnPeg_31 : decode cX6_drawnPeg 31 = .ok (.lmul, 1) := by decide +kernel
theorem dX6_drawnPeg_32 : decode cX6_drawnPeg 32 = .ok (.ldc2_w 243, 3) := by decide +kernel
theorem dX6_drawnPeg_35 : decode cX6_drawnPeg 35 = .ok (.lrem, 1) := by decide +kernel
theorem dX6_drawnPeg_36 : decode cX6_drawnPeg 36 = .ok (.ldc2_w 245, 3) := by decide +kernel
theorem dX6_drawnPeg_39 : decode cX6_drawnPeg 39 = .ok (.ldiv, 1) := by decide +kernel
theorem dX6_drawnPeg_40 : decode cX6_drawnPeg 40 = .ok (.lstore 5, 2) := by decide +kernel
theorem dX6_drawnPeg_42 : decode cX6_drawnPeg 42 = .ok (.lload 5, 2) := by decide +kernel
theorem dX6_drawnPeg_44 : decode cX6_drawnPeg 44 = .ok (.aload_n 0, 1) := by decide +kernel
theorem dX6_drawnPeg_45 : decode cX6_drawnPeg 45 = .ok (.getfield 19, 3) := by decide +kernel
theorem dX6_drawnPeg_48 : decode cX6_drawnPeg 48 = .ok (.getfield 97, 3) := by decide +kernel
theorem dX6_drawnPeg_51 : decode cX6_drawnPeg 51 = .ok (.i2l, 1) := by decide +kernel
theorem dX6_drawnPeg_52 : decode cX6_drawnPeg 52 = .ok (.lrem, 1) := by decide +kernel
theorem dX6_drawnPeg_53 : decode cX6_drawnPeg 53 = .ok (.l2i, 1) := by decide +kernel
theorem dX6_drawnPeg_54 : decode cX6_drawnPeg 54 = .ok (.ireturn, 1) := by decide +kernel
theorem dX6_landings_0 : decode cX6_landings 0 = .ok (.iload_n 1, 1) := by decide +kernel
theorem dX6_landings_1 : decode cX6_landings 1 = .ok (.invokestatic 247, 3) := by decide +kernel
theorem dX6_landings_4 : decode cX6_landings 4 = .ok (.ifCond .ne 27, 3) := by decide +kernel
theorem dX6_landings_7 : decode cX6_landings 7 = .ok (.aload_n 0, 1) := by decide +kernel
theorem dX6_landings_8 : decode cX6_landings 8 = .ok (.iload_n 1, 1) := by decide +kernel
theorem dX6_landings_9 : decode cX6_landings 9 = .ok (.invokevirtual 250, 3) := by decide +kernel
theorem dX6_landings_12 : decode cX6_landings 12 = .ok (.ifCond .eq 17, 3) := by decide +kernel
theorem dX6_landings_15 : decode cX6_landings 15 = .ok (.aload_n 0, 1) := by decide +kernel
theorem dX6_landings_16 : decode cX6_landings 16 = .ok (.getfield 253, 3) := by decide +kernel
theorem dX6_landings_19 : decode cX6_landings 19 = .ok (.getfield 97, 3) := by decide +kernel
theorem dX6_landings_22 : decode cX6_landings 22 = .ok (.iload_n 2, 1) := by decide +kernel
theorem dX6_landings_23 : decode cX6_landings 23 = .ok (.invokestatic 224, 3) := by decide +kernel
theorem dX6_landings_26 : decode cX6_landings 26 = .ok (.goto 4, 3) := by decide +kernel
theorem dX6_landings_29 : decode cX6_landings 29 = .ok (.iconst 0, 1) := by decide +kernel
theorem dX6_landings_30 : decode cX6_landings 30 = .ok (.ireturn, 1) := by decide +kernel
theorem dX6_landings_31 : decode cX6_landings 31 = .ok (.iload_n 2, 1) := by decide +kernel
theorem dX6_landings_32 : decode cX6_landings 32 = .ok (.iconst 1, 1) := by decide +kernel
theorem dX6_landings_33 : decode cX6_landings 33 = .ok (.if_icmp .lt 9, 3) := by decide +kernel
theorem dX6_landings_36 : decode cX6_landings 36 = .ok (.iload_n 2, 1) := by decide +kernel
theorem dX6_landings_37 : decode cX6_landings 37 = .ok (.bipush 6, 2) := by decide +kernel
theorem dX6_landings_39 : decode cX6_landings 39 = .ok (.if_icmp .le 5, 3) := by decide +kernel
theorem dX6_landings_42 : decode cX6_landings 42 = .ok (.iconst 0, 1) := by decide +kernel
theorem dX6_landings_43 : decode cX6_landings 43 = .ok (.ireturn, 1) := by decide +kernel
theorem dX6_landings_44 : decode cX6_landings 44 = .ok (.iconst 0, 1) := by decide +kernel
theorem dX6_landings_45 : decode cX6_landings 45 = .ok (.istore_n 3, 1) := by decide +kernel
theorem dX6_landings_46 : decode cX6_landings 46 = .ok (.iconst 0, 1) := by decide +kernel
theorem dX6_landings_47 : decode cX6_landings 47 = .ok (.istore 4, 2) := by decide +kernel
theorem dX6_landings_49 : decode cX6_landings 49 = .ok (.iload 4, 2) := by decide +kernel
theorem dX6_landings_51 : decode cX6_landings 51 = .ok (.aload_n 0, 1) := by decide +kernel
theorem dX6_landings_52 : decode cX6_landings 52 = .ok (.getfield 253, 3) := by decide +kernel
theorem dX6_landings_55 : decode cX6_landings 55 = .ok (.getfield 97, 3) := by decide +kernel
theorem dX6_landings_58 : decode cX6_landings 58 = .ok (.if_icmp .ge 26, 3) := by decide +kernel
theorem dX6_landings_61 : decode cX6_landings 61 = .ok (.iload_n 3, 1) := by decide +kernel
theorem dX6_landings_62 : decode cX6_landings 62 = .ok (.aload_n 0, 1) := by decide +kernel
theorem dX6_landings_63 : decode cX6_landings 63 = .ok (.aload_n 0, 1) := by decide +kernel
theorem dX6_landings_64 : decode cX6_landings 64 = .ok (.iload_n 1, 1) := by decide +kernel
theorem dX6_landings_65 : decode cX6_landings 65 = .ok (.iload 4, 2) := by decide +kernel
theorem dX6_landings_67 : decode cX6_landings 67 = .ok (.invokevirtual 254, 3) := by decide +kernel
theorem dX6_landings_70 : decode cX6_landings 70 = .ok (.iload_n 2, 1) := by decide +kernel
theorem dX6_landings_71 : decode cX6_landings 71 = .ok (.iconst 1, 1) := by decide +kernel
theorem dX6_landings_72 : decode cX6_landings 72 = .ok (.isub, 1) := by decide +kernel
theorem dX6_landings_73 : decode cX6_landings 73 = .ok (.invokestatic 220, 3) := by decide +kernel
theorem dX6_landings_76 : decode cX6_landings 76 = .ok (.iadd, 1) := by decide +kernel
theorem dX6_landings_77 : decode cX6_landings 77 = .ok (.istore_n 3, 1) := by decide +kernel
theorem dX6_landings_78 : decode cX6_landings 78 = .ok (.iinc 4 1, 3) := by decide +kernel
theorem dX6_landings_81 : decode cX6_landings 81 = .ok (.goto (-32), 3) := by decide +kernel
theorem dX6_landings_84 : decode cX6_landings 84 = .ok (.iload_n 3, 1) := by decide +kernel
theorem dX6_landings_85 : decode cX6_landings 85 = .ok (.ireturn, 1) := by decide +kernel
theorem dX6_pegOfPath_0 : decode cX6_pegOfPath 0 = .ok (.iload_n 2, 1) := by decide +kernel
theorem dX6_pegOfPath_1 : decode cX6_pegOfPath 1 = .ok (.iload_n 1, 1) := by decide +kernel
theorem dX6_pegOfPath_2 : decode cX6_pegOfPath 2 = .ok (.if_icmp .ge 18, 3) := by decide +kernel
theorem dX6_pegOfPath_5 : decode cX6_pegOfPath 5 = .ok (.iload_n 0, 1) := by decide +kernel
theorem dX6_pegOfPath_6 : decode cX6_pegOfPath 6 = .ok (.iconst 3, 1) := by decide +kernel
theorem dX6_pegOfPath_7 : decode cX6_pegOfPath 7 = .ok (.iload_n 1, 1) := by decide +kernel
theorem dX6_pegOfPath_8 : decode cX6_pegOfPath 8 = .ok (.iconst 1, 1) := by decide +kernel
theorem dX6_pegOfPath_9 : decode cX6_pegOfPath 9 = .ok (.isub, 1) := by decide +kernel
theorem dX6_pegOfPath_10 : decode cX6_pegOfPath 10 = .ok (.iload_n 2, 1) := by decide +kernel
theorem dX6_pegOfPath_11 : decode cX6_pegOfPath 11 = .ok (.isub, 1) := by decide +kernel
theorem dX6_pegOfPath_12 : decode cX6_pegOfPath 12 = .ok (.imul, 1) := by decide +kernel
theorem dX6_pegOfPath_13 : decode cX6_pegOfPath 13 = .ok (.ishr, 1) := by decide +kernel
theorem dX6_pegOfPath_14 : decode cX6_pegOfPath 14 = .ok (.bipush 7, 2) := by decide +kernel
theorem dX6_pegOfPath_16 : decode cX6_pegOfPath 16 = .ok (.iand, 1) := by decide +kernel
theorem dX6_pegOfPath_17 : decode cX6_pegOfPath 17 = .ok (.goto 5, 3) := by decide +kernel
theorem dX6_pegOfPath_20 : decode cX6_pegOfPath 20 = .ok (.bipush (-4), 2) := by decide +kernel
theorem dX6_pegOfPath_22 : decode cX6_pegOfPath 22 = .ok (.ireturn, 1) := by decide +kernel
theorem dX6_power_0 : decode cX6_power 0 = .ok (.iconst 1, 1) := by decide +kernel
theorem dX6_power_1 : decode cX6_power 1 = .ok (.istore_n 2, 1) := by decide +kernel
theorem dX6_power_2 : decode cX6_power 2 = .ok (.iconst 0, 1) := by decide +kernel
theorem dX6_power_3 : decode cX6_power 3 = .ok (.istore_n 3, 1) := by decide +kernel
theorem dX6_power_4 : decode cX6_power 4 = .ok (.iload_n 3, 1) := by decide +kernel
theorem dX6_power_5 : decode cX6_power 5 = .ok (.iload_n 1, 1) := by decide +kernel
theorem dX6_power_6 : decode cX6_power 6 = .ok (.if_icmp .ge 13, 3) := by decide +kernel
theorem dX6_power_9 : decode cX6_power 9 = .ok (.iload_n 2, 1) := by decide +kernel
theorem dX6_power_10 : decode cX6_power 10 = .ok (.iload_n 0, 1) := by decide +kernel
theorem dX6_power_11 : decode cX6_power 11 = .ok (.imul, 1) := by decide +kernel
theorem dX6_power_12 : decode cX6_power 12 = .ok (.istore_n 2, 1) := by decide +kernel
theorem dX6_power_13 : decode cX6_power 13 = .ok (.iinc 3 1, 3) := by decide +kernel
theorem dX6_power_16 : decode cX6_power 16 = .ok (.goto (-12), 3) := by decide +kernel
theorem dX6_power_19 : decode cX6_power 19 = .ok (.iload_n 2, 1) := by decide +kernel
theorem dX6_power_20 : decode cX6_power 20 = .ok (.ireturn, 1) := by decide +kernel
theorem dX6_commonDivisor_0 : decode cX6_commonDivisor 0 = .ok (.iload_n 0, 1) := by decide +kernel
theorem dX6_commonDivisor_1 : decode cX6_commonDivisor 1 = .ok (.istore_n 2, 1) := by decide +kernel
theorem dX6_commonDivisor_2 : decode cX6_commonDivisor 2 = .ok (.iload_n 1, 1) := by decide +kernel
theorem dX6_commonDivisor_3 : decode cX6_commonDivisor 3 = .ok (.istore_n 3, 1) := by decide +kernel
theorem dX6_commonDivisor_4 : decode cX6_commonDivisor 4 = .ok (.iconst 0, 1) := by decide +kernel
theorem dX6_commonDivisor_5 : decode cX6_commonDivisor 5 = .ok (.istore 4, 2) := by decide +kernel
theorem dX6_commonDivisor_7 : decode cX6_commonDivisor 7 = .ok (.iload 4, 2) := by decide +kernel
theorem dX6_commonDivisor_9 : decode cX6_commonDivisor 9 = .ok (.bipush 64, 2) := by decide +kernel
theorem dX6_commonDivisor_11 : decode cX6_commonDivisor 11 = .ok (.if_icmp .ge 23, 3) := by decide +kernel
theorem dX6_commonDivisor_14 : decode cX6_commonDivisor 14 = .ok (.iload_n 3, 1) := by decide +kernel
theorem dX6_commonDivisor_15 : decode cX6_commonDivisor 15 = .ok (.ifCond .eq 19, 3) := by decide +kernel
theorem dX6_commonDivisor_18 : decode cX6_commonDivisor 18 = .ok (.iload_n 2, 1) := by decide +kernel
theorem dX6_commonDivisor_19 : decode cX6_commonDivisor 19 = .ok (.iload_n 3, 1) := by decide +kernel
theorem dX6_commonDivisor_20 : decode cX6_commonDivisor 20 = .ok (.irem, 1) := by decide +kernel
theorem dX6_commonDivisor_21 : decode cX6_commonDivisor 21 = .ok (.istore 5, 2) := by decide +kernel
theorem dX6_commonDivisor_23 : decode cX6_commonDivisor 23 = .ok (.iload_n 3, 1) := by decide +kernel
theorem dX6_commonDivisor_24 : decode cX6_commonDivisor 24 = .ok (.istore_n 2, 1) := by decide +kernel
theorem dX6_commonDivisor_25 : decode cX6_commonDivisor 25 = .ok (.iload 5, 2) := by decide +kernel
theorem dX6_commonDivisor_27 : decode cX6_commonDivisor 27 = .ok (.istore_n 3, 1) := by decide +kernel
theorem dX6_commonDivisor_28 : decode cX6_commonDivisor 28 = .ok (.iinc 4 1, 3) := by decide +kernel
theorem dX6_commonDivisor_31 : decode cX6_commonDivisor 31 = .ok (.goto (-24), 3) := by decide +kernel
theorem dX6_commonDivisor_34 : decode cX6_commonDivisor 34 = .ok (.iload_n 2, 1) := by decide +kernel
theorem dX6_commonDivisor_35 : decode cX6_commonDivisor 35 = .ok (.ireturn, 1) := by decide +kernel
theorem dX6_within_0 : decode cX6_within 0 = .ok (.iload_n 0, 1) := by decide +kernel
theorem dX6_within_1 : decode cX6_within 1 = .ok (.ifCond .ge 7, 3) := by decide +kernel
theorem dX6_within_4 : decode cX6_within 4 = .ok (.iconst 0, 1) := by decide +kernel
theorem dX6_within_5 : decode cX6_within 5 = .ok (.goto 13, 3) := by decide +kernel
theorem dX6_within_8 : decode cX6_within 8 = .ok (.iload_n 0, 1) := by decide +kernel
theorem dX6_within_9 : decode cX6_within 9 = .ok (.iload_n 1, 1) := by decide +kernel
theorem dX6_within_10 : decode cX6_within 10 = .ok (.if_icmp .le 7, 3) := by decide +kernel
theorem dX6_within_13 : decode cX6_within 13 = .ok (.iload_n 1, 1) := by decide +kernel
theorem dX6_within_14 : decode cX6_within 14 = .ok (.goto 4, 3) := by decide +kernel
theorem dX6_within_17 : decode cX6_within 17 = .ok (.iload_n 0, 1) := by decide +kernel
theorem dX6_within_18 : decode cX6_within 18 = .ok (.ireturn, 1) := by decide +kernel
theorem dX6_liftBy_0 : decode cX6_liftBy 0 = .ok (.iload_n 1, 1) := by decide +kernel
theorem dX6_liftBy_1 : decode cX6_liftBy 1 = .ok (.iconst 5, 1) := by decide +kernel
theorem dX6_liftBy_2 : decode cX6_liftBy 2 = .ok (.isub, 1) := by decide +kernel
theorem dX6_liftBy_3 : decode cX6_liftBy 3 = .ok (.istore 5, 2) := by decide +kernel
theorem dX6_liftBy_5 : decode cX6_liftBy 5 = .ok (.iload_n 0, 1) := by decide +kernel
theorem dX6_liftBy_6 : decode cX6_liftBy 6 = .ok (.tableswitch 70 1 3 #[26, 40, 54], 26) := by decide +kernel
theorem dX6_liftBy_32 : decode cX6_liftBy 32 = .ok (.iload_n 3, 1) := by decide +kernel
theorem dX6_liftBy_33 : decode cX6_liftBy 33 = .ok (.ifCond .eq 10, 3) := by decide +kernel
theorem dX6_liftBy_36 : decode cX6_liftBy 36 = .ok (.iconst 2, 1) := by decide +kernel
theorem dX6_liftBy_37 : decode cX6_liftBy 37 = .ok (.iload 5, 2) := by decide +kernel
theorem dX6_liftBy_39 : decode cX6_liftBy 39 = .ok (.imul, 1) := by decide +kernel
theorem dX6_liftBy_40 : decode cX6_liftBy 40 = .ok (.goto 5, 3) := by decide +kernel
theorem dX6_liftBy_43 : decode cX6_liftBy 43 = .ok (.iload 5, 2) := by decide +kernel
theorem dX6_liftBy_45 : decode cX6_liftBy 45 = .ok (.ireturn, 1) := by decide +kernel
theorem dX6_liftBy_46 : decode cX6_liftBy 46 = .ok (.iload_n 2, 1) := by decide +kernel
theorem dX6_liftBy_47 : decode cX6_liftBy 47 = .ok (.iconst 2, 1) := by decide +kernel
theorem dX6_liftBy_48 : decode cX6_liftBy 48 = .ok (.if_icmp .lt 9, 3) := by decide +kernel
theorem dX6_liftBy_51 : decode cX6_liftBy 51 = .ok (.iload 5, 2) := by decide +kernel
theorem dX6_liftBy_53 : decode cX6_liftBy 53 = .ok (.ineg, 1) := by decide +kernel
theorem dX6_liftBy_54 : decode cX6_liftBy 54 = .ok (.goto 5, 3) := by decide +kernel
theorem dX6_liftBy_57 : decode cX6_liftBy 57 = .ok (.iload 5, 2) := by decide +kernel
theorem dX6_liftBy_59 : decode cX6_liftBy 59 = .ok (.ireturn, 1) := by decide +kernel
theorem dX6_liftBy_60 : decode cX6_liftBy 60 = .ok (.iload 4, 2) := by decide +kernel
theorem dX6_liftBy_62 : decode cX6_liftBy 62 = .ok (.iconst 2, 1) := by decide +kernel
theorem dX6_liftBy_63 : decode cX6_liftBy 63 = .ok (.if_icmp .ne 10, 3) := by decide +kernel
theorem dX6_liftBy_66 : decode cX6_liftBy 66 = .ok (.iload 5, 2) := by decide +kernel
theorem dX6_liftBy_68 : decode cX6_liftBy 68 = .ok (.iconst 2, 1) := by decide +kernel
theorem dX6_liftBy_69 : decode cX6_liftBy 69 = .ok (.isub, 1) := by decide +kernel
theorem dX6_liftBy_70 : decode cX6_liftBy 70 = .ok (.goto 5, 3) := by decide +kernel
theorem dX6_liftBy_73 : decode cX6_liftBy 73 = .ok (.iload 5, 2) := by decide +kernel
theorem dX6_liftBy_75 : decode cX6_liftBy 75 = .ok (.ireturn, 1) := by decide +kernel
theorem dX6_liftBy_76 : decode cX6_liftBy 76 = .ok (.iload 5, 2) := by decide +kernel
theorem dX6_liftBy_78 : decode cX6_liftBy 78 = .ok (.ireturn, 1) := by decide +kernel
theorem dX7_init_0 : decode cX7_init 0 = .ok (.aload_n 0, 1) := by decide +kernel
theorem dX7_init_1 : decode cX7_init 1 = .ok (.invokespecial 1, 3) := by decide +kernel
theorem dX7_init_4 : decode cX7_init 4 = .ok (.aload_n 0, 1) := by decide +kernel
theorem dX7_init_5 : decode cX7_init 5 = .ok (.bipush 21, 2) := by decide +kernel
theorem dX7_init_7 : decode cX7_init 7 = .ok (.newarray .int, 2) := by decide +kernel
theorem dX7_init_9 : decode cX7_init 9 = .ok (.putfield 7, 3) := by decide +kernel
theorem dX7_init_12 : decode cX7_init 12 = .ok (.aload_n 0, 1) := by decide +kernel
theorem dX7_init_13 : decode cX7_init 13 = .ok (.bipush 10, 2) := by decide +kernel
theorem dX7_init_15 : decode cX7_init 15 = .ok (.newarray .int, 2) := by decide +kernel
theorem dX7_init_17 : decode cX7_init 17 = .ok (.putfield 13, 3) := by decide +kernel
theorem dX7_init_20 : decode cX7_init 20 = .ok (.aload_n 0, 1) := by decide +kernel
theorem dX7_init_21 : decode cX7_init 21 = .ok (.bipush 12, 2) := by decide +kernel
theorem dX7_init_23 : decode cX7_init 23 = .ok (.newarray .int, 2) := by decide +kernel
theorem dX7_init_25 : decode cX7_init 25 = .ok (.putfield 16, 3) := by decide +kernel
theorem dX7_init_28 : decode cX7_init 28 = .ok (.aload_n 0, 1) := by decide +kernel
theorem dX7_init_29 : decode cX7_init 29 = .ok (.bipush 7, 2) := by decide +kernel
theorem dX7_init_31 : decode cX7_init 31 = .ok (.newarray .int, 2) := by decide +kernel
theorem dX7_init_33 : decode cX7_init 33 = .ok (.putfield 19, 3) := by decide +kernel
theorem dX7_init_36 : decode cX7_init 36 = .ok (.aload_n 0, 1) := by decide +kernel
theorem dX7_init_37 : decode cX7_init 37 = .ok (.bipush 7, 2) := by decide +kernel
theorem dX7_init_39 : decode cX7_init 39 = .ok (.newarray .int, 2) := by decide +kernel
theorem dX7_init_41 : decode cX7_init 41 = .ok (.putfield 22, 3) := by decide +kernel
theorem dX7_init_44 : decode cX7_init 44 = .ok (.aload_n 0, 1) := by decide +kernel
theorem dX7_init_45 : decode cX7_init 45 = .ok (.bipush 56, 2) := by decide +kernel
theorem dX7_init_47 : decode cX7_init 47 = .ok (.newarray .int, 2) := by decide +kernel
theorem dX7_init_49 : decode cX7_init 49 = .ok (.putfield 25, 3) := by decide +kernel
theorem dX7_init_52 : decode cX7_init 52 = .ok (.aload_n 0, 1) := by decide +kernel
theorem dX7_init_53 : decode cX7_init 53 = .ok (.bipush 14, 2) := by decide +kernel
theorem dX7_init_55 : decode cX7_init 55 = .ok (.newarray .int, 2) := by decide +kernel
theorem dX7_init_57 : decode cX7_init 57 = .ok (.putfield 28, 3) := by decide +kernel
theorem dX7_init_60 : decode cX7_init 60 = .ok (.aload_n 0, 1) := by decide +kernel
theorem dX7_init_61 : decode cX7_init 61 = .ok (.bipush 18, 2) := by decide +kernel
theorem dX7_init_63 : decode cX7_init 63 = .ok (.newarray .int, 2) := by decide +kernel
theorem dX7_init_65 : decode cX7_init 65 = .ok (.putfield 31, 3) := by decide +kernel
theorem dX7_init_68 : decode cX7_init 68 = .ok (.aload_n 0, 1) := by decide +kernel
theorem dX7_init_69 : decode cX7_init 69 = .ok (.sipush 200, 3) := by decide +kernel
theorem dX7_init_72 : decode cX7_init 72 = .ok (.newarray .int, 2) := by decide +kernel
theorem dX7_init_74 : decode cX7_init 74 = .ok (.putfield 34, 3) := by decide +kernel
theorem dX7_init_77 : decode cX7_init 77 = .ok (.aload_n 0, 1) := by decide +kernel
theorem dX7_init_78 : decode cX7_init 78 = .ok (.iconst 4, 1) := by decide +kernel
theorem dX7_init_79 : decode cX7_init 79 = .ok (.newarray .int, 2) := by decide +kernel
theorem dX7_init_81 : decode cX7_init 81 = .ok (.putfield 37, 3) := by decide +kernel
theorem dX7_init_84 : decode cX7_init 84 = .ok (.aload_n 0, 1) := by decide +kernel
theorem dX7_init_85 : decode cX7_init 85 = .ok (.bipush 21, 2) := by decide +kernel
theorem dX7_init_87 : decode cX7_init 87 = .ok (.newarray .int, 2) := by decide +kernel
theorem dX7_init_89 : decode cX7_init 89 = .ok (.putfield 40, 3) := by decide +kernel
theorem dX7_init_92 : decode cX7_init 92 = .ok (.aload_n 0, 1) := by decide +kernel
theorem dX7_init_93 : decode cX7_init 93 = .ok (.bipush 10, 2) := by decide +kernel
theorem dX7_init_95 : decode cX7_init 95 = .ok (.newarray .int, 2) := by decide +kernel
theorem dX7_init_97 : decode cX7_init 97 = .ok (.putfield 43, 3) := by decide +kernel
theorem dX7_init_100 : decode cX7_init 100 = .ok (.aload_n 0, 1) := by decide +kernel
theorem dX7_init_101 : decode cX7_init 101 = .ok (.bipush 12, 2) := by decide +kernel
theorem dX7_init_103 : decode cX7_init 103 = .ok (.newarray .int, 2) := by decide +kernel
theorem dX7_init_105 : decode cX7_init 105 = .ok (.putfield 46, 3) := by decide +kernel
theorem dX7_init_108 : decode cX7_init 108 = .ok (.aload_n 0, 1) := by decide +kernel
theorem dX7_init_109 : decode cX7_init 109 = .ok (.bipush 7, 2) := by decide +kernel
theorem dX7_init_111 : decode cX7_init 111 = .ok (.newarray .int, 2) := by decide +kernel
theorem dX7_init_113 : decode cX7_init 113 = .ok (.putfield 49, 3) := by decide +kernel
theorem dX7_init_116 : decode cX7_init 116 = .ok (.aload_n 0, 1) := by decide +kernel
theorem dX7_init_117 : decode cX7_init 117 = .ok (.bipush 7, 2) := by decide +kernel
theorem dX7_init_119 : decode cX7_init 119 = .ok (.newarray .int, 2) := by decide +kernel
theorem dX7_init_121 : decode cX7_init 121 = .ok (.putfield 52, 3) := by decide +kernel
theorem dX7_init_124 : decode cX7_init 124 = .ok (.aload_n 0, 1) := by decide +kernel
theorem dX7_init_125 : decode cX7_init 125 = .ok (.bipush 7, 2) := by decide +kernel
theorem dX7_init_127 : decode cX7_init 127 = .ok (.newarray .int, 2) := by decide +kernel
theorem dX7_init_129 : decode cX7_init 129 = .ok (.putfield 55, 3) := by decide +kernel
theorem dX7_init_132 : decode cX7_init 132 = .ok (.aload_n 0, 1) := by decide +kernel
theorem dX7_init_133 : decode cX7_init 133 = .ok (.bipush 49, 2) := by decide +kernel
theorem dX7_init_135 : decode cX7_init 135 = .ok (.newarray .int, 2) := by decide +kernel
theorem dX7_init_137 : decode cX7_init 137 = .ok (.putfield 58, 3) := by decide +kernel
theorem dX7_init_140 : decode cX7_init 140 = .ok (.aload_n 0, 1) := by decide +kernel
theorem dX7_init_141 : decode cX7_init 141 = .ok (.bipush 7, 2) := by decide +kernel
theorem dX7_init_143 : decode cX7_init 143 = .ok (.newarray .int, 2) := by decide +kernel
theorem dX7_init_145 : decode cX7_init 145 = .ok (.putfield 61, 3) := by decide +kernel
theorem dX7_init_148 : decode cX7_init 148 = .ok (.aload_n 0, 1) := by decide +kernel
theorem dX7_init_149 : decode cX7_init 149 = .ok (.invokevirtual 64, 3) := by decide +kernel
theorem dX7_init_152 : decode cX7_init 152 = .ok (.aload_n 0, 1) := by decide +kernel
theorem dX7_init_153 : decode cX7_init 153 = .ok (.iconst 0, 1) := by decide +kernel
theorem dX7_init_154 : decode cX7_init 154 = .ok (.bipush 7, 2) := by decide +kernel
theorem dX7_init_156 : decode cX7_init 156 = .ok (.iconst 0, 1) := by decide +kernel
theorem dX7_init_157 : decode cX7_init 157 = .ok (.invokevirtual 67, 3) := by decide +kernel
theorem dX7_init_160 : decode cX7_init 160 = .ok (.aload_n 0, 1) := by decide +kernel
theorem dX7_init_161 : decode cX7_init 161 = .ok (.iconst 0, 1) := by decide +kernel
theorem dX7_init_162 : decode cX7_init 162 = .ok (.iconst 3, 1) := by decide +kernel
theorem dX7_init_163 : decode cX7_init 163 = .ok (.iconst 1, 1) := by decide +kernel
theorem dX7_init_164 : decode cX7_init 164 = .ok (.invokevirtual 67, 3) := by decide +kernel
theorem dX7_init_167 : decode cX7_init 167 = .ok (.aload_n 0, 1) := by decide +kernel
theorem dX7_init_168 : decode cX7_init 168 = .ok (.iconst 1, 1) := by decide +kernel
theorem dX7_init_169 : decode cX7_init 169 = .ok (.iconst 4, 1) := by decide +kernel
theorem dX7_init_170 : decode cX7_init 170 = .ok (.iconst 0, 1) := by decide +kernel
theorem dX7_init_171 : decode cX7_init 171 = .ok (.invokevirtual 67, 3) := by decide +kernel
theorem dX7_init_174 : decode cX7_init 174 = .ok (.aload_n 0, 1) := by decide +kernel
theorem dX7_init_175 : decode cX7_init 175 = .ok (.iconst 2, 1) := by decide +kernel
theorem dX7_init_176 : decode cX7_init 176 = .ok (.bipush 6, 2) := by decide +kernel
theorem dX7_init_178 : decode cX7_init 178 = .ok (.iconst 1, 1) := by decide +kernel
theorem dX7_init_179 : decode cX7_init 179 = .ok (.invokevirtual 67, 3) := by decide +kernel
theorem dX7_init_182 : decode cX7_init 182 = .ok (.aload_n 0, 1) := by decide +kernel
theorem dX7_init_183 : decode cX7_init 183 = .ok (.iconst 3, 1) := by decide +kernel
theorem dX7_init_184 : decode cX7_init 184 = .ok (.bipush 9, 2) := by decide +kernel
theorem dX7_init_186 : decode cX7_init 186 = .ok (.iconst 3, 1) := by decide +kernel
theorem dX7_init_187 : decode cX7_init 187 = .ok (.invokevirtual 67, 3) := by decide +kernel
theorem dX7_init_190 : decode cX7_init 190 = .ok (.aload_n 0, 1) := by decide +kernel
theorem dX7_init_191 : decode cX7_init 191 = .ok (.getfield 43, 3) := by decide +kernel
theorem dX7_init_194 : decode cX7_init 194 = .ok (.iconst 1, 1) := by decide +kernel
theorem dX7_init_195 : decode cX7_init 195 = .ok (.iconst 1, 1) := by decide +kernel
theorem dX7_init_196 : decode cX7_init 196 = .ok (.iastore, 1) := by decide +kernel
theorem dX7_init_197 : decode cX7_init 197 = .ok (.aload_n 0, 1) := by decide +kernel
theorem dX7_init_198 : decode cX7_init 198 = .ok (.getfield 43, 3) := by decide +kernel
theorem dX7_init_201 : decode cX7_init 201 = .ok (.iconst 3, 1) := by decide +kernel
theorem dX7_init_202 : decode cX7_init 202 = .ok (.iconst 2, 1) := by decide +kernel
theorem dX7_init_203 : decode cX7_init 203 = .ok (.iastore, 1) := by decide +kernel
theorem dX7_init_204 : decode cX7_init 204 = .ok (.aload_n 0, 1) := by decide +kernel
theorem dX7_init_205 : decode cX7_init 205 = .ok (.getfield 43, 3) := by decide +kernel
theorem dX7_init_208 : decode cX7_init 208 = .ok (.iconst 5, 1) := by decide +kernel
theorem dX7_init_209 : decode cX7_init 209 = .ok (.iconst 3, 1) := by decide +kernel
theorem dX7_init_210 : decode cX7_init 210 = .ok (.iastore, 1) := by decide +kernel
theorem dX7_init_211 : decode cX7_init 211 = .ok (.aload_n 0, 1) := by decide +kernel
theorem dX7_init_212 : decode cX7_init 212 = .ok (.getfield 43, 3) := by decide +kernel
theorem dX7_init_215 : decode cX7_init 215 = .ok (.bipush 7, 2) := by decide +kernel
theorem dX7_init_217 : decode cX7_init 217 = .ok (.iconst 0, 1) := by decide +kernel
theorem dX7_init_218 : decode cX7_init 218 = .ok (.iastore, 1) := by decide +kernel
theorem dX7_init_219 : decode cX7_init 219 = .ok (.aload_n 0, 1) := by decide +kernel
theorem dX7_init_220 : decode cX7_init 220 = .ok (.iconst 5, 1) := by decide +kernel
theorem dX7_init_221 : decode cX7_init 221 = .ok (.iconst 3, 1) := by decide +kernel
theorem dX7_init_222 : decode cX7_init 222 = .ok (.invokevirtual 71, 3) := by decide +kernel
theorem dX7_init_225 : decode cX7_init 225 = .ok (.aload_n 0, 1) := by decide +kernel
theorem dX7_init_226 : decode cX7_init 226 = .ok (.bipush 7, 2) := by decide +kernel
theorem dX7_init_228 : decode cX7_init 228 = .ok (.bipush 7, 2) := by decide +kernel
theorem dX7_init_230 : decode cX7_init 230 = .ok (.invokevirtual 71, 3) := by decide +kernel
theorem dX7_init_233 : decode cX7_init 233 = .ok (.aload_n 0, 1) := by decide +kernel
theorem dX7_init_234 : decode cX7_init 234 = .ok (.iconst 2, 1) := by decide +kernel
theorem dX7_init_235 : decode cX7_init 235 = .ok (.bipush 6, 2) := by decide +kernel
theorem dX7_init_237 : decode cX7_init 237 = .ok (.invokevirtual 71, 3) := by decide +kernel
theorem dX7_init_240 : decode cX7_init 240 = .ok (.aload_n 0, 1) := by decide +kernel
theorem dX7_init_241 : decode cX7_init 241 = .ok (.invokevirtual 75, 3) := by decide +kernel
theorem dX7_init_244 : decode cX7_init 244 = .ok (.return_, 1) := by decide +kernel
theorem dX7_tellsPeg_0 : decode cX7_tellsPeg 0 = .ok (.aload_n 0, 1) := by decide +kernel
theorem dX7_tellsPeg_1 : decode cX7_tellsPeg 1 = .ok (.getfield 40, 3) := by decide +kernel
theorem dX7_tellsPeg_4 : decode cX7_tellsPeg 4 = .ok (.iconst 3, 1) := by decide +kernel
theorem dX7_tellsPeg_5 : decode cX7_tellsPeg 5 = .ok (.aload_n 0, 1) := by decide +kernel
theorem dX7_tellsPeg_6 : decode cX7_tellsPeg 6 = .ok (.getfield 78, 3) := by decide +kernel
theorem dX7_tellsPeg_9 : decode cX7_tellsPeg 9 = .ok (.imul, 1) := by decide +kernel
theorem dX7_tellsPeg_10 : decode cX7_tellsPeg 10 = .ok (.iload_n 1, 1) := by decide +kernel
theorem dX7_tellsPeg_11 : decode cX7_tellsPeg 11 = .ok (.iastore, 1) := by decide +kernel
theorem dX7_tellsPeg_12 : decode cX7_tellsPeg 12 = .ok (.aload_n 0, 1) := by decide +kernel
theorem dX7_tellsPeg_13 : decode cX7_tellsPeg 13 = .ok (.getfield 40, 3) := by decide +kernel
theorem dX7_tellsPeg_16 : decode cX7_tellsPeg 16 = .ok (.iconst 3, 1) := by decide +kernel
theorem dX7_tellsPeg_17 : decode cX7_tellsPeg 17 = .ok (.aload_n 0, 1) := by decide +kernel
theorem dX7_tellsPeg_18 : decode cX7_tellsPeg 18 = .ok (.getfield 78, 3) := by decide +kernel
theorem dX7_tellsPeg_21 : decode cX7_tellsPeg 21 = .ok (.imul, 1) := by decide +kernel
theorem dX7_tellsPeg_22 : decode cX7_tellsPeg 22 = .ok (.iconst 1, 1) := by decide +kernel
theorem dX7_tellsPeg_23 : decode cX7_tellsPeg 23 = .ok (.iadd, 1) := by decide +kernel
theorem dX7_tellsPeg_24 : decode cX7_tellsPeg 24 = .ok (.iload_n 2, 1) := by decide +kernel
theorem dX7_tellsPeg_25 : decode cX7_tellsPeg 25 = .ok (.iastore, 1) := by decide +kernel
theorem dX7_tellsPeg_26 : decode cX7_tellsPeg 26 = .ok (.aload_n 0, 1) := by decide +kernel
theorem dX7_tellsPeg_27 : decode cX7_tellsPeg 27 = .ok (.getfield 40, 3) := by decide +kernel
theorem dX7_tellsPeg_30 : decode cX7_tellsPeg 30 = .ok (.iconst 3, 1) := by decide +kernel
theorem dX7_tellsPeg_31 : decode cX7_tellsPeg 31 = .ok (.aload_n 0, 1) := by decide +kernel
theorem dX7_tellsPeg_32 : decode cX7_tellsPeg 32 = .ok (.getfield 78, 3) := by decide +kernel
theorem dX7_tellsPeg_35 : decode cX7_tellsPeg 35 = .ok (.imul, 1) := by decide +kernel
theorem dX7_tellsPeg_36 : decode cX7_tellsPeg 36 = .ok (.iconst 2, 1) := by decide +kernel
theorem dX7_tellsPeg_37 : decode cX7_tellsPeg 37 = .ok (.iadd, 1) := by decide +kernel
theorem dX7_tellsPeg_38 : decode cX7_tellsPeg 38 = .ok (.iload_n 3, 1) := by decide +kernel
theorem dX7_tellsPeg_39 : decode cX7_tellsPeg 39 = .ok (.iastore, 1) := by decide +kernel
theorem dX7_tellsPeg_40 : decode cX7_tellsPeg 40 = .ok (.aload_n 0, 1) := by decide +kernel
theorem dX7_tellsPeg_41 : decode cX7_tellsPeg 41 = .ok (.dup, 1) := by decide +kernel
theorem dX7_tellsPeg_42 : decode cX7_tellsPeg 42 = .ok (.getfield 78, 3) := by decide +kernel
theorem dX7_tellsPeg_45 : decode cX7_tellsPeg 45 = .ok (.iconst 1, 1) := by decide +kernel
theorem dX7_tellsPeg_46 : decode cX7_tellsPeg 46 = .ok (.iadd, 1) := by decide +kernel
theorem dX7_tellsPeg_47 : decode cX7_tellsPeg 47 = .ok (.putfield 78, 3) := by decide +kernel
theorem dX7_tellsPeg_50 : decode cX7_tellsPeg 50 = .ok (.return_, 1) := by decide +kernel
theorem dX7_tellsRoof_0 : decode cX7_tellsRoof 0 = .ok (.aload_n 0, 1) := by decide +kernel
theorem dX7_tellsRoof_1 : decode cX7_tellsRoof 1 = .ok (.getfield 46, 3) := by decide +kernel
theorem dX7_tellsRoof_4 : decode cX7_tellsRoof 4 = .ok (.iconst 2, 1) := by decide +kernel
theorem dX7_tellsRoof_5 : decode cX7_tellsRoof 5 = .ok (.aload_n 0, 1) := by decide +kernel
theorem dX7_tellsRoof_6 : decode cX7_tellsRoof 6 = .ok (.getfield 82, 3) := by decide +kernel
theorem dX7_tellsRoof_9 : decode cX7_tellsRoof 9 = .ok (.imul, 1) := by decide +kernel
theorem dX7_tellsRoof_10 : decode cX7_tellsRoof 10 = .ok (.iload_n 1, 1) := by decide +kernel
theorem dX7_tellsRoof_11 : decode cX7_tellsRoof 11 = .ok (.iastore, 1) := by decide +kernel
theorem dX7_tellsRoof_12 : decode cX7_tellsRoof 12 = .ok (.aload_n 0, 1) := by decide +kernel
theorem dX7_tellsRoof_13 : decode cX7_tellsRoof 13 = .ok (.getfield 46, 3) := by decide +kernel
theorem dX7_tellsRoof_16 : decode cX7_tellsRoof 16 = .ok (.iconst 2, 1) := by decide +kernel
theorem dX7_tellsRoof_17 : decode cX7_tellsRoof 17 = .ok (.aload_n 0, 1) := by decide +kernel
theorem dX7_tellsRoof_18 : decode cX7_tellsRoof 18 = .ok (.getfield 82, 3) := by decide +kernel
theorem dX7_tellsRoof_21 : decode cX7_tellsRoof 21 = .ok (.imul, 1) := by decide +kernel
theorem dX7_tellsRoof_22 : decode cX7_tellsRoof 22 = .ok (.iconst 1, 1) := by decide +kernel
theorem dX7_tellsRoof_23 : decode cX7_tellsRoof 23 = .ok (.iadd, 1) := by decide +kernel
theorem dX7_tellsRoof_24 : decode cX7_tellsRoof 24 = .ok (.iload_n 2, 1) := by decide +kernel
theorem dX7_tellsRoof_25 : decode cX7_tellsRoof 25 = .ok (.iastore, 1) := by decide +kernel
theorem dX7_tellsRoof_26 : decode cX7_tellsRoof 26 = .ok (.aload_n 0, 1) := by decide +kernel
theorem dX7_tellsRoof_27 : decode cX7_tellsRoof 27 = .ok (.dup, 1) := by decide +kernel
theorem dX7_tellsRoof_28 : decode cX7_tellsRoof 28 = .ok (.getfield 82, 3) := by decide +kernel
theorem dX7_tellsRoof_31 : decode cX7_tellsRoof 31 = .ok (.iconst 1, 1) := by decide +kernel
theorem dX7_tellsRoof_32 : decode cX7_tellsRoof 32 = .ok (.iadd, 1) := by decide +kernel
theorem dX7_tellsRoof_33 : decode cX7_tellsRoof 33 = .ok (.putfield 82, 3) := by decide +kernel
theorem dX7_tellsRoof_36 : decode cX7_tellsRoof 36 = .ok (.return_, 1) := by decide +kernel
theorem dX7_in_0 : decode cX7_in 0 = .ok (.iload_n 0, 1) := by decide +kernel
theorem dX7_in_1 : decode cX7_in 1 = .ok (.iload_n 1, 1) := by decide +kernel
theorem dX7_in_2 : decode cX7_in 2 = .ok (.if_icmp .lt 12, 3) := by decide +kernel
theorem dX7_in_5 : decode cX7_in 5 = .ok (.iload_n 0, 1) := by decide +kernel
theorem dX7_in_6 : decode cX7_in 6 = .ok (.iload_n 2, 1) := by decide +kernel
theorem dX7_in_7 : decode cX7_in 7 = .ok (.if_icmp .gt 7, 3) := by decide +kernel
theorem dX7_in_10 : decode cX7_in 10 = .ok (.iconst 1, 1) := by decide +kernel
theorem dX7_in_11 : decode cX7_in 11 = .ok (.goto 4, 3) := by decide +kernel
theorem dX7_in_14 : decode cX7_in 14 = .ok (.iconst 0, 1) := by decide +kernel
theorem dX7_in_15 : decode cX7_in 15 = .ok (.ireturn, 1) := by decide +kernel
theorem dX7_isPeg_0 : decode cX7_isPeg 0 = .ok (.iload_n 1, 1) := by decide +kernel
theorem dX7_isPeg_1 : decode cX7_isPeg 1 = .ok (.iconst 0, 1) := by decide +kernel
theorem dX7_isPeg_2 : decode cX7_isPeg 2 = .ok (.aload_n 0, 1) := by decide +kernel
theorem dX7_isPeg_3 : decode cX7_isPeg 3 = .ok (.getfield 85, 3) := by decide +kernel
theorem dX7_isPeg_6 : decode cX7_isPeg 6 = .ok (.iconst 1, 1) := by decide +kernel
theorem dX7_isPeg_7 : decode cX7_isPeg 7 = .ok (.isub, 1) := by decide +kernel
theorem dX7_isPeg_8 : decode cX7_isPeg 8 = .ok (.invokestatic 88, 3) := by decide +kernel
theorem dX7_isPeg_11 : decode cX7_isPeg 11 = .ok (.ireturn, 1) := by decide +kernel
theorem dX7_isRoof_0 : decode cX7_isRoof 0 = .ok (.iload_n 1, 1) := by decide +kernel
theorem dX7_isRoof_1 : decode cX7_isRoof 1 = .ok (.iconst 0, 1) := by decide +kernel
theorem dX7_isRoof_2 : decode cX7_isRoof 2 = .ok (.aload_n 0, 1) := by decide +kernel
theorem dX7_isRoof_3 : decode cX7_isRoof 3 = .ok (.getfield 92, 3) := by decide +kernel
theorem dX7_isRoof_6 : decode cX7_isRoof 6 = .ok (.iconst 1, 1) := by decide +kernel
theorem dX7_isRoof_7 : decode cX7_isRoof 7 = .ok (.isub, 1) := by decide +kernel
theorem dX7_isRoof_8 : decode cX7_isRoof 8 = .ok (.invokestatic 88, 3) := by decide +kernel
theorem dX7_isRoof_11 : decode cX7_isRoof 11 = .ok (.ireturn, 1) := by decide +kernel
theorem dX7_write_0 : decode cX7_write 0 = .ok (.iload_n 1, 1) := by decide +kernel
theorem dX7_write_1 : decode cX7_write 1 = .ok (.bipush 32, 2) := by decide +kernel
theorem dX7_write_3 : decode cX7_write 3 = .ok (.bipush 126, 2) := by decide +kernel
theorem dX7_write_5 : decode cX7_write 5 = .ok (.invokestatic 88, 3) := by decide +kernel
theorem dX7_write_8 : decode cX7_write 8 = .ok (.ifCond .ne 5, 3) := by decide +kernel
theorem dX7_write_11 : decode cX7_write 11 = .ok (.iconst (-1), 1) := by decide +kernel
theorem dX7_write_12 : decode cX7_write 12 = .ok (.ireturn, 1) := by decide +kernel
theorem dX7_write_13 : decode cX7_write 13 = .ok (.aload_n 0, 1) := by decide +kernel
theorem dX7_write_14 : decode cX7_write 14 = .ok (.getfield 95, 3) := by decide +kernel
theorem dX7_write_17 : decode cX7_write 17 = .ok (.sipush 200, 3) := by decide +kernel
theorem dX7_write_20 : decode cX7_write 20 = .ok (.if_icmp .ne 6, 3) := by decide +kernel
theorem dX7_write_23 : decode cX7_write 23 = .ok (.bipush (-3), 2) := by decide +kernel
theorem dX7_write_25 : decode cX7_write 25 = .ok (.ireturn, 1) := by decide +kernel
theorem dX7_write_26 : decode cX7_write 26 = .ok (.aload_n 0, 1) := by decide +kernel
theorem dX7_write_27 : decode cX7_write 27 = .ok (.getfield 34, 3) := by decide +kernel
theorem dX7_write_30 : decode cX7_write 30 = .ok (.aload_n 0, 1) := by decide +kernel
theorem dX7_write_31 : decode cX7_write 31 = .ok (.getfield 95, 3) := by decide +kernel
theorem dX7_write_34 : decode cX7_write 34 = .ok (.iload_n 1, 1) := by decide +kernel
theorem dX7_write_35 : decode cX7_write 35 = .ok (.iastore, 1) := by decide +kernel
theorem dX7_write_36 : decode cX7_write 36 = .ok (.aload_n 0, 1) := by decide +kernel
theorem dX7_write_37 : decode cX7_write 37 = .ok (.dup, 1) := by decide +kernel
theorem dX7_write_38 : decode cX7_write 38 = .ok (.getfield 95, 3) := by decide +kernel
theorem dX7_write_41 : decode cX7_write 41 = .ok (.iconst 1, 1) := by decide +kernel
theorem dX7_write_42 : decode cX7_write 42 = .ok (.iadd, 1) := by decide +kernel
theorem dX7_write_43 : decode cX7_write 43 = .ok (.putfield 95, 3) := by decide +kernel
theorem dX7_write_46 : decode cX7_write 46 = .ok (.aload_n 0, 1) := by decide +kernel
theorem dX7_write_47 : decode cX7_write 47 = .ok (.getfield 95, 3) := by decide +kernel
theorem dX7_write_50 : decode cX7_write 50 = .ok (.ireturn, 1) := by decide +kernel
theorem dX7_wipe_0 : decode cX7_wipe 0 = .ok (.aload_n 0, 1) := by decide +kernel
theorem dX7_wipe_1 : decode cX7_wipe 1 = .ok (.getfield 95, 3) := by decide +kernel
theorem dX7_wipe_4 : decode cX7_wipe 4 = .ok (.istore_n 1, 1) := by decide +kernel
theorem dX7_wipe_5 : decode cX7_wipe 5 = .ok (.aload_n 0, 1) := by decide +kernel
theorem dX7_wipe_6 : decode cX7_wipe 6 = .ok (.iconst 0, 1) := by decide +kernel
theorem dX7_wipe_7 : decode cX7_wipe 7 = .ok (.putfield 95, 3) := by decide +kernel
theorem dX7_wipe_10 : decode cX7_wipe 10 = .ok (.iload_n 1, 1) := by decide +kernel
theorem dX7_wipe_11 : decode cX7_wipe 11 = .ok (.ireturn, 1) := by decide +kernel
theorem dX7_letterAt_0 : decode cX7_letterAt 0 = .ok (.iload_n 1, 1) := by decide +kernel
theorem dX7_letterAt_1 : decode cX7_letterAt 1 = .ok (.aload_n 0, 1) := by decide +kernel
theorem dX7_letterAt_2 : decode cX7_letterAt 2 = .ok (.getfield 95, 3) := by decide +kernel
theorem dX7_letterAt_5 : decode cX7_letterAt 5 = .ok (.if_icmp .ge 12, 3) := by decide +kernel
theorem dX7_letterAt_8 : decode cX7_letterAt 8 = .ok (.aload_n 0, 1) := by decide +kernel
theorem dX7_letterAt_9 : decode cX7_letterAt 9 = .ok (.getfield 34, 3) := by decide +kernel
theorem dX7_letterAt_12 : decode cX7_letterAt 12 = .ok (.iload_n 1, 1) := by decide +kernel
theorem dX7_letterAt_13 : decode cX7_letterAt 13 = .ok (.iaload, 1) := by decide +kernel
theorem dX7_letterAt_14 : decode cX7_letterAt 14 = .ok (.goto 4, 3) := by decide +kernel
theorem dX7_letterAt_17 : decode cX7_letterAt 17 = .ok (.iconst (-1), 1) := by decide +kernel
theorem dX7_letterAt_18 : decode cX7_letterAt 18 = .ok (.ireturn, 1) := by decide +kernel
theorem dX7_isFigure_0 : decode cX7_isFigure 0 = .ok (.iload_n 0, 1) := by decide +kernel
theorem dX7_isFigure_1 : decode cX7_isFigure 1 = .ok (.bipush 48, 2) := by decide +kernel
theorem dX7_isFigure_3 : decode cX7_isFigure 3 = .ok (.bipush 57, 2) := by decide +kernel
