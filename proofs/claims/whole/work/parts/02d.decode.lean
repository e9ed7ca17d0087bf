theorem dX7_hold_84 : decode cX7_hold 84 = .ok (.isub, 1) := by decide +kernel
theorem dX7_hold_85 : decode cX7_hold 85 = .ok (.putfield 81, 3) := by decide +kernel
theorem dX7_hold_88 : decode cX7_hold 88 = .ok (.aload_n 0, 1) := by decide +kernel
theorem dX7_hold_89 : decode cX7_hold 89 = .ok (.dup, 1) := by decide +kernel
theorem dX7_hold_90 : decode cX7_hold 90 = .ok (.getfield 72, 3) := by decide +kernel
theorem dX7_hold_93 : decode cX7_hold 93 = .ok (.lload_n 3, 1) := by decide +kernel
theorem dX7_hold_94 : decode cX7_hold 94 = .ok (.aload_n 0, 1) := by decide +kernel
theorem dX7_hold_95 : decode cX7_hold 95 = .ok (.invokevirtual 142, 3) := by decide +kernel
theorem dX7_hold_98 : decode cX7_hold 98 = .ok (.lsub, 1) := by decide +kernel
theorem dX7_hold_99 : decode cX7_hold 99 = .ok (.ladd, 1) := by decide +kernel
theorem dX7_hold_100 : decode cX7_hold 100 = .ok (.putfield 72, 3) := by decide +kernel
theorem dX7_hold_103 : decode cX7_hold 103 = .ok (.aload_n 0, 1) := by decide +kernel
theorem dX7_hold_104 : decode cX7_hold 104 = .ok (.getfield 81, 3) := by decide +kernel
theorem dX7_hold_107 : decode cX7_hold 107 = .ok (.ireturn, 1) := by decide +kernel
theorem dX7_fill_0 : decode cX7_fill 0 = .ok (.aload_n 0, 1) := by decide +kernel
theorem dX7_fill_1 : decode cX7_fill 1 = .ok (.iload_n 1, 1) := by decide +kernel
theorem dX7_fill_2 : decode cX7_fill 2 = .ok (.invokevirtual 154, 3) := by decide +kernel
theorem dX7_fill_5 : decode cX7_fill 5 = .ok (.ifCond .ne 6, 3) := by decide +kernel
theorem dX7_fill_8 : decode cX7_fill 8 = .ok (.bipush (-2), 2) := by decide +kernel
theorem dX7_fill_10 : decode cX7_fill 10 = .ok (.ireturn, 1) := by decide +kernel
theorem dX7_fill_11 : decode cX7_fill 11 = .ok (.aload_n 0, 1) := by decide +kernel
theorem dX7_fill_12 : decode cX7_fill 12 = .ok (.invokevirtual 158, 3) := by decide +kernel
theorem dX7_fill_15 : decode cX7_fill 15 = .ok (.ifCond .eq 11, 3) := by decide +kernel
theorem dX7_fill_18 : decode cX7_fill 18 = .ok (.aload_n 0, 1) := by decide +kernel
theorem dX7_fill_19 : decode cX7_fill 19 = .ok (.iload_n 1, 1) := by decide +kernel
theorem dX7_fill_20 : decode cX7_fill 20 = .ok (.invokevirtual 161, 3) := by decide +kernel
theorem dX7_fill_23 : decode cX7_fill 23 = .ok (.ifCond .eq 6, 3) := by decide +kernel
theorem dX7_fill_26 : decode cX7_fill 26 = .ok (.bipush (-4), 2) := by decide +kernel
theorem dX7_fill_28 : decode cX7_fill 28 = .ok (.ireturn, 1) := by decide +kernel
theorem dX7_fill_29 : decode cX7_fill 29 = .ok (.aload_n 0, 1) := by decide +kernel
theorem dX7_fill_30 : decode cX7_fill 30 = .ok (.invokevirtual 142, 3) := by decide +kernel
theorem dX7_fill_33 : decode cX7_fill 33 = .ok (.lstore_n 2, 1) := by decide +kernel
theorem dX7_fill_34 : decode cX7_fill 34 = .ok (.aload_n 0, 1) := by decide +kernel
theorem dX7_fill_35 : decode cX7_fill 35 = .ok (.getfield 25, 3) := by decide +kernel
theorem dX7_fill_38 : decode cX7_fill 38 = .ok (.iload_n 1, 1) := by decide +kernel
theorem dX7_fill_39 : decode cX7_fill 39 = .ok (.aload_n 0, 1) := by decide +kernel
theorem dX7_fill_40 : decode cX7_fill 40 = .ok (.getfield 78, 3) := by decide +kernel
theorem dX7_fill_43 : decode cX7_fill 43 = .ok (.invokevirtual 164, 3) := by decide +kernel
theorem dX7_fill_46 : decode cX7_fill 46 = .ok (.istore 4, 2) := by decide +kernel
theorem dX7_fill_48 : decode cX7_fill 48 = .ok (.aload_n 0, 1) := by decide +kernel
theorem dX7_fill_49 : decode cX7_fill 49 = .ok (.getfield 18, 3) := by decide +kernel
theorem dX7_fill_52 : decode cX7_fill 52 = .ok (.iload_n 1, 1) := by decide +kernel
theorem dX7_fill_53 : decode cX7_fill 53 = .ok (.aaload, 1) := by decide +kernel
theorem dX7_fill_54 : decode cX7_fill 54 = .ok (.iload 4, 2) := by decide +kernel
theorem dX7_fill_56 : decode cX7_fill 56 = .ok (.putfield 167, 3) := by decide +kernel
theorem dX7_fill_59 : decode cX7_fill 59 = .ok (.aload_n 0, 1) := by decide +kernel
theorem dX7_fill_60 : decode cX7_fill 60 = .ok (.dup, 1) := by decide +kernel
theorem dX7_fill_61 : decode cX7_fill 61 = .ok (.getfield 65, 3) := by decide +kernel
theorem dX7_fill_64 : decode cX7_fill 64 = .ok (.iload 4, 2) := by decide +kernel
theorem dX7_fill_66 : decode cX7_fill 66 = .ok (.iadd, 1) := by decide +kernel
theorem dX7_fill_67 : decode cX7_fill 67 = .ok (.putfield 65, 3) := by decide +kernel
theorem dX7_fill_70 : decode cX7_fill 70 = .ok (.aload_n 0, 1) := by decide +kernel
theorem dX7_fill_71 : decode cX7_fill 71 = .ok (.dup, 1) := by decide +kernel
theorem dX7_fill_72 : decode cX7_fill 72 = .ok (.getfield 62, 3) := by decide +kernel
theorem dX7_fill_75 : decode cX7_fill 75 = .ok (.iconst 1, 1) := by decide +kernel
theorem dX7_fill_76 : decode cX7_fill 76 = .ok (.iload_n 1, 1) := by decide +kernel
theorem dX7_fill_77 : decode cX7_fill 77 = .ok (.ishl, 1) := by decide +kernel
theorem dX7_fill_78 : decode cX7_fill 78 = .ok (.ior, 1) := by decide +kernel
theorem dX7_fill_79 : decode cX7_fill 79 = .ok (.putfield 62, 3) := by decide +kernel
theorem dX7_fill_82 : decode cX7_fill 82 = .ok (.aload_n 0, 1) := by decide +kernel
theorem dX7_fill_83 : decode cX7_fill 83 = .ok (.invokevirtual 110, 3) := by decide +kernel
theorem dX7_fill_86 : decode cX7_fill 86 = .ok (.aload_n 0, 1) := by decide +kernel
theorem dX7_fill_87 : decode cX7_fill 87 = .ok (.dup, 1) := by decide +kernel
theorem dX7_fill_88 : decode cX7_fill 88 = .ok (.getfield 72, 3) := by decide +kernel
theorem dX7_fill_91 : decode cX7_fill 91 = .ok (.lload_n 2, 1) := by decide +kernel
theorem dX7_fill_92 : decode cX7_fill 92 = .ok (.aload_n 0, 1) := by decide +kernel
theorem dX7_fill_93 : decode cX7_fill 93 = .ok (.invokevirtual 142, 3) := by decide +kernel
theorem dX7_fill_96 : decode cX7_fill 96 = .ok (.lsub, 1) := by decide +kernel
theorem dX7_fill_97 : decode cX7_fill 97 = .ok (.ladd, 1) := by decide +kernel
theorem dX7_fill_98 : decode cX7_fill 98 = .ok (.putfield 72, 3) := by decide +kernel
theorem dX7_fill_101 : decode cX7_fill 101 = .ok (.iload 4, 2) := by decide +kernel
theorem dX7_fill_103 : decode cX7_fill 103 = .ok (.ireturn, 1) := by decide +kernel
theorem dX7_unit_0 : decode cX7_unit 0 = .ok (.aload_n 0, 1) := by decide +kernel
theorem dX7_unit_1 : decode cX7_unit 1 = .ok (.getfield 58, 3) := by decide +kernel
theorem dX7_unit_4 : decode cX7_unit 4 = .ok (.ifCond .eq 20, 3) := by decide +kernel
theorem dX7_unit_7 : decode cX7_unit 7 = .ok (.aload_n 0, 1) := by decide +kernel
theorem dX7_unit_8 : decode cX7_unit 8 = .ok (.getfield 25, 3) := by decide +kernel
theorem dX7_unit_11 : decode cX7_unit 11 = .ok (.getfield 170, 3) := by decide +kernel
theorem dX7_unit_14 : decode cX7_unit 14 = .ok (.aload_n 0, 1) := by decide +kernel
theorem dX7_unit_15 : decode cX7_unit 15 = .ok (.invokevirtual 174, 3) := by decide +kernel
theorem dX7_unit_18 : decode cX7_unit 18 = .ok (.invokestatic 178, 3) := by decide +kernel
theorem dX7_unit_21 : decode cX7_unit 21 = .ok (.goto 6, 3) := by decide +kernel
theorem dX7_unit_24 : decode cX7_unit 24 = .ok (.ldc2_w 181, 3) := by decide +kernel
theorem dX7_unit_27 : decode cX7_unit 27 = .ok (.lreturn, 1) := by decide +kernel
theorem dX7_worth_0 : decode cX7_worth 0 = .ok (.aload_n 0, 1) := by decide +kernel
theorem dX7_worth_1 : decode cX7_worth 1 = .ok (.getfield 58, 3) := by decide +kernel
theorem dX7_worth_4 : decode cX7_worth 4 = .ok (.ifCond .eq 10, 3) := by decide +kernel
theorem dX7_worth_7 : decode cX7_worth 7 = .ok (.aload_n 0, 1) := by decide +kernel
theorem dX7_worth_8 : decode cX7_worth 8 = .ok (.invokevirtual 183, 3) := by decide +kernel
theorem dX7_worth_11 : decode cX7_worth 11 = .ok (.goto 6, 3) := by decide +kernel
theorem dX7_worth_14 : decode cX7_worth 14 = .ok (.ldc2_w 181, 3) := by decide +kernel
theorem dX7_worth_17 : decode cX7_worth 17 = .ok (.lreturn, 1) := by decide +kernel
theorem dX7_worthOf_0 : decode cX7_worthOf 0 = .ok (.aload_n 0, 1) := by decide +kernel
theorem dX7_worthOf_1 : decode cX7_worthOf 1 = .ok (.invokevirtual 136, 3) := by decide +kernel
theorem dX7_worthOf_4 : decode cX7_worthOf 4 = .ok (.ifCond .ne 7, 3) := by decide +kernel
theorem dX7_worthOf_7 : decode cX7_worthOf 7 = .ok (.ldc2_w 181, 3) := by decide +kernel
theorem dX7_worthOf_10 : decode cX7_worthOf 10 = .ok (.lreturn, 1) := by decide +kernel
theorem dX7_worthOf_11 : decode cX7_worthOf 11 = .ok (.aload_n 0, 1) := by decide +kernel
theorem dX7_worthOf_12 : decode cX7_worthOf 12 = .ok (.getfield 25, 3) := by decide +kernel
theorem dX7_worthOf_15 : decode cX7_worthOf 15 = .ok (.getfield 113, 3) := by decide +kernel
theorem dX7_worthOf_18 : decode cX7_worthOf 18 = .ok (.aload_n 0, 1) := by decide +kernel
theorem dX7_worthOf_19 : decode cX7_worthOf 19 = .ok (.getfield 78, 3) := by decide +kernel
theorem dX7_worthOf_22 : decode cX7_worthOf 22 = .ok (.iload_n 1, 1) := by decide +kernel
theorem dX7_worthOf_23 : decode cX7_worthOf 23 = .ok (.invokevirtual 139, 3) := by decide +kernel
theorem dX7_worthOf_26 : decode cX7_worthOf 26 = .ok (.istore_n 2, 1) := by decide +kernel
theorem dX7_worthOf_27 : decode cX7_worthOf 27 = .ok (.iload_n 2, 1) := by decide +kernel
theorem dX7_worthOf_28 : decode cX7_worthOf 28 = .ok (.iconst (-1), 1) := by decide +kernel
theorem dX7_worthOf_29 : decode cX7_worthOf 29 = .ok (.if_icmp .ne 9, 3) := by decide +kernel
theorem dX7_worthOf_32 : decode cX7_worthOf 32 = .ok (.ldc2_w 186, 3) := by decide +kernel
theorem dX7_worthOf_35 : decode cX7_worthOf 35 = .ok (.goto 18, 3) := by decide +kernel
theorem dX7_worthOf_38 : decode cX7_worthOf 38 = .ok (.aload_n 0, 1) := by decide +kernel
theorem dX7_worthOf_39 : decode cX7_worthOf 39 = .ok (.getfield 34, 3) := by decide +kernel
theorem dX7_worthOf_42 : decode cX7_worthOf 42 = .ok (.getfield 188, 3) := by decide +kernel
theorem dX7_worthOf_45 : decode cX7_worthOf 45 = .ok (.iload_n 2, 1) := by decide +kernel
theorem dX7_worthOf_46 : decode cX7_worthOf 46 = .ok (.aload_n 0, 1) := by decide +kernel
theorem dX7_worthOf_47 : decode cX7_worthOf 47 = .ok (.getfield 84, 3) := by decide +kernel
theorem dX7_worthOf_50 : decode cX7_worthOf 50 = .ok (.invokevirtual 192, 3) := by decide +kernel
theorem dX7_worthOf_53 : decode cX7_worthOf 53 = .ok (.lreturn, 1) := by decide +kernel
theorem dX7_bestHold_0 : decode cX7_bestHold 0 = .ok (.aload_n 0, 1) := by decide +kernel
theorem dX7_bestHold_1 : decode cX7_bestHold 1 = .ok (.invokevirtual 136, 3) := by decide +kernel
theorem dX7_bestHold_4 : decode cX7_bestHold 4 = .ok (.ifCond .ne 6, 3) := by decide +kernel
theorem dX7_bestHold_7 : decode cX7_bestHold 7 = .ok (.bipush (-4), 2) := by decide +kernel
theorem dX7_bestHold_9 : decode cX7_bestHold 9 = .ok (.ireturn, 1) := by decide +kernel
theorem dX7_bestHold_10 : decode cX7_bestHold 10 = .ok (.aload_n 0, 1) := by decide +kernel
theorem dX7_bestHold_11 : decode cX7_bestHold 11 = .ok (.getfield 25, 3) := by decide +kernel
theorem dX7_bestHold_14 : decode cX7_bestHold 14 = .ok (.getfield 113, 3) := by decide +kernel
theorem dX7_bestHold_17 : decode cX7_bestHold 17 = .ok (.getfield 198, 3) := by decide +kernel
theorem dX7_bestHold_20 : decode cX7_bestHold 20 = .ok (.aload_n 0, 1) := by decide +kernel
theorem dX7_bestHold_21 : decode cX7_bestHold 21 = .ok (.getfield 34, 3) := by decide +kernel
theorem dX7_bestHold_24 : decode cX7_bestHold 24 = .ok (.getfield 188, 3) := by decide +kernel
theorem dX7_bestHold_27 : decode cX7_bestHold 27 = .ok (.aload_n 0, 1) := by decide +kernel
theorem dX7_bestHold_28 : decode cX7_bestHold 28 = .ok (.getfield 78, 3) := by decide +kernel
theorem dX7_bestHold_31 : decode cX7_bestHold 31 = .ok (.aload_n 0, 1) := by decide +kernel
theorem dX7_bestHold_32 : decode cX7_bestHold 32 = .ok (.getfield 84, 3) := by decide +kernel
theorem dX7_bestHold_35 : decode cX7_bestHold 35 = .ok (.invokevirtual 201, 3) := by decide +kernel
theorem dX7_bestHold_38 : decode cX7_bestHold 38 = .ok (.invokestatic 150, 3) := by decide +kernel
theorem dX7_bestHold_41 : decode cX7_bestHold 41 = .ok (.ireturn, 1) := by decide +kernel
theorem dX7_bestRow_0 : decode cX7_bestRow 0 = .ok (.aload_n 0, 1) := by decide +kernel
theorem dX7_bestRow_1 : decode cX7_bestRow 1 = .ok (.invokevirtual 158, 3) := by decide +kernel
theorem dX7_bestRow_4 : decode cX7_bestRow 4 = .ok (.ifCond .eq 21, 3) := by decide +kernel
theorem dX7_bestRow_7 : decode cX7_bestRow 7 = .ok (.aload_n 0, 1) := by decide +kernel
theorem dX7_bestRow_8 : decode cX7_bestRow 8 = .ok (.getfield 34, 3) := by decide +kernel
theorem dX7_bestRow_11 : decode cX7_bestRow 11 = .ok (.aload_n 0, 1) := by decide +kernel
theorem dX7_bestRow_12 : decode cX7_bestRow 12 = .ok (.getfield 62, 3) := by decide +kernel
theorem dX7_bestRow_15 : decode cX7_bestRow 15 = .ok (.aload_n 0, 1) := by decide +kernel
theorem dX7_bestRow_16 : decode cX7_bestRow 16 = .ok (.getfield 78, 3) := by decide +kernel
theorem dX7_bestRow_19 : decode cX7_bestRow 19 = .ok (.invokevirtual 204, 3) := by decide +kernel
theorem dX7_bestRow_22 : decode cX7_bestRow 22 = .ok (.goto 5, 3) := by decide +kernel
theorem dX7_bestRow_25 : decode cX7_bestRow 25 = .ok (.bipush (-4), 2) := by decide +kernel
theorem dX7_bestRow_27 : decode cX7_bestRow 27 = .ok (.ireturn, 1) := by decide +kernel
theorem dX7_chance_0 : decode cX7_chance 0 = .ok (.iload_n 1, 1) := by decide +kernel
theorem dX7_chance_1 : decode cX7_chance 1 = .ok (.ifCond .lt 10, 3) := by decide +kernel
theorem dX7_chance_4 : decode cX7_chance 4 = .ok (.iload_n 1, 1) := by decide +kernel
theorem dX7_chance_5 : decode cX7_chance 5 = .ok (.sipush 500, 3) := by decide +kernel
theorem dX7_chance_8 : decode cX7_chance 8 = .ok (.if_icmp .le 7, 3) := by decide +kernel
theorem dX7_chance_11 : decode cX7_chance 11 = .ok (.ldc2_w 186, 3) := by decide +kernel
theorem dX7_chance_14 : decode cX7_chance 14 = .ok (.lreturn, 1) := by decide +kernel
theorem dX7_chance_15 : decode cX7_chance 15 = .ok (.aload_n 0, 1) := by decide +kernel
theorem dX7_chance_16 : decode cX7_chance 16 = .ok (.getfield 58, 3) := by decide +kernel
theorem dX7_chance_19 : decode cX7_chance 19 = .ok (.ifCond .ne 7, 3) := by decide +kernel
theorem dX7_chance_22 : decode cX7_chance 22 = .ok (.ldc2_w 181, 3) := by decide +kernel
theorem dX7_chance_25 : decode cX7_chance 25 = .ok (.lreturn, 1) := by decide +kernel
theorem dX7_chance_26 : decode cX7_chance 26 = .ok (.iload_n 1, 1) := by decide +kernel
theorem dX7_chance_27 : decode cX7_chance 27 = .ok (.aload_n 0, 1) := by decide +kernel
theorem dX7_chance_28 : decode cX7_chance 28 = .ok (.getfield 65, 3) := by decide +kernel
theorem dX7_chance_31 : decode cX7_chance 31 = .ok (.isub, 1) := by decide +kernel
theorem dX7_chance_32 : decode cX7_chance 32 = .ok (.istore_n 2, 1) := by decide +kernel
theorem dX7_chance_33 : decode cX7_chance 33 = .ok (.aload_n 0, 1) := by decide +kernel
theorem dX7_chance_34 : decode cX7_chance 34 = .ok (.getfield 75, 3) := by decide +kernel
theorem dX7_chance_37 : decode cX7_chance 37 = .ok (.ifCond .ne 16, 3) := by decide +kernel
theorem dX7_chance_40 : decode cX7_chance 40 = .ok (.aload_n 0, 1) := by decide +kernel
theorem dX7_chance_41 : decode cX7_chance 41 = .ok (.getfield 41, 3) := by decide +kernel
theorem dX7_chance_44 : decode cX7_chance 44 = .ok (.aload_n 0, 1) := by decide +kernel
theorem dX7_chance_45 : decode cX7_chance 45 = .ok (.getfield 62, 3) := by decide +kernel
theorem dX7_chance_48 : decode cX7_chance 48 = .ok (.iload_n 2, 1) := by decide +kernel
theorem dX7_chance_49 : decode cX7_chance 49 = .ok (.invokevirtual 207, 3) := by decide +kernel
theorem dX7_chance_52 : decode cX7_chance 52 = .ok (.lreturn, 1) := by decide +kernel
theorem dX7_chance_53 : decode cX7_chance 53 = .ok (.aload_n 0, 1) := by decide +kernel
theorem dX7_chance_54 : decode cX7_chance 54 = .ok (.getfield 41, 3) := by decide +kernel
theorem dX7_chance_57 : decode cX7_chance 57 = .ok (.aload_n 0, 1) := by decide +kernel
theorem dX7_chance_58 : decode cX7_chance 58 = .ok (.getfield 62, 3) := by decide +kernel
theorem dX7_chance_61 : decode cX7_chance 61 = .ok (.iload_n 2, 1) := by decide +kernel
theorem dX7_chance_62 : decode cX7_chance 62 = .ok (.aload_n 0, 1) := by decide +kernel
theorem dX7_chance_63 : decode cX7_chance 63 = .ok (.getfield 84, 3) := by decide +kernel
theorem dX7_chance_66 : decode cX7_chance 66 = .ok (.invokevirtual 210, 3) := by decide +kernel
theorem dX7_chance_69 : decode cX7_chance 69 = .ok (.astore_n 3, 1) := by decide +kernel
theorem dX7_chance_70 : decode cX7_chance 70 = .ok (.aload_n 0, 1) := by decide +kernel
theorem dX7_chance_71 : decode cX7_chance 71 = .ok (.aload_n 3, 1) := by decide +kernel
theorem dX7_chance_72 : decode cX7_chance 72 = .ok (.invokevirtual 213, 3) := by decide +kernel
theorem dX7_chance_75 : decode cX7_chance 75 = .ok (.lreturn, 1) := by decide +kernel
theorem dX7_luck_0 : decode cX7_luck 0 = .ok (.aload_n 0, 1) := by decide +kernel
theorem dX7_luck_1 : decode cX7_luck 1 = .ok (.getfield 68, 3) := by decide +kernel
theorem dX7_luck_4 : decode cX7_luck 4 = .ok (.lreturn, 1) := by decide +kernel
theorem dX7_slip_0 : decode cX7_slip 0 = .ok (.aload_n 0, 1) := by decide +kernel
theorem dX7_slip_1 : decode cX7_slip 1 = .ok (.getfield 72, 3) := by decide +kernel
theorem dX7_slip_4 : decode cX7_slip 4 = .ok (.lreturn, 1) := by decide +kernel
theorem dX7_points_0 : decode cX7_points 0 = .ok (.aload_n 0, 1) := by decide +kernel
theorem dX7_points_1 : decode cX7_points 1 = .ok (.iload_n 1, 1) := by decide +kernel
theorem dX7_points_2 : decode cX7_points 2 = .ok (.invokevirtual 154, 3) := by decide +kernel
theorem dX7_points_5 : decode cX7_points 5 = .ok (.ifCond .ne 6, 3) := by decide +kernel
theorem dX7_points_8 : decode cX7_points 8 = .ok (.bipush (-2), 2) := by decide +kernel
theorem dX7_points_10 : decode cX7_points 10 = .ok (.ireturn, 1) := by decide +kernel
theorem dX7_points_11 : decode cX7_points 11 = .ok (.aload_n 0, 1) := by decide +kernel
theorem dX7_points_12 : decode cX7_points 12 = .ok (.getfield 10, 3) := by decide +kernel
theorem dX7_points_15 : decode cX7_points 15 = .ok (.iload_n 2, 1) := by decide +kernel
theorem dX7_points_16 : decode cX7_points 16 = .ok (.aload_n 0, 1) := by decide +kernel
theorem dX7_points_17 : decode cX7_points 17 = .ok (.getfield 45, 3) := by decide +kernel
theorem dX7_points_20 : decode cX7_points 20 = .ok (.aload_n 0, 1) := by decide +kernel
theorem dX7_points_21 : decode cX7_points 21 = .ok (.getfield 49, 3) := by decide +kernel
theorem dX7_points_24 : decode cX7_points 24 = .ok (.invokevirtual 217, 3) := by decide +kernel
theorem dX7_points_27 : decode cX7_points 27 = .ok (.ifCond .eq 19, 3) := by decide +kernel
theorem dX7_points_30 : decode cX7_points 30 = .ok (.aload_n 0, 1) := by decide +kernel
theorem dX7_points_31 : decode cX7_points 31 = .ok (.getfield 18, 3) := by decide +kernel
theorem dX7_points_34 : decode cX7_points 34 = .ok (.iload_n 1, 1) := by decide +kernel
theorem dX7_points_35 : decode cX7_points 35 = .ok (.aaload, 1) := by decide +kernel
theorem dX7_points_36 : decode cX7_points 36 = .ok (.aload_n 0, 1) := by decide +kernel
theorem dX7_points_37 : decode cX7_points 37 = .ok (.getfield 10, 3) := by decide +kernel
theorem dX7_points_40 : decode cX7_points 40 = .ok (.invokevirtual 221, 3) := by decide +kernel
theorem dX7_points_43 : decode cX7_points 43 = .ok (.goto 5, 3) := by decide +kernel
theorem dX7_points_46 : decode cX7_points 46 = .ok (.bipush (-3), 2) := by decide +kernel
theorem dX7_points_48 : decode cX7_points 48 = .ok (.ireturn, 1) := by decide +kernel
theorem dX7_ways_0 : decode cX7_ways 0 = .ok (.aload_n 0, 1) := by decide +kernel
theorem dX7_ways_1 : decode cX7_ways 1 = .ok (.getfield 10, 3) := by decide +kernel
theorem dX7_ways_4 : decode cX7_ways 4 = .ok (.iload_n 1, 1) := by decide +kernel
theorem dX7_ways_5 : decode cX7_ways 5 = .ok (.aload_n 0, 1) := by decide +kernel
theorem dX7_ways_6 : decode cX7_ways 6 = .ok (.getfield 45, 3) := by decide +kernel
theorem dX7_ways_9 : decode cX7_ways 9 = .ok (.aload_n 0, 1) := by decide +kernel
theorem dX7_ways_10 : decode cX7_ways 10 = .ok (.getfield 49, 3) := by decide +kernel
theorem dX7_ways_13 : decode cX7_ways 13 = .ok (.invokevirtual 217, 3) := by decide +kernel
theorem dX7_ways_16 : decode cX7_ways 16 = .ok (.ifCond .eq 13, 3) := by decide +kernel
theorem dX7_ways_19 : decode cX7_ways 19 = .ok (.aload_n 0, 1) := by decide +kernel
theorem dX7_ways_20 : decode cX7_ways 20 = .ok (.getfield 10, 3) := by decide +kernel
theorem dX7_ways_23 : decode cX7_ways 23 = .ok (.invokevirtual 225, 3) := by decide +kernel
theorem dX7_ways_26 : decode cX7_ways 26 = .ok (.goto 5, 3) := by decide +kernel
theorem dX7_ways_29 : decode cX7_ways 29 = .ok (.bipush (-3), 2) := by decide +kernel
theorem dX7_ways_31 : decode cX7_ways 31 = .ok (.ireturn, 1) := by decide +kernel
theorem dX7_filled_0 : decode cX7_filled 0 = .ok (.aload_n 0, 1) := by decide +kernel
theorem dX7_filled_1 : decode cX7_filled 1 = .ok (.iload_n 1, 1) := by decide +kernel
theorem dX7_filled_2 : decode cX7_filled 2 = .ok (.invokevirtual 154, 3) := by decide +kernel
theorem dX7_filled_5 : decode cX7_filled 5 = .ok (.ifCond .ne 6, 3) := by decide +kernel
theorem dX7_filled_8 : decode cX7_filled 8 = .ok (.bipush (-2), 2) := by decide +kernel
theorem dX7_filled_10 : decode cX7_filled 10 = .ok (.ireturn, 1) := by decide +kernel
theorem dX7_filled_11 : decode cX7_filled 11 = .ok (.aload_n 0, 1) := by decide +kernel
theorem dX7_filled_12 : decode cX7_filled 12 = .ok (.iload_n 1, 1) := by decide +kernel
theorem dX7_filled_13 : decode cX7_filled 13 = .ok (.invokevirtual 161, 3) := by decide +kernel
theorem dX7_filled_16 : decode cX7_filled 16 = .ok (.ifCond .eq 15, 3) := by decide +kernel
theorem dX7_filled_19 : decode cX7_filled 19 = .ok (.aload_n 0, 1) := by decide +kernel
theorem dX7_filled_20 : decode cX7_filled 20 = .ok (.getfield 18, 3) := by decide +kernel
theorem dX7_filled_23 : decode cX7_filled 23 = .ok (.iload_n 1, 1) := by decide +kernel
theorem dX7_filled_24 : decode cX7_filled 24 = .ok (.aaload, 1) := by decide +kernel
theorem dX7_filled_25 : decode cX7_filled 25 = .ok (.getfield 167, 3) := by decide +kernel
theorem dX7_filled_28 : decode cX7_filled 28 = .ok (.goto 4, 3) := by decide +kernel
theorem dX7_filled_31 : decode cX7_filled 31 = .ok (.iconst (-1), 1) := by decide +kernel
theorem dX7_filled_32 : decode cX7_filled 32 = .ok (.ireturn, 1) := by decide +kernel
theorem dX7_count_0 : decode cX7_count 0 = .ok (.iload_n 1, 1) := by decide +kernel
theorem dX7_count_1 : decode cX7_count 1 = .ok (.tableswitch 129 0 9 #[55, 60, 65, 70, 75, 83, 88, 106, 111, 116], 55) := by decide +kernel
theorem dX7_count_56 : decode cX7_count 56 = .ok (.aload_n 0, 1) := by decide +kernel
theorem dX7_count_57 : decode cX7_count 57 = .ok (.getfield 45, 3) := by decide +kernel
theorem dX7_count_60 : decode cX7_count 60 = .ok (.ireturn, 1) := by decide +kernel
theorem dX7_count_61 : decode cX7_count 61 = .ok (.aload_n 0, 1) := by decide +kernel
theorem dX7_count_62 : decode cX7_count 62 = .ok (.getfield 49, 3) := by decide +kernel
theorem dX7_count_65 : decode cX7_count 65 = .ok (.ireturn, 1) := by decide +kernel
theorem dX7_count_66 : decode cX7_count 66 = .ok (.aload_n 0, 1) := by decide +kernel
theorem dX7_count_67 : decode cX7_count 67 = .ok (.getfield 52, 3) := by decide +kernel
theorem dX7_count_70 : decode cX7_count 70 = .ok (.ireturn, 1) := by decide +kernel
theorem dX7_count_71 : decode cX7_count 71 = .ok (.aload_n 0, 1) := by decide +kernel
theorem dX7_count_72 : decode cX7_count 72 = .ok (.getfield 55, 3) := by decide +kernel
theorem dX7_count_75 : decode cX7_count 75 = .ok (.ireturn, 1) := by decide +kernel
theorem dX7_count_76 : decode cX7_count 76 = .ok (.aload_n 0, 1) := by decide +kernel
theorem dX7_count_77 : decode cX7_count 77 = .ok (.getfield 62, 3) := by decide +kernel
theorem dX7_count_80 : decode cX7_count 80 = .ok (.invokestatic 228, 3) := by decide +kernel
theorem dX7_count_83 : decode cX7_count 83 = .ok (.ireturn, 1) := by decide +kernel
theorem dX7_count_84 : decode cX7_count 84 = .ok (.aload_n 0, 1) := by decide +kernel
theorem dX7_count_85 : decode cX7_count 85 = .ok (.getfield 65, 3) := by decide +kernel
theorem dX7_count_88 : decode cX7_count 88 = .ok (.ireturn, 1) := by decide +kernel
theorem dX7_count_89 : decode cX7_count 89 = .ok (.aload_n 0, 1) := by decide +kernel
theorem dX7_count_90 : decode cX7_count 90 = .ok (.getfield 25, 3) := by decide +kernel
theorem dX7_count_93 : decode cX7_count 93 = .ok (.getfield 113, 3) := by decide +kernel
theorem dX7_count_96 : decode cX7_count 96 = .ok (.getfield 198, 3) := by decide +kernel
theorem dX7_count_99 : decode cX7_count 99 = .ok (.aload_n 0, 1) := by decide +kernel
theorem dX7_count_100 : decode cX7_count 100 = .ok (.getfield 78, 3) := by decide +kernel
theorem dX7_count_103 : decode cX7_count 103 = .ok (.invokestatic 150, 3) := by decide +kernel
theorem dX7_count_106 : decode cX7_count 106 = .ok (.ireturn, 1) := by decide +kernel
theorem dX7_count_107 : decode cX7_count 107 = .ok (.aload_n 0, 1) := by decide +kernel
theorem dX7_count_108 : decode cX7_count 108 = .ok (.getfield 84, 3) := by decide +kernel
theorem dX7_count_111 : decode cX7_count 111 = .ok (.ireturn, 1) := by decide +kernel
theorem dX7_count_112 : decode cX7_count 112 = .ok (.aload_n 0, 1) := by decide +kernel
theorem dX7_count_113 : decode cX7_count 113 = .ok (.getfield 81, 3) := by decide +kernel
theorem dX7_count_116 : decode cX7_count 116 = .ok (.ireturn, 1) := by decide +kernel
theorem dX7_count_117 : decode cX7_count 117 = .ok (.aload_n 0, 1) := by decide +kernel
theorem dX7_count_118 : decode cX7_count 118 = .ok (.getfield 58, 3) := by decide +kernel
theorem dX7_count_121 : decode cX7_count 121 = .ok (.ifCond .eq 7, 3) := by decide +kernel
theorem dX7_count_124 : decode cX7_count 124 = .ok (.iconst 1, 1) := by decide +kernel
theorem dX7_count_125 : decode cX7_count 125 = .ok (.goto 4, 3) := by decide +kernel
theorem dX7_count_128 : decode cX7_count 128 = .ok (.iconst 0, 1) := by decide +kernel
theorem dX7_count_129 : decode cX7_count 129 = .ok (.ireturn, 1) := by decide +kernel
theorem dX7_count_130 : decode cX7_count 130 = .ok (.bipush (-3), 2) := by decide +kernel
theorem dX7_count_132 : decode cX7_count 132 = .ok (.ireturn, 1) := by decide +kernel
theorem dX7_isRow_0 : decode cX7_isRow 0 = .ok (.iload_n 1, 1) := by decide +kernel
theorem dX7_isRow_1 : decode cX7_isRow 1 = .ok (.ifCond .lt 15, 3) := by decide +kernel
theorem dX7_isRow_4 : decode cX7_isRow 4 = .ok (.iload_n 1, 1) := by decide +kernel
theorem dX7_isRow_5 : decode cX7_isRow 5 = .ok (.aload_n 0, 1) := by decide +kernel
theorem dX7_isRow_6 : decode cX7_isRow 6 = .ok (.getfield 55, 3) := by decide +kernel
theorem dX7_isRow_9 : decode cX7_isRow 9 = .ok (.if_icmp .ge 7, 3) := by decide +kernel
theorem dX7_isRow_12 : decode cX7_isRow 12 = .ok (.iconst 1, 1) := by decide +kernel
theorem dX7_isRow_13 : decode cX7_isRow 13 = .ok (.goto 4, 3) := by decide +kernel
theorem dX7_isRow_16 : decode cX7_isRow 16 = .ok (.iconst 0, 1) := by decide +kernel
theorem dX7_isRow_17 : decode cX7_isRow 17 = .ok (.ireturn, 1) := by decide +kernel
theorem dX7_isFilled_0 : decode cX7_isFilled 0 = .ok (.aload_n 0, 1) := by decide +kernel
theorem dX7_isFilled_1 : decode cX7_isFilled 1 = .ok (.getfield 62, 3) := by decide +kernel
theorem dX7_isFilled_4 : decode cX7_isFilled 4 = .ok (.iload_n 1, 1) := by decide +kernel
theorem dX7_isFilled_5 : decode cX7_isFilled 5 = .ok (.ishr, 1) := by decide +kernel
theorem dX7_isFilled_6 : decode cX7_isFilled 6 = .ok (.iconst 1, 1) := by decide +kernel
theorem dX7_isFilled_7 : decode cX7_isFilled 7 = .ok (.iand, 1) := by decide +kernel
theorem dX7_isFilled_8 : decode cX7_isFilled 8 = .ok (.ifCond .eq 7, 3) := by decide +kernel
theorem dX7_isFilled_11 : decode cX7_isFilled 11 = .ok (.iconst 1, 1) := by decide +kernel
theorem dX7_isFilled_12 : decode cX7_isFilled 12 = .ok (.goto 4, 3) := by decide +kernel
theorem dX7_isFilled_15 : decode cX7_isFilled 15 = .ok (.iconst 0, 1) := by decide +kernel
theorem dX7_isFilled_16 : decode cX7_isFilled 16 = .ok (.ireturn, 1) := by decide +kernel
theorem dX7_hasHeap_0 : decode cX7_hasHeap 0 = .ok (.aload_n 0, 1) := by decide +kernel
theorem dX7_hasHeap_1 : decode cX7_hasHeap 1 = .ok (.getfield 75, 3) := by decide +kernel
theorem dX7_hasHeap_4 : decode cX7_hasHeap 4 = .ok (.ifCond .eq 14, 3) := by decide +kernel
theorem dX7_hasHeap_7 : decode cX7_hasHeap 7 = .ok (.aload_n 0, 1) := by decide +kernel
theorem dX7_hasHeap_8 : decode cX7_hasHeap 8 = .ok (.getfield 81, 3) := by decide +kernel
theorem dX7_hasHeap_11 : decode cX7_hasHeap 11 = .ok (.ifCond .ne 7, 3) := by decide +kernel
theorem dX7_hasHeap_14 : decode cX7_hasHeap 14 = .ok (.iconst 1, 1) := by decide +kernel
theorem dX7_hasHeap_15 : decode cX7_hasHeap 15 = .ok (.goto 4, 3) := by decide +kernel
theorem dX7_hasHeap_18 : decode cX7_hasHeap 18 = .ok (.iconst 0, 1) := by decide +kernel
theorem dX7_hasHeap_19 : decode cX7_hasHeap 19 = .ok (.ireturn, 1) := by decide +kernel
theorem dX7_mayHold_0 : decode cX7_mayHold 0 = .ok (.aload_n 0, 1) := by decide +kernel
theorem dX7_mayHold_1 : decode cX7_mayHold 1 = .ok (.invokevirtual 158, 3) := by decide +kernel
theorem dX7_mayHold_4 : decode cX7_mayHold 4 = .ok (.ifCond .eq 14, 3) := by decide +kernel
theorem dX7_mayHold_7 : decode cX7_mayHold 7 = .ok (.aload_n 0, 1) := by decide +kernel
theorem dX7_mayHold_8 : decode cX7_mayHold 8 = .ok (.getfield 84, 3) := by decide +kernel
theorem dX7_mayHold_11 : decode cX7_mayHold 11 = .ok (.ifCond .le 7, 3) := by decide +kernel
theorem dX7_mayHold_14 : decode cX7_mayHold 14 = .ok (.iconst 1, 1) := by decide +kernel
theorem dX7_mayHold_15 : decode cX7_mayHold 15 = .ok (.goto 4, 3) := by decide +kernel
theorem dX7_mayHold_18 : decode cX7_mayHold 18 = .ok (.iconst 0, 1) := by decide +kernel
theorem dX7_mayHold_19 : decode cX7_mayHold 19 = .ok (.ireturn, 1) := by decide +kernel
theorem dX7_isLarge_0 : decode cX7_isLarge 0 = .ok (.lconst 1, 1) := by decide +kernel
theorem dX7_isLarge_1 : decode cX7_isLarge 1 = .ok (.lstore_n 1, 1) := by decide +kernel
theorem dX7_isLarge_2 : decode cX7_isLarge 2 = .ok (.iconst 0, 1) := by decide +kernel
theorem dX7_isLarge_3 : decode cX7_isLarge 3 = .ok (.istore_n 3, 1) := by decide +kernel
theorem dX7_isLarge_4 : decode cX7_isLarge 4 = .ok (.iload_n 3, 1) := by decide +kernel
theorem dX7_isLarge_5 : decode cX7_isLarge 5 = .ok (.aload_n 0, 1) := by decide +kernel
theorem dX7_isLarge_6 : decode cX7_isLarge 6 = .ok (.getfield 45, 3) := by decide +kernel
theorem dX7_isLarge_9 : decode cX7_isLarge 9 = .ok (.if_icmp .ge 17, 3) := by decide +kernel
theorem dX7_isLarge_12 : decode cX7_isLarge 12 = .ok (.lload_n 1, 1) := by decide +kernel
theorem dX7_isLarge_13 : decode cX7_isLarge 13 = .ok (.aload_n 0, 1) := by decide +kernel
theorem dX7_isLarge_14 : decode cX7_isLarge 14 = .ok (.getfield 49, 3) := by decide +kernel
theorem dX7_isLarge_17 : decode cX7_isLarge 17 = .ok (.i2l, 1) := by decide +kernel
theorem dX7_isLarge_18 : decode cX7_isLarge 18 = .ok (.lmul, 1) := by decide +kernel
theorem dX7_isLarge_19 : decode cX7_isLarge 19 = .ok (.lstore_n 1, 1) := by decide +kernel
theorem dX7_isLarge_20 : decode cX7_isLarge 20 = .ok (.iinc 3 1, 3) := by decide +kernel
theorem dX7_isLarge_23 : decode cX7_isLarge 23 = .ok (.goto (-19), 3) := by decide +kernel
theorem dX7_isLarge_26 : decode cX7_isLarge 26 = .ok (.lconst 1, 1) := by decide +kernel
theorem dX7_isLarge_27 : decode cX7_isLarge 27 = .ok (.lstore_n 3, 1) := by decide +kernel
theorem dX7_isLarge_28 : decode cX7_isLarge 28 = .ok (.iconst 0, 1) := by decide +kernel
theorem dX7_isLarge_29 : decode cX7_isLarge 29 = .ok (.istore 5, 2) := by decide +kernel
theorem dX7_isLarge_31 : decode cX7_isLarge 31 = .ok (.iload 5, 2) := by decide +kernel
theorem dX7_isLarge_33 : decode cX7_isLarge 33 = .ok (.aload_n 0, 1) := by decide +kernel
theorem dX7_isLarge_34 : decode cX7_isLarge 34 = .ok (.getfield 52, 3) := by decide +kernel
theorem dX7_isLarge_37 : decode cX7_isLarge 37 = .ok (.aload_n 0, 1) := by decide +kernel
theorem dX7_isLarge_38 : decode cX7_isLarge 38 = .ok (.getfield 55, 3) := by decide +kernel
theorem dX7_isLarge_41 : decode cX7_isLarge 41 = .ok (.imul, 1) := by decide +kernel
theorem dX7_isLarge_42 : decode cX7_isLarge 42 = .ok (.if_icmp .ge 23, 3) := by decide +kernel
theorem dX7_isLarge_45 : decode cX7_isLarge 45 = .ok (.lload_n 3, 1) := by decide +kernel
theorem dX7_isLarge_46 : decode cX7_isLarge 46 = .ok (.lload_n 1, 1) := by decide +kernel
theorem dX7_isLarge_47 : decode cX7_isLarge 47 = .ok (.lmul, 1) := by decide +kernel
theorem dX7_isLarge_48 : decode cX7_isLarge 48 = .ok (.lstore_n 3, 1) := by decide +kernel
theorem dX7_isLarge_49 : decode cX7_isLarge 49 = .ok (.lload_n 3, 1) := by decide +kernel
theorem dX7_isLarge_50 : decode cX7_isLarge 50 = .ok (.ldc2_w 233, 3) := by decide +kernel
theorem dX7_isLarge_53 : decode cX7_isLarge 53 = .ok (.lcmp, 1) := by decide +kernel
theorem dX7_isLarge_54 : decode cX7_isLarge 54 = .ok (.ifCond .le 5, 3) := by decide +kernel
theorem dX7_isLarge_57 : decode cX7_isLarge 57 = .ok (.iconst 1, 1) := by decide +kernel
theorem dX7_isLarge_58 : decode cX7_isLarge 58 = .ok (.ireturn, 1) := by decide +kernel
theorem dX7_isLarge_59 : decode cX7_isLarge 59 = .ok (.iinc 5 1, 3) := by decide +kernel
theorem dX7_isLarge_62 : decode cX7_isLarge 62 = .ok (.goto (-31), 3) := by decide +kernel
theorem dX7_isLarge_65 : decode cX7_isLarge 65 = .ok (.iconst 0, 1) := by decide +kernel
theorem dX7_isLarge_66 : decode cX7_isLarge 66 = .ok (.ireturn, 1) := by decide +kernel
theorem dX7_comeToTurn_0 : decode cX7_comeToTurn 0 = .ok (.aload_n 0, 1) := by decide +kernel
theorem dX7_comeToTurn_1 : decode cX7_comeToTurn 1 = .ok (.getfield 25, 3) := by decide +kernel
theorem dX7_comeToTurn_4 : decode cX7_comeToTurn 4 = .ok (.aload_n 0, 1) := by decide +kernel
theorem dX7_comeToTurn_5 : decode cX7_comeToTurn 5 = .ok (.getfield 62, 3) := by decide +kernel
theorem dX7_comeToTurn_8 : decode cX7_comeToTurn 8 = .ok (.invokevirtual 235, 3) := by decide +kernel
theorem dX7_comeToTurn_11 : decode cX7_comeToTurn 11 = .ok (.ifCond .ne 7, 3) := by decide +kernel
theorem dX7_comeToTurn_14 : decode cX7_comeToTurn 14 = .ok (.iconst 1, 1) := by decide +kernel
theorem dX7_comeToTurn_15 : decode cX7_comeToTurn 15 = .ok (.goto 4, 3) := by decide +kernel
theorem dX7_comeToTurn_18 : decode cX7_comeToTurn 18 = .ok (.iconst 0, 1) := by decide +kernel
theorem dX7_comeToTurn_19 : decode cX7_comeToTurn 19 = .ok (.istore_n 1, 1) := by decide +kernel
theorem dX7_comeToTurn_20 : decode cX7_comeToTurn 20 = .ok (.aload_n 0, 1) := by decide +kernel
theorem dX7_comeToTurn_21 : decode cX7_comeToTurn 21 = .ok (.iconst 0, 1) := by decide +kernel
theorem dX7_comeToTurn_22 : decode cX7_comeToTurn 22 = .ok (.putfield 75, 3) := by decide +kernel
theorem dX7_comeToTurn_25 : decode cX7_comeToTurn 25 = .ok (.aload_n 0, 1) := by decide +kernel
theorem dX7_comeToTurn_26 : decode cX7_comeToTurn 26 = .ok (.iconst 0, 1) := by decide +kernel
theorem dX7_comeToTurn_27 : decode cX7_comeToTurn 27 = .ok (.putfield 78, 3) := by decide +kernel
theorem dX7_comeToTurn_30 : decode cX7_comeToTurn 30 = .ok (.aload_n 0, 1) := by decide +kernel
theorem dX7_comeToTurn_31 : decode cX7_comeToTurn 31 = .ok (.iload_n 1, 1) := by decide +kernel
theorem dX7_comeToTurn_32 : decode cX7_comeToTurn 32 = .ok (.ifCond .eq 7, 3) := by decide +kernel
theorem dX7_comeToTurn_35 : decode cX7_comeToTurn 35 = .ok (.iconst 0, 1) := by decide +kernel
theorem dX7_comeToTurn_36 : decode cX7_comeToTurn 36 = .ok (.goto 7, 3) := by decide +kernel
theorem dX7_comeToTurn_39 : decode cX7_comeToTurn 39 = .ok (.aload_n 0, 1) := by decide +kernel
theorem dX7_comeToTurn_40 : decode cX7_comeToTurn 40 = .ok (.getfield 45, 3) := by decide +kernel
theorem dX7_comeToTurn_43 : decode cX7_comeToTurn 43 = .ok (.putfield 81, 3) := by decide +kernel
theorem dX7_comeToTurn_46 : decode cX7_comeToTurn 46 = .ok (.aload_n 0, 1) := by decide +kernel
theorem dX7_comeToTurn_47 : decode cX7_comeToTurn 47 = .ok (.iload_n 1, 1) := by decide +kernel
theorem dX7_comeToTurn_48 : decode cX7_comeToTurn 48 = .ok (.ifCond .eq 7, 3) := by decide +kernel
theorem dX7_comeToTurn_51 : decode cX7_comeToTurn 51 = .ok (.iconst 0, 1) := by decide +kernel
theorem dX7_comeToTurn_52 : decode cX7_comeToTurn 52 = .ok (.goto 7, 3) := by decide +kernel
theorem dX7_comeToTurn_55 : decode cX7_comeToTurn 55 = .ok (.aload_n 0, 1) := by decide +kernel
theorem dX7_comeToTurn_56 : decode cX7_comeToTurn 56 = .ok (.getfield 52, 3) := by decide +kernel
theorem dX7_comeToTurn_59 : decode cX7_comeToTurn 59 = .ok (.putfield 84, 3) := by decide +kernel
theorem dX7_comeToTurn_62 : decode cX7_comeToTurn 62 = .ok (.iload_n 1, 1) := by decide +kernel
theorem dX7_comeToTurn_63 : decode cX7_comeToTurn 63 = .ok (.ifCond .ne 14, 3) := by decide +kernel
theorem dX7_comeToTurn_66 : decode cX7_comeToTurn 66 = .ok (.aload_n 0, 1) := by decide +kernel
theorem dX7_comeToTurn_67 : decode cX7_comeToTurn 67 = .ok (.getfield 34, 3) := by decide +kernel
theorem dX7_comeToTurn_70 : decode cX7_comeToTurn 70 = .ok (.aload_n 0, 1) := by decide +kernel
theorem dX7_comeToTurn_71 : decode cX7_comeToTurn 71 = .ok (.getfield 62, 3) := by decide +kernel
theorem dX7_comeToTurn_74 : decode cX7_comeToTurn 74 = .ok (.invokevirtual 238, 3) := by decide +kernel
theorem dX7_comeToTurn_77 : decode cX7_comeToTurn 77 = .ok (.return_, 1) := by decide +kernel
theorem dX7_comeToHeap_0 : decode cX7_comeToHeap 0 = .ok (.aload_n 0, 1) := by decide +kernel
theorem dX7_comeToHeap_1 : decode cX7_comeToHeap 1 = .ok (.invokevirtual 142, 3) := by decide +kernel
theorem dX7_comeToHeap_4 : decode cX7_comeToHeap 4 = .ok (.lstore_n 2, 1) := by decide +kernel
theorem dX7_comeToHeap_5 : decode cX7_comeToHeap 5 = .ok (.aload_n 0, 1) := by decide +kernel
theorem dX7_comeToHeap_6 : decode cX7_comeToHeap 6 = .ok (.iconst 1, 1) := by decide +kernel
theorem dX7_comeToHeap_7 : decode cX7_comeToHeap 7 = .ok (.putfield 75, 3) := by decide +kernel
theorem dX7_comeToHeap_10 : decode cX7_comeToHeap 10 = .ok (.aload_n 0, 1) := by decide +kernel
theorem dX7_comeToHeap_11 : decode cX7_comeToHeap 11 = .ok (.iload_n 1, 1) := by decide +kernel
theorem dX7_comeToHeap_12 : decode cX7_comeToHeap 12 = .ok (.putfield 78, 3) := by decide +kernel
theorem dX7_comeToHeap_15 : decode cX7_comeToHeap 15 = .ok (.aload_n 0, 1) := by decide +kernel
theorem dX7_comeToHeap_16 : decode cX7_comeToHeap 16 = .ok (.iconst 0, 1) := by decide +kernel
theorem dX7_comeToHeap_17 : decode cX7_comeToHeap 17 = .ok (.putfield 81, 3) := by decide +kernel
theorem dX7_comeToHeap_20 : decode cX7_comeToHeap 20 = .ok (.aload_n 0, 1) := by decide +kernel
theorem dX7_comeToHeap_21 : decode cX7_comeToHeap 21 = .ok (.dup, 1) := by decide +kernel
theorem dX7_comeToHeap_22 : decode cX7_comeToHeap 22 = .ok (.getfield 84, 3) := by decide +kernel
theorem dX7_comeToHeap_25 : decode cX7_comeToHeap 25 = .ok (.iconst 1, 1) := by decide +kernel
theorem dX7_comeToHeap_26 : decode cX7_comeToHeap 26 = .ok (.isub, 1) := by decide +kernel
theorem dX7_comeToHeap_27 : decode cX7_comeToHeap 27 = .ok (.putfield 84, 3) := by decide +kernel
theorem dX7_comeToHeap_30 : decode cX7_comeToHeap 30 = .ok (.aload_n 0, 1) := by decide +kernel
theorem dX7_comeToHeap_31 : decode cX7_comeToHeap 31 = .ok (.dup, 1) := by decide +kernel
theorem dX7_comeToHeap_32 : decode cX7_comeToHeap 32 = .ok (.getfield 68, 3) := by decide +kernel
theorem dX7_comeToHeap_35 : decode cX7_comeToHeap 35 = .ok (.aload_n 0, 1) := by decide +kernel
theorem dX7_comeToHeap_36 : decode cX7_comeToHeap 36 = .ok (.invokevirtual 142, 3) := by decide +kernel
theorem dX7_comeToHeap_39 : decode cX7_comeToHeap 39 = .ok (.lload_n 2, 1) := by decide +kernel
theorem dX7_comeToHeap_40 : decode cX7_comeToHeap 40 = .ok (.lsub, 1) := by decide +kernel
theorem dX7_comeToHeap_41 : decode cX7_comeToHeap 41 = .ok (.ladd, 1) := by decide +kernel
theorem dX7_comeToHeap_42 : decode cX7_comeToHeap 42 = .ok (.putfield 68, 3) := by decide +kernel
theorem dX7_comeToHeap_45 : decode cX7_comeToHeap 45 = .ok (.aload_n 0, 1) := by decide +kernel
theorem dX7_comeToHeap_46 : decode cX7_comeToHeap 46 = .ok (.getfield 25, 3) := by decide +kernel
theorem dX7_comeToHeap_49 : decode cX7_comeToHeap 49 = .ok (.getfield 113, 3) := by decide +kernel
theorem dX7_comeToHeap_52 : decode cX7_comeToHeap 52 = .ok (.getfield 198, 3) := by decide +kernel
theorem dX7_comeToHeap_55 : decode cX7_comeToHeap 55 = .ok (.iload_n 1, 1) := by decide +kernel
theorem dX7_comeToHeap_56 : decode cX7_comeToHeap 56 = .ok (.invokestatic 150, 3) := by decide +kernel
theorem dX7_comeToHeap_59 : decode cX7_comeToHeap 59 = .ok (.ireturn, 1) := by decide +kernel
theorem dX7_unitPower_0 : decode cX7_unitPower 0 = .ok (.aload_n 0, 1) := by decide +kernel
theorem dX7_unitPower_1 : decode cX7_unitPower 1 = .ok (.getfield 25, 3) := by decide +kernel
theorem dX7_unitPower_4 : decode cX7_unitPower 4 = .ok (.aload_n 0, 1) := by decide +kernel
theorem dX7_unitPower_5 : decode cX7_unitPower 5 = .ok (.getfield 62, 3) := by decide +kernel
theorem dX7_unitPower_8 : decode cX7_unitPower 8 = .ok (.invokevirtual 235, 3) := by decide +kernel
theorem dX7_unitPower_11 : decode cX7_unitPower 11 = .ok (.istore_n 1, 1) := by decide +kernel
theorem dX7_unitPower_12 : decode cX7_unitPower 12 = .ok (.aload_n 0, 1) := by decide +kernel
theorem dX7_unitPower_13 : decode cX7_unitPower 13 = .ok (.getfield 75, 3) := by decide +kernel
theorem dX7_unitPower_16 : decode cX7_unitPower 16 = .ok (.ifCond .eq 19, 3) := by decide +kernel
theorem dX7_unitPower_19 : decode cX7_unitPower 19 = .ok (.aload_n 0, 1) := by decide +kernel
theorem dX7_unitPower_20 : decode cX7_unitPower 20 = .ok (.getfield 84, 3) := by decide +kernel
theorem dX7_unitPower_23 : decode cX7_unitPower 23 = .ok (.aload_n 0, 1) := by decide +kernel
theorem dX7_unitPower_24 : decode cX7_unitPower 24 = .ok (.getfield 52, 3) := by decide +kernel
theorem dX7_unitPower_27 : decode cX7_unitPower 27 = .ok (.iload_n 1, 1) := by decide +kernel
theorem dX7_unitPower_28 : decode cX7_unitPower 28 = .ok (.iconst 1, 1) := by decide +kernel
theorem dX7_unitPower_29 : decode cX7_unitPower 29 = .ok (.isub, 1) := by decide +kernel
theorem dX7_unitPower_30 : decode cX7_unitPower 30 = .ok (.imul, 1) := by decide +kernel
theorem dX7_unitPower_31 : decode cX7_unitPower 31 = .ok (.iadd, 1) := by decide +kernel
theorem dX7_unitPower_32 : decode cX7_unitPower 32 = .ok (.goto 9, 3) := by decide +kernel
theorem dX7_unitPower_35 : decode cX7_unitPower 35 = .ok (.aload_n 0, 1) := by decide +kernel
theorem dX7_unitPower_36 : decode cX7_unitPower 36 = .ok (.getfield 52, 3) := by decide +kernel
theorem dX7_unitPower_39 : decode cX7_unitPower 39 = .ok (.iload_n 1, 1) := by decide +kernel
theorem dX7_unitPower_40 : decode cX7_unitPower 40 = .ok (.imul, 1) := by decide +kernel
theorem dX7_unitPower_41 : decode cX7_unitPower 41 = .ok (.ireturn, 1) := by decide +kernel
theorem dX7_worthHere_0 : decode cX7_worthHere 0 = .ok (.aload_n 0, 1) := by decide +kernel
theorem dX7_worthHere_1 : decode cX7_worthHere 1 = .ok (.getfield 75, 3) := by decide +kernel
theorem dX7_worthHere_4 : decode cX7_worthHere 4 = .ok (.ifCond .eq 17, 3) := by decide +kernel
theorem dX7_worthHere_7 : decode cX7_worthHere 7 = .ok (.aload_n 0, 1) := by decide +kernel
theorem dX7_worthHere_8 : decode cX7_worthHere 8 = .ok (.aload_n 0, 1) := by decide +kernel
theorem dX7_worthHere_9 : decode cX7_worthHere 9 = .ok (.getfield 34, 3) := by decide +kernel
theorem dX7_worthHere_12 : decode cX7_worthHere 12 = .ok (.getfield 188, 3) := by decide +kernel
theorem dX7_worthHere_15 : decode cX7_worthHere 15 = .ok (.invokevirtual 213, 3) := by decide +kernel
theorem dX7_worthHere_18 : decode cX7_worthHere 18 = .ok (.goto 17, 3) := by decide +kernel
theorem dX7_worthHere_21 : decode cX7_worthHere 21 = .ok (.aload_n 0, 1) := by decide +kernel
theorem dX7_worthHere_22 : decode cX7_worthHere 22 = .ok (.getfield 34, 3) := by decide +kernel
theorem dX7_worthHere_25 : decode cX7_worthHere 25 = .ok (.getfield 242, 3) := by decide +kernel
theorem dX7_worthHere_28 : decode cX7_worthHere 28 = .ok (.aload_n 0, 1) := by decide +kernel
theorem dX7_worthHere_29 : decode cX7_worthHere 29 = .ok (.getfield 62, 3) := by decide +kernel
theorem dX7_worthHere_32 : decode cX7_worthHere 32 = .ok (.invokestatic 178, 3) := by decide +kernel
theorem dX7_worthHere_35 : decode cX7_worthHere 35 = .ok (.lreturn, 1) := by decide +kernel
theorem dX7_valueIn_0 : decode cX7_valueIn 0 = .ok (.aload_n 0, 1) := by decide +kernel
theorem dX7_valueIn_1 : decode cX7_valueIn 1 = .ok (.getfield 81, 3) := by decide +kernel
theorem dX7_valueIn_4 : decode cX7_valueIn 4 = .ok (.ifCond .le 18, 3) := by decide +kernel
theorem dX7_valueIn_7 : decode cX7_valueIn 7 = .ok (.aload_n 1, 1) := by decide +kernel
theorem dX7_valueIn_8 : decode cX7_valueIn 8 = .ok (.aload_n 0, 1) := by decide +kernel
theorem dX7_valueIn_9 : decode cX7_valueIn 9 = .ok (.getfield 78, 3) := by decide +kernel
theorem dX7_valueIn_12 : decode cX7_valueIn 12 = .ok (.aload_n 0, 1) := by decide +kernel
theorem dX7_valueIn_13 : decode cX7_valueIn 13 = .ok (.getfield 84, 3) := by decide +kernel
theorem dX7_valueIn_16 : decode cX7_valueIn 16 = .ok (.invokevirtual 192, 3) := by decide +kernel
theorem dX7_valueIn_19 : decode cX7_valueIn 19 = .ok (.goto 15, 3) := by decide +kernel
theorem dX7_valueIn_22 : decode cX7_valueIn 22 = .ok (.aload_n 1, 1) := by decide +kernel
theorem dX7_valueIn_23 : decode cX7_valueIn 23 = .ok (.aload_n 0, 1) := by decide +kernel
theorem dX7_valueIn_24 : decode cX7_valueIn 24 = .ok (.getfield 78, 3) := by decide +kernel
theorem dX7_valueIn_27 : decode cX7_valueIn 27 = .ok (.aload_n 0, 1) := by decide +kernel
theorem dX7_valueIn_28 : decode cX7_valueIn 28 = .ok (.getfield 84, 3) := by decide +kernel
theorem dX7_valueIn_31 : decode cX7_valueIn 31 = .ok (.invokevirtual 245, 3) := by decide +kernel
theorem dX7_valueIn_34 : decode cX7_valueIn 34 = .ok (.lreturn, 1) := by decide +kernel
theorem dX7_stand_0 : decode cX7_stand 0 = .ok (.aload_n 0, 1) := by decide +kernel
theorem dX7_stand_1 : decode cX7_stand 1 = .ok (.getfield 52, 3) := by decide +kernel
theorem dX7_stand_4 : decode cX7_stand 4 = .ok (.aload_n 0, 1) := by decide +kernel
theorem dX7_stand_5 : decode cX7_stand 5 = .ok (.getfield 55, 3) := by decide +kernel
theorem dX7_stand_8 : decode cX7_stand 8 = .ok (.imul, 1) := by decide +kernel
theorem dX7_stand_9 : decode cX7_stand 9 = .ok (.istore_n 1, 1) := by decide +kernel
theorem dX7_stand_10 : decode cX7_stand 10 = .ok (.aload_n 0, 1) := by decide +kernel
theorem dX7_stand_11 : decode cX7_stand 11 = .ok (.getfield 65, 3) := by decide +kernel
theorem dX7_stand_14 : decode cX7_stand 14 = .ok (.i2l, 1) := by decide +kernel
theorem dX7_stand_15 : decode cX7_stand 15 = .ok (.aload_n 0, 1) := by decide +kernel
theorem dX7_stand_16 : decode cX7_stand 16 = .ok (.getfield 25, 3) := by decide +kernel
theorem dX7_stand_19 : decode cX7_stand 19 = .ok (.getfield 170, 3) := by decide +kernel
theorem dX7_stand_22 : decode cX7_stand 22 = .ok (.iload_n 1, 1) := by decide +kernel
theorem dX7_stand_23 : decode cX7_stand 23 = .ok (.invokestatic 178, 3) := by decide +kernel
theorem dX7_stand_26 : decode cX7_stand 26 = .ok (.lmul, 1) := by decide +kernel
theorem dX7_stand_27 : decode cX7_stand 27 = .ok (.aload_n 0, 1) := by decide +kernel
theorem dX7_stand_28 : decode cX7_stand 28 = .ok (.invokevirtual 183, 3) := by decide +kernel
theorem dX7_stand_31 : decode cX7_stand 31 = .ok (.aload_n 0, 1) := by decide +kernel
theorem dX7_stand_32 : decode cX7_stand 32 = .ok (.getfield 25, 3) := by decide +kernel
theorem dX7_stand_35 : decode cX7_stand 35 = .ok (.getfield 170, 3) := by decide +kernel
theorem dX7_stand_38 : decode cX7_stand 38 = .ok (.iload_n 1, 1) := by decide +kernel
theorem dX7_stand_39 : decode cX7_stand 39 = .ok (.aload_n 0, 1) := by decide +kernel
theorem dX7_stand_40 : decode cX7_stand 40 = .ok (.invokevirtual 174, 3) := by decide +kernel
theorem dX7_stand_43 : decode cX7_stand 43 = .ok (.isub, 1) := by decide +kernel
theorem dX7_stand_44 : decode cX7_stand 44 = .ok (.invokestatic 178, 3) := by decide +kernel
theorem dX7_stand_47 : decode cX7_stand 47 = .ok (.lmul, 1) := by decide +kernel
theorem dX7_stand_48 : decode cX7_stand 48 = .ok (.ladd, 1) := by decide +kernel
theorem dX7_stand_49 : decode cX7_stand 49 = .ok (.lreturn, 1) := by decide +kernel
theorem dX7_sideOf_0 : decode cX7_sideOf 0 = .ok (.iload_n 1, 1) := by decide +kernel
theorem dX7_sideOf_1 : decode cX7_sideOf 1 = .ok (.iconst 1, 1) := by decide +kernel
theorem dX7_sideOf_2 : decode cX7_sideOf 2 = .ok (.if_icmp .ge 7, 3) := by decide +kernel
theorem dX7_sideOf_5 : decode cX7_sideOf 5 = .ok (.iconst 1, 1) := by decide +kernel
theorem dX7_sideOf_6 : decode cX7_sideOf 6 = .ok (.goto 11, 3) := by decide +kernel
theorem dX7_sideOf_9 : decode cX7_sideOf 9 = .ok (.iconst 1, 1) := by decide +kernel
theorem dX7_sideOf_10 : decode cX7_sideOf 10 = .ok (.iload_n 0, 1) := by decide +kernel
theorem dX7_sideOf_11 : decode cX7_sideOf 11 = .ok (.bipush 12, 2) := by decide +kernel
theorem dX7_sideOf_13 : decode cX7_sideOf 13 = .ok (.ishr, 1) := by decide +kernel
theorem dX7_sideOf_14 : decode cX7_sideOf 14 = .ok (.iload_n 1, 1) := by decide +kernel
theorem dX7_sideOf_15 : decode cX7_sideOf 15 = .ok (.irem, 1) := by decide +kernel
theorem dX7_sideOf_16 : decode cX7_sideOf 16 = .ok (.iadd, 1) := by decide +kernel
theorem dX7_sideOf_17 : decode cX7_sideOf 17 = .ok (.ireturn, 1) := by decide +kernel
theorem dX7_at_0 : decode cX7_at 0 = .ok (.iload_n 1, 1) := by decide +kernel
theorem dX7_at_1 : decode cX7_at 1 = .ok (.ifCond .lt 15, 3) := by decide +kernel
theorem dX7_at_4 : decode cX7_at 4 = .ok (.iload_n 1, 1) := by decide +kernel
theorem dX7_at_5 : decode cX7_at 5 = .ok (.aload_n 0, 1) := by decide +kernel
theorem dX7_at_6 : decode cX7_at 6 = .ok (.arraylength, 1) := by decide +kernel
theorem dX7_at_7 : decode cX7_at 7 = .ok (.if_icmp .ge 9, 3) := by decide +kernel
theorem dX7_at_10 : decode cX7_at 10 = .ok (.aload_n 0, 1) := by decide +kernel
theorem dX7_at_11 : decode cX7_at 11 = .ok (.iload_n 1, 1) := by decide +kernel
theorem dX7_at_12 : decode cX7_at 12 = .ok (.iaload, 1) := by decide +kernel
theorem dX7_at_13 : decode cX7_at 13 = .ok (.goto 4, 3) := by decide +kernel
theorem dX7_at_16 : decode cX7_at 16 = .ok (.iconst 0, 1) := by decide +kernel
theorem dX7_at_17 : decode cX7_at 17 = .ok (.ireturn, 1) := by decide +kernel
theorem dX7_at__0 : decode cX7_at_ 0 = .ok (.iload_n 1, 1) := by decide +kernel
theorem dX7_at__1 : decode cX7_at_ 1 = .ok (.ifCond .lt 15, 3) := by decide +kernel
theorem dX7_at__4 : decode cX7_at_ 4 = .ok (.iload_n 1, 1) := by decide +kernel
theorem dX7_at__5 : decode cX7_at_ 5 = .ok (.aload_n 0, 1) := by decide +kernel
theorem dX7_at__6 : decode cX7_at_ 6 = .ok (.arraylength, 1) := by decide +kernel
theorem dX7_at__7 : decode cX7_at_ 7 = .ok (.if_icmp .ge 9, 3) := by decide +kernel
theorem dX7_at__10 : decode cX7_at_ 10 = .ok (.aload_n 0, 1) := by decide +kernel
theorem dX7_at__11 : decode cX7_at_ 11 = .ok (.iload_n 1, 1) := by decide +kernel
theorem dX7_at__12 : decode cX7_at_ 12 = .ok (.laload, 1) := by decide +kernel
theorem dX7_at__13 : decode cX7_at_ 13 = .ok (.goto 4, 3) := by decide +kernel
theorem dX7_at__16 : decode cX7_at_ 16 = .ok (.lconst 0, 1) := by decide +kernel
theorem dX7_at__17 : decode cX7_at_ 17 = .ok (.lreturn, 1) := by decide +kernel
theorem dX8_init_0 : decode cX8_init 0 = .ok (.aload_n 0, 1) := by decide +kernel
theorem dX8_init_1 : decode cX8_init 1 = .ok (.invokespecial 1, 3) := by decide +kernel
theorem dX8_init_4 : decode cX8_init 4 = .ok (.aload_n 0, 1) := by decide +kernel
theorem dX8_init_5 : decode cX8_init 5 = .ok (.iconst 5, 1) := by decide +kernel
theorem dX8_init_6 : decode cX8_init 6 = .ok (.putfield 7, 3) := by decide +kernel
theorem dX8_init_9 : decode cX8_init 9 = .ok (.aload_n 0, 1) := by decide +kernel
theorem dX8_init_10 : decode cX8_init 10 = .ok (.bipush 6, 2) := by decide +kernel
theorem dX8_init_12 : decode cX8_init 12 = .ok (.putfield 13, 3) := by decide +kernel
theorem dX8_init_15 : decode cX8_init 15 = .ok (.aload_n 0, 1) := by decide +kernel
theorem dX8_init_16 : decode cX8_init 16 = .ok (.iconst 3, 1) := by decide +kernel
theorem dX8_init_17 : decode cX8_init 17 = .ok (.putfield 16, 3) := by decide +kernel
theorem dX8_init_20 : decode cX8_init 20 = .ok (.aload_n 0, 1) := by decide +kernel
theorem dX8_init_21 : decode cX8_init 21 = .ok (.bipush 8, 2) := by decide +kernel
theorem dX8_init_23 : decode cX8_init 23 = .ok (.newarray .int, 2) := by decide +kernel
theorem dX8_init_25 : decode cX8_init 25 = .ok (.putfield 19, 3) := by decide +kernel
theorem dX8_init_28 : decode cX8_init 28 = .ok (.aload_n 0, 1) := by decide +kernel
theorem dX8_init_29 : decode cX8_init 29 = .ok (.bipush 8, 2) := by decide +kernel
theorem dX8_init_31 : decode cX8_init 31 = .ok (.newarray .int, 2) := by decide +kernel
theorem dX8_init_33 : decode cX8_init 33 = .ok (.putfield 23, 3) := by decide +kernel
theorem dX8_init_36 : decode cX8_init 36 = .ok (.aload_n 0, 1) := by decide +kernel
theorem dX8_init_37 : decode cX8_init 37 = .ok (.bipush 8, 2) := by decide +kernel
theorem dX8_init_39 : decode cX8_init 39 = .ok (.newarray .int, 2) := by decide +kernel
theorem dX8_init_41 : decode cX8_init 41 = .ok (.putfield 26, 3) := by decide +kernel
theorem dX8_init_44 : decode cX8_init 44 = .ok (.aload_n 0, 1) := by decide +kernel
theorem dX8_init_45 : decode cX8_init 45 = .ok (.sipush 2772, 3) := by decide +kernel
theorem dX8_init_48 : decode cX8_init 48 = .ok (.newarray .int, 2) := by decide +kernel
theorem dX8_init_50 : decode cX8_init 50 = .ok (.putfield 29, 3) := by decide +kernel
theorem dX8_init_53 : decode cX8_init 53 = .ok (.aload_n 0, 1) := by decide +kernel
theorem dX8_init_54 : decode cX8_init 54 = .ok (.sipush 462, 3) := by decide +kernel
theorem dX8_init_57 : decode cX8_init 57 = .ok (.newarray .int, 2) := by decide +kernel
theorem dX8_init_59 : decode cX8_init 59 = .ok (.putfield 32, 3) := by decide +kernel
theorem dX8_init_62 : decode cX8_init 62 = .ok (.aload_n 0, 1) := by decide +kernel
theorem dX8_init_63 : decode cX8_init 63 = .ok (.sipush 462, 3) := by decide +kernel
theorem dX8_init_66 : decode cX8_init 66 = .ok (.newarray .int, 2) := by decide +kernel
theorem dX8_init_68 : decode cX8_init 68 = .ok (.putfield 35, 3) := by decide +kernel
theorem dX8_init_71 : decode cX8_init 71 = .ok (.aload_n 0, 1) := by decide +kernel
theorem dX8_init_72 : decode cX8_init 72 = .ok (.sipush 2772, 3) := by decide +kernel
theorem dX8_init_75 : decode cX8_init 75 = .ok (.newarray .int, 2) := by decide +kernel
theorem dX8_init_77 : decode cX8_init 77 = .ok (.putfield 38, 3) := by decide +kernel
theorem dX8_init_80 : decode cX8_init 80 = .ok (.aload_n 0, 1) := by decide +kernel
theorem dX8_init_81 : decode cX8_init 81 = .ok (.sipush 3696, 3) := by decide +kernel
theorem dX8_init_84 : decode cX8_init 84 = .ok (.newarray .int, 2) := by decide +kernel
theorem dX8_init_86 : decode cX8_init 86 = .ok (.putfield 41, 3) := by decide +kernel
theorem dX8_init_89 : decode cX8_init 89 = .ok (.aload_n 0, 1) := by decide +kernel
theorem dX8_init_90 : decode cX8_init 90 = .ok (.bipush 8, 2) := by decide +kernel
theorem dX8_init_92 : decode cX8_init 92 = .ok (.newarray .int, 2) := by decide +kernel
theorem dX8_init_94 : decode cX8_init 94 = .ok (.putfield 44, 3) := by decide +kernel
theorem dX8_init_97 : decode cX8_init 97 = .ok (.aload_n 0, 1) := by decide +kernel
theorem dX8_init_98 : decode cX8_init 98 = .ok (.bipush 6, 2) := by decide +kernel
theorem dX8_init_100 : decode cX8_init 100 = .ok (.newarray .long, 2) := by decide +kernel
theorem dX8_init_102 : decode cX8_init 102 = .ok (.putfield 47, 3) := by decide +kernel
theorem dX8_init_105 : decode cX8_init 105 = .ok (.aload_n 0, 1) := by decide +kernel
theorem dX8_init_106 : decode cX8_init 106 = .ok (.sipush 256, 3) := by decide +kernel
theorem dX8_init_109 : decode cX8_init 109 = .ok (.newarray .long, 2) := by decide +kernel
theorem dX8_init_111 : decode cX8_init 111 = .ok (.putfield 51, 3) := by decide +kernel
theorem dX8_init_114 : decode cX8_init 114 = .ok (.aload_n 0, 1) := by decide +kernel
theorem dX8_init_115 : decode cX8_init 115 = .ok (.sipush 1386, 3) := by decide +kernel
theorem dX8_init_118 : decode cX8_init 118 = .ok (.newarray .long, 2) := by decide +kernel
theorem dX8_init_120 : decode cX8_init 120 = .ok (.putfield 54, 3) := by decide +kernel
theorem dX8_init_123 : decode cX8_init 123 = .ok (.aload_n 0, 1) := by decide +kernel
theorem dX8_init_124 : decode cX8_init 124 = .ok (.sipush 462, 3) := by decide +kernel
theorem dX8_init_127 : decode cX8_init 127 = .ok (.newarray .long, 2) := by decide +kernel
theorem dX8_init_129 : decode cX8_init 129 = .ok (.putfield 57, 3) := by decide +kernel
theorem dX8_init_132 : decode cX8_init 132 = .ok (.aload_n 0, 1) := by decide +kernel
theorem dX8_init_133 : decode cX8_init 133 = .ok (.ldc 60, 2) := by decide +kernel
theorem dX8_init_135 : decode cX8_init 135 = .ok (.newarray .long, 2) := by decide +kernel
theorem dX8_init_137 : decode cX8_init 137 = .ok (.putfield 61, 3) := by decide +kernel
theorem dX8_init_140 : decode cX8_init 140 = .ok (.aload_n 0, 1) := by decide +kernel
theorem dX8_init_141 : decode cX8_init 141 = .ok (.ldc 60, 2) := by decide +kernel
theorem dX8_init_143 : decode cX8_init 143 = .ok (.newarray .boolean, 2) := by decide +kernel
theorem dX8_init_145 : decode cX8_init 145 = .ok (.putfield 64, 3) := by decide +kernel
theorem dX8_init_148 : decode cX8_init 148 = .ok (.aload_n 0, 1) := by decide +kernel
theorem dX8_init_149 : decode cX8_init 149 = .ok (.bipush 6, 2) := by decide +kernel
theorem dX8_init_151 : decode cX8_init 151 = .ok (.newarray .int, 2) := by decide +kernel
theorem dX8_init_153 : decode cX8_init 153 = .ok (.putfield 68, 3) := by decide +kernel
theorem dX8_init_156 : decode cX8_init 156 = .ok (.iconst 0, 1) := by decide +kernel
theorem dX8_init_157 : decode cX8_init 157 = .ok (.istore_n 1, 1) := by decide +kernel
theorem dX8_init_158 : decode cX8_init 158 = .ok (.iload_n 1, 1) := by decide +kernel
theorem dX8_init_159 : decode cX8_init 159 = .ok (.bipush 8, 2) := by decide +kernel
theorem dX8_init_161 : decode cX8_init 161 = .ok (.if_icmp .ge 16, 3) := by decide +kernel
theorem dX8_init_164 : decode cX8_init 164 = .ok (.aload_n 0, 1) := by decide +kernel
theorem dX8_init_165 : decode cX8_init 165 = .ok (.getfield 44, 3) := by decide +kernel
theorem dX8_init_168 : decode cX8_init 168 = .ok (.iload_n 1, 1) := by decide +kernel
theorem dX8_init_169 : decode cX8_init 169 = .ok (.iconst (-1), 1) := by decide +kernel
theorem dX8_init_170 : decode cX8_init 170 = .ok (.iastore, 1) := by decide +kernel
theorem dX8_init_171 : decode cX8_init 171 = .ok (.iinc 1 1, 3) := by decide +kernel
theorem dX8_init_174 : decode cX8_init 174 = .ok (.goto (-16), 3) := by decide +kernel
theorem dX8_init_177 : decode cX8_init 177 = .ok (.return_, 1) := by decide +kernel
theorem dX8_in_0 : decode cX8_in 0 = .ok (.iload_n 0, 1) := by decide +kernel
theorem dX8_in_1 : decode cX8_in 1 = .ok (.iload_n 1, 1) := by decide +kernel
theorem dX8_in_2 : decode cX8_in 2 = .ok (.if_icmp .lt 12, 3) := by decide +kernel
theorem dX8_in_5 : decode cX8_in 5 = .ok (.iload_n 0, 1) := by decide +kernel
theorem dX8_in_6 : decode cX8_in 6 = .ok (.iload_n 2, 1) := by decide +kernel
theorem dX8_in_7 : decode cX8_in 7 = .ok (.if_icmp .gt 7, 3) := by decide +kernel
theorem dX8_in_10 : decode cX8_in 10 = .ok (.iconst 1, 1) := by decide +kernel
theorem dX8_in_11 : decode cX8_in 11 = .ok (.goto 4, 3) := by decide +kernel
theorem dX8_in_14 : decode cX8_in 14 = .ok (.iconst 0, 1) := by decide +kernel
theorem dX8_in_15 : decode cX8_in 15 = .ok (.ireturn, 1) := by decide +kernel
theorem dX8_placeOf_0 : decode cX8_placeOf 0 = .ok (.iconst 0, 1) := by decide +kernel
theorem dX8_placeOf_1 : decode cX8_placeOf 1 = .ok (.istore_n 3, 1) := by decide +kernel
theorem dX8_placeOf_2 : decode cX8_placeOf 2 = .ok (.iload_n 3, 1) := by decide +kernel
theorem dX8_placeOf_3 : decode cX8_placeOf 3 = .ok (.aload_n 0, 1) := by decide +kernel
theorem dX8_placeOf_4 : decode cX8_placeOf 4 = .ok (.getfield 71, 3) := by decide +kernel
theorem dX8_placeOf_7 : decode cX8_placeOf 7 = .ok (.if_icmp .ge 80, 3) := by decide +kernel
theorem dX8_placeOf_10 : decode cX8_placeOf 10 = .ok (.aload_n 0, 1) := by decide +kernel
theorem dX8_placeOf_11 : decode cX8_placeOf 11 = .ok (.getfield 32, 3) := by decide +kernel
theorem dX8_placeOf_14 : decode cX8_placeOf 14 = .ok (.iload_n 3, 1) := by decide +kernel
theorem dX8_placeOf_15 : decode cX8_placeOf 15 = .ok (.iaload, 1) := by decide +kernel
theorem dX8_placeOf_16 : decode cX8_placeOf 16 = .ok (.iload_n 2, 1) := by decide +kernel
theorem dX8_placeOf_17 : decode cX8_placeOf 17 = .ok (.if_icmp .ne 7, 3) := by decide +kernel
theorem dX8_placeOf_20 : decode cX8_placeOf 20 = .ok (.iconst 1, 1) := by decide +kernel
theorem dX8_placeOf_21 : decode cX8_placeOf 21 = .ok (.goto 4, 3) := by decide +kernel
theorem dX8_placeOf_24 : decode cX8_placeOf 24 = .ok (.iconst 0, 1) := by decide +kernel
theorem dX8_placeOf_25 : decode cX8_placeOf 25 = .ok (.istore 4, 2) := by decide +kernel
theorem dX8_placeOf_27 : decode cX8_placeOf 27 = .ok (.iconst 0, 1) := by decide +kernel
theorem dX8_placeOf_28 : decode cX8_placeOf 28 = .ok (.istore 5, 2) := by decide +kernel
theorem dX8_placeOf_30 : decode cX8_placeOf 30 = .ok (.iload 5, 2) := by decide +kernel
theorem dX8_placeOf_32 : decode cX8_placeOf 32 = .ok (.bipush 6, 2) := by decide +kernel
theorem dX8_placeOf_34 : decode cX8_placeOf 34 = .ok (.if_icmp .ge 40, 3) := by decide +kernel
theorem dX8_placeOf_37 : decode cX8_placeOf 37 = .ok (.iload 4, 2) := by decide +kernel
theorem dX8_placeOf_39 : decode cX8_placeOf 39 = .ok (.ifCond .eq 35, 3) := by decide +kernel
theorem dX8_placeOf_42 : decode cX8_placeOf 42 = .ok (.aload_n 0, 1) := by decide +kernel
theorem dX8_placeOf_43 : decode cX8_placeOf 43 = .ok (.getfield 29, 3) := by decide +kernel
theorem dX8_placeOf_46 : decode cX8_placeOf 46 = .ok (.bipush 6, 2) := by decide +kernel
