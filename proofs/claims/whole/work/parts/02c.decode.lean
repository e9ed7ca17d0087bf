theorem dX5_valueBefore_31 : decode cX5_valueBefore 31 = .ok (.iload_n 1, 1) := by decide +kernel
theorem dX5_valueBefore_32 : decode cX5_valueBefore 32 = .ok (.aaload, 1) := by decide +kernel
theorem dX5_valueBefore_33 : decode cX5_valueBefore 33 = .ok (.aload_n 0, 1) := by decide +kernel
theorem dX5_valueBefore_34 : decode cX5_valueBefore 34 = .ok (.getfield 16, 3) := by decide +kernel
theorem dX5_valueBefore_37 : decode cX5_valueBefore 37 = .ok (.iload_n 1, 1) := by decide +kernel
theorem dX5_valueBefore_38 : decode cX5_valueBefore 38 = .ok (.aaload, 1) := by decide +kernel
theorem dX5_valueBefore_39 : decode cX5_valueBefore 39 = .ok (.invokevirtual 46, 3) := by decide +kernel
theorem dX5_valueBefore_42 : decode cX5_valueBefore 42 = .ok (.aload_n 0, 1) := by decide +kernel
theorem dX5_valueBefore_43 : decode cX5_valueBefore 43 = .ok (.getfield 16, 3) := by decide +kernel
theorem dX5_valueBefore_46 : decode cX5_valueBefore 46 = .ok (.iload_n 1, 1) := by decide +kernel
theorem dX5_valueBefore_47 : decode cX5_valueBefore 47 = .ok (.aaload, 1) := by decide +kernel
theorem dX5_valueBefore_48 : decode cX5_valueBefore 48 = .ok (.iconst 0, 1) := by decide +kernel
theorem dX5_valueBefore_49 : decode cX5_valueBefore 49 = .ok (.laload, 1) := by decide +kernel
theorem dX5_valueBefore_50 : decode cX5_valueBefore 50 = .ok (.lreturn, 1) := by decide +kernel
theorem dX5_throwOthers_0 : decode cX5_throwOthers 0 = .ok (.aload_n 0, 1) := by decide +kernel
theorem dX5_throwOthers_1 : decode cX5_throwOthers 1 = .ok (.getfield 19, 3) := by decide +kernel
theorem dX5_throwOthers_4 : decode cX5_throwOthers 4 = .ok (.getfield 34, 3) := by decide +kernel
theorem dX5_throwOthers_7 : decode cX5_throwOthers 7 = .ok (.astore_n 3, 1) := by decide +kernel
theorem dX5_throwOthers_8 : decode cX5_throwOthers 8 = .ok (.aload_n 1, 1) := by decide +kernel
theorem dX5_throwOthers_9 : decode cX5_throwOthers 9 = .ok (.aload_n 3, 1) := by decide +kernel
theorem dX5_throwOthers_10 : decode cX5_throwOthers 10 = .ok (.getfield 65, 3) := by decide +kernel
theorem dX5_throwOthers_13 : decode cX5_throwOthers 13 = .ok (.aload_n 2, 1) := by decide +kernel
theorem dX5_throwOthers_14 : decode cX5_throwOthers 14 = .ok (.aload_n 3, 1) := by decide +kernel
theorem dX5_throwOthers_15 : decode cX5_throwOthers 15 = .ok (.getfield 65, 3) := by decide +kernel
theorem dX5_throwOthers_18 : decode cX5_throwOthers 18 = .ok (.aload_n 3, 1) := by decide +kernel
theorem dX5_throwOthers_19 : decode cX5_throwOthers 19 = .ok (.invokevirtual 68, 3) := by decide +kernel
theorem dX5_throwOthers_22 : decode cX5_throwOthers 22 = .ok (.invokestatic 72, 3) := by decide +kernel
theorem dX5_throwOthers_25 : decode cX5_throwOthers 25 = .ok (.aload_n 3, 1) := by decide +kernel
theorem dX5_throwOthers_26 : decode cX5_throwOthers 26 = .ok (.getfield 65, 3) := by decide +kernel
theorem dX5_throwOthers_29 : decode cX5_throwOthers 29 = .ok (.iconst 1, 1) := by decide +kernel
theorem dX5_throwOthers_30 : decode cX5_throwOthers 30 = .ok (.isub, 1) := by decide +kernel
theorem dX5_throwOthers_31 : decode cX5_throwOthers 31 = .ok (.istore 4, 2) := by decide +kernel
theorem dX5_throwOthers_33 : decode cX5_throwOthers 33 = .ok (.iload 4, 2) := by decide +kernel
theorem dX5_throwOthers_35 : decode cX5_throwOthers 35 = .ok (.ifCond .lt 62, 3) := by decide +kernel
theorem dX5_throwOthers_38 : decode cX5_throwOthers 38 = .ok (.iload 4, 2) := by decide +kernel
theorem dX5_throwOthers_40 : decode cX5_throwOthers 40 = .ok (.bipush 6, 2) := by decide +kernel
theorem dX5_throwOthers_42 : decode cX5_throwOthers 42 = .ok (.imul, 1) := by decide +kernel
theorem dX5_throwOthers_43 : decode cX5_throwOthers 43 = .ok (.istore 5, 2) := by decide +kernel
theorem dX5_throwOthers_45 : decode cX5_throwOthers 45 = .ok (.lconst 0, 1) := by decide +kernel
theorem dX5_throwOthers_46 : decode cX5_throwOthers 46 = .ok (.lstore 6, 2) := by decide +kernel
theorem dX5_throwOthers_48 : decode cX5_throwOthers 48 = .ok (.iconst 0, 1) := by decide +kernel
theorem dX5_throwOthers_49 : decode cX5_throwOthers 49 = .ok (.istore 8, 2) := by decide +kernel
theorem dX5_throwOthers_51 : decode cX5_throwOthers 51 = .ok (.iload 8, 2) := by decide +kernel
theorem dX5_throwOthers_53 : decode cX5_throwOthers 53 = .ok (.aload_n 3, 1) := by decide +kernel
theorem dX5_throwOthers_54 : decode cX5_throwOthers 54 = .ok (.getfield 78, 3) := by decide +kernel
theorem dX5_throwOthers_57 : decode cX5_throwOthers 57 = .ok (.if_icmp .ge 28, 3) := by decide +kernel
theorem dX5_throwOthers_60 : decode cX5_throwOthers 60 = .ok (.lload 6, 2) := by decide +kernel
theorem dX5_throwOthers_62 : decode cX5_throwOthers 62 = .ok (.aload_n 2, 1) := by decide +kernel
theorem dX5_throwOthers_63 : decode cX5_throwOthers 63 = .ok (.aload_n 3, 1) := by decide +kernel
theorem dX5_throwOthers_64 : decode cX5_throwOthers 64 = .ok (.getfield 81, 3) := by decide +kernel
theorem dX5_throwOthers_67 : decode cX5_throwOthers 67 = .ok (.iload 5, 2) := by decide +kernel
theorem dX5_throwOthers_69 : decode cX5_throwOthers 69 = .ok (.iload 8, 2) := by decide +kernel
theorem dX5_throwOthers_71 : decode cX5_throwOthers 71 = .ok (.iadd, 1) := by decide +kernel
theorem dX5_throwOthers_72 : decode cX5_throwOthers 72 = .ok (.iaload, 1) := by decide +kernel
theorem dX5_throwOthers_73 : decode cX5_throwOthers 73 = .ok (.invokestatic 23, 3) := by decide +kernel
theorem dX5_throwOthers_76 : decode cX5_throwOthers 76 = .ok (.ladd, 1) := by decide +kernel
theorem dX5_throwOthers_77 : decode cX5_throwOthers 77 = .ok (.lstore 6, 2) := by decide +kernel
theorem dX5_throwOthers_79 : decode cX5_throwOthers 79 = .ok (.iinc 8 1, 3) := by decide +kernel
theorem dX5_throwOthers_82 : decode cX5_throwOthers 82 = .ok (.goto (-31), 3) := by decide +kernel
theorem dX5_throwOthers_85 : decode cX5_throwOthers 85 = .ok (.aload_n 2, 1) := by decide +kernel
theorem dX5_throwOthers_86 : decode cX5_throwOthers 86 = .ok (.iload 4, 2) := by decide +kernel
theorem dX5_throwOthers_88 : decode cX5_throwOthers 88 = .ok (.lload 6, 2) := by decide +kernel
theorem dX5_throwOthers_90 : decode cX5_throwOthers 90 = .ok (.lastore, 1) := by decide +kernel
theorem dX5_throwOthers_91 : decode cX5_throwOthers 91 = .ok (.iinc 4 (-1), 3) := by decide +kernel
theorem dX5_throwOthers_94 : decode cX5_throwOthers 94 = .ok (.goto (-61), 3) := by decide +kernel
theorem dX5_throwOthers_97 : decode cX5_throwOthers 97 = .ok (.return_, 1) := by decide +kernel
theorem dX5_bringToUnit_0 : decode cX5_bringToUnit 0 = .ok (.aload_n 0, 1) := by decide +kernel
theorem dX5_bringToUnit_1 : decode cX5_bringToUnit 1 = .ok (.getfield 19, 3) := by decide +kernel
theorem dX5_bringToUnit_4 : decode cX5_bringToUnit 4 = .ok (.getfield 34, 3) := by decide +kernel
theorem dX5_bringToUnit_7 : decode cX5_bringToUnit 7 = .ok (.astore_n 2, 1) := by decide +kernel
theorem dX5_bringToUnit_8 : decode cX5_bringToUnit 8 = .ok (.iconst 0, 1) := by decide +kernel
theorem dX5_bringToUnit_9 : decode cX5_bringToUnit 9 = .ok (.istore_n 3, 1) := by decide +kernel
theorem dX5_bringToUnit_10 : decode cX5_bringToUnit 10 = .ok (.iload_n 3, 1) := by decide +kernel
theorem dX5_bringToUnit_11 : decode cX5_bringToUnit 11 = .ok (.aload_n 2, 1) := by decide +kernel
theorem dX5_bringToUnit_12 : decode cX5_bringToUnit 12 = .ok (.getfield 85, 3) := by decide +kernel
theorem dX5_bringToUnit_15 : decode cX5_bringToUnit 15 = .ok (.if_icmp .ge 31, 3) := by decide +kernel
theorem dX5_bringToUnit_18 : decode cX5_bringToUnit 18 = .ok (.aload_n 1, 1) := by decide +kernel
theorem dX5_bringToUnit_19 : decode cX5_bringToUnit 19 = .ok (.iload_n 3, 1) := by decide +kernel
theorem dX5_bringToUnit_20 : decode cX5_bringToUnit 20 = .ok (.dup2, 1) := by decide +kernel
theorem dX5_bringToUnit_21 : decode cX5_bringToUnit 21 = .ok (.laload, 1) := by decide +kernel
theorem dX5_bringToUnit_22 : decode cX5_bringToUnit 22 = .ok (.aload_n 0, 1) := by decide +kernel
theorem dX5_bringToUnit_23 : decode cX5_bringToUnit 23 = .ok (.getfield 19, 3) := by decide +kernel
theorem dX5_bringToUnit_26 : decode cX5_bringToUnit 26 = .ok (.getfield 88, 3) := by decide +kernel
theorem dX5_bringToUnit_29 : decode cX5_bringToUnit 29 = .ok (.aload_n 2, 1) := by decide +kernel
theorem dX5_bringToUnit_30 : decode cX5_bringToUnit 30 = .ok (.getfield 92, 3) := by decide +kernel
theorem dX5_bringToUnit_33 : decode cX5_bringToUnit 33 = .ok (.iload_n 3, 1) := by decide +kernel
theorem dX5_bringToUnit_34 : decode cX5_bringToUnit 34 = .ok (.iaload, 1) := by decide +kernel
theorem dX5_bringToUnit_35 : decode cX5_bringToUnit 35 = .ok (.invokestatic 23, 3) := by decide +kernel
theorem dX5_bringToUnit_38 : decode cX5_bringToUnit 38 = .ok (.lmul, 1) := by decide +kernel
theorem dX5_bringToUnit_39 : decode cX5_bringToUnit 39 = .ok (.lastore, 1) := by decide +kernel
theorem dX5_bringToUnit_40 : decode cX5_bringToUnit 40 = .ok (.iinc 3 1, 3) := by decide +kernel
theorem dX5_bringToUnit_43 : decode cX5_bringToUnit 43 = .ok (.goto (-33), 3) := by decide +kernel
theorem dX5_bringToUnit_46 : decode cX5_bringToUnit 46 = .ok (.return_, 1) := by decide +kernel
theorem dX5_chooseHolds_0 : decode cX5_chooseHolds 0 = .ok (.aload_n 0, 1) := by decide +kernel
theorem dX5_chooseHolds_1 : decode cX5_chooseHolds 1 = .ok (.getfield 19, 3) := by decide +kernel
theorem dX5_chooseHolds_4 : decode cX5_chooseHolds 4 = .ok (.getfield 34, 3) := by decide +kernel
theorem dX5_chooseHolds_7 : decode cX5_chooseHolds 7 = .ok (.astore_n 3, 1) := by decide +kernel
theorem dX5_chooseHolds_8 : decode cX5_chooseHolds 8 = .ok (.aload_n 1, 1) := by decide +kernel
theorem dX5_chooseHolds_9 : decode cX5_chooseHolds 9 = .ok (.iconst 0, 1) := by decide +kernel
theorem dX5_chooseHolds_10 : decode cX5_chooseHolds 10 = .ok (.aload_n 2, 1) := by decide +kernel
theorem dX5_chooseHolds_11 : decode cX5_chooseHolds 11 = .ok (.iconst 0, 1) := by decide +kernel
theorem dX5_chooseHolds_12 : decode cX5_chooseHolds 12 = .ok (.aload_n 3, 1) := by decide +kernel
theorem dX5_chooseHolds_13 : decode cX5_chooseHolds 13 = .ok (.getfield 85, 3) := by decide +kernel
theorem dX5_chooseHolds_16 : decode cX5_chooseHolds 16 = .ok (.invokestatic 72, 3) := by decide +kernel
theorem dX5_chooseHolds_19 : decode cX5_chooseHolds 19 = .ok (.iconst 0, 1) := by decide +kernel
theorem dX5_chooseHolds_20 : decode cX5_chooseHolds 20 = .ok (.istore 4, 2) := by decide +kernel
theorem dX5_chooseHolds_22 : decode cX5_chooseHolds 22 = .ok (.iload 4, 2) := by decide +kernel
theorem dX5_chooseHolds_24 : decode cX5_chooseHolds 24 = .ok (.aload_n 3, 1) := by decide +kernel
theorem dX5_chooseHolds_25 : decode cX5_chooseHolds 25 = .ok (.getfield 65, 3) := by decide +kernel
theorem dX5_chooseHolds_28 : decode cX5_chooseHolds 28 = .ok (.if_icmp .ge 78, 3) := by decide +kernel
theorem dX5_chooseHolds_31 : decode cX5_chooseHolds 31 = .ok (.iload 4, 2) := by decide +kernel
theorem dX5_chooseHolds_33 : decode cX5_chooseHolds 33 = .ok (.bipush 6, 2) := by decide +kernel
theorem dX5_chooseHolds_35 : decode cX5_chooseHolds 35 = .ok (.imul, 1) := by decide +kernel
theorem dX5_chooseHolds_36 : decode cX5_chooseHolds 36 = .ok (.istore 5, 2) := by decide +kernel
theorem dX5_chooseHolds_38 : decode cX5_chooseHolds 38 = .ok (.iconst 0, 1) := by decide +kernel
theorem dX5_chooseHolds_39 : decode cX5_chooseHolds 39 = .ok (.istore 6, 2) := by decide +kernel
theorem dX5_chooseHolds_41 : decode cX5_chooseHolds 41 = .ok (.iload 6, 2) := by decide +kernel
theorem dX5_chooseHolds_43 : decode cX5_chooseHolds 43 = .ok (.aload_n 3, 1) := by decide +kernel
theorem dX5_chooseHolds_44 : decode cX5_chooseHolds 44 = .ok (.getfield 78, 3) := by decide +kernel
theorem dX5_chooseHolds_47 : decode cX5_chooseHolds 47 = .ok (.if_icmp .ge 53, 3) := by decide +kernel
theorem dX5_chooseHolds_50 : decode cX5_chooseHolds 50 = .ok (.aload_n 3, 1) := by decide +kernel
theorem dX5_chooseHolds_51 : decode cX5_chooseHolds 51 = .ok (.getfield 81, 3) := by decide +kernel
theorem dX5_chooseHolds_54 : decode cX5_chooseHolds 54 = .ok (.iload 5, 2) := by decide +kernel
theorem dX5_chooseHolds_56 : decode cX5_chooseHolds 56 = .ok (.iload 6, 2) := by decide +kernel
theorem dX5_chooseHolds_58 : decode cX5_chooseHolds 58 = .ok (.iadd, 1) := by decide +kernel
theorem dX5_chooseHolds_59 : decode cX5_chooseHolds 59 = .ok (.iaload, 1) := by decide +kernel
theorem dX5_chooseHolds_60 : decode cX5_chooseHolds 60 = .ok (.istore 7, 2) := by decide +kernel
theorem dX5_chooseHolds_62 : decode cX5_chooseHolds 62 = .ok (.iload 7, 2) := by decide +kernel
theorem dX5_chooseHolds_64 : decode cX5_chooseHolds 64 = .ok (.ifCond .lt 30, 3) := by decide +kernel
theorem dX5_chooseHolds_67 : decode cX5_chooseHolds 67 = .ok (.iload 7, 2) := by decide +kernel
theorem dX5_chooseHolds_69 : decode cX5_chooseHolds 69 = .ok (.aload_n 2, 1) := by decide +kernel
theorem dX5_chooseHolds_70 : decode cX5_chooseHolds 70 = .ok (.arraylength, 1) := by decide +kernel
theorem dX5_chooseHolds_71 : decode cX5_chooseHolds 71 = .ok (.if_icmp .ge 23, 3) := by decide +kernel
theorem dX5_chooseHolds_74 : decode cX5_chooseHolds 74 = .ok (.aload_n 2, 1) := by decide +kernel
theorem dX5_chooseHolds_75 : decode cX5_chooseHolds 75 = .ok (.iload 7, 2) := by decide +kernel
theorem dX5_chooseHolds_77 : decode cX5_chooseHolds 77 = .ok (.laload, 1) := by decide +kernel
theorem dX5_chooseHolds_78 : decode cX5_chooseHolds 78 = .ok (.aload_n 2, 1) := by decide +kernel
theorem dX5_chooseHolds_79 : decode cX5_chooseHolds 79 = .ok (.iload 4, 2) := by decide +kernel
theorem dX5_chooseHolds_81 : decode cX5_chooseHolds 81 = .ok (.laload, 1) := by decide +kernel
theorem dX5_chooseHolds_82 : decode cX5_chooseHolds 82 = .ok (.lcmp, 1) := by decide +kernel
theorem dX5_chooseHolds_83 : decode cX5_chooseHolds 83 = .ok (.ifCond .ge 11, 3) := by decide +kernel
theorem dX5_chooseHolds_86 : decode cX5_chooseHolds 86 = .ok (.aload_n 2, 1) := by decide +kernel
theorem dX5_chooseHolds_87 : decode cX5_chooseHolds 87 = .ok (.iload 7, 2) := by decide +kernel
theorem dX5_chooseHolds_89 : decode cX5_chooseHolds 89 = .ok (.aload_n 2, 1) := by decide +kernel
theorem dX5_chooseHolds_90 : decode cX5_chooseHolds 90 = .ok (.iload 4, 2) := by decide +kernel
theorem dX5_chooseHolds_92 : decode cX5_chooseHolds 92 = .ok (.laload, 1) := by decide +kernel
theorem dX5_chooseHolds_93 : decode cX5_chooseHolds 93 = .ok (.lastore, 1) := by decide +kernel
theorem dX5_chooseHolds_94 : decode cX5_chooseHolds 94 = .ok (.iinc 6 1, 3) := by decide +kernel
theorem dX5_chooseHolds_97 : decode cX5_chooseHolds 97 = .ok (.goto (-56), 3) := by decide +kernel
theorem dX5_chooseHolds_100 : decode cX5_chooseHolds 100 = .ok (.iinc 4 1, 3) := by decide +kernel
theorem dX5_chooseHolds_103 : decode cX5_chooseHolds 103 = .ok (.goto (-81), 3) := by decide +kernel
theorem dX5_chooseHolds_106 : decode cX5_chooseHolds 106 = .ok (.return_, 1) := by decide +kernel
theorem dX6_init_0 : decode cX6_init 0 = .ok (.aload_n 0, 1) := by decide +kernel
theorem dX6_init_1 : decode cX6_init 1 = .ok (.invokespecial 3, 3) := by decide +kernel
theorem dX6_init_4 : decode cX6_init 4 = .ok (.aload_n 0, 1) := by decide +kernel
theorem dX6_init_5 : decode cX6_init 5 = .ok (.sipush 256, 3) := by decide +kernel
theorem dX6_init_8 : decode cX6_init 8 = .ok (.newarray .long, 2) := by decide +kernel
theorem dX6_init_10 : decode cX6_init 10 = .ok (.putfield 9, 3) := by decide +kernel
theorem dX6_init_13 : decode cX6_init 13 = .ok (.aload_n 0, 1) := by decide +kernel
theorem dX6_init_14 : decode cX6_init 14 = .ok (.aload_n 1, 1) := by decide +kernel
theorem dX6_init_15 : decode cX6_init 15 = .ok (.putfield 15, 3) := by decide +kernel
theorem dX6_init_18 : decode cX6_init 18 = .ok (.aload_n 0, 1) := by decide +kernel
theorem dX6_init_19 : decode cX6_init 19 = .ok (.new 19, 3) := by decide +kernel
theorem dX6_init_22 : decode cX6_init 22 = .ok (.dup, 1) := by decide +kernel
theorem dX6_init_23 : decode cX6_init 23 = .ok (.aload_n 1, 1) := by decide +kernel
theorem dX6_init_24 : decode cX6_init 24 = .ok (.invokespecial 21, 3) := by decide +kernel
theorem dX6_init_27 : decode cX6_init 27 = .ok (.putfield 24, 3) := by decide +kernel
theorem dX6_init_30 : decode cX6_init 30 = .ok (.return_, 1) := by decide +kernel
theorem dX6_reckonAll_0 : decode cX6_reckonAll 0 = .ok (.aload_n 0, 1) := by decide +kernel
theorem dX6_reckonAll_1 : decode cX6_reckonAll 1 = .ok (.getfield 15, 3) := by decide +kernel
theorem dX6_reckonAll_4 : decode cX6_reckonAll 4 = .ok (.invokevirtual 28, 3) := by decide +kernel
theorem dX6_reckonAll_7 : decode cX6_reckonAll 7 = .ok (.istore_n 1, 1) := by decide +kernel
theorem dX6_reckonAll_8 : decode cX6_reckonAll 8 = .ok (.aload_n 0, 1) := by decide +kernel
theorem dX6_reckonAll_9 : decode cX6_reckonAll 9 = .ok (.getfield 9, 3) := by decide +kernel
theorem dX6_reckonAll_12 : decode cX6_reckonAll 12 = .ok (.iload_n 1, 1) := by decide +kernel
theorem dX6_reckonAll_13 : decode cX6_reckonAll 13 = .ok (.lconst 0, 1) := by decide +kernel
theorem dX6_reckonAll_14 : decode cX6_reckonAll 14 = .ok (.lastore, 1) := by decide +kernel
theorem dX6_reckonAll_15 : decode cX6_reckonAll 15 = .ok (.iload_n 1, 1) := by decide +kernel
theorem dX6_reckonAll_16 : decode cX6_reckonAll 16 = .ok (.iconst 1, 1) := by decide +kernel
theorem dX6_reckonAll_17 : decode cX6_reckonAll 17 = .ok (.isub, 1) := by decide +kernel
theorem dX6_reckonAll_18 : decode cX6_reckonAll 18 = .ok (.istore_n 2, 1) := by decide +kernel
theorem dX6_reckonAll_19 : decode cX6_reckonAll 19 = .ok (.iload_n 2, 1) := by decide +kernel
theorem dX6_reckonAll_20 : decode cX6_reckonAll 20 = .ok (.ifCond .lt 27, 3) := by decide +kernel
theorem dX6_reckonAll_23 : decode cX6_reckonAll 23 = .ok (.aload_n 0, 1) := by decide +kernel
theorem dX6_reckonAll_24 : decode cX6_reckonAll 24 = .ok (.iload_n 2, 1) := by decide +kernel
theorem dX6_reckonAll_25 : decode cX6_reckonAll 25 = .ok (.invokevirtual 34, 3) := by decide +kernel
theorem dX6_reckonAll_28 : decode cX6_reckonAll 28 = .ok (.aload_n 0, 1) := by decide +kernel
theorem dX6_reckonAll_29 : decode cX6_reckonAll 29 = .ok (.getfield 9, 3) := by decide +kernel
theorem dX6_reckonAll_32 : decode cX6_reckonAll 32 = .ok (.iload_n 2, 1) := by decide +kernel
theorem dX6_reckonAll_33 : decode cX6_reckonAll 33 = .ok (.aload_n 0, 1) := by decide +kernel
theorem dX6_reckonAll_34 : decode cX6_reckonAll 34 = .ok (.getfield 24, 3) := by decide +kernel
theorem dX6_reckonAll_37 : decode cX6_reckonAll 37 = .ok (.invokevirtual 38, 3) := by decide +kernel
theorem dX6_reckonAll_40 : decode cX6_reckonAll 40 = .ok (.lastore, 1) := by decide +kernel
theorem dX6_reckonAll_41 : decode cX6_reckonAll 41 = .ok (.iinc 2 (-1), 3) := by decide +kernel
theorem dX6_reckonAll_44 : decode cX6_reckonAll 44 = .ok (.goto (-25), 3) := by decide +kernel
theorem dX6_reckonAll_47 : decode cX6_reckonAll 47 = .ok (.return_, 1) := by decide +kernel
theorem dX6_lookAt_0 : decode cX6_lookAt 0 = .ok (.aload_n 0, 1) := by decide +kernel
theorem dX6_lookAt_1 : decode cX6_lookAt 1 = .ok (.iload_n 1, 1) := by decide +kernel
theorem dX6_lookAt_2 : decode cX6_lookAt 2 = .ok (.invokevirtual 34, 3) := by decide +kernel
theorem dX6_lookAt_5 : decode cX6_lookAt 5 = .ok (.aload_n 0, 1) := by decide +kernel
theorem dX6_lookAt_6 : decode cX6_lookAt 6 = .ok (.getfield 24, 3) := by decide +kernel
theorem dX6_lookAt_9 : decode cX6_lookAt 9 = .ok (.aload_n 0, 1) := by decide +kernel
theorem dX6_lookAt_10 : decode cX6_lookAt 10 = .ok (.getfield 15, 3) := by decide +kernel
theorem dX6_lookAt_13 : decode cX6_lookAt 13 = .ok (.getfield 42, 3) := by decide +kernel
theorem dX6_lookAt_16 : decode cX6_lookAt 16 = .ok (.iconst 1, 1) := by decide +kernel
theorem dX6_lookAt_17 : decode cX6_lookAt 17 = .ok (.isub, 1) := by decide +kernel
theorem dX6_lookAt_18 : decode cX6_lookAt 18 = .ok (.invokevirtual 46, 3) := by decide +kernel
theorem dX6_lookAt_21 : decode cX6_lookAt 21 = .ok (.return_, 1) := by decide +kernel
theorem dX6_bestRowFor_0 : decode cX6_bestRowFor 0 = .ok (.iconst (-1), 1) := by decide +kernel
theorem dX6_bestRowFor_1 : decode cX6_bestRowFor 1 = .ok (.istore_n 3, 1) := by decide +kernel
theorem dX6_bestRowFor_2 : decode cX6_bestRowFor 2 = .ok (.ldc2_w 49, 3) := by decide +kernel
theorem dX6_bestRowFor_5 : decode cX6_bestRowFor 5 = .ok (.lstore 4, 2) := by decide +kernel
theorem dX6_bestRowFor_7 : decode cX6_bestRowFor 7 = .ok (.iconst 0, 1) := by decide +kernel
theorem dX6_bestRowFor_8 : decode cX6_bestRowFor 8 = .ok (.istore 6, 2) := by decide +kernel
theorem dX6_bestRowFor_10 : decode cX6_bestRowFor 10 = .ok (.iload 6, 2) := by decide +kernel
theorem dX6_bestRowFor_12 : decode cX6_bestRowFor 12 = .ok (.aload_n 0, 1) := by decide +kernel
theorem dX6_bestRowFor_13 : decode cX6_bestRowFor 13 = .ok (.getfield 15, 3) := by decide +kernel
theorem dX6_bestRowFor_16 : decode cX6_bestRowFor 16 = .ok (.getfield 51, 3) := by decide +kernel
theorem dX6_bestRowFor_19 : decode cX6_bestRowFor 19 = .ok (.if_icmp .ge 78, 3) := by decide +kernel
theorem dX6_bestRowFor_22 : decode cX6_bestRowFor 22 = .ok (.aload_n 0, 1) := by decide +kernel
theorem dX6_bestRowFor_23 : decode cX6_bestRowFor 23 = .ok (.getfield 15, 3) := by decide +kernel
theorem dX6_bestRowFor_26 : decode cX6_bestRowFor 26 = .ok (.iload_n 1, 1) := by decide +kernel
theorem dX6_bestRowFor_27 : decode cX6_bestRowFor 27 = .ok (.iload 6, 2) := by decide +kernel
theorem dX6_bestRowFor_29 : decode cX6_bestRowFor 29 = .ok (.invokevirtual 54, 3) := by decide +kernel
theorem dX6_bestRowFor_32 : decode cX6_bestRowFor 32 = .ok (.ifCond .eq 59, 3) := by decide +kernel
theorem dX6_bestRowFor_35 : decode cX6_bestRowFor 35 = .ok (.iload_n 1, 1) := by decide +kernel
theorem dX6_bestRowFor_36 : decode cX6_bestRowFor 36 = .ok (.iconst 1, 1) := by decide +kernel
theorem dX6_bestRowFor_37 : decode cX6_bestRowFor 37 = .ok (.iload 6, 2) := by decide +kernel
theorem dX6_bestRowFor_39 : decode cX6_bestRowFor 39 = .ok (.ishl, 1) := by decide +kernel
theorem dX6_bestRowFor_40 : decode cX6_bestRowFor 40 = .ok (.ior, 1) := by decide +kernel
theorem dX6_bestRowFor_41 : decode cX6_bestRowFor 41 = .ok (.istore 7, 2) := by decide +kernel
theorem dX6_bestRowFor_43 : decode cX6_bestRowFor 43 = .ok (.aload_n 0, 1) := by decide +kernel
theorem dX6_bestRowFor_44 : decode cX6_bestRowFor 44 = .ok (.getfield 15, 3) := by decide +kernel
theorem dX6_bestRowFor_47 : decode cX6_bestRowFor 47 = .ok (.iload 6, 2) := by decide +kernel
theorem dX6_bestRowFor_49 : decode cX6_bestRowFor 49 = .ok (.iload_n 2, 1) := by decide +kernel
theorem dX6_bestRowFor_50 : decode cX6_bestRowFor 50 = .ok (.invokevirtual 58, 3) := by decide +kernel
theorem dX6_bestRowFor_53 : decode cX6_bestRowFor 53 = .ok (.i2l, 1) := by decide +kernel
theorem dX6_bestRowFor_54 : decode cX6_bestRowFor 54 = .ok (.aload_n 0, 1) := by decide +kernel
theorem dX6_bestRowFor_55 : decode cX6_bestRowFor 55 = .ok (.getfield 15, 3) := by decide +kernel
theorem dX6_bestRowFor_58 : decode cX6_bestRowFor 58 = .ok (.iload 7, 2) := by decide +kernel
theorem dX6_bestRowFor_60 : decode cX6_bestRowFor 60 = .ok (.invokevirtual 62, 3) := by decide +kernel
theorem dX6_bestRowFor_63 : decode cX6_bestRowFor 63 = .ok (.lmul, 1) := by decide +kernel
theorem dX6_bestRowFor_64 : decode cX6_bestRowFor 64 = .ok (.aload_n 0, 1) := by decide +kernel
theorem dX6_bestRowFor_65 : decode cX6_bestRowFor 65 = .ok (.getfield 9, 3) := by decide +kernel
theorem dX6_bestRowFor_68 : decode cX6_bestRowFor 68 = .ok (.iload 7, 2) := by decide +kernel
theorem dX6_bestRowFor_70 : decode cX6_bestRowFor 70 = .ok (.invokestatic 66, 3) := by decide +kernel
theorem dX6_bestRowFor_73 : decode cX6_bestRowFor 73 = .ok (.ladd, 1) := by decide +kernel
theorem dX6_bestRowFor_74 : decode cX6_bestRowFor 74 = .ok (.lstore 8, 2) := by decide +kernel
theorem dX6_bestRowFor_76 : decode cX6_bestRowFor 76 = .ok (.lload 8, 2) := by decide +kernel
theorem dX6_bestRowFor_78 : decode cX6_bestRowFor 78 = .ok (.lload 4, 2) := by decide +kernel
theorem dX6_bestRowFor_80 : decode cX6_bestRowFor 80 = .ok (.lcmp, 1) := by decide +kernel
theorem dX6_bestRowFor_81 : decode cX6_bestRowFor 81 = .ok (.ifCond .le 10, 3) := by decide +kernel
theorem dX6_bestRowFor_84 : decode cX6_bestRowFor 84 = .ok (.iload 6, 2) := by decide +kernel
theorem dX6_bestRowFor_86 : decode cX6_bestRowFor 86 = .ok (.istore_n 3, 1) := by decide +kernel
theorem dX6_bestRowFor_87 : decode cX6_bestRowFor 87 = .ok (.lload 8, 2) := by decide +kernel
theorem dX6_bestRowFor_89 : decode cX6_bestRowFor 89 = .ok (.lstore 4, 2) := by decide +kernel
theorem dX6_bestRowFor_91 : decode cX6_bestRowFor 91 = .ok (.iinc 6 1, 3) := by decide +kernel
theorem dX6_bestRowFor_94 : decode cX6_bestRowFor 94 = .ok (.goto (-84), 3) := by decide +kernel
theorem dX6_bestRowFor_97 : decode cX6_bestRowFor 97 = .ok (.iload_n 3, 1) := by decide +kernel
theorem dX6_bestRowFor_98 : decode cX6_bestRowFor 98 = .ok (.ireturn, 1) := by decide +kernel
theorem dX6_layGround_0 : decode cX6_layGround 0 = .ok (.aload_n 0, 1) := by decide +kernel
theorem dX6_layGround_1 : decode cX6_layGround 1 = .ok (.getfield 15, 3) := by decide +kernel
theorem dX6_layGround_4 : decode cX6_layGround 4 = .ok (.getfield 70, 3) := by decide +kernel
theorem dX6_layGround_7 : decode cX6_layGround 7 = .ok (.invokevirtual 74, 3) := by decide +kernel
theorem dX6_layGround_10 : decode cX6_layGround 10 = .ok (.istore_n 2, 1) := by decide +kernel
theorem dX6_layGround_11 : decode cX6_layGround 11 = .ok (.aload_n 0, 1) := by decide +kernel
theorem dX6_layGround_12 : decode cX6_layGround 12 = .ok (.getfield 15, 3) := by decide +kernel
theorem dX6_layGround_15 : decode cX6_layGround 15 = .ok (.getfield 70, 3) := by decide +kernel
theorem dX6_layGround_18 : decode cX6_layGround 18 = .ok (.getfield 79, 3) := by decide +kernel
theorem dX6_layGround_21 : decode cX6_layGround 21 = .ok (.istore_n 3, 1) := by decide +kernel
theorem dX6_layGround_22 : decode cX6_layGround 22 = .ok (.aload_n 0, 1) := by decide +kernel
theorem dX6_layGround_23 : decode cX6_layGround 23 = .ok (.getfield 24, 3) := by decide +kernel
theorem dX6_layGround_26 : decode cX6_layGround 26 = .ok (.invokevirtual 82, 3) := by decide +kernel
theorem dX6_layGround_29 : decode cX6_layGround 29 = .ok (.astore 4, 2) := by decide +kernel
theorem dX6_layGround_31 : decode cX6_layGround 31 = .ok (.aload 4, 2) := by decide +kernel
theorem dX6_layGround_33 : decode cX6_layGround 33 = .ok (.iload_n 3, 1) := by decide +kernel
theorem dX6_layGround_34 : decode cX6_layGround 34 = .ok (.iload_n 3, 1) := by decide +kernel
theorem dX6_layGround_35 : decode cX6_layGround 35 = .ok (.iload_n 2, 1) := by decide +kernel
theorem dX6_layGround_36 : decode cX6_layGround 36 = .ok (.iadd, 1) := by decide +kernel
theorem dX6_layGround_37 : decode cX6_layGround 37 = .ok (.lconst 0, 1) := by decide +kernel
theorem dX6_layGround_38 : decode cX6_layGround 38 = .ok (.invokestatic 86, 3) := by decide +kernel
theorem dX6_layGround_41 : decode cX6_layGround 41 = .ok (.iconst 0, 1) := by decide +kernel
theorem dX6_layGround_42 : decode cX6_layGround 42 = .ok (.istore 5, 2) := by decide +kernel
theorem dX6_layGround_44 : decode cX6_layGround 44 = .ok (.iload 5, 2) := by decide +kernel
theorem dX6_layGround_46 : decode cX6_layGround 46 = .ok (.aload_n 0, 1) := by decide +kernel
theorem dX6_layGround_47 : decode cX6_layGround 47 = .ok (.getfield 15, 3) := by decide +kernel
theorem dX6_layGround_50 : decode cX6_layGround 50 = .ok (.getfield 51, 3) := by decide +kernel
theorem dX6_layGround_53 : decode cX6_layGround 53 = .ok (.if_icmp .ge 112, 3) := by decide +kernel
theorem dX6_layGround_56 : decode cX6_layGround 56 = .ok (.aload_n 0, 1) := by decide +kernel
theorem dX6_layGround_57 : decode cX6_layGround 57 = .ok (.getfield 15, 3) := by decide +kernel
theorem dX6_layGround_60 : decode cX6_layGround 60 = .ok (.iload_n 1, 1) := by decide +kernel
theorem dX6_layGround_61 : decode cX6_layGround 61 = .ok (.iload 5, 2) := by decide +kernel
theorem dX6_layGround_63 : decode cX6_layGround 63 = .ok (.invokevirtual 54, 3) := by decide +kernel
theorem dX6_layGround_66 : decode cX6_layGround 66 = .ok (.ifCond .eq 93, 3) := by decide +kernel
theorem dX6_layGround_69 : decode cX6_layGround 69 = .ok (.iload_n 1, 1) := by decide +kernel
theorem dX6_layGround_70 : decode cX6_layGround 70 = .ok (.iconst 1, 1) := by decide +kernel
theorem dX6_layGround_71 : decode cX6_layGround 71 = .ok (.iload 5, 2) := by decide +kernel
theorem dX6_layGround_73 : decode cX6_layGround 73 = .ok (.ishl, 1) := by decide +kernel
theorem dX6_layGround_74 : decode cX6_layGround 74 = .ok (.ior, 1) := by decide +kernel
theorem dX6_layGround_75 : decode cX6_layGround 75 = .ok (.istore 6, 2) := by decide +kernel
theorem dX6_layGround_77 : decode cX6_layGround 77 = .ok (.aload_n 0, 1) := by decide +kernel
theorem dX6_layGround_78 : decode cX6_layGround 78 = .ok (.getfield 15, 3) := by decide +kernel
theorem dX6_layGround_81 : decode cX6_layGround 81 = .ok (.iload 6, 2) := by decide +kernel
theorem dX6_layGround_83 : decode cX6_layGround 83 = .ok (.invokevirtual 62, 3) := by decide +kernel
theorem dX6_layGround_86 : decode cX6_layGround 86 = .ok (.lstore 7, 2) := by decide +kernel
theorem dX6_layGround_88 : decode cX6_layGround 88 = .ok (.aload_n 0, 1) := by decide +kernel
theorem dX6_layGround_89 : decode cX6_layGround 89 = .ok (.getfield 9, 3) := by decide +kernel
theorem dX6_layGround_92 : decode cX6_layGround 92 = .ok (.iload 6, 2) := by decide +kernel
theorem dX6_layGround_94 : decode cX6_layGround 94 = .ok (.invokestatic 66, 3) := by decide +kernel
theorem dX6_layGround_97 : decode cX6_layGround 97 = .ok (.lstore 9, 2) := by decide +kernel
theorem dX6_layGround_99 : decode cX6_layGround 99 = .ok (.iconst 0, 1) := by decide +kernel
theorem dX6_layGround_100 : decode cX6_layGround 100 = .ok (.istore 11, 2) := by decide +kernel
theorem dX6_layGround_102 : decode cX6_layGround 102 = .ok (.iload 11, 2) := by decide +kernel
theorem dX6_layGround_104 : decode cX6_layGround 104 = .ok (.iload_n 2, 1) := by decide +kernel
theorem dX6_layGround_105 : decode cX6_layGround 105 = .ok (.if_icmp .ge 54, 3) := by decide +kernel
theorem dX6_layGround_108 : decode cX6_layGround 108 = .ok (.aload_n 0, 1) := by decide +kernel
theorem dX6_layGround_109 : decode cX6_layGround 109 = .ok (.getfield 15, 3) := by decide +kernel
theorem dX6_layGround_112 : decode cX6_layGround 112 = .ok (.getfield 92, 3) := by decide +kernel
theorem dX6_layGround_115 : decode cX6_layGround 115 = .ok (.iload 5, 2) := by decide +kernel
theorem dX6_layGround_117 : decode cX6_layGround 117 = .ok (.iload_n 2, 1) := by decide +kernel
theorem dX6_layGround_118 : decode cX6_layGround 118 = .ok (.imul, 1) := by decide +kernel
theorem dX6_layGround_119 : decode cX6_layGround 119 = .ok (.iload 11, 2) := by decide +kernel
theorem dX6_layGround_121 : decode cX6_layGround 121 = .ok (.iadd, 1) := by decide +kernel
theorem dX6_layGround_122 : decode cX6_layGround 122 = .ok (.invokestatic 96, 3) := by decide +kernel
theorem dX6_layGround_125 : decode cX6_layGround 125 = .ok (.i2l, 1) := by decide +kernel
theorem dX6_layGround_126 : decode cX6_layGround 126 = .ok (.lload 7, 2) := by decide +kernel
theorem dX6_layGround_128 : decode cX6_layGround 128 = .ok (.lmul, 1) := by decide +kernel
theorem dX6_layGround_129 : decode cX6_layGround 129 = .ok (.lload 9, 2) := by decide +kernel
theorem dX6_layGround_131 : decode cX6_layGround 131 = .ok (.ladd, 1) := by decide +kernel
theorem dX6_layGround_132 : decode cX6_layGround 132 = .ok (.lstore 12, 2) := by decide +kernel
theorem dX6_layGround_134 : decode cX6_layGround 134 = .ok (.aload 4, 2) := by decide +kernel
theorem dX6_layGround_136 : decode cX6_layGround 136 = .ok (.iload_n 3, 1) := by decide +kernel
theorem dX6_layGround_137 : decode cX6_layGround 137 = .ok (.iload 11, 2) := by decide +kernel
theorem dX6_layGround_139 : decode cX6_layGround 139 = .ok (.iadd, 1) := by decide +kernel
theorem dX6_layGround_140 : decode cX6_layGround 140 = .ok (.aload 4, 2) := by decide +kernel
theorem dX6_layGround_142 : decode cX6_layGround 142 = .ok (.iload_n 3, 1) := by decide +kernel
theorem dX6_layGround_143 : decode cX6_layGround 143 = .ok (.iload 11, 2) := by decide +kernel
theorem dX6_layGround_145 : decode cX6_layGround 145 = .ok (.iadd, 1) := by decide +kernel
theorem dX6_layGround_146 : decode cX6_layGround 146 = .ok (.laload, 1) := by decide +kernel
theorem dX6_layGround_147 : decode cX6_layGround 147 = .ok (.lload 12, 2) := by decide +kernel
theorem dX6_layGround_149 : decode cX6_layGround 149 = .ok (.invokestatic 99, 3) := by decide +kernel
theorem dX6_layGround_152 : decode cX6_layGround 152 = .ok (.lastore, 1) := by decide +kernel
theorem dX6_layGround_153 : decode cX6_layGround 153 = .ok (.iinc 11 1, 3) := by decide +kernel
theorem dX6_layGround_156 : decode cX6_layGround 156 = .ok (.goto (-54), 3) := by decide +kernel
theorem dX6_layGround_159 : decode cX6_layGround 159 = .ok (.iinc 5 1, 3) := by decide +kernel
theorem dX6_layGround_162 : decode cX6_layGround 162 = .ok (.goto (-118), 3) := by decide +kernel
theorem dX6_layGround_165 : decode cX6_layGround 165 = .ok (.return_, 1) := by decide +kernel
theorem dX7_init_0 : decode cX7_init 0 = .ok (.aload_n 0, 1) := by decide +kernel
theorem dX7_init_1 : decode cX7_init 1 = .ok (.invokespecial 1, 3) := by decide +kernel
theorem dX7_init_4 : decode cX7_init 4 = .ok (.aload_n 0, 1) := by decide +kernel
theorem dX7_init_5 : decode cX7_init 5 = .ok (.new 7, 3) := by decide +kernel
theorem dX7_init_8 : decode cX7_init 8 = .ok (.dup, 1) := by decide +kernel
theorem dX7_init_9 : decode cX7_init 9 = .ok (.invokespecial 9, 3) := by decide +kernel
theorem dX7_init_12 : decode cX7_init 12 = .ok (.putfield 10, 3) := by decide +kernel
theorem dX7_init_15 : decode cX7_init 15 = .ok (.aload_n 0, 1) := by decide +kernel
theorem dX7_init_16 : decode cX7_init 16 = .ok (.bipush 8, 2) := by decide +kernel
theorem dX7_init_18 : decode cX7_init 18 = .ok (.anewarray 16, 3) := by decide +kernel
theorem dX7_init_21 : decode cX7_init 21 = .ok (.putfield 18, 3) := by decide +kernel
theorem dX7_init_24 : decode cX7_init 24 = .ok (.aload_n 0, 1) := by decide +kernel
theorem dX7_init_25 : decode cX7_init 25 = .ok (.new 22, 3) := by decide +kernel
theorem dX7_init_28 : decode cX7_init 28 = .ok (.dup, 1) := by decide +kernel
theorem dX7_init_29 : decode cX7_init 29 = .ok (.invokespecial 24, 3) := by decide +kernel
theorem dX7_init_32 : decode cX7_init 32 = .ok (.putfield 25, 3) := by decide +kernel
theorem dX7_init_35 : decode cX7_init 35 = .ok (.aload_n 0, 1) := by decide +kernel
theorem dX7_init_36 : decode cX7_init 36 = .ok (.new 29, 3) := by decide +kernel
theorem dX7_init_39 : decode cX7_init 39 = .ok (.dup, 1) := by decide +kernel
theorem dX7_init_40 : decode cX7_init 40 = .ok (.aload_n 0, 1) := by decide +kernel
theorem dX7_init_41 : decode cX7_init 41 = .ok (.getfield 25, 3) := by decide +kernel
theorem dX7_init_44 : decode cX7_init 44 = .ok (.invokespecial 31, 3) := by decide +kernel
theorem dX7_init_47 : decode cX7_init 47 = .ok (.putfield 34, 3) := by decide +kernel
theorem dX7_init_50 : decode cX7_init 50 = .ok (.aload_n 0, 1) := by decide +kernel
theorem dX7_init_51 : decode cX7_init 51 = .ok (.new 38, 3) := by decide +kernel
theorem dX7_init_54 : decode cX7_init 54 = .ok (.dup, 1) := by decide +kernel
theorem dX7_init_55 : decode cX7_init 55 = .ok (.aload_n 0, 1) := by decide +kernel
theorem dX7_init_56 : decode cX7_init 56 = .ok (.getfield 25, 3) := by decide +kernel
theorem dX7_init_59 : decode cX7_init 59 = .ok (.invokespecial 40, 3) := by decide +kernel
theorem dX7_init_62 : decode cX7_init 62 = .ok (.putfield 41, 3) := by decide +kernel
theorem dX7_init_65 : decode cX7_init 65 = .ok (.aload_n 0, 1) := by decide +kernel
theorem dX7_init_66 : decode cX7_init 66 = .ok (.iconst 5, 1) := by decide +kernel
theorem dX7_init_67 : decode cX7_init 67 = .ok (.putfield 45, 3) := by decide +kernel
theorem dX7_init_70 : decode cX7_init 70 = .ok (.aload_n 0, 1) := by decide +kernel
theorem dX7_init_71 : decode cX7_init 71 = .ok (.bipush 6, 2) := by decide +kernel
theorem dX7_init_73 : decode cX7_init 73 = .ok (.putfield 49, 3) := by decide +kernel
theorem dX7_init_76 : decode cX7_init 76 = .ok (.aload_n 0, 1) := by decide +kernel
theorem dX7_init_77 : decode cX7_init 77 = .ok (.iconst 3, 1) := by decide +kernel
theorem dX7_init_78 : decode cX7_init 78 = .ok (.putfield 52, 3) := by decide +kernel
theorem dX7_init_81 : decode cX7_init 81 = .ok (.aload_n 0, 1) := by decide +kernel
theorem dX7_init_82 : decode cX7_init 82 = .ok (.iconst 0, 1) := by decide +kernel
theorem dX7_init_83 : decode cX7_init 83 = .ok (.putfield 55, 3) := by decide +kernel
theorem dX7_init_86 : decode cX7_init 86 = .ok (.aload_n 0, 1) := by decide +kernel
theorem dX7_init_87 : decode cX7_init 87 = .ok (.iconst 0, 1) := by decide +kernel
theorem dX7_init_88 : decode cX7_init 88 = .ok (.putfield 58, 3) := by decide +kernel
theorem dX7_init_91 : decode cX7_init 91 = .ok (.aload_n 0, 1) := by decide +kernel
theorem dX7_init_92 : decode cX7_init 92 = .ok (.iconst 0, 1) := by decide +kernel
theorem dX7_init_93 : decode cX7_init 93 = .ok (.putfield 62, 3) := by decide +kernel
theorem dX7_init_96 : decode cX7_init 96 = .ok (.aload_n 0, 1) := by decide +kernel
theorem dX7_init_97 : decode cX7_init 97 = .ok (.iconst 0, 1) := by decide +kernel
theorem dX7_init_98 : decode cX7_init 98 = .ok (.putfield 65, 3) := by decide +kernel
theorem dX7_init_101 : decode cX7_init 101 = .ok (.aload_n 0, 1) := by decide +kernel
theorem dX7_init_102 : decode cX7_init 102 = .ok (.lconst 0, 1) := by decide +kernel
theorem dX7_init_103 : decode cX7_init 103 = .ok (.putfield 68, 3) := by decide +kernel
theorem dX7_init_106 : decode cX7_init 106 = .ok (.aload_n 0, 1) := by decide +kernel
theorem dX7_init_107 : decode cX7_init 107 = .ok (.lconst 0, 1) := by decide +kernel
theorem dX7_init_108 : decode cX7_init 108 = .ok (.putfield 72, 3) := by decide +kernel
theorem dX7_init_111 : decode cX7_init 111 = .ok (.aload_n 0, 1) := by decide +kernel
theorem dX7_init_112 : decode cX7_init 112 = .ok (.iconst 0, 1) := by decide +kernel
theorem dX7_init_113 : decode cX7_init 113 = .ok (.putfield 75, 3) := by decide +kernel
theorem dX7_init_116 : decode cX7_init 116 = .ok (.aload_n 0, 1) := by decide +kernel
theorem dX7_init_117 : decode cX7_init 117 = .ok (.iconst 0, 1) := by decide +kernel
theorem dX7_init_118 : decode cX7_init 118 = .ok (.putfield 78, 3) := by decide +kernel
theorem dX7_init_121 : decode cX7_init 121 = .ok (.aload_n 0, 1) := by decide +kernel
theorem dX7_init_122 : decode cX7_init 122 = .ok (.iconst 0, 1) := by decide +kernel
theorem dX7_init_123 : decode cX7_init 123 = .ok (.putfield 81, 3) := by decide +kernel
theorem dX7_init_126 : decode cX7_init 126 = .ok (.aload_n 0, 1) := by decide +kernel
theorem dX7_init_127 : decode cX7_init 127 = .ok (.iconst 0, 1) := by decide +kernel
theorem dX7_init_128 : decode cX7_init 128 = .ok (.putfield 84, 3) := by decide +kernel
theorem dX7_init_131 : decode cX7_init 131 = .ok (.iconst 0, 1) := by decide +kernel
theorem dX7_init_132 : decode cX7_init 132 = .ok (.istore_n 1, 1) := by decide +kernel
theorem dX7_init_133 : decode cX7_init 133 = .ok (.iload_n 1, 1) := by decide +kernel
theorem dX7_init_134 : decode cX7_init 134 = .ok (.bipush 8, 2) := by decide +kernel
theorem dX7_init_136 : decode cX7_init 136 = .ok (.if_icmp .ge 22, 3) := by decide +kernel
theorem dX7_init_139 : decode cX7_init 139 = .ok (.aload_n 0, 1) := by decide +kernel
theorem dX7_init_140 : decode cX7_init 140 = .ok (.getfield 18, 3) := by decide +kernel
theorem dX7_init_143 : decode cX7_init 143 = .ok (.iload_n 1, 1) := by decide +kernel
theorem dX7_init_144 : decode cX7_init 144 = .ok (.new 16, 3) := by decide +kernel
theorem dX7_init_147 : decode cX7_init 147 = .ok (.dup, 1) := by decide +kernel
theorem dX7_init_148 : decode cX7_init 148 = .ok (.invokespecial 87, 3) := by decide +kernel
theorem dX7_init_151 : decode cX7_init 151 = .ok (.aastore, 1) := by decide +kernel
theorem dX7_init_152 : decode cX7_init 152 = .ok (.iinc 1 1, 3) := by decide +kernel
theorem dX7_init_155 : decode cX7_init 155 = .ok (.goto (-22), 3) := by decide +kernel
theorem dX7_init_158 : decode cX7_init 158 = .ok (.return_, 1) := by decide +kernel
theorem dX7_dice_0 : decode cX7_dice 0 = .ok (.iload_n 1, 1) := by decide +kernel
theorem dX7_dice_1 : decode cX7_dice 1 = .ok (.iconst 1, 1) := by decide +kernel
theorem dX7_dice_2 : decode cX7_dice 2 = .ok (.if_icmp .lt 29, 3) := by decide +kernel
theorem dX7_dice_5 : decode cX7_dice 5 = .ok (.iload_n 1, 1) := by decide +kernel
theorem dX7_dice_6 : decode cX7_dice 6 = .ok (.iconst 5, 1) := by decide +kernel
theorem dX7_dice_7 : decode cX7_dice 7 = .ok (.if_icmp .gt 24, 3) := by decide +kernel
theorem dX7_dice_10 : decode cX7_dice 10 = .ok (.iload_n 2, 1) := by decide +kernel
theorem dX7_dice_11 : decode cX7_dice 11 = .ok (.iconst 2, 1) := by decide +kernel
theorem dX7_dice_12 : decode cX7_dice 12 = .ok (.if_icmp .lt 19, 3) := by decide +kernel
theorem dX7_dice_15 : decode cX7_dice 15 = .ok (.iload_n 2, 1) := by decide +kernel
theorem dX7_dice_16 : decode cX7_dice 16 = .ok (.bipush 6, 2) := by decide +kernel
theorem dX7_dice_18 : decode cX7_dice 18 = .ok (.if_icmp .gt 13, 3) := by decide +kernel
theorem dX7_dice_21 : decode cX7_dice 21 = .ok (.iload_n 3, 1) := by decide +kernel
theorem dX7_dice_22 : decode cX7_dice 22 = .ok (.iconst 1, 1) := by decide +kernel
theorem dX7_dice_23 : decode cX7_dice 23 = .ok (.if_icmp .lt 8, 3) := by decide +kernel
theorem dX7_dice_26 : decode cX7_dice 26 = .ok (.iload_n 3, 1) := by decide +kernel
theorem dX7_dice_27 : decode cX7_dice 27 = .ok (.iconst 3, 1) := by decide +kernel
theorem dX7_dice_28 : decode cX7_dice 28 = .ok (.if_icmp .le 6, 3) := by decide +kernel
theorem dX7_dice_31 : decode cX7_dice 31 = .ok (.bipush (-3), 2) := by decide +kernel
theorem dX7_dice_33 : decode cX7_dice 33 = .ok (.ireturn, 1) := by decide +kernel
theorem dX7_dice_34 : decode cX7_dice 34 = .ok (.aload_n 0, 1) := by decide +kernel
theorem dX7_dice_35 : decode cX7_dice 35 = .ok (.getfield 58, 3) := by decide +kernel
theorem dX7_dice_38 : decode cX7_dice 38 = .ok (.ifCond .eq 6, 3) := by decide +kernel
theorem dX7_dice_41 : decode cX7_dice 41 = .ok (.bipush (-4), 2) := by decide +kernel
theorem dX7_dice_43 : decode cX7_dice 43 = .ok (.ireturn, 1) := by decide +kernel
theorem dX7_dice_44 : decode cX7_dice 44 = .ok (.aload_n 0, 1) := by decide +kernel
theorem dX7_dice_45 : decode cX7_dice 45 = .ok (.iload_n 1, 1) := by decide +kernel
theorem dX7_dice_46 : decode cX7_dice 46 = .ok (.putfield 45, 3) := by decide +kernel
theorem dX7_dice_49 : decode cX7_dice 49 = .ok (.aload_n 0, 1) := by decide +kernel
theorem dX7_dice_50 : decode cX7_dice 50 = .ok (.iload_n 2, 1) := by decide +kernel
theorem dX7_dice_51 : decode cX7_dice 51 = .ok (.putfield 49, 3) := by decide +kernel
theorem dX7_dice_54 : decode cX7_dice 54 = .ok (.aload_n 0, 1) := by decide +kernel
theorem dX7_dice_55 : decode cX7_dice 55 = .ok (.iload_n 3, 1) := by decide +kernel
theorem dX7_dice_56 : decode cX7_dice 56 = .ok (.putfield 52, 3) := by decide +kernel
theorem dX7_dice_59 : decode cX7_dice 59 = .ok (.iconst 1, 1) := by decide +kernel
theorem dX7_dice_60 : decode cX7_dice 60 = .ok (.ireturn, 1) := by decide +kernel
theorem dX7_row_0 : decode cX7_row 0 = .ok (.iload_n 1, 1) := by decide +kernel
theorem dX7_row_1 : decode cX7_row 1 = .ok (.ifCond .lt 29, 3) := by decide +kernel
theorem dX7_row_4 : decode cX7_row 4 = .ok (.iload_n 1, 1) := by decide +kernel
theorem dX7_row_5 : decode cX7_row 5 = .ok (.iconst 5, 1) := by decide +kernel
theorem dX7_row_6 : decode cX7_row 6 = .ok (.if_icmp .gt 24, 3) := by decide +kernel
theorem dX7_row_9 : decode cX7_row 9 = .ok (.iload_n 2, 1) := by decide +kernel
theorem dX7_row_10 : decode cX7_row 10 = .ok (.iconst 1, 1) := by decide +kernel
theorem dX7_row_11 : decode cX7_row 11 = .ok (.if_icmp .lt 19, 3) := by decide +kernel
theorem dX7_row_14 : decode cX7_row 14 = .ok (.iload_n 2, 1) := by decide +kernel
theorem dX7_row_15 : decode cX7_row 15 = .ok (.bipush 6, 2) := by decide +kernel
theorem dX7_row_17 : decode cX7_row 17 = .ok (.if_icmp .gt 13, 3) := by decide +kernel
theorem dX7_row_20 : decode cX7_row 20 = .ok (.iload_n 3, 1) := by decide +kernel
theorem dX7_row_21 : decode cX7_row 21 = .ok (.ifCond .lt 9, 3) := by decide +kernel
theorem dX7_row_24 : decode cX7_row 24 = .ok (.iload_n 3, 1) := by decide +kernel
theorem dX7_row_25 : decode cX7_row 25 = .ok (.bipush 30, 2) := by decide +kernel
theorem dX7_row_27 : decode cX7_row 27 = .ok (.if_icmp .le 6, 3) := by decide +kernel
theorem dX7_row_30 : decode cX7_row 30 = .ok (.bipush (-3), 2) := by decide +kernel
theorem dX7_row_32 : decode cX7_row 32 = .ok (.ireturn, 1) := by decide +kernel
theorem dX7_row_33 : decode cX7_row 33 = .ok (.aload_n 0, 1) := by decide +kernel
theorem dX7_row_34 : decode cX7_row 34 = .ok (.getfield 58, 3) := by decide +kernel
theorem dX7_row_37 : decode cX7_row 37 = .ok (.ifCond .eq 6, 3) := by decide +kernel
theorem dX7_row_40 : decode cX7_row 40 = .ok (.bipush (-4), 2) := by decide +kernel
theorem dX7_row_42 : decode cX7_row 42 = .ok (.ireturn, 1) := by decide +kernel
theorem dX7_row_43 : decode cX7_row 43 = .ok (.aload_n 0, 1) := by decide +kernel
theorem dX7_row_44 : decode cX7_row 44 = .ok (.getfield 55, 3) := by decide +kernel
theorem dX7_row_47 : decode cX7_row 47 = .ok (.bipush 8, 2) := by decide +kernel
theorem dX7_row_49 : decode cX7_row 49 = .ok (.if_icmp .lt 6, 3) := by decide +kernel
theorem dX7_row_52 : decode cX7_row 52 = .ok (.bipush (-6), 2) := by decide +kernel
theorem dX7_row_54 : decode cX7_row 54 = .ok (.ireturn, 1) := by decide +kernel
theorem dX7_row_55 : decode cX7_row 55 = .ok (.aload_n 0, 1) := by decide +kernel
theorem dX7_row_56 : decode cX7_row 56 = .ok (.getfield 18, 3) := by decide +kernel
theorem dX7_row_59 : decode cX7_row 59 = .ok (.aload_n 0, 1) := by decide +kernel
theorem dX7_row_60 : decode cX7_row 60 = .ok (.getfield 55, 3) := by decide +kernel
theorem dX7_row_63 : decode cX7_row 63 = .ok (.aaload, 1) := by decide +kernel
theorem dX7_row_64 : decode cX7_row 64 = .ok (.iload_n 1, 1) := by decide +kernel
theorem dX7_row_65 : decode cX7_row 65 = .ok (.iload_n 2, 1) := by decide +kernel
theorem dX7_row_66 : decode cX7_row 66 = .ok (.iload_n 3, 1) := by decide +kernel
theorem dX7_row_67 : decode cX7_row 67 = .ok (.invokevirtual 88, 3) := by decide +kernel
theorem dX7_row_70 : decode cX7_row 70 = .ok (.aload_n 0, 1) := by decide +kernel
theorem dX7_row_71 : decode cX7_row 71 = .ok (.dup, 1) := by decide +kernel
theorem dX7_row_72 : decode cX7_row 72 = .ok (.getfield 55, 3) := by decide +kernel
theorem dX7_row_75 : decode cX7_row 75 = .ok (.iconst 1, 1) := by decide +kernel
theorem dX7_row_76 : decode cX7_row 76 = .ok (.iadd, 1) := by decide +kernel
theorem dX7_row_77 : decode cX7_row 77 = .ok (.putfield 55, 3) := by decide +kernel
theorem dX7_row_80 : decode cX7_row 80 = .ok (.aload_n 0, 1) := by decide +kernel
theorem dX7_row_81 : decode cX7_row 81 = .ok (.getfield 55, 3) := by decide +kernel
theorem dX7_row_84 : decode cX7_row 84 = .ok (.iconst 1, 1) := by decide +kernel
theorem dX7_row_85 : decode cX7_row 85 = .ok (.isub, 1) := by decide +kernel
theorem dX7_row_86 : decode cX7_row 86 = .ok (.ireturn, 1) := by decide +kernel
theorem dX7_begin_0 : decode cX7_begin 0 = .ok (.aload_n 0, 1) := by decide +kernel
theorem dX7_begin_1 : decode cX7_begin 1 = .ok (.getfield 58, 3) := by decide +kernel
theorem dX7_begin_4 : decode cX7_begin 4 = .ok (.ifCond .ne 10, 3) := by decide +kernel
theorem dX7_begin_7 : decode cX7_begin 7 = .ok (.aload_n 0, 1) := by decide +kernel
theorem dX7_begin_8 : decode cX7_begin 8 = .ok (.getfield 55, 3) := by decide +kernel
theorem dX7_begin_11 : decode cX7_begin 11 = .ok (.ifCond .ne 6, 3) := by decide +kernel
theorem dX7_begin_14 : decode cX7_begin 14 = .ok (.bipush (-4), 2) := by decide +kernel
theorem dX7_begin_16 : decode cX7_begin 16 = .ok (.ireturn, 1) := by decide +kernel
theorem dX7_begin_17 : decode cX7_begin 17 = .ok (.aload_n 0, 1) := by decide +kernel
theorem dX7_begin_18 : decode cX7_begin 18 = .ok (.invokevirtual 92, 3) := by decide +kernel
theorem dX7_begin_21 : decode cX7_begin 21 = .ok (.ifCond .eq 6, 3) := by decide +kernel
theorem dX7_begin_24 : decode cX7_begin 24 = .ok (.bipush (-5), 2) := by decide +kernel
theorem dX7_begin_26 : decode cX7_begin 26 = .ok (.ireturn, 1) := by decide +kernel
theorem dX7_begin_27 : decode cX7_begin 27 = .ok (.aload_n 0, 1) := by decide +kernel
theorem dX7_begin_28 : decode cX7_begin 28 = .ok (.getfield 25, 3) := by decide +kernel
theorem dX7_begin_31 : decode cX7_begin 31 = .ok (.aload_n 0, 1) := by decide +kernel
theorem dX7_begin_32 : decode cX7_begin 32 = .ok (.getfield 45, 3) := by decide +kernel
theorem dX7_begin_35 : decode cX7_begin 35 = .ok (.aload_n 0, 1) := by decide +kernel
theorem dX7_begin_36 : decode cX7_begin 36 = .ok (.getfield 49, 3) := by decide +kernel
theorem dX7_begin_39 : decode cX7_begin 39 = .ok (.aload_n 0, 1) := by decide +kernel
theorem dX7_begin_40 : decode cX7_begin 40 = .ok (.getfield 52, 3) := by decide +kernel
theorem dX7_begin_43 : decode cX7_begin 43 = .ok (.aload_n 0, 1) := by decide +kernel
theorem dX7_begin_44 : decode cX7_begin 44 = .ok (.getfield 55, 3) := by decide +kernel
theorem dX7_begin_47 : decode cX7_begin 47 = .ok (.invokevirtual 96, 3) := by decide +kernel
theorem dX7_begin_50 : decode cX7_begin 50 = .ok (.aload_n 0, 1) := by decide +kernel
theorem dX7_begin_51 : decode cX7_begin 51 = .ok (.getfield 25, 3) := by decide +kernel
theorem dX7_begin_54 : decode cX7_begin 54 = .ok (.aload_n 0, 1) := by decide +kernel
theorem dX7_begin_55 : decode cX7_begin 55 = .ok (.getfield 18, 3) := by decide +kernel
theorem dX7_begin_58 : decode cX7_begin 58 = .ok (.aload_n 0, 1) := by decide +kernel
theorem dX7_begin_59 : decode cX7_begin 59 = .ok (.getfield 10, 3) := by decide +kernel
theorem dX7_begin_62 : decode cX7_begin 62 = .ok (.invokevirtual 100, 3) := by decide +kernel
theorem dX7_begin_65 : decode cX7_begin 65 = .ok (.aload_n 0, 1) := by decide +kernel
theorem dX7_begin_66 : decode cX7_begin 66 = .ok (.getfield 34, 3) := by decide +kernel
theorem dX7_begin_69 : decode cX7_begin 69 = .ok (.invokevirtual 104, 3) := by decide +kernel
theorem dX7_begin_72 : decode cX7_begin 72 = .ok (.aload_n 0, 1) := by decide +kernel
theorem dX7_begin_73 : decode cX7_begin 73 = .ok (.getfield 41, 3) := by decide +kernel
theorem dX7_begin_76 : decode cX7_begin 76 = .ok (.invokevirtual 107, 3) := by decide +kernel
theorem dX7_begin_79 : decode cX7_begin 79 = .ok (.aload_n 0, 1) := by decide +kernel
theorem dX7_begin_80 : decode cX7_begin 80 = .ok (.iconst 1, 1) := by decide +kernel
theorem dX7_begin_81 : decode cX7_begin 81 = .ok (.putfield 58, 3) := by decide +kernel
theorem dX7_begin_84 : decode cX7_begin 84 = .ok (.aload_n 0, 1) := by decide +kernel
theorem dX7_begin_85 : decode cX7_begin 85 = .ok (.invokevirtual 110, 3) := by decide +kernel
theorem dX7_begin_88 : decode cX7_begin 88 = .ok (.iconst 1, 1) := by decide +kernel
theorem dX7_begin_89 : decode cX7_begin 89 = .ok (.ireturn, 1) := by decide +kernel
theorem dX7_end_0 : decode cX7_end 0 = .ok (.aload_n 0, 1) := by decide +kernel
theorem dX7_end_1 : decode cX7_end 1 = .ok (.iconst 0, 1) := by decide +kernel
theorem dX7_end_2 : decode cX7_end 2 = .ok (.putfield 58, 3) := by decide +kernel
theorem dX7_end_5 : decode cX7_end 5 = .ok (.aload_n 0, 1) := by decide +kernel
theorem dX7_end_6 : decode cX7_end 6 = .ok (.iconst 0, 1) := by decide +kernel
theorem dX7_end_7 : decode cX7_end 7 = .ok (.putfield 55, 3) := by decide +kernel
theorem dX7_end_10 : decode cX7_end 10 = .ok (.aload_n 0, 1) := by decide +kernel
theorem dX7_end_11 : decode cX7_end 11 = .ok (.iconst 0, 1) := by decide +kernel
theorem dX7_end_12 : decode cX7_end 12 = .ok (.putfield 62, 3) := by decide +kernel
theorem dX7_end_15 : decode cX7_end 15 = .ok (.aload_n 0, 1) := by decide +kernel
theorem dX7_end_16 : decode cX7_end 16 = .ok (.iconst 0, 1) := by decide +kernel
theorem dX7_end_17 : decode cX7_end 17 = .ok (.putfield 65, 3) := by decide +kernel
theorem dX7_end_20 : decode cX7_end 20 = .ok (.aload_n 0, 1) := by decide +kernel
theorem dX7_end_21 : decode cX7_end 21 = .ok (.lconst 0, 1) := by decide +kernel
theorem dX7_end_22 : decode cX7_end 22 = .ok (.putfield 68, 3) := by decide +kernel
theorem dX7_end_25 : decode cX7_end 25 = .ok (.aload_n 0, 1) := by decide +kernel
theorem dX7_end_26 : decode cX7_end 26 = .ok (.lconst 0, 1) := by decide +kernel
theorem dX7_end_27 : decode cX7_end 27 = .ok (.putfield 72, 3) := by decide +kernel
theorem dX7_end_30 : decode cX7_end 30 = .ok (.aload_n 0, 1) := by decide +kernel
theorem dX7_end_31 : decode cX7_end 31 = .ok (.iconst 0, 1) := by decide +kernel
theorem dX7_end_32 : decode cX7_end 32 = .ok (.putfield 75, 3) := by decide +kernel
theorem dX7_end_35 : decode cX7_end 35 = .ok (.aload_n 0, 1) := by decide +kernel
theorem dX7_end_36 : decode cX7_end 36 = .ok (.iconst 0, 1) := by decide +kernel
theorem dX7_end_37 : decode cX7_end 37 = .ok (.putfield 78, 3) := by decide +kernel
theorem dX7_end_40 : decode cX7_end 40 = .ok (.aload_n 0, 1) := by decide +kernel
theorem dX7_end_41 : decode cX7_end 41 = .ok (.iconst 0, 1) := by decide +kernel
theorem dX7_end_42 : decode cX7_end 42 = .ok (.putfield 81, 3) := by decide +kernel
theorem dX7_end_45 : decode cX7_end 45 = .ok (.aload_n 0, 1) := by decide +kernel
theorem dX7_end_46 : decode cX7_end 46 = .ok (.iconst 0, 1) := by decide +kernel
theorem dX7_end_47 : decode cX7_end 47 = .ok (.putfield 84, 3) := by decide +kernel
theorem dX7_end_50 : decode cX7_end 50 = .ok (.iconst 1, 1) := by decide +kernel
theorem dX7_end_51 : decode cX7_end 51 = .ok (.ireturn, 1) := by decide +kernel
theorem dX7_fall_0 : decode cX7_fall 0 = .ok (.aload_n 0, 1) := by decide +kernel
theorem dX7_fall_1 : decode cX7_fall 1 = .ok (.getfield 81, 3) := by decide +kernel
theorem dX7_fall_4 : decode cX7_fall 4 = .ok (.ifCond .ne 6, 3) := by decide +kernel
theorem dX7_fall_7 : decode cX7_fall 7 = .ok (.bipush (-4), 2) := by decide +kernel
theorem dX7_fall_9 : decode cX7_fall 9 = .ok (.ireturn, 1) := by decide +kernel
theorem dX7_fall_10 : decode cX7_fall 10 = .ok (.aload_n 0, 1) := by decide +kernel
theorem dX7_fall_11 : decode cX7_fall 11 = .ok (.getfield 25, 3) := by decide +kernel
theorem dX7_fall_14 : decode cX7_fall 14 = .ok (.getfield 113, 3) := by decide +kernel
theorem dX7_fall_17 : decode cX7_fall 17 = .ok (.aload_n 0, 1) := by decide +kernel
theorem dX7_fall_18 : decode cX7_fall 18 = .ok (.getfield 78, 3) := by decide +kernel
theorem dX7_fall_21 : decode cX7_fall 21 = .ok (.iload_n 1, 1) := by decide +kernel
theorem dX7_fall_22 : decode cX7_fall 22 = .ok (.aload_n 0, 1) := by decide +kernel
theorem dX7_fall_23 : decode cX7_fall 23 = .ok (.getfield 81, 3) := by decide +kernel
theorem dX7_fall_26 : decode cX7_fall 26 = .ok (.invokevirtual 117, 3) := by decide +kernel
theorem dX7_fall_29 : decode cX7_fall 29 = .ok (.istore_n 2, 1) := by decide +kernel
theorem dX7_fall_30 : decode cX7_fall 30 = .ok (.iload_n 2, 1) := by decide +kernel
theorem dX7_fall_31 : decode cX7_fall 31 = .ok (.iconst (-1), 1) := by decide +kernel
theorem dX7_fall_32 : decode cX7_fall 32 = .ok (.if_icmp .ne 6, 3) := by decide +kernel
theorem dX7_fall_35 : decode cX7_fall 35 = .ok (.bipush (-3), 2) := by decide +kernel
theorem dX7_fall_37 : decode cX7_fall 37 = .ok (.ireturn, 1) := by decide +kernel
theorem dX7_fall_38 : decode cX7_fall 38 = .ok (.aload_n 0, 1) := by decide +kernel
theorem dX7_fall_39 : decode cX7_fall 39 = .ok (.iload_n 2, 1) := by decide +kernel
theorem dX7_fall_40 : decode cX7_fall 40 = .ok (.invokevirtual 123, 3) := by decide +kernel
theorem dX7_fall_43 : decode cX7_fall 43 = .ok (.ireturn, 1) := by decide +kernel
theorem dX7_draw_0 : decode cX7_draw 0 = .ok (.aload_n 0, 1) := by decide +kernel
theorem dX7_draw_1 : decode cX7_draw 1 = .ok (.getfield 81, 3) := by decide +kernel
theorem dX7_draw_4 : decode cX7_draw 4 = .ok (.ifCond .ne 6, 3) := by decide +kernel
theorem dX7_draw_7 : decode cX7_draw 7 = .ok (.bipush (-4), 2) := by decide +kernel
theorem dX7_draw_9 : decode cX7_draw 9 = .ok (.ireturn, 1) := by decide +kernel
theorem dX7_draw_10 : decode cX7_draw 10 = .ok (.aload_n 0, 1) := by decide +kernel
theorem dX7_draw_11 : decode cX7_draw 11 = .ok (.getfield 78, 3) := by decide +kernel
theorem dX7_draw_14 : decode cX7_draw 14 = .ok (.istore_n 2, 1) := by decide +kernel
theorem dX7_draw_15 : decode cX7_draw 15 = .ok (.iload_n 1, 1) := by decide +kernel
theorem dX7_draw_16 : decode cX7_draw 16 = .ok (.istore_n 3, 1) := by decide +kernel
theorem dX7_draw_17 : decode cX7_draw 17 = .ok (.iconst 0, 1) := by decide +kernel
theorem dX7_draw_18 : decode cX7_draw 18 = .ok (.istore 4, 2) := by decide +kernel
theorem dX7_draw_20 : decode cX7_draw 20 = .ok (.iload 4, 2) := by decide +kernel
theorem dX7_draw_22 : decode cX7_draw 22 = .ok (.aload_n 0, 1) := by decide +kernel
theorem dX7_draw_23 : decode cX7_draw 23 = .ok (.getfield 81, 3) := by decide +kernel
theorem dX7_draw_26 : decode cX7_draw 26 = .ok (.if_icmp .ge 41, 3) := by decide +kernel
theorem dX7_draw_29 : decode cX7_draw 29 = .ok (.iload_n 3, 1) := by decide +kernel
theorem dX7_draw_30 : decode cX7_draw 30 = .ok (.ldc 127, 2) := by decide +kernel
theorem dX7_draw_32 : decode cX7_draw 32 = .ok (.imul, 1) := by decide +kernel
theorem dX7_draw_33 : decode cX7_draw 33 = .ok (.sipush 12345, 3) := by decide +kernel
theorem dX7_draw_36 : decode cX7_draw 36 = .ok (.iadd, 1) := by decide +kernel
theorem dX7_draw_37 : decode cX7_draw 37 = .ok (.ldc 128, 2) := by decide +kernel
theorem dX7_draw_39 : decode cX7_draw 39 = .ok (.iand, 1) := by decide +kernel
theorem dX7_draw_40 : decode cX7_draw 40 = .ok (.istore_n 3, 1) := by decide +kernel
theorem dX7_draw_41 : decode cX7_draw 41 = .ok (.aload_n 0, 1) := by decide +kernel
theorem dX7_draw_42 : decode cX7_draw 42 = .ok (.getfield 25, 3) := by decide +kernel
theorem dX7_draw_45 : decode cX7_draw 45 = .ok (.getfield 113, 3) := by decide +kernel
theorem dX7_draw_48 : decode cX7_draw 48 = .ok (.iload_n 2, 1) := by decide +kernel
theorem dX7_draw_49 : decode cX7_draw 49 = .ok (.iload_n 3, 1) := by decide +kernel
theorem dX7_draw_50 : decode cX7_draw 50 = .ok (.aload_n 0, 1) := by decide +kernel
theorem dX7_draw_51 : decode cX7_draw 51 = .ok (.getfield 49, 3) := by decide +kernel
theorem dX7_draw_54 : decode cX7_draw 54 = .ok (.invokestatic 129, 3) := by decide +kernel
theorem dX7_draw_57 : decode cX7_draw 57 = .ok (.invokevirtual 133, 3) := by decide +kernel
theorem dX7_draw_60 : decode cX7_draw 60 = .ok (.istore_n 2, 1) := by decide +kernel
theorem dX7_draw_61 : decode cX7_draw 61 = .ok (.iinc 4 1, 3) := by decide +kernel
theorem dX7_draw_64 : decode cX7_draw 64 = .ok (.goto (-44), 3) := by decide +kernel
theorem dX7_draw_67 : decode cX7_draw 67 = .ok (.aload_n 0, 1) := by decide +kernel
theorem dX7_draw_68 : decode cX7_draw 68 = .ok (.iload_n 2, 1) := by decide +kernel
theorem dX7_draw_69 : decode cX7_draw 69 = .ok (.invokevirtual 123, 3) := by decide +kernel
theorem dX7_draw_72 : decode cX7_draw 72 = .ok (.ireturn, 1) := by decide +kernel
theorem dX7_hold_0 : decode cX7_hold 0 = .ok (.aload_n 0, 1) := by decide +kernel
theorem dX7_hold_1 : decode cX7_hold 1 = .ok (.invokevirtual 136, 3) := by decide +kernel
theorem dX7_hold_4 : decode cX7_hold 4 = .ok (.ifCond .ne 6, 3) := by decide +kernel
theorem dX7_hold_7 : decode cX7_hold 7 = .ok (.bipush (-4), 2) := by decide +kernel
theorem dX7_hold_9 : decode cX7_hold 9 = .ok (.ireturn, 1) := by decide +kernel
theorem dX7_hold_10 : decode cX7_hold 10 = .ok (.aload_n 0, 1) := by decide +kernel
theorem dX7_hold_11 : decode cX7_hold 11 = .ok (.getfield 25, 3) := by decide +kernel
theorem dX7_hold_14 : decode cX7_hold 14 = .ok (.getfield 113, 3) := by decide +kernel
theorem dX7_hold_17 : decode cX7_hold 17 = .ok (.aload_n 0, 1) := by decide +kernel
theorem dX7_hold_18 : decode cX7_hold 18 = .ok (.getfield 78, 3) := by decide +kernel
theorem dX7_hold_21 : decode cX7_hold 21 = .ok (.iload_n 1, 1) := by decide +kernel
theorem dX7_hold_22 : decode cX7_hold 22 = .ok (.invokevirtual 139, 3) := by decide +kernel
theorem dX7_hold_25 : decode cX7_hold 25 = .ok (.istore_n 2, 1) := by decide +kernel
theorem dX7_hold_26 : decode cX7_hold 26 = .ok (.iload_n 2, 1) := by decide +kernel
theorem dX7_hold_27 : decode cX7_hold 27 = .ok (.iconst (-1), 1) := by decide +kernel
theorem dX7_hold_28 : decode cX7_hold 28 = .ok (.if_icmp .ne 6, 3) := by decide +kernel
theorem dX7_hold_31 : decode cX7_hold 31 = .ok (.bipush (-3), 2) := by decide +kernel
theorem dX7_hold_33 : decode cX7_hold 33 = .ok (.ireturn, 1) := by decide +kernel
theorem dX7_hold_34 : decode cX7_hold 34 = .ok (.aload_n 0, 1) := by decide +kernel
theorem dX7_hold_35 : decode cX7_hold 35 = .ok (.invokevirtual 142, 3) := by decide +kernel
theorem dX7_hold_38 : decode cX7_hold 38 = .ok (.lstore_n 3, 1) := by decide +kernel
theorem dX7_hold_39 : decode cX7_hold 39 = .ok (.iload_n 2, 1) := by decide +kernel
theorem dX7_hold_40 : decode cX7_hold 40 = .ok (.aload_n 0, 1) := by decide +kernel
theorem dX7_hold_41 : decode cX7_hold 41 = .ok (.getfield 78, 3) := by decide +kernel
theorem dX7_hold_44 : decode cX7_hold 44 = .ok (.if_icmp .ne 16, 3) := by decide +kernel
theorem dX7_hold_47 : decode cX7_hold 47 = .ok (.aload_n 0, 1) := by decide +kernel
theorem dX7_hold_48 : decode cX7_hold 48 = .ok (.dup, 1) := by decide +kernel
theorem dX7_hold_49 : decode cX7_hold 49 = .ok (.getfield 84, 3) := by decide +kernel
theorem dX7_hold_52 : decode cX7_hold 52 = .ok (.iconst 1, 1) := by decide +kernel
theorem dX7_hold_53 : decode cX7_hold 53 = .ok (.isub, 1) := by decide +kernel
theorem dX7_hold_54 : decode cX7_hold 54 = .ok (.putfield 84, 3) := by decide +kernel
theorem dX7_hold_57 : decode cX7_hold 57 = .ok (.goto 31, 3) := by decide +kernel
theorem dX7_hold_60 : decode cX7_hold 60 = .ok (.aload_n 0, 1) := by decide +kernel
theorem dX7_hold_61 : decode cX7_hold 61 = .ok (.iload_n 2, 1) := by decide +kernel
theorem dX7_hold_62 : decode cX7_hold 62 = .ok (.putfield 78, 3) := by decide +kernel
theorem dX7_hold_65 : decode cX7_hold 65 = .ok (.aload_n 0, 1) := by decide +kernel
theorem dX7_hold_66 : decode cX7_hold 66 = .ok (.aload_n 0, 1) := by decide +kernel
theorem dX7_hold_67 : decode cX7_hold 67 = .ok (.getfield 45, 3) := by decide +kernel
theorem dX7_hold_70 : decode cX7_hold 70 = .ok (.aload_n 0, 1) := by decide +kernel
theorem dX7_hold_71 : decode cX7_hold 71 = .ok (.getfield 25, 3) := by decide +kernel
theorem dX7_hold_74 : decode cX7_hold 74 = .ok (.getfield 113, 3) := by decide +kernel
theorem dX7_hold_77 : decode cX7_hold 77 = .ok (.getfield 146, 3) := by decide +kernel
theorem dX7_hold_80 : decode cX7_hold 80 = .ok (.iload_n 2, 1) := by decide +kernel
theorem dX7_hold_81 : decode cX7_hold 81 = .ok (.invokestatic 150, 3) := by decide +kernel
