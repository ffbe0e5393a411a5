theorem dX0_init_0 : decode cX0_init 0 = .ok (.aload_n 0, 1) := by decide +kernel
theorem dX0_init_1 : decode cX0_init 1 = .ok (.invokespecial 1, 3) := by decide +kernel
theorem dX0_init_4 : decode cX0_init 4 = .ok (.return_, 1) := by decide +kernel
theorem dX0_fameChange_0 : decode cX0_fameChange 0 = .ok (.iload_n 1, 1) := by decide +kernel
theorem dX0_fameChange_1 : decode cX0_fameChange 1 = .ok (.iconst 3, 1) := by decide +kernel
theorem dX0_fameChange_2 : decode cX0_fameChange 2 = .ok (.idiv, 1) := by decide +kernel
theorem dX0_fameChange_3 : decode cX0_fameChange 3 = .ok (.ineg, 1) := by decide +kernel
theorem dX0_fameChange_4 : decode cX0_fameChange 4 = .ok (.ireturn, 1) := by decide +kernel
theorem dX1_init_0 : decode cX1_init 0 = .ok (.aload_n 0, 1) := by decide +kernel
theorem dX1_init_1 : decode cX1_init 1 = .ok (.invokespecial 1, 3) := by decide +kernel
theorem dX1_init_4 : decode cX1_init 4 = .ok (.return_, 1) := by decide +kernel
theorem dX1_fameChange_0 : decode cX1_fameChange 0 = .ok (.iload_n 2, 1) := by decide +kernel
theorem dX1_fameChange_1 : decode cX1_fameChange 1 = .ok (.ireturn, 1) := by decide +kernel
theorem dX1_scarsMore_0 : decode cX1_scarsMore 0 = .ok (.iload_n 1, 1) := by decide +kernel
theorem dX1_scarsMore_1 : decode cX1_scarsMore 1 = .ok (.iconst 5, 1) := by decide +kernel
theorem dX1_scarsMore_2 : decode cX1_scarsMore 2 = .ok (.if_icmp .le 7, 3) := by decide +kernel
theorem dX1_scarsMore_5 : decode cX1_scarsMore 5 = .ok (.iconst 1, 1) := by decide +kernel
theorem dX1_scarsMore_6 : decode cX1_scarsMore 6 = .ok (.goto 4, 3) := by decide +kernel
theorem dX1_scarsMore_9 : decode cX1_scarsMore 9 = .ok (.iconst 0, 1) := by decide +kernel
theorem dX1_scarsMore_10 : decode cX1_scarsMore 10 = .ok (.ireturn, 1) := by decide +kernel
theorem dX2_init_0 : decode cX2_init 0 = .ok (.aload_n 0, 1) := by decide +kernel
theorem dX2_init_1 : decode cX2_init 1 = .ok (.invokespecial 1, 3) := by decide +kernel
theorem dX2_init_4 : decode cX2_init 4 = .ok (.return_, 1) := by decide +kernel
theorem dX2_fameChange_0 : decode cX2_fameChange 0 = .ok (.aload_n 0, 1) := by decide +kernel
theorem dX2_fameChange_1 : decode cX2_fameChange 1 = .ok (.iload_n 1, 1) := by decide +kernel
theorem dX2_fameChange_2 : decode cX2_fameChange 2 = .ok (.iload_n 2, 1) := by decide +kernel
theorem dX2_fameChange_3 : decode cX2_fameChange 3 = .ok (.invokespecial 7, 3) := by decide +kernel
theorem dX2_fameChange_6 : decode cX2_fameChange 6 = .ok (.iconst 2, 1) := by decide +kernel
theorem dX2_fameChange_7 : decode cX2_fameChange 7 = .ok (.isub, 1) := by decide +kernel
theorem dX2_fameChange_8 : decode cX2_fameChange 8 = .ok (.ireturn, 1) := by decide +kernel
theorem dX3_init_0 : decode cX3_init 0 = .ok (.aload_n 0, 1) := by decide +kernel
theorem dX3_init_1 : decode cX3_init 1 = .ok (.invokespecial 1, 3) := by decide +kernel
theorem dX3_init_4 : decode cX3_init 4 = .ok (.return_, 1) := by decide +kernel
theorem dX3_fameChange_0 : decode cX3_fameChange 0 = .ok (.iconst 0, 1) := by decide +kernel
theorem dX3_fameChange_1 : decode cX3_fameChange 1 = .ok (.ireturn, 1) := by decide +kernel
theorem dX4_init_0 : decode cX4_init 0 = .ok (.aload_n 0, 1) := by decide +kernel
theorem dX4_init_1 : decode cX4_init 1 = .ok (.invokespecial 1, 3) := by decide +kernel
theorem dX4_init_4 : decode cX4_init 4 = .ok (.return_, 1) := by decide +kernel
theorem dX4_fameChange_0 : decode cX4_fameChange 0 = .ok (.bipush (-2), 2) := by decide +kernel
theorem dX4_fameChange_2 : decode cX4_fameChange 2 = .ok (.ireturn, 1) := by decide +kernel
theorem dX4_scarsMore_0 : decode cX4_scarsMore 0 = .ok (.iconst 1, 1) := by decide +kernel
theorem dX4_scarsMore_1 : decode cX4_scarsMore 1 = .ok (.ireturn, 1) := by decide +kernel
theorem dX5_init_0 : decode cX5_init 0 = .ok (.aload_n 0, 1) := by decide +kernel
theorem dX5_init_1 : decode cX5_init 1 = .ok (.invokespecial 1, 3) := by decide +kernel
theorem dX5_init_4 : decode cX5_init 4 = .ok (.return_, 1) := by decide +kernel
theorem dX5_fameChange_0 : decode cX5_fameChange 0 = .ok (.iconst 1, 1) := by decide +kernel
theorem dX5_fameChange_1 : decode cX5_fameChange 1 = .ok (.ireturn, 1) := by decide +kernel
theorem dX5_scarsMore_0 : decode cX5_scarsMore 0 = .ok (.iconst 0, 1) := by decide +kernel
theorem dX5_scarsMore_1 : decode cX5_scarsMore 1 = .ok (.ireturn, 1) := by decide +kernel
theorem dX6_init_0 : decode cX6_init 0 = .ok (.aload_n 0, 1) := by decide +kernel
theorem dX6_init_1 : decode cX6_init 1 = .ok (.invokespecial 3, 3) := by decide +kernel
theorem dX6_init_4 : decode cX6_init 4 = .ok (.aload_n 0, 1) := by decide +kernel
theorem dX6_init_5 : decode cX6_init 5 = .ok (.bipush 96, 2) := by decide +kernel
theorem dX6_init_7 : decode cX6_init 7 = .ok (.newarray .int, 2) := by decide +kernel
theorem dX6_init_9 : decode cX6_init 9 = .ok (.putfield 9, 3) := by decide +kernel
theorem dX6_init_12 : decode cX6_init 12 = .ok (.aload_n 0, 1) := by decide +kernel
theorem dX6_init_13 : decode cX6_init 13 = .ok (.iconst 0, 1) := by decide +kernel
theorem dX6_init_14 : decode cX6_init 14 = .ok (.putfield 15, 3) := by decide +kernel
theorem dX6_init_17 : decode cX6_init 17 = .ok (.return_, 1) := by decide +kernel
theorem dX6_takes_0 : decode cX6_takes 0 = .ok (.aload_n 0, 1) := by decide +kernel
theorem dX6_takes_1 : decode cX6_takes 1 = .ok (.getfield 15, 3) := by decide +kernel
theorem dX6_takes_4 : decode cX6_takes 4 = .ok (.bipush 96, 2) := by decide +kernel
theorem dX6_takes_6 : decode cX6_takes 6 = .ok (.if_icmp .lt 5, 3) := by decide +kernel
theorem dX6_takes_9 : decode cX6_takes 9 = .ok (.iconst 0, 1) := by decide +kernel
theorem dX6_takes_10 : decode cX6_takes 10 = .ok (.ireturn, 1) := by decide +kernel
theorem dX6_takes_11 : decode cX6_takes 11 = .ok (.aload_n 0, 1) := by decide +kernel
theorem dX6_takes_12 : decode cX6_takes 12 = .ok (.getfield 9, 3) := by decide +kernel
theorem dX6_takes_15 : decode cX6_takes 15 = .ok (.aload_n 0, 1) := by decide +kernel
theorem dX6_takes_16 : decode cX6_takes 16 = .ok (.getfield 15, 3) := by decide +kernel
theorem dX6_takes_19 : decode cX6_takes 19 = .ok (.iload_n 1, 1) := by decide +kernel
theorem dX6_takes_20 : decode cX6_takes 20 = .ok (.iastore, 1) := by decide +kernel
theorem dX6_takes_21 : decode cX6_takes 21 = .ok (.aload_n 0, 1) := by decide +kernel
theorem dX6_takes_22 : decode cX6_takes 22 = .ok (.dup, 1) := by decide +kernel
theorem dX6_takes_23 : decode cX6_takes 23 = .ok (.getfield 15, 3) := by decide +kernel
theorem dX6_takes_26 : decode cX6_takes 26 = .ok (.iconst 1, 1) := by decide +kernel
theorem dX6_takes_27 : decode cX6_takes 27 = .ok (.iadd, 1) := by decide +kernel
theorem dX6_takes_28 : decode cX6_takes 28 = .ok (.putfield 15, 3) := by decide +kernel
theorem dX6_takes_31 : decode cX6_takes 31 = .ok (.iconst 1, 1) := by decide +kernel
theorem dX6_takes_32 : decode cX6_takes 32 = .ok (.ireturn, 1) := by decide +kernel
theorem dX6_carryOut_0 : decode cX6_carryOut 0 = .ok (.aload_n 0, 1) := by decide +kernel
theorem dX6_carryOut_1 : decode cX6_carryOut 1 = .ok (.invokevirtual 19, 3) := by decide +kernel
theorem dX6_carryOut_4 : decode cX6_carryOut 4 = .ok (.istore_n 2, 1) := by decide +kernel
theorem dX6_carryOut_5 : decode cX6_carryOut 5 = .ok (.iload_n 2, 1) := by decide +kernel
theorem dX6_carryOut_6 : decode cX6_carryOut 6 = .ok (.bipush (-9), 2) := by decide +kernel
theorem dX6_carryOut_8 : decode cX6_carryOut 8 = .ok (.if_icmp .eq 9, 3) := by decide +kernel
theorem dX6_carryOut_11 : decode cX6_carryOut 11 = .ok (.sipush (-1000), 3) := by decide +kernel
theorem dX6_carryOut_14 : decode cX6_carryOut 14 = .ok (.iload_n 2, 1) := by decide +kernel
theorem dX6_carryOut_15 : decode cX6_carryOut 15 = .ok (.isub, 1) := by decide +kernel
theorem dX6_carryOut_16 : decode cX6_carryOut 16 = .ok (.ireturn, 1) := by decide +kernel
theorem dX6_carryOut_17 : decode cX6_carryOut 17 = .ok (.iconst 0, 1) := by decide +kernel
theorem dX6_carryOut_18 : decode cX6_carryOut 18 = .ok (.istore_n 3, 1) := by decide +kernel
theorem dX6_carryOut_19 : decode cX6_carryOut 19 = .ok (.iconst 0, 1) := by decide +kernel
theorem dX6_carryOut_20 : decode cX6_carryOut 20 = .ok (.istore 4, 2) := by decide +kernel
theorem dX6_carryOut_22 : decode cX6_carryOut 22 = .ok (.iload 4, 2) := by decide +kernel
theorem dX6_carryOut_24 : decode cX6_carryOut 24 = .ok (.aload_n 0, 1) := by decide +kernel
theorem dX6_carryOut_25 : decode cX6_carryOut 25 = .ok (.getfield 15, 3) := by decide +kernel
theorem dX6_carryOut_28 : decode cX6_carryOut 28 = .ok (.if_icmp .ge 46, 3) := by decide +kernel
theorem dX6_carryOut_31 : decode cX6_carryOut 31 = .ok (.aload_n 0, 1) := by decide +kernel
theorem dX6_carryOut_32 : decode cX6_carryOut 32 = .ok (.aload_n 1, 1) := by decide +kernel
theorem dX6_carryOut_33 : decode cX6_carryOut 33 = .ok (.iload 4, 2) := by decide +kernel
theorem dX6_carryOut_35 : decode cX6_carryOut 35 = .ok (.invokevirtual 23, 3) := by decide +kernel
theorem dX6_carryOut_38 : decode cX6_carryOut 38 = .ok (.ifCond .ne 10, 3) := by decide +kernel
theorem dX6_carryOut_41 : decode cX6_carryOut 41 = .ok (.sipush (-2000), 3) := by decide +kernel
theorem dX6_carryOut_44 : decode cX6_carryOut 44 = .ok (.iload 4, 2) := by decide +kernel
theorem dX6_carryOut_46 : decode cX6_carryOut 46 = .ok (.isub, 1) := by decide +kernel
theorem dX6_carryOut_47 : decode cX6_carryOut 47 = .ok (.ireturn, 1) := by decide +kernel
theorem dX6_carryOut_48 : decode cX6_carryOut 48 = .ok (.iload 4, 2) := by decide +kernel
theorem dX6_carryOut_50 : decode cX6_carryOut 50 = .ok (.iconst 1, 1) := by decide +kernel
theorem dX6_carryOut_51 : decode cX6_carryOut 51 = .ok (.aload_n 0, 1) := by decide +kernel
theorem dX6_carryOut_52 : decode cX6_carryOut 52 = .ok (.getfield 9, 3) := by decide +kernel
theorem dX6_carryOut_55 : decode cX6_carryOut 55 = .ok (.iload 4, 2) := by decide +kernel
theorem dX6_carryOut_57 : decode cX6_carryOut 57 = .ok (.iaload, 1) := by decide +kernel
theorem dX6_carryOut_58 : decode cX6_carryOut 58 = .ok (.invokestatic 27, 3) := by decide +kernel
theorem dX6_carryOut_61 : decode cX6_carryOut 61 = .ok (.invokevirtual 31, 3) := by decide +kernel
theorem dX6_carryOut_64 : decode cX6_carryOut 64 = .ok (.iadd, 1) := by decide +kernel
theorem dX6_carryOut_65 : decode cX6_carryOut 65 = .ok (.iadd, 1) := by decide +kernel
theorem dX6_carryOut_66 : decode cX6_carryOut 66 = .ok (.istore 4, 2) := by decide +kernel
theorem dX6_carryOut_68 : decode cX6_carryOut 68 = .ok (.iinc 3 1, 3) := by decide +kernel
theorem dX6_carryOut_71 : decode cX6_carryOut 71 = .ok (.goto (-49), 3) := by decide +kernel
theorem dX6_carryOut_74 : decode cX6_carryOut 74 = .ok (.iload_n 3, 1) := by decide +kernel
theorem dX6_carryOut_75 : decode cX6_carryOut 75 = .ok (.ireturn, 1) := by decide +kernel
theorem dX6_brokenPlace_0 : decode cX6_brokenPlace 0 = .ok (.ldc 36, 2) := by decide +kernel
theorem dX6_brokenPlace_2 : decode cX6_brokenPlace 2 = .ok (.astore_n 1, 1) := by decide +kernel
theorem dX6_brokenPlace_3 : decode cX6_brokenPlace 3 = .ok (.iconst 0, 1) := by decide +kernel
theorem dX6_brokenPlace_4 : decode cX6_brokenPlace 4 = .ok (.istore_n 2, 1) := by decide +kernel
theorem dX6_brokenPlace_5 : decode cX6_brokenPlace 5 = .ok (.iconst 0, 1) := by decide +kernel
theorem dX6_brokenPlace_6 : decode cX6_brokenPlace 6 = .ok (.istore_n 3, 1) := by decide +kernel
theorem dX6_brokenPlace_7 : decode cX6_brokenPlace 7 = .ok (.iload_n 3, 1) := by decide +kernel
theorem dX6_brokenPlace_8 : decode cX6_brokenPlace 8 = .ok (.aload_n 0, 1) := by decide +kernel
theorem dX6_brokenPlace_9 : decode cX6_brokenPlace 9 = .ok (.getfield 15, 3) := by decide +kernel
theorem dX6_brokenPlace_12 : decode cX6_brokenPlace 12 = .ok (.if_icmp .ge 63, 3) := by decide +kernel
theorem dX6_brokenPlace_15 : decode cX6_brokenPlace 15 = .ok (.iload_n 2, 1) := by decide +kernel
theorem dX6_brokenPlace_16 : decode cX6_brokenPlace 16 = .ok (.aload_n 1, 1) := by decide +kernel
theorem dX6_brokenPlace_17 : decode cX6_brokenPlace 17 = .ok (.invokevirtual 31, 3) := by decide +kernel
theorem dX6_brokenPlace_20 : decode cX6_brokenPlace 20 = .ok (.if_icmp .ge 28, 3) := by decide +kernel
theorem dX6_brokenPlace_23 : decode cX6_brokenPlace 23 = .ok (.aload_n 0, 1) := by decide +kernel
theorem dX6_brokenPlace_24 : decode cX6_brokenPlace 24 = .ok (.getfield 9, 3) := by decide +kernel
theorem dX6_brokenPlace_27 : decode cX6_brokenPlace 27 = .ok (.iload_n 3, 1) := by decide +kernel
theorem dX6_brokenPlace_28 : decode cX6_brokenPlace 28 = .ok (.iaload, 1) := by decide +kernel
theorem dX6_brokenPlace_29 : decode cX6_brokenPlace 29 = .ok (.aload_n 1, 1) := by decide +kernel
theorem dX6_brokenPlace_30 : decode cX6_brokenPlace 30 = .ok (.iload_n 2, 1) := by decide +kernel
theorem dX6_brokenPlace_31 : decode cX6_brokenPlace 31 = .ok (.invokevirtual 38, 3) := by decide +kernel
theorem dX6_brokenPlace_34 : decode cX6_brokenPlace 34 = .ok (.invokestatic 42, 3) := by decide +kernel
theorem dX6_brokenPlace_37 : decode cX6_brokenPlace 37 = .ok (.ifCond .ne 5, 3) := by decide +kernel
theorem dX6_brokenPlace_40 : decode cX6_brokenPlace 40 = .ok (.iload_n 3, 1) := by decide +kernel
theorem dX6_brokenPlace_41 : decode cX6_brokenPlace 41 = .ok (.ireturn, 1) := by decide +kernel
theorem dX6_brokenPlace_42 : decode cX6_brokenPlace 42 = .ok (.iinc 2 1, 3) := by decide +kernel
theorem dX6_brokenPlace_45 : decode cX6_brokenPlace 45 = .ok (.goto 24, 3) := by decide +kernel
theorem dX6_brokenPlace_48 : decode cX6_brokenPlace 48 = .ok (.aload_n 0, 1) := by decide +kernel
theorem dX6_brokenPlace_49 : decode cX6_brokenPlace 49 = .ok (.getfield 9, 3) := by decide +kernel
theorem dX6_brokenPlace_52 : decode cX6_brokenPlace 52 = .ok (.iload_n 3, 1) := by decide +kernel
theorem dX6_brokenPlace_53 : decode cX6_brokenPlace 53 = .ok (.iaload, 1) := by decide +kernel
theorem dX6_brokenPlace_54 : decode cX6_brokenPlace 54 = .ok (.invokestatic 27, 3) := by decide +kernel
theorem dX6_brokenPlace_57 : decode cX6_brokenPlace 57 = .ok (.astore_n 1, 1) := by decide +kernel
theorem dX6_brokenPlace_58 : decode cX6_brokenPlace 58 = .ok (.iconst 0, 1) := by decide +kernel
theorem dX6_brokenPlace_59 : decode cX6_brokenPlace 59 = .ok (.istore_n 2, 1) := by decide +kernel
theorem dX6_brokenPlace_60 : decode cX6_brokenPlace 60 = .ok (.aload_n 1, 1) := by decide +kernel
theorem dX6_brokenPlace_61 : decode cX6_brokenPlace 61 = .ok (.invokevirtual 46, 3) := by decide +kernel
theorem dX6_brokenPlace_64 : decode cX6_brokenPlace 64 = .ok (.ifCond .eq 5, 3) := by decide +kernel
theorem dX6_brokenPlace_67 : decode cX6_brokenPlace 67 = .ok (.iload_n 3, 1) := by decide +kernel
theorem dX6_brokenPlace_68 : decode cX6_brokenPlace 68 = .ok (.ireturn, 1) := by decide +kernel
theorem dX6_brokenPlace_69 : decode cX6_brokenPlace 69 = .ok (.iinc 3 1, 3) := by decide +kernel
theorem dX6_brokenPlace_72 : decode cX6_brokenPlace 72 = .ok (.goto (-65), 3) := by decide +kernel
theorem dX6_brokenPlace_75 : decode cX6_brokenPlace 75 = .ok (.aload_n 0, 1) := by decide +kernel
theorem dX6_brokenPlace_76 : decode cX6_brokenPlace 76 = .ok (.getfield 15, 3) := by decide +kernel
theorem dX6_brokenPlace_79 : decode cX6_brokenPlace 79 = .ok (.ifCond .eq 11, 3) := by decide +kernel
theorem dX6_brokenPlace_82 : decode cX6_brokenPlace 82 = .ok (.iload_n 2, 1) := by decide +kernel
theorem dX6_brokenPlace_83 : decode cX6_brokenPlace 83 = .ok (.aload_n 1, 1) := by decide +kernel
theorem dX6_brokenPlace_84 : decode cX6_brokenPlace 84 = .ok (.invokevirtual 31, 3) := by decide +kernel
theorem dX6_brokenPlace_87 : decode cX6_brokenPlace 87 = .ok (.if_icmp .ge 10, 3) := by decide +kernel
theorem dX6_brokenPlace_90 : decode cX6_brokenPlace 90 = .ok (.aload_n 0, 1) := by decide +kernel
theorem dX6_brokenPlace_91 : decode cX6_brokenPlace 91 = .ok (.getfield 15, 3) := by decide +kernel
theorem dX6_brokenPlace_94 : decode cX6_brokenPlace 94 = .ok (.goto 5, 3) := by decide +kernel
theorem dX6_brokenPlace_97 : decode cX6_brokenPlace 97 = .ok (.bipush (-9), 2) := by decide +kernel
theorem dX6_brokenPlace_99 : decode cX6_brokenPlace 99 = .ok (.ireturn, 1) := by decide +kernel
theorem dX6_shapeOf_0 : decode cX6_shapeOf 0 = .ok (.iload_n 0, 1) := by decide +kernel
theorem dX6_shapeOf_1 : decode cX6_shapeOf 1 = .ok (.tableswitch 87 98 112 #[78, 87, 87, 87, 84, 87, 87, 87, 87, 81, 81, 81, 87, 87, 75], 75) := by decide +kernel
theorem dX6_shapeOf_76 : decode cX6_shapeOf 76 = .ok (.ldc 50, 2) := by decide +kernel
theorem dX6_shapeOf_78 : decode cX6_shapeOf 78 = .ok (.areturn, 1) := by decide +kernel
theorem dX6_shapeOf_79 : decode cX6_shapeOf 79 = .ok (.ldc 52, 2) := by decide +kernel
theorem dX6_shapeOf_81 : decode cX6_shapeOf 81 = .ok (.areturn, 1) := by decide +kernel
theorem dX6_shapeOf_82 : decode cX6_shapeOf 82 = .ok (.ldc 54, 2) := by decide +kernel
theorem dX6_shapeOf_84 : decode cX6_shapeOf 84 = .ok (.areturn, 1) := by decide +kernel
theorem dX6_shapeOf_85 : decode cX6_shapeOf 85 = .ok (.ldc 56, 2) := by decide +kernel
theorem dX6_shapeOf_87 : decode cX6_shapeOf 87 = .ok (.areturn, 1) := by decide +kernel
theorem dX6_shapeOf_88 : decode cX6_shapeOf 88 = .ok (.ldc 36, 2) := by decide +kernel
theorem dX6_shapeOf_90 : decode cX6_shapeOf 90 = .ok (.areturn, 1) := by decide +kernel
theorem dX6_fits_0 : decode cX6_fits 0 = .ok (.iload_n 1, 1) := by decide +kernel
theorem dX6_fits_1 : decode cX6_fits 1 = .ok (.lookupswitch 58 #[(48, 40), (107, 27)], 27) := by decide +kernel
theorem dX6_fits_28 : decode cX6_fits 28 = .ok (.iload_n 0, 1) := by decide +kernel
theorem dX6_fits_29 : decode cX6_fits 29 = .ok (.invokestatic 58, 3) := by decide +kernel
theorem dX6_fits_32 : decode cX6_fits 32 = .ok (.ifCond .lt 7, 3) := by decide +kernel
theorem dX6_fits_35 : decode cX6_fits 35 = .ok (.iconst 1, 1) := by decide +kernel
theorem dX6_fits_36 : decode cX6_fits 36 = .ok (.goto 4, 3) := by decide +kernel
theorem dX6_fits_39 : decode cX6_fits 39 = .ok (.iconst 0, 1) := by decide +kernel
theorem dX6_fits_40 : decode cX6_fits 40 = .ok (.ireturn, 1) := by decide +kernel
theorem dX6_fits_41 : decode cX6_fits 41 = .ok (.iload_n 0, 1) := by decide +kernel
theorem dX6_fits_42 : decode cX6_fits 42 = .ok (.bipush 48, 2) := by decide +kernel
theorem dX6_fits_44 : decode cX6_fits 44 = .ok (.if_icmp .lt 13, 3) := by decide +kernel
theorem dX6_fits_47 : decode cX6_fits 47 = .ok (.iload_n 0, 1) := by decide +kernel
theorem dX6_fits_48 : decode cX6_fits 48 = .ok (.bipush 57, 2) := by decide +kernel
theorem dX6_fits_50 : decode cX6_fits 50 = .ok (.if_icmp .gt 7, 3) := by decide +kernel
theorem dX6_fits_53 : decode cX6_fits 53 = .ok (.iconst 1, 1) := by decide +kernel
theorem dX6_fits_54 : decode cX6_fits 54 = .ok (.goto 4, 3) := by decide +kernel
theorem dX6_fits_57 : decode cX6_fits 57 = .ok (.iconst 0, 1) := by decide +kernel
theorem dX6_fits_58 : decode cX6_fits 58 = .ok (.ireturn, 1) := by decide +kernel
theorem dX6_fits_59 : decode cX6_fits 59 = .ok (.iload_n 0, 1) := by decide +kernel
theorem dX6_fits_60 : decode cX6_fits 60 = .ok (.iload_n 1, 1) := by decide +kernel
theorem dX6_fits_61 : decode cX6_fits 61 = .ok (.if_icmp .ne 7, 3) := by decide +kernel
theorem dX6_fits_64 : decode cX6_fits 64 = .ok (.iconst 1, 1) := by decide +kernel
theorem dX6_fits_65 : decode cX6_fits 65 = .ok (.goto 4, 3) := by decide +kernel
theorem dX6_fits_68 : decode cX6_fits 68 = .ok (.iconst 0, 1) := by decide +kernel
theorem dX6_fits_69 : decode cX6_fits 69 = .ok (.ireturn, 1) := by decide +kernel
theorem dX6_kindOf_0 : decode cX6_kindOf 0 = .ok (.ldc 62, 2) := by decide +kernel
theorem dX6_kindOf_2 : decode cX6_kindOf 2 = .ok (.iload_n 0, 1) := by decide +kernel
theorem dX6_kindOf_3 : decode cX6_kindOf 3 = .ok (.i2c, 1) := by decide +kernel
theorem dX6_kindOf_4 : decode cX6_kindOf 4 = .ok (.invokevirtual 64, 3) := by decide +kernel
theorem dX6_kindOf_7 : decode cX6_kindOf 7 = .ok (.ireturn, 1) := by decide +kernel
theorem dX6_comesTo_0 : decode cX6_comesTo 0 = .ok (.aload_n 0, 1) := by decide +kernel
theorem dX6_comesTo_1 : decode cX6_comesTo 1 = .ok (.getfield 9, 3) := by decide +kernel
theorem dX6_comesTo_4 : decode cX6_comesTo 4 = .ok (.iload_n 2, 1) := by decide +kernel
theorem dX6_comesTo_5 : decode cX6_comesTo 5 = .ok (.iaload, 1) := by decide +kernel
theorem dX6_comesTo_6 : decode cX6_comesTo 6 = .ok (.tableswitch 165 98 112 #[115, 165, 165, 165, 146, 165, 165, 165, 165, 127, 96, 165, 165, 165, 74], 74) := by decide +kernel
theorem dX6_comesTo_80 : decode cX6_comesTo 80 = .ok (.aload_n 1, 1) := by decide +kernel
theorem dX6_comesTo_81 : decode cX6_comesTo 81 = .ok (.aload_n 0, 1) := by decide +kernel
theorem dX6_comesTo_82 : decode cX6_comesTo 82 = .ok (.iload_n 2, 1) := by decide +kernel
theorem dX6_comesTo_83 : decode cX6_comesTo 83 = .ok (.iconst 1, 1) := by decide +kernel
theorem dX6_comesTo_84 : decode cX6_comesTo 84 = .ok (.iadd, 1) := by decide +kernel
theorem dX6_comesTo_85 : decode cX6_comesTo 85 = .ok (.invokevirtual 67, 3) := by decide +kernel
theorem dX6_comesTo_88 : decode cX6_comesTo 88 = .ok (.invokestatic 58, 3) := by decide +kernel
theorem dX6_comesTo_91 : decode cX6_comesTo 91 = .ok (.aload_n 0, 1) := by decide +kernel
theorem dX6_comesTo_92 : decode cX6_comesTo 92 = .ok (.iload_n 2, 1) := by decide +kernel
theorem dX6_comesTo_93 : decode cX6_comesTo 93 = .ok (.iconst 2, 1) := by decide +kernel
theorem dX6_comesTo_94 : decode cX6_comesTo 94 = .ok (.iadd, 1) := by decide +kernel
theorem dX6_comesTo_95 : decode cX6_comesTo 95 = .ok (.invokevirtual 70, 3) := by decide +kernel
theorem dX6_comesTo_98 : decode cX6_comesTo 98 = .ok (.invokevirtual 73, 3) := by decide +kernel
theorem dX6_comesTo_101 : decode cX6_comesTo 101 = .ok (.ireturn, 1) := by decide +kernel
theorem dX6_comesTo_102 : decode cX6_comesTo 102 = .ok (.aload_n 1, 1) := by decide +kernel
theorem dX6_comesTo_103 : decode cX6_comesTo 103 = .ok (.aload_n 0, 1) := by decide +kernel
theorem dX6_comesTo_104 : decode cX6_comesTo 104 = .ok (.iload_n 2, 1) := by decide +kernel
theorem dX6_comesTo_105 : decode cX6_comesTo 105 = .ok (.iconst 1, 1) := by decide +kernel
theorem dX6_comesTo_106 : decode cX6_comesTo 106 = .ok (.iadd, 1) := by decide +kernel
theorem dX6_comesTo_107 : decode cX6_comesTo 107 = .ok (.invokevirtual 70, 3) := by decide +kernel
theorem dX6_comesTo_110 : decode cX6_comesTo 110 = .ok (.aload_n 0, 1) := by decide +kernel
theorem dX6_comesTo_111 : decode cX6_comesTo 111 = .ok (.iload_n 2, 1) := by decide +kernel
theorem dX6_comesTo_112 : decode cX6_comesTo 112 = .ok (.iconst 2, 1) := by decide +kernel
theorem dX6_comesTo_113 : decode cX6_comesTo 113 = .ok (.iadd, 1) := by decide +kernel
theorem dX6_comesTo_114 : decode cX6_comesTo 114 = .ok (.invokevirtual 70, 3) := by decide +kernel
theorem dX6_comesTo_117 : decode cX6_comesTo 117 = .ok (.invokestatic 79, 3) := by decide +kernel
theorem dX6_comesTo_120 : decode cX6_comesTo 120 = .ok (.ireturn, 1) := by decide +kernel
theorem dX6_comesTo_121 : decode cX6_comesTo 121 = .ok (.aload_n 1, 1) := by decide +kernel
theorem dX6_comesTo_122 : decode cX6_comesTo 122 = .ok (.aload_n 0, 1) := by decide +kernel
theorem dX6_comesTo_123 : decode cX6_comesTo 123 = .ok (.iload_n 2, 1) := by decide +kernel
theorem dX6_comesTo_124 : decode cX6_comesTo 124 = .ok (.iconst 1, 1) := by decide +kernel
theorem dX6_comesTo_125 : decode cX6_comesTo 125 = .ok (.iadd, 1) := by decide +kernel
theorem dX6_comesTo_126 : decode cX6_comesTo 126 = .ok (.invokevirtual 70, 3) := by decide +kernel
theorem dX6_comesTo_129 : decode cX6_comesTo 129 = .ok (.invokestatic 83, 3) := by decide +kernel
theorem dX6_comesTo_132 : decode cX6_comesTo 132 = .ok (.ireturn, 1) := by decide +kernel
theorem dX6_comesTo_133 : decode cX6_comesTo 133 = .ok (.aload_n 1, 1) := by decide +kernel
theorem dX6_comesTo_134 : decode cX6_comesTo 134 = .ok (.aload_n 0, 1) := by decide +kernel
theorem dX6_comesTo_135 : decode cX6_comesTo 135 = .ok (.iload_n 2, 1) := by decide +kernel
theorem dX6_comesTo_136 : decode cX6_comesTo 136 = .ok (.iconst 1, 1) := by decide +kernel
theorem dX6_comesTo_137 : decode cX6_comesTo 137 = .ok (.iadd, 1) := by decide +kernel
theorem dX6_comesTo_138 : decode cX6_comesTo 138 = .ok (.invokevirtual 70, 3) := by decide +kernel
theorem dX6_comesTo_141 : decode cX6_comesTo 141 = .ok (.aload_n 0, 1) := by decide +kernel
theorem dX6_comesTo_142 : decode cX6_comesTo 142 = .ok (.iload_n 2, 1) := by decide +kernel
theorem dX6_comesTo_143 : decode cX6_comesTo 143 = .ok (.iconst 2, 1) := by decide +kernel
theorem dX6_comesTo_144 : decode cX6_comesTo 144 = .ok (.iadd, 1) := by decide +kernel
theorem dX6_comesTo_145 : decode cX6_comesTo 145 = .ok (.invokevirtual 70, 3) := by decide +kernel
theorem dX6_comesTo_148 : decode cX6_comesTo 148 = .ok (.invokestatic 86, 3) := by decide +kernel
theorem dX6_comesTo_151 : decode cX6_comesTo 151 = .ok (.ireturn, 1) := by decide +kernel
theorem dX6_comesTo_152 : decode cX6_comesTo 152 = .ok (.aload_n 1, 1) := by decide +kernel
theorem dX6_comesTo_153 : decode cX6_comesTo 153 = .ok (.aload_n 0, 1) := by decide +kernel
theorem dX6_comesTo_154 : decode cX6_comesTo 154 = .ok (.iload_n 2, 1) := by decide +kernel
theorem dX6_comesTo_155 : decode cX6_comesTo 155 = .ok (.iconst 1, 1) := by decide +kernel
theorem dX6_comesTo_156 : decode cX6_comesTo 156 = .ok (.iadd, 1) := by decide +kernel
theorem dX6_comesTo_157 : decode cX6_comesTo 157 = .ok (.invokevirtual 70, 3) := by decide +kernel
theorem dX6_comesTo_160 : decode cX6_comesTo 160 = .ok (.aload_n 0, 1) := by decide +kernel
theorem dX6_comesTo_161 : decode cX6_comesTo 161 = .ok (.iload_n 2, 1) := by decide +kernel
theorem dX6_comesTo_162 : decode cX6_comesTo 162 = .ok (.iconst 2, 1) := by decide +kernel
theorem dX6_comesTo_163 : decode cX6_comesTo 163 = .ok (.iadd, 1) := by decide +kernel
theorem dX6_comesTo_164 : decode cX6_comesTo 164 = .ok (.invokevirtual 89, 3) := by decide +kernel
theorem dX6_comesTo_167 : decode cX6_comesTo 167 = .ok (.invokestatic 92, 3) := by decide +kernel
theorem dX6_comesTo_170 : decode cX6_comesTo 170 = .ok (.ireturn, 1) := by decide +kernel
theorem dX6_comesTo_171 : decode cX6_comesTo 171 = .ok (.aload_n 1, 1) := by decide +kernel
theorem dX6_comesTo_172 : decode cX6_comesTo 172 = .ok (.aload_n 0, 1) := by decide +kernel
theorem dX6_comesTo_173 : decode cX6_comesTo 173 = .ok (.iload_n 2, 1) := by decide +kernel
theorem dX6_comesTo_174 : decode cX6_comesTo 174 = .ok (.iconst 1, 1) := by decide +kernel
theorem dX6_comesTo_175 : decode cX6_comesTo 175 = .ok (.iadd, 1) := by decide +kernel
theorem dX6_comesTo_176 : decode cX6_comesTo 176 = .ok (.invokevirtual 89, 3) := by decide +kernel
theorem dX6_comesTo_179 : decode cX6_comesTo 179 = .ok (.invokestatic 95, 3) := by decide +kernel
theorem dX6_comesTo_182 : decode cX6_comesTo 182 = .ok (.ireturn, 1) := by decide +kernel
theorem dX6_signAt_0 : decode cX6_signAt 0 = .ok (.iload_n 1, 1) := by decide +kernel
theorem dX6_signAt_1 : decode cX6_signAt 1 = .ok (.aload_n 0, 1) := by decide +kernel
theorem dX6_signAt_2 : decode cX6_signAt 2 = .ok (.getfield 15, 3) := by decide +kernel
theorem dX6_signAt_5 : decode cX6_signAt 5 = .ok (.if_icmp .ge 12, 3) := by decide +kernel
theorem dX6_signAt_8 : decode cX6_signAt 8 = .ok (.aload_n 0, 1) := by decide +kernel
theorem dX6_signAt_9 : decode cX6_signAt 9 = .ok (.getfield 9, 3) := by decide +kernel
theorem dX6_signAt_12 : decode cX6_signAt 12 = .ok (.iload_n 1, 1) := by decide +kernel
theorem dX6_signAt_13 : decode cX6_signAt 13 = .ok (.iaload, 1) := by decide +kernel
theorem dX6_signAt_14 : decode cX6_signAt 14 = .ok (.goto 4, 3) := by decide +kernel
theorem dX6_signAt_17 : decode cX6_signAt 17 = .ok (.iconst 0, 1) := by decide +kernel
theorem dX6_signAt_18 : decode cX6_signAt 18 = .ok (.ireturn, 1) := by decide +kernel
theorem dX6_digitAt_0 : decode cX6_digitAt 0 = .ok (.aload_n 0, 1) := by decide +kernel
theorem dX6_digitAt_1 : decode cX6_digitAt 1 = .ok (.iload_n 1, 1) := by decide +kernel
theorem dX6_digitAt_2 : decode cX6_digitAt 2 = .ok (.invokevirtual 67, 3) := by decide +kernel
theorem dX6_digitAt_5 : decode cX6_digitAt 5 = .ok (.bipush 48, 2) := by decide +kernel
theorem dX6_digitAt_7 : decode cX6_digitAt 7 = .ok (.isub, 1) := by decide +kernel
theorem dX6_digitAt_8 : decode cX6_digitAt 8 = .ok (.ireturn, 1) := by decide +kernel
theorem dX6_twoDigitsAt_0 : decode cX6_twoDigitsAt 0 = .ok (.bipush 10, 2) := by decide +kernel
theorem dX6_twoDigitsAt_2 : decode cX6_twoDigitsAt 2 = .ok (.aload_n 0, 1) := by decide +kernel
theorem dX6_twoDigitsAt_3 : decode cX6_twoDigitsAt 3 = .ok (.iload_n 1, 1) := by decide +kernel
theorem dX6_twoDigitsAt_4 : decode cX6_twoDigitsAt 4 = .ok (.invokevirtual 70, 3) := by decide +kernel
theorem dX6_twoDigitsAt_7 : decode cX6_twoDigitsAt 7 = .ok (.imul, 1) := by decide +kernel
theorem dX6_twoDigitsAt_8 : decode cX6_twoDigitsAt 8 = .ok (.aload_n 0, 1) := by decide +kernel
theorem dX6_twoDigitsAt_9 : decode cX6_twoDigitsAt 9 = .ok (.iload_n 1, 1) := by decide +kernel
theorem dX6_twoDigitsAt_10 : decode cX6_twoDigitsAt 10 = .ok (.iconst 1, 1) := by decide +kernel
theorem dX6_twoDigitsAt_11 : decode cX6_twoDigitsAt 11 = .ok (.iadd, 1) := by decide +kernel
theorem dX6_twoDigitsAt_12 : decode cX6_twoDigitsAt 12 = .ok (.invokevirtual 70, 3) := by decide +kernel
theorem dX6_twoDigitsAt_15 : decode cX6_twoDigitsAt 15 = .ok (.iadd, 1) := by decide +kernel
theorem dX6_twoDigitsAt_16 : decode cX6_twoDigitsAt 16 = .ok (.ireturn, 1) := by decide +kernel
theorem dX6_lendingComes_0 : decode cX6_lendingComes 0 = .ok (.aload_n 0, 1) := by decide +kernel
theorem dX6_lendingComes_1 : decode cX6_lendingComes 1 = .ok (.iload_n 1, 1) := by decide +kernel
theorem dX6_lendingComes_2 : decode cX6_lendingComes 2 = .ok (.invokevirtual 98, 3) := by decide +kernel
theorem dX6_lendingComes_5 : decode cX6_lendingComes 5 = .ok (.ifCond .eq 24, 3) := by decide +kernel
theorem dX6_lendingComes_8 : decode cX6_lendingComes 8 = .ok (.aload_n 0, 1) := by decide +kernel
theorem dX6_lendingComes_9 : decode cX6_lendingComes 9 = .ok (.iload_n 2, 1) := by decide +kernel
theorem dX6_lendingComes_10 : decode cX6_lendingComes 10 = .ok (.invokevirtual 98, 3) := by decide +kernel
theorem dX6_lendingComes_13 : decode cX6_lendingComes 13 = .ok (.ifCond .eq 16, 3) := by decide +kernel
theorem dX6_lendingComes_16 : decode cX6_lendingComes 16 = .ok (.aload_n 0, 1) := by decide +kernel
theorem dX6_lendingComes_17 : decode cX6_lendingComes 17 = .ok (.iload_n 1, 1) := by decide +kernel
theorem dX6_lendingComes_18 : decode cX6_lendingComes 18 = .ok (.iload_n 2, 1) := by decide +kernel
theorem dX6_lendingComes_19 : decode cX6_lendingComes 19 = .ok (.invokevirtual 102, 3) := by decide +kernel
theorem dX6_lendingComes_22 : decode cX6_lendingComes 22 = .ok (.ifCond .eq 7, 3) := by decide +kernel
theorem dX6_lendingComes_25 : decode cX6_lendingComes 25 = .ok (.iconst 1, 1) := by decide +kernel
theorem dX6_lendingComes_26 : decode cX6_lendingComes 26 = .ok (.goto 4, 3) := by decide +kernel
theorem dX6_lendingComes_29 : decode cX6_lendingComes 29 = .ok (.iconst 0, 1) := by decide +kernel
theorem dX6_lendingComes_30 : decode cX6_lendingComes 30 = .ok (.istore_n 3, 1) := by decide +kernel
theorem dX6_lendingComes_31 : decode cX6_lendingComes 31 = .ok (.iload_n 3, 1) := by decide +kernel
theorem dX6_lendingComes_32 : decode cX6_lendingComes 32 = .ok (.ifCond .eq 9, 3) := by decide +kernel
theorem dX6_lendingComes_35 : decode cX6_lendingComes 35 = .ok (.aload_n 0, 1) := by decide +kernel
theorem dX6_lendingComes_36 : decode cX6_lendingComes 36 = .ok (.iload_n 1, 1) := by decide +kernel
theorem dX6_lendingComes_37 : decode cX6_lendingComes 37 = .ok (.iload_n 2, 1) := by decide +kernel
theorem dX6_lendingComes_38 : decode cX6_lendingComes 38 = .ok (.invokevirtual 105, 3) := by decide +kernel
theorem dX6_lendingComes_41 : decode cX6_lendingComes 41 = .ok (.iload_n 3, 1) := by decide +kernel
theorem dX6_lendingComes_42 : decode cX6_lendingComes 42 = .ok (.ireturn, 1) := by decide +kernel
theorem dX6_backComes_0 : decode cX6_backComes 0 = .ok (.aload_n 0, 1) := by decide +kernel
theorem dX6_backComes_1 : decode cX6_backComes 1 = .ok (.iload_n 1, 1) := by decide +kernel
theorem dX6_backComes_2 : decode cX6_backComes 2 = .ok (.invokevirtual 98, 3) := by decide +kernel
theorem dX6_backComes_5 : decode cX6_backComes 5 = .ok (.ifCond .eq 15, 3) := by decide +kernel
theorem dX6_backComes_8 : decode cX6_backComes 8 = .ok (.aload_n 0, 1) := by decide +kernel
theorem dX6_backComes_9 : decode cX6_backComes 9 = .ok (.iload_n 1, 1) := by decide +kernel
theorem dX6_backComes_10 : decode cX6_backComes 10 = .ok (.invokevirtual 109, 3) := by decide +kernel
theorem dX6_backComes_13 : decode cX6_backComes 13 = .ok (.ifCond .eq 7, 3) := by decide +kernel
theorem dX6_backComes_16 : decode cX6_backComes 16 = .ok (.iconst 1, 1) := by decide +kernel
theorem dX6_backComes_17 : decode cX6_backComes 17 = .ok (.goto 4, 3) := by decide +kernel
theorem dX6_backComes_20 : decode cX6_backComes 20 = .ok (.iconst 0, 1) := by decide +kernel
theorem dX6_backComes_21 : decode cX6_backComes 21 = .ok (.istore_n 2, 1) := by decide +kernel
theorem dX6_backComes_22 : decode cX6_backComes 22 = .ok (.iload_n 2, 1) := by decide +kernel
theorem dX6_backComes_23 : decode cX6_backComes 23 = .ok (.ifCond .eq 9, 3) := by decide +kernel
theorem dX6_backComes_26 : decode cX6_backComes 26 = .ok (.aload_n 0, 1) := by decide +kernel
theorem dX6_backComes_27 : decode cX6_backComes 27 = .ok (.iload_n 1, 1) := by decide +kernel
theorem dX6_backComes_28 : decode cX6_backComes 28 = .ok (.invokevirtual 112, 3) := by decide +kernel
theorem dX6_backComes_31 : decode cX6_backComes 31 = .ok (.pop, 1) := by decide +kernel
theorem dX6_backComes_32 : decode cX6_backComes 32 = .ok (.iload_n 2, 1) := by decide +kernel
theorem dX6_backComes_33 : decode cX6_backComes 33 = .ok (.ireturn, 1) := by decide +kernel
theorem dX6_knowingComes_0 : decode cX6_knowingComes 0 = .ok (.aload_n 0, 1) := by decide +kernel
theorem dX6_knowingComes_1 : decode cX6_knowingComes 1 = .ok (.iload_n 1, 1) := by decide +kernel
theorem dX6_knowingComes_2 : decode cX6_knowingComes 2 = .ok (.invokevirtual 98, 3) := by decide +kernel
theorem dX6_knowingComes_5 : decode cX6_knowingComes 5 = .ok (.ifCond .eq 15, 3) := by decide +kernel
theorem dX6_knowingComes_8 : decode cX6_knowingComes 8 = .ok (.aload_n 0, 1) := by decide +kernel
theorem dX6_knowingComes_9 : decode cX6_knowingComes 9 = .ok (.iload_n 2, 1) := by decide +kernel
theorem dX6_knowingComes_10 : decode cX6_knowingComes 10 = .ok (.invokevirtual 98, 3) := by decide +kernel
theorem dX6_knowingComes_13 : decode cX6_knowingComes 13 = .ok (.ifCond .eq 7, 3) := by decide +kernel
theorem dX6_knowingComes_16 : decode cX6_knowingComes 16 = .ok (.iconst 1, 1) := by decide +kernel
theorem dX6_knowingComes_17 : decode cX6_knowingComes 17 = .ok (.goto 4, 3) := by decide +kernel
theorem dX6_knowingComes_20 : decode cX6_knowingComes 20 = .ok (.iconst 0, 1) := by decide +kernel
theorem dX6_knowingComes_21 : decode cX6_knowingComes 21 = .ok (.istore_n 3, 1) := by decide +kernel
theorem dX6_knowingComes_22 : decode cX6_knowingComes 22 = .ok (.iload_n 3, 1) := by decide +kernel
theorem dX6_knowingComes_23 : decode cX6_knowingComes 23 = .ok (.ifCond .eq 9, 3) := by decide +kernel
theorem dX6_knowingComes_26 : decode cX6_knowingComes 26 = .ok (.aload_n 0, 1) := by decide +kernel
theorem dX6_knowingComes_27 : decode cX6_knowingComes 27 = .ok (.iload_n 1, 1) := by decide +kernel
theorem dX6_knowingComes_28 : decode cX6_knowingComes 28 = .ok (.iload_n 2, 1) := by decide +kernel
theorem dX6_knowingComes_29 : decode cX6_knowingComes 29 = .ok (.invokevirtual 115, 3) := by decide +kernel
theorem dX6_knowingComes_32 : decode cX6_knowingComes 32 = .ok (.iload_n 3, 1) := by decide +kernel
theorem dX6_knowingComes_33 : decode cX6_knowingComes 33 = .ok (.ireturn, 1) := by decide +kernel
theorem dX6_fameComes_0 : decode cX6_fameComes 0 = .ok (.aload_n 0, 1) := by decide +kernel
theorem dX6_fameComes_1 : decode cX6_fameComes 1 = .ok (.iload_n 1, 1) := by decide +kernel
theorem dX6_fameComes_2 : decode cX6_fameComes 2 = .ok (.invokevirtual 98, 3) := by decide +kernel
theorem dX6_fameComes_5 : decode cX6_fameComes 5 = .ok (.istore_n 3, 1) := by decide +kernel
theorem dX6_fameComes_6 : decode cX6_fameComes 6 = .ok (.iload_n 3, 1) := by decide +kernel
theorem dX6_fameComes_7 : decode cX6_fameComes 7 = .ok (.ifCond .eq 10, 3) := by decide +kernel
theorem dX6_fameComes_10 : decode cX6_fameComes 10 = .ok (.aload_n 0, 1) := by decide +kernel
theorem dX6_fameComes_11 : decode cX6_fameComes 11 = .ok (.getfield 118, 3) := by decide +kernel
theorem dX6_fameComes_14 : decode cX6_fameComes 14 = .ok (.iload_n 1, 1) := by decide +kernel
theorem dX6_fameComes_15 : decode cX6_fameComes 15 = .ok (.iload_n 2, 1) := by decide +kernel
theorem dX6_fameComes_16 : decode cX6_fameComes 16 = .ok (.iastore, 1) := by decide +kernel
theorem dX6_fameComes_17 : decode cX6_fameComes 17 = .ok (.iload_n 3, 1) := by decide +kernel
theorem dX6_fameComes_18 : decode cX6_fameComes 18 = .ok (.ireturn, 1) := by decide +kernel
theorem dX6_monthsCome_0 : decode cX6_monthsCome 0 = .ok (.iload_n 1, 1) := by decide +kernel
theorem dX6_monthsCome_1 : decode cX6_monthsCome 1 = .ok (.iconst 1, 1) := by decide +kernel
theorem dX6_monthsCome_2 : decode cX6_monthsCome 2 = .ok (.bipush 60, 2) := by decide +kernel
theorem dX6_monthsCome_4 : decode cX6_monthsCome 4 = .ok (.invokestatic 121, 3) := by decide +kernel
theorem dX6_monthsCome_7 : decode cX6_monthsCome 7 = .ok (.ifCond .ne 19, 3) := by decide +kernel
theorem dX6_monthsCome_10 : decode cX6_monthsCome 10 = .ok (.aload_n 0, 1) := by decide +kernel
theorem dX6_monthsCome_11 : decode cX6_monthsCome 11 = .ok (.getfield 125, 3) := by decide +kernel
theorem dX6_monthsCome_14 : decode cX6_monthsCome 14 = .ok (.iload_n 1, 1) := by decide +kernel
theorem dX6_monthsCome_15 : decode cX6_monthsCome 15 = .ok (.iadd, 1) := by decide +kernel
theorem dX6_monthsCome_16 : decode cX6_monthsCome 16 = .ok (.sipush 999, 3) := by decide +kernel
theorem dX6_monthsCome_19 : decode cX6_monthsCome 19 = .ok (.if_icmp .gt 7, 3) := by decide +kernel
theorem dX6_monthsCome_22 : decode cX6_monthsCome 22 = .ok (.iconst 1, 1) := by decide +kernel
theorem dX6_monthsCome_23 : decode cX6_monthsCome 23 = .ok (.goto 4, 3) := by decide +kernel
theorem dX6_monthsCome_26 : decode cX6_monthsCome 26 = .ok (.iconst 0, 1) := by decide +kernel
theorem dX6_monthsCome_27 : decode cX6_monthsCome 27 = .ok (.istore_n 2, 1) := by decide +kernel
theorem dX6_monthsCome_28 : decode cX6_monthsCome 28 = .ok (.iload_n 2, 1) := by decide +kernel
theorem dX6_monthsCome_29 : decode cX6_monthsCome 29 = .ok (.ifCond .eq 8, 3) := by decide +kernel
theorem dX6_monthsCome_32 : decode cX6_monthsCome 32 = .ok (.aload_n 0, 1) := by decide +kernel
theorem dX6_monthsCome_33 : decode cX6_monthsCome 33 = .ok (.iload_n 1, 1) := by decide +kernel
theorem dX6_monthsCome_34 : decode cX6_monthsCome 34 = .ok (.invokevirtual 128, 3) := by decide +kernel
theorem dX6_monthsCome_37 : decode cX6_monthsCome 37 = .ok (.iload_n 2, 1) := by decide +kernel
theorem dX6_monthsCome_38 : decode cX6_monthsCome 38 = .ok (.ireturn, 1) := by decide +kernel
theorem dX7_init_0 : decode cX7_init 0 = .ok (.aload_n 0, 1) := by decide +kernel
theorem dX7_init_1 : decode cX7_init 1 = .ok (.invokespecial 3, 3) := by decide +kernel
theorem dX7_init_4 : decode cX7_init 4 = .ok (.aload_n 0, 1) := by decide +kernel
theorem dX7_init_5 : decode cX7_init 5 = .ok (.aload_n 1, 1) := by decide +kernel
theorem dX7_init_6 : decode cX7_init 6 = .ok (.putfield 9, 3) := by decide +kernel
theorem dX7_init_9 : decode cX7_init 9 = .ok (.aload_n 0, 1) := by decide +kernel
theorem dX7_init_10 : decode cX7_init 10 = .ok (.bipush 8, 2) := by decide +kernel
theorem dX7_init_12 : decode cX7_init 12 = .ok (.newarray .int, 2) := by decide +kernel
theorem dX7_init_14 : decode cX7_init 14 = .ok (.putfield 15, 3) := by decide +kernel
theorem dX7_init_17 : decode cX7_init 17 = .ok (.aload_n 0, 1) := by decide +kernel
theorem dX7_init_18 : decode cX7_init 18 = .ok (.bipush 8, 2) := by decide +kernel
theorem dX7_init_20 : decode cX7_init 20 = .ok (.newarray .int, 2) := by decide +kernel
theorem dX7_init_22 : decode cX7_init 22 = .ok (.putfield 19, 3) := by decide +kernel
theorem dX7_init_25 : decode cX7_init 25 = .ok (.aload_n 0, 1) := by decide +kernel
theorem dX7_init_26 : decode cX7_init 26 = .ok (.bipush 8, 2) := by decide +kernel
theorem dX7_init_28 : decode cX7_init 28 = .ok (.newarray .int, 2) := by decide +kernel
theorem dX7_init_30 : decode cX7_init 30 = .ok (.putfield 22, 3) := by decide +kernel
theorem dX7_init_33 : decode cX7_init 33 = .ok (.aload_n 0, 1) := by decide +kernel
theorem dX7_init_34 : decode cX7_init 34 = .ok (.bipush 8, 2) := by decide +kernel
theorem dX7_init_36 : decode cX7_init 36 = .ok (.newarray .int, 2) := by decide +kernel
theorem dX7_init_38 : decode cX7_init 38 = .ok (.putfield 25, 3) := by decide +kernel
theorem dX7_init_41 : decode cX7_init 41 = .ok (.aload_n 0, 1) := by decide +kernel
theorem dX7_init_42 : decode cX7_init 42 = .ok (.bipush 8, 2) := by decide +kernel
theorem dX7_init_44 : decode cX7_init 44 = .ok (.newarray .int, 2) := by decide +kernel
theorem dX7_init_46 : decode cX7_init 46 = .ok (.putfield 28, 3) := by decide +kernel
theorem dX7_init_49 : decode cX7_init 49 = .ok (.aload_n 0, 1) := by decide +kernel
theorem dX7_init_50 : decode cX7_init 50 = .ok (.bipush 8, 2) := by decide +kernel
theorem dX7_init_52 : decode cX7_init 52 = .ok (.newarray .int, 2) := by decide +kernel
theorem dX7_init_54 : decode cX7_init 54 = .ok (.putfield 31, 3) := by decide +kernel
theorem dX7_init_57 : decode cX7_init 57 = .ok (.aload_n 0, 1) := by decide +kernel
theorem dX7_init_58 : decode cX7_init 58 = .ok (.bipush 8, 2) := by decide +kernel
theorem dX7_init_60 : decode cX7_init 60 = .ok (.newarray .int, 2) := by decide +kernel
theorem dX7_init_62 : decode cX7_init 62 = .ok (.putfield 34, 3) := by decide +kernel
theorem dX7_init_65 : decode cX7_init 65 = .ok (.aload_n 0, 1) := by decide +kernel
theorem dX7_init_66 : decode cX7_init 66 = .ok (.iconst 0, 1) := by decide +kernel
theorem dX7_init_67 : decode cX7_init 67 = .ok (.putfield 37, 3) := by decide +kernel
theorem dX7_init_70 : decode cX7_init 70 = .ok (.aload_n 0, 1) := by decide +kernel
theorem dX7_init_71 : decode cX7_init 71 = .ok (.iconst 0, 1) := by decide +kernel
theorem dX7_init_72 : decode cX7_init 72 = .ok (.putfield 41, 3) := by decide +kernel
theorem dX7_init_75 : decode cX7_init 75 = .ok (.return_, 1) := by decide +kernel
theorem dX7_becomeLike_0 : decode cX7_becomeLike 0 = .ok (.aload_n 0, 1) := by decide +kernel
theorem dX7_becomeLike_1 : decode cX7_becomeLike 1 = .ok (.aload_n 1, 1) := by decide +kernel
theorem dX7_becomeLike_2 : decode cX7_becomeLike 2 = .ok (.getfield 37, 3) := by decide +kernel
theorem dX7_becomeLike_5 : decode cX7_becomeLike 5 = .ok (.putfield 37, 3) := by decide +kernel
theorem dX7_becomeLike_8 : decode cX7_becomeLike 8 = .ok (.aload_n 0, 1) := by decide +kernel
theorem dX7_becomeLike_9 : decode cX7_becomeLike 9 = .ok (.aload_n 1, 1) := by decide +kernel
theorem dX7_becomeLike_10 : decode cX7_becomeLike 10 = .ok (.getfield 41, 3) := by decide +kernel
theorem dX7_becomeLike_13 : decode cX7_becomeLike 13 = .ok (.putfield 41, 3) := by decide +kernel
theorem dX7_becomeLike_16 : decode cX7_becomeLike 16 = .ok (.iconst 0, 1) := by decide +kernel
theorem dX7_becomeLike_17 : decode cX7_becomeLike 17 = .ok (.istore_n 2, 1) := by decide +kernel
theorem dX7_becomeLike_18 : decode cX7_becomeLike 18 = .ok (.iload_n 2, 1) := by decide +kernel
theorem dX7_becomeLike_19 : decode cX7_becomeLike 19 = .ok (.aload_n 0, 1) := by decide +kernel
theorem dX7_becomeLike_20 : decode cX7_becomeLike 20 = .ok (.getfield 37, 3) := by decide +kernel
theorem dX7_becomeLike_23 : decode cX7_becomeLike 23 = .ok (.if_icmp .ge 93, 3) := by decide +kernel
theorem dX7_becomeLike_26 : decode cX7_becomeLike 26 = .ok (.aload_n 0, 1) := by decide +kernel
theorem dX7_becomeLike_27 : decode cX7_becomeLike 27 = .ok (.getfield 15, 3) := by decide +kernel
theorem dX7_becomeLike_30 : decode cX7_becomeLike 30 = .ok (.iload_n 2, 1) := by decide +kernel
theorem dX7_becomeLike_31 : decode cX7_becomeLike 31 = .ok (.aload_n 1, 1) := by decide +kernel
theorem dX7_becomeLike_32 : decode cX7_becomeLike 32 = .ok (.getfield 15, 3) := by decide +kernel
theorem dX7_becomeLike_35 : decode cX7_becomeLike 35 = .ok (.iload_n 2, 1) := by decide +kernel
theorem dX7_becomeLike_36 : decode cX7_becomeLike 36 = .ok (.iaload, 1) := by decide +kernel
theorem dX7_becomeLike_37 : decode cX7_becomeLike 37 = .ok (.iastore, 1) := by decide +kernel
theorem dX7_becomeLike_38 : decode cX7_becomeLike 38 = .ok (.aload_n 0, 1) := by decide +kernel
theorem dX7_becomeLike_39 : decode cX7_becomeLike 39 = .ok (.getfield 19, 3) := by decide +kernel
theorem dX7_becomeLike_42 : decode cX7_becomeLike 42 = .ok (.iload_n 2, 1) := by decide +kernel
theorem dX7_becomeLike_43 : decode cX7_becomeLike 43 = .ok (.aload_n 1, 1) := by decide +kernel
theorem dX7_becomeLike_44 : decode cX7_becomeLike 44 = .ok (.getfield 19, 3) := by decide +kernel
theorem dX7_becomeLike_47 : decode cX7_becomeLike 47 = .ok (.iload_n 2, 1) := by decide +kernel
theorem dX7_becomeLike_48 : decode cX7_becomeLike 48 = .ok (.iaload, 1) := by decide +kernel
theorem dX7_becomeLike_49 : decode cX7_becomeLike 49 = .ok (.iastore, 1) := by decide +kernel
theorem dX7_becomeLike_50 : decode cX7_becomeLike 50 = .ok (.aload_n 0, 1) := by decide +kernel
theorem dX7_becomeLike_51 : decode cX7_becomeLike 51 = .ok (.getfield 22, 3) := by decide +kernel
theorem dX7_becomeLike_54 : decode cX7_becomeLike 54 = .ok (.iload_n 2, 1) := by decide +kernel
theorem dX7_becomeLike_55 : decode cX7_becomeLike 55 = .ok (.aload_n 1, 1) := by decide +kernel
theorem dX7_becomeLike_56 : decode cX7_becomeLike 56 = .ok (.getfield 22, 3) := by decide +kernel
theorem dX7_becomeLike_59 : decode cX7_becomeLike 59 = .ok (.iload_n 2, 1) := by decide +kernel
theorem dX7_becomeLike_60 : decode cX7_becomeLike 60 = .ok (.iaload, 1) := by decide +kernel
theorem dX7_becomeLike_61 : decode cX7_becomeLike 61 = .ok (.iastore, 1) := by decide +kernel
theorem dX7_becomeLike_62 : decode cX7_becomeLike 62 = .ok (.aload_n 0, 1) := by decide +kernel
theorem dX7_becomeLike_63 : decode cX7_becomeLike 63 = .ok (.getfield 25, 3) := by decide +kernel
theorem dX7_becomeLike_66 : decode cX7_becomeLike 66 = .ok (.iload_n 2, 1) := by decide +kernel
theorem dX7_becomeLike_67 : decode cX7_becomeLike 67 = .ok (.aload_n 1, 1) := by decide +kernel
theorem dX7_becomeLike_68 : decode cX7_becomeLike 68 = .ok (.getfield 25, 3) := by decide +kernel
theorem dX7_becomeLike_71 : decode cX7_becomeLike 71 = .ok (.iload_n 2, 1) := by decide +kernel
theorem dX7_becomeLike_72 : decode cX7_becomeLike 72 = .ok (.iaload, 1) := by decide +kernel
theorem dX7_becomeLike_73 : decode cX7_becomeLike 73 = .ok (.iastore, 1) := by decide +kernel
theorem dX7_becomeLike_74 : decode cX7_becomeLike 74 = .ok (.aload_n 0, 1) := by decide +kernel
theorem dX7_becomeLike_75 : decode cX7_becomeLike 75 = .ok (.getfield 28, 3) := by decide +kernel
theorem dX7_becomeLike_78 : decode cX7_becomeLike 78 = .ok (.iload_n 2, 1) := by decide +kernel
theorem dX7_becomeLike_79 : decode cX7_becomeLike 79 = .ok (.aload_n 1, 1) := by decide +kernel
theorem dX7_becomeLike_80 : decode cX7_becomeLike 80 = .ok (.getfield 28, 3) := by decide +kernel
theorem dX7_becomeLike_83 : decode cX7_becomeLike 83 = .ok (.iload_n 2, 1) := by decide +kernel
theorem dX7_becomeLike_84 : decode cX7_becomeLike 84 = .ok (.iaload, 1) := by decide +kernel
theorem dX7_becomeLike_85 : decode cX7_becomeLike 85 = .ok (.iastore, 1) := by decide +kernel
theorem dX7_becomeLike_86 : decode cX7_becomeLike 86 = .ok (.aload_n 0, 1) := by decide +kernel
theorem dX7_becomeLike_87 : decode cX7_becomeLike 87 = .ok (.getfield 31, 3) := by decide +kernel
theorem dX7_becomeLike_90 : decode cX7_becomeLike 90 = .ok (.iload_n 2, 1) := by decide +kernel
theorem dX7_becomeLike_91 : decode cX7_becomeLike 91 = .ok (.aload_n 1, 1) := by decide +kernel
theorem dX7_becomeLike_92 : decode cX7_becomeLike 92 = .ok (.getfield 31, 3) := by decide +kernel
theorem dX7_becomeLike_95 : decode cX7_becomeLike 95 = .ok (.iload_n 2, 1) := by decide +kernel
theorem dX7_becomeLike_96 : decode cX7_becomeLike 96 = .ok (.iaload, 1) := by decide +kernel
theorem dX7_becomeLike_97 : decode cX7_becomeLike 97 = .ok (.iastore, 1) := by decide +kernel
theorem dX7_becomeLike_98 : decode cX7_becomeLike 98 = .ok (.aload_n 0, 1) := by decide +kernel
theorem dX7_becomeLike_99 : decode cX7_becomeLike 99 = .ok (.getfield 34, 3) := by decide +kernel
theorem dX7_becomeLike_102 : decode cX7_becomeLike 102 = .ok (.iload_n 2, 1) := by decide +kernel
theorem dX7_becomeLike_103 : decode cX7_becomeLike 103 = .ok (.aload_n 1, 1) := by decide +kernel
theorem dX7_becomeLike_104 : decode cX7_becomeLike 104 = .ok (.getfield 34, 3) := by decide +kernel
theorem dX7_becomeLike_107 : decode cX7_becomeLike 107 = .ok (.iload_n 2, 1) := by decide +kernel
theorem dX7_becomeLike_108 : decode cX7_becomeLike 108 = .ok (.iaload, 1) := by decide +kernel
theorem dX7_becomeLike_109 : decode cX7_becomeLike 109 = .ok (.iastore, 1) := by decide +kernel
theorem dX7_becomeLike_110 : decode cX7_becomeLike 110 = .ok (.iinc 2 1, 3) := by decide +kernel
theorem dX7_becomeLike_113 : decode cX7_becomeLike 113 = .ok (.goto (-95), 3) := by decide +kernel
theorem dX7_becomeLike_116 : decode cX7_becomeLike 116 = .ok (.return_, 1) := by decide +kernel
theorem dX7_isThere_0 : decode cX7_isThere 0 = .ok (.iload_n 1, 1) := by decide +kernel
theorem dX7_isThere_1 : decode cX7_isThere 1 = .ok (.ifCond .lt 15, 3) := by decide +kernel
theorem dX7_isThere_4 : decode cX7_isThere 4 = .ok (.iload_n 1, 1) := by decide +kernel
theorem dX7_isThere_5 : decode cX7_isThere 5 = .ok (.aload_n 0, 1) := by decide +kernel
theorem dX7_isThere_6 : decode cX7_isThere 6 = .ok (.getfield 37, 3) := by decide +kernel
theorem dX7_isThere_9 : decode cX7_isThere 9 = .ok (.if_icmp .ge 7, 3) := by decide +kernel
theorem dX7_isThere_12 : decode cX7_isThere 12 = .ok (.iconst 1, 1) := by decide +kernel
theorem dX7_isThere_13 : decode cX7_isThere 13 = .ok (.goto 4, 3) := by decide +kernel
theorem dX7_isThere_16 : decode cX7_isThere 16 = .ok (.iconst 0, 1) := by decide +kernel
theorem dX7_isThere_17 : decode cX7_isThere 17 = .ok (.ireturn, 1) := by decide +kernel
theorem dX7_takesIn_0 : decode cX7_takesIn 0 = .ok (.aload_n 0, 1) := by decide +kernel
theorem dX7_takesIn_1 : decode cX7_takesIn 1 = .ok (.getfield 37, 3) := by decide +kernel
theorem dX7_takesIn_4 : decode cX7_takesIn 4 = .ok (.bipush 8, 2) := by decide +kernel
theorem dX7_takesIn_6 : decode cX7_takesIn 6 = .ok (.if_icmp .lt 5, 3) := by decide +kernel
theorem dX7_takesIn_9 : decode cX7_takesIn 9 = .ok (.iconst 0, 1) := by decide +kernel
theorem dX7_takesIn_10 : decode cX7_takesIn 10 = .ok (.ireturn, 1) := by decide +kernel
theorem dX7_takesIn_11 : decode cX7_takesIn 11 = .ok (.aload_n 0, 1) := by decide +kernel
theorem dX7_takesIn_12 : decode cX7_takesIn 12 = .ok (.getfield 15, 3) := by decide +kernel
theorem dX7_takesIn_15 : decode cX7_takesIn 15 = .ok (.aload_n 0, 1) := by decide +kernel
theorem dX7_takesIn_16 : decode cX7_takesIn 16 = .ok (.getfield 37, 3) := by decide +kernel
theorem dX7_takesIn_19 : decode cX7_takesIn 19 = .ok (.iload_n 1, 1) := by decide +kernel
theorem dX7_takesIn_20 : decode cX7_takesIn 20 = .ok (.iastore, 1) := by decide +kernel
theorem dX7_takesIn_21 : decode cX7_takesIn 21 = .ok (.aload_n 0, 1) := by decide +kernel
theorem dX7_takesIn_22 : decode cX7_takesIn 22 = .ok (.getfield 19, 3) := by decide +kernel
theorem dX7_takesIn_25 : decode cX7_takesIn 25 = .ok (.aload_n 0, 1) := by decide +kernel
theorem dX7_takesIn_26 : decode cX7_takesIn 26 = .ok (.getfield 37, 3) := by decide +kernel
theorem dX7_takesIn_29 : decode cX7_takesIn 29 = .ok (.iload_n 2, 1) := by decide +kernel
theorem dX7_takesIn_30 : decode cX7_takesIn 30 = .ok (.iastore, 1) := by decide +kernel
theorem dX7_takesIn_31 : decode cX7_takesIn 31 = .ok (.aload_n 0, 1) := by decide +kernel
theorem dX7_takesIn_32 : decode cX7_takesIn 32 = .ok (.getfield 22, 3) := by decide +kernel
theorem dX7_takesIn_35 : decode cX7_takesIn 35 = .ok (.aload_n 0, 1) := by decide +kernel
theorem dX7_takesIn_36 : decode cX7_takesIn 36 = .ok (.getfield 37, 3) := by decide +kernel
theorem dX7_takesIn_39 : decode cX7_takesIn 39 = .ok (.iconst 1, 1) := by decide +kernel
theorem dX7_takesIn_40 : decode cX7_takesIn 40 = .ok (.aload_n 0, 1) := by decide +kernel
theorem dX7_takesIn_41 : decode cX7_takesIn 41 = .ok (.getfield 37, 3) := by decide +kernel
theorem dX7_takesIn_44 : decode cX7_takesIn 44 = .ok (.ishl, 1) := by decide +kernel
theorem dX7_takesIn_45 : decode cX7_takesIn 45 = .ok (.iastore, 1) := by decide +kernel
theorem dX7_takesIn_46 : decode cX7_takesIn 46 = .ok (.aload_n 0, 1) := by decide +kernel
theorem dX7_takesIn_47 : decode cX7_takesIn 47 = .ok (.getfield 25, 3) := by decide +kernel
theorem dX7_takesIn_50 : decode cX7_takesIn 50 = .ok (.aload_n 0, 1) := by decide +kernel
theorem dX7_takesIn_51 : decode cX7_takesIn 51 = .ok (.getfield 37, 3) := by decide +kernel
theorem dX7_takesIn_54 : decode cX7_takesIn 54 = .ok (.aload_n 0, 1) := by decide +kernel
theorem dX7_takesIn_55 : decode cX7_takesIn 55 = .ok (.getfield 37, 3) := by decide +kernel
theorem dX7_takesIn_58 : decode cX7_takesIn 58 = .ok (.iastore, 1) := by decide +kernel
theorem dX7_takesIn_59 : decode cX7_takesIn 59 = .ok (.aload_n 0, 1) := by decide +kernel
theorem dX7_takesIn_60 : decode cX7_takesIn 60 = .ok (.getfield 28, 3) := by decide +kernel
theorem dX7_takesIn_63 : decode cX7_takesIn 63 = .ok (.aload_n 0, 1) := by decide +kernel
theorem dX7_takesIn_64 : decode cX7_takesIn 64 = .ok (.getfield 37, 3) := by decide +kernel
theorem dX7_takesIn_67 : decode cX7_takesIn 67 = .ok (.bipush 50, 2) := by decide +kernel
theorem dX7_takesIn_69 : decode cX7_takesIn 69 = .ok (.iastore, 1) := by decide +kernel
theorem dX7_takesIn_70 : decode cX7_takesIn 70 = .ok (.aload_n 0, 1) := by decide +kernel
theorem dX7_takesIn_71 : decode cX7_takesIn 71 = .ok (.getfield 31, 3) := by decide +kernel
theorem dX7_takesIn_74 : decode cX7_takesIn 74 = .ok (.aload_n 0, 1) := by decide +kernel
theorem dX7_takesIn_75 : decode cX7_takesIn 75 = .ok (.getfield 37, 3) := by decide +kernel
theorem dX7_takesIn_78 : decode cX7_takesIn 78 = .ok (.iconst 0, 1) := by decide +kernel
theorem dX7_takesIn_79 : decode cX7_takesIn 79 = .ok (.iastore, 1) := by decide +kernel
theorem dX7_takesIn_80 : decode cX7_takesIn 80 = .ok (.aload_n 0, 1) := by decide +kernel
theorem dX7_takesIn_81 : decode cX7_takesIn 81 = .ok (.getfield 34, 3) := by decide +kernel
theorem dX7_takesIn_84 : decode cX7_takesIn 84 = .ok (.aload_n 0, 1) := by decide +kernel
theorem dX7_takesIn_85 : decode cX7_takesIn 85 = .ok (.getfield 37, 3) := by decide +kernel
theorem dX7_takesIn_88 : decode cX7_takesIn 88 = .ok (.iconst 0, 1) := by decide +kernel
theorem dX7_takesIn_89 : decode cX7_takesIn 89 = .ok (.iastore, 1) := by decide +kernel
theorem dX7_takesIn_90 : decode cX7_takesIn 90 = .ok (.aload_n 0, 1) := by decide +kernel
theorem dX7_takesIn_91 : decode cX7_takesIn 91 = .ok (.dup, 1) := by decide +kernel
theorem dX7_takesIn_92 : decode cX7_takesIn 92 = .ok (.getfield 37, 3) := by decide +kernel
theorem dX7_takesIn_95 : decode cX7_takesIn 95 = .ok (.iconst 1, 1) := by decide +kernel
theorem dX7_takesIn_96 : decode cX7_takesIn 96 = .ok (.iadd, 1) := by decide +kernel
theorem dX7_takesIn_97 : decode cX7_takesIn 97 = .ok (.putfield 37, 3) := by decide +kernel
theorem dX7_takesIn_100 : decode cX7_takesIn 100 = .ok (.iconst 1, 1) := by decide +kernel
theorem dX7_takesIn_101 : decode cX7_takesIn 101 = .ok (.ireturn, 1) := by decide +kernel
theorem dX7_wearsOwn_0 : decode cX7_wearsOwn 0 = .ok (.aload_n 0, 1) := by decide +kernel
theorem dX7_wearsOwn_1 : decode cX7_wearsOwn 1 = .ok (.getfield 25, 3) := by decide +kernel
theorem dX7_wearsOwn_4 : decode cX7_wearsOwn 4 = .ok (.iload_n 1, 1) := by decide +kernel
theorem dX7_wearsOwn_5 : decode cX7_wearsOwn 5 = .ok (.iaload, 1) := by decide +kernel
theorem dX7_wearsOwn_6 : decode cX7_wearsOwn 6 = .ok (.iload_n 1, 1) := by decide +kernel
theorem dX7_wearsOwn_7 : decode cX7_wearsOwn 7 = .ok (.if_icmp .ne 7, 3) := by decide +kernel
theorem dX7_wearsOwn_10 : decode cX7_wearsOwn 10 = .ok (.iconst 1, 1) := by decide +kernel
theorem dX7_wearsOwn_11 : decode cX7_wearsOwn 11 = .ok (.goto 4, 3) := by decide +kernel
theorem dX7_wearsOwn_14 : decode cX7_wearsOwn 14 = .ok (.iconst 0, 1) := by decide +kernel
theorem dX7_wearsOwn_15 : decode cX7_wearsOwn 15 = .ok (.ireturn, 1) := by decide +kernel
theorem dX7_isLent_0 : decode cX7_isLent 0 = .ok (.aload_n 0, 1) := by decide +kernel
theorem dX7_isLent_1 : decode cX7_isLent 1 = .ok (.getfield 34, 3) := by decide +kernel
theorem dX7_isLent_4 : decode cX7_isLent 4 = .ok (.iload_n 1, 1) := by decide +kernel
theorem dX7_isLent_5 : decode cX7_isLent 5 = .ok (.iaload, 1) := by decide +kernel
theorem dX7_isLent_6 : decode cX7_isLent 6 = .ok (.ifCond .le 7, 3) := by decide +kernel
theorem dX7_isLent_9 : decode cX7_isLent 9 = .ok (.iconst 1, 1) := by decide +kernel
theorem dX7_isLent_10 : decode cX7_isLent 10 = .ok (.goto 4, 3) := by decide +kernel
theorem dX7_isLent_13 : decode cX7_isLent 13 = .ok (.iconst 0, 1) := by decide +kernel
theorem dX7_isLent_14 : decode cX7_isLent 14 = .ok (.ireturn, 1) := by decide +kernel
theorem dX7_canLend_0 : decode cX7_canLend 0 = .ok (.iload_n 1, 1) := by decide +kernel
theorem dX7_canLend_1 : decode cX7_canLend 1 = .ok (.iload_n 2, 1) := by decide +kernel
theorem dX7_canLend_2 : decode cX7_canLend 2 = .ok (.if_icmp .eq 23, 3) := by decide +kernel
theorem dX7_canLend_5 : decode cX7_canLend 5 = .ok (.aload_n 0, 1) := by decide +kernel
theorem dX7_canLend_6 : decode cX7_canLend 6 = .ok (.iload_n 1, 1) := by decide +kernel
theorem dX7_canLend_7 : decode cX7_canLend 7 = .ok (.invokevirtual 44, 3) := by decide +kernel
theorem dX7_canLend_10 : decode cX7_canLend 10 = .ok (.ifCond .eq 15, 3) := by decide +kernel
theorem dX7_canLend_13 : decode cX7_canLend 13 = .ok (.aload_n 0, 1) := by decide +kernel
theorem dX7_canLend_14 : decode cX7_canLend 14 = .ok (.iload_n 2, 1) := by decide +kernel
theorem dX7_canLend_15 : decode cX7_canLend 15 = .ok (.invokevirtual 44, 3) := by decide +kernel
theorem dX7_canLend_18 : decode cX7_canLend 18 = .ok (.ifCond .eq 7, 3) := by decide +kernel
theorem dX7_canLend_21 : decode cX7_canLend 21 = .ok (.iconst 1, 1) := by decide +kernel
theorem dX7_canLend_22 : decode cX7_canLend 22 = .ok (.goto 4, 3) := by decide +kernel
theorem dX7_canLend_25 : decode cX7_canLend 25 = .ok (.iconst 0, 1) := by decide +kernel
theorem dX7_canLend_26 : decode cX7_canLend 26 = .ok (.ireturn, 1) := by decide +kernel
theorem dX7_handOver_0 : decode cX7_handOver 0 = .ok (.aload_n 0, 1) := by decide +kernel
theorem dX7_handOver_1 : decode cX7_handOver 1 = .ok (.getfield 25, 3) := by decide +kernel
theorem dX7_handOver_4 : decode cX7_handOver 4 = .ok (.iload_n 1, 1) := by decide +kernel
theorem dX7_handOver_5 : decode cX7_handOver 5 = .ok (.bipush 9, 2) := by decide +kernel
theorem dX7_handOver_7 : decode cX7_handOver 7 = .ok (.iastore, 1) := by decide +kernel
theorem dX7_handOver_8 : decode cX7_handOver 8 = .ok (.aload_n 0, 1) := by decide +kernel
theorem dX7_handOver_9 : decode cX7_handOver 9 = .ok (.getfield 25, 3) := by decide +kernel
theorem dX7_handOver_12 : decode cX7_handOver 12 = .ok (.iload_n 2, 1) := by decide +kernel
theorem dX7_handOver_13 : decode cX7_handOver 13 = .ok (.iload_n 1, 1) := by decide +kernel
theorem dX7_handOver_14 : decode cX7_handOver 14 = .ok (.iastore, 1) := by decide +kernel
theorem dX7_handOver_15 : decode cX7_handOver 15 = .ok (.aload_n 0, 1) := by decide +kernel
theorem dX7_handOver_16 : decode cX7_handOver 16 = .ok (.getfield 34, 3) := by decide +kernel
theorem dX7_handOver_19 : decode cX7_handOver 19 = .ok (.iload_n 1, 1) := by decide +kernel
theorem dX7_handOver_20 : decode cX7_handOver 20 = .ok (.iconst 1, 1) := by decide +kernel
theorem dX7_handOver_21 : decode cX7_handOver 21 = .ok (.iastore, 1) := by decide +kernel
theorem dX7_handOver_22 : decode cX7_handOver 22 = .ok (.return_, 1) := by decide +kernel
theorem dX7_bringBack_0 : decode cX7_bringBack 0 = .ok (.aload_n 0, 1) := by decide +kernel
theorem dX7_bringBack_1 : decode cX7_bringBack 1 = .ok (.iload_n 1, 1) := by decide +kernel
theorem dX7_bringBack_2 : decode cX7_bringBack 2 = .ok (.invokevirtual 48, 3) := by decide +kernel
theorem dX7_bringBack_5 : decode cX7_bringBack 5 = .ok (.istore_n 2, 1) := by decide +kernel
theorem dX7_bringBack_6 : decode cX7_bringBack 6 = .ok (.iload_n 2, 1) := by decide +kernel
theorem dX7_bringBack_7 : decode cX7_bringBack 7 = .ok (.bipush (-9), 2) := by decide +kernel
theorem dX7_bringBack_9 : decode cX7_bringBack 9 = .ok (.if_icmp .eq 10, 3) := by decide +kernel
theorem dX7_bringBack_12 : decode cX7_bringBack 12 = .ok (.aload_n 0, 1) := by decide +kernel
theorem dX7_bringBack_13 : decode cX7_bringBack 13 = .ok (.getfield 25, 3) := by decide +kernel
theorem dX7_bringBack_16 : decode cX7_bringBack 16 = .ok (.iload_n 2, 1) := by decide +kernel
theorem dX7_bringBack_17 : decode cX7_bringBack 17 = .ok (.iload_n 2, 1) := by decide +kernel
theorem dX7_bringBack_18 : decode cX7_bringBack 18 = .ok (.iastore, 1) := by decide +kernel
theorem dX7_bringBack_19 : decode cX7_bringBack 19 = .ok (.aload_n 0, 1) := by decide +kernel
theorem dX7_bringBack_20 : decode cX7_bringBack 20 = .ok (.getfield 25, 3) := by decide +kernel
theorem dX7_bringBack_23 : decode cX7_bringBack 23 = .ok (.iload_n 1, 1) := by decide +kernel
theorem dX7_bringBack_24 : decode cX7_bringBack 24 = .ok (.iload_n 1, 1) := by decide +kernel
theorem dX7_bringBack_25 : decode cX7_bringBack 25 = .ok (.iastore, 1) := by decide +kernel
theorem dX7_bringBack_26 : decode cX7_bringBack 26 = .ok (.aload_n 0, 1) := by decide +kernel
theorem dX7_bringBack_27 : decode cX7_bringBack 27 = .ok (.getfield 34, 3) := by decide +kernel
theorem dX7_bringBack_30 : decode cX7_bringBack 30 = .ok (.iload_n 1, 1) := by decide +kernel
theorem dX7_bringBack_31 : decode cX7_bringBack 31 = .ok (.iconst 0, 1) := by decide +kernel
theorem dX7_bringBack_32 : decode cX7_bringBack 32 = .ok (.iastore, 1) := by decide +kernel
theorem dX7_bringBack_33 : decode cX7_bringBack 33 = .ok (.iload_n 2, 1) := by decide +kernel
theorem dX7_bringBack_34 : decode cX7_bringBack 34 = .ok (.ireturn, 1) := by decide +kernel
theorem dX7_wearerOf_0 : decode cX7_wearerOf 0 = .ok (.iconst 0, 1) := by decide +kernel
theorem dX7_wearerOf_1 : decode cX7_wearerOf 1 = .ok (.istore_n 2, 1) := by decide +kernel
theorem dX7_wearerOf_2 : decode cX7_wearerOf 2 = .ok (.iload_n 2, 1) := by decide +kernel
theorem dX7_wearerOf_3 : decode cX7_wearerOf 3 = .ok (.aload_n 0, 1) := by decide +kernel
theorem dX7_wearerOf_4 : decode cX7_wearerOf 4 = .ok (.getfield 37, 3) := by decide +kernel
theorem dX7_wearerOf_7 : decode cX7_wearerOf 7 = .ok (.if_icmp .ge 21, 3) := by decide +kernel
theorem dX7_wearerOf_10 : decode cX7_wearerOf 10 = .ok (.aload_n 0, 1) := by decide +kernel
theorem dX7_wearerOf_11 : decode cX7_wearerOf 11 = .ok (.getfield 25, 3) := by decide +kernel
theorem dX7_wearerOf_14 : decode cX7_wearerOf 14 = .ok (.iload_n 2, 1) := by decide +kernel
theorem dX7_wearerOf_15 : decode cX7_wearerOf 15 = .ok (.iaload, 1) := by decide +kernel
theorem dX7_wearerOf_16 : decode cX7_wearerOf 16 = .ok (.iload_n 1, 1) := by decide +kernel
theorem dX7_wearerOf_17 : decode cX7_wearerOf 17 = .ok (.if_icmp .ne 5, 3) := by decide +kernel
theorem dX7_wearerOf_20 : decode cX7_wearerOf 20 = .ok (.iload_n 2, 1) := by decide +kernel
theorem dX7_wearerOf_21 : decode cX7_wearerOf 21 = .ok (.ireturn, 1) := by decide +kernel
theorem dX7_wearerOf_22 : decode cX7_wearerOf 22 = .ok (.iinc 2 1, 3) := by decide +kernel
theorem dX7_wearerOf_25 : decode cX7_wearerOf 25 = .ok (.goto (-23), 3) := by decide +kernel
theorem dX7_wearerOf_28 : decode cX7_wearerOf 28 = .ok (.bipush (-9), 2) := by decide +kernel
theorem dX7_wearerOf_30 : decode cX7_wearerOf 30 = .ok (.ireturn, 1) := by decide +kernel
theorem dX7_ofFace_0 : decode cX7_ofFace 0 = .ok (.iload_n 2, 1) := by decide +kernel
theorem dX7_ofFace_1 : decode cX7_ofFace 1 = .ok (.tableswitch 48 0 2 #[27, 34, 41], 27) := by decide +kernel
theorem dX7_ofFace_28 : decode cX7_ofFace 28 = .ok (.aload_n 0, 1) := by decide +kernel
theorem dX7_ofFace_29 : decode cX7_ofFace 29 = .ok (.getfield 28, 3) := by decide +kernel
theorem dX7_ofFace_32 : decode cX7_ofFace 32 = .ok (.iload_n 1, 1) := by decide +kernel
theorem dX7_ofFace_33 : decode cX7_ofFace 33 = .ok (.iaload, 1) := by decide +kernel
theorem dX7_ofFace_34 : decode cX7_ofFace 34 = .ok (.ireturn, 1) := by decide +kernel
theorem dX7_ofFace_35 : decode cX7_ofFace 35 = .ok (.aload_n 0, 1) := by decide +kernel
theorem dX7_ofFace_36 : decode cX7_ofFace 36 = .ok (.getfield 31, 3) := by decide +kernel
theorem dX7_ofFace_39 : decode cX7_ofFace 39 = .ok (.iload_n 1, 1) := by decide +kernel
theorem dX7_ofFace_40 : decode cX7_ofFace 40 = .ok (.iaload, 1) := by decide +kernel
theorem dX7_ofFace_41 : decode cX7_ofFace 41 = .ok (.ireturn, 1) := by decide +kernel
theorem dX7_ofFace_42 : decode cX7_ofFace 42 = .ok (.aload_n 0, 1) := by decide +kernel
theorem dX7_ofFace_43 : decode cX7_ofFace 43 = .ok (.getfield 34, 3) := by decide +kernel
theorem dX7_ofFace_46 : decode cX7_ofFace 46 = .ok (.iload_n 1, 1) := by decide +kernel
theorem dX7_ofFace_47 : decode cX7_ofFace 47 = .ok (.iaload, 1) := by decide +kernel
theorem dX7_ofFace_48 : decode cX7_ofFace 48 = .ok (.ireturn, 1) := by decide +kernel
theorem dX7_ofFace_49 : decode cX7_ofFace 49 = .ok (.aload_n 0, 1) := by decide +kernel
theorem dX7_ofFace_50 : decode cX7_ofFace 50 = .ok (.iload_n 1, 1) := by decide +kernel
theorem dX7_ofFace_51 : decode cX7_ofFace 51 = .ok (.invokevirtual 48, 3) := by decide +kernel
theorem dX7_ofFace_54 : decode cX7_ofFace 54 = .ok (.ireturn, 1) := by decide +kernel
theorem dX7_turnKnowing_0 : decode cX7_turnKnowing 0 = .ok (.aload_n 0, 1) := by decide +kernel
theorem dX7_turnKnowing_1 : decode cX7_turnKnowing 1 = .ok (.getfield 22, 3) := by decide +kernel
theorem dX7_turnKnowing_4 : decode cX7_turnKnowing 4 = .ok (.iload_n 1, 1) := by decide +kernel
theorem dX7_turnKnowing_5 : decode cX7_turnKnowing 5 = .ok (.dup2, 1) := by decide +kernel
theorem dX7_turnKnowing_6 : decode cX7_turnKnowing 6 = .ok (.iaload, 1) := by decide +kernel
theorem dX7_turnKnowing_7 : decode cX7_turnKnowing 7 = .ok (.iconst 1, 1) := by decide +kernel
theorem dX7_turnKnowing_8 : decode cX7_turnKnowing 8 = .ok (.iload_n 2, 1) := by decide +kernel
theorem dX7_turnKnowing_9 : decode cX7_turnKnowing 9 = .ok (.ishl, 1) := by decide +kernel
theorem dX7_turnKnowing_10 : decode cX7_turnKnowing 10 = .ok (.ixor, 1) := by decide +kernel
theorem dX7_turnKnowing_11 : decode cX7_turnKnowing 11 = .ok (.iastore, 1) := by decide +kernel
theorem dX7_turnKnowing_12 : decode cX7_turnKnowing 12 = .ok (.return_, 1) := by decide +kernel
theorem dX7_knowsFace_0 : decode cX7_knowsFace 0 = .ok (.aload_n 0, 1) := by decide +kernel
theorem dX7_knowsFace_1 : decode cX7_knowsFace 1 = .ok (.getfield 22, 3) := by decide +kernel
theorem dX7_knowsFace_4 : decode cX7_knowsFace 4 = .ok (.iload_n 1, 1) := by decide +kernel
theorem dX7_knowsFace_5 : decode cX7_knowsFace 5 = .ok (.iaload, 1) := by decide +kernel
theorem dX7_knowsFace_6 : decode cX7_knowsFace 6 = .ok (.iload_n 2, 1) := by decide +kernel
theorem dX7_knowsFace_7 : decode cX7_knowsFace 7 = .ok (.ishr, 1) := by decide +kernel
theorem dX7_knowsFace_8 : decode cX7_knowsFace 8 = .ok (.iconst 1, 1) := by decide +kernel
theorem dX7_knowsFace_9 : decode cX7_knowsFace 9 = .ok (.iand, 1) := by decide +kernel
theorem dX7_knowsFace_10 : decode cX7_knowsFace 10 = .ok (.iconst 1, 1) := by decide +kernel
theorem dX7_knowsFace_11 : decode cX7_knowsFace 11 = .ok (.if_icmp .ne 7, 3) := by decide +kernel
theorem dX7_knowsFace_14 : decode cX7_knowsFace 14 = .ok (.iconst 1, 1) := by decide +kernel
theorem dX7_knowsFace_15 : decode cX7_knowsFace 15 = .ok (.goto 4, 3) := by decide +kernel
theorem dX7_knowsFace_18 : decode cX7_knowsFace 18 = .ok (.iconst 0, 1) := by decide +kernel
theorem dX7_knowsFace_19 : decode cX7_knowsFace 19 = .ok (.ireturn, 1) := by decide +kernel
theorem dX7_takenFor_0 : decode cX7_takenFor 0 = .ok (.aload_n 0, 1) := by decide +kernel
theorem dX7_takenFor_1 : decode cX7_takenFor 1 = .ok (.getfield 25, 3) := by decide +kernel
theorem dX7_takenFor_4 : decode cX7_takenFor 4 = .ok (.iload_n 2, 1) := by decide +kernel
theorem dX7_takenFor_5 : decode cX7_takenFor 5 = .ok (.iaload, 1) := by decide +kernel
theorem dX7_takenFor_6 : decode cX7_takenFor 6 = .ok (.istore_n 3, 1) := by decide +kernel
theorem dX7_takenFor_7 : decode cX7_takenFor 7 = .ok (.iload_n 3, 1) := by decide +kernel
theorem dX7_takenFor_8 : decode cX7_takenFor 8 = .ok (.bipush 9, 2) := by decide +kernel
theorem dX7_takenFor_10 : decode cX7_takenFor 10 = .ok (.if_icmp .eq 16, 3) := by decide +kernel
theorem dX7_takenFor_13 : decode cX7_takenFor 13 = .ok (.aload_n 0, 1) := by decide +kernel
theorem dX7_takenFor_14 : decode cX7_takenFor 14 = .ok (.iload_n 1, 1) := by decide +kernel
theorem dX7_takenFor_15 : decode cX7_takenFor 15 = .ok (.iload_n 3, 1) := by decide +kernel
theorem dX7_takenFor_16 : decode cX7_takenFor 16 = .ok (.invokevirtual 52, 3) := by decide +kernel
theorem dX7_takenFor_19 : decode cX7_takenFor 19 = .ok (.ifCond .eq 7, 3) := by decide +kernel
theorem dX7_takenFor_22 : decode cX7_takenFor 22 = .ok (.iload_n 3, 1) := by decide +kernel
theorem dX7_takenFor_23 : decode cX7_takenFor 23 = .ok (.goto 5, 3) := by decide +kernel
theorem dX7_takenFor_26 : decode cX7_takenFor 26 = .ok (.bipush 9, 2) := by decide +kernel
theorem dX7_takenFor_28 : decode cX7_takenFor 28 = .ok (.ireturn, 1) := by decide +kernel
theorem dX7_knowersOf_0 : decode cX7_knowersOf 0 = .ok (.iconst 0, 1) := by decide +kernel
theorem dX7_knowersOf_1 : decode cX7_knowersOf 1 = .ok (.istore_n 2, 1) := by decide +kernel
theorem dX7_knowersOf_2 : decode cX7_knowersOf 2 = .ok (.iconst 0, 1) := by decide +kernel
theorem dX7_knowersOf_3 : decode cX7_knowersOf 3 = .ok (.istore_n 3, 1) := by decide +kernel
theorem dX7_knowersOf_4 : decode cX7_knowersOf 4 = .ok (.iload_n 3, 1) := by decide +kernel
theorem dX7_knowersOf_5 : decode cX7_knowersOf 5 = .ok (.aload_n 0, 1) := by decide +kernel
theorem dX7_knowersOf_6 : decode cX7_knowersOf 6 = .ok (.getfield 37, 3) := by decide +kernel
theorem dX7_knowersOf_9 : decode cX7_knowersOf 9 = .ok (.if_icmp .ge 22, 3) := by decide +kernel
theorem dX7_knowersOf_12 : decode cX7_knowersOf 12 = .ok (.iload_n 2, 1) := by decide +kernel
theorem dX7_knowersOf_13 : decode cX7_knowersOf 13 = .ok (.aload_n 0, 1) := by decide +kernel
theorem dX7_knowersOf_14 : decode cX7_knowersOf 14 = .ok (.getfield 22, 3) := by decide +kernel
theorem dX7_knowersOf_17 : decode cX7_knowersOf 17 = .ok (.iload_n 3, 1) := by decide +kernel
theorem dX7_knowersOf_18 : decode cX7_knowersOf 18 = .ok (.iaload, 1) := by decide +kernel
theorem dX7_knowersOf_19 : decode cX7_knowersOf 19 = .ok (.iload_n 1, 1) := by decide +kernel
theorem dX7_knowersOf_20 : decode cX7_knowersOf 20 = .ok (.ishr, 1) := by decide +kernel
theorem dX7_knowersOf_21 : decode cX7_knowersOf 21 = .ok (.iconst 1, 1) := by decide +kernel
theorem dX7_knowersOf_22 : decode cX7_knowersOf 22 = .ok (.iand, 1) := by decide +kernel
theorem dX7_knowersOf_23 : decode cX7_knowersOf 23 = .ok (.iadd, 1) := by decide +kernel
theorem dX7_knowersOf_24 : decode cX7_knowersOf 24 = .ok (.istore_n 2, 1) := by decide +kernel
theorem dX7_knowersOf_25 : decode cX7_knowersOf 25 = .ok (.iinc 3 1, 3) := by decide +kernel
theorem dX7_knowersOf_28 : decode cX7_knowersOf 28 = .ok (.goto (-24), 3) := by decide +kernel
theorem dX7_knowersOf_31 : decode cX7_knowersOf 31 = .ok (.iload_n 2, 1) := by decide +kernel
theorem dX7_knowersOf_32 : decode cX7_knowersOf 32 = .ok (.ireturn, 1) := by decide +kernel
theorem dX7_isKind_0 : decode cX7_isKind 0 = .ok (.iload_n 1, 1) := by decide +kernel
theorem dX7_isKind_1 : decode cX7_isKind 1 = .ok (.ifCond .lt 16, 3) := by decide +kernel
theorem dX7_isKind_4 : decode cX7_isKind 4 = .ok (.iload_n 1, 1) := by decide +kernel
theorem dX7_isKind_5 : decode cX7_isKind 5 = .ok (.aload_n 0, 1) := by decide +kernel
theorem dX7_isKind_6 : decode cX7_isKind 6 = .ok (.getfield 9, 3) := by decide +kernel
theorem dX7_isKind_9 : decode cX7_isKind 9 = .ok (.arraylength, 1) := by decide +kernel
theorem dX7_isKind_10 : decode cX7_isKind 10 = .ok (.if_icmp .ge 7, 3) := by decide +kernel
theorem dX7_isKind_13 : decode cX7_isKind 13 = .ok (.iconst 1, 1) := by decide +kernel
theorem dX7_isKind_14 : decode cX7_isKind 14 = .ok (.goto 4, 3) := by decide +kernel
theorem dX7_isKind_17 : decode cX7_isKind 17 = .ok (.iconst 0, 1) := by decide +kernel
theorem dX7_isKind_18 : decode cX7_isKind 18 = .ok (.ireturn, 1) := by decide +kernel
theorem dX7_changeOfFame_0 : decode cX7_changeOfFame 0 = .ok (.aload_n 0, 1) := by decide +kernel
theorem dX7_changeOfFame_1 : decode cX7_changeOfFame 1 = .ok (.getfield 15, 3) := by decide +kernel
theorem dX7_changeOfFame_4 : decode cX7_changeOfFame 4 = .ok (.iload_n 1, 1) := by decide +kernel
theorem dX7_changeOfFame_5 : decode cX7_changeOfFame 5 = .ok (.iaload, 1) := by decide +kernel
theorem dX7_changeOfFame_6 : decode cX7_changeOfFame 6 = .ok (.istore_n 3, 1) := by decide +kernel
theorem dX7_changeOfFame_7 : decode cX7_changeOfFame 7 = .ok (.aload_n 0, 1) := by decide +kernel
theorem dX7_changeOfFame_8 : decode cX7_changeOfFame 8 = .ok (.iload_n 3, 1) := by decide +kernel
theorem dX7_changeOfFame_9 : decode cX7_changeOfFame 9 = .ok (.invokevirtual 56, 3) := by decide +kernel
theorem dX7_changeOfFame_12 : decode cX7_changeOfFame 12 = .ok (.ifCond .eq 26, 3) := by decide +kernel
theorem dX7_changeOfFame_15 : decode cX7_changeOfFame 15 = .ok (.aload_n 0, 1) := by decide +kernel
theorem dX7_changeOfFame_16 : decode cX7_changeOfFame 16 = .ok (.getfield 9, 3) := by decide +kernel
theorem dX7_changeOfFame_19 : decode cX7_changeOfFame 19 = .ok (.iload_n 3, 1) := by decide +kernel
theorem dX7_changeOfFame_20 : decode cX7_changeOfFame 20 = .ok (.aaload, 1) := by decide +kernel
theorem dX7_changeOfFame_21 : decode cX7_changeOfFame 21 = .ok (.aload_n 0, 1) := by decide +kernel
theorem dX7_changeOfFame_22 : decode cX7_changeOfFame 22 = .ok (.getfield 19, 3) := by decide +kernel
theorem dX7_changeOfFame_25 : decode cX7_changeOfFame 25 = .ok (.iload_n 1, 1) := by decide +kernel
theorem dX7_changeOfFame_26 : decode cX7_changeOfFame 26 = .ok (.iaload, 1) := by decide +kernel
theorem dX7_changeOfFame_27 : decode cX7_changeOfFame 27 = .ok (.aload_n 0, 1) := by decide +kernel
theorem dX7_changeOfFame_28 : decode cX7_changeOfFame 28 = .ok (.iload_n 2, 1) := by decide +kernel
theorem dX7_changeOfFame_29 : decode cX7_changeOfFame 29 = .ok (.invokevirtual 59, 3) := by decide +kernel
theorem dX7_changeOfFame_32 : decode cX7_changeOfFame 32 = .ok (.invokevirtual 62, 3) := by decide +kernel
theorem dX7_changeOfFame_35 : decode cX7_changeOfFame 35 = .ok (.goto 4, 3) := by decide +kernel
theorem dX7_changeOfFame_38 : decode cX7_changeOfFame 38 = .ok (.iconst 0, 1) := by decide +kernel
theorem dX7_changeOfFame_39 : decode cX7_changeOfFame 39 = .ok (.ireturn, 1) := by decide +kernel
theorem dX7_goOn_0 : decode cX7_goOn 0 = .ok (.iconst 0, 1) := by decide +kernel
theorem dX7_goOn_1 : decode cX7_goOn 1 = .ok (.istore_n 2, 1) := by decide +kernel
theorem dX7_goOn_2 : decode cX7_goOn 2 = .ok (.iload_n 2, 1) := by decide +kernel
theorem dX7_goOn_3 : decode cX7_goOn 3 = .ok (.iload_n 1, 1) := by decide +kernel
theorem dX7_goOn_4 : decode cX7_goOn 4 = .ok (.if_icmp .ge 61, 3) := by decide +kernel
theorem dX7_goOn_7 : decode cX7_goOn 7 = .ok (.aload_n 0, 1) := by decide +kernel
theorem dX7_goOn_8 : decode cX7_goOn 8 = .ok (.dup, 1) := by decide +kernel
theorem dX7_goOn_9 : decode cX7_goOn 9 = .ok (.getfield 41, 3) := by decide +kernel
theorem dX7_goOn_12 : decode cX7_goOn 12 = .ok (.iconst 1, 1) := by decide +kernel
theorem dX7_goOn_13 : decode cX7_goOn 13 = .ok (.iadd, 1) := by decide +kernel
theorem dX7_goOn_14 : decode cX7_goOn 14 = .ok (.putfield 41, 3) := by decide +kernel
theorem dX7_goOn_17 : decode cX7_goOn 17 = .ok (.iconst 0, 1) := by decide +kernel
theorem dX7_goOn_18 : decode cX7_goOn 18 = .ok (.istore_n 3, 1) := by decide +kernel
theorem dX7_goOn_19 : decode cX7_goOn 19 = .ok (.iload_n 3, 1) := by decide +kernel
theorem dX7_goOn_20 : decode cX7_goOn 20 = .ok (.aload_n 0, 1) := by decide +kernel
theorem dX7_goOn_21 : decode cX7_goOn 21 = .ok (.getfield 37, 3) := by decide +kernel
theorem dX7_goOn_24 : decode cX7_goOn 24 = .ok (.if_icmp .ge 14, 3) := by decide +kernel
theorem dX7_goOn_27 : decode cX7_goOn 27 = .ok (.aload_n 0, 1) := by decide +kernel
theorem dX7_goOn_28 : decode cX7_goOn 28 = .ok (.iload_n 3, 1) := by decide +kernel
theorem dX7_goOn_29 : decode cX7_goOn 29 = .ok (.invokevirtual 68, 3) := by decide +kernel
theorem dX7_goOn_32 : decode cX7_goOn 32 = .ok (.iinc 3 1, 3) := by decide +kernel
theorem dX7_goOn_35 : decode cX7_goOn 35 = .ok (.goto (-16), 3) := by decide +kernel
theorem dX7_goOn_38 : decode cX7_goOn 38 = .ok (.iconst 0, 1) := by decide +kernel
theorem dX7_goOn_39 : decode cX7_goOn 39 = .ok (.istore_n 3, 1) := by decide +kernel
theorem dX7_goOn_40 : decode cX7_goOn 40 = .ok (.iload_n 3, 1) := by decide +kernel
theorem dX7_goOn_41 : decode cX7_goOn 41 = .ok (.aload_n 0, 1) := by decide +kernel
theorem dX7_goOn_42 : decode cX7_goOn 42 = .ok (.getfield 37, 3) := by decide +kernel
theorem dX7_goOn_45 : decode cX7_goOn 45 = .ok (.if_icmp .ge 14, 3) := by decide +kernel
theorem dX7_goOn_48 : decode cX7_goOn 48 = .ok (.aload_n 0, 1) := by decide +kernel
theorem dX7_goOn_49 : decode cX7_goOn 49 = .ok (.iload_n 3, 1) := by decide +kernel
theorem dX7_goOn_50 : decode cX7_goOn 50 = .ok (.invokevirtual 72, 3) := by decide +kernel
theorem dX7_goOn_53 : decode cX7_goOn 53 = .ok (.iinc 3 1, 3) := by decide +kernel
theorem dX7_goOn_56 : decode cX7_goOn 56 = .ok (.goto (-16), 3) := by decide +kernel
theorem dX7_goOn_59 : decode cX7_goOn 59 = .ok (.iinc 2 1, 3) := by decide +kernel
theorem dX7_goOn_62 : decode cX7_goOn 62 = .ok (.goto (-60), 3) := by decide +kernel
theorem dX7_goOn_65 : decode cX7_goOn 65 = .ok (.return_, 1) := by decide +kernel
theorem dX7_wearForAMonth_0 : decode cX7_wearForAMonth 0 = .ok (.aload_n 0, 1) := by decide +kernel
theorem dX7_wearForAMonth_1 : decode cX7_wearForAMonth 1 = .ok (.getfield 25, 3) := by decide +kernel
theorem dX7_wearForAMonth_4 : decode cX7_wearForAMonth 4 = .ok (.iload_n 1, 1) := by decide +kernel
theorem dX7_wearForAMonth_5 : decode cX7_wearForAMonth 5 = .ok (.iaload, 1) := by decide +kernel
theorem dX7_wearForAMonth_6 : decode cX7_wearForAMonth 6 = .ok (.istore_n 2, 1) := by decide +kernel
theorem dX7_wearForAMonth_7 : decode cX7_wearForAMonth 7 = .ok (.aload_n 0, 1) := by decide +kernel
theorem dX7_wearForAMonth_8 : decode cX7_wearForAMonth 8 = .ok (.getfield 15, 3) := by decide +kernel
theorem dX7_wearForAMonth_11 : decode cX7_wearForAMonth 11 = .ok (.iload_n 1, 1) := by decide +kernel
theorem dX7_wearForAMonth_12 : decode cX7_wearForAMonth 12 = .ok (.iaload, 1) := by decide +kernel
theorem dX7_wearForAMonth_13 : decode cX7_wearForAMonth 13 = .ok (.istore_n 3, 1) := by decide +kernel
theorem dX7_wearForAMonth_14 : decode cX7_wearForAMonth 14 = .ok (.aload_n 0, 1) := by decide +kernel
theorem dX7_wearForAMonth_15 : decode cX7_wearForAMonth 15 = .ok (.iload_n 2, 1) := by decide +kernel
theorem dX7_wearForAMonth_16 : decode cX7_wearForAMonth 16 = .ok (.invokevirtual 75, 3) := by decide +kernel
theorem dX7_wearForAMonth_19 : decode cX7_wearForAMonth 19 = .ok (.ifCond .eq 78, 3) := by decide +kernel
theorem dX7_wearForAMonth_22 : decode cX7_wearForAMonth 22 = .ok (.aload_n 0, 1) := by decide +kernel
theorem dX7_wearForAMonth_23 : decode cX7_wearForAMonth 23 = .ok (.iload_n 3, 1) := by decide +kernel
theorem dX7_wearForAMonth_24 : decode cX7_wearForAMonth 24 = .ok (.invokevirtual 56, 3) := by decide +kernel
theorem dX7_wearForAMonth_27 : decode cX7_wearForAMonth 27 = .ok (.ifCond .eq 70, 3) := by decide +kernel
theorem dX7_wearForAMonth_30 : decode cX7_wearForAMonth 30 = .ok (.aload_n 0, 1) := by decide +kernel
theorem dX7_wearForAMonth_31 : decode cX7_wearForAMonth 31 = .ok (.getfield 9, 3) := by decide +kernel
theorem dX7_wearForAMonth_34 : decode cX7_wearForAMonth 34 = .ok (.iload_n 3, 1) := by decide +kernel
theorem dX7_wearForAMonth_35 : decode cX7_wearForAMonth 35 = .ok (.aaload, 1) := by decide +kernel
theorem dX7_wearForAMonth_36 : decode cX7_wearForAMonth 36 = .ok (.astore 4, 2) := by decide +kernel
theorem dX7_wearForAMonth_38 : decode cX7_wearForAMonth 38 = .ok (.aload_n 0, 1) := by decide +kernel
theorem dX7_wearForAMonth_39 : decode cX7_wearForAMonth 39 = .ok (.getfield 28, 3) := by decide +kernel
theorem dX7_wearForAMonth_42 : decode cX7_wearForAMonth 42 = .ok (.iload_n 2, 1) := by decide +kernel
theorem dX7_wearForAMonth_43 : decode cX7_wearForAMonth 43 = .ok (.aload_n 0, 1) := by decide +kernel
theorem dX7_wearForAMonth_44 : decode cX7_wearForAMonth 44 = .ok (.getfield 28, 3) := by decide +kernel
theorem dX7_wearForAMonth_47 : decode cX7_wearForAMonth 47 = .ok (.iload_n 2, 1) := by decide +kernel
theorem dX7_wearForAMonth_48 : decode cX7_wearForAMonth 48 = .ok (.iaload, 1) := by decide +kernel
theorem dX7_wearForAMonth_49 : decode cX7_wearForAMonth 49 = .ok (.aload 4, 2) := by decide +kernel
theorem dX7_wearForAMonth_51 : decode cX7_wearForAMonth 51 = .ok (.aload_n 0, 1) := by decide +kernel
theorem dX7_wearForAMonth_52 : decode cX7_wearForAMonth 52 = .ok (.getfield 19, 3) := by decide +kernel
theorem dX7_wearForAMonth_55 : decode cX7_wearForAMonth 55 = .ok (.iload_n 1, 1) := by decide +kernel
theorem dX7_wearForAMonth_56 : decode cX7_wearForAMonth 56 = .ok (.iaload, 1) := by decide +kernel
theorem dX7_wearForAMonth_57 : decode cX7_wearForAMonth 57 = .ok (.aload_n 0, 1) := by decide +kernel
theorem dX7_wearForAMonth_58 : decode cX7_wearForAMonth 58 = .ok (.iload_n 2, 1) := by decide +kernel
theorem dX7_wearForAMonth_59 : decode cX7_wearForAMonth 59 = .ok (.invokevirtual 59, 3) := by decide +kernel
theorem dX7_wearForAMonth_62 : decode cX7_wearForAMonth 62 = .ok (.invokevirtual 62, 3) := by decide +kernel
theorem dX7_wearForAMonth_65 : decode cX7_wearForAMonth 65 = .ok (.iadd, 1) := by decide +kernel
theorem dX7_wearForAMonth_66 : decode cX7_wearForAMonth 66 = .ok (.invokestatic 78, 3) := by decide +kernel
theorem dX7_wearForAMonth_69 : decode cX7_wearForAMonth 69 = .ok (.iastore, 1) := by decide +kernel
theorem dX7_wearForAMonth_70 : decode cX7_wearForAMonth 70 = .ok (.aload_n 0, 1) := by decide +kernel
theorem dX7_wearForAMonth_71 : decode cX7_wearForAMonth 71 = .ok (.getfield 31, 3) := by decide +kernel
theorem dX7_wearForAMonth_74 : decode cX7_wearForAMonth 74 = .ok (.iload_n 2, 1) := by decide +kernel
theorem dX7_wearForAMonth_75 : decode cX7_wearForAMonth 75 = .ok (.aload_n 0, 1) := by decide +kernel
theorem dX7_wearForAMonth_76 : decode cX7_wearForAMonth 76 = .ok (.getfield 31, 3) := by decide +kernel
theorem dX7_wearForAMonth_79 : decode cX7_wearForAMonth 79 = .ok (.iload_n 2, 1) := by decide +kernel
theorem dX7_wearForAMonth_80 : decode cX7_wearForAMonth 80 = .ok (.iaload, 1) := by decide +kernel
theorem dX7_wearForAMonth_81 : decode cX7_wearForAMonth 81 = .ok (.aload 4, 2) := by decide +kernel
theorem dX7_wearForAMonth_83 : decode cX7_wearForAMonth 83 = .ok (.aload_n 0, 1) := by decide +kernel
theorem dX7_wearForAMonth_84 : decode cX7_wearForAMonth 84 = .ok (.getfield 19, 3) := by decide +kernel
theorem dX7_wearForAMonth_87 : decode cX7_wearForAMonth 87 = .ok (.iload_n 1, 1) := by decide +kernel
theorem dX7_wearForAMonth_88 : decode cX7_wearForAMonth 88 = .ok (.iaload, 1) := by decide +kernel
theorem dX7_wearForAMonth_89 : decode cX7_wearForAMonth 89 = .ok (.invokevirtual 81, 3) := by decide +kernel
theorem dX7_wearForAMonth_92 : decode cX7_wearForAMonth 92 = .ok (.iadd, 1) := by decide +kernel
theorem dX7_wearForAMonth_93 : decode cX7_wearForAMonth 93 = .ok (.invokestatic 78, 3) := by decide +kernel
theorem dX7_wearForAMonth_96 : decode cX7_wearForAMonth 96 = .ok (.iastore, 1) := by decide +kernel
theorem dX7_wearForAMonth_97 : decode cX7_wearForAMonth 97 = .ok (.return_, 1) := by decide +kernel
theorem dX7_keepLentForAMonth_0 : decode cX7_keepLentForAMonth 0 = .ok (.aload_n 0, 1) := by decide +kernel
theorem dX7_keepLentForAMonth_1 : decode cX7_keepLentForAMonth 1 = .ok (.getfield 34, 3) := by decide +kernel
theorem dX7_keepLentForAMonth_4 : decode cX7_keepLentForAMonth 4 = .ok (.iload_n 1, 1) := by decide +kernel
theorem dX7_keepLentForAMonth_5 : decode cX7_keepLentForAMonth 5 = .ok (.iaload, 1) := by decide +kernel
theorem dX7_keepLentForAMonth_6 : decode cX7_keepLentForAMonth 6 = .ok (.bipush 12, 2) := by decide +kernel
theorem dX7_keepLentForAMonth_8 : decode cX7_keepLentForAMonth 8 = .ok (.if_icmp .lt 12, 3) := by decide +kernel
theorem dX7_keepLentForAMonth_11 : decode cX7_keepLentForAMonth 11 = .ok (.aload_n 0, 1) := by decide +kernel
theorem dX7_keepLentForAMonth_12 : decode cX7_keepLentForAMonth 12 = .ok (.iload_n 1, 1) := by decide +kernel
theorem dX7_keepLentForAMonth_13 : decode cX7_keepLentForAMonth 13 = .ok (.invokevirtual 84, 3) := by decide +kernel
theorem dX7_keepLentForAMonth_16 : decode cX7_keepLentForAMonth 16 = .ok (.pop, 1) := by decide +kernel
theorem dX7_keepLentForAMonth_17 : decode cX7_keepLentForAMonth 17 = .ok (.goto 21, 3) := by decide +kernel
theorem dX7_keepLentForAMonth_20 : decode cX7_keepLentForAMonth 20 = .ok (.aload_n 0, 1) := by decide +kernel
theorem dX7_keepLentForAMonth_21 : decode cX7_keepLentForAMonth 21 = .ok (.iload_n 1, 1) := by decide +kernel
theorem dX7_keepLentForAMonth_22 : decode cX7_keepLentForAMonth 22 = .ok (.invokevirtual 87, 3) := by decide +kernel
theorem dX7_keepLentForAMonth_25 : decode cX7_keepLentForAMonth 25 = .ok (.ifCond .eq 13, 3) := by decide +kernel
theorem dX7_keepLentForAMonth_28 : decode cX7_keepLentForAMonth 28 = .ok (.aload_n 0, 1) := by decide +kernel
theorem dX7_keepLentForAMonth_29 : decode cX7_keepLentForAMonth 29 = .ok (.getfield 34, 3) := by decide +kernel
theorem dX7_keepLentForAMonth_32 : decode cX7_keepLentForAMonth 32 = .ok (.iload_n 1, 1) := by decide +kernel
theorem dX7_keepLentForAMonth_33 : decode cX7_keepLentForAMonth 33 = .ok (.dup2, 1) := by decide +kernel
theorem dX7_keepLentForAMonth_34 : decode cX7_keepLentForAMonth 34 = .ok (.iaload, 1) := by decide +kernel
theorem dX7_keepLentForAMonth_35 : decode cX7_keepLentForAMonth 35 = .ok (.iconst 1, 1) := by decide +kernel
theorem dX7_keepLentForAMonth_36 : decode cX7_keepLentForAMonth 36 = .ok (.iadd, 1) := by decide +kernel
theorem dX7_keepLentForAMonth_37 : decode cX7_keepLentForAMonth 37 = .ok (.iastore, 1) := by decide +kernel
theorem dX7_keepLentForAMonth_38 : decode cX7_keepLentForAMonth 38 = .ok (.return_, 1) := by decide +kernel
theorem dX7_worthOf_0 : decode cX7_worthOf 0 = .ok (.aload_n 0, 1) := by decide +kernel
theorem dX7_worthOf_1 : decode cX7_worthOf 1 = .ok (.getfield 28, 3) := by decide +kernel
theorem dX7_worthOf_4 : decode cX7_worthOf 4 = .ok (.iload_n 1, 1) := by decide +kernel
theorem dX7_worthOf_5 : decode cX7_worthOf 5 = .ok (.iaload, 1) := by decide +kernel
theorem dX7_worthOf_6 : decode cX7_worthOf 6 = .ok (.aload_n 0, 1) := by decide +kernel
theorem dX7_worthOf_7 : decode cX7_worthOf 7 = .ok (.getfield 31, 3) := by decide +kernel
theorem dX7_worthOf_10 : decode cX7_worthOf 10 = .ok (.iload_n 1, 1) := by decide +kernel
theorem dX7_worthOf_11 : decode cX7_worthOf 11 = .ok (.iaload, 1) := by decide +kernel
theorem dX7_worthOf_12 : decode cX7_worthOf 12 = .ok (.isub, 1) := by decide +kernel
theorem dX7_worthOf_13 : decode cX7_worthOf 13 = .ok (.ireturn, 1) := by decide +kernel
theorem dX7_allFame_0 : decode cX7_allFame 0 = .ok (.aload_n 0, 1) := by decide +kernel
theorem dX7_allFame_1 : decode cX7_allFame 1 = .ok (.aload_n 0, 1) := by decide +kernel
theorem dX7_allFame_2 : decode cX7_allFame 2 = .ok (.getfield 28, 3) := by decide +kernel
theorem dX7_allFame_5 : decode cX7_allFame 5 = .ok (.invokevirtual 90, 3) := by decide +kernel
theorem dX7_allFame_8 : decode cX7_allFame 8 = .ok (.ireturn, 1) := by decide +kernel
theorem dX7_allScars_0 : decode cX7_allScars 0 = .ok (.aload_n 0, 1) := by decide +kernel
theorem dX7_allScars_1 : decode cX7_allScars 1 = .ok (.aload_n 0, 1) := by decide +kernel
theorem dX7_allScars_2 : decode cX7_allScars 2 = .ok (.getfield 31, 3) := by decide +kernel
theorem dX7_allScars_5 : decode cX7_allScars 5 = .ok (.invokevirtual 90, 3) := by decide +kernel
theorem dX7_allScars_8 : decode cX7_allScars 8 = .ok (.ireturn, 1) := by decide +kernel
theorem dX7_allWorths_0 : decode cX7_allWorths 0 = .ok (.aload_n 0, 1) := by decide +kernel
theorem dX7_allWorths_1 : decode cX7_allWorths 1 = .ok (.invokevirtual 94, 3) := by decide +kernel
theorem dX7_allWorths_4 : decode cX7_allWorths 4 = .ok (.aload_n 0, 1) := by decide +kernel
theorem dX7_allWorths_5 : decode cX7_allWorths 5 = .ok (.invokevirtual 98, 3) := by decide +kernel
theorem dX7_allWorths_8 : decode cX7_allWorths 8 = .ok (.isub, 1) := by decide +kernel
theorem dX7_allWorths_9 : decode cX7_allWorths 9 = .ok (.ireturn, 1) := by decide +kernel
theorem dX7_sumOf_0 : decode cX7_sumOf 0 = .ok (.iconst 0, 1) := by decide +kernel
theorem dX7_sumOf_1 : decode cX7_sumOf 1 = .ok (.istore_n 2, 1) := by decide +kernel
theorem dX7_sumOf_2 : decode cX7_sumOf 2 = .ok (.iconst 0, 1) := by decide +kernel
theorem dX7_sumOf_3 : decode cX7_sumOf 3 = .ok (.istore_n 3, 1) := by decide +kernel
theorem dX7_sumOf_4 : decode cX7_sumOf 4 = .ok (.iload_n 3, 1) := by decide +kernel
theorem dX7_sumOf_5 : decode cX7_sumOf 5 = .ok (.aload_n 0, 1) := by decide +kernel
theorem dX7_sumOf_6 : decode cX7_sumOf 6 = .ok (.getfield 37, 3) := by decide +kernel
theorem dX7_sumOf_9 : decode cX7_sumOf 9 = .ok (.if_icmp .ge 15, 3) := by decide +kernel
theorem dX7_sumOf_12 : decode cX7_sumOf 12 = .ok (.iload_n 2, 1) := by decide +kernel
theorem dX7_sumOf_13 : decode cX7_sumOf 13 = .ok (.aload_n 1, 1) := by decide +kernel
theorem dX7_sumOf_14 : decode cX7_sumOf 14 = .ok (.iload_n 3, 1) := by decide +kernel
theorem dX7_sumOf_15 : decode cX7_sumOf 15 = .ok (.iaload, 1) := by decide +kernel
theorem dX7_sumOf_16 : decode cX7_sumOf 16 = .ok (.iadd, 1) := by decide +kernel
theorem dX7_sumOf_17 : decode cX7_sumOf 17 = .ok (.istore_n 2, 1) := by decide +kernel
theorem dX7_sumOf_18 : decode cX7_sumOf 18 = .ok (.iinc 3 1, 3) := by decide +kernel
theorem dX7_sumOf_21 : decode cX7_sumOf 21 = .ok (.goto (-17), 3) := by decide +kernel
theorem dX7_sumOf_24 : decode cX7_sumOf 24 = .ok (.iload_n 2, 1) := by decide +kernel
theorem dX7_sumOf_25 : decode cX7_sumOf 25 = .ok (.ireturn, 1) := by decide +kernel
theorem dX7_lookAlike_0 : decode cX7_lookAlike 0 = .ok (.aload_n 0, 1) := by decide +kernel
theorem dX7_lookAlike_1 : decode cX7_lookAlike 1 = .ok (.getfield 28, 3) := by decide +kernel
theorem dX7_lookAlike_4 : decode cX7_lookAlike 4 = .ok (.iload_n 1, 1) := by decide +kernel
theorem dX7_lookAlike_5 : decode cX7_lookAlike 5 = .ok (.iaload, 1) := by decide +kernel
theorem dX7_lookAlike_6 : decode cX7_lookAlike 6 = .ok (.aload_n 0, 1) := by decide +kernel
theorem dX7_lookAlike_7 : decode cX7_lookAlike 7 = .ok (.getfield 28, 3) := by decide +kernel
theorem dX7_lookAlike_10 : decode cX7_lookAlike 10 = .ok (.iload_n 2, 1) := by decide +kernel
theorem dX7_lookAlike_11 : decode cX7_lookAlike 11 = .ok (.iaload, 1) := by decide +kernel
theorem dX7_lookAlike_12 : decode cX7_lookAlike 12 = .ok (.if_icmp .ne 22, 3) := by decide +kernel
theorem dX7_lookAlike_15 : decode cX7_lookAlike 15 = .ok (.aload_n 0, 1) := by decide +kernel
theorem dX7_lookAlike_16 : decode cX7_lookAlike 16 = .ok (.getfield 31, 3) := by decide +kernel
theorem dX7_lookAlike_19 : decode cX7_lookAlike 19 = .ok (.iload_n 1, 1) := by decide +kernel
theorem dX7_lookAlike_20 : decode cX7_lookAlike 20 = .ok (.iaload, 1) := by decide +kernel
theorem dX7_lookAlike_21 : decode cX7_lookAlike 21 = .ok (.aload_n 0, 1) := by decide +kernel
theorem dX7_lookAlike_22 : decode cX7_lookAlike 22 = .ok (.getfield 31, 3) := by decide +kernel
theorem dX7_lookAlike_25 : decode cX7_lookAlike 25 = .ok (.iload_n 2, 1) := by decide +kernel
theorem dX7_lookAlike_26 : decode cX7_lookAlike 26 = .ok (.iaload, 1) := by decide +kernel
theorem dX7_lookAlike_27 : decode cX7_lookAlike 27 = .ok (.if_icmp .ne 7, 3) := by decide +kernel
theorem dX7_lookAlike_30 : decode cX7_lookAlike 30 = .ok (.iconst 1, 1) := by decide +kernel
theorem dX7_lookAlike_31 : decode cX7_lookAlike 31 = .ok (.goto 4, 3) := by decide +kernel
theorem dX7_lookAlike_34 : decode cX7_lookAlike 34 = .ok (.iconst 0, 1) := by decide +kernel
theorem dX7_lookAlike_35 : decode cX7_lookAlike 35 = .ok (.ireturn, 1) := by decide +kernel
theorem dX7_faceWithoutFame_0 : decode cX7_faceWithoutFame 0 = .ok (.iconst 0, 1) := by decide +kernel
theorem dX7_faceWithoutFame_1 : decode cX7_faceWithoutFame 1 = .ok (.istore_n 1, 1) := by decide +kernel
theorem dX7_faceWithoutFame_2 : decode cX7_faceWithoutFame 2 = .ok (.iload_n 1, 1) := by decide +kernel
theorem dX7_faceWithoutFame_3 : decode cX7_faceWithoutFame 3 = .ok (.aload_n 0, 1) := by decide +kernel
theorem dX7_faceWithoutFame_4 : decode cX7_faceWithoutFame 4 = .ok (.getfield 37, 3) := by decide +kernel
theorem dX7_faceWithoutFame_7 : decode cX7_faceWithoutFame 7 = .ok (.if_icmp .ge 20, 3) := by decide +kernel
theorem dX7_faceWithoutFame_10 : decode cX7_faceWithoutFame 10 = .ok (.aload_n 0, 1) := by decide +kernel
theorem dX7_faceWithoutFame_11 : decode cX7_faceWithoutFame 11 = .ok (.getfield 28, 3) := by decide +kernel
theorem dX7_faceWithoutFame_14 : decode cX7_faceWithoutFame 14 = .ok (.iload_n 1, 1) := by decide +kernel
theorem dX7_faceWithoutFame_15 : decode cX7_faceWithoutFame 15 = .ok (.iaload, 1) := by decide +kernel
theorem dX7_faceWithoutFame_16 : decode cX7_faceWithoutFame 16 = .ok (.ifCond .ne 5, 3) := by decide +kernel
theorem dX7_faceWithoutFame_19 : decode cX7_faceWithoutFame 19 = .ok (.iload_n 1, 1) := by decide +kernel
theorem dX7_faceWithoutFame_20 : decode cX7_faceWithoutFame 20 = .ok (.ireturn, 1) := by decide +kernel
theorem dX7_faceWithoutFame_21 : decode cX7_faceWithoutFame 21 = .ok (.iinc 1 1, 3) := by decide +kernel
theorem dX7_faceWithoutFame_24 : decode cX7_faceWithoutFame 24 = .ok (.goto (-22), 3) := by decide +kernel
theorem dX7_faceWithoutFame_27 : decode cX7_faceWithoutFame 27 = .ok (.bipush (-9), 2) := by decide +kernel
theorem dX7_faceWithoutFame_29 : decode cX7_faceWithoutFame 29 = .ok (.ireturn, 1) := by decide +kernel
theorem dX7_allWearTheirOwn_0 : decode cX7_allWearTheirOwn 0 = .ok (.iconst 0, 1) := by decide +kernel
theorem dX7_allWearTheirOwn_1 : decode cX7_allWearTheirOwn 1 = .ok (.istore_n 1, 1) := by decide +kernel
theorem dX7_allWearTheirOwn_2 : decode cX7_allWearTheirOwn 2 = .ok (.iload_n 1, 1) := by decide +kernel
theorem dX7_allWearTheirOwn_3 : decode cX7_allWearTheirOwn 3 = .ok (.aload_n 0, 1) := by decide +kernel
theorem dX7_allWearTheirOwn_4 : decode cX7_allWearTheirOwn 4 = .ok (.getfield 37, 3) := by decide +kernel
theorem dX7_allWearTheirOwn_7 : decode cX7_allWearTheirOwn 7 = .ok (.if_icmp .ge 19, 3) := by decide +kernel
theorem dX7_allWearTheirOwn_10 : decode cX7_allWearTheirOwn 10 = .ok (.aload_n 0, 1) := by decide +kernel
theorem dX7_allWearTheirOwn_11 : decode cX7_allWearTheirOwn 11 = .ok (.iload_n 1, 1) := by decide +kernel
theorem dX7_allWearTheirOwn_12 : decode cX7_allWearTheirOwn 12 = .ok (.invokevirtual 44, 3) := by decide +kernel
theorem dX7_allWearTheirOwn_15 : decode cX7_allWearTheirOwn 15 = .ok (.ifCond .ne 5, 3) := by decide +kernel
theorem dX7_allWearTheirOwn_18 : decode cX7_allWearTheirOwn 18 = .ok (.iconst 0, 1) := by decide +kernel
theorem dX7_allWearTheirOwn_19 : decode cX7_allWearTheirOwn 19 = .ok (.ireturn, 1) := by decide +kernel
theorem dX7_allWearTheirOwn_20 : decode cX7_allWearTheirOwn 20 = .ok (.iinc 1 1, 3) := by decide +kernel
theorem dX7_allWearTheirOwn_23 : decode cX7_allWearTheirOwn 23 = .ok (.goto (-21), 3) := by decide +kernel
theorem dX7_allWearTheirOwn_26 : decode cX7_allWearTheirOwn 26 = .ok (.iconst 1, 1) := by decide +kernel
theorem dX7_allWearTheirOwn_27 : decode cX7_allWearTheirOwn 27 = .ok (.ireturn, 1) := by decide +kernel
theorem dX7_lentFaces_0 : decode cX7_lentFaces 0 = .ok (.iconst 0, 1) := by decide +kernel
theorem dX7_lentFaces_1 : decode cX7_lentFaces 1 = .ok (.istore_n 1, 1) := by decide +kernel
theorem dX7_lentFaces_2 : decode cX7_lentFaces 2 = .ok (.iconst 0, 1) := by decide +kernel
theorem dX7_lentFaces_3 : decode cX7_lentFaces 3 = .ok (.istore_n 2, 1) := by decide +kernel
theorem dX7_lentFaces_4 : decode cX7_lentFaces 4 = .ok (.iload_n 2, 1) := by decide +kernel
theorem dX7_lentFaces_5 : decode cX7_lentFaces 5 = .ok (.aload_n 0, 1) := by decide +kernel
theorem dX7_lentFaces_6 : decode cX7_lentFaces 6 = .ok (.getfield 37, 3) := by decide +kernel
theorem dX7_lentFaces_9 : decode cX7_lentFaces 9 = .ok (.if_icmp .ge 25, 3) := by decide +kernel
theorem dX7_lentFaces_12 : decode cX7_lentFaces 12 = .ok (.iload_n 1, 1) := by decide +kernel
theorem dX7_lentFaces_13 : decode cX7_lentFaces 13 = .ok (.aload_n 0, 1) := by decide +kernel
theorem dX7_lentFaces_14 : decode cX7_lentFaces 14 = .ok (.iload_n 2, 1) := by decide +kernel
theorem dX7_lentFaces_15 : decode cX7_lentFaces 15 = .ok (.invokevirtual 87, 3) := by decide +kernel
theorem dX7_lentFaces_18 : decode cX7_lentFaces 18 = .ok (.ifCond .eq 7, 3) := by decide +kernel
theorem dX7_lentFaces_21 : decode cX7_lentFaces 21 = .ok (.iconst 1, 1) := by decide +kernel
theorem dX7_lentFaces_22 : decode cX7_lentFaces 22 = .ok (.goto 4, 3) := by decide +kernel
theorem dX7_lentFaces_25 : decode cX7_lentFaces 25 = .ok (.iconst 0, 1) := by decide +kernel
theorem dX7_lentFaces_26 : decode cX7_lentFaces 26 = .ok (.iadd, 1) := by decide +kernel
theorem dX7_lentFaces_27 : decode cX7_lentFaces 27 = .ok (.istore_n 1, 1) := by decide +kernel
theorem dX7_lentFaces_28 : decode cX7_lentFaces 28 = .ok (.iinc 2 1, 3) := by decide +kernel
theorem dX7_lentFaces_31 : decode cX7_lentFaces 31 = .ok (.goto (-27), 3) := by decide +kernel
theorem dX7_lentFaces_34 : decode cX7_lentFaces 34 = .ok (.iload_n 1, 1) := by decide +kernel
theorem dX7_lentFaces_35 : decode cX7_lentFaces 35 = .ok (.ireturn, 1) := by decide +kernel
theorem dX7_wearersOfOthers_0 : decode cX7_wearersOfOthers 0 = .ok (.iconst 0, 1) := by decide +kernel
theorem dX7_wearersOfOthers_1 : decode cX7_wearersOfOthers 1 = .ok (.istore_n 1, 1) := by decide +kernel
theorem dX7_wearersOfOthers_2 : decode cX7_wearersOfOthers 2 = .ok (.iconst 0, 1) := by decide +kernel
theorem dX7_wearersOfOthers_3 : decode cX7_wearersOfOthers 3 = .ok (.istore_n 2, 1) := by decide +kernel
theorem dX7_wearersOfOthers_4 : decode cX7_wearersOfOthers 4 = .ok (.iload_n 2, 1) := by decide +kernel
theorem dX7_wearersOfOthers_5 : decode cX7_wearersOfOthers 5 = .ok (.aload_n 0, 1) := by decide +kernel
theorem dX7_wearersOfOthers_6 : decode cX7_wearersOfOthers 6 = .ok (.getfield 37, 3) := by decide +kernel
theorem dX7_wearersOfOthers_9 : decode cX7_wearersOfOthers 9 = .ok (.if_icmp .ge 36, 3) := by decide +kernel
theorem dX7_wearersOfOthers_12 : decode cX7_wearersOfOthers 12 = .ok (.iload_n 1, 1) := by decide +kernel
theorem dX7_wearersOfOthers_13 : decode cX7_wearersOfOthers 13 = .ok (.aload_n 0, 1) := by decide +kernel
theorem dX7_wearersOfOthers_14 : decode cX7_wearersOfOthers 14 = .ok (.getfield 25, 3) := by decide +kernel
theorem dX7_wearersOfOthers_17 : decode cX7_wearersOfOthers 17 = .ok (.iload_n 2, 1) := by decide +kernel
theorem dX7_wearersOfOthers_18 : decode cX7_wearersOfOthers 18 = .ok (.iaload, 1) := by decide +kernel
theorem dX7_wearersOfOthers_19 : decode cX7_wearersOfOthers 19 = .ok (.bipush 9, 2) := by decide +kernel
theorem dX7_wearersOfOthers_21 : decode cX7_wearersOfOthers 21 = .ok (.if_icmp .eq 15, 3) := by decide +kernel
theorem dX7_wearersOfOthers_24 : decode cX7_wearersOfOthers 24 = .ok (.aload_n 0, 1) := by decide +kernel
theorem dX7_wearersOfOthers_25 : decode cX7_wearersOfOthers 25 = .ok (.iload_n 2, 1) := by decide +kernel
theorem dX7_wearersOfOthers_26 : decode cX7_wearersOfOthers 26 = .ok (.invokevirtual 44, 3) := by decide +kernel
theorem dX7_wearersOfOthers_29 : decode cX7_wearersOfOthers 29 = .ok (.ifCond .ne 7, 3) := by decide +kernel
theorem dX7_wearersOfOthers_32 : decode cX7_wearersOfOthers 32 = .ok (.iconst 1, 1) := by decide +kernel
theorem dX7_wearersOfOthers_33 : decode cX7_wearersOfOthers 33 = .ok (.goto 4, 3) := by decide +kernel
theorem dX7_wearersOfOthers_36 : decode cX7_wearersOfOthers 36 = .ok (.iconst 0, 1) := by decide +kernel
theorem dX7_wearersOfOthers_37 : decode cX7_wearersOfOthers 37 = .ok (.iadd, 1) := by decide +kernel
theorem dX7_wearersOfOthers_38 : decode cX7_wearersOfOthers 38 = .ok (.istore_n 1, 1) := by decide +kernel
theorem dX7_wearersOfOthers_39 : decode cX7_wearersOfOthers 39 = .ok (.iinc 2 1, 3) := by decide +kernel
theorem dX7_wearersOfOthers_42 : decode cX7_wearersOfOthers 42 = .ok (.goto (-38), 3) := by decide +kernel
theorem dX7_wearersOfOthers_45 : decode cX7_wearersOfOthers 45 = .ok (.iload_n 1, 1) := by decide +kernel
theorem dX7_wearersOfOthers_46 : decode cX7_wearersOfOthers 46 = .ok (.ireturn, 1) := by decide +kernel
theorem dX7_plainWearers_0 : decode cX7_plainWearers 0 = .ok (.iconst 0, 1) := by decide +kernel
theorem dX7_plainWearers_1 : decode cX7_plainWearers 1 = .ok (.istore_n 1, 1) := by decide +kernel
theorem dX7_plainWearers_2 : decode cX7_plainWearers 2 = .ok (.iconst 0, 1) := by decide +kernel
theorem dX7_plainWearers_3 : decode cX7_plainWearers 3 = .ok (.istore_n 2, 1) := by decide +kernel
theorem dX7_plainWearers_4 : decode cX7_plainWearers 4 = .ok (.iload_n 2, 1) := by decide +kernel
theorem dX7_plainWearers_5 : decode cX7_plainWearers 5 = .ok (.aload_n 0, 1) := by decide +kernel
theorem dX7_plainWearers_6 : decode cX7_plainWearers 6 = .ok (.getfield 37, 3) := by decide +kernel
theorem dX7_plainWearers_9 : decode cX7_plainWearers 9 = .ok (.if_icmp .ge 30, 3) := by decide +kernel
theorem dX7_plainWearers_12 : decode cX7_plainWearers 12 = .ok (.iload_n 1, 1) := by decide +kernel
theorem dX7_plainWearers_13 : decode cX7_plainWearers 13 = .ok (.aload_n 0, 1) := by decide +kernel
theorem dX7_plainWearers_14 : decode cX7_plainWearers 14 = .ok (.getfield 25, 3) := by decide +kernel
theorem dX7_plainWearers_17 : decode cX7_plainWearers 17 = .ok (.iload_n 2, 1) := by decide +kernel
theorem dX7_plainWearers_18 : decode cX7_plainWearers 18 = .ok (.iaload, 1) := by decide +kernel
theorem dX7_plainWearers_19 : decode cX7_plainWearers 19 = .ok (.bipush 9, 2) := by decide +kernel
theorem dX7_plainWearers_21 : decode cX7_plainWearers 21 = .ok (.if_icmp .ne 9, 3) := by decide +kernel
theorem dX7_plainWearers_24 : decode cX7_plainWearers 24 = .ok (.iconst 1, 1) := by decide +kernel
theorem dX7_plainWearers_25 : decode cX7_plainWearers 25 = .ok (.iload_n 2, 1) := by decide +kernel
theorem dX7_plainWearers_26 : decode cX7_plainWearers 26 = .ok (.ishl, 1) := by decide +kernel
theorem dX7_plainWearers_27 : decode cX7_plainWearers 27 = .ok (.goto 4, 3) := by decide +kernel
theorem dX7_plainWearers_30 : decode cX7_plainWearers 30 = .ok (.iconst 0, 1) := by decide +kernel
theorem dX7_plainWearers_31 : decode cX7_plainWearers 31 = .ok (.ior, 1) := by decide +kernel
theorem dX7_plainWearers_32 : decode cX7_plainWearers 32 = .ok (.istore_n 1, 1) := by decide +kernel
theorem dX7_plainWearers_33 : decode cX7_plainWearers 33 = .ok (.iinc 2 1, 3) := by decide +kernel
theorem dX7_plainWearers_36 : decode cX7_plainWearers 36 = .ok (.goto (-32), 3) := by decide +kernel
theorem dX7_plainWearers_39 : decode cX7_plainWearers 39 = .ok (.iload_n 1, 1) := by decide +kernel
theorem dX7_plainWearers_40 : decode cX7_plainWearers 40 = .ok (.ireturn, 1) := by decide +kernel
theorem dX7_facesSeen_0 : decode cX7_facesSeen 0 = .ok (.iconst 0, 1) := by decide +kernel
theorem dX7_facesSeen_1 : decode cX7_facesSeen 1 = .ok (.istore_n 1, 1) := by decide +kernel
theorem dX7_facesSeen_2 : decode cX7_facesSeen 2 = .ok (.iconst 0, 1) := by decide +kernel
theorem dX7_facesSeen_3 : decode cX7_facesSeen 3 = .ok (.istore_n 2, 1) := by decide +kernel
theorem dX7_facesSeen_4 : decode cX7_facesSeen 4 = .ok (.iload_n 2, 1) := by decide +kernel
theorem dX7_facesSeen_5 : decode cX7_facesSeen 5 = .ok (.aload_n 0, 1) := by decide +kernel
theorem dX7_facesSeen_6 : decode cX7_facesSeen 6 = .ok (.getfield 37, 3) := by decide +kernel
theorem dX7_facesSeen_9 : decode cX7_facesSeen 9 = .ok (.if_icmp .ge 35, 3) := by decide +kernel
theorem dX7_facesSeen_12 : decode cX7_facesSeen 12 = .ok (.iload_n 1, 1) := by decide +kernel
theorem dX7_facesSeen_13 : decode cX7_facesSeen 13 = .ok (.aload_n 0, 1) := by decide +kernel
theorem dX7_facesSeen_14 : decode cX7_facesSeen 14 = .ok (.getfield 25, 3) := by decide +kernel
theorem dX7_facesSeen_17 : decode cX7_facesSeen 17 = .ok (.iload_n 2, 1) := by decide +kernel
theorem dX7_facesSeen_18 : decode cX7_facesSeen 18 = .ok (.iaload, 1) := by decide +kernel
theorem dX7_facesSeen_19 : decode cX7_facesSeen 19 = .ok (.bipush 9, 2) := by decide +kernel
theorem dX7_facesSeen_21 : decode cX7_facesSeen 21 = .ok (.if_icmp .eq 14, 3) := by decide +kernel
theorem dX7_facesSeen_24 : decode cX7_facesSeen 24 = .ok (.iconst 1, 1) := by decide +kernel
theorem dX7_facesSeen_25 : decode cX7_facesSeen 25 = .ok (.aload_n 0, 1) := by decide +kernel
theorem dX7_facesSeen_26 : decode cX7_facesSeen 26 = .ok (.getfield 25, 3) := by decide +kernel
theorem dX7_facesSeen_29 : decode cX7_facesSeen 29 = .ok (.iload_n 2, 1) := by decide +kernel
theorem dX7_facesSeen_30 : decode cX7_facesSeen 30 = .ok (.iaload, 1) := by decide +kernel
theorem dX7_facesSeen_31 : decode cX7_facesSeen 31 = .ok (.ishl, 1) := by decide +kernel
theorem dX7_facesSeen_32 : decode cX7_facesSeen 32 = .ok (.goto 4, 3) := by decide +kernel
theorem dX7_facesSeen_35 : decode cX7_facesSeen 35 = .ok (.iconst 0, 1) := by decide +kernel
theorem dX7_facesSeen_36 : decode cX7_facesSeen 36 = .ok (.ior, 1) := by decide +kernel
theorem dX7_facesSeen_37 : decode cX7_facesSeen 37 = .ok (.istore_n 1, 1) := by decide +kernel
theorem dX7_facesSeen_38 : decode cX7_facesSeen 38 = .ok (.iinc 2 1, 3) := by decide +kernel
theorem dX7_facesSeen_41 : decode cX7_facesSeen 41 = .ok (.goto (-37), 3) := by decide +kernel
theorem dX7_facesSeen_44 : decode cX7_facesSeen 44 = .ok (.iload_n 1, 1) := by decide +kernel
theorem dX7_facesSeen_45 : decode cX7_facesSeen 45 = .ok (.ireturn, 1) := by decide +kernel
theorem dX8_init_0 : decode cX8_init 0 = .ok (.aload_n 0, 1) := by decide +kernel
theorem dX8_init_1 : decode cX8_init 1 = .ok (.invokespecial 1, 3) := by decide +kernel
theorem dX8_init_4 : decode cX8_init 4 = .ok (.bipush 6, 2) := by decide +kernel
theorem dX8_init_6 : decode cX8_init 6 = .ok (.anewarray 7, 3) := by decide +kernel
theorem dX8_init_9 : decode cX8_init 9 = .ok (.dup, 1) := by decide +kernel
theorem dX8_init_10 : decode cX8_init 10 = .ok (.iconst 0, 1) := by decide +kernel
theorem dX8_init_11 : decode cX8_init 11 = .ok (.new 7, 3) := by decide +kernel
theorem dX8_init_14 : decode cX8_init 14 = .ok (.dup, 1) := by decide +kernel
theorem dX8_init_15 : decode cX8_init 15 = .ok (.invokespecial 9, 3) := by decide +kernel
theorem dX8_init_18 : decode cX8_init 18 = .ok (.aastore, 1) := by decide +kernel
theorem dX8_init_19 : decode cX8_init 19 = .ok (.dup, 1) := by decide +kernel
theorem dX8_init_20 : decode cX8_init 20 = .ok (.iconst 1, 1) := by decide +kernel
theorem dX8_init_21 : decode cX8_init 21 = .ok (.new 10, 3) := by decide +kernel
theorem dX8_init_24 : decode cX8_init 24 = .ok (.dup, 1) := by decide +kernel
theorem dX8_init_25 : decode cX8_init 25 = .ok (.invokespecial 12, 3) := by decide +kernel
theorem dX8_init_28 : decode cX8_init 28 = .ok (.aastore, 1) := by decide +kernel
theorem dX8_init_29 : decode cX8_init 29 = .ok (.dup, 1) := by decide +kernel
theorem dX8_init_30 : decode cX8_init 30 = .ok (.iconst 2, 1) := by decide +kernel
theorem dX8_init_31 : decode cX8_init 31 = .ok (.new 13, 3) := by decide +kernel
theorem dX8_init_34 : decode cX8_init 34 = .ok (.dup, 1) := by decide +kernel
theorem dX8_init_35 : decode cX8_init 35 = .ok (.invokespecial 15, 3) := by decide +kernel
theorem dX8_init_38 : decode cX8_init 38 = .ok (.aastore, 1) := by decide +kernel
theorem dX8_init_39 : decode cX8_init 39 = .ok (.dup, 1) := by decide +kernel
theorem dX8_init_40 : decode cX8_init 40 = .ok (.iconst 3, 1) := by decide +kernel
theorem dX8_init_41 : decode cX8_init 41 = .ok (.new 16, 3) := by decide +kernel
theorem dX8_init_44 : decode cX8_init 44 = .ok (.dup, 1) := by decide +kernel
theorem dX8_init_45 : decode cX8_init 45 = .ok (.invokespecial 18, 3) := by decide +kernel
theorem dX8_init_48 : decode cX8_init 48 = .ok (.aastore, 1) := by decide +kernel
theorem dX8_init_49 : decode cX8_init 49 = .ok (.dup, 1) := by decide +kernel
theorem dX8_init_50 : decode cX8_init 50 = .ok (.iconst 4, 1) := by decide +kernel
theorem dX8_init_51 : decode cX8_init 51 = .ok (.new 19, 3) := by decide +kernel
theorem dX8_init_54 : decode cX8_init 54 = .ok (.dup, 1) := by decide +kernel
theorem dX8_init_55 : decode cX8_init 55 = .ok (.invokespecial 21, 3) := by decide +kernel
theorem dX8_init_58 : decode cX8_init 58 = .ok (.aastore, 1) := by decide +kernel
theorem dX8_init_59 : decode cX8_init 59 = .ok (.dup, 1) := by decide +kernel
theorem dX8_init_60 : decode cX8_init 60 = .ok (.iconst 5, 1) := by decide +kernel
theorem dX8_init_61 : decode cX8_init 61 = .ok (.new 22, 3) := by decide +kernel
theorem dX8_init_64 : decode cX8_init 64 = .ok (.dup, 1) := by decide +kernel
theorem dX8_init_65 : decode cX8_init 65 = .ok (.invokespecial 24, 3) := by decide +kernel
theorem dX8_init_68 : decode cX8_init 68 = .ok (.aastore, 1) := by decide +kernel
theorem dX8_init_69 : decode cX8_init 69 = .ok (.astore_n 1, 1) := by decide +kernel
theorem dX8_init_70 : decode cX8_init 70 = .ok (.aload_n 0, 1) := by decide +kernel
theorem dX8_init_71 : decode cX8_init 71 = .ok (.new 25, 3) := by decide +kernel
theorem dX8_init_74 : decode cX8_init 74 = .ok (.dup, 1) := by decide +kernel
theorem dX8_init_75 : decode cX8_init 75 = .ok (.aload_n 1, 1) := by decide +kernel
theorem dX8_init_76 : decode cX8_init 76 = .ok (.invokespecial 27, 3) := by decide +kernel
theorem dX8_init_79 : decode cX8_init 79 = .ok (.putfield 30, 3) := by decide +kernel
theorem dX8_init_82 : decode cX8_init 82 = .ok (.aload_n 0, 1) := by decide +kernel
theorem dX8_init_83 : decode cX8_init 83 = .ok (.new 25, 3) := by decide +kernel
theorem dX8_init_86 : decode cX8_init 86 = .ok (.dup, 1) := by decide +kernel
theorem dX8_init_87 : decode cX8_init 87 = .ok (.aload_n 1, 1) := by decide +kernel
theorem dX8_init_88 : decode cX8_init 88 = .ok (.invokespecial 27, 3) := by decide +kernel
theorem dX8_init_91 : decode cX8_init 91 = .ok (.putfield 36, 3) := by decide +kernel
theorem dX8_init_94 : decode cX8_init 94 = .ok (.aload_n 0, 1) := by decide +kernel
theorem dX8_init_95 : decode cX8_init 95 = .ok (.new 25, 3) := by decide +kernel
theorem dX8_init_98 : decode cX8_init 98 = .ok (.dup, 1) := by decide +kernel
theorem dX8_init_99 : decode cX8_init 99 = .ok (.aload_n 1, 1) := by decide +kernel
theorem dX8_init_100 : decode cX8_init 100 = .ok (.invokespecial 27, 3) := by decide +kernel
theorem dX8_init_103 : decode cX8_init 103 = .ok (.putfield 39, 3) := by decide +kernel
theorem dX8_init_106 : decode cX8_init 106 = .ok (.aload_n 0, 1) := by decide +kernel
theorem dX8_init_107 : decode cX8_init 107 = .ok (.new 42, 3) := by decide +kernel
theorem dX8_init_110 : decode cX8_init 110 = .ok (.dup, 1) := by decide +kernel
theorem dX8_init_111 : decode cX8_init 111 = .ok (.invokespecial 44, 3) := by decide +kernel
theorem dX8_init_114 : decode cX8_init 114 = .ok (.putfield 45, 3) := by decide +kernel
theorem dX8_init_117 : decode cX8_init 117 = .ok (.aload_n 0, 1) := by decide +kernel
theorem dX8_init_118 : decode cX8_init 118 = .ok (.bipush 16, 2) := by decide +kernel
theorem dX8_init_120 : decode cX8_init 120 = .ok (.newarray .int, 2) := by decide +kernel
theorem dX8_init_122 : decode cX8_init 122 = .ok (.putfield 49, 3) := by decide +kernel
theorem dX8_init_125 : decode cX8_init 125 = .ok (.aload_n 0, 1) := by decide +kernel
theorem dX8_init_126 : decode cX8_init 126 = .ok (.bipush 7, 2) := by decide +kernel
theorem dX8_init_128 : decode cX8_init 128 = .ok (.newarray .int, 2) := by decide +kernel
theorem dX8_init_130 : decode cX8_init 130 = .ok (.putfield 53, 3) := by decide +kernel
theorem dX8_init_133 : decode cX8_init 133 = .ok (.aload_n 0, 1) := by decide +kernel
theorem dX8_init_134 : decode cX8_init 134 = .ok (.bipush 8, 2) := by decide +kernel
theorem dX8_init_136 : decode cX8_init 136 = .ok (.newarray .int, 2) := by decide +kernel
theorem dX8_init_138 : decode cX8_init 138 = .ok (.putfield 56, 3) := by decide +kernel
theorem dX8_init_141 : decode cX8_init 141 = .ok (.aload_n 0, 1) := by decide +kernel
theorem dX8_init_142 : decode cX8_init 142 = .ok (.iconst 4, 1) := by decide +kernel
theorem dX8_init_143 : decode cX8_init 143 = .ok (.newarray .int, 2) := by decide +kernel
theorem dX8_init_145 : decode cX8_init 145 = .ok (.putfield 59, 3) := by decide +kernel
theorem dX8_init_148 : decode cX8_init 148 = .ok (.aload_n 0, 1) := by decide +kernel
theorem dX8_init_149 : decode cX8_init 149 = .ok (.iconst 4, 1) := by decide +kernel
theorem dX8_init_150 : decode cX8_init 150 = .ok (.newarray .int, 2) := by decide +kernel
theorem dX8_init_152 : decode cX8_init 152 = .ok (.putfield 62, 3) := by decide +kernel
theorem dX8_init_155 : decode cX8_init 155 = .ok (.aload_n 0, 1) := by decide +kernel
theorem dX8_init_156 : decode cX8_init 156 = .ok (.iconst 0, 1) := by decide +kernel
theorem dX8_init_157 : decode cX8_init 157 = .ok (.putfield 65, 3) := by decide +kernel
theorem dX8_init_160 : decode cX8_init 160 = .ok (.aload_n 0, 1) := by decide +kernel
theorem dX8_init_161 : decode cX8_init 161 = .ok (.iconst 0, 1) := by decide +kernel
theorem dX8_init_162 : decode cX8_init 162 = .ok (.putfield 69, 3) := by decide +kernel
theorem dX8_init_165 : decode cX8_init 165 = .ok (.return_, 1) := by decide +kernel
theorem dX8_letter_0 : decode cX8_letter 0 = .ok (.iload_n 1, 1) := by decide +kernel
theorem dX8_letter_1 : decode cX8_letter 1 = .ok (.iconst 0, 1) := by decide +kernel
theorem dX8_letter_2 : decode cX8_letter 2 = .ok (.sipush 255, 3) := by decide +kernel
theorem dX8_letter_5 : decode cX8_letter 5 = .ok (.invokestatic 73, 3) := by decide +kernel
theorem dX8_letter_8 : decode cX8_letter 8 = .ok (.istore_n 2, 1) := by decide +kernel
theorem dX8_letter_9 : decode cX8_letter 9 = .ok (.iload_n 2, 1) := by decide +kernel
theorem dX8_letter_10 : decode cX8_letter 10 = .ok (.ifCond .eq 9, 3) := by decide +kernel
theorem dX8_letter_13 : decode cX8_letter 13 = .ok (.aload_n 0, 1) := by decide +kernel
theorem dX8_letter_14 : decode cX8_letter 14 = .ok (.iload_n 2, 1) := by decide +kernel
theorem dX8_letter_15 : decode cX8_letter 15 = .ok (.invokevirtual 77, 3) := by decide +kernel
theorem dX8_letter_18 : decode cX8_letter 18 = .ok (.ireturn, 1) := by decide +kernel
theorem dX8_letter_19 : decode cX8_letter 19 = .ok (.aload_n 0, 1) := by decide +kernel
theorem dX8_letter_20 : decode cX8_letter 20 = .ok (.getfield 45, 3) := by decide +kernel
theorem dX8_letter_23 : decode cX8_letter 23 = .ok (.iload_n 1, 1) := by decide +kernel
theorem dX8_letter_24 : decode cX8_letter 24 = .ok (.invokevirtual 81, 3) := by decide +kernel
theorem dX8_letter_27 : decode cX8_letter 27 = .ok (.ifCond .ne 10, 3) := by decide +kernel
theorem dX8_letter_30 : decode cX8_letter 30 = .ok (.aload_n 0, 1) := by decide +kernel
theorem dX8_letter_31 : decode cX8_letter 31 = .ok (.bipush (-6), 2) := by decide +kernel
theorem dX8_letter_33 : decode cX8_letter 33 = .ok (.invokevirtual 77, 3) := by decide +kernel
theorem dX8_letter_36 : decode cX8_letter 36 = .ok (.ireturn, 1) := by decide +kernel
theorem dX8_letter_37 : decode cX8_letter 37 = .ok (.aload_n 0, 1) := by decide +kernel
theorem dX8_letter_38 : decode cX8_letter 38 = .ok (.getfield 45, 3) := by decide +kernel
theorem dX8_letter_41 : decode cX8_letter 41 = .ok (.getfield 85, 3) := by decide +kernel
theorem dX8_letter_44 : decode cX8_letter 44 = .ok (.ireturn, 1) := by decide +kernel
theorem dX8_town_0 : decode cX8_town 0 = .ok (.aload_n 0, 1) := by decide +kernel
theorem dX8_town_1 : decode cX8_town 1 = .ok (.getfield 36, 3) := by decide +kernel
theorem dX8_town_4 : decode cX8_town 4 = .ok (.aload_n 0, 1) := by decide +kernel
theorem dX8_town_5 : decode cX8_town 5 = .ok (.getfield 30, 3) := by decide +kernel
theorem dX8_town_8 : decode cX8_town 8 = .ok (.invokevirtual 88, 3) := by decide +kernel
theorem dX8_town_11 : decode cX8_town 11 = .ok (.aload_n 0, 1) := by decide +kernel
theorem dX8_town_12 : decode cX8_town 12 = .ok (.getfield 45, 3) := by decide +kernel
theorem dX8_town_15 : decode cX8_town 15 = .ok (.aload_n 0, 1) := by decide +kernel
theorem dX8_town_16 : decode cX8_town 16 = .ok (.getfield 36, 3) := by decide +kernel
theorem dX8_town_19 : decode cX8_town 19 = .ok (.invokevirtual 92, 3) := by decide +kernel
theorem dX8_town_22 : decode cX8_town 22 = .ok (.istore_n 1, 1) := by decide +kernel
theorem dX8_town_23 : decode cX8_town 23 = .ok (.iload_n 1, 1) := by decide +kernel
theorem dX8_town_24 : decode cX8_town 24 = .ok (.ifCond .le 14, 3) := by decide +kernel
theorem dX8_town_27 : decode cX8_town 27 = .ok (.aload_n 0, 1) := by decide +kernel
theorem dX8_town_28 : decode cX8_town 28 = .ok (.getfield 30, 3) := by decide +kernel
theorem dX8_town_31 : decode cX8_town 31 = .ok (.aload_n 0, 1) := by decide +kernel
theorem dX8_town_32 : decode cX8_town 32 = .ok (.getfield 36, 3) := by decide +kernel
theorem dX8_town_35 : decode cX8_town 35 = .ok (.invokevirtual 88, 3) := by decide +kernel
theorem dX8_town_38 : decode cX8_town 38 = .ok (.aload_n 0, 1) := by decide +kernel
theorem dX8_town_39 : decode cX8_town 39 = .ok (.getfield 45, 3) := by decide +kernel
theorem dX8_town_42 : decode cX8_town 42 = .ok (.iconst 0, 1) := by decide +kernel
theorem dX8_town_43 : decode cX8_town 43 = .ok (.putfield 85, 3) := by decide +kernel
theorem dX8_town_46 : decode cX8_town 46 = .ok (.iload_n 1, 1) := by decide +kernel
theorem dX8_town_47 : decode cX8_town 47 = .ok (.ireturn, 1) := by decide +kernel
theorem dX8_person_0 : decode cX8_person 0 = .ok (.aload_n 0, 1) := by decide +kernel
theorem dX8_person_1 : decode cX8_person 1 = .ok (.iload_n 1, 1) := by decide +kernel
theorem dX8_person_2 : decode cX8_person 2 = .ok (.invokevirtual 96, 3) := by decide +kernel
theorem dX8_person_5 : decode cX8_person 5 = .ok (.iload_n 2, 1) := by decide +kernel
theorem dX8_person_6 : decode cX8_person 6 = .ok (.iconst 4, 1) := by decide +kernel
theorem dX8_person_7 : decode cX8_person 7 = .ok (.invokestatic 99, 3) := by decide +kernel
theorem dX8_person_10 : decode cX8_person 10 = .ok (.invokestatic 103, 3) := by decide +kernel
theorem dX8_person_13 : decode cX8_person 13 = .ok (.istore_n 3, 1) := by decide +kernel
theorem dX8_person_14 : decode cX8_person 14 = .ok (.iload_n 3, 1) := by decide +kernel
theorem dX8_person_15 : decode cX8_person 15 = .ok (.ifCond .eq 9, 3) := by decide +kernel
theorem dX8_person_18 : decode cX8_person 18 = .ok (.aload_n 0, 1) := by decide +kernel
theorem dX8_person_19 : decode cX8_person 19 = .ok (.iload_n 3, 1) := by decide +kernel
theorem dX8_person_20 : decode cX8_person 20 = .ok (.invokevirtual 77, 3) := by decide +kernel
theorem dX8_person_23 : decode cX8_person 23 = .ok (.ireturn, 1) := by decide +kernel
theorem dX8_person_24 : decode cX8_person 24 = .ok (.iload_n 2, 1) := by decide +kernel
theorem dX8_person_25 : decode cX8_person 25 = .ok (.tableswitch 57 0 2 #[27, 37, 47], 27) := by decide +kernel
theorem dX8_person_52 : decode cX8_person 52 = .ok (.aload_n 0, 1) := by decide +kernel
theorem dX8_person_53 : decode cX8_person 53 = .ok (.getfield 30, 3) := by decide +kernel
theorem dX8_person_56 : decode cX8_person 56 = .ok (.getfield 106, 3) := by decide +kernel
theorem dX8_person_59 : decode cX8_person 59 = .ok (.iload_n 1, 1) := by decide +kernel
theorem dX8_person_60 : decode cX8_person 60 = .ok (.iaload, 1) := by decide +kernel
theorem dX8_person_61 : decode cX8_person 61 = .ok (.ireturn, 1) := by decide +kernel
theorem dX8_person_62 : decode cX8_person 62 = .ok (.aload_n 0, 1) := by decide +kernel
theorem dX8_person_63 : decode cX8_person 63 = .ok (.getfield 30, 3) := by decide +kernel
theorem dX8_person_66 : decode cX8_person 66 = .ok (.getfield 109, 3) := by decide +kernel
theorem dX8_person_69 : decode cX8_person 69 = .ok (.iload_n 1, 1) := by decide +kernel
theorem dX8_person_70 : decode cX8_person 70 = .ok (.iaload, 1) := by decide +kernel
theorem dX8_person_71 : decode cX8_person 71 = .ok (.ireturn, 1) := by decide +kernel
theorem dX8_person_72 : decode cX8_person 72 = .ok (.aload_n 0, 1) := by decide +kernel
theorem dX8_person_73 : decode cX8_person 73 = .ok (.getfield 30, 3) := by decide +kernel
theorem dX8_person_76 : decode cX8_person 76 = .ok (.getfield 112, 3) := by decide +kernel
theorem dX8_person_79 : decode cX8_person 79 = .ok (.iload_n 1, 1) := by decide +kernel
theorem dX8_person_80 : decode cX8_person 80 = .ok (.iaload, 1) := by decide +kernel
theorem dX8_person_81 : decode cX8_person 81 = .ok (.ireturn, 1) := by decide +kernel
theorem dX8_person_82 : decode cX8_person 82 = .ok (.aload_n 0, 1) := by decide +kernel
theorem dX8_person_83 : decode cX8_person 83 = .ok (.getfield 30, 3) := by decide +kernel
theorem dX8_person_86 : decode cX8_person 86 = .ok (.getfield 115, 3) := by decide +kernel
theorem dX8_person_89 : decode cX8_person 89 = .ok (.iload_n 1, 1) := by decide +kernel
theorem dX8_person_90 : decode cX8_person 90 = .ok (.iaload, 1) := by decide +kernel
theorem dX8_person_91 : decode cX8_person 91 = .ok (.ireturn, 1) := by decide +kernel
theorem dX8_face_0 : decode cX8_face 0 = .ok (.aload_n 0, 1) := by decide +kernel
theorem dX8_face_1 : decode cX8_face 1 = .ok (.iload_n 1, 1) := by decide +kernel
theorem dX8_face_2 : decode cX8_face 2 = .ok (.invokevirtual 96, 3) := by decide +kernel
theorem dX8_face_5 : decode cX8_face 5 = .ok (.iload_n 2, 1) := by decide +kernel
theorem dX8_face_6 : decode cX8_face 6 = .ok (.iconst 4, 1) := by decide +kernel
theorem dX8_face_7 : decode cX8_face 7 = .ok (.invokestatic 99, 3) := by decide +kernel
theorem dX8_face_10 : decode cX8_face 10 = .ok (.invokestatic 103, 3) := by decide +kernel
theorem dX8_face_13 : decode cX8_face 13 = .ok (.istore_n 3, 1) := by decide +kernel
theorem dX8_face_14 : decode cX8_face 14 = .ok (.iload_n 3, 1) := by decide +kernel
theorem dX8_face_15 : decode cX8_face 15 = .ok (.ifCond .eq 9, 3) := by decide +kernel
theorem dX8_face_18 : decode cX8_face 18 = .ok (.aload_n 0, 1) := by decide +kernel
theorem dX8_face_19 : decode cX8_face 19 = .ok (.iload_n 3, 1) := by decide +kernel
theorem dX8_face_20 : decode cX8_face 20 = .ok (.invokevirtual 77, 3) := by decide +kernel
theorem dX8_face_23 : decode cX8_face 23 = .ok (.ireturn, 1) := by decide +kernel
theorem dX8_face_24 : decode cX8_face 24 = .ok (.aload_n 0, 1) := by decide +kernel
theorem dX8_face_25 : decode cX8_face 25 = .ok (.getfield 30, 3) := by decide +kernel
theorem dX8_face_28 : decode cX8_face 28 = .ok (.iload_n 1, 1) := by decide +kernel
theorem dX8_face_29 : decode cX8_face 29 = .ok (.iload_n 2, 1) := by decide +kernel
theorem dX8_face_30 : decode cX8_face 30 = .ok (.invokevirtual 118, 3) := by decide +kernel
theorem dX8_face_33 : decode cX8_face 33 = .ok (.ireturn, 1) := by decide +kernel
theorem dX8_worth_0 : decode cX8_worth 0 = .ok (.aload_n 0, 1) := by decide +kernel
theorem dX8_worth_1 : decode cX8_worth 1 = .ok (.iload_n 1, 1) := by decide +kernel
theorem dX8_worth_2 : decode cX8_worth 2 = .ok (.invokevirtual 96, 3) := by decide +kernel
theorem dX8_worth_5 : decode cX8_worth 5 = .ok (.istore_n 2, 1) := by decide +kernel
theorem dX8_worth_6 : decode cX8_worth 6 = .ok (.iload_n 2, 1) := by decide +kernel
theorem dX8_worth_7 : decode cX8_worth 7 = .ok (.ifCond .eq 9, 3) := by decide +kernel
theorem dX8_worth_10 : decode cX8_worth 10 = .ok (.aload_n 0, 1) := by decide +kernel
theorem dX8_worth_11 : decode cX8_worth 11 = .ok (.iload_n 2, 1) := by decide +kernel
theorem dX8_worth_12 : decode cX8_worth 12 = .ok (.invokevirtual 121, 3) := by decide +kernel
theorem dX8_worth_15 : decode cX8_worth 15 = .ok (.ireturn, 1) := by decide +kernel
theorem dX8_worth_16 : decode cX8_worth 16 = .ok (.aload_n 0, 1) := by decide +kernel
theorem dX8_worth_17 : decode cX8_worth 17 = .ok (.getfield 30, 3) := by decide +kernel
theorem dX8_worth_20 : decode cX8_worth 20 = .ok (.iload_n 1, 1) := by decide +kernel
theorem dX8_worth_21 : decode cX8_worth 21 = .ok (.invokevirtual 124, 3) := by decide +kernel
theorem dX8_worth_24 : decode cX8_worth 24 = .ok (.ireturn, 1) := by decide +kernel
theorem dX8_lends_0 : decode cX8_lends 0 = .ok (.aload_n 0, 1) := by decide +kernel
theorem dX8_lends_1 : decode cX8_lends 1 = .ok (.iload_n 1, 1) := by decide +kernel
theorem dX8_lends_2 : decode cX8_lends 2 = .ok (.iload_n 2, 1) := by decide +kernel
theorem dX8_lends_3 : decode cX8_lends 3 = .ok (.invokevirtual 127, 3) := by decide +kernel
theorem dX8_lends_6 : decode cX8_lends 6 = .ok (.istore_n 3, 1) := by decide +kernel
theorem dX8_lends_7 : decode cX8_lends 7 = .ok (.iload_n 3, 1) := by decide +kernel
theorem dX8_lends_8 : decode cX8_lends 8 = .ok (.ifCond .eq 9, 3) := by decide +kernel
theorem dX8_lends_11 : decode cX8_lends 11 = .ok (.aload_n 0, 1) := by decide +kernel
theorem dX8_lends_12 : decode cX8_lends 12 = .ok (.iload_n 3, 1) := by decide +kernel
theorem dX8_lends_13 : decode cX8_lends 13 = .ok (.invokevirtual 77, 3) := by decide +kernel
theorem dX8_lends_16 : decode cX8_lends 16 = .ok (.ireturn, 1) := by decide +kernel
theorem dX8_lends_17 : decode cX8_lends 17 = .ok (.aload_n 0, 1) := by decide +kernel
theorem dX8_lends_18 : decode cX8_lends 18 = .ok (.getfield 30, 3) := by decide +kernel
theorem dX8_lends_21 : decode cX8_lends 21 = .ok (.iload_n 1, 1) := by decide +kernel
theorem dX8_lends_22 : decode cX8_lends 22 = .ok (.iload_n 2, 1) := by decide +kernel
theorem dX8_lends_23 : decode cX8_lends 23 = .ok (.invokevirtual 130, 3) := by decide +kernel
theorem dX8_lends_26 : decode cX8_lends 26 = .ok (.ifCond .ne 10, 3) := by decide +kernel
theorem dX8_lends_29 : decode cX8_lends 29 = .ok (.aload_n 0, 1) := by decide +kernel
theorem dX8_lends_30 : decode cX8_lends 30 = .ok (.bipush (-3), 2) := by decide +kernel
theorem dX8_lends_32 : decode cX8_lends 32 = .ok (.invokevirtual 77, 3) := by decide +kernel
theorem dX8_lends_35 : decode cX8_lends 35 = .ok (.ireturn, 1) := by decide +kernel
theorem dX8_lends_36 : decode cX8_lends 36 = .ok (.aload_n 0, 1) := by decide +kernel
theorem dX8_lends_37 : decode cX8_lends 37 = .ok (.getfield 30, 3) := by decide +kernel
theorem dX8_lends_40 : decode cX8_lends 40 = .ok (.iload_n 1, 1) := by decide +kernel
theorem dX8_lends_41 : decode cX8_lends 41 = .ok (.iload_n 2, 1) := by decide +kernel
theorem dX8_lends_42 : decode cX8_lends 42 = .ok (.invokevirtual 134, 3) := by decide +kernel
theorem dX8_lends_45 : decode cX8_lends 45 = .ok (.aload_n 0, 1) := by decide +kernel
theorem dX8_lends_46 : decode cX8_lends 46 = .ok (.getfield 30, 3) := by decide +kernel
theorem dX8_lends_49 : decode cX8_lends 49 = .ok (.invokevirtual 138, 3) := by decide +kernel
theorem dX8_lends_52 : decode cX8_lends 52 = .ok (.ireturn, 1) := by decide +kernel
theorem dX8_back_0 : decode cX8_back 0 = .ok (.aload_n 0, 1) := by decide +kernel
theorem dX8_back_1 : decode cX8_back 1 = .ok (.iload_n 1, 1) := by decide +kernel
theorem dX8_back_2 : decode cX8_back 2 = .ok (.invokevirtual 96, 3) := by decide +kernel
theorem dX8_back_5 : decode cX8_back 5 = .ok (.istore_n 2, 1) := by decide +kernel
theorem dX8_back_6 : decode cX8_back 6 = .ok (.iload_n 2, 1) := by decide +kernel
theorem dX8_back_7 : decode cX8_back 7 = .ok (.ifCond .eq 9, 3) := by decide +kernel
theorem dX8_back_10 : decode cX8_back 10 = .ok (.aload_n 0, 1) := by decide +kernel
theorem dX8_back_11 : decode cX8_back 11 = .ok (.iload_n 2, 1) := by decide +kernel
theorem dX8_back_12 : decode cX8_back 12 = .ok (.invokevirtual 77, 3) := by decide +kernel
theorem dX8_back_15 : decode cX8_back 15 = .ok (.ireturn, 1) := by decide +kernel
theorem dX8_back_16 : decode cX8_back 16 = .ok (.aload_n 0, 1) := by decide +kernel
theorem dX8_back_17 : decode cX8_back 17 = .ok (.getfield 30, 3) := by decide +kernel
theorem dX8_back_20 : decode cX8_back 20 = .ok (.iload_n 1, 1) := by decide +kernel
theorem dX8_back_21 : decode cX8_back 21 = .ok (.invokevirtual 142, 3) := by decide +kernel
theorem dX8_back_24 : decode cX8_back 24 = .ok (.ifCond .ne 10, 3) := by decide +kernel
theorem dX8_back_27 : decode cX8_back 27 = .ok (.aload_n 0, 1) := by decide +kernel
theorem dX8_back_28 : decode cX8_back 28 = .ok (.bipush (-3), 2) := by decide +kernel
theorem dX8_back_30 : decode cX8_back 30 = .ok (.invokevirtual 77, 3) := by decide +kernel
theorem dX8_back_33 : decode cX8_back 33 = .ok (.ireturn, 1) := by decide +kernel
theorem dX8_back_34 : decode cX8_back 34 = .ok (.aload_n 0, 1) := by decide +kernel
theorem dX8_back_35 : decode cX8_back 35 = .ok (.getfield 30, 3) := by decide +kernel
theorem dX8_back_38 : decode cX8_back 38 = .ok (.iload_n 1, 1) := by decide +kernel
theorem dX8_back_39 : decode cX8_back 39 = .ok (.invokevirtual 145, 3) := by decide +kernel
theorem dX8_back_42 : decode cX8_back 42 = .ok (.ireturn, 1) := by decide +kernel
theorem dX8_learns_0 : decode cX8_learns 0 = .ok (.aload_n 0, 1) := by decide +kernel
theorem dX8_learns_1 : decode cX8_learns 1 = .ok (.iload_n 1, 1) := by decide +kernel
theorem dX8_learns_2 : decode cX8_learns 2 = .ok (.invokevirtual 96, 3) := by decide +kernel
theorem dX8_learns_5 : decode cX8_learns 5 = .ok (.aload_n 0, 1) := by decide +kernel
theorem dX8_learns_6 : decode cX8_learns 6 = .ok (.iload_n 2, 1) := by decide +kernel
theorem dX8_learns_7 : decode cX8_learns 7 = .ok (.invokevirtual 96, 3) := by decide +kernel
theorem dX8_learns_10 : decode cX8_learns 10 = .ok (.invokestatic 103, 3) := by decide +kernel
theorem dX8_learns_13 : decode cX8_learns 13 = .ok (.istore_n 3, 1) := by decide +kernel
theorem dX8_learns_14 : decode cX8_learns 14 = .ok (.iload_n 3, 1) := by decide +kernel
theorem dX8_learns_15 : decode cX8_learns 15 = .ok (.ifCond .eq 9, 3) := by decide +kernel
theorem dX8_learns_18 : decode cX8_learns 18 = .ok (.aload_n 0, 1) := by decide +kernel
theorem dX8_learns_19 : decode cX8_learns 19 = .ok (.iload_n 3, 1) := by decide +kernel
theorem dX8_learns_20 : decode cX8_learns 20 = .ok (.invokevirtual 77, 3) := by decide +kernel
theorem dX8_learns_23 : decode cX8_learns 23 = .ok (.ireturn, 1) := by decide +kernel
theorem dX8_learns_24 : decode cX8_learns 24 = .ok (.aload_n 0, 1) := by decide +kernel
theorem dX8_learns_25 : decode cX8_learns 25 = .ok (.getfield 30, 3) := by decide +kernel
theorem dX8_learns_28 : decode cX8_learns 28 = .ok (.iload_n 1, 1) := by decide +kernel
theorem dX8_learns_29 : decode cX8_learns 29 = .ok (.iload_n 2, 1) := by decide +kernel
theorem dX8_learns_30 : decode cX8_learns 30 = .ok (.invokevirtual 148, 3) := by decide +kernel
theorem dX8_learns_33 : decode cX8_learns 33 = .ok (.aload_n 0, 1) := by decide +kernel
theorem dX8_learns_34 : decode cX8_learns 34 = .ok (.getfield 30, 3) := by decide +kernel
theorem dX8_learns_37 : decode cX8_learns 37 = .ok (.iload_n 1, 1) := by decide +kernel
theorem dX8_learns_38 : decode cX8_learns 38 = .ok (.iload_n 2, 1) := by decide +kernel
theorem dX8_learns_39 : decode cX8_learns 39 = .ok (.invokevirtual 151, 3) := by decide +kernel
theorem dX8_learns_42 : decode cX8_learns 42 = .ok (.ifCond .eq 7, 3) := by decide +kernel
theorem dX8_learns_45 : decode cX8_learns 45 = .ok (.iconst 1, 1) := by decide +kernel
theorem dX8_learns_46 : decode cX8_learns 46 = .ok (.goto 4, 3) := by decide +kernel
theorem dX8_learns_49 : decode cX8_learns 49 = .ok (.iconst 0, 1) := by decide +kernel
theorem dX8_learns_50 : decode cX8_learns 50 = .ok (.ireturn, 1) := by decide +kernel
theorem dX8_becomes_0 : decode cX8_becomes 0 = .ok (.aload_n 0, 1) := by decide +kernel
theorem dX8_becomes_1 : decode cX8_becomes 1 = .ok (.iload_n 1, 1) := by decide +kernel
theorem dX8_becomes_2 : decode cX8_becomes 2 = .ok (.invokevirtual 96, 3) := by decide +kernel
theorem dX8_becomes_5 : decode cX8_becomes 5 = .ok (.iload_n 2, 1) := by decide +kernel
theorem dX8_becomes_6 : decode cX8_becomes 6 = .ok (.iconst 2, 1) := by decide +kernel
theorem dX8_becomes_7 : decode cX8_becomes 7 = .ok (.invokestatic 99, 3) := by decide +kernel
theorem dX8_becomes_10 : decode cX8_becomes 10 = .ok (.iload_n 3, 1) := by decide +kernel
theorem dX8_becomes_11 : decode cX8_becomes 11 = .ok (.iconst 0, 1) := by decide +kernel
theorem dX8_becomes_12 : decode cX8_becomes 12 = .ok (.bipush 99, 2) := by decide +kernel
theorem dX8_becomes_14 : decode cX8_becomes 14 = .ok (.invokestatic 73, 3) := by decide +kernel
theorem dX8_becomes_17 : decode cX8_becomes 17 = .ok (.invokestatic 154, 3) := by decide +kernel
theorem dX8_becomes_20 : decode cX8_becomes 20 = .ok (.istore 4, 2) := by decide +kernel
theorem dX8_becomes_22 : decode cX8_becomes 22 = .ok (.iload 4, 2) := by decide +kernel
theorem dX8_becomes_24 : decode cX8_becomes 24 = .ok (.ifCond .eq 10, 3) := by decide +kernel
theorem dX8_becomes_27 : decode cX8_becomes 27 = .ok (.aload_n 0, 1) := by decide +kernel
theorem dX8_becomes_28 : decode cX8_becomes 28 = .ok (.iload 4, 2) := by decide +kernel
theorem dX8_becomes_30 : decode cX8_becomes 30 = .ok (.invokevirtual 77, 3) := by decide +kernel
theorem dX8_becomes_33 : decode cX8_becomes 33 = .ok (.ireturn, 1) := by decide +kernel
theorem dX8_becomes_34 : decode cX8_becomes 34 = .ok (.iload_n 2, 1) := by decide +kernel
theorem dX8_becomes_35 : decode cX8_becomes 35 = .ok (.ifCond .ne 13, 3) := by decide +kernel
theorem dX8_becomes_38 : decode cX8_becomes 38 = .ok (.aload_n 0, 1) := by decide +kernel
theorem dX8_becomes_39 : decode cX8_becomes 39 = .ok (.getfield 30, 3) := by decide +kernel
theorem dX8_becomes_42 : decode cX8_becomes 42 = .ok (.getfield 157, 3) := by decide +kernel
theorem dX8_becomes_45 : decode cX8_becomes 45 = .ok (.goto 10, 3) := by decide +kernel
theorem dX8_becomes_48 : decode cX8_becomes 48 = .ok (.aload_n 0, 1) := by decide +kernel
theorem dX8_becomes_49 : decode cX8_becomes 49 = .ok (.getfield 30, 3) := by decide +kernel
theorem dX8_becomes_52 : decode cX8_becomes 52 = .ok (.getfield 160, 3) := by decide +kernel
theorem dX8_becomes_55 : decode cX8_becomes 55 = .ok (.astore 5, 2) := by decide +kernel
theorem dX8_becomes_57 : decode cX8_becomes 57 = .ok (.aload 5, 2) := by decide +kernel
theorem dX8_becomes_59 : decode cX8_becomes 59 = .ok (.iload_n 1, 1) := by decide +kernel
theorem dX8_becomes_60 : decode cX8_becomes 60 = .ok (.iaload, 1) := by decide +kernel
theorem dX8_becomes_61 : decode cX8_becomes 61 = .ok (.istore 6, 2) := by decide +kernel
theorem dX8_becomes_63 : decode cX8_becomes 63 = .ok (.aload 5, 2) := by decide +kernel
theorem dX8_becomes_65 : decode cX8_becomes 65 = .ok (.iload_n 1, 1) := by decide +kernel
theorem dX8_becomes_66 : decode cX8_becomes 66 = .ok (.iload_n 3, 1) := by decide +kernel
theorem dX8_becomes_67 : decode cX8_becomes 67 = .ok (.iastore, 1) := by decide +kernel
theorem dX8_becomes_68 : decode cX8_becomes 68 = .ok (.iload 6, 2) := by decide +kernel
theorem dX8_becomes_70 : decode cX8_becomes 70 = .ok (.ireturn, 1) := by decide +kernel
theorem dX8_turn_0 : decode cX8_turn 0 = .ok (.aload_n 0, 1) := by decide +kernel
theorem dX8_turn_1 : decode cX8_turn 1 = .ok (.iload_n 1, 1) := by decide +kernel
theorem dX8_turn_2 : decode cX8_turn 2 = .ok (.invokevirtual 96, 3) := by decide +kernel
theorem dX8_turn_5 : decode cX8_turn 5 = .ok (.iload_n 2, 1) := by decide +kernel
theorem dX8_turn_6 : decode cX8_turn 6 = .ok (.bipush 6, 2) := by decide +kernel
theorem dX8_turn_8 : decode cX8_turn 8 = .ok (.invokestatic 99, 3) := by decide +kernel
theorem dX8_turn_11 : decode cX8_turn 11 = .ok (.iload_n 3, 1) := by decide +kernel
theorem dX8_turn_12 : decode cX8_turn 12 = .ok (.iconst 0, 1) := by decide +kernel
theorem dX8_turn_13 : decode cX8_turn 13 = .ok (.bipush 9, 2) := by decide +kernel
theorem dX8_turn_15 : decode cX8_turn 15 = .ok (.invokestatic 73, 3) := by decide +kernel
theorem dX8_turn_18 : decode cX8_turn 18 = .ok (.invokestatic 154, 3) := by decide +kernel
theorem dX8_turn_21 : decode cX8_turn 21 = .ok (.istore 4, 2) := by decide +kernel
theorem dX8_turn_23 : decode cX8_turn 23 = .ok (.iload 4, 2) := by decide +kernel
theorem dX8_turn_25 : decode cX8_turn 25 = .ok (.ifCond .eq 10, 3) := by decide +kernel
theorem dX8_turn_28 : decode cX8_turn 28 = .ok (.aload_n 0, 1) := by decide +kernel
theorem dX8_turn_29 : decode cX8_turn 29 = .ok (.iload 4, 2) := by decide +kernel
theorem dX8_turn_31 : decode cX8_turn 31 = .ok (.invokevirtual 77, 3) := by decide +kernel
theorem dX8_turn_34 : decode cX8_turn 34 = .ok (.ireturn, 1) := by decide +kernel
theorem dX8_turn_35 : decode cX8_turn 35 = .ok (.bipush 10, 2) := by decide +kernel
theorem dX8_turn_37 : decode cX8_turn 37 = .ok (.aload_n 0, 1) := by decide +kernel
theorem dX8_turn_38 : decode cX8_turn 38 = .ok (.getfield 30, 3) := by decide +kernel
theorem dX8_turn_41 : decode cX8_turn 41 = .ok (.getfield 106, 3) := by decide +kernel
theorem dX8_turn_44 : decode cX8_turn 44 = .ok (.iload_n 1, 1) := by decide +kernel
theorem dX8_turn_45 : decode cX8_turn 45 = .ok (.iaload, 1) := by decide +kernel
theorem dX8_turn_46 : decode cX8_turn 46 = .ok (.imul, 1) := by decide +kernel
theorem dX8_turn_47 : decode cX8_turn 47 = .ok (.aload_n 0, 1) := by decide +kernel
theorem dX8_turn_48 : decode cX8_turn 48 = .ok (.getfield 30, 3) := by decide +kernel
theorem dX8_turn_51 : decode cX8_turn 51 = .ok (.getfield 109, 3) := by decide +kernel
theorem dX8_turn_54 : decode cX8_turn 54 = .ok (.iload_n 1, 1) := by decide +kernel
theorem dX8_turn_55 : decode cX8_turn 55 = .ok (.iaload, 1) := by decide +kernel
theorem dX8_turn_56 : decode cX8_turn 56 = .ok (.iadd, 1) := by decide +kernel
theorem dX8_turn_57 : decode cX8_turn 57 = .ok (.istore 5, 2) := by decide +kernel
theorem dX8_turn_59 : decode cX8_turn 59 = .ok (.aload_n 0, 1) := by decide +kernel
theorem dX8_turn_60 : decode cX8_turn 60 = .ok (.getfield 30, 3) := by decide +kernel
theorem dX8_turn_63 : decode cX8_turn 63 = .ok (.getfield 106, 3) := by decide +kernel
theorem dX8_turn_66 : decode cX8_turn 66 = .ok (.iload_n 1, 1) := by decide +kernel
theorem dX8_turn_67 : decode cX8_turn 67 = .ok (.iload_n 2, 1) := by decide +kernel
theorem dX8_turn_68 : decode cX8_turn 68 = .ok (.iastore, 1) := by decide +kernel
theorem dX8_turn_69 : decode cX8_turn 69 = .ok (.aload_n 0, 1) := by decide +kernel
theorem dX8_turn_70 : decode cX8_turn 70 = .ok (.getfield 30, 3) := by decide +kernel
theorem dX8_turn_73 : decode cX8_turn 73 = .ok (.getfield 109, 3) := by decide +kernel
theorem dX8_turn_76 : decode cX8_turn 76 = .ok (.iload_n 1, 1) := by decide +kernel
theorem dX8_turn_77 : decode cX8_turn 77 = .ok (.iload_n 3, 1) := by decide +kernel
theorem dX8_turn_78 : decode cX8_turn 78 = .ok (.iastore, 1) := by decide +kernel
theorem dX8_turn_79 : decode cX8_turn 79 = .ok (.iload 5, 2) := by decide +kernel
theorem dX8_turn_81 : decode cX8_turn 81 = .ok (.ireturn, 1) := by decide +kernel
theorem dX8_months_0 : decode cX8_months 0 = .ok (.iload_n 1, 1) := by decide +kernel
theorem dX8_months_1 : decode cX8_months 1 = .ok (.iconst 1, 1) := by decide +kernel
theorem dX8_months_2 : decode cX8_months 2 = .ok (.bipush 60, 2) := by decide +kernel
theorem dX8_months_4 : decode cX8_months 4 = .ok (.invokestatic 73, 3) := by decide +kernel
theorem dX8_months_7 : decode cX8_months 7 = .ok (.istore_n 2, 1) := by decide +kernel
theorem dX8_months_8 : decode cX8_months 8 = .ok (.iload_n 2, 1) := by decide +kernel
theorem dX8_months_9 : decode cX8_months 9 = .ok (.ifCond .eq 9, 3) := by decide +kernel
theorem dX8_months_12 : decode cX8_months 12 = .ok (.aload_n 0, 1) := by decide +kernel
theorem dX8_months_13 : decode cX8_months 13 = .ok (.iload_n 2, 1) := by decide +kernel
theorem dX8_months_14 : decode cX8_months 14 = .ok (.invokevirtual 77, 3) := by decide +kernel
theorem dX8_months_17 : decode cX8_months 17 = .ok (.ireturn, 1) := by decide +kernel
theorem dX8_months_18 : decode cX8_months 18 = .ok (.aload_n 0, 1) := by decide +kernel
theorem dX8_months_19 : decode cX8_months 19 = .ok (.getfield 30, 3) := by decide +kernel
theorem dX8_months_22 : decode cX8_months 22 = .ok (.getfield 163, 3) := by decide +kernel
theorem dX8_months_25 : decode cX8_months 25 = .ok (.iload_n 1, 1) := by decide +kernel
theorem dX8_months_26 : decode cX8_months 26 = .ok (.iadd, 1) := by decide +kernel
theorem dX8_months_27 : decode cX8_months 27 = .ok (.sipush 999, 3) := by decide +kernel
theorem dX8_months_30 : decode cX8_months 30 = .ok (.if_icmp .le 10, 3) := by decide +kernel
theorem dX8_months_33 : decode cX8_months 33 = .ok (.aload_n 0, 1) := by decide +kernel
theorem dX8_months_34 : decode cX8_months 34 = .ok (.bipush (-6), 2) := by decide +kernel
theorem dX8_months_36 : decode cX8_months 36 = .ok (.invokevirtual 77, 3) := by decide +kernel
theorem dX8_months_39 : decode cX8_months 39 = .ok (.ireturn, 1) := by decide +kernel
theorem dX8_months_40 : decode cX8_months 40 = .ok (.aload_n 0, 1) := by decide +kernel
theorem dX8_months_41 : decode cX8_months 41 = .ok (.getfield 30, 3) := by decide +kernel
theorem dX8_months_44 : decode cX8_months 44 = .ok (.iload_n 1, 1) := by decide +kernel
theorem dX8_months_45 : decode cX8_months 45 = .ok (.invokevirtual 166, 3) := by decide +kernel
theorem dX8_months_48 : decode cX8_months 48 = .ok (.aload_n 0, 1) := by decide +kernel
theorem dX8_months_49 : decode cX8_months 49 = .ok (.getfield 30, 3) := by decide +kernel
theorem dX8_months_52 : decode cX8_months 52 = .ok (.invokevirtual 138, 3) := by decide +kernel
theorem dX8_months_55 : decode cX8_months 55 = .ok (.ireturn, 1) := by decide +kernel
theorem dX8_faceThen_0 : decode cX8_faceThen 0 = .ok (.aload_n 0, 1) := by decide +kernel
theorem dX8_faceThen_1 : decode cX8_faceThen 1 = .ok (.iload_n 1, 1) := by decide +kernel
theorem dX8_faceThen_2 : decode cX8_faceThen 2 = .ok (.invokevirtual 96, 3) := by decide +kernel
theorem dX8_faceThen_5 : decode cX8_faceThen 5 = .ok (.iload_n 2, 1) := by decide +kernel
theorem dX8_faceThen_6 : decode cX8_faceThen 6 = .ok (.iconst 0, 1) := by decide +kernel
theorem dX8_faceThen_7 : decode cX8_faceThen 7 = .ok (.bipush 60, 2) := by decide +kernel
theorem dX8_faceThen_9 : decode cX8_faceThen 9 = .ok (.invokestatic 73, 3) := by decide +kernel
theorem dX8_faceThen_12 : decode cX8_faceThen 12 = .ok (.iload_n 3, 1) := by decide +kernel
theorem dX8_faceThen_13 : decode cX8_faceThen 13 = .ok (.iconst 4, 1) := by decide +kernel
theorem dX8_faceThen_14 : decode cX8_faceThen 14 = .ok (.invokestatic 99, 3) := by decide +kernel
theorem dX8_faceThen_17 : decode cX8_faceThen 17 = .ok (.invokestatic 154, 3) := by decide +kernel
theorem dX8_faceThen_20 : decode cX8_faceThen 20 = .ok (.istore 4, 2) := by decide +kernel
theorem dX8_faceThen_22 : decode cX8_faceThen 22 = .ok (.iload 4, 2) := by decide +kernel
theorem dX8_faceThen_24 : decode cX8_faceThen 24 = .ok (.ifCond .eq 10, 3) := by decide +kernel
theorem dX8_faceThen_27 : decode cX8_faceThen 27 = .ok (.aload_n 0, 1) := by decide +kernel
theorem dX8_faceThen_28 : decode cX8_faceThen 28 = .ok (.iload 4, 2) := by decide +kernel
theorem dX8_faceThen_30 : decode cX8_faceThen 30 = .ok (.invokevirtual 77, 3) := by decide +kernel
theorem dX8_faceThen_33 : decode cX8_faceThen 33 = .ok (.ireturn, 1) := by decide +kernel
theorem dX8_faceThen_34 : decode cX8_faceThen 34 = .ok (.aload_n 0, 1) := by decide +kernel
theorem dX8_faceThen_35 : decode cX8_faceThen 35 = .ok (.iload_n 2, 1) := by decide +kernel
theorem dX8_faceThen_36 : decode cX8_faceThen 36 = .ok (.invokevirtual 170, 3) := by decide +kernel
theorem dX8_faceThen_39 : decode cX8_faceThen 39 = .ok (.aload_n 0, 1) := by decide +kernel
theorem dX8_faceThen_40 : decode cX8_faceThen 40 = .ok (.getfield 36, 3) := by decide +kernel
theorem dX8_faceThen_43 : decode cX8_faceThen 43 = .ok (.iload_n 1, 1) := by decide +kernel
theorem dX8_faceThen_44 : decode cX8_faceThen 44 = .ok (.iload_n 3, 1) := by decide +kernel
theorem dX8_faceThen_45 : decode cX8_faceThen 45 = .ok (.invokevirtual 118, 3) := by decide +kernel
theorem dX8_faceThen_48 : decode cX8_faceThen 48 = .ok (.ireturn, 1) := by decide +kernel
theorem dX8_wornThen_0 : decode cX8_wornThen 0 = .ok (.aload_n 0, 1) := by decide +kernel
theorem dX8_wornThen_1 : decode cX8_wornThen 1 = .ok (.iload_n 1, 1) := by decide +kernel
theorem dX8_wornThen_2 : decode cX8_wornThen 2 = .ok (.invokevirtual 96, 3) := by decide +kernel
theorem dX8_wornThen_5 : decode cX8_wornThen 5 = .ok (.iload_n 2, 1) := by decide +kernel
theorem dX8_wornThen_6 : decode cX8_wornThen 6 = .ok (.iconst 0, 1) := by decide +kernel
theorem dX8_wornThen_7 : decode cX8_wornThen 7 = .ok (.bipush 60, 2) := by decide +kernel
theorem dX8_wornThen_9 : decode cX8_wornThen 9 = .ok (.invokestatic 73, 3) := by decide +kernel
theorem dX8_wornThen_12 : decode cX8_wornThen 12 = .ok (.invokestatic 103, 3) := by decide +kernel
theorem dX8_wornThen_15 : decode cX8_wornThen 15 = .ok (.istore_n 3, 1) := by decide +kernel
theorem dX8_wornThen_16 : decode cX8_wornThen 16 = .ok (.iload_n 3, 1) := by decide +kernel
theorem dX8_wornThen_17 : decode cX8_wornThen 17 = .ok (.ifCond .eq 9, 3) := by decide +kernel
theorem dX8_wornThen_20 : decode cX8_wornThen 20 = .ok (.aload_n 0, 1) := by decide +kernel
theorem dX8_wornThen_21 : decode cX8_wornThen 21 = .ok (.iload_n 3, 1) := by decide +kernel
theorem dX8_wornThen_22 : decode cX8_wornThen 22 = .ok (.invokevirtual 77, 3) := by decide +kernel
theorem dX8_wornThen_25 : decode cX8_wornThen 25 = .ok (.ireturn, 1) := by decide +kernel
theorem dX8_wornThen_26 : decode cX8_wornThen 26 = .ok (.aload_n 0, 1) := by decide +kernel
theorem dX8_wornThen_27 : decode cX8_wornThen 27 = .ok (.iload_n 2, 1) := by decide +kernel
theorem dX8_wornThen_28 : decode cX8_wornThen 28 = .ok (.invokevirtual 170, 3) := by decide +kernel
theorem dX8_wornThen_31 : decode cX8_wornThen 31 = .ok (.aload_n 0, 1) := by decide +kernel
theorem dX8_wornThen_32 : decode cX8_wornThen 32 = .ok (.getfield 36, 3) := by decide +kernel
theorem dX8_wornThen_35 : decode cX8_wornThen 35 = .ok (.getfield 115, 3) := by decide +kernel
theorem dX8_wornThen_38 : decode cX8_wornThen 38 = .ok (.iload_n 1, 1) := by decide +kernel
theorem dX8_wornThen_39 : decode cX8_wornThen 39 = .ok (.iaload, 1) := by decide +kernel
theorem dX8_wornThen_40 : decode cX8_wornThen 40 = .ok (.ireturn, 1) := by decide +kernel
theorem dX8_first_0 : decode cX8_first 0 = .ok (.iload_n 1, 1) := by decide +kernel
theorem dX8_first_1 : decode cX8_first 1 = .ok (.iconst 3, 1) := by decide +kernel
theorem dX8_first_2 : decode cX8_first 2 = .ok (.invokestatic 99, 3) := by decide +kernel
theorem dX8_first_5 : decode cX8_first 5 = .ok (.istore_n 2, 1) := by decide +kernel
theorem dX8_first_6 : decode cX8_first 6 = .ok (.iload_n 2, 1) := by decide +kernel
theorem dX8_first_7 : decode cX8_first 7 = .ok (.ifCond .eq 9, 3) := by decide +kernel
theorem dX8_first_10 : decode cX8_first 10 = .ok (.aload_n 0, 1) := by decide +kernel
theorem dX8_first_11 : decode cX8_first 11 = .ok (.iload_n 2, 1) := by decide +kernel
theorem dX8_first_12 : decode cX8_first 12 = .ok (.invokevirtual 77, 3) := by decide +kernel
theorem dX8_first_15 : decode cX8_first 15 = .ok (.ireturn, 1) := by decide +kernel
theorem dX8_first_16 : decode cX8_first 16 = .ok (.iload_n 1, 1) := by decide +kernel
theorem dX8_first_17 : decode cX8_first 17 = .ok (.iconst 2, 1) := by decide +kernel
theorem dX8_first_18 : decode cX8_first 18 = .ok (.if_icmp .ne 10, 3) := by decide +kernel
theorem dX8_first_21 : decode cX8_first 21 = .ok (.aload_n 0, 1) := by decide +kernel
theorem dX8_first_22 : decode cX8_first 22 = .ok (.invokevirtual 173, 3) := by decide +kernel
theorem dX8_first_25 : decode cX8_first 25 = .ok (.goto 8, 3) := by decide +kernel
theorem dX8_first_28 : decode cX8_first 28 = .ok (.aload_n 0, 1) := by decide +kernel
theorem dX8_first_29 : decode cX8_first 29 = .ok (.iload_n 1, 1) := by decide +kernel
theorem dX8_first_30 : decode cX8_first 30 = .ok (.invokevirtual 176, 3) := by decide +kernel
theorem dX8_first_33 : decode cX8_first 33 = .ok (.ireturn, 1) := by decide +kernel
theorem dX8_monthsTillHome_0 : decode cX8_monthsTillHome 0 = .ok (.aload_n 0, 1) := by decide +kernel
theorem dX8_monthsTillHome_1 : decode cX8_monthsTillHome 1 = .ok (.getfield 36, 3) := by decide +kernel
theorem dX8_monthsTillHome_4 : decode cX8_monthsTillHome 4 = .ok (.aload_n 0, 1) := by decide +kernel
theorem dX8_monthsTillHome_5 : decode cX8_monthsTillHome 5 = .ok (.getfield 30, 3) := by decide +kernel
theorem dX8_monthsTillHome_8 : decode cX8_monthsTillHome 8 = .ok (.invokevirtual 88, 3) := by decide +kernel
theorem dX8_monthsTillHome_11 : decode cX8_monthsTillHome 11 = .ok (.iconst 0, 1) := by decide +kernel
theorem dX8_monthsTillHome_12 : decode cX8_monthsTillHome 12 = .ok (.istore_n 1, 1) := by decide +kernel
theorem dX8_monthsTillHome_13 : decode cX8_monthsTillHome 13 = .ok (.iload_n 1, 1) := by decide +kernel
theorem dX8_monthsTillHome_14 : decode cX8_monthsTillHome 14 = .ok (.bipush 60, 2) := by decide +kernel
theorem dX8_monthsTillHome_16 : decode cX8_monthsTillHome 16 = .ok (.if_icmp .gt 29, 3) := by decide +kernel
theorem dX8_monthsTillHome_19 : decode cX8_monthsTillHome 19 = .ok (.aload_n 0, 1) := by decide +kernel
theorem dX8_monthsTillHome_20 : decode cX8_monthsTillHome 20 = .ok (.getfield 36, 3) := by decide +kernel
theorem dX8_monthsTillHome_23 : decode cX8_monthsTillHome 23 = .ok (.invokevirtual 179, 3) := by decide +kernel
theorem dX8_monthsTillHome_26 : decode cX8_monthsTillHome 26 = .ok (.ifCond .eq 5, 3) := by decide +kernel
theorem dX8_monthsTillHome_29 : decode cX8_monthsTillHome 29 = .ok (.iload_n 1, 1) := by decide +kernel
theorem dX8_monthsTillHome_30 : decode cX8_monthsTillHome 30 = .ok (.ireturn, 1) := by decide +kernel
theorem dX8_monthsTillHome_31 : decode cX8_monthsTillHome 31 = .ok (.aload_n 0, 1) := by decide +kernel
theorem dX8_monthsTillHome_32 : decode cX8_monthsTillHome 32 = .ok (.getfield 36, 3) := by decide +kernel
theorem dX8_monthsTillHome_35 : decode cX8_monthsTillHome 35 = .ok (.iconst 1, 1) := by decide +kernel
theorem dX8_monthsTillHome_36 : decode cX8_monthsTillHome 36 = .ok (.invokevirtual 166, 3) := by decide +kernel
theorem dX8_monthsTillHome_39 : decode cX8_monthsTillHome 39 = .ok (.iinc 1 1, 3) := by decide +kernel
theorem dX8_monthsTillHome_42 : decode cX8_monthsTillHome 42 = .ok (.goto (-29), 3) := by decide +kernel
theorem dX8_monthsTillHome_45 : decode cX8_monthsTillHome 45 = .ok (.bipush (-9), 2) := by decide +kernel
theorem dX8_monthsTillHome_47 : decode cX8_monthsTillHome 47 = .ok (.ireturn, 1) := by decide +kernel
theorem dX8_firstWithoutFame_0 : decode cX8_firstWithoutFame 0 = .ok (.aload_n 0, 1) := by decide +kernel
theorem dX8_firstWithoutFame_1 : decode cX8_firstWithoutFame 1 = .ok (.getfield 36, 3) := by decide +kernel
theorem dX8_firstWithoutFame_4 : decode cX8_firstWithoutFame 4 = .ok (.aload_n 0, 1) := by decide +kernel
theorem dX8_firstWithoutFame_5 : decode cX8_firstWithoutFame 5 = .ok (.getfield 30, 3) := by decide +kernel
theorem dX8_firstWithoutFame_8 : decode cX8_firstWithoutFame 8 = .ok (.invokevirtual 88, 3) := by decide +kernel
theorem dX8_firstWithoutFame_11 : decode cX8_firstWithoutFame 11 = .ok (.iconst 0, 1) := by decide +kernel
theorem dX8_firstWithoutFame_12 : decode cX8_firstWithoutFame 12 = .ok (.istore_n 2, 1) := by decide +kernel
theorem dX8_firstWithoutFame_13 : decode cX8_firstWithoutFame 13 = .ok (.iload_n 2, 1) := by decide +kernel
theorem dX8_firstWithoutFame_14 : decode cX8_firstWithoutFame 14 = .ok (.bipush 60, 2) := by decide +kernel
theorem dX8_firstWithoutFame_16 : decode cX8_firstWithoutFame 16 = .ok (.if_icmp .gt 41, 3) := by decide +kernel
theorem dX8_firstWithoutFame_19 : decode cX8_firstWithoutFame 19 = .ok (.aload_n 0, 1) := by decide +kernel
theorem dX8_firstWithoutFame_20 : decode cX8_firstWithoutFame 20 = .ok (.getfield 36, 3) := by decide +kernel
theorem dX8_firstWithoutFame_23 : decode cX8_firstWithoutFame 23 = .ok (.invokevirtual 183, 3) := by decide +kernel
theorem dX8_firstWithoutFame_26 : decode cX8_firstWithoutFame 26 = .ok (.istore_n 3, 1) := by decide +kernel
theorem dX8_firstWithoutFame_27 : decode cX8_firstWithoutFame 27 = .ok (.iload_n 3, 1) := by decide +kernel
theorem dX8_firstWithoutFame_28 : decode cX8_firstWithoutFame 28 = .ok (.bipush (-9), 2) := by decide +kernel
theorem dX8_firstWithoutFame_30 : decode cX8_firstWithoutFame 30 = .ok (.if_icmp .eq 13, 3) := by decide +kernel
theorem dX8_firstWithoutFame_33 : decode cX8_firstWithoutFame 33 = .ok (.iload_n 1, 1) := by decide +kernel
theorem dX8_firstWithoutFame_34 : decode cX8_firstWithoutFame 34 = .ok (.ifCond .ne 7, 3) := by decide +kernel
theorem dX8_firstWithoutFame_37 : decode cX8_firstWithoutFame 37 = .ok (.iload_n 3, 1) := by decide +kernel
theorem dX8_firstWithoutFame_38 : decode cX8_firstWithoutFame 38 = .ok (.goto 4, 3) := by decide +kernel
theorem dX8_firstWithoutFame_41 : decode cX8_firstWithoutFame 41 = .ok (.iload_n 2, 1) := by decide +kernel
theorem dX8_firstWithoutFame_42 : decode cX8_firstWithoutFame 42 = .ok (.ireturn, 1) := by decide +kernel
theorem dX8_firstWithoutFame_43 : decode cX8_firstWithoutFame 43 = .ok (.aload_n 0, 1) := by decide +kernel
theorem dX8_firstWithoutFame_44 : decode cX8_firstWithoutFame 44 = .ok (.getfield 36, 3) := by decide +kernel
theorem dX8_firstWithoutFame_47 : decode cX8_firstWithoutFame 47 = .ok (.iconst 1, 1) := by decide +kernel
theorem dX8_firstWithoutFame_48 : decode cX8_firstWithoutFame 48 = .ok (.invokevirtual 166, 3) := by decide +kernel
theorem dX8_firstWithoutFame_51 : decode cX8_firstWithoutFame 51 = .ok (.iinc 2 1, 3) := by decide +kernel
theorem dX8_firstWithoutFame_54 : decode cX8_firstWithoutFame 54 = .ok (.goto (-41), 3) := by decide +kernel
theorem dX8_firstWithoutFame_57 : decode cX8_firstWithoutFame 57 = .ok (.bipush (-9), 2) := by decide +kernel
theorem dX8_firstWithoutFame_59 : decode cX8_firstWithoutFame 59 = .ok (.ireturn, 1) := by decide +kernel
theorem dX8_think_0 : decode cX8_think 0 = .ok (.aload_n 0, 1) := by decide +kernel
theorem dX8_think_1 : decode cX8_think 1 = .ok (.getfield 36, 3) := by decide +kernel
theorem dX8_think_4 : decode cX8_think 4 = .ok (.aload_n 0, 1) := by decide +kernel
theorem dX8_think_5 : decode cX8_think 5 = .ok (.getfield 30, 3) := by decide +kernel
theorem dX8_think_8 : decode cX8_think 8 = .ok (.invokevirtual 88, 3) := by decide +kernel
theorem dX8_think_11 : decode cX8_think 11 = .ok (.aload_n 0, 1) := by decide +kernel
theorem dX8_think_12 : decode cX8_think 12 = .ok (.getfield 36, 3) := by decide +kernel
theorem dX8_think_15 : decode cX8_think 15 = .ok (.iload_n 1, 1) := by decide +kernel
theorem dX8_think_16 : decode cX8_think 16 = .ok (.invokevirtual 166, 3) := by decide +kernel
theorem dX8_think_19 : decode cX8_think 19 = .ok (.return_, 1) := by decide +kernel
theorem dX8_meets_0 : decode cX8_meets 0 = .ok (.aload_n 0, 1) := by decide +kernel
theorem dX8_meets_1 : decode cX8_meets 1 = .ok (.iload_n 1, 1) := by decide +kernel
theorem dX8_meets_2 : decode cX8_meets 2 = .ok (.iload_n 2, 1) := by decide +kernel
theorem dX8_meets_3 : decode cX8_meets 3 = .ok (.invokevirtual 127, 3) := by decide +kernel
theorem dX8_meets_6 : decode cX8_meets 6 = .ok (.istore_n 3, 1) := by decide +kernel
theorem dX8_meets_7 : decode cX8_meets 7 = .ok (.iload_n 3, 1) := by decide +kernel
theorem dX8_meets_8 : decode cX8_meets 8 = .ok (.ifCond .eq 9, 3) := by decide +kernel
theorem dX8_meets_11 : decode cX8_meets 11 = .ok (.aload_n 0, 1) := by decide +kernel
theorem dX8_meets_12 : decode cX8_meets 12 = .ok (.iload_n 3, 1) := by decide +kernel
theorem dX8_meets_13 : decode cX8_meets 13 = .ok (.invokevirtual 77, 3) := by decide +kernel
theorem dX8_meets_16 : decode cX8_meets 16 = .ok (.ireturn, 1) := by decide +kernel
theorem dX8_meets_17 : decode cX8_meets 17 = .ok (.aload_n 0, 1) := by decide +kernel
theorem dX8_meets_18 : decode cX8_meets 18 = .ok (.getfield 30, 3) := by decide +kernel
theorem dX8_meets_21 : decode cX8_meets 21 = .ok (.iload_n 1, 1) := by decide +kernel
theorem dX8_meets_22 : decode cX8_meets 22 = .ok (.iload_n 2, 1) := by decide +kernel
theorem dX8_meets_23 : decode cX8_meets 23 = .ok (.invokevirtual 186, 3) := by decide +kernel
theorem dX8_meets_26 : decode cX8_meets 26 = .ok (.ireturn, 1) := by decide +kernel
theorem dX8_deceived_0 : decode cX8_deceived 0 = .ok (.aload_n 0, 1) := by decide +kernel
theorem dX8_deceived_1 : decode cX8_deceived 1 = .ok (.iload_n 1, 1) := by decide +kernel
theorem dX8_deceived_2 : decode cX8_deceived 2 = .ok (.invokevirtual 96, 3) := by decide +kernel
theorem dX8_deceived_5 : decode cX8_deceived 5 = .ok (.iload_n 2, 1) := by decide +kernel
theorem dX8_deceived_6 : decode cX8_deceived 6 = .ok (.iconst 2, 1) := by decide +kernel
theorem dX8_deceived_7 : decode cX8_deceived 7 = .ok (.invokestatic 99, 3) := by decide +kernel
theorem dX8_deceived_10 : decode cX8_deceived 10 = .ok (.invokestatic 103, 3) := by decide +kernel
theorem dX8_deceived_13 : decode cX8_deceived 13 = .ok (.istore_n 3, 1) := by decide +kernel
theorem dX8_deceived_14 : decode cX8_deceived 14 = .ok (.iload_n 3, 1) := by decide +kernel
theorem dX8_deceived_15 : decode cX8_deceived 15 = .ok (.ifCond .eq 9, 3) := by decide +kernel
theorem dX8_deceived_18 : decode cX8_deceived 18 = .ok (.aload_n 0, 1) := by decide +kernel
theorem dX8_deceived_19 : decode cX8_deceived 19 = .ok (.iload_n 3, 1) := by decide +kernel
theorem dX8_deceived_20 : decode cX8_deceived 20 = .ok (.invokevirtual 77, 3) := by decide +kernel
theorem dX8_deceived_23 : decode cX8_deceived 23 = .ok (.ireturn, 1) := by decide +kernel
theorem dX8_deceived_24 : decode cX8_deceived 24 = .ok (.iload_n 2, 1) := by decide +kernel
theorem dX8_deceived_25 : decode cX8_deceived 25 = .ok (.ifCond .ne 16, 3) := by decide +kernel
theorem dX8_deceived_28 : decode cX8_deceived 28 = .ok (.aload_n 0, 1) := by decide +kernel
theorem dX8_deceived_29 : decode cX8_deceived 29 = .ok (.getfield 30, 3) := by decide +kernel
theorem dX8_deceived_32 : decode cX8_deceived 32 = .ok (.iload_n 1, 1) := by decide +kernel
theorem dX8_deceived_33 : decode cX8_deceived 33 = .ok (.invokevirtual 189, 3) := by decide +kernel
theorem dX8_deceived_36 : decode cX8_deceived 36 = .ok (.ifCond .eq 5, 3) := by decide +kernel
theorem dX8_deceived_39 : decode cX8_deceived 39 = .ok (.iconst 0, 1) := by decide +kernel
theorem dX8_deceived_40 : decode cX8_deceived 40 = .ok (.ireturn, 1) := by decide +kernel
theorem dX8_deceived_41 : decode cX8_deceived 41 = .ok (.iconst 0, 1) := by decide +kernel
theorem dX8_deceived_42 : decode cX8_deceived 42 = .ok (.istore 4, 2) := by decide +kernel
theorem dX8_deceived_44 : decode cX8_deceived 44 = .ok (.iconst 0, 1) := by decide +kernel
theorem dX8_deceived_45 : decode cX8_deceived 45 = .ok (.istore 5, 2) := by decide +kernel
theorem dX8_deceived_47 : decode cX8_deceived 47 = .ok (.iload 5, 2) := by decide +kernel
theorem dX8_deceived_49 : decode cX8_deceived 49 = .ok (.aload_n 0, 1) := by decide +kernel
theorem dX8_deceived_50 : decode cX8_deceived 50 = .ok (.getfield 30, 3) := by decide +kernel
theorem dX8_deceived_53 : decode cX8_deceived 53 = .ok (.getfield 192, 3) := by decide +kernel
theorem dX8_deceived_56 : decode cX8_deceived 56 = .ok (.if_icmp .ge 33, 3) := by decide +kernel
theorem dX8_deceived_59 : decode cX8_deceived 59 = .ok (.iload 5, 2) := by decide +kernel
theorem dX8_deceived_61 : decode cX8_deceived 61 = .ok (.iload_n 1, 1) := by decide +kernel
theorem dX8_deceived_62 : decode cX8_deceived 62 = .ok (.if_icmp .eq 21, 3) := by decide +kernel
theorem dX8_deceived_65 : decode cX8_deceived 65 = .ok (.aload_n 0, 1) := by decide +kernel
theorem dX8_deceived_66 : decode cX8_deceived 66 = .ok (.getfield 30, 3) := by decide +kernel
theorem dX8_deceived_69 : decode cX8_deceived 69 = .ok (.iload 5, 2) := by decide +kernel
theorem dX8_deceived_71 : decode cX8_deceived 71 = .ok (.iload_n 1, 1) := by decide +kernel
theorem dX8_deceived_72 : decode cX8_deceived 72 = .ok (.invokevirtual 186, 3) := by decide +kernel
theorem dX8_deceived_75 : decode cX8_deceived 75 = .ok (.bipush 9, 2) := by decide +kernel
theorem dX8_deceived_77 : decode cX8_deceived 77 = .ok (.if_icmp .eq 6, 3) := by decide +kernel
theorem dX8_deceived_80 : decode cX8_deceived 80 = .ok (.iinc 4 1, 3) := by decide +kernel
theorem dX8_deceived_83 : decode cX8_deceived 83 = .ok (.iinc 5 1, 3) := by decide +kernel
theorem dX8_deceived_86 : decode cX8_deceived 86 = .ok (.goto (-39), 3) := by decide +kernel
theorem dX8_deceived_89 : decode cX8_deceived 89 = .ok (.iload 4, 2) := by decide +kernel
theorem dX8_deceived_91 : decode cX8_deceived 91 = .ok (.ireturn, 1) := by decide +kernel
theorem dX8_famous_0 : decode cX8_famous 0 = .ok (.iload_n 1, 1) := by decide +kernel
theorem dX8_famous_1 : decode cX8_famous 1 = .ok (.iconst 2, 1) := by decide +kernel
theorem dX8_famous_2 : decode cX8_famous 2 = .ok (.invokestatic 99, 3) := by decide +kernel
theorem dX8_famous_5 : decode cX8_famous 5 = .ok (.istore_n 2, 1) := by decide +kernel
theorem dX8_famous_6 : decode cX8_famous 6 = .ok (.iload_n 2, 1) := by decide +kernel
theorem dX8_famous_7 : decode cX8_famous 7 = .ok (.ifCond .eq 9, 3) := by decide +kernel
theorem dX8_famous_10 : decode cX8_famous 10 = .ok (.aload_n 0, 1) := by decide +kernel
theorem dX8_famous_11 : decode cX8_famous 11 = .ok (.iload_n 2, 1) := by decide +kernel
theorem dX8_famous_12 : decode cX8_famous 12 = .ok (.invokevirtual 77, 3) := by decide +kernel
theorem dX8_famous_15 : decode cX8_famous 15 = .ok (.ireturn, 1) := by decide +kernel
theorem dX8_famous_16 : decode cX8_famous 16 = .ok (.iload_n 1, 1) := by decide +kernel
theorem dX8_famous_17 : decode cX8_famous 17 = .ok (.ifCond .ne 13, 3) := by decide +kernel
theorem dX8_famous_20 : decode cX8_famous 20 = .ok (.aload_n 0, 1) := by decide +kernel
theorem dX8_famous_21 : decode cX8_famous 21 = .ok (.getfield 30, 3) := by decide +kernel
theorem dX8_famous_24 : decode cX8_famous 24 = .ok (.getfield 157, 3) := by decide +kernel
theorem dX8_famous_27 : decode cX8_famous 27 = .ok (.goto 10, 3) := by decide +kernel
theorem dX8_famous_30 : decode cX8_famous 30 = .ok (.aload_n 0, 1) := by decide +kernel
theorem dX8_famous_31 : decode cX8_famous 31 = .ok (.getfield 30, 3) := by decide +kernel
theorem dX8_famous_34 : decode cX8_famous 34 = .ok (.getfield 160, 3) := by decide +kernel
theorem dX8_famous_37 : decode cX8_famous 37 = .ok (.astore_n 3, 1) := by decide +kernel
theorem dX8_famous_38 : decode cX8_famous 38 = .ok (.bipush (-9), 2) := by decide +kernel
theorem dX8_famous_40 : decode cX8_famous 40 = .ok (.istore 4, 2) := by decide +kernel
theorem dX8_famous_42 : decode cX8_famous 42 = .ok (.iconst (-1), 1) := by decide +kernel
theorem dX8_famous_43 : decode cX8_famous 43 = .ok (.istore 5, 2) := by decide +kernel
theorem dX8_famous_45 : decode cX8_famous 45 = .ok (.iconst 0, 1) := by decide +kernel
theorem dX8_famous_46 : decode cX8_famous 46 = .ok (.istore 6, 2) := by decide +kernel
theorem dX8_famous_48 : decode cX8_famous 48 = .ok (.iload 6, 2) := by decide +kernel
theorem dX8_famous_50 : decode cX8_famous 50 = .ok (.aload_n 0, 1) := by decide +kernel
theorem dX8_famous_51 : decode cX8_famous 51 = .ok (.getfield 30, 3) := by decide +kernel
theorem dX8_famous_54 : decode cX8_famous 54 = .ok (.getfield 192, 3) := by decide +kernel
theorem dX8_famous_57 : decode cX8_famous 57 = .ok (.if_icmp .ge 28, 3) := by decide +kernel
theorem dX8_famous_60 : decode cX8_famous 60 = .ok (.aload_n 3, 1) := by decide +kernel
theorem dX8_famous_61 : decode cX8_famous 61 = .ok (.iload 6, 2) := by decide +kernel
theorem dX8_famous_63 : decode cX8_famous 63 = .ok (.iaload, 1) := by decide +kernel
theorem dX8_famous_64 : decode cX8_famous 64 = .ok (.iload 5, 2) := by decide +kernel
theorem dX8_famous_66 : decode cX8_famous 66 = .ok (.if_icmp .le 13, 3) := by decide +kernel
theorem dX8_famous_69 : decode cX8_famous 69 = .ok (.iload 6, 2) := by decide +kernel
theorem dX8_famous_71 : decode cX8_famous 71 = .ok (.istore 4, 2) := by decide +kernel
theorem dX8_famous_73 : decode cX8_famous 73 = .ok (.aload_n 3, 1) := by decide +kernel
theorem dX8_famous_74 : decode cX8_famous 74 = .ok (.iload 6, 2) := by decide +kernel
theorem dX8_famous_76 : decode cX8_famous 76 = .ok (.iaload, 1) := by decide +kernel
theorem dX8_famous_77 : decode cX8_famous 77 = .ok (.istore 5, 2) := by decide +kernel
theorem dX8_famous_79 : decode cX8_famous 79 = .ok (.iinc 6 1, 3) := by decide +kernel
theorem dX8_famous_82 : decode cX8_famous 82 = .ok (.goto (-34), 3) := by decide +kernel
theorem dX8_famous_85 : decode cX8_famous 85 = .ok (.iload 4, 2) := by decide +kernel
theorem dX8_famous_87 : decode cX8_famous 87 = .ok (.ireturn, 1) := by decide +kernel
theorem dX8_chained_0 : decode cX8_chained 0 = .ok (.iload_n 1, 1) := by decide +kernel
theorem dX8_chained_1 : decode cX8_chained 1 = .ok (.iconst 3, 1) := by decide +kernel
theorem dX8_chained_2 : decode cX8_chained 2 = .ok (.invokestatic 99, 3) := by decide +kernel
theorem dX8_chained_5 : decode cX8_chained 5 = .ok (.istore_n 2, 1) := by decide +kernel
theorem dX8_chained_6 : decode cX8_chained 6 = .ok (.iload_n 2, 1) := by decide +kernel
theorem dX8_chained_7 : decode cX8_chained 7 = .ok (.ifCond .eq 9, 3) := by decide +kernel
theorem dX8_chained_10 : decode cX8_chained 10 = .ok (.aload_n 0, 1) := by decide +kernel
theorem dX8_chained_11 : decode cX8_chained 11 = .ok (.iload_n 2, 1) := by decide +kernel
theorem dX8_chained_12 : decode cX8_chained 12 = .ok (.invokevirtual 77, 3) := by decide +kernel
theorem dX8_chained_15 : decode cX8_chained 15 = .ok (.ireturn, 1) := by decide +kernel
theorem dX8_chained_16 : decode cX8_chained 16 = .ok (.iload_n 1, 1) := by decide +kernel
theorem dX8_chained_17 : decode cX8_chained 17 = .ok (.lookupswitch 43 #[(0, 27), (1, 35)], 27) := by decide +kernel
theorem dX8_chained_44 : decode cX8_chained 44 = .ok (.aload_n 0, 1) := by decide +kernel
theorem dX8_chained_45 : decode cX8_chained 45 = .ok (.getfield 30, 3) := by decide +kernel
theorem dX8_chained_48 : decode cX8_chained 48 = .ok (.invokevirtual 195, 3) := by decide +kernel
theorem dX8_chained_51 : decode cX8_chained 51 = .ok (.ireturn, 1) := by decide +kernel
theorem dX8_chained_52 : decode cX8_chained 52 = .ok (.aload_n 0, 1) := by decide +kernel
theorem dX8_chained_53 : decode cX8_chained 53 = .ok (.getfield 30, 3) := by decide +kernel
theorem dX8_chained_56 : decode cX8_chained 56 = .ok (.invokevirtual 198, 3) := by decide +kernel
theorem dX8_chained_59 : decode cX8_chained 59 = .ok (.ireturn, 1) := by decide +kernel
theorem dX8_chained_60 : decode cX8_chained 60 = .ok (.aload_n 0, 1) := by decide +kernel
theorem dX8_chained_61 : decode cX8_chained 61 = .ok (.getfield 30, 3) := by decide +kernel
theorem dX8_chained_64 : decode cX8_chained 64 = .ok (.invokevirtual 201, 3) := by decide +kernel
theorem dX8_chained_67 : decode cX8_chained 67 = .ok (.ireturn, 1) := by decide +kernel
theorem dX8_widow_0 : decode cX8_widow 0 = .ok (.aload_n 0, 1) := by decide +kernel
theorem dX8_widow_1 : decode cX8_widow 1 = .ok (.iload_n 1, 1) := by decide +kernel
theorem dX8_widow_2 : decode cX8_widow 2 = .ok (.iload_n 2, 1) := by decide +kernel
theorem dX8_widow_3 : decode cX8_widow 3 = .ok (.invokevirtual 127, 3) := by decide +kernel
theorem dX8_widow_6 : decode cX8_widow 6 = .ok (.istore_n 3, 1) := by decide +kernel
theorem dX8_widow_7 : decode cX8_widow 7 = .ok (.iload_n 3, 1) := by decide +kernel
theorem dX8_widow_8 : decode cX8_widow 8 = .ok (.ifCond .eq 9, 3) := by decide +kernel
theorem dX8_widow_11 : decode cX8_widow 11 = .ok (.aload_n 0, 1) := by decide +kernel
theorem dX8_widow_12 : decode cX8_widow 12 = .ok (.iload_n 3, 1) := by decide +kernel
theorem dX8_widow_13 : decode cX8_widow 13 = .ok (.invokevirtual 77, 3) := by decide +kernel
theorem dX8_widow_16 : decode cX8_widow 16 = .ok (.ireturn, 1) := by decide +kernel
theorem dX8_widow_17 : decode cX8_widow 17 = .ok (.aload_n 0, 1) := by decide +kernel
theorem dX8_widow_18 : decode cX8_widow 18 = .ok (.getfield 30, 3) := by decide +kernel
theorem dX8_widow_21 : decode cX8_widow 21 = .ok (.iload_n 2, 1) := by decide +kernel
theorem dX8_widow_22 : decode cX8_widow 22 = .ok (.invokevirtual 204, 3) := by decide +kernel
theorem dX8_widow_25 : decode cX8_widow 25 = .ok (.istore 4, 2) := by decide +kernel
theorem dX8_widow_27 : decode cX8_widow 27 = .ok (.iload 4, 2) := by decide +kernel
theorem dX8_widow_29 : decode cX8_widow 29 = .ok (.bipush (-9), 2) := by decide +kernel
theorem dX8_widow_31 : decode cX8_widow 31 = .ok (.if_icmp .eq 15, 3) := by decide +kernel
theorem dX8_widow_34 : decode cX8_widow 34 = .ok (.iload 4, 2) := by decide +kernel
theorem dX8_widow_36 : decode cX8_widow 36 = .ok (.iload_n 2, 1) := by decide +kernel
theorem dX8_widow_37 : decode cX8_widow 37 = .ok (.if_icmp .eq 9, 3) := by decide +kernel
theorem dX8_widow_40 : decode cX8_widow 40 = .ok (.iload 4, 2) := by decide +kernel
theorem dX8_widow_42 : decode cX8_widow 42 = .ok (.iload_n 1, 1) := by decide +kernel
theorem dX8_widow_43 : decode cX8_widow 43 = .ok (.if_icmp .ne 6, 3) := by decide +kernel
theorem dX8_widow_46 : decode cX8_widow 46 = .ok (.bipush (-9), 2) := by decide +kernel
theorem dX8_widow_48 : decode cX8_widow 48 = .ok (.ireturn, 1) := by decide +kernel
theorem dX8_widow_49 : decode cX8_widow 49 = .ok (.aload_n 0, 1) := by decide +kernel
theorem dX8_widow_50 : decode cX8_widow 50 = .ok (.getfield 30, 3) := by decide +kernel
theorem dX8_widow_53 : decode cX8_widow 53 = .ok (.iload_n 1, 1) := by decide +kernel
theorem dX8_widow_54 : decode cX8_widow 54 = .ok (.iload_n 2, 1) := by decide +kernel
theorem dX8_widow_55 : decode cX8_widow 55 = .ok (.invokevirtual 151, 3) := by decide +kernel
theorem dX8_widow_58 : decode cX8_widow 58 = .ok (.ifCond .eq 8, 3) := by decide +kernel
theorem dX8_widow_61 : decode cX8_widow 61 = .ok (.iload 4, 2) := by decide +kernel
theorem dX8_widow_63 : decode cX8_widow 63 = .ok (.goto 5, 3) := by decide +kernel
theorem dX8_widow_66 : decode cX8_widow 66 = .ok (.bipush (-9), 2) := by decide +kernel
theorem dX8_widow_68 : decode cX8_widow 68 = .ok (.ireturn, 1) := by decide +kernel
theorem dX8_twins_0 : decode cX8_twins 0 = .ok (.iload_n 1, 1) := by decide +kernel
theorem dX8_twins_1 : decode cX8_twins 1 = .ok (.iconst 2, 1) := by decide +kernel
theorem dX8_twins_2 : decode cX8_twins 2 = .ok (.invokestatic 99, 3) := by decide +kernel
theorem dX8_twins_5 : decode cX8_twins 5 = .ok (.istore_n 2, 1) := by decide +kernel
theorem dX8_twins_6 : decode cX8_twins 6 = .ok (.iload_n 2, 1) := by decide +kernel
theorem dX8_twins_7 : decode cX8_twins 7 = .ok (.ifCond .eq 9, 3) := by decide +kernel
theorem dX8_twins_10 : decode cX8_twins 10 = .ok (.aload_n 0, 1) := by decide +kernel
theorem dX8_twins_11 : decode cX8_twins 11 = .ok (.iload_n 2, 1) := by decide +kernel
theorem dX8_twins_12 : decode cX8_twins 12 = .ok (.invokevirtual 77, 3) := by decide +kernel
theorem dX8_twins_15 : decode cX8_twins 15 = .ok (.ireturn, 1) := by decide +kernel
theorem dX8_twins_16 : decode cX8_twins 16 = .ok (.iconst 0, 1) := by decide +kernel
theorem dX8_twins_17 : decode cX8_twins 17 = .ok (.istore_n 3, 1) := by decide +kernel
theorem dX8_twins_18 : decode cX8_twins 18 = .ok (.bipush (-9), 2) := by decide +kernel
theorem dX8_twins_20 : decode cX8_twins 20 = .ok (.istore 4, 2) := by decide +kernel
theorem dX8_twins_22 : decode cX8_twins 22 = .ok (.iconst 0, 1) := by decide +kernel
theorem dX8_twins_23 : decode cX8_twins 23 = .ok (.istore 5, 2) := by decide +kernel
theorem dX8_twins_25 : decode cX8_twins 25 = .ok (.iload 5, 2) := by decide +kernel
theorem dX8_twins_27 : decode cX8_twins 27 = .ok (.aload_n 0, 1) := by decide +kernel
theorem dX8_twins_28 : decode cX8_twins 28 = .ok (.getfield 30, 3) := by decide +kernel
theorem dX8_twins_31 : decode cX8_twins 31 = .ok (.getfield 192, 3) := by decide +kernel
theorem dX8_twins_34 : decode cX8_twins 34 = .ok (.if_icmp .ge 69, 3) := by decide +kernel
theorem dX8_twins_37 : decode cX8_twins 37 = .ok (.iload 5, 2) := by decide +kernel
theorem dX8_twins_39 : decode cX8_twins 39 = .ok (.iconst 1, 1) := by decide +kernel
theorem dX8_twins_40 : decode cX8_twins 40 = .ok (.iadd, 1) := by decide +kernel
theorem dX8_twins_41 : decode cX8_twins 41 = .ok (.istore 6, 2) := by decide +kernel
theorem dX8_twins_43 : decode cX8_twins 43 = .ok (.iload 6, 2) := by decide +kernel
theorem dX8_twins_45 : decode cX8_twins 45 = .ok (.aload_n 0, 1) := by decide +kernel
theorem dX8_twins_46 : decode cX8_twins 46 = .ok (.getfield 30, 3) := by decide +kernel
theorem dX8_twins_49 : decode cX8_twins 49 = .ok (.getfield 192, 3) := by decide +kernel
theorem dX8_twins_52 : decode cX8_twins 52 = .ok (.if_icmp .ge 45, 3) := by decide +kernel
theorem dX8_twins_55 : decode cX8_twins 55 = .ok (.aload_n 0, 1) := by decide +kernel
theorem dX8_twins_56 : decode cX8_twins 56 = .ok (.getfield 30, 3) := by decide +kernel
theorem dX8_twins_59 : decode cX8_twins 59 = .ok (.iload 5, 2) := by decide +kernel
theorem dX8_twins_61 : decode cX8_twins 61 = .ok (.iload 6, 2) := by decide +kernel
theorem dX8_twins_63 : decode cX8_twins 63 = .ok (.invokevirtual 207, 3) := by decide +kernel
theorem dX8_twins_66 : decode cX8_twins 66 = .ok (.ifCond .eq 25, 3) := by decide +kernel
theorem dX8_twins_69 : decode cX8_twins 69 = .ok (.iload_n 3, 1) := by decide +kernel
theorem dX8_twins_70 : decode cX8_twins 70 = .ok (.ifCond .ne 14, 3) := by decide +kernel
theorem dX8_twins_73 : decode cX8_twins 73 = .ok (.bipush 10, 2) := by decide +kernel
theorem dX8_twins_75 : decode cX8_twins 75 = .ok (.iload 5, 2) := by decide +kernel
theorem dX8_twins_77 : decode cX8_twins 77 = .ok (.imul, 1) := by decide +kernel
theorem dX8_twins_78 : decode cX8_twins 78 = .ok (.iload 6, 2) := by decide +kernel
theorem dX8_twins_80 : decode cX8_twins 80 = .ok (.iadd, 1) := by decide +kernel
theorem dX8_twins_81 : decode cX8_twins 81 = .ok (.goto 5, 3) := by decide +kernel
theorem dX8_twins_84 : decode cX8_twins 84 = .ok (.iload 4, 2) := by decide +kernel
theorem dX8_twins_86 : decode cX8_twins 86 = .ok (.istore 4, 2) := by decide +kernel
theorem dX8_twins_88 : decode cX8_twins 88 = .ok (.iinc 3 1, 3) := by decide +kernel
theorem dX8_twins_91 : decode cX8_twins 91 = .ok (.iinc 6 1, 3) := by decide +kernel
theorem dX8_twins_94 : decode cX8_twins 94 = .ok (.goto (-51), 3) := by decide +kernel
theorem dX8_twins_97 : decode cX8_twins 97 = .ok (.iinc 5 1, 3) := by decide +kernel
theorem dX8_twins_100 : decode cX8_twins 100 = .ok (.goto (-75), 3) := by decide +kernel
theorem dX8_twins_103 : decode cX8_twins 103 = .ok (.iload_n 1, 1) := by decide +kernel
theorem dX8_twins_104 : decode cX8_twins 104 = .ok (.ifCond .ne 7, 3) := by decide +kernel
theorem dX8_twins_107 : decode cX8_twins 107 = .ok (.iload_n 3, 1) := by decide +kernel
theorem dX8_twins_108 : decode cX8_twins 108 = .ok (.goto 5, 3) := by decide +kernel
theorem dX8_twins_111 : decode cX8_twins 111 = .ok (.iload 4, 2) := by decide +kernel
theorem dX8_twins_113 : decode cX8_twins 113 = .ok (.ireturn, 1) := by decide +kernel
theorem dX8_lend_0 : decode cX8_lend 0 = .ok (.aload_n 0, 1) := by decide +kernel
theorem dX8_lend_1 : decode cX8_lend 1 = .ok (.iload_n 1, 1) := by decide +kernel
theorem dX8_lend_2 : decode cX8_lend 2 = .ok (.invokevirtual 96, 3) := by decide +kernel
theorem dX8_lend_5 : decode cX8_lend 5 = .ok (.iload_n 2, 1) := by decide +kernel
theorem dX8_lend_6 : decode cX8_lend 6 = .ok (.iconst 0, 1) := by decide +kernel
theorem dX8_lend_7 : decode cX8_lend 7 = .ok (.bipush 24, 2) := by decide +kernel
theorem dX8_lend_9 : decode cX8_lend 9 = .ok (.invokestatic 73, 3) := by decide +kernel
theorem dX8_lend_12 : decode cX8_lend 12 = .ok (.iload_n 3, 1) := by decide +kernel
theorem dX8_lend_13 : decode cX8_lend 13 = .ok (.iconst 2, 1) := by decide +kernel
theorem dX8_lend_14 : decode cX8_lend 14 = .ok (.invokestatic 99, 3) := by decide +kernel
theorem dX8_lend_17 : decode cX8_lend 17 = .ok (.invokestatic 154, 3) := by decide +kernel
theorem dX8_lend_20 : decode cX8_lend 20 = .ok (.istore 4, 2) := by decide +kernel
theorem dX8_lend_22 : decode cX8_lend 22 = .ok (.iload 4, 2) := by decide +kernel
theorem dX8_lend_24 : decode cX8_lend 24 = .ok (.ifCond .eq 10, 3) := by decide +kernel
theorem dX8_lend_27 : decode cX8_lend 27 = .ok (.aload_n 0, 1) := by decide +kernel
theorem dX8_lend_28 : decode cX8_lend 28 = .ok (.iload 4, 2) := by decide +kernel
theorem dX8_lend_30 : decode cX8_lend 30 = .ok (.invokevirtual 77, 3) := by decide +kernel
theorem dX8_lend_33 : decode cX8_lend 33 = .ok (.ireturn, 1) := by decide +kernel
theorem dX8_lend_34 : decode cX8_lend 34 = .ok (.aload_n 0, 1) := by decide +kernel
theorem dX8_lend_35 : decode cX8_lend 35 = .ok (.getfield 30, 3) := by decide +kernel
theorem dX8_lend_38 : decode cX8_lend 38 = .ok (.iload_n 1, 1) := by decide +kernel
theorem dX8_lend_39 : decode cX8_lend 39 = .ok (.invokevirtual 189, 3) := by decide +kernel
theorem dX8_lend_42 : decode cX8_lend 42 = .ok (.ifCond .ne 10, 3) := by decide +kernel
theorem dX8_lend_45 : decode cX8_lend 45 = .ok (.aload_n 0, 1) := by decide +kernel
theorem dX8_lend_46 : decode cX8_lend 46 = .ok (.bipush (-3), 2) := by decide +kernel
theorem dX8_lend_48 : decode cX8_lend 48 = .ok (.invokevirtual 77, 3) := by decide +kernel
theorem dX8_lend_51 : decode cX8_lend 51 = .ok (.ireturn, 1) := by decide +kernel
theorem dX8_lend_52 : decode cX8_lend 52 = .ok (.aload_n 0, 1) := by decide +kernel
theorem dX8_lend_53 : decode cX8_lend 53 = .ok (.iload_n 1, 1) := by decide +kernel
theorem dX8_lend_54 : decode cX8_lend 54 = .ok (.iload_n 2, 1) := by decide +kernel
theorem dX8_lend_55 : decode cX8_lend 55 = .ok (.iconst 1, 1) := by decide +kernel
theorem dX8_lend_56 : decode cX8_lend 56 = .ok (.iload_n 3, 1) := by decide +kernel
theorem dX8_lend_57 : decode cX8_lend 57 = .ok (.ifCond .ne 7, 3) := by decide +kernel
theorem dX8_lend_60 : decode cX8_lend 60 = .ok (.iconst 1, 1) := by decide +kernel
theorem dX8_lend_61 : decode cX8_lend 61 = .ok (.goto 4, 3) := by decide +kernel
theorem dX8_lend_64 : decode cX8_lend 64 = .ok (.iconst (-1), 1) := by decide +kernel
theorem dX8_lend_65 : decode cX8_lend 65 = .ok (.invokevirtual 210, 3) := by decide +kernel
theorem dX8_lend_68 : decode cX8_lend 68 = .ok (.ireturn, 1) := by decide +kernel
theorem dX8_take_0 : decode cX8_take 0 = .ok (.aload_n 0, 1) := by decide +kernel
theorem dX8_take_1 : decode cX8_take 1 = .ok (.iload_n 1, 1) := by decide +kernel
theorem dX8_take_2 : decode cX8_take 2 = .ok (.invokevirtual 96, 3) := by decide +kernel
theorem dX8_take_5 : decode cX8_take 5 = .ok (.iload_n 2, 1) := by decide +kernel
theorem dX8_take_6 : decode cX8_take 6 = .ok (.iconst 0, 1) := by decide +kernel
theorem dX8_take_7 : decode cX8_take 7 = .ok (.bipush 24, 2) := by decide +kernel
theorem dX8_take_9 : decode cX8_take 9 = .ok (.invokestatic 73, 3) := by decide +kernel
theorem dX8_take_12 : decode cX8_take 12 = .ok (.invokestatic 103, 3) := by decide +kernel
theorem dX8_take_15 : decode cX8_take 15 = .ok (.istore_n 3, 1) := by decide +kernel
theorem dX8_take_16 : decode cX8_take 16 = .ok (.iload_n 3, 1) := by decide +kernel
theorem dX8_take_17 : decode cX8_take 17 = .ok (.ifCond .eq 9, 3) := by decide +kernel
theorem dX8_take_20 : decode cX8_take 20 = .ok (.aload_n 0, 1) := by decide +kernel
theorem dX8_take_21 : decode cX8_take 21 = .ok (.iload_n 3, 1) := by decide +kernel
theorem dX8_take_22 : decode cX8_take 22 = .ok (.invokevirtual 77, 3) := by decide +kernel
theorem dX8_take_25 : decode cX8_take 25 = .ok (.ireturn, 1) := by decide +kernel
theorem dX8_take_26 : decode cX8_take 26 = .ok (.aload_n 0, 1) := by decide +kernel
theorem dX8_take_27 : decode cX8_take 27 = .ok (.getfield 30, 3) := by decide +kernel
theorem dX8_take_30 : decode cX8_take 30 = .ok (.iload_n 1, 1) := by decide +kernel
theorem dX8_take_31 : decode cX8_take 31 = .ok (.invokevirtual 189, 3) := by decide +kernel
theorem dX8_take_34 : decode cX8_take 34 = .ok (.ifCond .ne 10, 3) := by decide +kernel
theorem dX8_take_37 : decode cX8_take 37 = .ok (.aload_n 0, 1) := by decide +kernel
theorem dX8_take_38 : decode cX8_take 38 = .ok (.bipush (-3), 2) := by decide +kernel
theorem dX8_take_40 : decode cX8_take 40 = .ok (.invokevirtual 77, 3) := by decide +kernel
theorem dX8_take_43 : decode cX8_take 43 = .ok (.ireturn, 1) := by decide +kernel
theorem dX8_take_44 : decode cX8_take 44 = .ok (.aload_n 0, 1) := by decide +kernel
theorem dX8_take_45 : decode cX8_take 45 = .ok (.iload_n 1, 1) := by decide +kernel
theorem dX8_take_46 : decode cX8_take 46 = .ok (.iload_n 2, 1) := by decide +kernel
theorem dX8_take_47 : decode cX8_take 47 = .ok (.iconst 0, 1) := by decide +kernel
theorem dX8_take_48 : decode cX8_take 48 = .ok (.iconst 1, 1) := by decide +kernel
theorem dX8_take_49 : decode cX8_take 49 = .ok (.invokevirtual 210, 3) := by decide +kernel
theorem dX8_take_52 : decode cX8_take 52 = .ok (.ireturn, 1) := by decide +kernel
theorem dX8_bestPartner_0 : decode cX8_bestPartner 0 = .ok (.aload_n 0, 1) := by decide +kernel
theorem dX8_bestPartner_1 : decode cX8_bestPartner 1 = .ok (.iload_n 2, 1) := by decide +kernel
theorem dX8_bestPartner_2 : decode cX8_bestPartner 2 = .ok (.invokevirtual 170, 3) := by decide +kernel
theorem dX8_bestPartner_5 : decode cX8_bestPartner 5 = .ok (.iload 4, 2) := by decide +kernel
theorem dX8_bestPartner_7 : decode cX8_bestPartner 7 = .ok (.aload_n 0, 1) := by decide +kernel
theorem dX8_bestPartner_8 : decode cX8_bestPartner 8 = .ok (.getfield 36, 3) := by decide +kernel
theorem dX8_bestPartner_11 : decode cX8_bestPartner 11 = .ok (.iload_n 1, 1) := by decide +kernel
theorem dX8_bestPartner_12 : decode cX8_bestPartner 12 = .ok (.invokevirtual 124, 3) := by decide +kernel
theorem dX8_bestPartner_15 : decode cX8_bestPartner 15 = .ok (.imul, 1) := by decide +kernel
theorem dX8_bestPartner_16 : decode cX8_bestPartner 16 = .ok (.istore 5, 2) := by decide +kernel
theorem dX8_bestPartner_18 : decode cX8_bestPartner 18 = .ok (.bipush (-9), 2) := by decide +kernel
theorem dX8_bestPartner_20 : decode cX8_bestPartner 20 = .ok (.istore 6, 2) := by decide +kernel
theorem dX8_bestPartner_22 : decode cX8_bestPartner 22 = .ok (.iconst 0, 1) := by decide +kernel
theorem dX8_bestPartner_23 : decode cX8_bestPartner 23 = .ok (.istore 7, 2) := by decide +kernel
theorem dX8_bestPartner_25 : decode cX8_bestPartner 25 = .ok (.iload 7, 2) := by decide +kernel
theorem dX8_bestPartner_27 : decode cX8_bestPartner 27 = .ok (.aload_n 0, 1) := by decide +kernel
theorem dX8_bestPartner_28 : decode cX8_bestPartner 28 = .ok (.getfield 30, 3) := by decide +kernel
theorem dX8_bestPartner_31 : decode cX8_bestPartner 31 = .ok (.getfield 192, 3) := by decide +kernel
theorem dX8_bestPartner_34 : decode cX8_bestPartner 34 = .ok (.if_icmp .ge 75, 3) := by decide +kernel
theorem dX8_bestPartner_37 : decode cX8_bestPartner 37 = .ok (.aload_n 0, 1) := by decide +kernel
theorem dX8_bestPartner_38 : decode cX8_bestPartner 38 = .ok (.getfield 30, 3) := by decide +kernel
theorem dX8_bestPartner_41 : decode cX8_bestPartner 41 = .ok (.iload_n 1, 1) := by decide +kernel
theorem dX8_bestPartner_42 : decode cX8_bestPartner 42 = .ok (.iload 7, 2) := by decide +kernel
theorem dX8_bestPartner_44 : decode cX8_bestPartner 44 = .ok (.invokevirtual 130, 3) := by decide +kernel
theorem dX8_bestPartner_47 : decode cX8_bestPartner 47 = .ok (.ifCond .eq 56, 3) := by decide +kernel
theorem dX8_bestPartner_50 : decode cX8_bestPartner 50 = .ok (.aload_n 0, 1) := by decide +kernel
theorem dX8_bestPartner_51 : decode cX8_bestPartner 51 = .ok (.iload_n 3, 1) := by decide +kernel
theorem dX8_bestPartner_52 : decode cX8_bestPartner 52 = .ok (.ifCond .eq 7, 3) := by decide +kernel
theorem dX8_bestPartner_55 : decode cX8_bestPartner 55 = .ok (.iload_n 1, 1) := by decide +kernel
theorem dX8_bestPartner_56 : decode cX8_bestPartner 56 = .ok (.goto 5, 3) := by decide +kernel
theorem dX8_bestPartner_59 : decode cX8_bestPartner 59 = .ok (.iload 7, 2) := by decide +kernel
theorem dX8_bestPartner_61 : decode cX8_bestPartner 61 = .ok (.iload_n 3, 1) := by decide +kernel
theorem dX8_bestPartner_62 : decode cX8_bestPartner 62 = .ok (.ifCond .eq 8, 3) := by decide +kernel
theorem dX8_bestPartner_65 : decode cX8_bestPartner 65 = .ok (.iload 7, 2) := by decide +kernel
theorem dX8_bestPartner_67 : decode cX8_bestPartner 67 = .ok (.goto 4, 3) := by decide +kernel
theorem dX8_bestPartner_70 : decode cX8_bestPartner 70 = .ok (.iload_n 1, 1) := by decide +kernel
theorem dX8_bestPartner_71 : decode cX8_bestPartner 71 = .ok (.iload_n 2, 1) := by decide +kernel
theorem dX8_bestPartner_72 : decode cX8_bestPartner 72 = .ok (.invokevirtual 214, 3) := by decide +kernel
theorem dX8_bestPartner_75 : decode cX8_bestPartner 75 = .ok (.iload 4, 2) := by decide +kernel
theorem dX8_bestPartner_77 : decode cX8_bestPartner 77 = .ok (.aload_n 0, 1) := by decide +kernel
theorem dX8_bestPartner_78 : decode cX8_bestPartner 78 = .ok (.getfield 36, 3) := by decide +kernel
theorem dX8_bestPartner_81 : decode cX8_bestPartner 81 = .ok (.iload_n 1, 1) := by decide +kernel
theorem dX8_bestPartner_82 : decode cX8_bestPartner 82 = .ok (.invokevirtual 124, 3) := by decide +kernel
theorem dX8_bestPartner_85 : decode cX8_bestPartner 85 = .ok (.imul, 1) := by decide +kernel
theorem dX8_bestPartner_86 : decode cX8_bestPartner 86 = .ok (.istore 8, 2) := by decide +kernel
theorem dX8_bestPartner_88 : decode cX8_bestPartner 88 = .ok (.iload 8, 2) := by decide +kernel
theorem dX8_bestPartner_90 : decode cX8_bestPartner 90 = .ok (.iload 5, 2) := by decide +kernel
theorem dX8_bestPartner_92 : decode cX8_bestPartner 92 = .ok (.if_icmp .le 11, 3) := by decide +kernel
theorem dX8_bestPartner_95 : decode cX8_bestPartner 95 = .ok (.iload 8, 2) := by decide +kernel
theorem dX8_bestPartner_97 : decode cX8_bestPartner 97 = .ok (.istore 5, 2) := by decide +kernel
theorem dX8_bestPartner_99 : decode cX8_bestPartner 99 = .ok (.iload 7, 2) := by decide +kernel
theorem dX8_bestPartner_101 : decode cX8_bestPartner 101 = .ok (.istore 6, 2) := by decide +kernel
theorem dX8_bestPartner_103 : decode cX8_bestPartner 103 = .ok (.iinc 7 1, 3) := by decide +kernel
theorem dX8_bestPartner_106 : decode cX8_bestPartner 106 = .ok (.goto (-81), 3) := by decide +kernel
theorem dX8_bestPartner_109 : decode cX8_bestPartner 109 = .ok (.iload 6, 2) := by decide +kernel
theorem dX8_bestPartner_111 : decode cX8_bestPartner 111 = .ok (.ireturn, 1) := by decide +kernel
theorem dX8_thinkOfLending_0 : decode cX8_thinkOfLending 0 = .ok (.aload_n 0, 1) := by decide +kernel
theorem dX8_thinkOfLending_1 : decode cX8_thinkOfLending 1 = .ok (.getfield 36, 3) := by decide +kernel
theorem dX8_thinkOfLending_4 : decode cX8_thinkOfLending 4 = .ok (.aload_n 0, 1) := by decide +kernel
theorem dX8_thinkOfLending_5 : decode cX8_thinkOfLending 5 = .ok (.getfield 30, 3) := by decide +kernel
theorem dX8_thinkOfLending_8 : decode cX8_thinkOfLending 8 = .ok (.invokevirtual 88, 3) := by decide +kernel
theorem dX8_thinkOfLending_11 : decode cX8_thinkOfLending 11 = .ok (.aload_n 0, 1) := by decide +kernel
theorem dX8_thinkOfLending_12 : decode cX8_thinkOfLending 12 = .ok (.getfield 36, 3) := by decide +kernel
theorem dX8_thinkOfLending_15 : decode cX8_thinkOfLending 15 = .ok (.iload_n 1, 1) := by decide +kernel
theorem dX8_thinkOfLending_16 : decode cX8_thinkOfLending 16 = .ok (.iload_n 2, 1) := by decide +kernel
theorem dX8_thinkOfLending_17 : decode cX8_thinkOfLending 17 = .ok (.invokevirtual 134, 3) := by decide +kernel
theorem dX8_thinkOfLending_20 : decode cX8_thinkOfLending 20 = .ok (.aload_n 0, 1) := by decide +kernel
theorem dX8_thinkOfLending_21 : decode cX8_thinkOfLending 21 = .ok (.getfield 36, 3) := by decide +kernel
theorem dX8_thinkOfLending_24 : decode cX8_thinkOfLending 24 = .ok (.iload_n 3, 1) := by decide +kernel
theorem dX8_thinkOfLending_25 : decode cX8_thinkOfLending 25 = .ok (.invokevirtual 166, 3) := by decide +kernel
theorem dX8_thinkOfLending_28 : decode cX8_thinkOfLending 28 = .ok (.return_, 1) := by decide +kernel
theorem dX8_keep_0 : decode cX8_keep 0 = .ok (.iload_n 1, 1) := by decide +kernel
theorem dX8_keep_1 : decode cX8_keep 1 = .ok (.iconst 0, 1) := by decide +kernel
theorem dX8_keep_2 : decode cX8_keep 2 = .ok (.bipush 24, 2) := by decide +kernel
theorem dX8_keep_4 : decode cX8_keep 4 = .ok (.invokestatic 73, 3) := by decide +kernel
theorem dX8_keep_7 : decode cX8_keep 7 = .ok (.istore_n 2, 1) := by decide +kernel
theorem dX8_keep_8 : decode cX8_keep 8 = .ok (.iload_n 2, 1) := by decide +kernel
theorem dX8_keep_9 : decode cX8_keep 9 = .ok (.ifCond .eq 9, 3) := by decide +kernel
theorem dX8_keep_12 : decode cX8_keep 12 = .ok (.aload_n 0, 1) := by decide +kernel
theorem dX8_keep_13 : decode cX8_keep 13 = .ok (.iload_n 2, 1) := by decide +kernel
theorem dX8_keep_14 : decode cX8_keep 14 = .ok (.invokevirtual 77, 3) := by decide +kernel
theorem dX8_keep_17 : decode cX8_keep 17 = .ok (.ireturn, 1) := by decide +kernel
theorem dX8_keep_18 : decode cX8_keep 18 = .ok (.aload_n 0, 1) := by decide +kernel
theorem dX8_keep_19 : decode cX8_keep 19 = .ok (.iload_n 1, 1) := by decide +kernel
theorem dX8_keep_20 : decode cX8_keep 20 = .ok (.invokevirtual 170, 3) := by decide +kernel
theorem dX8_keep_23 : decode cX8_keep 23 = .ok (.aload_n 0, 1) := by decide +kernel
theorem dX8_keep_24 : decode cX8_keep 24 = .ok (.getfield 36, 3) := by decide +kernel
theorem dX8_keep_27 : decode cX8_keep 27 = .ok (.invokevirtual 218, 3) := by decide +kernel
theorem dX8_keep_30 : decode cX8_keep 30 = .ok (.istore_n 3, 1) := by decide +kernel
theorem dX8_keep_31 : decode cX8_keep 31 = .ok (.bipush (-9), 2) := by decide +kernel
theorem dX8_keep_33 : decode cX8_keep 33 = .ok (.istore 4, 2) := by decide +kernel
theorem dX8_keep_35 : decode cX8_keep 35 = .ok (.iconst 0, 1) := by decide +kernel
theorem dX8_keep_36 : decode cX8_keep 36 = .ok (.istore 5, 2) := by decide +kernel
theorem dX8_keep_38 : decode cX8_keep 38 = .ok (.iload 5, 2) := by decide +kernel
theorem dX8_keep_40 : decode cX8_keep 40 = .ok (.aload_n 0, 1) := by decide +kernel
theorem dX8_keep_41 : decode cX8_keep 41 = .ok (.getfield 30, 3) := by decide +kernel
theorem dX8_keep_44 : decode cX8_keep 44 = .ok (.getfield 192, 3) := by decide +kernel
theorem dX8_keep_47 : decode cX8_keep 47 = .ok (.if_icmp .ge 73, 3) := by decide +kernel
theorem dX8_keep_50 : decode cX8_keep 50 = .ok (.aload_n 0, 1) := by decide +kernel
theorem dX8_keep_51 : decode cX8_keep 51 = .ok (.getfield 30, 3) := by decide +kernel
theorem dX8_keep_54 : decode cX8_keep 54 = .ok (.iload 5, 2) := by decide +kernel
theorem dX8_keep_56 : decode cX8_keep 56 = .ok (.invokevirtual 142, 3) := by decide +kernel
theorem dX8_keep_59 : decode cX8_keep 59 = .ok (.ifCond .eq 55, 3) := by decide +kernel
theorem dX8_keep_62 : decode cX8_keep 62 = .ok (.aload_n 0, 1) := by decide +kernel
theorem dX8_keep_63 : decode cX8_keep 63 = .ok (.getfield 36, 3) := by decide +kernel
theorem dX8_keep_66 : decode cX8_keep 66 = .ok (.aload_n 0, 1) := by decide +kernel
theorem dX8_keep_67 : decode cX8_keep 67 = .ok (.getfield 30, 3) := by decide +kernel
theorem dX8_keep_70 : decode cX8_keep 70 = .ok (.invokevirtual 88, 3) := by decide +kernel
theorem dX8_keep_73 : decode cX8_keep 73 = .ok (.aload_n 0, 1) := by decide +kernel
theorem dX8_keep_74 : decode cX8_keep 74 = .ok (.getfield 36, 3) := by decide +kernel
theorem dX8_keep_77 : decode cX8_keep 77 = .ok (.iload 5, 2) := by decide +kernel
theorem dX8_keep_79 : decode cX8_keep 79 = .ok (.invokevirtual 145, 3) := by decide +kernel
theorem dX8_keep_82 : decode cX8_keep 82 = .ok (.pop, 1) := by decide +kernel
theorem dX8_keep_83 : decode cX8_keep 83 = .ok (.aload_n 0, 1) := by decide +kernel
theorem dX8_keep_84 : decode cX8_keep 84 = .ok (.getfield 36, 3) := by decide +kernel
theorem dX8_keep_87 : decode cX8_keep 87 = .ok (.iload_n 1, 1) := by decide +kernel
theorem dX8_keep_88 : decode cX8_keep 88 = .ok (.invokevirtual 166, 3) := by decide +kernel
theorem dX8_keep_91 : decode cX8_keep 91 = .ok (.aload_n 0, 1) := by decide +kernel
theorem dX8_keep_92 : decode cX8_keep 92 = .ok (.getfield 36, 3) := by decide +kernel
theorem dX8_keep_95 : decode cX8_keep 95 = .ok (.invokevirtual 218, 3) := by decide +kernel
theorem dX8_keep_98 : decode cX8_keep 98 = .ok (.iload_n 3, 1) := by decide +kernel
theorem dX8_keep_99 : decode cX8_keep 99 = .ok (.if_icmp .le 15, 3) := by decide +kernel
theorem dX8_keep_102 : decode cX8_keep 102 = .ok (.aload_n 0, 1) := by decide +kernel
theorem dX8_keep_103 : decode cX8_keep 103 = .ok (.getfield 36, 3) := by decide +kernel
theorem dX8_keep_106 : decode cX8_keep 106 = .ok (.invokevirtual 218, 3) := by decide +kernel
theorem dX8_keep_109 : decode cX8_keep 109 = .ok (.istore_n 3, 1) := by decide +kernel
theorem dX8_keep_110 : decode cX8_keep 110 = .ok (.iload 5, 2) := by decide +kernel
theorem dX8_keep_112 : decode cX8_keep 112 = .ok (.istore 4, 2) := by decide +kernel
theorem dX8_keep_114 : decode cX8_keep 114 = .ok (.iinc 5 1, 3) := by decide +kernel
theorem dX8_keep_117 : decode cX8_keep 117 = .ok (.goto (-79), 3) := by decide +kernel
theorem dX8_keep_120 : decode cX8_keep 120 = .ok (.iload 4, 2) := by decide +kernel
theorem dX8_keep_122 : decode cX8_keep 122 = .ok (.ireturn, 1) := by decide +kernel
theorem dX8_lot_0 : decode cX8_lot 0 = .ok (.iload_n 1, 1) := by decide +kernel
theorem dX8_lot_1 : decode cX8_lot 1 = .ok (.iconst 2, 1) := by decide +kernel
theorem dX8_lot_2 : decode cX8_lot 2 = .ok (.invokestatic 99, 3) := by decide +kernel
theorem dX8_lot_5 : decode cX8_lot 5 = .ok (.istore_n 2, 1) := by decide +kernel
theorem dX8_lot_6 : decode cX8_lot 6 = .ok (.iload_n 2, 1) := by decide +kernel
theorem dX8_lot_7 : decode cX8_lot 7 = .ok (.ifCond .eq 9, 3) := by decide +kernel
theorem dX8_lot_10 : decode cX8_lot 10 = .ok (.aload_n 0, 1) := by decide +kernel
theorem dX8_lot_11 : decode cX8_lot 11 = .ok (.iload_n 2, 1) := by decide +kernel
theorem dX8_lot_12 : decode cX8_lot 12 = .ok (.invokevirtual 121, 3) := by decide +kernel
theorem dX8_lot_15 : decode cX8_lot 15 = .ok (.ireturn, 1) := by decide +kernel
theorem dX8_lot_16 : decode cX8_lot 16 = .ok (.aload_n 0, 1) := by decide +kernel
theorem dX8_lot_17 : decode cX8_lot 17 = .ok (.invokevirtual 221, 3) := by decide +kernel
theorem dX8_lot_20 : decode cX8_lot 20 = .ok (.iconst 2, 1) := by decide +kernel
theorem dX8_lot_21 : decode cX8_lot 21 = .ok (.idiv, 1) := by decide +kernel
theorem dX8_lot_22 : decode cX8_lot 22 = .ok (.istore_n 3, 1) := by decide +kernel
theorem dX8_lot_23 : decode cX8_lot 23 = .ok (.iconst 0, 1) := by decide +kernel
theorem dX8_lot_24 : decode cX8_lot 24 = .ok (.istore 4, 2) := by decide +kernel
theorem dX8_lot_26 : decode cX8_lot 26 = .ok (.aload_n 0, 1) := by decide +kernel
theorem dX8_lot_27 : decode cX8_lot 27 = .ok (.iconst 0, 1) := by decide +kernel
theorem dX8_lot_28 : decode cX8_lot 28 = .ok (.iload_n 3, 1) := by decide +kernel
theorem dX8_lot_29 : decode cX8_lot 29 = .ok (.invokevirtual 224, 3) := by decide +kernel
theorem dX8_lot_32 : decode cX8_lot 32 = .ok (.istore 5, 2) := by decide +kernel
theorem dX8_lot_34 : decode cX8_lot 34 = .ok (.iconst 1, 1) := by decide +kernel
theorem dX8_lot_35 : decode cX8_lot 35 = .ok (.istore 6, 2) := by decide +kernel
theorem dX8_lot_37 : decode cX8_lot 37 = .ok (.iload 6, 2) := by decide +kernel
theorem dX8_lot_39 : decode cX8_lot 39 = .ok (.iconst 1, 1) := by decide +kernel
theorem dX8_lot_40 : decode cX8_lot 40 = .ok (.iload_n 3, 1) := by decide +kernel
theorem dX8_lot_41 : decode cX8_lot 41 = .ok (.ishl, 1) := by decide +kernel
theorem dX8_lot_42 : decode cX8_lot 42 = .ok (.if_icmp .ge 33, 3) := by decide +kernel
theorem dX8_lot_45 : decode cX8_lot 45 = .ok (.aload_n 0, 1) := by decide +kernel
theorem dX8_lot_46 : decode cX8_lot 46 = .ok (.iload 6, 2) := by decide +kernel
theorem dX8_lot_48 : decode cX8_lot 48 = .ok (.iload_n 3, 1) := by decide +kernel
theorem dX8_lot_49 : decode cX8_lot 49 = .ok (.invokevirtual 224, 3) := by decide +kernel
theorem dX8_lot_52 : decode cX8_lot 52 = .ok (.istore 7, 2) := by decide +kernel
theorem dX8_lot_54 : decode cX8_lot 54 = .ok (.iload 7, 2) := by decide +kernel
theorem dX8_lot_56 : decode cX8_lot 56 = .ok (.iload 5, 2) := by decide +kernel
theorem dX8_lot_58 : decode cX8_lot 58 = .ok (.if_icmp .le 11, 3) := by decide +kernel
theorem dX8_lot_61 : decode cX8_lot 61 = .ok (.iload 7, 2) := by decide +kernel
theorem dX8_lot_63 : decode cX8_lot 63 = .ok (.istore 5, 2) := by decide +kernel
theorem dX8_lot_65 : decode cX8_lot 65 = .ok (.iload 6, 2) := by decide +kernel
theorem dX8_lot_67 : decode cX8_lot 67 = .ok (.istore 4, 2) := by decide +kernel
theorem dX8_lot_69 : decode cX8_lot 69 = .ok (.iinc 6 1, 3) := by decide +kernel
theorem dX8_lot_72 : decode cX8_lot 72 = .ok (.goto (-35), 3) := by decide +kernel
theorem dX8_lot_75 : decode cX8_lot 75 = .ok (.iload_n 1, 1) := by decide +kernel
theorem dX8_lot_76 : decode cX8_lot 76 = .ok (.ifCond .ne 8, 3) := by decide +kernel
theorem dX8_lot_79 : decode cX8_lot 79 = .ok (.iload 4, 2) := by decide +kernel
theorem dX8_lot_81 : decode cX8_lot 81 = .ok (.goto 5, 3) := by decide +kernel
theorem dX8_lot_84 : decode cX8_lot 84 = .ok (.iload 5, 2) := by decide +kernel
theorem dX8_lot_86 : decode cX8_lot 86 = .ok (.ireturn, 1) := by decide +kernel
theorem dX8_findFree_0 : decode cX8_findFree 0 = .ok (.iconst 0, 1) := by decide +kernel
theorem dX8_findFree_1 : decode cX8_findFree 1 = .ok (.istore_n 1, 1) := by decide +kernel
theorem dX8_findFree_2 : decode cX8_findFree 2 = .ok (.iconst 0, 1) := by decide +kernel
theorem dX8_findFree_3 : decode cX8_findFree 3 = .ok (.istore_n 2, 1) := by decide +kernel
theorem dX8_findFree_4 : decode cX8_findFree 4 = .ok (.iload_n 2, 1) := by decide +kernel
theorem dX8_findFree_5 : decode cX8_findFree 5 = .ok (.aload_n 0, 1) := by decide +kernel
theorem dX8_findFree_6 : decode cX8_findFree 6 = .ok (.getfield 30, 3) := by decide +kernel
theorem dX8_findFree_9 : decode cX8_findFree 9 = .ok (.getfield 192, 3) := by decide +kernel
theorem dX8_findFree_12 : decode cX8_findFree 12 = .ok (.if_icmp .ge 30, 3) := by decide +kernel
theorem dX8_findFree_15 : decode cX8_findFree 15 = .ok (.aload_n 0, 1) := by decide +kernel
theorem dX8_findFree_16 : decode cX8_findFree 16 = .ok (.getfield 30, 3) := by decide +kernel
theorem dX8_findFree_19 : decode cX8_findFree 19 = .ok (.iload_n 2, 1) := by decide +kernel
theorem dX8_findFree_20 : decode cX8_findFree 20 = .ok (.invokevirtual 189, 3) := by decide +kernel
theorem dX8_findFree_23 : decode cX8_findFree 23 = .ok (.ifCond .eq 13, 3) := by decide +kernel
theorem dX8_findFree_26 : decode cX8_findFree 26 = .ok (.aload_n 0, 1) := by decide +kernel
theorem dX8_findFree_27 : decode cX8_findFree 27 = .ok (.getfield 56, 3) := by decide +kernel
theorem dX8_findFree_30 : decode cX8_findFree 30 = .ok (.iload_n 1, 1) := by decide +kernel
theorem dX8_findFree_31 : decode cX8_findFree 31 = .ok (.iload_n 2, 1) := by decide +kernel
theorem dX8_findFree_32 : decode cX8_findFree 32 = .ok (.iastore, 1) := by decide +kernel
theorem dX8_findFree_33 : decode cX8_findFree 33 = .ok (.iinc 1 1, 3) := by decide +kernel
theorem dX8_findFree_36 : decode cX8_findFree 36 = .ok (.iinc 2 1, 3) := by decide +kernel
theorem dX8_findFree_39 : decode cX8_findFree 39 = .ok (.goto (-35), 3) := by decide +kernel
theorem dX8_findFree_42 : decode cX8_findFree 42 = .ok (.iload_n 1, 1) := by decide +kernel
theorem dX8_findFree_43 : decode cX8_findFree 43 = .ok (.ireturn, 1) := by decide +kernel
theorem dX8_worthsOfLot_0 : decode cX8_worthsOfLot 0 = .ok (.aload_n 0, 1) := by decide +kernel
theorem dX8_worthsOfLot_1 : decode cX8_worthsOfLot 1 = .ok (.getfield 36, 3) := by decide +kernel
theorem dX8_worthsOfLot_4 : decode cX8_worthsOfLot 4 = .ok (.aload_n 0, 1) := by decide +kernel
theorem dX8_worthsOfLot_5 : decode cX8_worthsOfLot 5 = .ok (.getfield 30, 3) := by decide +kernel
theorem dX8_worthsOfLot_8 : decode cX8_worthsOfLot 8 = .ok (.invokevirtual 88, 3) := by decide +kernel
theorem dX8_worthsOfLot_11 : decode cX8_worthsOfLot 11 = .ok (.iconst 0, 1) := by decide +kernel
theorem dX8_worthsOfLot_12 : decode cX8_worthsOfLot 12 = .ok (.istore_n 3, 1) := by decide +kernel
theorem dX8_worthsOfLot_13 : decode cX8_worthsOfLot 13 = .ok (.iload_n 3, 1) := by decide +kernel
theorem dX8_worthsOfLot_14 : decode cX8_worthsOfLot 14 = .ok (.iload_n 2, 1) := by decide +kernel
theorem dX8_worthsOfLot_15 : decode cX8_worthsOfLot 15 = .ok (.if_icmp .ge 47, 3) := by decide +kernel
theorem dX8_worthsOfLot_18 : decode cX8_worthsOfLot 18 = .ok (.iload_n 1, 1) := by decide +kernel
theorem dX8_worthsOfLot_19 : decode cX8_worthsOfLot 19 = .ok (.iload_n 3, 1) := by decide +kernel
theorem dX8_worthsOfLot_20 : decode cX8_worthsOfLot 20 = .ok (.ishr, 1) := by decide +kernel
theorem dX8_worthsOfLot_21 : decode cX8_worthsOfLot 21 = .ok (.iconst 1, 1) := by decide +kernel
theorem dX8_worthsOfLot_22 : decode cX8_worthsOfLot 22 = .ok (.iand, 1) := by decide +kernel
theorem dX8_worthsOfLot_23 : decode cX8_worthsOfLot 23 = .ok (.istore 4, 2) := by decide +kernel
theorem dX8_worthsOfLot_25 : decode cX8_worthsOfLot 25 = .ok (.aload_n 0, 1) := by decide +kernel
theorem dX8_worthsOfLot_26 : decode cX8_worthsOfLot 26 = .ok (.getfield 36, 3) := by decide +kernel
theorem dX8_worthsOfLot_29 : decode cX8_worthsOfLot 29 = .ok (.aload_n 0, 1) := by decide +kernel
theorem dX8_worthsOfLot_30 : decode cX8_worthsOfLot 30 = .ok (.getfield 56, 3) := by decide +kernel
theorem dX8_worthsOfLot_33 : decode cX8_worthsOfLot 33 = .ok (.iconst 2, 1) := by decide +kernel
theorem dX8_worthsOfLot_34 : decode cX8_worthsOfLot 34 = .ok (.iload_n 3, 1) := by decide +kernel
theorem dX8_worthsOfLot_35 : decode cX8_worthsOfLot 35 = .ok (.imul, 1) := by decide +kernel
theorem dX8_worthsOfLot_36 : decode cX8_worthsOfLot 36 = .ok (.iload 4, 2) := by decide +kernel
theorem dX8_worthsOfLot_38 : decode cX8_worthsOfLot 38 = .ok (.iadd, 1) := by decide +kernel
theorem dX8_worthsOfLot_39 : decode cX8_worthsOfLot 39 = .ok (.iaload, 1) := by decide +kernel
theorem dX8_worthsOfLot_40 : decode cX8_worthsOfLot 40 = .ok (.aload_n 0, 1) := by decide +kernel
theorem dX8_worthsOfLot_41 : decode cX8_worthsOfLot 41 = .ok (.getfield 56, 3) := by decide +kernel
theorem dX8_worthsOfLot_44 : decode cX8_worthsOfLot 44 = .ok (.iconst 2, 1) := by decide +kernel
theorem dX8_worthsOfLot_45 : decode cX8_worthsOfLot 45 = .ok (.iload_n 3, 1) := by decide +kernel
theorem dX8_worthsOfLot_46 : decode cX8_worthsOfLot 46 = .ok (.imul, 1) := by decide +kernel
theorem dX8_worthsOfLot_47 : decode cX8_worthsOfLot 47 = .ok (.iconst 1, 1) := by decide +kernel
theorem dX8_worthsOfLot_48 : decode cX8_worthsOfLot 48 = .ok (.iadd, 1) := by decide +kernel
theorem dX8_worthsOfLot_49 : decode cX8_worthsOfLot 49 = .ok (.iload 4, 2) := by decide +kernel
theorem dX8_worthsOfLot_51 : decode cX8_worthsOfLot 51 = .ok (.isub, 1) := by decide +kernel
theorem dX8_worthsOfLot_52 : decode cX8_worthsOfLot 52 = .ok (.iaload, 1) := by decide +kernel
theorem dX8_worthsOfLot_53 : decode cX8_worthsOfLot 53 = .ok (.invokevirtual 134, 3) := by decide +kernel
theorem dX8_worthsOfLot_56 : decode cX8_worthsOfLot 56 = .ok (.iinc 3 1, 3) := by decide +kernel
theorem dX8_worthsOfLot_59 : decode cX8_worthsOfLot 59 = .ok (.goto (-46), 3) := by decide +kernel
theorem dX8_worthsOfLot_62 : decode cX8_worthsOfLot 62 = .ok (.aload_n 0, 1) := by decide +kernel
theorem dX8_worthsOfLot_63 : decode cX8_worthsOfLot 63 = .ok (.getfield 36, 3) := by decide +kernel
theorem dX8_worthsOfLot_66 : decode cX8_worthsOfLot 66 = .ok (.bipush 12, 2) := by decide +kernel
theorem dX8_worthsOfLot_68 : decode cX8_worthsOfLot 68 = .ok (.invokevirtual 166, 3) := by decide +kernel
theorem dX8_worthsOfLot_71 : decode cX8_worthsOfLot 71 = .ok (.aload_n 0, 1) := by decide +kernel
theorem dX8_worthsOfLot_72 : decode cX8_worthsOfLot 72 = .ok (.getfield 36, 3) := by decide +kernel
theorem dX8_worthsOfLot_75 : decode cX8_worthsOfLot 75 = .ok (.invokevirtual 218, 3) := by decide +kernel
theorem dX8_worthsOfLot_78 : decode cX8_worthsOfLot 78 = .ok (.ireturn, 1) := by decide +kernel
theorem dX8_fewest_0 : decode cX8_fewest 0 = .ok (.aload_n 0, 1) := by decide +kernel
theorem dX8_fewest_1 : decode cX8_fewest 1 = .ok (.iload_n 1, 1) := by decide +kernel
theorem dX8_fewest_2 : decode cX8_fewest 2 = .ok (.invokevirtual 96, 3) := by decide +kernel
theorem dX8_fewest_5 : decode cX8_fewest 5 = .ok (.iload_n 2, 1) := by decide +kernel
theorem dX8_fewest_6 : decode cX8_fewest 6 = .ok (.iconst 0, 1) := by decide +kernel
theorem dX8_fewest_7 : decode cX8_fewest 7 = .ok (.bipush 99, 2) := by decide +kernel
theorem dX8_fewest_9 : decode cX8_fewest 9 = .ok (.invokestatic 73, 3) := by decide +kernel
theorem dX8_fewest_12 : decode cX8_fewest 12 = .ok (.iload_n 3, 1) := by decide +kernel
theorem dX8_fewest_13 : decode cX8_fewest 13 = .ok (.iconst 2, 1) := by decide +kernel
theorem dX8_fewest_14 : decode cX8_fewest 14 = .ok (.invokestatic 99, 3) := by decide +kernel
theorem dX8_fewest_17 : decode cX8_fewest 17 = .ok (.invokestatic 154, 3) := by decide +kernel
theorem dX8_fewest_20 : decode cX8_fewest 20 = .ok (.istore 4, 2) := by decide +kernel
theorem dX8_fewest_22 : decode cX8_fewest 22 = .ok (.iload 4, 2) := by decide +kernel
theorem dX8_fewest_24 : decode cX8_fewest 24 = .ok (.ifCond .eq 10, 3) := by decide +kernel
theorem dX8_fewest_27 : decode cX8_fewest 27 = .ok (.aload_n 0, 1) := by decide +kernel
theorem dX8_fewest_28 : decode cX8_fewest 28 = .ok (.iload 4, 2) := by decide +kernel
theorem dX8_fewest_30 : decode cX8_fewest 30 = .ok (.invokevirtual 77, 3) := by decide +kernel
theorem dX8_fewest_33 : decode cX8_fewest 33 = .ok (.ireturn, 1) := by decide +kernel
theorem dX8_fewest_34 : decode cX8_fewest 34 = .ok (.aload_n 0, 1) := by decide +kernel
theorem dX8_fewest_35 : decode cX8_fewest 35 = .ok (.bipush 12, 2) := by decide +kernel
theorem dX8_fewest_37 : decode cX8_fewest 37 = .ok (.invokevirtual 170, 3) := by decide +kernel
theorem dX8_fewest_40 : decode cX8_fewest 40 = .ok (.aload_n 0, 1) := by decide +kernel
theorem dX8_fewest_41 : decode cX8_fewest 41 = .ok (.getfield 36, 3) := by decide +kernel
theorem dX8_fewest_44 : decode cX8_fewest 44 = .ok (.getfield 157, 3) := by decide +kernel
theorem dX8_fewest_47 : decode cX8_fewest 47 = .ok (.iload_n 1, 1) := by decide +kernel
theorem dX8_fewest_48 : decode cX8_fewest 48 = .ok (.iaload, 1) := by decide +kernel
theorem dX8_fewest_49 : decode cX8_fewest 49 = .ok (.iload_n 2, 1) := by decide +kernel
theorem dX8_fewest_50 : decode cX8_fewest 50 = .ok (.if_icmp .lt 14, 3) := by decide +kernel
theorem dX8_fewest_53 : decode cX8_fewest 53 = .ok (.iload_n 3, 1) := by decide +kernel
theorem dX8_fewest_54 : decode cX8_fewest 54 = .ok (.ifCond .ne 7, 3) := by decide +kernel
theorem dX8_fewest_57 : decode cX8_fewest 57 = .ok (.iconst 0, 1) := by decide +kernel
theorem dX8_fewest_58 : decode cX8_fewest 58 = .ok (.goto 5, 3) := by decide +kernel
theorem dX8_fewest_61 : decode cX8_fewest 61 = .ok (.bipush (-9), 2) := by decide +kernel
theorem dX8_fewest_63 : decode cX8_fewest 63 = .ok (.ireturn, 1) := by decide +kernel
theorem dX8_fewest_64 : decode cX8_fewest 64 = .ok (.aload_n 0, 1) := by decide +kernel
theorem dX8_fewest_65 : decode cX8_fewest 65 = .ok (.iload_n 1, 1) := by decide +kernel
theorem dX8_fewest_66 : decode cX8_fewest 66 = .ok (.iload_n 2, 1) := by decide +kernel
theorem dX8_fewest_67 : decode cX8_fewest 67 = .ok (.invokevirtual 227, 3) := by decide +kernel
theorem dX8_fewest_70 : decode cX8_fewest 70 = .ok (.istore 5, 2) := by decide +kernel
theorem dX8_fewest_72 : decode cX8_fewest 72 = .ok (.iload_n 3, 1) := by decide +kernel
theorem dX8_fewest_73 : decode cX8_fewest 73 = .ok (.ifCond .ne 14, 3) := by decide +kernel
theorem dX8_fewest_76 : decode cX8_fewest 76 = .ok (.iload 5, 2) := by decide +kernel
theorem dX8_fewest_78 : decode cX8_fewest 78 = .ok (.bipush (-9), 2) := by decide +kernel
theorem dX8_fewest_80 : decode cX8_fewest 80 = .ok (.if_icmp .eq 7, 3) := by decide +kernel
theorem dX8_fewest_83 : decode cX8_fewest 83 = .ok (.iconst 1, 1) := by decide +kernel
theorem dX8_fewest_84 : decode cX8_fewest 84 = .ok (.goto 5, 3) := by decide +kernel
theorem dX8_fewest_87 : decode cX8_fewest 87 = .ok (.iload 5, 2) := by decide +kernel
theorem dX8_fewest_89 : decode cX8_fewest 89 = .ok (.ireturn, 1) := by decide +kernel
theorem dX8_firstLenderBringing_0 : decode cX8_firstLenderBringing 0 = .ok (.iconst 0, 1) := by decide +kernel
theorem dX8_firstLenderBringing_1 : decode cX8_firstLenderBringing 1 = .ok (.istore_n 3, 1) := by decide +kernel
theorem dX8_firstLenderBringing_2 : decode cX8_firstLenderBringing 2 = .ok (.iload_n 3, 1) := by decide +kernel
theorem dX8_firstLenderBringing_3 : decode cX8_firstLenderBringing 3 = .ok (.aload_n 0, 1) := by decide +kernel
theorem dX8_firstLenderBringing_4 : decode cX8_firstLenderBringing 4 = .ok (.getfield 30, 3) := by decide +kernel
theorem dX8_firstLenderBringing_7 : decode cX8_firstLenderBringing 7 = .ok (.getfield 192, 3) := by decide +kernel
theorem dX8_firstLenderBringing_10 : decode cX8_firstLenderBringing 10 = .ok (.if_icmp .ge 67, 3) := by decide +kernel
theorem dX8_firstLenderBringing_13 : decode cX8_firstLenderBringing 13 = .ok (.iconst 0, 1) := by decide +kernel
theorem dX8_firstLenderBringing_14 : decode cX8_firstLenderBringing 14 = .ok (.istore 4, 2) := by decide +kernel
theorem dX8_firstLenderBringing_16 : decode cX8_firstLenderBringing 16 = .ok (.iload 4, 2) := by decide +kernel
theorem dX8_firstLenderBringing_18 : decode cX8_firstLenderBringing 18 = .ok (.aload_n 0, 1) := by decide +kernel
theorem dX8_firstLenderBringing_19 : decode cX8_firstLenderBringing 19 = .ok (.getfield 30, 3) := by decide +kernel
theorem dX8_firstLenderBringing_22 : decode cX8_firstLenderBringing 22 = .ok (.getfield 192, 3) := by decide +kernel
theorem dX8_firstLenderBringing_25 : decode cX8_firstLenderBringing 25 = .ok (.if_icmp .ge 46, 3) := by decide +kernel
theorem dX8_firstLenderBringing_28 : decode cX8_firstLenderBringing 28 = .ok (.aload_n 0, 1) := by decide +kernel
theorem dX8_firstLenderBringing_29 : decode cX8_firstLenderBringing 29 = .ok (.getfield 30, 3) := by decide +kernel
theorem dX8_firstLenderBringing_32 : decode cX8_firstLenderBringing 32 = .ok (.iload_n 3, 1) := by decide +kernel
theorem dX8_firstLenderBringing_33 : decode cX8_firstLenderBringing 33 = .ok (.iload 4, 2) := by decide +kernel
theorem dX8_firstLenderBringing_35 : decode cX8_firstLenderBringing 35 = .ok (.invokevirtual 130, 3) := by decide +kernel
theorem dX8_firstLenderBringing_38 : decode cX8_firstLenderBringing 38 = .ok (.ifCond .eq 27, 3) := by decide +kernel
theorem dX8_firstLenderBringing_41 : decode cX8_firstLenderBringing 41 = .ok (.aload_n 0, 1) := by decide +kernel
theorem dX8_firstLenderBringing_42 : decode cX8_firstLenderBringing 42 = .ok (.iload_n 3, 1) := by decide +kernel
theorem dX8_firstLenderBringing_43 : decode cX8_firstLenderBringing 43 = .ok (.iload 4, 2) := by decide +kernel
theorem dX8_firstLenderBringing_45 : decode cX8_firstLenderBringing 45 = .ok (.bipush 12, 2) := by decide +kernel
theorem dX8_firstLenderBringing_47 : decode cX8_firstLenderBringing 47 = .ok (.invokevirtual 214, 3) := by decide +kernel
theorem dX8_firstLenderBringing_50 : decode cX8_firstLenderBringing 50 = .ok (.aload_n 0, 1) := by decide +kernel
theorem dX8_firstLenderBringing_51 : decode cX8_firstLenderBringing 51 = .ok (.getfield 36, 3) := by decide +kernel
theorem dX8_firstLenderBringing_54 : decode cX8_firstLenderBringing 54 = .ok (.getfield 157, 3) := by decide +kernel
theorem dX8_firstLenderBringing_57 : decode cX8_firstLenderBringing 57 = .ok (.iload_n 1, 1) := by decide +kernel
theorem dX8_firstLenderBringing_58 : decode cX8_firstLenderBringing 58 = .ok (.iaload, 1) := by decide +kernel
theorem dX8_firstLenderBringing_59 : decode cX8_firstLenderBringing 59 = .ok (.iload_n 2, 1) := by decide +kernel
theorem dX8_firstLenderBringing_60 : decode cX8_firstLenderBringing 60 = .ok (.if_icmp .lt 5, 3) := by decide +kernel
theorem dX8_firstLenderBringing_63 : decode cX8_firstLenderBringing 63 = .ok (.iload_n 3, 1) := by decide +kernel
theorem dX8_firstLenderBringing_64 : decode cX8_firstLenderBringing 64 = .ok (.ireturn, 1) := by decide +kernel
theorem dX8_firstLenderBringing_65 : decode cX8_firstLenderBringing 65 = .ok (.iinc 4 1, 3) := by decide +kernel
theorem dX8_firstLenderBringing_68 : decode cX8_firstLenderBringing 68 = .ok (.goto (-52), 3) := by decide +kernel
theorem dX8_firstLenderBringing_71 : decode cX8_firstLenderBringing 71 = .ok (.iinc 3 1, 3) := by decide +kernel
theorem dX8_firstLenderBringing_74 : decode cX8_firstLenderBringing 74 = .ok (.goto (-72), 3) := by decide +kernel
theorem dX8_firstLenderBringing_77 : decode cX8_firstLenderBringing 77 = .ok (.bipush (-9), 2) := by decide +kernel
theorem dX8_firstLenderBringing_79 : decode cX8_firstLenderBringing 79 = .ok (.ireturn, 1) := by decide +kernel
theorem dX8_two_0 : decode cX8_two 0 = .ok (.aload_n 0, 1) := by decide +kernel
theorem dX8_two_1 : decode cX8_two 1 = .ok (.iload_n 1, 1) := by decide +kernel
theorem dX8_two_2 : decode cX8_two 2 = .ok (.iload_n 2, 1) := by decide +kernel
theorem dX8_two_3 : decode cX8_two 3 = .ok (.invokevirtual 127, 3) := by decide +kernel
theorem dX8_two_6 : decode cX8_two 6 = .ok (.iload_n 3, 1) := by decide +kernel
theorem dX8_two_7 : decode cX8_two 7 = .ok (.iconst 0, 1) := by decide +kernel
theorem dX8_two_8 : decode cX8_two 8 = .ok (.bipush 24, 2) := by decide +kernel
theorem dX8_two_10 : decode cX8_two 10 = .ok (.invokestatic 73, 3) := by decide +kernel
theorem dX8_two_13 : decode cX8_two 13 = .ok (.invokestatic 103, 3) := by decide +kernel
theorem dX8_two_16 : decode cX8_two 16 = .ok (.istore 4, 2) := by decide +kernel
theorem dX8_two_18 : decode cX8_two 18 = .ok (.iload 4, 2) := by decide +kernel
theorem dX8_two_20 : decode cX8_two 20 = .ok (.ifCond .eq 10, 3) := by decide +kernel
theorem dX8_two_23 : decode cX8_two 23 = .ok (.aload_n 0, 1) := by decide +kernel
theorem dX8_two_24 : decode cX8_two 24 = .ok (.iload 4, 2) := by decide +kernel
theorem dX8_two_26 : decode cX8_two 26 = .ok (.invokevirtual 77, 3) := by decide +kernel
theorem dX8_two_29 : decode cX8_two 29 = .ok (.ireturn, 1) := by decide +kernel
theorem dX8_two_30 : decode cX8_two 30 = .ok (.iconst 0, 1) := by decide +kernel
theorem dX8_two_31 : decode cX8_two 31 = .ok (.istore 5, 2) := by decide +kernel
theorem dX8_two_33 : decode cX8_two 33 = .ok (.iload 5, 2) := by decide +kernel
theorem dX8_two_35 : decode cX8_two 35 = .ok (.iconst 4, 1) := by decide +kernel
theorem dX8_two_36 : decode cX8_two 36 = .ok (.if_icmp .ge 114, 3) := by decide +kernel
theorem dX8_two_39 : decode cX8_two 39 = .ok (.aload_n 0, 1) := by decide +kernel
theorem dX8_two_40 : decode cX8_two 40 = .ok (.getfield 36, 3) := by decide +kernel
theorem dX8_two_43 : decode cX8_two 43 = .ok (.aload_n 0, 1) := by decide +kernel
theorem dX8_two_44 : decode cX8_two 44 = .ok (.getfield 30, 3) := by decide +kernel
theorem dX8_two_47 : decode cX8_two 47 = .ok (.invokevirtual 88, 3) := by decide +kernel
theorem dX8_two_50 : decode cX8_two 50 = .ok (.iload 5, 2) := by decide +kernel
theorem dX8_two_52 : decode cX8_two 52 = .ok (.iconst 2, 1) := by decide +kernel
theorem dX8_two_53 : decode cX8_two 53 = .ok (.if_icmp .lt 24, 3) := by decide +kernel
theorem dX8_two_56 : decode cX8_two 56 = .ok (.aload_n 0, 1) := by decide +kernel
theorem dX8_two_57 : decode cX8_two 57 = .ok (.getfield 36, 3) := by decide +kernel
theorem dX8_two_60 : decode cX8_two 60 = .ok (.iload_n 2, 1) := by decide +kernel
theorem dX8_two_61 : decode cX8_two 61 = .ok (.iload_n 1, 1) := by decide +kernel
theorem dX8_two_62 : decode cX8_two 62 = .ok (.invokevirtual 130, 3) := by decide +kernel
theorem dX8_two_65 : decode cX8_two 65 = .ok (.ifCond .eq 12, 3) := by decide +kernel
theorem dX8_two_68 : decode cX8_two 68 = .ok (.aload_n 0, 1) := by decide +kernel
theorem dX8_two_69 : decode cX8_two 69 = .ok (.getfield 36, 3) := by decide +kernel
theorem dX8_two_72 : decode cX8_two 72 = .ok (.iload_n 2, 1) := by decide +kernel
theorem dX8_two_73 : decode cX8_two 73 = .ok (.iload_n 1, 1) := by decide +kernel
theorem dX8_two_74 : decode cX8_two 74 = .ok (.invokevirtual 134, 3) := by decide +kernel
theorem dX8_two_77 : decode cX8_two 77 = .ok (.iload 5, 2) := by decide +kernel
theorem dX8_two_79 : decode cX8_two 79 = .ok (.iconst 2, 1) := by decide +kernel
theorem dX8_two_80 : decode cX8_two 80 = .ok (.irem, 1) := by decide +kernel
theorem dX8_two_81 : decode cX8_two 81 = .ok (.iconst 1, 1) := by decide +kernel
theorem dX8_two_82 : decode cX8_two 82 = .ok (.if_icmp .ne 24, 3) := by decide +kernel
theorem dX8_two_85 : decode cX8_two 85 = .ok (.aload_n 0, 1) := by decide +kernel
theorem dX8_two_86 : decode cX8_two 86 = .ok (.getfield 36, 3) := by decide +kernel
theorem dX8_two_89 : decode cX8_two 89 = .ok (.iload_n 1, 1) := by decide +kernel
theorem dX8_two_90 : decode cX8_two 90 = .ok (.iload_n 2, 1) := by decide +kernel
theorem dX8_two_91 : decode cX8_two 91 = .ok (.invokevirtual 130, 3) := by decide +kernel
theorem dX8_two_94 : decode cX8_two 94 = .ok (.ifCond .eq 12, 3) := by decide +kernel
theorem dX8_two_97 : decode cX8_two 97 = .ok (.aload_n 0, 1) := by decide +kernel
theorem dX8_two_98 : decode cX8_two 98 = .ok (.getfield 36, 3) := by decide +kernel
theorem dX8_two_101 : decode cX8_two 101 = .ok (.iload_n 1, 1) := by decide +kernel
theorem dX8_two_102 : decode cX8_two 102 = .ok (.iload_n 2, 1) := by decide +kernel
theorem dX8_two_103 : decode cX8_two 103 = .ok (.invokevirtual 134, 3) := by decide +kernel
theorem dX8_two_106 : decode cX8_two 106 = .ok (.aload_n 0, 1) := by decide +kernel
theorem dX8_two_107 : decode cX8_two 107 = .ok (.getfield 36, 3) := by decide +kernel
theorem dX8_two_110 : decode cX8_two 110 = .ok (.iload_n 3, 1) := by decide +kernel
theorem dX8_two_111 : decode cX8_two 111 = .ok (.invokevirtual 166, 3) := by decide +kernel
theorem dX8_two_114 : decode cX8_two 114 = .ok (.aload_n 0, 1) := by decide +kernel
theorem dX8_two_115 : decode cX8_two 115 = .ok (.getfield 59, 3) := by decide +kernel
theorem dX8_two_118 : decode cX8_two 118 = .ok (.iload 5, 2) := by decide +kernel
theorem dX8_two_120 : decode cX8_two 120 = .ok (.aload_n 0, 1) := by decide +kernel
theorem dX8_two_121 : decode cX8_two 121 = .ok (.getfield 36, 3) := by decide +kernel
theorem dX8_two_124 : decode cX8_two 124 = .ok (.iload_n 1, 1) := by decide +kernel
theorem dX8_two_125 : decode cX8_two 125 = .ok (.invokevirtual 124, 3) := by decide +kernel
theorem dX8_two_128 : decode cX8_two 128 = .ok (.iastore, 1) := by decide +kernel
theorem dX8_two_129 : decode cX8_two 129 = .ok (.aload_n 0, 1) := by decide +kernel
theorem dX8_two_130 : decode cX8_two 130 = .ok (.getfield 62, 3) := by decide +kernel
theorem dX8_two_133 : decode cX8_two 133 = .ok (.iload 5, 2) := by decide +kernel
theorem dX8_two_135 : decode cX8_two 135 = .ok (.aload_n 0, 1) := by decide +kernel
theorem dX8_two_136 : decode cX8_two 136 = .ok (.getfield 36, 3) := by decide +kernel
theorem dX8_two_139 : decode cX8_two 139 = .ok (.iload_n 2, 1) := by decide +kernel
theorem dX8_two_140 : decode cX8_two 140 = .ok (.invokevirtual 124, 3) := by decide +kernel
theorem dX8_two_143 : decode cX8_two 143 = .ok (.iastore, 1) := by decide +kernel
theorem dX8_two_144 : decode cX8_two 144 = .ok (.iinc 5 1, 3) := by decide +kernel
theorem dX8_two_147 : decode cX8_two 147 = .ok (.goto (-114), 3) := by decide +kernel
theorem dX8_two_150 : decode cX8_two 150 = .ok (.aload_n 0, 1) := by decide +kernel
theorem dX8_two_151 : decode cX8_two 151 = .ok (.invokevirtual 230, 3) := by decide +kernel
theorem dX8_two_154 : decode cX8_two 154 = .ok (.ireturn, 1) := by decide +kernel
theorem dX8_firstSettledChoice_0 : decode cX8_firstSettledChoice 0 = .ok (.iconst 0, 1) := by decide +kernel
theorem dX8_firstSettledChoice_1 : decode cX8_firstSettledChoice 1 = .ok (.istore_n 1, 1) := by decide +kernel
theorem dX8_firstSettledChoice_2 : decode cX8_firstSettledChoice 2 = .ok (.iload_n 1, 1) := by decide +kernel
theorem dX8_firstSettledChoice_3 : decode cX8_firstSettledChoice 3 = .ok (.iconst 4, 1) := by decide +kernel
theorem dX8_firstSettledChoice_4 : decode cX8_firstSettledChoice 4 = .ok (.if_icmp .ge 74, 3) := by decide +kernel
theorem dX8_firstSettledChoice_7 : decode cX8_firstSettledChoice 7 = .ok (.aload_n 0, 1) := by decide +kernel
theorem dX8_firstSettledChoice_8 : decode cX8_firstSettledChoice 8 = .ok (.getfield 59, 3) := by decide +kernel
theorem dX8_firstSettledChoice_11 : decode cX8_firstSettledChoice 11 = .ok (.iload_n 1, 1) := by decide +kernel
theorem dX8_firstSettledChoice_12 : decode cX8_firstSettledChoice 12 = .ok (.iconst 2, 1) := by decide +kernel
theorem dX8_firstSettledChoice_13 : decode cX8_firstSettledChoice 13 = .ok (.ixor, 1) := by decide +kernel
theorem dX8_firstSettledChoice_14 : decode cX8_firstSettledChoice 14 = .ok (.iaload, 1) := by decide +kernel
theorem dX8_firstSettledChoice_15 : decode cX8_firstSettledChoice 15 = .ok (.aload_n 0, 1) := by decide +kernel
theorem dX8_firstSettledChoice_16 : decode cX8_firstSettledChoice 16 = .ok (.getfield 59, 3) := by decide +kernel
theorem dX8_firstSettledChoice_19 : decode cX8_firstSettledChoice 19 = .ok (.iload_n 1, 1) := by decide +kernel
theorem dX8_firstSettledChoice_20 : decode cX8_firstSettledChoice 20 = .ok (.iaload, 1) := by decide +kernel
theorem dX8_firstSettledChoice_21 : decode cX8_firstSettledChoice 21 = .ok (.if_icmp .gt 7, 3) := by decide +kernel
theorem dX8_firstSettledChoice_24 : decode cX8_firstSettledChoice 24 = .ok (.iconst 1, 1) := by decide +kernel
theorem dX8_firstSettledChoice_25 : decode cX8_firstSettledChoice 25 = .ok (.goto 4, 3) := by decide +kernel
theorem dX8_firstSettledChoice_28 : decode cX8_firstSettledChoice 28 = .ok (.iconst 0, 1) := by decide +kernel
theorem dX8_firstSettledChoice_29 : decode cX8_firstSettledChoice 29 = .ok (.istore_n 2, 1) := by decide +kernel
theorem dX8_firstSettledChoice_30 : decode cX8_firstSettledChoice 30 = .ok (.aload_n 0, 1) := by decide +kernel
theorem dX8_firstSettledChoice_31 : decode cX8_firstSettledChoice 31 = .ok (.getfield 62, 3) := by decide +kernel
theorem dX8_firstSettledChoice_34 : decode cX8_firstSettledChoice 34 = .ok (.iload_n 1, 1) := by decide +kernel
theorem dX8_firstSettledChoice_35 : decode cX8_firstSettledChoice 35 = .ok (.iconst 1, 1) := by decide +kernel
theorem dX8_firstSettledChoice_36 : decode cX8_firstSettledChoice 36 = .ok (.ixor, 1) := by decide +kernel
theorem dX8_firstSettledChoice_37 : decode cX8_firstSettledChoice 37 = .ok (.iaload, 1) := by decide +kernel
theorem dX8_firstSettledChoice_38 : decode cX8_firstSettledChoice 38 = .ok (.aload_n 0, 1) := by decide +kernel
theorem dX8_firstSettledChoice_39 : decode cX8_firstSettledChoice 39 = .ok (.getfield 62, 3) := by decide +kernel
theorem dX8_firstSettledChoice_42 : decode cX8_firstSettledChoice 42 = .ok (.iload_n 1, 1) := by decide +kernel
theorem dX8_firstSettledChoice_43 : decode cX8_firstSettledChoice 43 = .ok (.iaload, 1) := by decide +kernel
theorem dX8_firstSettledChoice_44 : decode cX8_firstSettledChoice 44 = .ok (.if_icmp .gt 7, 3) := by decide +kernel
theorem dX8_firstSettledChoice_47 : decode cX8_firstSettledChoice 47 = .ok (.iconst 1, 1) := by decide +kernel
theorem dX8_firstSettledChoice_48 : decode cX8_firstSettledChoice 48 = .ok (.goto 4, 3) := by decide +kernel
theorem dX8_firstSettledChoice_51 : decode cX8_firstSettledChoice 51 = .ok (.iconst 0, 1) := by decide +kernel
theorem dX8_firstSettledChoice_52 : decode cX8_firstSettledChoice 52 = .ok (.istore_n 3, 1) := by decide +kernel
theorem dX8_firstSettledChoice_53 : decode cX8_firstSettledChoice 53 = .ok (.iload_n 2, 1) := by decide +kernel
theorem dX8_firstSettledChoice_54 : decode cX8_firstSettledChoice 54 = .ok (.ifCond .eq 18, 3) := by decide +kernel
theorem dX8_firstSettledChoice_57 : decode cX8_firstSettledChoice 57 = .ok (.iload_n 3, 1) := by decide +kernel
theorem dX8_firstSettledChoice_58 : decode cX8_firstSettledChoice 58 = .ok (.ifCond .eq 14, 3) := by decide +kernel
theorem dX8_firstSettledChoice_61 : decode cX8_firstSettledChoice 61 = .ok (.bipush 10, 2) := by decide +kernel
theorem dX8_firstSettledChoice_63 : decode cX8_firstSettledChoice 63 = .ok (.iload_n 1, 1) := by decide +kernel
theorem dX8_firstSettledChoice_64 : decode cX8_firstSettledChoice 64 = .ok (.iconst 2, 1) := by decide +kernel
theorem dX8_firstSettledChoice_65 : decode cX8_firstSettledChoice 65 = .ok (.idiv, 1) := by decide +kernel
theorem dX8_firstSettledChoice_66 : decode cX8_firstSettledChoice 66 = .ok (.imul, 1) := by decide +kernel
theorem dX8_firstSettledChoice_67 : decode cX8_firstSettledChoice 67 = .ok (.iload_n 1, 1) := by decide +kernel
theorem dX8_firstSettledChoice_68 : decode cX8_firstSettledChoice 68 = .ok (.iconst 2, 1) := by decide +kernel
theorem dX8_firstSettledChoice_69 : decode cX8_firstSettledChoice 69 = .ok (.irem, 1) := by decide +kernel
theorem dX8_firstSettledChoice_70 : decode cX8_firstSettledChoice 70 = .ok (.iadd, 1) := by decide +kernel
theorem dX8_firstSettledChoice_71 : decode cX8_firstSettledChoice 71 = .ok (.ireturn, 1) := by decide +kernel
theorem dX8_firstSettledChoice_72 : decode cX8_firstSettledChoice 72 = .ok (.iinc 1 1, 3) := by decide +kernel
theorem dX8_firstSettledChoice_75 : decode cX8_firstSettledChoice 75 = .ok (.goto (-73), 3) := by decide +kernel
theorem dX8_firstSettledChoice_78 : decode cX8_firstSettledChoice 78 = .ok (.bipush (-9), 2) := by decide +kernel
theorem dX8_firstSettledChoice_80 : decode cX8_firstSettledChoice 80 = .ok (.ireturn, 1) := by decide +kernel
theorem dX8_quarrel_0 : decode cX8_quarrel 0 = .ok (.iload_n 2, 1) := by decide +kernel
theorem dX8_quarrel_1 : decode cX8_quarrel 1 = .ok (.iconst 0, 1) := by decide +kernel
theorem dX8_quarrel_2 : decode cX8_quarrel 2 = .ok (.invokestatic 233, 3) := by decide +kernel
theorem dX8_quarrel_5 : decode cX8_quarrel 5 = .ok (.iload_n 3, 1) := by decide +kernel
theorem dX8_quarrel_6 : decode cX8_quarrel 6 = .ok (.iconst 2, 1) := by decide +kernel
theorem dX8_quarrel_7 : decode cX8_quarrel 7 = .ok (.invokestatic 233, 3) := by decide +kernel
theorem dX8_quarrel_10 : decode cX8_quarrel 10 = .ok (.iload 4, 2) := by decide +kernel
theorem dX8_quarrel_12 : decode cX8_quarrel 12 = .ok (.iconst 0, 1) := by decide +kernel
theorem dX8_quarrel_13 : decode cX8_quarrel 13 = .ok (.invokestatic 233, 3) := by decide +kernel
theorem dX8_quarrel_16 : decode cX8_quarrel 16 = .ok (.invokestatic 154, 3) := by decide +kernel
theorem dX8_quarrel_19 : decode cX8_quarrel 19 = .ok (.istore 6, 2) := by decide +kernel
theorem dX8_quarrel_21 : decode cX8_quarrel 21 = .ok (.iload_n 2, 1) := by decide +kernel
theorem dX8_quarrel_22 : decode cX8_quarrel 22 = .ok (.bipush 7, 2) := by decide +kernel
theorem dX8_quarrel_24 : decode cX8_quarrel 24 = .ok (.invokestatic 236, 3) := by decide +kernel
theorem dX8_quarrel_27 : decode cX8_quarrel 27 = .ok (.iload_n 3, 1) := by decide +kernel
theorem dX8_quarrel_28 : decode cX8_quarrel 28 = .ok (.bipush 20, 2) := by decide +kernel
theorem dX8_quarrel_30 : decode cX8_quarrel 30 = .ok (.invokestatic 236, 3) := by decide +kernel
theorem dX8_quarrel_33 : decode cX8_quarrel 33 = .ok (.iload 4, 2) := by decide +kernel
theorem dX8_quarrel_35 : decode cX8_quarrel 35 = .ok (.bipush 99, 2) := by decide +kernel
theorem dX8_quarrel_37 : decode cX8_quarrel 37 = .ok (.invokestatic 236, 3) := by decide +kernel
theorem dX8_quarrel_40 : decode cX8_quarrel 40 = .ok (.invokestatic 154, 3) := by decide +kernel
theorem dX8_quarrel_43 : decode cX8_quarrel 43 = .ok (.istore 7, 2) := by decide +kernel
theorem dX8_quarrel_45 : decode cX8_quarrel 45 = .ok (.aload_n 0, 1) := by decide +kernel
theorem dX8_quarrel_46 : decode cX8_quarrel 46 = .ok (.iload_n 1, 1) := by decide +kernel
theorem dX8_quarrel_47 : decode cX8_quarrel 47 = .ok (.invokevirtual 96, 3) := by decide +kernel
theorem dX8_quarrel_50 : decode cX8_quarrel 50 = .ok (.iload 6, 2) := by decide +kernel
theorem dX8_quarrel_52 : decode cX8_quarrel 52 = .ok (.iload 7, 2) := by decide +kernel
theorem dX8_quarrel_54 : decode cX8_quarrel 54 = .ok (.invokestatic 154, 3) := by decide +kernel
theorem dX8_quarrel_57 : decode cX8_quarrel 57 = .ok (.iload 5, 2) := by decide +kernel
theorem dX8_quarrel_59 : decode cX8_quarrel 59 = .ok (.iconst 2, 1) := by decide +kernel
theorem dX8_quarrel_60 : decode cX8_quarrel 60 = .ok (.invokestatic 99, 3) := by decide +kernel
theorem dX8_quarrel_63 : decode cX8_quarrel 63 = .ok (.invokestatic 103, 3) := by decide +kernel
theorem dX8_quarrel_66 : decode cX8_quarrel 66 = .ok (.istore 8, 2) := by decide +kernel
theorem dX8_quarrel_68 : decode cX8_quarrel 68 = .ok (.iload 8, 2) := by decide +kernel
theorem dX8_quarrel_70 : decode cX8_quarrel 70 = .ok (.ifCond .eq 10, 3) := by decide +kernel
theorem dX8_quarrel_73 : decode cX8_quarrel 73 = .ok (.aload_n 0, 1) := by decide +kernel
theorem dX8_quarrel_74 : decode cX8_quarrel 74 = .ok (.iload 8, 2) := by decide +kernel
theorem dX8_quarrel_76 : decode cX8_quarrel 76 = .ok (.invokevirtual 239, 3) := by decide +kernel
theorem dX8_quarrel_79 : decode cX8_quarrel 79 = .ok (.lreturn, 1) := by decide +kernel
theorem dX8_quarrel_80 : decode cX8_quarrel 80 = .ok (.aload_n 0, 1) := by decide +kernel
theorem dX8_quarrel_81 : decode cX8_quarrel 81 = .ok (.iload_n 2, 1) := by decide +kernel
theorem dX8_quarrel_82 : decode cX8_quarrel 82 = .ok (.invokevirtual 170, 3) := by decide +kernel
theorem dX8_quarrel_85 : decode cX8_quarrel 85 = .ok (.aload_n 0, 1) := by decide +kernel
theorem dX8_quarrel_86 : decode cX8_quarrel 86 = .ok (.getfield 36, 3) := by decide +kernel
theorem dX8_quarrel_89 : decode cX8_quarrel 89 = .ok (.getfield 160, 3) := by decide +kernel
theorem dX8_quarrel_92 : decode cX8_quarrel 92 = .ok (.iload_n 1, 1) := by decide +kernel
theorem dX8_quarrel_93 : decode cX8_quarrel 93 = .ok (.iaload, 1) := by decide +kernel
theorem dX8_quarrel_94 : decode cX8_quarrel 94 = .ok (.iload_n 2, 1) := by decide +kernel
theorem dX8_quarrel_95 : decode cX8_quarrel 95 = .ok (.iload_n 3, 1) := by decide +kernel
theorem dX8_quarrel_96 : decode cX8_quarrel 96 = .ok (.iload 4, 2) := by decide +kernel
theorem dX8_quarrel_98 : decode cX8_quarrel 98 = .ok (.invokestatic 243, 3) := by decide +kernel
theorem dX8_quarrel_101 : decode cX8_quarrel 101 = .ok (.iload_n 3, 1) := by decide +kernel
theorem dX8_quarrel_102 : decode cX8_quarrel 102 = .ok (.i2l, 1) := by decide +kernel
theorem dX8_quarrel_103 : decode cX8_quarrel 103 = .ok (.iload_n 2, 1) := by decide +kernel
theorem dX8_quarrel_104 : decode cX8_quarrel 104 = .ok (.invokestatic 247, 3) := by decide +kernel
theorem dX8_quarrel_107 : decode cX8_quarrel 107 = .ok (.iload 5, 2) := by decide +kernel
theorem dX8_quarrel_109 : decode cX8_quarrel 109 = .ok (.invokestatic 251, 3) := by decide +kernel
theorem dX8_quarrel_112 : decode cX8_quarrel 112 = .ok (.lreturn, 1) := by decide +kernel
theorem dX8_waysOfScars_0 : decode cX8_waysOfScars 0 = .ok (.lconst 0, 1) := by decide +kernel
theorem dX8_waysOfScars_1 : decode cX8_waysOfScars 1 = .ok (.lstore 4, 2) := by decide +kernel
theorem dX8_waysOfScars_3 : decode cX8_waysOfScars 3 = .ok (.lconst 1, 1) := by decide +kernel
theorem dX8_waysOfScars_4 : decode cX8_waysOfScars 4 = .ok (.lstore 6, 2) := by decide +kernel
theorem dX8_waysOfScars_6 : decode cX8_waysOfScars 6 = .ok (.iconst 0, 1) := by decide +kernel
theorem dX8_waysOfScars_7 : decode cX8_waysOfScars 7 = .ok (.istore 8, 2) := by decide +kernel
theorem dX8_waysOfScars_9 : decode cX8_waysOfScars 9 = .ok (.iload 8, 2) := by decide +kernel
theorem dX8_waysOfScars_11 : decode cX8_waysOfScars 11 = .ok (.iload_n 1, 1) := by decide +kernel
theorem dX8_waysOfScars_12 : decode cX8_waysOfScars 12 = .ok (.if_icmp .gt 59, 3) := by decide +kernel
theorem dX8_waysOfScars_15 : decode cX8_waysOfScars 15 = .ok (.iload_n 0, 1) := by decide +kernel
theorem dX8_waysOfScars_16 : decode cX8_waysOfScars 16 = .ok (.iconst 3, 1) := by decide +kernel
theorem dX8_waysOfScars_17 : decode cX8_waysOfScars 17 = .ok (.iload 8, 2) := by decide +kernel
theorem dX8_waysOfScars_19 : decode cX8_waysOfScars 19 = .ok (.imul, 1) := by decide +kernel
theorem dX8_waysOfScars_20 : decode cX8_waysOfScars 20 = .ok (.iadd, 1) := by decide +kernel
theorem dX8_waysOfScars_21 : decode cX8_waysOfScars 21 = .ok (.bipush 99, 2) := by decide +kernel
theorem dX8_waysOfScars_23 : decode cX8_waysOfScars 23 = .ok (.invokestatic 255, 3) := by decide +kernel
theorem dX8_waysOfScars_26 : decode cX8_waysOfScars 26 = .ok (.iload_n 3, 1) := by decide +kernel
theorem dX8_waysOfScars_27 : decode cX8_waysOfScars 27 = .ok (.if_icmp .lt 22, 3) := by decide +kernel
theorem dX8_waysOfScars_30 : decode cX8_waysOfScars 30 = .ok (.lload 4, 2) := by decide +kernel
theorem dX8_waysOfScars_32 : decode cX8_waysOfScars 32 = .ok (.lload 6, 2) := by decide +kernel
theorem dX8_waysOfScars_34 : decode cX8_waysOfScars 34 = .ok (.iload_n 2, 1) := by decide +kernel
theorem dX8_waysOfScars_35 : decode cX8_waysOfScars 35 = .ok (.iconst 1, 1) := by decide +kernel
theorem dX8_waysOfScars_36 : decode cX8_waysOfScars 36 = .ok (.isub, 1) := by decide +kernel
theorem dX8_waysOfScars_37 : decode cX8_waysOfScars 37 = .ok (.i2l, 1) := by decide +kernel
theorem dX8_waysOfScars_38 : decode cX8_waysOfScars 38 = .ok (.iload_n 1, 1) := by decide +kernel
theorem dX8_waysOfScars_39 : decode cX8_waysOfScars 39 = .ok (.iload 8, 2) := by decide +kernel
theorem dX8_waysOfScars_41 : decode cX8_waysOfScars 41 = .ok (.isub, 1) := by decide +kernel
theorem dX8_waysOfScars_42 : decode cX8_waysOfScars 42 = .ok (.invokestatic 247, 3) := by decide +kernel
theorem dX8_waysOfScars_45 : decode cX8_waysOfScars 45 = .ok (.lmul, 1) := by decide +kernel
theorem dX8_waysOfScars_46 : decode cX8_waysOfScars 46 = .ok (.ladd, 1) := by decide +kernel
theorem dX8_waysOfScars_47 : decode cX8_waysOfScars 47 = .ok (.lstore 4, 2) := by decide +kernel
theorem dX8_waysOfScars_49 : decode cX8_waysOfScars 49 = .ok (.lload 6, 2) := by decide +kernel
theorem dX8_waysOfScars_51 : decode cX8_waysOfScars 51 = .ok (.iload_n 1, 1) := by decide +kernel
theorem dX8_waysOfScars_52 : decode cX8_waysOfScars 52 = .ok (.iload 8, 2) := by decide +kernel
theorem dX8_waysOfScars_54 : decode cX8_waysOfScars 54 = .ok (.isub, 1) := by decide +kernel
theorem dX8_waysOfScars_55 : decode cX8_waysOfScars 55 = .ok (.i2l, 1) := by decide +kernel
theorem dX8_waysOfScars_56 : decode cX8_waysOfScars 56 = .ok (.lmul, 1) := by decide +kernel
theorem dX8_waysOfScars_57 : decode cX8_waysOfScars 57 = .ok (.iload 8, 2) := by decide +kernel
theorem dX8_waysOfScars_59 : decode cX8_waysOfScars 59 = .ok (.iconst 1, 1) := by decide +kernel
theorem dX8_waysOfScars_60 : decode cX8_waysOfScars 60 = .ok (.iadd, 1) := by decide +kernel
theorem dX8_waysOfScars_61 : decode cX8_waysOfScars 61 = .ok (.i2l, 1) := by decide +kernel
theorem dX8_waysOfScars_62 : decode cX8_waysOfScars 62 = .ok (.ldiv, 1) := by decide +kernel
theorem dX8_waysOfScars_63 : decode cX8_waysOfScars 63 = .ok (.lstore 6, 2) := by decide +kernel
theorem dX8_waysOfScars_65 : decode cX8_waysOfScars 65 = .ok (.iinc 8 1, 3) := by decide +kernel
theorem dX8_waysOfScars_68 : decode cX8_waysOfScars 68 = .ok (.goto (-59), 3) := by decide +kernel
theorem dX8_waysOfScars_71 : decode cX8_waysOfScars 71 = .ok (.lload 4, 2) := by decide +kernel
theorem dX8_waysOfScars_73 : decode cX8_waysOfScars 73 = .ok (.lreturn, 1) := by decide +kernel
theorem dX8_mean_0 : decode cX8_mean 0 = .ok (.iload_n 1, 1) := by decide +kernel
theorem dX8_mean_1 : decode cX8_mean 1 = .ok (.iconst 2, 1) := by decide +kernel
theorem dX8_mean_2 : decode cX8_mean 2 = .ok (.invokestatic 99, 3) := by decide +kernel
theorem dX8_mean_5 : decode cX8_mean 5 = .ok (.istore_n 2, 1) := by decide +kernel
theorem dX8_mean_6 : decode cX8_mean 6 = .ok (.iload_n 2, 1) := by decide +kernel
theorem dX8_mean_7 : decode cX8_mean 7 = .ok (.ifCond .eq 9, 3) := by decide +kernel
theorem dX8_mean_10 : decode cX8_mean 10 = .ok (.aload_n 0, 1) := by decide +kernel
theorem dX8_mean_11 : decode cX8_mean 11 = .ok (.iload_n 2, 1) := by decide +kernel
theorem dX8_mean_12 : decode cX8_mean 12 = .ok (.invokevirtual 239, 3) := by decide +kernel
theorem dX8_mean_15 : decode cX8_mean 15 = .ok (.lreturn, 1) := by decide +kernel
theorem dX8_mean_16 : decode cX8_mean 16 = .ok (.aload_n 0, 1) := by decide +kernel
theorem dX8_mean_17 : decode cX8_mean 17 = .ok (.getfield 30, 3) := by decide +kernel
theorem dX8_mean_20 : decode cX8_mean 20 = .ok (.invokevirtual 260, 3) := by decide +kernel
theorem dX8_mean_23 : decode cX8_mean 23 = .ok (.i2l, 1) := by decide +kernel
theorem dX8_mean_24 : decode cX8_mean 24 = .ok (.aload_n 0, 1) := by decide +kernel
theorem dX8_mean_25 : decode cX8_mean 25 = .ok (.getfield 30, 3) := by decide +kernel
theorem dX8_mean_28 : decode cX8_mean 28 = .ok (.getfield 192, 3) := by decide +kernel
theorem dX8_mean_31 : decode cX8_mean 31 = .ok (.iconst 1, 1) := by decide +kernel
theorem dX8_mean_32 : decode cX8_mean 32 = .ok (.invokestatic 263, 3) := by decide +kernel
theorem dX8_mean_35 : decode cX8_mean 35 = .ok (.i2l, 1) := by decide +kernel
theorem dX8_mean_36 : decode cX8_mean 36 = .ok (.iload_n 1, 1) := by decide +kernel
theorem dX8_mean_37 : decode cX8_mean 37 = .ok (.invokestatic 251, 3) := by decide +kernel
theorem dX8_mean_40 : decode cX8_mean 40 = .ok (.lreturn, 1) := by decide +kernel
theorem dX8_partOfFraction_0 : decode cX8_partOfFraction 0 = .ok (.lload_n 0, 1) := by decide +kernel
theorem dX8_partOfFraction_1 : decode cX8_partOfFraction 1 = .ok (.lload_n 2, 1) := by decide +kernel
theorem dX8_partOfFraction_2 : decode cX8_partOfFraction 2 = .ok (.invokestatic 266, 3) := by decide +kernel
theorem dX8_partOfFraction_5 : decode cX8_partOfFraction 5 = .ok (.lstore 5, 2) := by decide +kernel
theorem dX8_partOfFraction_7 : decode cX8_partOfFraction 7 = .ok (.iload 4, 2) := by decide +kernel
theorem dX8_partOfFraction_9 : decode cX8_partOfFraction 9 = .ok (.ifCond .ne 7, 3) := by decide +kernel
theorem dX8_partOfFraction_12 : decode cX8_partOfFraction 12 = .ok (.lload_n 0, 1) := by decide +kernel
theorem dX8_partOfFraction_13 : decode cX8_partOfFraction 13 = .ok (.goto 4, 3) := by decide +kernel
theorem dX8_partOfFraction_16 : decode cX8_partOfFraction 16 = .ok (.lload_n 2, 1) := by decide +kernel
theorem dX8_partOfFraction_17 : decode cX8_partOfFraction 17 = .ok (.lstore 7, 2) := by decide +kernel
theorem dX8_partOfFraction_19 : decode cX8_partOfFraction 19 = .ok (.lload 5, 2) := by decide +kernel
theorem dX8_partOfFraction_21 : decode cX8_partOfFraction 21 = .ok (.lconst 0, 1) := by decide +kernel
theorem dX8_partOfFraction_22 : decode cX8_partOfFraction 22 = .ok (.lcmp, 1) := by decide +kernel
theorem dX8_partOfFraction_23 : decode cX8_partOfFraction 23 = .ok (.ifCond .ne 8, 3) := by decide +kernel
theorem dX8_partOfFraction_26 : decode cX8_partOfFraction 26 = .ok (.lload 7, 2) := by decide +kernel
theorem dX8_partOfFraction_28 : decode cX8_partOfFraction 28 = .ok (.goto 8, 3) := by decide +kernel
theorem dX8_partOfFraction_31 : decode cX8_partOfFraction 31 = .ok (.lload 7, 2) := by decide +kernel
theorem dX8_partOfFraction_33 : decode cX8_partOfFraction 33 = .ok (.lload 5, 2) := by decide +kernel
theorem dX8_partOfFraction_35 : decode cX8_partOfFraction 35 = .ok (.ldiv, 1) := by decide +kernel
theorem dX8_partOfFraction_36 : decode cX8_partOfFraction 36 = .ok (.lreturn, 1) := by decide +kernel
theorem dX8_greatestShared_0 : decode cX8_greatestShared 0 = .ok (.lload_n 0, 1) := by decide +kernel
theorem dX8_greatestShared_1 : decode cX8_greatestShared 1 = .ok (.lstore 4, 2) := by decide +kernel
theorem dX8_greatestShared_3 : decode cX8_greatestShared 3 = .ok (.lload_n 2, 1) := by decide +kernel
theorem dX8_greatestShared_4 : decode cX8_greatestShared 4 = .ok (.lstore 6, 2) := by decide +kernel
theorem dX8_greatestShared_6 : decode cX8_greatestShared 6 = .ok (.iconst 0, 1) := by decide +kernel
theorem dX8_greatestShared_7 : decode cX8_greatestShared 7 = .ok (.istore 8, 2) := by decide +kernel
theorem dX8_greatestShared_9 : decode cX8_greatestShared 9 = .ok (.iload 8, 2) := by decide +kernel
theorem dX8_greatestShared_11 : decode cX8_greatestShared 11 = .ok (.bipush 100, 2) := by decide +kernel
theorem dX8_greatestShared_13 : decode cX8_greatestShared 13 = .ok (.if_icmp .ge 31, 3) := by decide +kernel
theorem dX8_greatestShared_16 : decode cX8_greatestShared 16 = .ok (.lload 6, 2) := by decide +kernel
theorem dX8_greatestShared_18 : decode cX8_greatestShared 18 = .ok (.lconst 0, 1) := by decide +kernel
theorem dX8_greatestShared_19 : decode cX8_greatestShared 19 = .ok (.lcmp, 1) := by decide +kernel
theorem dX8_greatestShared_20 : decode cX8_greatestShared 20 = .ok (.ifCond .eq 24, 3) := by decide +kernel
theorem dX8_greatestShared_23 : decode cX8_greatestShared 23 = .ok (.lload 4, 2) := by decide +kernel
theorem dX8_greatestShared_25 : decode cX8_greatestShared 25 = .ok (.lload 6, 2) := by decide +kernel
theorem dX8_greatestShared_27 : decode cX8_greatestShared 27 = .ok (.lrem, 1) := by decide +kernel
theorem dX8_greatestShared_28 : decode cX8_greatestShared 28 = .ok (.lstore 9, 2) := by decide +kernel
theorem dX8_greatestShared_30 : decode cX8_greatestShared 30 = .ok (.lload 6, 2) := by decide +kernel
theorem dX8_greatestShared_32 : decode cX8_greatestShared 32 = .ok (.lstore 4, 2) := by decide +kernel
theorem dX8_greatestShared_34 : decode cX8_greatestShared 34 = .ok (.lload 9, 2) := by decide +kernel
theorem dX8_greatestShared_36 : decode cX8_greatestShared 36 = .ok (.lstore 6, 2) := by decide +kernel
theorem dX8_greatestShared_38 : decode cX8_greatestShared 38 = .ok (.iinc 8 1, 3) := by decide +kernel
theorem dX8_greatestShared_41 : decode cX8_greatestShared 41 = .ok (.goto (-32), 3) := by decide +kernel
theorem dX8_greatestShared_44 : decode cX8_greatestShared 44 = .ok (.lload 4, 2) := by decide +kernel
theorem dX8_greatestShared_46 : decode cX8_greatestShared 46 = .ok (.lreturn, 1) := by decide +kernel
theorem dX8_power_0 : decode cX8_power 0 = .ok (.lconst 1, 1) := by decide +kernel
theorem dX8_power_1 : decode cX8_power 1 = .ok (.lstore_n 3, 1) := by decide +kernel
theorem dX8_power_2 : decode cX8_power 2 = .ok (.iconst 0, 1) := by decide +kernel
theorem dX8_power_3 : decode cX8_power 3 = .ok (.istore 5, 2) := by decide +kernel
theorem dX8_power_5 : decode cX8_power 5 = .ok (.iload 5, 2) := by decide +kernel
theorem dX8_power_7 : decode cX8_power 7 = .ok (.iload_n 2, 1) := by decide +kernel
theorem dX8_power_8 : decode cX8_power 8 = .ok (.if_icmp .ge 13, 3) := by decide +kernel
theorem dX8_power_11 : decode cX8_power 11 = .ok (.lload_n 3, 1) := by decide +kernel
theorem dX8_power_12 : decode cX8_power 12 = .ok (.lload_n 0, 1) := by decide +kernel
theorem dX8_power_13 : decode cX8_power 13 = .ok (.lmul, 1) := by decide +kernel
theorem dX8_power_14 : decode cX8_power 14 = .ok (.lstore_n 3, 1) := by decide +kernel
theorem dX8_power_15 : decode cX8_power 15 = .ok (.iinc 5 1, 3) := by decide +kernel
theorem dX8_power_18 : decode cX8_power 18 = .ok (.goto (-13), 3) := by decide +kernel
theorem dX8_power_21 : decode cX8_power 21 = .ok (.lload_n 3, 1) := by decide +kernel
theorem dX8_power_22 : decode cX8_power 22 = .ok (.lreturn, 1) := by decide +kernel
theorem dX8_row_0 : decode cX8_row 0 = .ok (.iload_n 1, 1) := by decide +kernel
theorem dX8_row_1 : decode cX8_row 1 = .ok (.iconst 0, 1) := by decide +kernel
theorem dX8_row_2 : decode cX8_row 2 = .ok (.bipush 99, 2) := by decide +kernel
theorem dX8_row_4 : decode cX8_row 4 = .ok (.invokestatic 73, 3) := by decide +kernel
theorem dX8_row_7 : decode cX8_row 7 = .ok (.istore_n 2, 1) := by decide +kernel
theorem dX8_row_8 : decode cX8_row 8 = .ok (.iload_n 2, 1) := by decide +kernel
theorem dX8_row_9 : decode cX8_row 9 = .ok (.ifCond .eq 9, 3) := by decide +kernel
theorem dX8_row_12 : decode cX8_row 12 = .ok (.aload_n 0, 1) := by decide +kernel
theorem dX8_row_13 : decode cX8_row 13 = .ok (.iload_n 2, 1) := by decide +kernel
theorem dX8_row_14 : decode cX8_row 14 = .ok (.invokevirtual 77, 3) := by decide +kernel
theorem dX8_row_17 : decode cX8_row 17 = .ok (.ireturn, 1) := by decide +kernel
theorem dX8_row_18 : decode cX8_row 18 = .ok (.aload_n 0, 1) := by decide +kernel
theorem dX8_row_19 : decode cX8_row 19 = .ok (.getfield 65, 3) := by decide +kernel
theorem dX8_row_22 : decode cX8_row 22 = .ok (.bipush 16, 2) := by decide +kernel
theorem dX8_row_24 : decode cX8_row 24 = .ok (.if_icmp .lt 10, 3) := by decide +kernel
theorem dX8_row_27 : decode cX8_row 27 = .ok (.aload_n 0, 1) := by decide +kernel
theorem dX8_row_28 : decode cX8_row 28 = .ok (.bipush (-6), 2) := by decide +kernel
theorem dX8_row_30 : decode cX8_row 30 = .ok (.invokevirtual 77, 3) := by decide +kernel
theorem dX8_row_33 : decode cX8_row 33 = .ok (.ireturn, 1) := by decide +kernel
theorem dX8_row_34 : decode cX8_row 34 = .ok (.aload_n 0, 1) := by decide +kernel
theorem dX8_row_35 : decode cX8_row 35 = .ok (.getfield 49, 3) := by decide +kernel
theorem dX8_row_38 : decode cX8_row 38 = .ok (.aload_n 0, 1) := by decide +kernel
theorem dX8_row_39 : decode cX8_row 39 = .ok (.getfield 65, 3) := by decide +kernel
theorem dX8_row_42 : decode cX8_row 42 = .ok (.iload_n 1, 1) := by decide +kernel
theorem dX8_row_43 : decode cX8_row 43 = .ok (.iastore, 1) := by decide +kernel
theorem dX8_row_44 : decode cX8_row 44 = .ok (.aload_n 0, 1) := by decide +kernel
theorem dX8_row_45 : decode cX8_row 45 = .ok (.dup, 1) := by decide +kernel
theorem dX8_row_46 : decode cX8_row 46 = .ok (.getfield 65, 3) := by decide +kernel
theorem dX8_row_49 : decode cX8_row 49 = .ok (.iconst 1, 1) := by decide +kernel
theorem dX8_row_50 : decode cX8_row 50 = .ok (.iadd, 1) := by decide +kernel
theorem dX8_row_51 : decode cX8_row 51 = .ok (.putfield 65, 3) := by decide +kernel
theorem dX8_row_54 : decode cX8_row 54 = .ok (.aload_n 0, 1) := by decide +kernel
theorem dX8_row_55 : decode cX8_row 55 = .ok (.getfield 65, 3) := by decide +kernel
theorem dX8_row_58 : decode cX8_row 58 = .ok (.ireturn, 1) := by decide +kernel
theorem dX8_clear_0 : decode cX8_clear 0 = .ok (.aload_n 0, 1) := by decide +kernel
theorem dX8_clear_1 : decode cX8_clear 1 = .ok (.getfield 65, 3) := by decide +kernel
theorem dX8_clear_4 : decode cX8_clear 4 = .ok (.istore_n 1, 1) := by decide +kernel
theorem dX8_clear_5 : decode cX8_clear 5 = .ok (.aload_n 0, 1) := by decide +kernel
theorem dX8_clear_6 : decode cX8_clear 6 = .ok (.iconst 0, 1) := by decide +kernel
theorem dX8_clear_7 : decode cX8_clear 7 = .ok (.putfield 65, 3) := by decide +kernel
theorem dX8_clear_10 : decode cX8_clear 10 = .ok (.iload_n 1, 1) := by decide +kernel
theorem dX8_clear_11 : decode cX8_clear 11 = .ok (.ireturn, 1) := by decide +kernel
theorem dX8_judge_0 : decode cX8_judge 0 = .ok (.bipush (-9), 2) := by decide +kernel
theorem dX8_judge_2 : decode cX8_judge 2 = .ok (.istore_n 1, 1) := by decide +kernel
theorem dX8_judge_3 : decode cX8_judge 3 = .ok (.iconst 0, 1) := by decide +kernel
theorem dX8_judge_4 : decode cX8_judge 4 = .ok (.istore_n 2, 1) := by decide +kernel
theorem dX8_judge_5 : decode cX8_judge 5 = .ok (.iload_n 2, 1) := by decide +kernel
theorem dX8_judge_6 : decode cX8_judge 6 = .ok (.aload_n 0, 1) := by decide +kernel
theorem dX8_judge_7 : decode cX8_judge 7 = .ok (.getfield 65, 3) := by decide +kernel
theorem dX8_judge_10 : decode cX8_judge 10 = .ok (.if_icmp .ge 46, 3) := by decide +kernel
theorem dX8_judge_13 : decode cX8_judge 13 = .ok (.iload_n 1, 1) := by decide +kernel
theorem dX8_judge_14 : decode cX8_judge 14 = .ok (.bipush (-9), 2) := by decide +kernel
theorem dX8_judge_16 : decode cX8_judge 16 = .ok (.if_icmp .ne 40, 3) := by decide +kernel
theorem dX8_judge_19 : decode cX8_judge 19 = .ok (.iload_n 2, 1) := by decide +kernel
theorem dX8_judge_20 : decode cX8_judge 20 = .ok (.aload_n 0, 1) := by decide +kernel
theorem dX8_judge_21 : decode cX8_judge 21 = .ok (.getfield 30, 3) := by decide +kernel
theorem dX8_judge_24 : decode cX8_judge 24 = .ok (.getfield 192, 3) := by decide +kernel
theorem dX8_judge_27 : decode cX8_judge 27 = .ok (.if_icmp .ge 21, 3) := by decide +kernel
theorem dX8_judge_30 : decode cX8_judge 30 = .ok (.aload_n 0, 1) := by decide +kernel
theorem dX8_judge_31 : decode cX8_judge 31 = .ok (.getfield 30, 3) := by decide +kernel
theorem dX8_judge_34 : decode cX8_judge 34 = .ok (.getfield 160, 3) := by decide +kernel
theorem dX8_judge_37 : decode cX8_judge 37 = .ok (.iload_n 2, 1) := by decide +kernel
theorem dX8_judge_38 : decode cX8_judge 38 = .ok (.iaload, 1) := by decide +kernel
theorem dX8_judge_39 : decode cX8_judge 39 = .ok (.aload_n 0, 1) := by decide +kernel
theorem dX8_judge_40 : decode cX8_judge 40 = .ok (.getfield 49, 3) := by decide +kernel
theorem dX8_judge_43 : decode cX8_judge 43 = .ok (.iload_n 2, 1) := by decide +kernel
theorem dX8_judge_44 : decode cX8_judge 44 = .ok (.iaload, 1) := by decide +kernel
theorem dX8_judge_45 : decode cX8_judge 45 = .ok (.if_icmp .eq 5, 3) := by decide +kernel
theorem dX8_judge_48 : decode cX8_judge 48 = .ok (.iload_n 2, 1) := by decide +kernel
theorem dX8_judge_49 : decode cX8_judge 49 = .ok (.istore_n 1, 1) := by decide +kernel
theorem dX8_judge_50 : decode cX8_judge 50 = .ok (.iinc 2 1, 3) := by decide +kernel
theorem dX8_judge_53 : decode cX8_judge 53 = .ok (.goto (-48), 3) := by decide +kernel
theorem dX8_judge_56 : decode cX8_judge 56 = .ok (.aload_n 0, 1) := by decide +kernel
theorem dX8_judge_57 : decode cX8_judge 57 = .ok (.iconst 0, 1) := by decide +kernel
theorem dX8_judge_58 : decode cX8_judge 58 = .ok (.putfield 65, 3) := by decide +kernel
theorem dX8_judge_61 : decode cX8_judge 61 = .ok (.iload_n 1, 1) := by decide +kernel
theorem dX8_judge_62 : decode cX8_judge 62 = .ok (.ireturn, 1) := by decide +kernel
theorem dX8_who_0 : decode cX8_who 0 = .ok (.aload_n 0, 1) := by decide +kernel
theorem dX8_who_1 : decode cX8_who 1 = .ok (.iload_n 1, 1) := by decide +kernel
theorem dX8_who_2 : decode cX8_who 2 = .ok (.invokevirtual 96, 3) := by decide +kernel
theorem dX8_who_5 : decode cX8_who 5 = .ok (.istore_n 2, 1) := by decide +kernel
theorem dX8_who_6 : decode cX8_who 6 = .ok (.iload_n 2, 1) := by decide +kernel
theorem dX8_who_7 : decode cX8_who 7 = .ok (.ifCond .eq 9, 3) := by decide +kernel
theorem dX8_who_10 : decode cX8_who 10 = .ok (.aload_n 0, 1) := by decide +kernel
theorem dX8_who_11 : decode cX8_who 11 = .ok (.iload_n 2, 1) := by decide +kernel
theorem dX8_who_12 : decode cX8_who 12 = .ok (.invokevirtual 77, 3) := by decide +kernel
theorem dX8_who_15 : decode cX8_who 15 = .ok (.ireturn, 1) := by decide +kernel
theorem dX8_who_16 : decode cX8_who 16 = .ok (.iconst 0, 1) := by decide +kernel
theorem dX8_who_17 : decode cX8_who 17 = .ok (.istore_n 3, 1) := by decide +kernel
theorem dX8_who_18 : decode cX8_who 18 = .ok (.iconst 0, 1) := by decide +kernel
theorem dX8_who_19 : decode cX8_who 19 = .ok (.istore 4, 2) := by decide +kernel
theorem dX8_who_21 : decode cX8_who 21 = .ok (.iload 4, 2) := by decide +kernel
theorem dX8_who_23 : decode cX8_who 23 = .ok (.aload_n 0, 1) := by decide +kernel
theorem dX8_who_24 : decode cX8_who 24 = .ok (.getfield 30, 3) := by decide +kernel
theorem dX8_who_27 : decode cX8_who 27 = .ok (.getfield 192, 3) := by decide +kernel
theorem dX8_who_30 : decode cX8_who 30 = .ok (.if_icmp .ge 26, 3) := by decide +kernel
theorem dX8_who_33 : decode cX8_who 33 = .ok (.aload_n 0, 1) := by decide +kernel
theorem dX8_who_34 : decode cX8_who 34 = .ok (.iload 4, 2) := by decide +kernel
theorem dX8_who_36 : decode cX8_who 36 = .ok (.iload_n 1, 1) := by decide +kernel
theorem dX8_who_37 : decode cX8_who 37 = .ok (.invokevirtual 270, 3) := by decide +kernel
theorem dX8_who_40 : decode cX8_who 40 = .ok (.ifCond .eq 10, 3) := by decide +kernel
theorem dX8_who_43 : decode cX8_who 43 = .ok (.iload_n 3, 1) := by decide +kernel
theorem dX8_who_44 : decode cX8_who 44 = .ok (.iconst 1, 1) := by decide +kernel
theorem dX8_who_45 : decode cX8_who 45 = .ok (.iload 4, 2) := by decide +kernel
theorem dX8_who_47 : decode cX8_who 47 = .ok (.ishl, 1) := by decide +kernel
theorem dX8_who_48 : decode cX8_who 48 = .ok (.ior, 1) := by decide +kernel
theorem dX8_who_49 : decode cX8_who 49 = .ok (.istore_n 3, 1) := by decide +kernel
theorem dX8_who_50 : decode cX8_who 50 = .ok (.iinc 4 1, 3) := by decide +kernel
theorem dX8_who_53 : decode cX8_who 53 = .ok (.goto (-32), 3) := by decide +kernel
theorem dX8_who_56 : decode cX8_who 56 = .ok (.iload_n 3, 1) := by decide +kernel
theorem dX8_who_57 : decode cX8_who 57 = .ok (.ireturn, 1) := by decide +kernel
theorem dX8_wearingFits_0 : decode cX8_wearingFits 0 = .ok (.aload_n 0, 1) := by decide +kernel
theorem dX8_wearingFits_1 : decode cX8_wearingFits 1 = .ok (.getfield 30, 3) := by decide +kernel
theorem dX8_wearingFits_4 : decode cX8_wearingFits 4 = .ok (.iload_n 1, 1) := by decide +kernel
theorem dX8_wearingFits_5 : decode cX8_wearingFits 5 = .ok (.iload_n 2, 1) := by decide +kernel
theorem dX8_wearingFits_6 : decode cX8_wearingFits 6 = .ok (.invokevirtual 273, 3) := by decide +kernel
theorem dX8_wearingFits_9 : decode cX8_wearingFits 9 = .ok (.istore_n 3, 1) := by decide +kernel
theorem dX8_wearingFits_10 : decode cX8_wearingFits 10 = .ok (.aload_n 0, 1) := by decide +kernel
theorem dX8_wearingFits_11 : decode cX8_wearingFits 11 = .ok (.getfield 30, 3) := by decide +kernel
theorem dX8_wearingFits_14 : decode cX8_wearingFits 14 = .ok (.getfield 157, 3) := by decide +kernel
theorem dX8_wearingFits_17 : decode cX8_wearingFits 17 = .ok (.iload_n 2, 1) := by decide +kernel
theorem dX8_wearingFits_18 : decode cX8_wearingFits 18 = .ok (.iaload, 1) := by decide +kernel
theorem dX8_wearingFits_19 : decode cX8_wearingFits 19 = .ok (.istore 4, 2) := by decide +kernel
theorem dX8_wearingFits_21 : decode cX8_wearingFits 21 = .ok (.iconst 0, 1) := by decide +kernel
theorem dX8_wearingFits_22 : decode cX8_wearingFits 22 = .ok (.istore 5, 2) := by decide +kernel
theorem dX8_wearingFits_24 : decode cX8_wearingFits 24 = .ok (.iload 5, 2) := by decide +kernel
theorem dX8_wearingFits_26 : decode cX8_wearingFits 26 = .ok (.aload_n 0, 1) := by decide +kernel
theorem dX8_wearingFits_27 : decode cX8_wearingFits 27 = .ok (.getfield 65, 3) := by decide +kernel
theorem dX8_wearingFits_30 : decode cX8_wearingFits 30 = .ok (.if_icmp .ge 32, 3) := by decide +kernel
theorem dX8_wearingFits_33 : decode cX8_wearingFits 33 = .ok (.aload_n 0, 1) := by decide +kernel
theorem dX8_wearingFits_34 : decode cX8_wearingFits 34 = .ok (.getfield 49, 3) := by decide +kernel
theorem dX8_wearingFits_37 : decode cX8_wearingFits 37 = .ok (.iload 5, 2) := by decide +kernel
theorem dX8_wearingFits_39 : decode cX8_wearingFits 39 = .ok (.iaload, 1) := by decide +kernel
theorem dX8_wearingFits_40 : decode cX8_wearingFits 40 = .ok (.iload 4, 2) := by decide +kernel
theorem dX8_wearingFits_42 : decode cX8_wearingFits 42 = .ok (.if_icmp .eq 5, 3) := by decide +kernel
theorem dX8_wearingFits_45 : decode cX8_wearingFits 45 = .ok (.iconst 0, 1) := by decide +kernel
theorem dX8_wearingFits_46 : decode cX8_wearingFits 46 = .ok (.ireturn, 1) := by decide +kernel
theorem dX8_wearingFits_47 : decode cX8_wearingFits 47 = .ok (.iload 4, 2) := by decide +kernel
theorem dX8_wearingFits_49 : decode cX8_wearingFits 49 = .ok (.iload_n 3, 1) := by decide +kernel
theorem dX8_wearingFits_50 : decode cX8_wearingFits 50 = .ok (.iadd, 1) := by decide +kernel
theorem dX8_wearingFits_51 : decode cX8_wearingFits 51 = .ok (.invokestatic 276, 3) := by decide +kernel
theorem dX8_wearingFits_54 : decode cX8_wearingFits 54 = .ok (.istore 4, 2) := by decide +kernel
theorem dX8_wearingFits_56 : decode cX8_wearingFits 56 = .ok (.iinc 5 1, 3) := by decide +kernel
theorem dX8_wearingFits_59 : decode cX8_wearingFits 59 = .ok (.goto (-35), 3) := by decide +kernel
theorem dX8_wearingFits_62 : decode cX8_wearingFits 62 = .ok (.iconst 1, 1) := by decide +kernel
theorem dX8_wearingFits_63 : decode cX8_wearingFits 63 = .ok (.ireturn, 1) := by decide +kernel
theorem dX8_whatIs_0 : decode cX8_whatIs 0 = .ok (.aload_n 0, 1) := by decide +kernel
theorem dX8_whatIs_1 : decode cX8_whatIs 1 = .ok (.iload_n 1, 1) := by decide +kernel
theorem dX8_whatIs_2 : decode cX8_whatIs 2 = .ok (.invokevirtual 96, 3) := by decide +kernel
theorem dX8_whatIs_5 : decode cX8_whatIs 5 = .ok (.iload_n 2, 1) := by decide +kernel
theorem dX8_whatIs_6 : decode cX8_whatIs 6 = .ok (.iconst 2, 1) := by decide +kernel
theorem dX8_whatIs_7 : decode cX8_whatIs 7 = .ok (.invokestatic 99, 3) := by decide +kernel
theorem dX8_whatIs_10 : decode cX8_whatIs 10 = .ok (.invokestatic 103, 3) := by decide +kernel
theorem dX8_whatIs_13 : decode cX8_whatIs 13 = .ok (.istore_n 3, 1) := by decide +kernel
theorem dX8_whatIs_14 : decode cX8_whatIs 14 = .ok (.iload_n 3, 1) := by decide +kernel
theorem dX8_whatIs_15 : decode cX8_whatIs 15 = .ok (.ifCond .eq 9, 3) := by decide +kernel
theorem dX8_whatIs_18 : decode cX8_whatIs 18 = .ok (.aload_n 0, 1) := by decide +kernel
theorem dX8_whatIs_19 : decode cX8_whatIs 19 = .ok (.iload_n 3, 1) := by decide +kernel
theorem dX8_whatIs_20 : decode cX8_whatIs 20 = .ok (.invokevirtual 77, 3) := by decide +kernel
theorem dX8_whatIs_23 : decode cX8_whatIs 23 = .ok (.ireturn, 1) := by decide +kernel
theorem dX8_whatIs_24 : decode cX8_whatIs 24 = .ok (.aload_n 0, 1) := by decide +kernel
theorem dX8_whatIs_25 : decode cX8_whatIs 25 = .ok (.getfield 30, 3) := by decide +kernel
theorem dX8_whatIs_28 : decode cX8_whatIs 28 = .ok (.getfield 115, 3) := by decide +kernel
theorem dX8_whatIs_31 : decode cX8_whatIs 31 = .ok (.iload_n 1, 1) := by decide +kernel
theorem dX8_whatIs_32 : decode cX8_whatIs 32 = .ok (.iaload, 1) := by decide +kernel
theorem dX8_whatIs_33 : decode cX8_whatIs 33 = .ok (.istore 4, 2) := by decide +kernel
theorem dX8_whatIs_35 : decode cX8_whatIs 35 = .ok (.aload_n 0, 1) := by decide +kernel
theorem dX8_whatIs_36 : decode cX8_whatIs 36 = .ok (.getfield 30, 3) := by decide +kernel
theorem dX8_whatIs_39 : decode cX8_whatIs 39 = .ok (.iload 4, 2) := by decide +kernel
theorem dX8_whatIs_41 : decode cX8_whatIs 41 = .ok (.invokevirtual 279, 3) := by decide +kernel
theorem dX8_whatIs_44 : decode cX8_whatIs 44 = .ok (.ifCond .ne 5, 3) := by decide +kernel
theorem dX8_whatIs_47 : decode cX8_whatIs 47 = .ok (.iconst 0, 1) := by decide +kernel
theorem dX8_whatIs_48 : decode cX8_whatIs 48 = .ok (.ireturn, 1) := by decide +kernel
theorem dX8_whatIs_49 : decode cX8_whatIs 49 = .ok (.iconst 0, 1) := by decide +kernel
theorem dX8_whatIs_50 : decode cX8_whatIs 50 = .ok (.istore 5, 2) := by decide +kernel
theorem dX8_whatIs_52 : decode cX8_whatIs 52 = .ok (.iload_n 2, 1) := by decide +kernel
theorem dX8_whatIs_53 : decode cX8_whatIs 53 = .ok (.ifCond .ne 8, 3) := by decide +kernel
theorem dX8_whatIs_56 : decode cX8_whatIs 56 = .ok (.bipush 6, 2) := by decide +kernel
theorem dX8_whatIs_58 : decode cX8_whatIs 58 = .ok (.goto 5, 3) := by decide +kernel
theorem dX8_whatIs_61 : decode cX8_whatIs 61 = .ok (.bipush 10, 2) := by decide +kernel
theorem dX8_whatIs_63 : decode cX8_whatIs 63 = .ok (.istore 6, 2) := by decide +kernel
theorem dX8_whatIs_65 : decode cX8_whatIs 65 = .ok (.iconst 0, 1) := by decide +kernel
theorem dX8_whatIs_66 : decode cX8_whatIs 66 = .ok (.istore 7, 2) := by decide +kernel
theorem dX8_whatIs_68 : decode cX8_whatIs 68 = .ok (.iload 7, 2) := by decide +kernel
theorem dX8_whatIs_70 : decode cX8_whatIs 70 = .ok (.iload 6, 2) := by decide +kernel
theorem dX8_whatIs_72 : decode cX8_whatIs 72 = .ok (.if_icmp .ge 67, 3) := by decide +kernel
theorem dX8_whatIs_75 : decode cX8_whatIs 75 = .ok (.aload_n 0, 1) := by decide +kernel
theorem dX8_whatIs_76 : decode cX8_whatIs 76 = .ok (.getfield 36, 3) := by decide +kernel
theorem dX8_whatIs_79 : decode cX8_whatIs 79 = .ok (.aload_n 0, 1) := by decide +kernel
theorem dX8_whatIs_80 : decode cX8_whatIs 80 = .ok (.getfield 30, 3) := by decide +kernel
theorem dX8_whatIs_83 : decode cX8_whatIs 83 = .ok (.invokevirtual 88, 3) := by decide +kernel
theorem dX8_whatIs_86 : decode cX8_whatIs 86 = .ok (.iload_n 2, 1) := by decide +kernel
theorem dX8_whatIs_87 : decode cX8_whatIs 87 = .ok (.ifCond .ne 13, 3) := by decide +kernel
theorem dX8_whatIs_90 : decode cX8_whatIs 90 = .ok (.aload_n 0, 1) := by decide +kernel
theorem dX8_whatIs_91 : decode cX8_whatIs 91 = .ok (.getfield 36, 3) := by decide +kernel
theorem dX8_whatIs_94 : decode cX8_whatIs 94 = .ok (.getfield 106, 3) := by decide +kernel
theorem dX8_whatIs_97 : decode cX8_whatIs 97 = .ok (.goto 10, 3) := by decide +kernel
theorem dX8_whatIs_100 : decode cX8_whatIs 100 = .ok (.aload_n 0, 1) := by decide +kernel
theorem dX8_whatIs_101 : decode cX8_whatIs 101 = .ok (.getfield 36, 3) := by decide +kernel
theorem dX8_whatIs_104 : decode cX8_whatIs 104 = .ok (.getfield 109, 3) := by decide +kernel
theorem dX8_whatIs_107 : decode cX8_whatIs 107 = .ok (.astore 8, 2) := by decide +kernel
theorem dX8_whatIs_109 : decode cX8_whatIs 109 = .ok (.aload 8, 2) := by decide +kernel
theorem dX8_whatIs_111 : decode cX8_whatIs 111 = .ok (.iload_n 1, 1) := by decide +kernel
theorem dX8_whatIs_112 : decode cX8_whatIs 112 = .ok (.iload 7, 2) := by decide +kernel
theorem dX8_whatIs_114 : decode cX8_whatIs 114 = .ok (.iastore, 1) := by decide +kernel
theorem dX8_whatIs_115 : decode cX8_whatIs 115 = .ok (.aload_n 0, 1) := by decide +kernel
theorem dX8_whatIs_116 : decode cX8_whatIs 116 = .ok (.iload 4, 2) := by decide +kernel
theorem dX8_whatIs_118 : decode cX8_whatIs 118 = .ok (.invokevirtual 282, 3) := by decide +kernel
theorem dX8_whatIs_121 : decode cX8_whatIs 121 = .ok (.ifCond .eq 12, 3) := by decide +kernel
theorem dX8_whatIs_124 : decode cX8_whatIs 124 = .ok (.iload 5, 2) := by decide +kernel
theorem dX8_whatIs_126 : decode cX8_whatIs 126 = .ok (.iconst 1, 1) := by decide +kernel
theorem dX8_whatIs_127 : decode cX8_whatIs 127 = .ok (.iload 7, 2) := by decide +kernel
theorem dX8_whatIs_129 : decode cX8_whatIs 129 = .ok (.ishl, 1) := by decide +kernel
theorem dX8_whatIs_130 : decode cX8_whatIs 130 = .ok (.ior, 1) := by decide +kernel
theorem dX8_whatIs_131 : decode cX8_whatIs 131 = .ok (.istore 5, 2) := by decide +kernel
theorem dX8_whatIs_133 : decode cX8_whatIs 133 = .ok (.iinc 7 1, 3) := by decide +kernel
theorem dX8_whatIs_136 : decode cX8_whatIs 136 = .ok (.goto (-68), 3) := by decide +kernel
theorem dX8_whatIs_139 : decode cX8_whatIs 139 = .ok (.iload 5, 2) := by decide +kernel
theorem dX8_whatIs_141 : decode cX8_whatIs 141 = .ok (.ireturn, 1) := by decide +kernel
theorem dX8_mindFits_0 : decode cX8_mindFits 0 = .ok (.iconst 0, 1) := by decide +kernel
theorem dX8_mindFits_1 : decode cX8_mindFits 1 = .ok (.istore_n 2, 1) := by decide +kernel
theorem dX8_mindFits_2 : decode cX8_mindFits 2 = .ok (.iload_n 2, 1) := by decide +kernel
theorem dX8_mindFits_3 : decode cX8_mindFits 3 = .ok (.aload_n 0, 1) := by decide +kernel
theorem dX8_mindFits_4 : decode cX8_mindFits 4 = .ok (.getfield 65, 3) := by decide +kernel
theorem dX8_mindFits_7 : decode cX8_mindFits 7 = .ok (.if_icmp .ge 37, 3) := by decide +kernel
theorem dX8_mindFits_10 : decode cX8_mindFits 10 = .ok (.aload_n 0, 1) := by decide +kernel
theorem dX8_mindFits_11 : decode cX8_mindFits 11 = .ok (.getfield 49, 3) := by decide +kernel
theorem dX8_mindFits_14 : decode cX8_mindFits 14 = .ok (.iload_n 2, 1) := by decide +kernel
theorem dX8_mindFits_15 : decode cX8_mindFits 15 = .ok (.iaload, 1) := by decide +kernel
theorem dX8_mindFits_16 : decode cX8_mindFits 16 = .ok (.aload_n 0, 1) := by decide +kernel
theorem dX8_mindFits_17 : decode cX8_mindFits 17 = .ok (.getfield 36, 3) := by decide +kernel
theorem dX8_mindFits_20 : decode cX8_mindFits 20 = .ok (.getfield 157, 3) := by decide +kernel
theorem dX8_mindFits_23 : decode cX8_mindFits 23 = .ok (.iload_n 1, 1) := by decide +kernel
theorem dX8_mindFits_24 : decode cX8_mindFits 24 = .ok (.iaload, 1) := by decide +kernel
theorem dX8_mindFits_25 : decode cX8_mindFits 25 = .ok (.if_icmp .eq 5, 3) := by decide +kernel
theorem dX8_mindFits_28 : decode cX8_mindFits 28 = .ok (.iconst 0, 1) := by decide +kernel
theorem dX8_mindFits_29 : decode cX8_mindFits 29 = .ok (.ireturn, 1) := by decide +kernel
theorem dX8_mindFits_30 : decode cX8_mindFits 30 = .ok (.aload_n 0, 1) := by decide +kernel
theorem dX8_mindFits_31 : decode cX8_mindFits 31 = .ok (.getfield 36, 3) := by decide +kernel
theorem dX8_mindFits_34 : decode cX8_mindFits 34 = .ok (.iconst 1, 1) := by decide +kernel
theorem dX8_mindFits_35 : decode cX8_mindFits 35 = .ok (.invokevirtual 166, 3) := by decide +kernel
theorem dX8_mindFits_38 : decode cX8_mindFits 38 = .ok (.iinc 2 1, 3) := by decide +kernel
theorem dX8_mindFits_41 : decode cX8_mindFits 41 = .ok (.goto (-39), 3) := by decide +kernel
theorem dX8_mindFits_44 : decode cX8_mindFits 44 = .ok (.iconst 1, 1) := by decide +kernel
theorem dX8_mindFits_45 : decode cX8_mindFits 45 = .ok (.ireturn, 1) := by decide +kernel
theorem dX8_lots_0 : decode cX8_lots 0 = .ok (.iload_n 1, 1) := by decide +kernel
theorem dX8_lots_1 : decode cX8_lots 1 = .ok (.iconst 1, 1) := by decide +kernel
theorem dX8_lots_2 : decode cX8_lots 2 = .ok (.bipush 20, 2) := by decide +kernel
theorem dX8_lots_4 : decode cX8_lots 4 = .ok (.invokestatic 73, 3) := by decide +kernel
theorem dX8_lots_7 : decode cX8_lots 7 = .ok (.iload_n 3, 1) := by decide +kernel
theorem dX8_lots_8 : decode cX8_lots 8 = .ok (.iconst 2, 1) := by decide +kernel
theorem dX8_lots_9 : decode cX8_lots 9 = .ok (.invokestatic 99, 3) := by decide +kernel
theorem dX8_lots_12 : decode cX8_lots 12 = .ok (.invokestatic 103, 3) := by decide +kernel
theorem dX8_lots_15 : decode cX8_lots 15 = .ok (.istore 4, 2) := by decide +kernel
theorem dX8_lots_17 : decode cX8_lots 17 = .ok (.iload 4, 2) := by decide +kernel
theorem dX8_lots_19 : decode cX8_lots 19 = .ok (.ifCond .eq 10, 3) := by decide +kernel
theorem dX8_lots_22 : decode cX8_lots 22 = .ok (.aload_n 0, 1) := by decide +kernel
theorem dX8_lots_23 : decode cX8_lots 23 = .ok (.iload 4, 2) := by decide +kernel
theorem dX8_lots_25 : decode cX8_lots 25 = .ok (.invokevirtual 121, 3) := by decide +kernel
theorem dX8_lots_28 : decode cX8_lots 28 = .ok (.ireturn, 1) := by decide +kernel
theorem dX8_lots_29 : decode cX8_lots 29 = .ok (.aload_n 0, 1) := by decide +kernel
theorem dX8_lots_30 : decode cX8_lots 30 = .ok (.getfield 30, 3) := by decide +kernel
theorem dX8_lots_33 : decode cX8_lots 33 = .ok (.getfield 192, 3) := by decide +kernel
theorem dX8_lots_36 : decode cX8_lots 36 = .ok (.ifCond .ne 10, 3) := by decide +kernel
theorem dX8_lots_39 : decode cX8_lots 39 = .ok (.aload_n 0, 1) := by decide +kernel
theorem dX8_lots_40 : decode cX8_lots 40 = .ok (.bipush (-3), 2) := by decide +kernel
theorem dX8_lots_42 : decode cX8_lots 42 = .ok (.invokevirtual 121, 3) := by decide +kernel
theorem dX8_lots_45 : decode cX8_lots 45 = .ok (.ireturn, 1) := by decide +kernel
theorem dX8_lots_46 : decode cX8_lots 46 = .ok (.iload_n 2, 1) := by decide +kernel
theorem dX8_lots_47 : decode cX8_lots 47 = .ok (.istore 5, 2) := by decide +kernel
theorem dX8_lots_49 : decode cX8_lots 49 = .ok (.iconst 0, 1) := by decide +kernel
theorem dX8_lots_50 : decode cX8_lots 50 = .ok (.istore 6, 2) := by decide +kernel
theorem dX8_lots_52 : decode cX8_lots 52 = .ok (.iconst 0, 1) := by decide +kernel
theorem dX8_lots_53 : decode cX8_lots 53 = .ok (.istore 7, 2) := by decide +kernel
theorem dX8_lots_55 : decode cX8_lots 55 = .ok (.iload 7, 2) := by decide +kernel
theorem dX8_lots_57 : decode cX8_lots 57 = .ok (.iload_n 1, 1) := by decide +kernel
theorem dX8_lots_58 : decode cX8_lots 58 = .ok (.if_icmp .ge 43, 3) := by decide +kernel
theorem dX8_lots_61 : decode cX8_lots 61 = .ok (.aload_n 0, 1) := by decide +kernel
theorem dX8_lots_62 : decode cX8_lots 62 = .ok (.iload 5, 2) := by decide +kernel
theorem dX8_lots_64 : decode cX8_lots 64 = .ok (.invokevirtual 285, 3) := by decide +kernel
theorem dX8_lots_67 : decode cX8_lots 67 = .ok (.istore 5, 2) := by decide +kernel
theorem dX8_lots_69 : decode cX8_lots 69 = .ok (.iload 6, 2) := by decide +kernel
theorem dX8_lots_71 : decode cX8_lots 71 = .ok (.iload_n 3, 1) := by decide +kernel
theorem dX8_lots_72 : decode cX8_lots 72 = .ok (.ifCond .ne 13, 3) := by decide +kernel
theorem dX8_lots_75 : decode cX8_lots 75 = .ok (.aload_n 0, 1) := by decide +kernel
theorem dX8_lots_76 : decode cX8_lots 76 = .ok (.getfield 36, 3) := by decide +kernel
theorem dX8_lots_79 : decode cX8_lots 79 = .ok (.invokevirtual 218, 3) := by decide +kernel
theorem dX8_lots_82 : decode cX8_lots 82 = .ok (.goto 10, 3) := by decide +kernel
theorem dX8_lots_85 : decode cX8_lots 85 = .ok (.aload_n 0, 1) := by decide +kernel
theorem dX8_lots_86 : decode cX8_lots 86 = .ok (.getfield 36, 3) := by decide +kernel
theorem dX8_lots_89 : decode cX8_lots 89 = .ok (.invokevirtual 288, 3) := by decide +kernel
theorem dX8_lots_92 : decode cX8_lots 92 = .ok (.iadd, 1) := by decide +kernel
theorem dX8_lots_93 : decode cX8_lots 93 = .ok (.istore 6, 2) := by decide +kernel
theorem dX8_lots_95 : decode cX8_lots 95 = .ok (.iinc 7 1, 3) := by decide +kernel
theorem dX8_lots_98 : decode cX8_lots 98 = .ok (.goto (-43), 3) := by decide +kernel
theorem dX8_lots_101 : decode cX8_lots 101 = .ok (.iload 6, 2) := by decide +kernel
theorem dX8_lots_103 : decode cX8_lots 103 = .ok (.ireturn, 1) := by decide +kernel
theorem dX8_drawTown_0 : decode cX8_drawTown 0 = .ok (.iload_n 1, 1) := by decide +kernel
theorem dX8_drawTown_1 : decode cX8_drawTown 1 = .ok (.istore_n 2, 1) := by decide +kernel
theorem dX8_drawTown_2 : decode cX8_drawTown 2 = .ok (.aload_n 0, 1) := by decide +kernel
theorem dX8_drawTown_3 : decode cX8_drawTown 3 = .ok (.getfield 36, 3) := by decide +kernel
theorem dX8_drawTown_6 : decode cX8_drawTown 6 = .ok (.aload_n 0, 1) := by decide +kernel
theorem dX8_drawTown_7 : decode cX8_drawTown 7 = .ok (.getfield 30, 3) := by decide +kernel
theorem dX8_drawTown_10 : decode cX8_drawTown 10 = .ok (.invokevirtual 88, 3) := by decide +kernel
theorem dX8_drawTown_13 : decode cX8_drawTown 13 = .ok (.iconst 0, 1) := by decide +kernel
theorem dX8_drawTown_14 : decode cX8_drawTown 14 = .ok (.istore_n 3, 1) := by decide +kernel
theorem dX8_drawTown_15 : decode cX8_drawTown 15 = .ok (.iload_n 3, 1) := by decide +kernel
theorem dX8_drawTown_16 : decode cX8_drawTown 16 = .ok (.iconst 4, 1) := by decide +kernel
theorem dX8_drawTown_17 : decode cX8_drawTown 17 = .ok (.if_icmp .ge 70, 3) := by decide +kernel
theorem dX8_drawTown_20 : decode cX8_drawTown 20 = .ok (.iload_n 2, 1) := by decide +kernel
theorem dX8_drawTown_21 : decode cX8_drawTown 21 = .ok (.invokestatic 291, 3) := by decide +kernel
theorem dX8_drawTown_24 : decode cX8_drawTown 24 = .ok (.istore_n 2, 1) := by decide +kernel
theorem dX8_drawTown_25 : decode cX8_drawTown 25 = .ok (.aload_n 0, 1) := by decide +kernel
theorem dX8_drawTown_26 : decode cX8_drawTown 26 = .ok (.getfield 30, 3) := by decide +kernel
theorem dX8_drawTown_29 : decode cX8_drawTown 29 = .ok (.getfield 192, 3) := by decide +kernel
theorem dX8_drawTown_32 : decode cX8_drawTown 32 = .ok (.iload_n 2, 1) := by decide +kernel
theorem dX8_drawTown_33 : decode cX8_drawTown 33 = .ok (.invokestatic 294, 3) := by decide +kernel
theorem dX8_drawTown_36 : decode cX8_drawTown 36 = .ok (.istore 4, 2) := by decide +kernel
theorem dX8_drawTown_38 : decode cX8_drawTown 38 = .ok (.iload_n 2, 1) := by decide +kernel
theorem dX8_drawTown_39 : decode cX8_drawTown 39 = .ok (.invokestatic 291, 3) := by decide +kernel
theorem dX8_drawTown_42 : decode cX8_drawTown 42 = .ok (.istore_n 2, 1) := by decide +kernel
theorem dX8_drawTown_43 : decode cX8_drawTown 43 = .ok (.aload_n 0, 1) := by decide +kernel
theorem dX8_drawTown_44 : decode cX8_drawTown 44 = .ok (.getfield 30, 3) := by decide +kernel
theorem dX8_drawTown_47 : decode cX8_drawTown 47 = .ok (.getfield 192, 3) := by decide +kernel
theorem dX8_drawTown_50 : decode cX8_drawTown 50 = .ok (.iload_n 2, 1) := by decide +kernel
theorem dX8_drawTown_51 : decode cX8_drawTown 51 = .ok (.invokestatic 294, 3) := by decide +kernel
theorem dX8_drawTown_54 : decode cX8_drawTown 54 = .ok (.istore 5, 2) := by decide +kernel
theorem dX8_drawTown_56 : decode cX8_drawTown 56 = .ok (.aload_n 0, 1) := by decide +kernel
theorem dX8_drawTown_57 : decode cX8_drawTown 57 = .ok (.getfield 36, 3) := by decide +kernel
theorem dX8_drawTown_60 : decode cX8_drawTown 60 = .ok (.iload 4, 2) := by decide +kernel
theorem dX8_drawTown_62 : decode cX8_drawTown 62 = .ok (.iload 5, 2) := by decide +kernel
theorem dX8_drawTown_64 : decode cX8_drawTown 64 = .ok (.invokevirtual 130, 3) := by decide +kernel
theorem dX8_drawTown_67 : decode cX8_drawTown 67 = .ok (.ifCond .eq 14, 3) := by decide +kernel
theorem dX8_drawTown_70 : decode cX8_drawTown 70 = .ok (.aload_n 0, 1) := by decide +kernel
theorem dX8_drawTown_71 : decode cX8_drawTown 71 = .ok (.getfield 36, 3) := by decide +kernel
theorem dX8_drawTown_74 : decode cX8_drawTown 74 = .ok (.iload 4, 2) := by decide +kernel
theorem dX8_drawTown_76 : decode cX8_drawTown 76 = .ok (.iload 5, 2) := by decide +kernel
theorem dX8_drawTown_78 : decode cX8_drawTown 78 = .ok (.invokevirtual 134, 3) := by decide +kernel
theorem dX8_drawTown_81 : decode cX8_drawTown 81 = .ok (.iinc 3 1, 3) := by decide +kernel
theorem dX8_drawTown_84 : decode cX8_drawTown 84 = .ok (.goto (-69), 3) := by decide +kernel
theorem dX8_drawTown_87 : decode cX8_drawTown 87 = .ok (.aload_n 0, 1) := by decide +kernel
theorem dX8_drawTown_88 : decode cX8_drawTown 88 = .ok (.getfield 36, 3) := by decide +kernel
theorem dX8_drawTown_91 : decode cX8_drawTown 91 = .ok (.bipush 6, 2) := by decide +kernel
theorem dX8_drawTown_93 : decode cX8_drawTown 93 = .ok (.invokevirtual 166, 3) := by decide +kernel
theorem dX8_drawTown_96 : decode cX8_drawTown 96 = .ok (.iload_n 2, 1) := by decide +kernel
theorem dX8_drawTown_97 : decode cX8_drawTown 97 = .ok (.ireturn, 1) := by decide +kernel
theorem dX8_nextSeed_0 : decode cX8_nextSeed 0 = .ok (.iload_n 0, 1) := by decide +kernel
theorem dX8_nextSeed_1 : decode cX8_nextSeed 1 = .ok (.ldc_w 297, 3) := by decide +kernel
theorem dX8_nextSeed_4 : decode cX8_nextSeed 4 = .ok (.imul, 1) := by decide +kernel
theorem dX8_nextSeed_5 : decode cX8_nextSeed 5 = .ok (.ldc_w 298, 3) := by decide +kernel
theorem dX8_nextSeed_8 : decode cX8_nextSeed 8 = .ok (.iadd, 1) := by decide +kernel
theorem dX8_nextSeed_9 : decode cX8_nextSeed 9 = .ok (.ireturn, 1) := by decide +kernel
theorem dX8_drawBelow_0 : decode cX8_drawBelow 0 = .ok (.iload_n 0, 1) := by decide +kernel
theorem dX8_drawBelow_1 : decode cX8_drawBelow 1 = .ok (.ifCond .gt 7, 3) := by decide +kernel
theorem dX8_drawBelow_4 : decode cX8_drawBelow 4 = .ok (.iconst 0, 1) := by decide +kernel
theorem dX8_drawBelow_5 : decode cX8_drawBelow 5 = .ok (.goto 14, 3) := by decide +kernel
theorem dX8_drawBelow_8 : decode cX8_drawBelow 8 = .ok (.iload_n 1, 1) := by decide +kernel
theorem dX8_drawBelow_9 : decode cX8_drawBelow 9 = .ok (.ldc_w 299, 3) := by decide +kernel
theorem dX8_drawBelow_12 : decode cX8_drawBelow 12 = .ok (.iand, 1) := by decide +kernel
theorem dX8_drawBelow_13 : decode cX8_drawBelow 13 = .ok (.sipush 256, 3) := by decide +kernel
theorem dX8_drawBelow_16 : decode cX8_drawBelow 16 = .ok (.idiv, 1) := by decide +kernel
theorem dX8_drawBelow_17 : decode cX8_drawBelow 17 = .ok (.iload_n 0, 1) := by decide +kernel
theorem dX8_drawBelow_18 : decode cX8_drawBelow 18 = .ok (.irem, 1) := by decide +kernel
theorem dX8_drawBelow_19 : decode cX8_drawBelow 19 = .ok (.ireturn, 1) := by decide +kernel
theorem dX8_image_0 : decode cX8_image 0 = .ok (.aload_n 0, 1) := by decide +kernel
theorem dX8_image_1 : decode cX8_image 1 = .ok (.getfield 39, 3) := by decide +kernel
theorem dX8_image_4 : decode cX8_image 4 = .ok (.aload_n 0, 1) := by decide +kernel
theorem dX8_image_5 : decode cX8_image 5 = .ok (.getfield 30, 3) := by decide +kernel
theorem dX8_image_8 : decode cX8_image 8 = .ok (.invokevirtual 88, 3) := by decide +kernel
theorem dX8_image_11 : decode cX8_image 11 = .ok (.aload_n 0, 1) := by decide +kernel
theorem dX8_image_12 : decode cX8_image 12 = .ok (.iconst 1, 1) := by decide +kernel
theorem dX8_image_13 : decode cX8_image 13 = .ok (.putfield 69, 3) := by decide +kernel
theorem dX8_image_16 : decode cX8_image 16 = .ok (.aload_n 0, 1) := by decide +kernel
theorem dX8_image_17 : decode cX8_image 17 = .ok (.getfield 30, 3) := by decide +kernel
theorem dX8_image_20 : decode cX8_image 20 = .ok (.getfield 163, 3) := by decide +kernel
theorem dX8_image_23 : decode cX8_image 23 = .ok (.ireturn, 1) := by decide +kernel
theorem dX8_on_0 : decode cX8_on 0 = .ok (.aload_n 0, 1) := by decide +kernel
theorem dX8_on_1 : decode cX8_on 1 = .ok (.getfield 69, 3) := by decide +kernel
theorem dX8_on_4 : decode cX8_on 4 = .ok (.ifCond .ne 10, 3) := by decide +kernel
theorem dX8_on_7 : decode cX8_on 7 = .ok (.aload_n 0, 1) := by decide +kernel
theorem dX8_on_8 : decode cX8_on 8 = .ok (.bipush (-3), 2) := by decide +kernel
theorem dX8_on_10 : decode cX8_on 10 = .ok (.invokevirtual 77, 3) := by decide +kernel
theorem dX8_on_13 : decode cX8_on 13 = .ok (.ireturn, 1) := by decide +kernel
theorem dX8_on_14 : decode cX8_on 14 = .ok (.aload_n 0, 1) := by decide +kernel
theorem dX8_on_15 : decode cX8_on 15 = .ok (.getfield 30, 3) := by decide +kernel
theorem dX8_on_18 : decode cX8_on 18 = .ok (.aload_n 0, 1) := by decide +kernel
theorem dX8_on_19 : decode cX8_on 19 = .ok (.getfield 39, 3) := by decide +kernel
theorem dX8_on_22 : decode cX8_on 22 = .ok (.invokevirtual 88, 3) := by decide +kernel
theorem dX8_on_25 : decode cX8_on 25 = .ok (.aload_n 0, 1) := by decide +kernel
theorem dX8_on_26 : decode cX8_on 26 = .ok (.getfield 30, 3) := by decide +kernel
theorem dX8_on_29 : decode cX8_on 29 = .ok (.getfield 163, 3) := by decide +kernel
theorem dX8_on_32 : decode cX8_on 32 = .ok (.ireturn, 1) := by decide +kernel
theorem dX8_count_0 : decode cX8_count 0 = .ok (.iload_n 1, 1) := by decide +kernel
theorem dX8_count_1 : decode cX8_count 1 = .ok (.bipush 11, 2) := by decide +kernel
theorem dX8_count_3 : decode cX8_count 3 = .ok (.if_icmp .lt 19, 3) := by decide +kernel
theorem dX8_count_6 : decode cX8_count 6 = .ok (.iload_n 1, 1) := by decide +kernel
theorem dX8_count_7 : decode cX8_count 7 = .ok (.bipush 16, 2) := by decide +kernel
theorem dX8_count_9 : decode cX8_count 9 = .ok (.if_icmp .gt 13, 3) := by decide +kernel
theorem dX8_count_12 : decode cX8_count 12 = .ok (.aload_n 0, 1) := by decide +kernel
theorem dX8_count_13 : decode cX8_count 13 = .ok (.getfield 53, 3) := by decide +kernel
theorem dX8_count_16 : decode cX8_count 16 = .ok (.iload_n 1, 1) := by decide +kernel
theorem dX8_count_17 : decode cX8_count 17 = .ok (.bipush 10, 2) := by decide +kernel
theorem dX8_count_19 : decode cX8_count 19 = .ok (.isub, 1) := by decide +kernel
theorem dX8_count_20 : decode cX8_count 20 = .ok (.iaload, 1) := by decide +kernel
theorem dX8_count_21 : decode cX8_count 21 = .ok (.ireturn, 1) := by decide +kernel
theorem dX8_count_22 : decode cX8_count 22 = .ok (.iload_n 1, 1) := by decide +kernel
theorem dX8_count_23 : decode cX8_count 23 = .ok (.tableswitch 106 0 7 #[45, 53, 61, 69, 77, 85, 93, 98], 45) := by decide +kernel
theorem dX8_count_68 : decode cX8_count 68 = .ok (.aload_n 0, 1) := by decide +kernel
theorem dX8_count_69 : decode cX8_count 69 = .ok (.getfield 30, 3) := by decide +kernel
theorem dX8_count_72 : decode cX8_count 72 = .ok (.getfield 192, 3) := by decide +kernel
theorem dX8_count_75 : decode cX8_count 75 = .ok (.ireturn, 1) := by decide +kernel
theorem dX8_count_76 : decode cX8_count 76 = .ok (.aload_n 0, 1) := by decide +kernel
theorem dX8_count_77 : decode cX8_count 77 = .ok (.getfield 30, 3) := by decide +kernel
theorem dX8_count_80 : decode cX8_count 80 = .ok (.getfield 163, 3) := by decide +kernel
theorem dX8_count_83 : decode cX8_count 83 = .ok (.ireturn, 1) := by decide +kernel
theorem dX8_count_84 : decode cX8_count 84 = .ok (.aload_n 0, 1) := by decide +kernel
theorem dX8_count_85 : decode cX8_count 85 = .ok (.getfield 30, 3) := by decide +kernel
theorem dX8_count_88 : decode cX8_count 88 = .ok (.invokevirtual 138, 3) := by decide +kernel
theorem dX8_count_91 : decode cX8_count 91 = .ok (.ireturn, 1) := by decide +kernel
theorem dX8_count_92 : decode cX8_count 92 = .ok (.aload_n 0, 1) := by decide +kernel
theorem dX8_count_93 : decode cX8_count 93 = .ok (.getfield 30, 3) := by decide +kernel
theorem dX8_count_96 : decode cX8_count 96 = .ok (.invokevirtual 260, 3) := by decide +kernel
theorem dX8_count_99 : decode cX8_count 99 = .ok (.ireturn, 1) := by decide +kernel
theorem dX8_count_100 : decode cX8_count 100 = .ok (.aload_n 0, 1) := by decide +kernel
theorem dX8_count_101 : decode cX8_count 101 = .ok (.getfield 30, 3) := by decide +kernel
theorem dX8_count_104 : decode cX8_count 104 = .ok (.invokevirtual 288, 3) := by decide +kernel
theorem dX8_count_107 : decode cX8_count 107 = .ok (.ireturn, 1) := by decide +kernel
theorem dX8_count_108 : decode cX8_count 108 = .ok (.aload_n 0, 1) := by decide +kernel
theorem dX8_count_109 : decode cX8_count 109 = .ok (.getfield 30, 3) := by decide +kernel
theorem dX8_count_112 : decode cX8_count 112 = .ok (.invokevirtual 198, 3) := by decide +kernel
theorem dX8_count_115 : decode cX8_count 115 = .ok (.ireturn, 1) := by decide +kernel
theorem dX8_count_116 : decode cX8_count 116 = .ok (.aload_n 0, 1) := by decide +kernel
theorem dX8_count_117 : decode cX8_count 117 = .ok (.getfield 65, 3) := by decide +kernel
theorem dX8_count_120 : decode cX8_count 120 = .ok (.ireturn, 1) := by decide +kernel
theorem dX8_count_121 : decode cX8_count 121 = .ok (.aload_n 0, 1) := by decide +kernel
theorem dX8_count_122 : decode cX8_count 122 = .ok (.getfield 45, 3) := by decide +kernel
theorem dX8_count_125 : decode cX8_count 125 = .ok (.getfield 85, 3) := by decide +kernel
theorem dX8_count_128 : decode cX8_count 128 = .ok (.ireturn, 1) := by decide +kernel
theorem dX8_count_129 : decode cX8_count 129 = .ok (.bipush (-9), 2) := by decide +kernel
theorem dX8_count_131 : decode cX8_count 131 = .ok (.ireturn, 1) := by decide +kernel
theorem dX8_personFault_0 : decode cX8_personFault 0 = .ok (.aload_n 0, 1) := by decide +kernel
theorem dX8_personFault_1 : decode cX8_personFault 1 = .ok (.getfield 30, 3) := by decide +kernel
theorem dX8_personFault_4 : decode cX8_personFault 4 = .ok (.iload_n 1, 1) := by decide +kernel
theorem dX8_personFault_5 : decode cX8_personFault 5 = .ok (.invokevirtual 279, 3) := by decide +kernel
theorem dX8_personFault_8 : decode cX8_personFault 8 = .ok (.ifCond .eq 7, 3) := by decide +kernel
theorem dX8_personFault_11 : decode cX8_personFault 11 = .ok (.iconst 0, 1) := by decide +kernel
theorem dX8_personFault_12 : decode cX8_personFault 12 = .ok (.goto 4, 3) := by decide +kernel
theorem dX8_personFault_15 : decode cX8_personFault 15 = .ok (.iconst (-1), 1) := by decide +kernel
theorem dX8_personFault_16 : decode cX8_personFault 16 = .ok (.ireturn, 1) := by decide +kernel
theorem dX8_twoFault_0 : decode cX8_twoFault 0 = .ok (.iload_n 1, 1) := by decide +kernel
theorem dX8_twoFault_1 : decode cX8_twoFault 1 = .ok (.iload_n 2, 1) := by decide +kernel
theorem dX8_twoFault_2 : decode cX8_twoFault 2 = .ok (.if_icmp .ne 7, 3) := by decide +kernel
theorem dX8_twoFault_5 : decode cX8_twoFault 5 = .ok (.iconst (-1), 1) := by decide +kernel
theorem dX8_twoFault_6 : decode cX8_twoFault 6 = .ok (.goto 16, 3) := by decide +kernel
theorem dX8_twoFault_9 : decode cX8_twoFault 9 = .ok (.aload_n 0, 1) := by decide +kernel
theorem dX8_twoFault_10 : decode cX8_twoFault 10 = .ok (.iload_n 1, 1) := by decide +kernel
theorem dX8_twoFault_11 : decode cX8_twoFault 11 = .ok (.invokevirtual 96, 3) := by decide +kernel
theorem dX8_twoFault_14 : decode cX8_twoFault 14 = .ok (.aload_n 0, 1) := by decide +kernel
theorem dX8_twoFault_15 : decode cX8_twoFault 15 = .ok (.iload_n 2, 1) := by decide +kernel
theorem dX8_twoFault_16 : decode cX8_twoFault 16 = .ok (.invokevirtual 96, 3) := by decide +kernel
theorem dX8_twoFault_19 : decode cX8_twoFault 19 = .ok (.invokestatic 103, 3) := by decide +kernel
theorem dX8_twoFault_22 : decode cX8_twoFault 22 = .ok (.ireturn, 1) := by decide +kernel
theorem dX8_whatFault_0 : decode cX8_whatFault 0 = .ok (.iload_n 0, 1) := by decide +kernel
theorem dX8_whatFault_1 : decode cX8_whatFault 1 = .ok (.ifCond .lt 12, 3) := by decide +kernel
theorem dX8_whatFault_4 : decode cX8_whatFault 4 = .ok (.iload_n 0, 1) := by decide +kernel
theorem dX8_whatFault_5 : decode cX8_whatFault 5 = .ok (.iload_n 1, 1) := by decide +kernel
theorem dX8_whatFault_6 : decode cX8_whatFault 6 = .ok (.if_icmp .ge 7, 3) := by decide +kernel
theorem dX8_whatFault_9 : decode cX8_whatFault 9 = .ok (.iconst 0, 1) := by decide +kernel
theorem dX8_whatFault_10 : decode cX8_whatFault 10 = .ok (.goto 5, 3) := by decide +kernel
theorem dX8_whatFault_13 : decode cX8_whatFault 13 = .ok (.bipush (-2), 2) := by decide +kernel
theorem dX8_whatFault_15 : decode cX8_whatFault 15 = .ok (.ireturn, 1) := by decide +kernel
theorem dX8_leastFault_0 : decode cX8_leastFault 0 = .ok (.iload_n 0, 1) := by decide +kernel
theorem dX8_leastFault_1 : decode cX8_leastFault 1 = .ok (.iload_n 1, 1) := by decide +kernel
theorem dX8_leastFault_2 : decode cX8_leastFault 2 = .ok (.if_icmp .ge 8, 3) := by decide +kernel
theorem dX8_leastFault_5 : decode cX8_leastFault 5 = .ok (.bipush (-4), 2) := by decide +kernel
theorem dX8_leastFault_7 : decode cX8_leastFault 7 = .ok (.goto 4, 3) := by decide +kernel
theorem dX8_leastFault_10 : decode cX8_leastFault 10 = .ok (.iconst 0, 1) := by decide +kernel
theorem dX8_leastFault_11 : decode cX8_leastFault 11 = .ok (.ireturn, 1) := by decide +kernel
theorem dX8_mostFault_0 : decode cX8_mostFault 0 = .ok (.iload_n 0, 1) := by decide +kernel
theorem dX8_mostFault_1 : decode cX8_mostFault 1 = .ok (.iload_n 1, 1) := by decide +kernel
theorem dX8_mostFault_2 : decode cX8_mostFault 2 = .ok (.if_icmp .le 8, 3) := by decide +kernel
theorem dX8_mostFault_5 : decode cX8_mostFault 5 = .ok (.bipush (-6), 2) := by decide +kernel
theorem dX8_mostFault_7 : decode cX8_mostFault 7 = .ok (.goto 4, 3) := by decide +kernel
theorem dX8_mostFault_10 : decode cX8_mostFault 10 = .ok (.iconst 0, 1) := by decide +kernel
theorem dX8_mostFault_11 : decode cX8_mostFault 11 = .ok (.ireturn, 1) := by decide +kernel
theorem dX8_rangeFault_0 : decode cX8_rangeFault 0 = .ok (.iload_n 0, 1) := by decide +kernel
theorem dX8_rangeFault_1 : decode cX8_rangeFault 1 = .ok (.iload_n 1, 1) := by decide +kernel
theorem dX8_rangeFault_2 : decode cX8_rangeFault 2 = .ok (.invokestatic 233, 3) := by decide +kernel
theorem dX8_rangeFault_5 : decode cX8_rangeFault 5 = .ok (.iload_n 0, 1) := by decide +kernel
theorem dX8_rangeFault_6 : decode cX8_rangeFault 6 = .ok (.iload_n 2, 1) := by decide +kernel
theorem dX8_rangeFault_7 : decode cX8_rangeFault 7 = .ok (.invokestatic 236, 3) := by decide +kernel
theorem dX8_rangeFault_10 : decode cX8_rangeFault 10 = .ok (.invokestatic 103, 3) := by decide +kernel
theorem dX8_rangeFault_13 : decode cX8_rangeFault 13 = .ok (.ireturn, 1) := by decide +kernel
theorem dX8_firstOf_0 : decode cX8_firstOf 0 = .ok (.iload_n 0, 1) := by decide +kernel
theorem dX8_firstOf_1 : decode cX8_firstOf 1 = .ok (.ifCond .eq 7, 3) := by decide +kernel
theorem dX8_firstOf_4 : decode cX8_firstOf 4 = .ok (.iload_n 0, 1) := by decide +kernel
theorem dX8_firstOf_5 : decode cX8_firstOf 5 = .ok (.goto 4, 3) := by decide +kernel
theorem dX8_firstOf_8 : decode cX8_firstOf 8 = .ok (.iload_n 1, 1) := by decide +kernel
theorem dX8_firstOf_9 : decode cX8_firstOf 9 = .ok (.ireturn, 1) := by decide +kernel
theorem dX8_firstOfThree_0 : decode cX8_firstOfThree 0 = .ok (.iload_n 0, 1) := by decide +kernel
theorem dX8_firstOfThree_1 : decode cX8_firstOfThree 1 = .ok (.iload_n 1, 1) := by decide +kernel
theorem dX8_firstOfThree_2 : decode cX8_firstOfThree 2 = .ok (.iload_n 2, 1) := by decide +kernel
theorem dX8_firstOfThree_3 : decode cX8_firstOfThree 3 = .ok (.invokestatic 103, 3) := by decide +kernel
theorem dX8_firstOfThree_6 : decode cX8_firstOfThree 6 = .ok (.invokestatic 103, 3) := by decide +kernel
theorem dX8_firstOfThree_9 : decode cX8_firstOfThree 9 = .ok (.ireturn, 1) := by decide +kernel
theorem dX8_refuse_0 : decode cX8_refuse 0 = .ok (.aload_n 0, 1) := by decide +kernel
theorem dX8_refuse_1 : decode cX8_refuse 1 = .ok (.getfield 53, 3) := by decide +kernel
theorem dX8_refuse_4 : decode cX8_refuse 4 = .ok (.iload_n 1, 1) := by decide +kernel
theorem dX8_refuse_5 : decode cX8_refuse 5 = .ok (.ineg, 1) := by decide +kernel
theorem dX8_refuse_6 : decode cX8_refuse 6 = .ok (.dup2, 1) := by decide +kernel
theorem dX8_refuse_7 : decode cX8_refuse 7 = .ok (.iaload, 1) := by decide +kernel
theorem dX8_refuse_8 : decode cX8_refuse 8 = .ok (.iconst 1, 1) := by decide +kernel
theorem dX8_refuse_9 : decode cX8_refuse 9 = .ok (.iadd, 1) := by decide +kernel
theorem dX8_refuse_10 : decode cX8_refuse 10 = .ok (.iastore, 1) := by decide +kernel
theorem dX8_refuse_11 : decode cX8_refuse 11 = .ok (.iload_n 1, 1) := by decide +kernel
theorem dX8_refuse_12 : decode cX8_refuse 12 = .ok (.ireturn, 1) := by decide +kernel
theorem dX8_refuseFarOff_0 : decode cX8_refuseFarOff 0 = .ok (.ldc_w 300, 3) := by decide +kernel
theorem dX8_refuseFarOff_3 : decode cX8_refuseFarOff 3 = .ok (.aload_n 0, 1) := by decide +kernel
theorem dX8_refuseFarOff_4 : decode cX8_refuseFarOff 4 = .ok (.iload_n 1, 1) := by decide +kernel
theorem dX8_refuseFarOff_5 : decode cX8_refuseFarOff 5 = .ok (.invokevirtual 77, 3) := by decide +kernel
theorem dX8_refuseFarOff_8 : decode cX8_refuseFarOff 8 = .ok (.isub, 1) := by decide +kernel
theorem dX8_refuseFarOff_9 : decode cX8_refuseFarOff 9 = .ok (.ireturn, 1) := by decide +kernel
theorem dX8_refuseLong_0 : decode cX8_refuseLong 0 = .ok (.ldc2_w 301, 3) := by decide +kernel
theorem dX8_refuseLong_3 : decode cX8_refuseLong 3 = .ok (.aload_n 0, 1) := by decide +kernel
theorem dX8_refuseLong_4 : decode cX8_refuseLong 4 = .ok (.iload_n 1, 1) := by decide +kernel
theorem dX8_refuseLong_5 : decode cX8_refuseLong 5 = .ok (.invokevirtual 77, 3) := by decide +kernel
theorem dX8_refuseLong_8 : decode cX8_refuseLong 8 = .ok (.i2l, 1) := by decide +kernel
theorem dX8_refuseLong_9 : decode cX8_refuseLong 9 = .ok (.lsub, 1) := by decide +kernel
theorem dX8_refuseLong_10 : decode cX8_refuseLong 10 = .ok (.lreturn, 1) := by decide +kernel
theorem dX8_withinMarks_0 : decode cX8_withinMarks 0 = .ok (.iconst 0, 1) := by decide +kernel
theorem dX8_withinMarks_1 : decode cX8_withinMarks 1 = .ok (.bipush 99, 2) := by decide +kernel
theorem dX8_withinMarks_3 : decode cX8_withinMarks 3 = .ok (.iload_n 0, 1) := by decide +kernel
theorem dX8_withinMarks_4 : decode cX8_withinMarks 4 = .ok (.invokestatic 255, 3) := by decide +kernel
theorem dX8_withinMarks_7 : decode cX8_withinMarks 7 = .ok (.invokestatic 263, 3) := by decide +kernel
theorem dX8_withinMarks_10 : decode cX8_withinMarks 10 = .ok (.ireturn, 1) := by decide +kernel
theorem dX9_init_0 : decode cX9_init 0 = .ok (.aload_n 0, 1) := by decide +kernel
theorem dX9_init_1 : decode cX9_init 1 = .ok (.invokespecial 1, 3) := by decide +kernel
theorem dX9_init_4 : decode cX9_init 4 = .ok (.aload_n 0, 1) := by decide +kernel
theorem dX9_init_5 : decode cX9_init 5 = .ok (.bipush 58, 2) := by decide +kernel
theorem dX9_init_7 : decode cX9_init 7 = .ok (.newarray .int, 2) := by decide +kernel
theorem dX9_init_9 : decode cX9_init 9 = .ok (.putfield 9, 3) := by decide +kernel
theorem dX9_init_12 : decode cX9_init 12 = .ok (.aload_n 0, 1) := by decide +kernel
theorem dX9_init_13 : decode cX9_init 13 = .ok (.bipush 58, 2) := by decide +kernel
theorem dX9_init_15 : decode cX9_init 15 = .ok (.newarray .int, 2) := by decide +kernel
theorem dX9_init_17 : decode cX9_init 17 = .ok (.putfield 13, 3) := by decide +kernel
theorem dX9_init_20 : decode cX9_init 20 = .ok (.aload_n 0, 1) := by decide +kernel
theorem dX9_init_21 : decode cX9_init 21 = .ok (.bipush 58, 2) := by decide +kernel
theorem dX9_init_23 : decode cX9_init 23 = .ok (.newarray .int, 2) := by decide +kernel
theorem dX9_init_25 : decode cX9_init 25 = .ok (.putfield 16, 3) := by decide +kernel
theorem dX9_init_28 : decode cX9_init 28 = .ok (.aload_n 0, 1) := by decide +kernel
theorem dX9_init_29 : decode cX9_init 29 = .ok (.bipush 58, 2) := by decide +kernel
theorem dX9_init_31 : decode cX9_init 31 = .ok (.newarray .int, 2) := by decide +kernel
theorem dX9_init_33 : decode cX9_init 33 = .ok (.putfield 19, 3) := by decide +kernel
theorem dX9_init_36 : decode cX9_init 36 = .ok (.aload_n 0, 1) := by decide +kernel
theorem dX9_init_37 : decode cX9_init 37 = .ok (.bipush 58, 2) := by decide +kernel
theorem dX9_init_39 : decode cX9_init 39 = .ok (.newarray .int, 2) := by decide +kernel
theorem dX9_init_41 : decode cX9_init 41 = .ok (.putfield 22, 3) := by decide +kernel
theorem dX9_init_44 : decode cX9_init 44 = .ok (.aload_n 0, 1) := by decide +kernel
theorem dX9_init_45 : decode cX9_init 45 = .ok (.bipush 96, 2) := by decide +kernel
theorem dX9_init_47 : decode cX9_init 47 = .ok (.newarray .int, 2) := by decide +kernel
theorem dX9_init_49 : decode cX9_init 49 = .ok (.putfield 25, 3) := by decide +kernel
theorem dX9_init_52 : decode cX9_init 52 = .ok (.aload_n 0, 1) := by decide +kernel
theorem dX9_init_53 : decode cX9_init 53 = .ok (.bipush 16, 2) := by decide +kernel
theorem dX9_init_55 : decode cX9_init 55 = .ok (.newarray .int, 2) := by decide +kernel
theorem dX9_init_57 : decode cX9_init 57 = .ok (.putfield 28, 3) := by decide +kernel
theorem dX9_init_60 : decode cX9_init 60 = .ok (.aload_n 0, 1) := by decide +kernel
theorem dX9_init_61 : decode cX9_init 61 = .ok (.bipush 7, 2) := by decide +kernel
theorem dX9_init_63 : decode cX9_init 63 = .ok (.newarray .int, 2) := by decide +kernel
theorem dX9_init_65 : decode cX9_init 65 = .ok (.putfield 31, 3) := by decide +kernel
theorem dX9_init_68 : decode cX9_init 68 = .ok (.aload_n 0, 1) := by decide +kernel
theorem dX9_init_69 : decode cX9_init 69 = .ok (.iconst 2, 1) := by decide +kernel
theorem dX9_init_70 : decode cX9_init 70 = .ok (.newarray .int, 2) := by decide +kernel
theorem dX9_init_72 : decode cX9_init 72 = .ok (.putfield 34, 3) := by decide +kernel
theorem dX9_init_75 : decode cX9_init 75 = .ok (.return_, 1) := by decide +kernel
theorem dX9_isIn_0 : decode cX9_isIn 0 = .ok (.iload_n 0, 1) := by decide +kernel
theorem dX9_isIn_1 : decode cX9_isIn 1 = .ok (.iload_n 1, 1) := by decide +kernel
theorem dX9_isIn_2 : decode cX9_isIn 2 = .ok (.if_icmp .lt 12, 3) := by decide +kernel
theorem dX9_isIn_5 : decode cX9_isIn 5 = .ok (.iload_n 0, 1) := by decide +kernel
theorem dX9_isIn_6 : decode cX9_isIn 6 = .ok (.iload_n 2, 1) := by decide +kernel
theorem dX9_isIn_7 : decode cX9_isIn 7 = .ok (.if_icmp .gt 7, 3) := by decide +kernel
theorem dX9_isIn_10 : decode cX9_isIn 10 = .ok (.iconst 1, 1) := by decide +kernel
theorem dX9_isIn_11 : decode cX9_isIn 11 = .ok (.goto 4, 3) := by decide +kernel
theorem dX9_isIn_14 : decode cX9_isIn 14 = .ok (.iconst 0, 1) := by decide +kernel
theorem dX9_isIn_15 : decode cX9_isIn 15 = .ok (.ireturn, 1) := by decide +kernel
theorem dX9_held_0 : decode cX9_held 0 = .ok (.iload_n 0, 1) := by decide +kernel
theorem dX9_held_1 : decode cX9_held 1 = .ok (.ifCond .ge 7, 3) := by decide +kernel
theorem dX9_held_4 : decode cX9_held 4 = .ok (.iconst 0, 1) := by decide +kernel
theorem dX9_held_5 : decode cX9_held 5 = .ok (.goto 15, 3) := by decide +kernel
theorem dX9_held_8 : decode cX9_held 8 = .ok (.iload_n 0, 1) := by decide +kernel
theorem dX9_held_9 : decode cX9_held 9 = .ok (.bipush 99, 2) := by decide +kernel
theorem dX9_held_11 : decode cX9_held 11 = .ok (.if_icmp .le 8, 3) := by decide +kernel
theorem dX9_held_14 : decode cX9_held 14 = .ok (.bipush 99, 2) := by decide +kernel
theorem dX9_held_16 : decode cX9_held 16 = .ok (.goto 4, 3) := by decide +kernel
theorem dX9_held_19 : decode cX9_held 19 = .ok (.iload_n 0, 1) := by decide +kernel
theorem dX9_held_20 : decode cX9_held 20 = .ok (.ireturn, 1) := by decide +kernel
theorem dX9_copies_0 : decode cX9_copies 0 = .ok (.iconst 0, 1) := by decide +kernel
theorem dX9_copies_1 : decode cX9_copies 1 = .ok (.istore_n 2, 1) := by decide +kernel
theorem dX9_copies_2 : decode cX9_copies 2 = .ok (.iload_n 2, 1) := by decide +kernel
theorem dX9_copies_3 : decode cX9_copies 3 = .ok (.bipush 58, 2) := by decide +kernel
theorem dX9_copies_5 : decode cX9_copies 5 = .ok (.if_icmp .ge 15, 3) := by decide +kernel
theorem dX9_copies_8 : decode cX9_copies 8 = .ok (.aload_n 1, 1) := by decide +kernel
theorem dX9_copies_9 : decode cX9_copies 9 = .ok (.iload_n 2, 1) := by decide +kernel
theorem dX9_copies_10 : decode cX9_copies 10 = .ok (.aload_n 0, 1) := by decide +kernel
theorem dX9_copies_11 : decode cX9_copies 11 = .ok (.iload_n 2, 1) := by decide +kernel
theorem dX9_copies_12 : decode cX9_copies 12 = .ok (.iaload, 1) := by decide +kernel
theorem dX9_copies_13 : decode cX9_copies 13 = .ok (.iastore, 1) := by decide +kernel
theorem dX9_copies_14 : decode cX9_copies 14 = .ok (.iinc 2 1, 3) := by decide +kernel
theorem dX9_copies_17 : decode cX9_copies 17 = .ok (.goto (-15), 3) := by decide +kernel
theorem dX9_copies_20 : decode cX9_copies 20 = .ok (.return_, 1) := by decide +kernel
theorem dX9_no_0 : decode cX9_no 0 = .ok (.aload_n 0, 1) := by decide +kernel
theorem dX9_no_1 : decode cX9_no 1 = .ok (.getfield 31, 3) := by decide +kernel
theorem dX9_no_4 : decode cX9_no 4 = .ok (.iload_n 1, 1) := by decide +kernel
theorem dX9_no_5 : decode cX9_no 5 = .ok (.ineg, 1) := by decide +kernel
theorem dX9_no_6 : decode cX9_no 6 = .ok (.dup2, 1) := by decide +kernel
theorem dX9_no_7 : decode cX9_no 7 = .ok (.iaload, 1) := by decide +kernel
theorem dX9_no_8 : decode cX9_no 8 = .ok (.iconst 1, 1) := by decide +kernel
theorem dX9_no_9 : decode cX9_no 9 = .ok (.iadd, 1) := by decide +kernel
theorem dX9_no_10 : decode cX9_no 10 = .ok (.iastore, 1) := by decide +kernel
theorem dX9_no_11 : decode cX9_no 11 = .ok (.iload_n 1, 1) := by decide +kernel
theorem dX9_no_12 : decode cX9_no 12 = .ok (.ireturn, 1) := by decide +kernel
theorem dX9_noFar_0 : decode cX9_noFar 0 = .ok (.ldc 37, 2) := by decide +kernel
theorem dX9_noFar_2 : decode cX9_noFar 2 = .ok (.aload_n 0, 1) := by decide +kernel
theorem dX9_noFar_3 : decode cX9_noFar 3 = .ok (.iload_n 1, 1) := by decide +kernel
theorem dX9_noFar_4 : decode cX9_noFar 4 = .ok (.invokevirtual 38, 3) := by decide +kernel
theorem dX9_noFar_7 : decode cX9_noFar 7 = .ok (.isub, 1) := by decide +kernel
theorem dX9_noFar_8 : decode cX9_noFar 8 = .ok (.ireturn, 1) := by decide +kernel
theorem dX9_noWide_0 : decode cX9_noWide 0 = .ok (.ldc2_w 42, 3) := by decide +kernel
theorem dX9_noWide_3 : decode cX9_noWide 3 = .ok (.aload_n 0, 1) := by decide +kernel
theorem dX9_noWide_4 : decode cX9_noWide 4 = .ok (.iload_n 1, 1) := by decide +kernel
theorem dX9_noWide_5 : decode cX9_noWide 5 = .ok (.invokevirtual 38, 3) := by decide +kernel
theorem dX9_noWide_8 : decode cX9_noWide 8 = .ok (.i2l, 1) := by decide +kernel
theorem dX9_noWide_9 : decode cX9_noWide 9 = .ok (.lsub, 1) := by decide +kernel
theorem dX9_noWide_10 : decode cX9_noWide 10 = .ok (.lreturn, 1) := by decide +kernel
theorem dX9_of_0 : decode cX9_of 0 = .ok (.iconst 2, 1) := by decide +kernel
theorem dX9_of_1 : decode cX9_of 1 = .ok (.bipush 7, 2) := by decide +kernel
theorem dX9_of_3 : decode cX9_of 3 = .ok (.iload_n 0, 1) := by decide +kernel
theorem dX9_of_4 : decode cX9_of 4 = .ok (.imul, 1) := by decide +kernel
theorem dX9_of_5 : decode cX9_of 5 = .ok (.iadd, 1) := by decide +kernel
theorem dX9_of_6 : decode cX9_of 6 = .ok (.iload_n 1, 1) := by decide +kernel
theorem dX9_of_7 : decode cX9_of 7 = .ok (.iadd, 1) := by decide +kernel
theorem dX9_of_8 : decode cX9_of 8 = .ok (.ireturn, 1) := by decide +kernel
theorem dX9_isOne_0 : decode cX9_isOne 0 = .ok (.iload_n 1, 1) := by decide +kernel
theorem dX9_isOne_1 : decode cX9_isOne 1 = .ok (.iconst 0, 1) := by decide +kernel
theorem dX9_isOne_2 : decode cX9_isOne 2 = .ok (.aload_n 0, 1) := by decide +kernel
theorem dX9_isOne_3 : decode cX9_isOne 3 = .ok (.getfield 9, 3) := by decide +kernel
theorem dX9_isOne_6 : decode cX9_isOne 6 = .ok (.iconst 0, 1) := by decide +kernel
theorem dX9_isOne_7 : decode cX9_isOne 7 = .ok (.iaload, 1) := by decide +kernel
theorem dX9_isOne_8 : decode cX9_isOne 8 = .ok (.iconst 1, 1) := by decide +kernel
theorem dX9_isOne_9 : decode cX9_isOne 9 = .ok (.isub, 1) := by decide +kernel
theorem dX9_isOne_10 : decode cX9_isOne 10 = .ok (.invokestatic 44, 3) := by decide +kernel
theorem dX9_isOne_13 : decode cX9_isOne 13 = .ok (.ireturn, 1) := by decide +kernel
theorem dX9_areTwo_0 : decode cX9_areTwo 0 = .ok (.aload_n 0, 1) := by decide +kernel
theorem dX9_areTwo_1 : decode cX9_areTwo 1 = .ok (.iload_n 1, 1) := by decide +kernel
theorem dX9_areTwo_2 : decode cX9_areTwo 2 = .ok (.invokevirtual 48, 3) := by decide +kernel
theorem dX9_areTwo_5 : decode cX9_areTwo 5 = .ok (.ifCond .eq 20, 3) := by decide +kernel
theorem dX9_areTwo_8 : decode cX9_areTwo 8 = .ok (.aload_n 0, 1) := by decide +kernel
theorem dX9_areTwo_9 : decode cX9_areTwo 9 = .ok (.iload_n 2, 1) := by decide +kernel
theorem dX9_areTwo_10 : decode cX9_areTwo 10 = .ok (.invokevirtual 48, 3) := by decide +kernel
theorem dX9_areTwo_13 : decode cX9_areTwo 13 = .ok (.ifCond .eq 12, 3) := by decide +kernel
theorem dX9_areTwo_16 : decode cX9_areTwo 16 = .ok (.iload_n 1, 1) := by decide +kernel
theorem dX9_areTwo_17 : decode cX9_areTwo 17 = .ok (.iload_n 2, 1) := by decide +kernel
theorem dX9_areTwo_18 : decode cX9_areTwo 18 = .ok (.if_icmp .eq 7, 3) := by decide +kernel
theorem dX9_areTwo_21 : decode cX9_areTwo 21 = .ok (.iconst 1, 1) := by decide +kernel
theorem dX9_areTwo_22 : decode cX9_areTwo 22 = .ok (.goto 4, 3) := by decide +kernel
theorem dX9_areTwo_25 : decode cX9_areTwo 25 = .ok (.iconst 0, 1) := by decide +kernel
theorem dX9_areTwo_26 : decode cX9_areTwo 26 = .ok (.ireturn, 1) := by decide +kernel
theorem dX9_has_0 : decode cX9_has 0 = .ok (.iload_n 0, 1) := by decide +kernel
theorem dX9_has_1 : decode cX9_has 1 = .ok (.iload_n 1, 1) := by decide +kernel
theorem dX9_has_2 : decode cX9_has 2 = .ok (.ishr, 1) := by decide +kernel
theorem dX9_has_3 : decode cX9_has 3 = .ok (.iconst 1, 1) := by decide +kernel
theorem dX9_has_4 : decode cX9_has 4 = .ok (.iand, 1) := by decide +kernel
theorem dX9_has_5 : decode cX9_has 5 = .ok (.iconst 1, 1) := by decide +kernel
theorem dX9_has_6 : decode cX9_has 6 = .ok (.if_icmp .ne 7, 3) := by decide +kernel
theorem dX9_has_9 : decode cX9_has 9 = .ok (.iconst 1, 1) := by decide +kernel
theorem dX9_has_10 : decode cX9_has 10 = .ok (.goto 4, 3) := by decide +kernel
theorem dX9_has_13 : decode cX9_has 13 = .ok (.iconst 0, 1) := by decide +kernel
theorem dX9_has_14 : decode cX9_has 14 = .ok (.ireturn, 1) := by decide +kernel
theorem dX9_knowing_0 : decode cX9_knowing 0 = .ok (.iconst 0, 1) := by decide +kernel
theorem dX9_knowing_1 : decode cX9_knowing 1 = .ok (.istore_n 3, 1) := by decide +kernel
theorem dX9_knowing_2 : decode cX9_knowing 2 = .ok (.iconst 0, 1) := by decide +kernel
theorem dX9_knowing_3 : decode cX9_knowing 3 = .ok (.istore 4, 2) := by decide +kernel
theorem dX9_knowing_5 : decode cX9_knowing 5 = .ok (.iload 4, 2) := by decide +kernel
theorem dX9_knowing_7 : decode cX9_knowing 7 = .ok (.aload_n 0, 1) := by decide +kernel
theorem dX9_knowing_8 : decode cX9_knowing 8 = .ok (.iconst 0, 1) := by decide +kernel
theorem dX9_knowing_9 : decode cX9_knowing 9 = .ok (.iaload, 1) := by decide +kernel
theorem dX9_knowing_10 : decode cX9_knowing 10 = .ok (.if_icmp .ge 38, 3) := by decide +kernel
theorem dX9_knowing_13 : decode cX9_knowing 13 = .ok (.iload_n 3, 1) := by decide +kernel
theorem dX9_knowing_14 : decode cX9_knowing 14 = .ok (.iload 4, 2) := by decide +kernel
theorem dX9_knowing_16 : decode cX9_knowing 16 = .ok (.iload_n 2, 1) := by decide +kernel
theorem dX9_knowing_17 : decode cX9_knowing 17 = .ok (.if_icmp .eq 22, 3) := by decide +kernel
theorem dX9_knowing_20 : decode cX9_knowing 20 = .ok (.aload_n 0, 1) := by decide +kernel
theorem dX9_knowing_21 : decode cX9_knowing 21 = .ok (.iload 4, 2) := by decide +kernel
theorem dX9_knowing_23 : decode cX9_knowing 23 = .ok (.iconst 2, 1) := by decide +kernel
theorem dX9_knowing_24 : decode cX9_knowing 24 = .ok (.invokestatic 52, 3) := by decide +kernel
theorem dX9_knowing_27 : decode cX9_knowing 27 = .ok (.iaload, 1) := by decide +kernel
theorem dX9_knowing_28 : decode cX9_knowing 28 = .ok (.iload_n 1, 1) := by decide +kernel
theorem dX9_knowing_29 : decode cX9_knowing 29 = .ok (.invokestatic 56, 3) := by decide +kernel
theorem dX9_knowing_32 : decode cX9_knowing 32 = .ok (.ifCond .eq 7, 3) := by decide +kernel
theorem dX9_knowing_35 : decode cX9_knowing 35 = .ok (.iconst 1, 1) := by decide +kernel
theorem dX9_knowing_36 : decode cX9_knowing 36 = .ok (.goto 4, 3) := by decide +kernel
theorem dX9_knowing_39 : decode cX9_knowing 39 = .ok (.iconst 0, 1) := by decide +kernel
theorem dX9_knowing_40 : decode cX9_knowing 40 = .ok (.iadd, 1) := by decide +kernel
theorem dX9_knowing_41 : decode cX9_knowing 41 = .ok (.istore_n 3, 1) := by decide +kernel
theorem dX9_knowing_42 : decode cX9_knowing 42 = .ok (.iinc 4 1, 3) := by decide +kernel
theorem dX9_knowing_45 : decode cX9_knowing 45 = .ok (.goto (-40), 3) := by decide +kernel
theorem dX9_knowing_48 : decode cX9_knowing 48 = .ok (.iload_n 3, 1) := by decide +kernel
theorem dX9_knowing_49 : decode cX9_knowing 49 = .ok (.ireturn, 1) := by decide +kernel
theorem dX9_fameBy_0 : decode cX9_fameBy 0 = .ok (.aload_n 0, 1) := by decide +kernel
theorem dX9_fameBy_1 : decode cX9_fameBy 1 = .ok (.iload_n 1, 1) := by decide +kernel
theorem dX9_fameBy_2 : decode cX9_fameBy 2 = .ok (.iconst 0, 1) := by decide +kernel
theorem dX9_fameBy_3 : decode cX9_fameBy 3 = .ok (.invokestatic 52, 3) := by decide +kernel
theorem dX9_fameBy_6 : decode cX9_fameBy 6 = .ok (.iaload, 1) := by decide +kernel
theorem dX9_fameBy_7 : decode cX9_fameBy 7 = .ok (.tableswitch 67 1 5 #[33, 44, 47, 49, 57], 33) := by decide +kernel
theorem dX9_fameBy_40 : decode cX9_fameBy 40 = .ok (.aload_n 0, 1) := by decide +kernel
theorem dX9_fameBy_41 : decode cX9_fameBy 41 = .ok (.iload_n 1, 1) := by decide +kernel
theorem dX9_fameBy_42 : decode cX9_fameBy 42 = .ok (.iconst 1, 1) := by decide +kernel
theorem dX9_fameBy_43 : decode cX9_fameBy 43 = .ok (.invokestatic 52, 3) := by decide +kernel
theorem dX9_fameBy_46 : decode cX9_fameBy 46 = .ok (.iaload, 1) := by decide +kernel
theorem dX9_fameBy_47 : decode cX9_fameBy 47 = .ok (.iconst 3, 1) := by decide +kernel
theorem dX9_fameBy_48 : decode cX9_fameBy 48 = .ok (.idiv, 1) := by decide +kernel
theorem dX9_fameBy_49 : decode cX9_fameBy 49 = .ok (.ineg, 1) := by decide +kernel
theorem dX9_fameBy_50 : decode cX9_fameBy 50 = .ok (.ireturn, 1) := by decide +kernel
theorem dX9_fameBy_51 : decode cX9_fameBy 51 = .ok (.bipush (-2), 2) := by decide +kernel
theorem dX9_fameBy_53 : decode cX9_fameBy 53 = .ok (.ireturn, 1) := by decide +kernel
theorem dX9_fameBy_54 : decode cX9_fameBy 54 = .ok (.iconst 0, 1) := by decide +kernel
theorem dX9_fameBy_55 : decode cX9_fameBy 55 = .ok (.ireturn, 1) := by decide +kernel
theorem dX9_fameBy_56 : decode cX9_fameBy 56 = .ok (.aload_n 0, 1) := by decide +kernel
theorem dX9_fameBy_57 : decode cX9_fameBy 57 = .ok (.iload_n 2, 1) := by decide +kernel
theorem dX9_fameBy_58 : decode cX9_fameBy 58 = .ok (.bipush (-9), 2) := by decide +kernel
theorem dX9_fameBy_60 : decode cX9_fameBy 60 = .ok (.invokestatic 60, 3) := by decide +kernel
theorem dX9_fameBy_63 : decode cX9_fameBy 63 = .ok (.ireturn, 1) := by decide +kernel
theorem dX9_fameBy_64 : decode cX9_fameBy 64 = .ok (.aload_n 0, 1) := by decide +kernel
theorem dX9_fameBy_65 : decode cX9_fameBy 65 = .ok (.iload_n 2, 1) := by decide +kernel
theorem dX9_fameBy_66 : decode cX9_fameBy 66 = .ok (.bipush (-9), 2) := by decide +kernel
theorem dX9_fameBy_68 : decode cX9_fameBy 68 = .ok (.invokestatic 60, 3) := by decide +kernel
theorem dX9_fameBy_71 : decode cX9_fameBy 71 = .ok (.iconst 2, 1) := by decide +kernel
theorem dX9_fameBy_72 : decode cX9_fameBy 72 = .ok (.isub, 1) := by decide +kernel
theorem dX9_fameBy_73 : decode cX9_fameBy 73 = .ok (.ireturn, 1) := by decide +kernel
theorem dX9_fameBy_74 : decode cX9_fameBy 74 = .ok (.iconst 1, 1) := by decide +kernel
theorem dX9_fameBy_75 : decode cX9_fameBy 75 = .ok (.ireturn, 1) := by decide +kernel
theorem dX9_scarsBy_0 : decode cX9_scarsBy 0 = .ok (.aload_n 0, 1) := by decide +kernel
theorem dX9_scarsBy_1 : decode cX9_scarsBy 1 = .ok (.iload_n 1, 1) := by decide +kernel
theorem dX9_scarsBy_2 : decode cX9_scarsBy 2 = .ok (.iconst 0, 1) := by decide +kernel
theorem dX9_scarsBy_3 : decode cX9_scarsBy 3 = .ok (.invokestatic 52, 3) := by decide +kernel
theorem dX9_scarsBy_6 : decode cX9_scarsBy 6 = .ok (.iaload, 1) := by decide +kernel
theorem dX9_scarsBy_7 : decode cX9_scarsBy 7 = .ok (.istore_n 2, 1) := by decide +kernel
theorem dX9_scarsBy_8 : decode cX9_scarsBy 8 = .ok (.iload_n 2, 1) := by decide +kernel
theorem dX9_scarsBy_9 : decode cX9_scarsBy 9 = .ok (.iconst 2, 1) := by decide +kernel
theorem dX9_scarsBy_10 : decode cX9_scarsBy 10 = .ok (.if_icmp .eq 24, 3) := by decide +kernel
theorem dX9_scarsBy_13 : decode cX9_scarsBy 13 = .ok (.iload_n 2, 1) := by decide +kernel
theorem dX9_scarsBy_14 : decode cX9_scarsBy 14 = .ok (.iconst 4, 1) := by decide +kernel
theorem dX9_scarsBy_15 : decode cX9_scarsBy 15 = .ok (.if_icmp .eq 8, 3) := by decide +kernel
theorem dX9_scarsBy_18 : decode cX9_scarsBy 18 = .ok (.iload_n 2, 1) := by decide +kernel
theorem dX9_scarsBy_19 : decode cX9_scarsBy 19 = .ok (.iconst 5, 1) := by decide +kernel
theorem dX9_scarsBy_20 : decode cX9_scarsBy 20 = .ok (.if_icmp .ne 18, 3) := by decide +kernel
theorem dX9_scarsBy_23 : decode cX9_scarsBy 23 = .ok (.aload_n 0, 1) := by decide +kernel
theorem dX9_scarsBy_24 : decode cX9_scarsBy 24 = .ok (.iload_n 1, 1) := by decide +kernel
theorem dX9_scarsBy_25 : decode cX9_scarsBy 25 = .ok (.iconst 1, 1) := by decide +kernel
theorem dX9_scarsBy_26 : decode cX9_scarsBy 26 = .ok (.invokestatic 52, 3) := by decide +kernel
theorem dX9_scarsBy_29 : decode cX9_scarsBy 29 = .ok (.iaload, 1) := by decide +kernel
theorem dX9_scarsBy_30 : decode cX9_scarsBy 30 = .ok (.iconst 5, 1) := by decide +kernel
theorem dX9_scarsBy_31 : decode cX9_scarsBy 31 = .ok (.if_icmp .le 7, 3) := by decide +kernel
theorem dX9_scarsBy_34 : decode cX9_scarsBy 34 = .ok (.iconst 1, 1) := by decide +kernel
theorem dX9_scarsBy_35 : decode cX9_scarsBy 35 = .ok (.goto 4, 3) := by decide +kernel
theorem dX9_scarsBy_38 : decode cX9_scarsBy 38 = .ok (.iconst 0, 1) := by decide +kernel
theorem dX9_scarsBy_39 : decode cX9_scarsBy 39 = .ok (.ireturn, 1) := by decide +kernel
theorem dX9_wearsOwn_0 : decode cX9_wearsOwn 0 = .ok (.aload_n 0, 1) := by decide +kernel
theorem dX9_wearsOwn_1 : decode cX9_wearsOwn 1 = .ok (.iload_n 1, 1) := by decide +kernel
theorem dX9_wearsOwn_2 : decode cX9_wearsOwn 2 = .ok (.iconst 3, 1) := by decide +kernel
theorem dX9_wearsOwn_3 : decode cX9_wearsOwn 3 = .ok (.invokestatic 52, 3) := by decide +kernel
theorem dX9_wearsOwn_6 : decode cX9_wearsOwn 6 = .ok (.iaload, 1) := by decide +kernel
theorem dX9_wearsOwn_7 : decode cX9_wearsOwn 7 = .ok (.iload_n 1, 1) := by decide +kernel
theorem dX9_wearsOwn_8 : decode cX9_wearsOwn 8 = .ok (.if_icmp .ne 7, 3) := by decide +kernel
theorem dX9_wearsOwn_11 : decode cX9_wearsOwn 11 = .ok (.iconst 1, 1) := by decide +kernel
theorem dX9_wearsOwn_12 : decode cX9_wearsOwn 12 = .ok (.goto 4, 3) := by decide +kernel
theorem dX9_wearsOwn_15 : decode cX9_wearsOwn 15 = .ok (.iconst 0, 1) := by decide +kernel
theorem dX9_wearsOwn_16 : decode cX9_wearsOwn 16 = .ok (.ireturn, 1) := by decide +kernel
theorem dX9_canLend_0 : decode cX9_canLend 0 = .ok (.iload_n 1, 1) := by decide +kernel
theorem dX9_canLend_1 : decode cX9_canLend 1 = .ok (.iload_n 2, 1) := by decide +kernel
theorem dX9_canLend_2 : decode cX9_canLend 2 = .ok (.if_icmp .eq 23, 3) := by decide +kernel
theorem dX9_canLend_5 : decode cX9_canLend 5 = .ok (.aload_n 0, 1) := by decide +kernel
theorem dX9_canLend_6 : decode cX9_canLend 6 = .ok (.iload_n 1, 1) := by decide +kernel
theorem dX9_canLend_7 : decode cX9_canLend 7 = .ok (.invokestatic 64, 3) := by decide +kernel
theorem dX9_canLend_10 : decode cX9_canLend 10 = .ok (.ifCond .eq 15, 3) := by decide +kernel
theorem dX9_canLend_13 : decode cX9_canLend 13 = .ok (.aload_n 0, 1) := by decide +kernel
theorem dX9_canLend_14 : decode cX9_canLend 14 = .ok (.iload_n 2, 1) := by decide +kernel
theorem dX9_canLend_15 : decode cX9_canLend 15 = .ok (.invokestatic 64, 3) := by decide +kernel
theorem dX9_canLend_18 : decode cX9_canLend 18 = .ok (.ifCond .eq 7, 3) := by decide +kernel
theorem dX9_canLend_21 : decode cX9_canLend 21 = .ok (.iconst 1, 1) := by decide +kernel
theorem dX9_canLend_22 : decode cX9_canLend 22 = .ok (.goto 4, 3) := by decide +kernel
theorem dX9_canLend_25 : decode cX9_canLend 25 = .ok (.iconst 0, 1) := by decide +kernel
theorem dX9_canLend_26 : decode cX9_canLend 26 = .ok (.ireturn, 1) := by decide +kernel
theorem dX9_lendsIn_0 : decode cX9_lendsIn 0 = .ok (.aload_n 0, 1) := by decide +kernel
theorem dX9_lendsIn_1 : decode cX9_lendsIn 1 = .ok (.iload_n 1, 1) := by decide +kernel
theorem dX9_lendsIn_2 : decode cX9_lendsIn 2 = .ok (.iconst 3, 1) := by decide +kernel
theorem dX9_lendsIn_3 : decode cX9_lendsIn 3 = .ok (.invokestatic 52, 3) := by decide +kernel
theorem dX9_lendsIn_6 : decode cX9_lendsIn 6 = .ok (.bipush 9, 2) := by decide +kernel
theorem dX9_lendsIn_8 : decode cX9_lendsIn 8 = .ok (.iastore, 1) := by decide +kernel
theorem dX9_lendsIn_9 : decode cX9_lendsIn 9 = .ok (.aload_n 0, 1) := by decide +kernel
theorem dX9_lendsIn_10 : decode cX9_lendsIn 10 = .ok (.iload_n 2, 1) := by decide +kernel
theorem dX9_lendsIn_11 : decode cX9_lendsIn 11 = .ok (.iconst 3, 1) := by decide +kernel
theorem dX9_lendsIn_12 : decode cX9_lendsIn 12 = .ok (.invokestatic 52, 3) := by decide +kernel
theorem dX9_lendsIn_15 : decode cX9_lendsIn 15 = .ok (.iload_n 1, 1) := by decide +kernel
theorem dX9_lendsIn_16 : decode cX9_lendsIn 16 = .ok (.iastore, 1) := by decide +kernel
theorem dX9_lendsIn_17 : decode cX9_lendsIn 17 = .ok (.aload_n 0, 1) := by decide +kernel
theorem dX9_lendsIn_18 : decode cX9_lendsIn 18 = .ok (.iload_n 1, 1) := by decide +kernel
theorem dX9_lendsIn_19 : decode cX9_lendsIn 19 = .ok (.bipush 6, 2) := by decide +kernel
theorem dX9_lendsIn_21 : decode cX9_lendsIn 21 = .ok (.invokestatic 52, 3) := by decide +kernel
theorem dX9_lendsIn_24 : decode cX9_lendsIn 24 = .ok (.iconst 1, 1) := by decide +kernel
theorem dX9_lendsIn_25 : decode cX9_lendsIn 25 = .ok (.iastore, 1) := by decide +kernel
theorem dX9_lendsIn_26 : decode cX9_lendsIn 26 = .ok (.return_, 1) := by decide +kernel
theorem dX9_wearerOf_0 : decode cX9_wearerOf 0 = .ok (.iconst 0, 1) := by decide +kernel
theorem dX9_wearerOf_1 : decode cX9_wearerOf 1 = .ok (.istore_n 2, 1) := by decide +kernel
theorem dX9_wearerOf_2 : decode cX9_wearerOf 2 = .ok (.iload_n 2, 1) := by decide +kernel
theorem dX9_wearerOf_3 : decode cX9_wearerOf 3 = .ok (.aload_n 0, 1) := by decide +kernel
theorem dX9_wearerOf_4 : decode cX9_wearerOf 4 = .ok (.iconst 0, 1) := by decide +kernel
theorem dX9_wearerOf_5 : decode cX9_wearerOf 5 = .ok (.iaload, 1) := by decide +kernel
theorem dX9_wearerOf_6 : decode cX9_wearerOf 6 = .ok (.if_icmp .ge 22, 3) := by decide +kernel
theorem dX9_wearerOf_9 : decode cX9_wearerOf 9 = .ok (.aload_n 0, 1) := by decide +kernel
theorem dX9_wearerOf_10 : decode cX9_wearerOf 10 = .ok (.iload_n 2, 1) := by decide +kernel
theorem dX9_wearerOf_11 : decode cX9_wearerOf 11 = .ok (.iconst 3, 1) := by decide +kernel
theorem dX9_wearerOf_12 : decode cX9_wearerOf 12 = .ok (.invokestatic 52, 3) := by decide +kernel
theorem dX9_wearerOf_15 : decode cX9_wearerOf 15 = .ok (.iaload, 1) := by decide +kernel
theorem dX9_wearerOf_16 : decode cX9_wearerOf 16 = .ok (.iload_n 1, 1) := by decide +kernel
theorem dX9_wearerOf_17 : decode cX9_wearerOf 17 = .ok (.if_icmp .ne 5, 3) := by decide +kernel
theorem dX9_wearerOf_20 : decode cX9_wearerOf 20 = .ok (.iload_n 2, 1) := by decide +kernel
theorem dX9_wearerOf_21 : decode cX9_wearerOf 21 = .ok (.ireturn, 1) := by decide +kernel
theorem dX9_wearerOf_22 : decode cX9_wearerOf 22 = .ok (.iinc 2 1, 3) := by decide +kernel
theorem dX9_wearerOf_25 : decode cX9_wearerOf 25 = .ok (.goto (-23), 3) := by decide +kernel
theorem dX9_wearerOf_28 : decode cX9_wearerOf 28 = .ok (.bipush (-9), 2) := by decide +kernel
theorem dX9_wearerOf_30 : decode cX9_wearerOf 30 = .ok (.ireturn, 1) := by decide +kernel
theorem dX9_comesBack_0 : decode cX9_comesBack 0 = .ok (.aload_n 0, 1) := by decide +kernel
theorem dX9_comesBack_1 : decode cX9_comesBack 1 = .ok (.iload_n 1, 1) := by decide +kernel
theorem dX9_comesBack_2 : decode cX9_comesBack 2 = .ok (.invokestatic 68, 3) := by decide +kernel
theorem dX9_comesBack_5 : decode cX9_comesBack 5 = .ok (.istore_n 2, 1) := by decide +kernel
theorem dX9_comesBack_6 : decode cX9_comesBack 6 = .ok (.aload_n 0, 1) := by decide +kernel
theorem dX9_comesBack_7 : decode cX9_comesBack 7 = .ok (.iload_n 2, 1) := by decide +kernel
theorem dX9_comesBack_8 : decode cX9_comesBack 8 = .ok (.iconst 3, 1) := by decide +kernel
theorem dX9_comesBack_9 : decode cX9_comesBack 9 = .ok (.invokestatic 52, 3) := by decide +kernel
theorem dX9_comesBack_12 : decode cX9_comesBack 12 = .ok (.iload_n 2, 1) := by decide +kernel
theorem dX9_comesBack_13 : decode cX9_comesBack 13 = .ok (.iastore, 1) := by decide +kernel
theorem dX9_comesBack_14 : decode cX9_comesBack 14 = .ok (.aload_n 0, 1) := by decide +kernel
theorem dX9_comesBack_15 : decode cX9_comesBack 15 = .ok (.iload_n 1, 1) := by decide +kernel
theorem dX9_comesBack_16 : decode cX9_comesBack 16 = .ok (.iconst 3, 1) := by decide +kernel
theorem dX9_comesBack_17 : decode cX9_comesBack 17 = .ok (.invokestatic 52, 3) := by decide +kernel
theorem dX9_comesBack_20 : decode cX9_comesBack 20 = .ok (.iload_n 1, 1) := by decide +kernel
theorem dX9_comesBack_21 : decode cX9_comesBack 21 = .ok (.iastore, 1) := by decide +kernel
theorem dX9_comesBack_22 : decode cX9_comesBack 22 = .ok (.aload_n 0, 1) := by decide +kernel
theorem dX9_comesBack_23 : decode cX9_comesBack 23 = .ok (.iload_n 1, 1) := by decide +kernel
theorem dX9_comesBack_24 : decode cX9_comesBack 24 = .ok (.bipush 6, 2) := by decide +kernel
theorem dX9_comesBack_26 : decode cX9_comesBack 26 = .ok (.invokestatic 52, 3) := by decide +kernel
theorem dX9_comesBack_29 : decode cX9_comesBack 29 = .ok (.iconst 0, 1) := by decide +kernel
theorem dX9_comesBack_30 : decode cX9_comesBack 30 = .ok (.iastore, 1) := by decide +kernel
theorem dX9_comesBack_31 : decode cX9_comesBack 31 = .ok (.iload_n 2, 1) := by decide +kernel
theorem dX9_comesBack_32 : decode cX9_comesBack 32 = .ok (.ireturn, 1) := by decide +kernel
theorem dX9_month_0 : decode cX9_month 0 = .ok (.aload_n 0, 1) := by decide +kernel
theorem dX9_month_1 : decode cX9_month 1 = .ok (.iconst 1, 1) := by decide +kernel
theorem dX9_month_2 : decode cX9_month 2 = .ok (.dup2, 1) := by decide +kernel
theorem dX9_month_3 : decode cX9_month 3 = .ok (.iaload, 1) := by decide +kernel
theorem dX9_month_4 : decode cX9_month 4 = .ok (.iconst 1, 1) := by decide +kernel
theorem dX9_month_5 : decode cX9_month 5 = .ok (.iadd, 1) := by decide +kernel
theorem dX9_month_6 : decode cX9_month 6 = .ok (.iastore, 1) := by decide +kernel
theorem dX9_month_7 : decode cX9_month 7 = .ok (.iconst 0, 1) := by decide +kernel
theorem dX9_month_8 : decode cX9_month 8 = .ok (.istore_n 1, 1) := by decide +kernel
theorem dX9_month_9 : decode cX9_month 9 = .ok (.iload_n 1, 1) := by decide +kernel
theorem dX9_month_10 : decode cX9_month 10 = .ok (.aload_n 0, 1) := by decide +kernel
theorem dX9_month_11 : decode cX9_month 11 = .ok (.iconst 0, 1) := by decide +kernel
theorem dX9_month_12 : decode cX9_month 12 = .ok (.iaload, 1) := by decide +kernel
theorem dX9_month_13 : decode cX9_month 13 = .ok (.if_icmp .ge 73, 3) := by decide +kernel
theorem dX9_month_16 : decode cX9_month 16 = .ok (.aload_n 0, 1) := by decide +kernel
theorem dX9_month_17 : decode cX9_month 17 = .ok (.iload_n 1, 1) := by decide +kernel
theorem dX9_month_18 : decode cX9_month 18 = .ok (.iconst 3, 1) := by decide +kernel
theorem dX9_month_19 : decode cX9_month 19 = .ok (.invokestatic 52, 3) := by decide +kernel
theorem dX9_month_22 : decode cX9_month 22 = .ok (.iaload, 1) := by decide +kernel
theorem dX9_month_23 : decode cX9_month 23 = .ok (.istore_n 2, 1) := by decide +kernel
theorem dX9_month_24 : decode cX9_month 24 = .ok (.iload_n 2, 1) := by decide +kernel
theorem dX9_month_25 : decode cX9_month 25 = .ok (.bipush 9, 2) := by decide +kernel
theorem dX9_month_27 : decode cX9_month 27 = .ok (.if_icmp .ne 6, 3) := by decide +kernel
theorem dX9_month_30 : decode cX9_month 30 = .ok (.goto 50, 3) := by decide +kernel
theorem dX9_month_33 : decode cX9_month 33 = .ok (.aload_n 0, 1) := by decide +kernel
theorem dX9_month_34 : decode cX9_month 34 = .ok (.iload_n 2, 1) := by decide +kernel
theorem dX9_month_35 : decode cX9_month 35 = .ok (.iconst 4, 1) := by decide +kernel
theorem dX9_month_36 : decode cX9_month 36 = .ok (.invokestatic 52, 3) := by decide +kernel
theorem dX9_month_39 : decode cX9_month 39 = .ok (.aload_n 0, 1) := by decide +kernel
theorem dX9_month_40 : decode cX9_month 40 = .ok (.iload_n 2, 1) := by decide +kernel
theorem dX9_month_41 : decode cX9_month 41 = .ok (.iconst 4, 1) := by decide +kernel
theorem dX9_month_42 : decode cX9_month 42 = .ok (.invokestatic 52, 3) := by decide +kernel
theorem dX9_month_45 : decode cX9_month 45 = .ok (.iaload, 1) := by decide +kernel
theorem dX9_month_46 : decode cX9_month 46 = .ok (.aload_n 0, 1) := by decide +kernel
theorem dX9_month_47 : decode cX9_month 47 = .ok (.iload_n 1, 1) := by decide +kernel
theorem dX9_month_48 : decode cX9_month 48 = .ok (.iload_n 2, 1) := by decide +kernel
theorem dX9_month_49 : decode cX9_month 49 = .ok (.invokestatic 72, 3) := by decide +kernel
theorem dX9_month_52 : decode cX9_month 52 = .ok (.iadd, 1) := by decide +kernel
theorem dX9_month_53 : decode cX9_month 53 = .ok (.invokestatic 75, 3) := by decide +kernel
theorem dX9_month_56 : decode cX9_month 56 = .ok (.iastore, 1) := by decide +kernel
theorem dX9_month_57 : decode cX9_month 57 = .ok (.aload_n 0, 1) := by decide +kernel
theorem dX9_month_58 : decode cX9_month 58 = .ok (.iload_n 2, 1) := by decide +kernel
theorem dX9_month_59 : decode cX9_month 59 = .ok (.iconst 5, 1) := by decide +kernel
theorem dX9_month_60 : decode cX9_month 60 = .ok (.invokestatic 52, 3) := by decide +kernel
theorem dX9_month_63 : decode cX9_month 63 = .ok (.aload_n 0, 1) := by decide +kernel
theorem dX9_month_64 : decode cX9_month 64 = .ok (.iload_n 2, 1) := by decide +kernel
theorem dX9_month_65 : decode cX9_month 65 = .ok (.iconst 5, 1) := by decide +kernel
theorem dX9_month_66 : decode cX9_month 66 = .ok (.invokestatic 52, 3) := by decide +kernel
theorem dX9_month_69 : decode cX9_month 69 = .ok (.iaload, 1) := by decide +kernel
theorem dX9_month_70 : decode cX9_month 70 = .ok (.aload_n 0, 1) := by decide +kernel
theorem dX9_month_71 : decode cX9_month 71 = .ok (.iload_n 1, 1) := by decide +kernel
theorem dX9_month_72 : decode cX9_month 72 = .ok (.invokestatic 78, 3) := by decide +kernel
theorem dX9_month_75 : decode cX9_month 75 = .ok (.iadd, 1) := by decide +kernel
theorem dX9_month_76 : decode cX9_month 76 = .ok (.invokestatic 75, 3) := by decide +kernel
theorem dX9_month_79 : decode cX9_month 79 = .ok (.iastore, 1) := by decide +kernel
theorem dX9_month_80 : decode cX9_month 80 = .ok (.iinc 1 1, 3) := by decide +kernel
theorem dX9_month_83 : decode cX9_month 83 = .ok (.goto (-74), 3) := by decide +kernel
theorem dX9_month_86 : decode cX9_month 86 = .ok (.iconst 0, 1) := by decide +kernel
theorem dX9_month_87 : decode cX9_month 87 = .ok (.istore_n 1, 1) := by decide +kernel
theorem dX9_month_88 : decode cX9_month 88 = .ok (.iload_n 1, 1) := by decide +kernel
theorem dX9_month_89 : decode cX9_month 89 = .ok (.aload_n 0, 1) := by decide +kernel
theorem dX9_month_90 : decode cX9_month 90 = .ok (.iconst 0, 1) := by decide +kernel
theorem dX9_month_91 : decode cX9_month 91 = .ok (.iaload, 1) := by decide +kernel
theorem dX9_month_92 : decode cX9_month 92 = .ok (.if_icmp .ge 53, 3) := by decide +kernel
theorem dX9_month_95 : decode cX9_month 95 = .ok (.aload_n 0, 1) := by decide +kernel
theorem dX9_month_96 : decode cX9_month 96 = .ok (.iload_n 1, 1) := by decide +kernel
theorem dX9_month_97 : decode cX9_month 97 = .ok (.bipush 6, 2) := by decide +kernel
theorem dX9_month_99 : decode cX9_month 99 = .ok (.invokestatic 52, 3) := by decide +kernel
theorem dX9_month_102 : decode cX9_month 102 = .ok (.iaload, 1) := by decide +kernel
theorem dX9_month_103 : decode cX9_month 103 = .ok (.istore_n 2, 1) := by decide +kernel
theorem dX9_month_104 : decode cX9_month 104 = .ok (.iload_n 2, 1) := by decide +kernel
theorem dX9_month_105 : decode cX9_month 105 = .ok (.ifCond .ne 6, 3) := by decide +kernel
theorem dX9_month_108 : decode cX9_month 108 = .ok (.goto 31, 3) := by decide +kernel
theorem dX9_month_111 : decode cX9_month 111 = .ok (.aload_n 0, 1) := by decide +kernel
theorem dX9_month_112 : decode cX9_month 112 = .ok (.iload_n 1, 1) := by decide +kernel
theorem dX9_month_113 : decode cX9_month 113 = .ok (.bipush 6, 2) := by decide +kernel
theorem dX9_month_115 : decode cX9_month 115 = .ok (.invokestatic 52, 3) := by decide +kernel
theorem dX9_month_118 : decode cX9_month 118 = .ok (.iload_n 2, 1) := by decide +kernel
theorem dX9_month_119 : decode cX9_month 119 = .ok (.iconst 1, 1) := by decide +kernel
theorem dX9_month_120 : decode cX9_month 120 = .ok (.iadd, 1) := by decide +kernel
theorem dX9_month_121 : decode cX9_month 121 = .ok (.iastore, 1) := by decide +kernel
theorem dX9_month_122 : decode cX9_month 122 = .ok (.iload_n 2, 1) := by decide +kernel
theorem dX9_month_123 : decode cX9_month 123 = .ok (.bipush 12, 2) := by decide +kernel
theorem dX9_month_125 : decode cX9_month 125 = .ok (.if_icmp .ne 11, 3) := by decide +kernel
theorem dX9_month_128 : decode cX9_month 128 = .ok (.aload_n 0, 1) := by decide +kernel
theorem dX9_month_129 : decode cX9_month 129 = .ok (.iload_n 1, 1) := by decide +kernel
theorem dX9_month_130 : decode cX9_month 130 = .ok (.invokestatic 81, 3) := by decide +kernel
theorem dX9_month_133 : decode cX9_month 133 = .ok (.goto 5, 3) := by decide +kernel
theorem dX9_month_136 : decode cX9_month 136 = .ok (.bipush (-9), 2) := by decide +kernel
theorem dX9_month_138 : decode cX9_month 138 = .ok (.istore_n 3, 1) := by decide +kernel
theorem dX9_month_139 : decode cX9_month 139 = .ok (.iinc 1 1, 3) := by decide +kernel
theorem dX9_month_142 : decode cX9_month 142 = .ok (.goto (-54), 3) := by decide +kernel
theorem dX9_month_145 : decode cX9_month 145 = .ok (.return_, 1) := by decide +kernel
theorem dX9_monthsOn_0 : decode cX9_monthsOn 0 = .ok (.iconst 0, 1) := by decide +kernel
theorem dX9_monthsOn_1 : decode cX9_monthsOn 1 = .ok (.istore_n 2, 1) := by decide +kernel
theorem dX9_monthsOn_2 : decode cX9_monthsOn 2 = .ok (.iload_n 2, 1) := by decide +kernel
theorem dX9_monthsOn_3 : decode cX9_monthsOn 3 = .ok (.iload_n 1, 1) := by decide +kernel
theorem dX9_monthsOn_4 : decode cX9_monthsOn 4 = .ok (.if_icmp .ge 13, 3) := by decide +kernel
theorem dX9_monthsOn_7 : decode cX9_monthsOn 7 = .ok (.aload_n 0, 1) := by decide +kernel
theorem dX9_monthsOn_8 : decode cX9_monthsOn 8 = .ok (.invokestatic 84, 3) := by decide +kernel
theorem dX9_monthsOn_11 : decode cX9_monthsOn 11 = .ok (.iinc 2 1, 3) := by decide +kernel
theorem dX9_monthsOn_14 : decode cX9_monthsOn 14 = .ok (.goto (-12), 3) := by decide +kernel
theorem dX9_monthsOn_17 : decode cX9_monthsOn 17 = .ok (.return_, 1) := by decide +kernel
theorem dX9_worthIn_0 : decode cX9_worthIn 0 = .ok (.aload_n 0, 1) := by decide +kernel
theorem dX9_worthIn_1 : decode cX9_worthIn 1 = .ok (.iload_n 1, 1) := by decide +kernel
theorem dX9_worthIn_2 : decode cX9_worthIn 2 = .ok (.iconst 4, 1) := by decide +kernel
theorem dX9_worthIn_3 : decode cX9_worthIn 3 = .ok (.invokestatic 52, 3) := by decide +kernel
theorem dX9_worthIn_6 : decode cX9_worthIn 6 = .ok (.iaload, 1) := by decide +kernel
theorem dX9_worthIn_7 : decode cX9_worthIn 7 = .ok (.aload_n 0, 1) := by decide +kernel
theorem dX9_worthIn_8 : decode cX9_worthIn 8 = .ok (.iload_n 1, 1) := by decide +kernel
theorem dX9_worthIn_9 : decode cX9_worthIn 9 = .ok (.iconst 5, 1) := by decide +kernel
theorem dX9_worthIn_10 : decode cX9_worthIn 10 = .ok (.invokestatic 52, 3) := by decide +kernel
theorem dX9_worthIn_13 : decode cX9_worthIn 13 = .ok (.iaload, 1) := by decide +kernel
theorem dX9_worthIn_14 : decode cX9_worthIn 14 = .ok (.isub, 1) := by decide +kernel
theorem dX9_worthIn_15 : decode cX9_worthIn 15 = .ok (.ireturn, 1) := by decide +kernel
theorem dX9_worthAll_0 : decode cX9_worthAll 0 = .ok (.iconst 0, 1) := by decide +kernel
theorem dX9_worthAll_1 : decode cX9_worthAll 1 = .ok (.istore_n 1, 1) := by decide +kernel
theorem dX9_worthAll_2 : decode cX9_worthAll 2 = .ok (.iconst 0, 1) := by decide +kernel
theorem dX9_worthAll_3 : decode cX9_worthAll 3 = .ok (.istore_n 2, 1) := by decide +kernel
theorem dX9_worthAll_4 : decode cX9_worthAll 4 = .ok (.iload_n 2, 1) := by decide +kernel
theorem dX9_worthAll_5 : decode cX9_worthAll 5 = .ok (.aload_n 0, 1) := by decide +kernel
theorem dX9_worthAll_6 : decode cX9_worthAll 6 = .ok (.iconst 0, 1) := by decide +kernel
theorem dX9_worthAll_7 : decode cX9_worthAll 7 = .ok (.iaload, 1) := by decide +kernel
theorem dX9_worthAll_8 : decode cX9_worthAll 8 = .ok (.if_icmp .ge 17, 3) := by decide +kernel
theorem dX9_worthAll_11 : decode cX9_worthAll 11 = .ok (.iload_n 1, 1) := by decide +kernel
theorem dX9_worthAll_12 : decode cX9_worthAll 12 = .ok (.aload_n 0, 1) := by decide +kernel
theorem dX9_worthAll_13 : decode cX9_worthAll 13 = .ok (.iload_n 2, 1) := by decide +kernel
theorem dX9_worthAll_14 : decode cX9_worthAll 14 = .ok (.invokestatic 88, 3) := by decide +kernel
theorem dX9_worthAll_17 : decode cX9_worthAll 17 = .ok (.iadd, 1) := by decide +kernel
theorem dX9_worthAll_18 : decode cX9_worthAll 18 = .ok (.istore_n 1, 1) := by decide +kernel
theorem dX9_worthAll_19 : decode cX9_worthAll 19 = .ok (.iinc 2 1, 3) := by decide +kernel
theorem dX9_worthAll_22 : decode cX9_worthAll 22 = .ok (.goto (-18), 3) := by decide +kernel
theorem dX9_worthAll_25 : decode cX9_worthAll 25 = .ok (.iload_n 1, 1) := by decide +kernel
theorem dX9_worthAll_26 : decode cX9_worthAll 26 = .ok (.ireturn, 1) := by decide +kernel
theorem dX9_lentIn_0 : decode cX9_lentIn 0 = .ok (.iconst 0, 1) := by decide +kernel
theorem dX9_lentIn_1 : decode cX9_lentIn 1 = .ok (.istore_n 1, 1) := by decide +kernel
theorem dX9_lentIn_2 : decode cX9_lentIn 2 = .ok (.iconst 0, 1) := by decide +kernel
theorem dX9_lentIn_3 : decode cX9_lentIn 3 = .ok (.istore_n 2, 1) := by decide +kernel
theorem dX9_lentIn_4 : decode cX9_lentIn 4 = .ok (.iload_n 2, 1) := by decide +kernel
theorem dX9_lentIn_5 : decode cX9_lentIn 5 = .ok (.aload_n 0, 1) := by decide +kernel
theorem dX9_lentIn_6 : decode cX9_lentIn 6 = .ok (.iconst 0, 1) := by decide +kernel
theorem dX9_lentIn_7 : decode cX9_lentIn 7 = .ok (.iaload, 1) := by decide +kernel
theorem dX9_lentIn_8 : decode cX9_lentIn 8 = .ok (.if_icmp .ge 28, 3) := by decide +kernel
theorem dX9_lentIn_11 : decode cX9_lentIn 11 = .ok (.iload_n 1, 1) := by decide +kernel
theorem dX9_lentIn_12 : decode cX9_lentIn 12 = .ok (.aload_n 0, 1) := by decide +kernel
theorem dX9_lentIn_13 : decode cX9_lentIn 13 = .ok (.iload_n 2, 1) := by decide +kernel
theorem dX9_lentIn_14 : decode cX9_lentIn 14 = .ok (.bipush 6, 2) := by decide +kernel
theorem dX9_lentIn_16 : decode cX9_lentIn 16 = .ok (.invokestatic 52, 3) := by decide +kernel
theorem dX9_lentIn_19 : decode cX9_lentIn 19 = .ok (.iaload, 1) := by decide +kernel
theorem dX9_lentIn_20 : decode cX9_lentIn 20 = .ok (.ifCond .le 7, 3) := by decide +kernel
theorem dX9_lentIn_23 : decode cX9_lentIn 23 = .ok (.iconst 1, 1) := by decide +kernel
theorem dX9_lentIn_24 : decode cX9_lentIn 24 = .ok (.goto 4, 3) := by decide +kernel
theorem dX9_lentIn_27 : decode cX9_lentIn 27 = .ok (.iconst 0, 1) := by decide +kernel
theorem dX9_lentIn_28 : decode cX9_lentIn 28 = .ok (.iadd, 1) := by decide +kernel
theorem dX9_lentIn_29 : decode cX9_lentIn 29 = .ok (.istore_n 1, 1) := by decide +kernel
theorem dX9_lentIn_30 : decode cX9_lentIn 30 = .ok (.iinc 2 1, 3) := by decide +kernel
theorem dX9_lentIn_33 : decode cX9_lentIn 33 = .ok (.goto (-29), 3) := by decide +kernel
theorem dX9_lentIn_36 : decode cX9_lentIn 36 = .ok (.iload_n 1, 1) := by decide +kernel
theorem dX9_lentIn_37 : decode cX9_lentIn 37 = .ok (.ireturn, 1) := by decide +kernel
theorem dX9_letter_0 : decode cX9_letter 0 = .ok (.iload_n 1, 1) := by decide +kernel
theorem dX9_letter_1 : decode cX9_letter 1 = .ok (.ifCond .ge 10, 3) := by decide +kernel
theorem dX9_letter_4 : decode cX9_letter 4 = .ok (.aload_n 0, 1) := by decide +kernel
theorem dX9_letter_5 : decode cX9_letter 5 = .ok (.bipush (-4), 2) := by decide +kernel
theorem dX9_letter_7 : decode cX9_letter 7 = .ok (.invokevirtual 38, 3) := by decide +kernel
theorem dX9_letter_10 : decode cX9_letter 10 = .ok (.ireturn, 1) := by decide +kernel
theorem dX9_letter_11 : decode cX9_letter 11 = .ok (.iload_n 1, 1) := by decide +kernel
theorem dX9_letter_12 : decode cX9_letter 12 = .ok (.sipush 255, 3) := by decide +kernel
theorem dX9_letter_15 : decode cX9_letter 15 = .ok (.if_icmp .gt 12, 3) := by decide +kernel
theorem dX9_letter_18 : decode cX9_letter 18 = .ok (.aload_n 0, 1) := by decide +kernel
theorem dX9_letter_19 : decode cX9_letter 19 = .ok (.getfield 91, 3) := by decide +kernel
theorem dX9_letter_22 : decode cX9_letter 22 = .ok (.bipush 96, 2) := by decide +kernel
theorem dX9_letter_24 : decode cX9_letter 24 = .ok (.if_icmp .ne 10, 3) := by decide +kernel
theorem dX9_letter_27 : decode cX9_letter 27 = .ok (.aload_n 0, 1) := by decide +kernel
theorem dX9_letter_28 : decode cX9_letter 28 = .ok (.bipush (-6), 2) := by decide +kernel
theorem dX9_letter_30 : decode cX9_letter 30 = .ok (.invokevirtual 38, 3) := by decide +kernel
theorem dX9_letter_33 : decode cX9_letter 33 = .ok (.ireturn, 1) := by decide +kernel
theorem dX9_letter_34 : decode cX9_letter 34 = .ok (.aload_n 0, 1) := by decide +kernel
theorem dX9_letter_35 : decode cX9_letter 35 = .ok (.getfield 25, 3) := by decide +kernel
theorem dX9_letter_38 : decode cX9_letter 38 = .ok (.aload_n 0, 1) := by decide +kernel
theorem dX9_letter_39 : decode cX9_letter 39 = .ok (.getfield 91, 3) := by decide +kernel
theorem dX9_letter_42 : decode cX9_letter 42 = .ok (.iload_n 1, 1) := by decide +kernel
theorem dX9_letter_43 : decode cX9_letter 43 = .ok (.iastore, 1) := by decide +kernel
theorem dX9_letter_44 : decode cX9_letter 44 = .ok (.aload_n 0, 1) := by decide +kernel
theorem dX9_letter_45 : decode cX9_letter 45 = .ok (.dup, 1) := by decide +kernel
theorem dX9_letter_46 : decode cX9_letter 46 = .ok (.getfield 91, 3) := by decide +kernel
theorem dX9_letter_49 : decode cX9_letter 49 = .ok (.iconst 1, 1) := by decide +kernel
theorem dX9_letter_50 : decode cX9_letter 50 = .ok (.iadd, 1) := by decide +kernel
theorem dX9_letter_51 : decode cX9_letter 51 = .ok (.putfield 91, 3) := by decide +kernel
theorem dX9_letter_54 : decode cX9_letter 54 = .ok (.aload_n 0, 1) := by decide +kernel
theorem dX9_letter_55 : decode cX9_letter 55 = .ok (.getfield 91, 3) := by decide +kernel
theorem dX9_letter_58 : decode cX9_letter 58 = .ok (.ireturn, 1) := by decide +kernel
theorem dX9_here_0 : decode cX9_here 0 = .ok (.aload_n 0, 1) := by decide +kernel
theorem dX9_here_1 : decode cX9_here 1 = .ok (.getfield 95, 3) := by decide +kernel
theorem dX9_here_4 : decode cX9_here 4 = .ok (.aload_n 0, 1) := by decide +kernel
theorem dX9_here_5 : decode cX9_here 5 = .ok (.getfield 91, 3) := by decide +kernel
theorem dX9_here_8 : decode cX9_here 8 = .ok (.if_icmp .ge 15, 3) := by decide +kernel
theorem dX9_here_11 : decode cX9_here 11 = .ok (.aload_n 0, 1) := by decide +kernel
theorem dX9_here_12 : decode cX9_here 12 = .ok (.getfield 25, 3) := by decide +kernel
theorem dX9_here_15 : decode cX9_here 15 = .ok (.aload_n 0, 1) := by decide +kernel
theorem dX9_here_16 : decode cX9_here 16 = .ok (.getfield 95, 3) := by decide +kernel
theorem dX9_here_19 : decode cX9_here 19 = .ok (.iaload, 1) := by decide +kernel
theorem dX9_here_20 : decode cX9_here 20 = .ok (.goto 4, 3) := by decide +kernel
theorem dX9_here_23 : decode cX9_here 23 = .ok (.iconst (-1), 1) := by decide +kernel
theorem dX9_here_24 : decode cX9_here 24 = .ok (.ireturn, 1) := by decide +kernel
theorem dX9_readsNumber_0 : decode cX9_readsNumber 0 = .ok (.aload_n 0, 1) := by decide +kernel
theorem dX9_readsNumber_1 : decode cX9_readsNumber 1 = .ok (.getfield 34, 3) := by decide +kernel
theorem dX9_readsNumber_4 : decode cX9_readsNumber 4 = .ok (.iload_n 1, 1) := by decide +kernel
theorem dX9_readsNumber_5 : decode cX9_readsNumber 5 = .ok (.iconst 0, 1) := by decide +kernel
theorem dX9_readsNumber_6 : decode cX9_readsNumber 6 = .ok (.iastore, 1) := by decide +kernel
theorem dX9_readsNumber_7 : decode cX9_readsNumber 7 = .ok (.iconst 0, 1) := by decide +kernel
theorem dX9_readsNumber_8 : decode cX9_readsNumber 8 = .ok (.istore_n 3, 1) := by decide +kernel
theorem dX9_readsNumber_9 : decode cX9_readsNumber 9 = .ok (.iload_n 3, 1) := by decide +kernel
theorem dX9_readsNumber_10 : decode cX9_readsNumber 10 = .ok (.iload_n 2, 1) := by decide +kernel
theorem dX9_readsNumber_11 : decode cX9_readsNumber 11 = .ok (.if_icmp .ge 58, 3) := by decide +kernel
theorem dX9_readsNumber_14 : decode cX9_readsNumber 14 = .ok (.aload_n 0, 1) := by decide +kernel
theorem dX9_readsNumber_15 : decode cX9_readsNumber 15 = .ok (.invokevirtual 98, 3) := by decide +kernel
theorem dX9_readsNumber_18 : decode cX9_readsNumber 18 = .ok (.bipush 48, 2) := by decide +kernel
theorem dX9_readsNumber_20 : decode cX9_readsNumber 20 = .ok (.bipush 57, 2) := by decide +kernel
theorem dX9_readsNumber_22 : decode cX9_readsNumber 22 = .ok (.invokestatic 44, 3) := by decide +kernel
theorem dX9_readsNumber_25 : decode cX9_readsNumber 25 = .ok (.ifCond .ne 5, 3) := by decide +kernel
theorem dX9_readsNumber_28 : decode cX9_readsNumber 28 = .ok (.iconst 0, 1) := by decide +kernel
theorem dX9_readsNumber_29 : decode cX9_readsNumber 29 = .ok (.ireturn, 1) := by decide +kernel
theorem dX9_readsNumber_30 : decode cX9_readsNumber 30 = .ok (.aload_n 0, 1) := by decide +kernel
theorem dX9_readsNumber_31 : decode cX9_readsNumber 31 = .ok (.getfield 34, 3) := by decide +kernel
theorem dX9_readsNumber_34 : decode cX9_readsNumber 34 = .ok (.iload_n 1, 1) := by decide +kernel
theorem dX9_readsNumber_35 : decode cX9_readsNumber 35 = .ok (.bipush 10, 2) := by decide +kernel
theorem dX9_readsNumber_37 : decode cX9_readsNumber 37 = .ok (.aload_n 0, 1) := by decide +kernel
theorem dX9_readsNumber_38 : decode cX9_readsNumber 38 = .ok (.getfield 34, 3) := by decide +kernel
theorem dX9_readsNumber_41 : decode cX9_readsNumber 41 = .ok (.iload_n 1, 1) := by decide +kernel
theorem dX9_readsNumber_42 : decode cX9_readsNumber 42 = .ok (.iaload, 1) := by decide +kernel
theorem dX9_readsNumber_43 : decode cX9_readsNumber 43 = .ok (.imul, 1) := by decide +kernel
theorem dX9_readsNumber_44 : decode cX9_readsNumber 44 = .ok (.aload_n 0, 1) := by decide +kernel
theorem dX9_readsNumber_45 : decode cX9_readsNumber 45 = .ok (.invokevirtual 98, 3) := by decide +kernel
theorem dX9_readsNumber_48 : decode cX9_readsNumber 48 = .ok (.iadd, 1) := by decide +kernel
theorem dX9_readsNumber_49 : decode cX9_readsNumber 49 = .ok (.bipush 48, 2) := by decide +kernel
theorem dX9_readsNumber_51 : decode cX9_readsNumber 51 = .ok (.isub, 1) := by decide +kernel
theorem dX9_readsNumber_52 : decode cX9_readsNumber 52 = .ok (.iastore, 1) := by decide +kernel
theorem dX9_readsNumber_53 : decode cX9_readsNumber 53 = .ok (.aload_n 0, 1) := by decide +kernel
theorem dX9_readsNumber_54 : decode cX9_readsNumber 54 = .ok (.dup, 1) := by decide +kernel
theorem dX9_readsNumber_55 : decode cX9_readsNumber 55 = .ok (.getfield 95, 3) := by decide +kernel
theorem dX9_readsNumber_58 : decode cX9_readsNumber 58 = .ok (.iconst 1, 1) := by decide +kernel
theorem dX9_readsNumber_59 : decode cX9_readsNumber 59 = .ok (.iadd, 1) := by decide +kernel
theorem dX9_readsNumber_60 : decode cX9_readsNumber 60 = .ok (.putfield 95, 3) := by decide +kernel
theorem dX9_readsNumber_63 : decode cX9_readsNumber 63 = .ok (.iinc 3 1, 3) := by decide +kernel
theorem dX9_readsNumber_66 : decode cX9_readsNumber 66 = .ok (.goto (-57), 3) := by decide +kernel
theorem dX9_readsNumber_69 : decode cX9_readsNumber 69 = .ok (.iconst 1, 1) := by decide +kernel
theorem dX9_readsNumber_70 : decode cX9_readsNumber 70 = .ok (.ireturn, 1) := by decide +kernel
theorem dX9_kindBy_0 : decode cX9_kindBy 0 = .ok (.iload_n 0, 1) := by decide +kernel
theorem dX9_kindBy_1 : decode cX9_kindBy 1 = .ok (.tableswitch 87 98 112 #[77, 87, 83, 87, 87, 85, 87, 87, 87, 81, 87, 79, 87, 87, 75], 75) := by decide +kernel
theorem dX9_kindBy_76 : decode cX9_kindBy 76 = .ok (.iconst 0, 1) := by decide +kernel
theorem dX9_kindBy_77 : decode cX9_kindBy 77 = .ok (.ireturn, 1) := by decide +kernel
theorem dX9_kindBy_78 : decode cX9_kindBy 78 = .ok (.iconst 1, 1) := by decide +kernel
theorem dX9_kindBy_79 : decode cX9_kindBy 79 = .ok (.ireturn, 1) := by decide +kernel
theorem dX9_kindBy_80 : decode cX9_kindBy 80 = .ok (.iconst 2, 1) := by decide +kernel
theorem dX9_kindBy_81 : decode cX9_kindBy 81 = .ok (.ireturn, 1) := by decide +kernel
theorem dX9_kindBy_82 : decode cX9_kindBy 82 = .ok (.iconst 3, 1) := by decide +kernel
theorem dX9_kindBy_83 : decode cX9_kindBy 83 = .ok (.ireturn, 1) := by decide +kernel
theorem dX9_kindBy_84 : decode cX9_kindBy 84 = .ok (.iconst 4, 1) := by decide +kernel
theorem dX9_kindBy_85 : decode cX9_kindBy 85 = .ok (.ireturn, 1) := by decide +kernel
theorem dX9_kindBy_86 : decode cX9_kindBy 86 = .ok (.iconst 5, 1) := by decide +kernel
theorem dX9_kindBy_87 : decode cX9_kindBy 87 = .ok (.ireturn, 1) := by decide +kernel
theorem dX9_kindBy_88 : decode cX9_kindBy 88 = .ok (.bipush (-9), 2) := by decide +kernel
theorem dX9_kindBy_90 : decode cX9_kindBy 90 = .ok (.ireturn, 1) := by decide +kernel
theorem dX9_readsKind_0 : decode cX9_readsKind 0 = .ok (.aload_n 0, 1) := by decide +kernel
theorem dX9_readsKind_1 : decode cX9_readsKind 1 = .ok (.getfield 34, 3) := by decide +kernel
theorem dX9_readsKind_4 : decode cX9_readsKind 4 = .ok (.iconst 0, 1) := by decide +kernel
theorem dX9_readsKind_5 : decode cX9_readsKind 5 = .ok (.aload_n 0, 1) := by decide +kernel
theorem dX9_readsKind_6 : decode cX9_readsKind 6 = .ok (.invokevirtual 98, 3) := by decide +kernel
theorem dX9_readsKind_9 : decode cX9_readsKind 9 = .ok (.invokestatic 102, 3) := by decide +kernel
theorem dX9_readsKind_12 : decode cX9_readsKind 12 = .ok (.iastore, 1) := by decide +kernel
theorem dX9_readsKind_13 : decode cX9_readsKind 13 = .ok (.aload_n 0, 1) := by decide +kernel
theorem dX9_readsKind_14 : decode cX9_readsKind 14 = .ok (.dup, 1) := by decide +kernel
theorem dX9_readsKind_15 : decode cX9_readsKind 15 = .ok (.getfield 95, 3) := by decide +kernel
theorem dX9_readsKind_18 : decode cX9_readsKind 18 = .ok (.aload_n 0, 1) := by decide +kernel
theorem dX9_readsKind_19 : decode cX9_readsKind 19 = .ok (.getfield 34, 3) := by decide +kernel
theorem dX9_readsKind_22 : decode cX9_readsKind 22 = .ok (.iconst 0, 1) := by decide +kernel
theorem dX9_readsKind_23 : decode cX9_readsKind 23 = .ok (.iaload, 1) := by decide +kernel
theorem dX9_readsKind_24 : decode cX9_readsKind 24 = .ok (.ifCond .ge 7, 3) := by decide +kernel
theorem dX9_readsKind_27 : decode cX9_readsKind 27 = .ok (.iconst 0, 1) := by decide +kernel
theorem dX9_readsKind_28 : decode cX9_readsKind 28 = .ok (.goto 4, 3) := by decide +kernel
theorem dX9_readsKind_31 : decode cX9_readsKind 31 = .ok (.iconst 1, 1) := by decide +kernel
theorem dX9_readsKind_32 : decode cX9_readsKind 32 = .ok (.iadd, 1) := by decide +kernel
theorem dX9_readsKind_33 : decode cX9_readsKind 33 = .ok (.putfield 95, 3) := by decide +kernel
theorem dX9_readsKind_36 : decode cX9_readsKind 36 = .ok (.aload_n 0, 1) := by decide +kernel
theorem dX9_readsKind_37 : decode cX9_readsKind 37 = .ok (.getfield 34, 3) := by decide +kernel
theorem dX9_readsKind_40 : decode cX9_readsKind 40 = .ok (.iconst 0, 1) := by decide +kernel
theorem dX9_readsKind_41 : decode cX9_readsKind 41 = .ok (.iaload, 1) := by decide +kernel
theorem dX9_readsKind_42 : decode cX9_readsKind 42 = .ok (.ifCond .lt 7, 3) := by decide +kernel
theorem dX9_readsKind_45 : decode cX9_readsKind 45 = .ok (.iconst 1, 1) := by decide +kernel
theorem dX9_readsKind_46 : decode cX9_readsKind 46 = .ok (.goto 4, 3) := by decide +kernel
theorem dX9_readsKind_49 : decode cX9_readsKind 49 = .ok (.iconst 0, 1) := by decide +kernel
theorem dX9_readsKind_50 : decode cX9_readsKind 50 = .ok (.ireturn, 1) := by decide +kernel
theorem dX9_readsStatement_0 : decode cX9_readsStatement 0 = .ok (.aload_n 0, 1) := by decide +kernel
theorem dX9_readsStatement_1 : decode cX9_readsStatement 1 = .ok (.invokevirtual 98, 3) := by decide +kernel
theorem dX9_readsStatement_4 : decode cX9_readsStatement 4 = .ok (.istore_n 1, 1) := by decide +kernel
theorem dX9_readsStatement_5 : decode cX9_readsStatement 5 = .ok (.aload_n 0, 1) := by decide +kernel
theorem dX9_readsStatement_6 : decode cX9_readsStatement 6 = .ok (.dup, 1) := by decide +kernel
theorem dX9_readsStatement_7 : decode cX9_readsStatement 7 = .ok (.getfield 95, 3) := by decide +kernel
theorem dX9_readsStatement_10 : decode cX9_readsStatement 10 = .ok (.iconst 1, 1) := by decide +kernel
theorem dX9_readsStatement_11 : decode cX9_readsStatement 11 = .ok (.iadd, 1) := by decide +kernel
theorem dX9_readsStatement_12 : decode cX9_readsStatement 12 = .ok (.putfield 95, 3) := by decide +kernel
theorem dX9_readsStatement_15 : decode cX9_readsStatement 15 = .ok (.iload_n 1, 1) := by decide +kernel
theorem dX9_readsStatement_16 : decode cX9_readsStatement 16 = .ok (.tableswitch 175 98 112 #[128, 175, 175, 175, 138, 175, 175, 175, 175, 101, 101, 165, 175, 175, 76], 76) := by decide +kernel
theorem dX9_readsStatement_92 : decode cX9_readsStatement 92 = .ok (.aload_n 0, 1) := by decide +kernel
theorem dX9_readsStatement_93 : decode cX9_readsStatement 93 = .ok (.invokevirtual 105, 3) := by decide +kernel
theorem dX9_readsStatement_96 : decode cX9_readsStatement 96 = .ok (.ifCond .eq 16, 3) := by decide +kernel
theorem dX9_readsStatement_99 : decode cX9_readsStatement 99 = .ok (.aload_n 0, 1) := by decide +kernel
theorem dX9_readsStatement_100 : decode cX9_readsStatement 100 = .ok (.iconst 1, 1) := by decide +kernel
theorem dX9_readsStatement_101 : decode cX9_readsStatement 101 = .ok (.iconst 1, 1) := by decide +kernel
theorem dX9_readsStatement_102 : decode cX9_readsStatement 102 = .ok (.invokevirtual 109, 3) := by decide +kernel
theorem dX9_readsStatement_105 : decode cX9_readsStatement 105 = .ok (.ifCond .eq 7, 3) := by decide +kernel
theorem dX9_readsStatement_108 : decode cX9_readsStatement 108 = .ok (.iconst 1, 1) := by decide +kernel
theorem dX9_readsStatement_109 : decode cX9_readsStatement 109 = .ok (.goto 4, 3) := by decide +kernel
theorem dX9_readsStatement_112 : decode cX9_readsStatement 112 = .ok (.iconst 0, 1) := by decide +kernel
theorem dX9_readsStatement_113 : decode cX9_readsStatement 113 = .ok (.istore_n 2, 1) := by decide +kernel
theorem dX9_readsStatement_114 : decode cX9_readsStatement 114 = .ok (.goto 89, 3) := by decide +kernel
theorem dX9_readsStatement_117 : decode cX9_readsStatement 117 = .ok (.aload_n 0, 1) := by decide +kernel
theorem dX9_readsStatement_118 : decode cX9_readsStatement 118 = .ok (.iconst 0, 1) := by decide +kernel
theorem dX9_readsStatement_119 : decode cX9_readsStatement 119 = .ok (.iconst 1, 1) := by decide +kernel
theorem dX9_readsStatement_120 : decode cX9_readsStatement 120 = .ok (.invokevirtual 109, 3) := by decide +kernel
theorem dX9_readsStatement_123 : decode cX9_readsStatement 123 = .ok (.ifCond .eq 16, 3) := by decide +kernel
theorem dX9_readsStatement_126 : decode cX9_readsStatement 126 = .ok (.aload_n 0, 1) := by decide +kernel
theorem dX9_readsStatement_127 : decode cX9_readsStatement 127 = .ok (.iconst 1, 1) := by decide +kernel
theorem dX9_readsStatement_128 : decode cX9_readsStatement 128 = .ok (.iconst 1, 1) := by decide +kernel
theorem dX9_readsStatement_129 : decode cX9_readsStatement 129 = .ok (.invokevirtual 109, 3) := by decide +kernel
theorem dX9_readsStatement_132 : decode cX9_readsStatement 132 = .ok (.ifCond .eq 7, 3) := by decide +kernel
theorem dX9_readsStatement_135 : decode cX9_readsStatement 135 = .ok (.iconst 1, 1) := by decide +kernel
theorem dX9_readsStatement_136 : decode cX9_readsStatement 136 = .ok (.goto 4, 3) := by decide +kernel
theorem dX9_readsStatement_139 : decode cX9_readsStatement 139 = .ok (.iconst 0, 1) := by decide +kernel
theorem dX9_readsStatement_140 : decode cX9_readsStatement 140 = .ok (.istore_n 2, 1) := by decide +kernel
theorem dX9_readsStatement_141 : decode cX9_readsStatement 141 = .ok (.goto 62, 3) := by decide +kernel
theorem dX9_readsStatement_144 : decode cX9_readsStatement 144 = .ok (.aload_n 0, 1) := by decide +kernel
theorem dX9_readsStatement_145 : decode cX9_readsStatement 145 = .ok (.iconst 0, 1) := by decide +kernel
theorem dX9_readsStatement_146 : decode cX9_readsStatement 146 = .ok (.iconst 1, 1) := by decide +kernel
theorem dX9_readsStatement_147 : decode cX9_readsStatement 147 = .ok (.invokevirtual 109, 3) := by decide +kernel
theorem dX9_readsStatement_150 : decode cX9_readsStatement 150 = .ok (.istore_n 2, 1) := by decide +kernel
theorem dX9_readsStatement_151 : decode cX9_readsStatement 151 = .ok (.goto 52, 3) := by decide +kernel
theorem dX9_readsStatement_154 : decode cX9_readsStatement 154 = .ok (.aload_n 0, 1) := by decide +kernel
theorem dX9_readsStatement_155 : decode cX9_readsStatement 155 = .ok (.iconst 0, 1) := by decide +kernel
theorem dX9_readsStatement_156 : decode cX9_readsStatement 156 = .ok (.iconst 1, 1) := by decide +kernel
theorem dX9_readsStatement_157 : decode cX9_readsStatement 157 = .ok (.invokevirtual 109, 3) := by decide +kernel
theorem dX9_readsStatement_160 : decode cX9_readsStatement 160 = .ok (.ifCond .eq 16, 3) := by decide +kernel
theorem dX9_readsStatement_163 : decode cX9_readsStatement 163 = .ok (.aload_n 0, 1) := by decide +kernel
theorem dX9_readsStatement_164 : decode cX9_readsStatement 164 = .ok (.iconst 1, 1) := by decide +kernel
theorem dX9_readsStatement_165 : decode cX9_readsStatement 165 = .ok (.iconst 2, 1) := by decide +kernel
theorem dX9_readsStatement_166 : decode cX9_readsStatement 166 = .ok (.invokevirtual 109, 3) := by decide +kernel
theorem dX9_readsStatement_169 : decode cX9_readsStatement 169 = .ok (.ifCond .eq 7, 3) := by decide +kernel
theorem dX9_readsStatement_172 : decode cX9_readsStatement 172 = .ok (.iconst 1, 1) := by decide +kernel
theorem dX9_readsStatement_173 : decode cX9_readsStatement 173 = .ok (.goto 4, 3) := by decide +kernel
theorem dX9_readsStatement_176 : decode cX9_readsStatement 176 = .ok (.iconst 0, 1) := by decide +kernel
theorem dX9_readsStatement_177 : decode cX9_readsStatement 177 = .ok (.istore_n 2, 1) := by decide +kernel
theorem dX9_readsStatement_178 : decode cX9_readsStatement 178 = .ok (.goto 25, 3) := by decide +kernel
theorem dX9_readsStatement_181 : decode cX9_readsStatement 181 = .ok (.aload_n 0, 1) := by decide +kernel
theorem dX9_readsStatement_182 : decode cX9_readsStatement 182 = .ok (.iconst 0, 1) := by decide +kernel
theorem dX9_readsStatement_183 : decode cX9_readsStatement 183 = .ok (.iconst 2, 1) := by decide +kernel
theorem dX9_readsStatement_184 : decode cX9_readsStatement 184 = .ok (.invokevirtual 109, 3) := by decide +kernel
theorem dX9_readsStatement_187 : decode cX9_readsStatement 187 = .ok (.istore_n 2, 1) := by decide +kernel
theorem dX9_readsStatement_188 : decode cX9_readsStatement 188 = .ok (.goto 15, 3) := by decide +kernel
theorem dX9_readsStatement_191 : decode cX9_readsStatement 191 = .ok (.aload_n 0, 1) := by decide +kernel
theorem dX9_readsStatement_192 : decode cX9_readsStatement 192 = .ok (.dup, 1) := by decide +kernel
theorem dX9_readsStatement_193 : decode cX9_readsStatement 193 = .ok (.getfield 95, 3) := by decide +kernel
theorem dX9_readsStatement_196 : decode cX9_readsStatement 196 = .ok (.iconst 1, 1) := by decide +kernel
theorem dX9_readsStatement_197 : decode cX9_readsStatement 197 = .ok (.isub, 1) := by decide +kernel
theorem dX9_readsStatement_198 : decode cX9_readsStatement 198 = .ok (.putfield 95, 3) := by decide +kernel
theorem dX9_readsStatement_201 : decode cX9_readsStatement 201 = .ok (.iconst 0, 1) := by decide +kernel
theorem dX9_readsStatement_202 : decode cX9_readsStatement 202 = .ok (.ireturn, 1) := by decide +kernel
theorem dX9_readsStatement_203 : decode cX9_readsStatement 203 = .ok (.iload_n 2, 1) := by decide +kernel
theorem dX9_readsStatement_204 : decode cX9_readsStatement 204 = .ok (.ifCond .eq 12, 3) := by decide +kernel
theorem dX9_readsStatement_207 : decode cX9_readsStatement 207 = .ok (.aload_n 0, 1) := by decide +kernel
theorem dX9_readsStatement_208 : decode cX9_readsStatement 208 = .ok (.invokevirtual 98, 3) := by decide +kernel
theorem dX9_readsStatement_211 : decode cX9_readsStatement 211 = .ok (.bipush 59, 2) := by decide +kernel
theorem dX9_readsStatement_213 : decode cX9_readsStatement 213 = .ok (.if_icmp .eq 5, 3) := by decide +kernel
theorem dX9_readsStatement_216 : decode cX9_readsStatement 216 = .ok (.iconst 0, 1) := by decide +kernel
theorem dX9_readsStatement_217 : decode cX9_readsStatement 217 = .ok (.ireturn, 1) := by decide +kernel
theorem dX9_readsStatement_218 : decode cX9_readsStatement 218 = .ok (.aload_n 0, 1) := by decide +kernel
theorem dX9_readsStatement_219 : decode cX9_readsStatement 219 = .ok (.dup, 1) := by decide +kernel
theorem dX9_readsStatement_220 : decode cX9_readsStatement 220 = .ok (.getfield 95, 3) := by decide +kernel
theorem dX9_readsStatement_223 : decode cX9_readsStatement 223 = .ok (.iconst 1, 1) := by decide +kernel
theorem dX9_readsStatement_224 : decode cX9_readsStatement 224 = .ok (.iadd, 1) := by decide +kernel
theorem dX9_readsStatement_225 : decode cX9_readsStatement 225 = .ok (.putfield 95, 3) := by decide +kernel
theorem dX9_readsStatement_228 : decode cX9_readsStatement 228 = .ok (.iconst 1, 1) := by decide +kernel
theorem dX9_readsStatement_229 : decode cX9_readsStatement 229 = .ok (.ireturn, 1) := by decide +kernel
theorem dX9_adds_0 : decode cX9_adds 0 = .ok (.aload_n 0, 1) := by decide +kernel
theorem dX9_adds_1 : decode cX9_adds 1 = .ok (.getfield 9, 3) := by decide +kernel
theorem dX9_adds_4 : decode cX9_adds 4 = .ok (.iconst 0, 1) := by decide +kernel
theorem dX9_adds_5 : decode cX9_adds 5 = .ok (.iaload, 1) := by decide +kernel
theorem dX9_adds_6 : decode cX9_adds 6 = .ok (.bipush 8, 2) := by decide +kernel
theorem dX9_adds_8 : decode cX9_adds 8 = .ok (.if_icmp .ne 5, 3) := by decide +kernel
theorem dX9_adds_11 : decode cX9_adds 11 = .ok (.iconst 0, 1) := by decide +kernel
theorem dX9_adds_12 : decode cX9_adds 12 = .ok (.ireturn, 1) := by decide +kernel
theorem dX9_adds_13 : decode cX9_adds 13 = .ok (.aload_n 0, 1) := by decide +kernel
theorem dX9_adds_14 : decode cX9_adds 14 = .ok (.getfield 9, 3) := by decide +kernel
theorem dX9_adds_17 : decode cX9_adds 17 = .ok (.iconst 0, 1) := by decide +kernel
theorem dX9_adds_18 : decode cX9_adds 18 = .ok (.iaload, 1) := by decide +kernel
theorem dX9_adds_19 : decode cX9_adds 19 = .ok (.istore_n 3, 1) := by decide +kernel
theorem dX9_adds_20 : decode cX9_adds 20 = .ok (.aload_n 0, 1) := by decide +kernel
theorem dX9_adds_21 : decode cX9_adds 21 = .ok (.getfield 9, 3) := by decide +kernel
theorem dX9_adds_24 : decode cX9_adds 24 = .ok (.iload_n 3, 1) := by decide +kernel
theorem dX9_adds_25 : decode cX9_adds 25 = .ok (.iconst 0, 1) := by decide +kernel
theorem dX9_adds_26 : decode cX9_adds 26 = .ok (.invokestatic 52, 3) := by decide +kernel
theorem dX9_adds_29 : decode cX9_adds 29 = .ok (.iload_n 1, 1) := by decide +kernel
theorem dX9_adds_30 : decode cX9_adds 30 = .ok (.iastore, 1) := by decide +kernel
theorem dX9_adds_31 : decode cX9_adds 31 = .ok (.aload_n 0, 1) := by decide +kernel
theorem dX9_adds_32 : decode cX9_adds 32 = .ok (.getfield 9, 3) := by decide +kernel
theorem dX9_adds_35 : decode cX9_adds 35 = .ok (.iload_n 3, 1) := by decide +kernel
theorem dX9_adds_36 : decode cX9_adds 36 = .ok (.iconst 1, 1) := by decide +kernel
theorem dX9_adds_37 : decode cX9_adds 37 = .ok (.invokestatic 52, 3) := by decide +kernel
theorem dX9_adds_40 : decode cX9_adds 40 = .ok (.iload_n 2, 1) := by decide +kernel
theorem dX9_adds_41 : decode cX9_adds 41 = .ok (.iastore, 1) := by decide +kernel
theorem dX9_adds_42 : decode cX9_adds 42 = .ok (.aload_n 0, 1) := by decide +kernel
theorem dX9_adds_43 : decode cX9_adds 43 = .ok (.getfield 9, 3) := by decide +kernel
theorem dX9_adds_46 : decode cX9_adds 46 = .ok (.iload_n 3, 1) := by decide +kernel
theorem dX9_adds_47 : decode cX9_adds 47 = .ok (.iconst 2, 1) := by decide +kernel
theorem dX9_adds_48 : decode cX9_adds 48 = .ok (.invokestatic 52, 3) := by decide +kernel
theorem dX9_adds_51 : decode cX9_adds 51 = .ok (.iconst 1, 1) := by decide +kernel
theorem dX9_adds_52 : decode cX9_adds 52 = .ok (.iload_n 3, 1) := by decide +kernel
theorem dX9_adds_53 : decode cX9_adds 53 = .ok (.ishl, 1) := by decide +kernel
theorem dX9_adds_54 : decode cX9_adds 54 = .ok (.iastore, 1) := by decide +kernel
theorem dX9_adds_55 : decode cX9_adds 55 = .ok (.aload_n 0, 1) := by decide +kernel
theorem dX9_adds_56 : decode cX9_adds 56 = .ok (.getfield 9, 3) := by decide +kernel
theorem dX9_adds_59 : decode cX9_adds 59 = .ok (.iload_n 3, 1) := by decide +kernel
theorem dX9_adds_60 : decode cX9_adds 60 = .ok (.iconst 3, 1) := by decide +kernel
theorem dX9_adds_61 : decode cX9_adds 61 = .ok (.invokestatic 52, 3) := by decide +kernel
theorem dX9_adds_64 : decode cX9_adds 64 = .ok (.iload_n 3, 1) := by decide +kernel
theorem dX9_adds_65 : decode cX9_adds 65 = .ok (.iastore, 1) := by decide +kernel
theorem dX9_adds_66 : decode cX9_adds 66 = .ok (.aload_n 0, 1) := by decide +kernel
theorem dX9_adds_67 : decode cX9_adds 67 = .ok (.getfield 9, 3) := by decide +kernel
theorem dX9_adds_70 : decode cX9_adds 70 = .ok (.iload_n 3, 1) := by decide +kernel
theorem dX9_adds_71 : decode cX9_adds 71 = .ok (.iconst 4, 1) := by decide +kernel
theorem dX9_adds_72 : decode cX9_adds 72 = .ok (.invokestatic 52, 3) := by decide +kernel
theorem dX9_adds_75 : decode cX9_adds 75 = .ok (.bipush 50, 2) := by decide +kernel
theorem dX9_adds_77 : decode cX9_adds 77 = .ok (.iastore, 1) := by decide +kernel
theorem dX9_adds_78 : decode cX9_adds 78 = .ok (.aload_n 0, 1) := by decide +kernel
theorem dX9_adds_79 : decode cX9_adds 79 = .ok (.getfield 9, 3) := by decide +kernel
theorem dX9_adds_82 : decode cX9_adds 82 = .ok (.iload_n 3, 1) := by decide +kernel
theorem dX9_adds_83 : decode cX9_adds 83 = .ok (.iconst 5, 1) := by decide +kernel
theorem dX9_adds_84 : decode cX9_adds 84 = .ok (.invokestatic 52, 3) := by decide +kernel
theorem dX9_adds_87 : decode cX9_adds 87 = .ok (.iconst 0, 1) := by decide +kernel
theorem dX9_adds_88 : decode cX9_adds 88 = .ok (.iastore, 1) := by decide +kernel
theorem dX9_adds_89 : decode cX9_adds 89 = .ok (.aload_n 0, 1) := by decide +kernel
theorem dX9_adds_90 : decode cX9_adds 90 = .ok (.getfield 9, 3) := by decide +kernel
theorem dX9_adds_93 : decode cX9_adds 93 = .ok (.iload_n 3, 1) := by decide +kernel
theorem dX9_adds_94 : decode cX9_adds 94 = .ok (.bipush 6, 2) := by decide +kernel
theorem dX9_adds_96 : decode cX9_adds 96 = .ok (.invokestatic 52, 3) := by decide +kernel
theorem dX9_adds_99 : decode cX9_adds 99 = .ok (.iconst 0, 1) := by decide +kernel
theorem dX9_adds_100 : decode cX9_adds 100 = .ok (.iastore, 1) := by decide +kernel
theorem dX9_adds_101 : decode cX9_adds 101 = .ok (.aload_n 0, 1) := by decide +kernel
theorem dX9_adds_102 : decode cX9_adds 102 = .ok (.getfield 9, 3) := by decide +kernel
theorem dX9_adds_105 : decode cX9_adds 105 = .ok (.iconst 0, 1) := by decide +kernel
theorem dX9_adds_106 : decode cX9_adds 106 = .ok (.dup2, 1) := by decide +kernel
theorem dX9_adds_107 : decode cX9_adds 107 = .ok (.iaload, 1) := by decide +kernel
theorem dX9_adds_108 : decode cX9_adds 108 = .ok (.iconst 1, 1) := by decide +kernel
theorem dX9_adds_109 : decode cX9_adds 109 = .ok (.iadd, 1) := by decide +kernel
theorem dX9_adds_110 : decode cX9_adds 110 = .ok (.iastore, 1) := by decide +kernel
theorem dX9_adds_111 : decode cX9_adds 111 = .ok (.iconst 1, 1) := by decide +kernel
theorem dX9_adds_112 : decode cX9_adds 112 = .ok (.ireturn, 1) := by decide +kernel
theorem dX9_isDone_0 : decode cX9_isDone 0 = .ok (.aload_n 0, 1) := by decide +kernel
theorem dX9_isDone_1 : decode cX9_isDone 1 = .ok (.getfield 34, 3) := by decide +kernel
theorem dX9_isDone_4 : decode cX9_isDone 4 = .ok (.iconst 0, 1) := by decide +kernel
theorem dX9_isDone_5 : decode cX9_isDone 5 = .ok (.iaload, 1) := by decide +kernel
theorem dX9_isDone_6 : decode cX9_isDone 6 = .ok (.istore_n 2, 1) := by decide +kernel
theorem dX9_isDone_7 : decode cX9_isDone 7 = .ok (.aload_n 0, 1) := by decide +kernel
theorem dX9_isDone_8 : decode cX9_isDone 8 = .ok (.getfield 34, 3) := by decide +kernel
theorem dX9_isDone_11 : decode cX9_isDone 11 = .ok (.iconst 1, 1) := by decide +kernel
theorem dX9_isDone_12 : decode cX9_isDone 12 = .ok (.iaload, 1) := by decide +kernel
theorem dX9_isDone_13 : decode cX9_isDone 13 = .ok (.istore_n 3, 1) := by decide +kernel
theorem dX9_isDone_14 : decode cX9_isDone 14 = .ok (.iconst 0, 1) := by decide +kernel
theorem dX9_isDone_15 : decode cX9_isDone 15 = .ok (.istore 4, 2) := by decide +kernel
theorem dX9_isDone_17 : decode cX9_isDone 17 = .ok (.iload_n 1, 1) := by decide +kernel
theorem dX9_isDone_18 : decode cX9_isDone 18 = .ok (.tableswitch 210 98 112 #[115, 210, 210, 210, 187, 210, 210, 210, 210, 151, 81, 210, 210, 210, 74], 74) := by decide +kernel
theorem dX9_isDone_92 : decode cX9_isDone 92 = .ok (.aload_n 0, 1) := by decide +kernel
theorem dX9_isDone_93 : decode cX9_isDone 93 = .ok (.iload_n 2, 1) := by decide +kernel
theorem dX9_isDone_94 : decode cX9_isDone 94 = .ok (.iload_n 3, 1) := by decide +kernel
theorem dX9_isDone_95 : decode cX9_isDone 95 = .ok (.invokevirtual 112, 3) := by decide +kernel
theorem dX9_isDone_98 : decode cX9_isDone 98 = .ok (.ireturn, 1) := by decide +kernel
theorem dX9_isDone_99 : decode cX9_isDone 99 = .ok (.aload_n 0, 1) := by decide +kernel
theorem dX9_isDone_100 : decode cX9_isDone 100 = .ok (.iload_n 2, 1) := by decide +kernel
theorem dX9_isDone_101 : decode cX9_isDone 101 = .ok (.iload_n 3, 1) := by decide +kernel
theorem dX9_isDone_102 : decode cX9_isDone 102 = .ok (.invokevirtual 115, 3) := by decide +kernel
theorem dX9_isDone_105 : decode cX9_isDone 105 = .ok (.ifCond .eq 15, 3) := by decide +kernel
theorem dX9_isDone_108 : decode cX9_isDone 108 = .ok (.aload_n 0, 1) := by decide +kernel
theorem dX9_isDone_109 : decode cX9_isDone 109 = .ok (.getfield 9, 3) := by decide +kernel
theorem dX9_isDone_112 : decode cX9_isDone 112 = .ok (.iload_n 2, 1) := by decide +kernel
theorem dX9_isDone_113 : decode cX9_isDone 113 = .ok (.iload_n 3, 1) := by decide +kernel
theorem dX9_isDone_114 : decode cX9_isDone 114 = .ok (.invokestatic 118, 3) := by decide +kernel
theorem dX9_isDone_117 : decode cX9_isDone 117 = .ok (.ifCond .ne 5, 3) := by decide +kernel
theorem dX9_isDone_120 : decode cX9_isDone 120 = .ok (.iconst 0, 1) := by decide +kernel
theorem dX9_isDone_121 : decode cX9_isDone 121 = .ok (.ireturn, 1) := by decide +kernel
theorem dX9_isDone_122 : decode cX9_isDone 122 = .ok (.aload_n 0, 1) := by decide +kernel
theorem dX9_isDone_123 : decode cX9_isDone 123 = .ok (.getfield 9, 3) := by decide +kernel
theorem dX9_isDone_126 : decode cX9_isDone 126 = .ok (.iload_n 2, 1) := by decide +kernel
theorem dX9_isDone_127 : decode cX9_isDone 127 = .ok (.iload_n 3, 1) := by decide +kernel
theorem dX9_isDone_128 : decode cX9_isDone 128 = .ok (.invokestatic 122, 3) := by decide +kernel
theorem dX9_isDone_131 : decode cX9_isDone 131 = .ok (.iconst 1, 1) := by decide +kernel
theorem dX9_isDone_132 : decode cX9_isDone 132 = .ok (.ireturn, 1) := by decide +kernel
theorem dX9_isDone_133 : decode cX9_isDone 133 = .ok (.aload_n 0, 1) := by decide +kernel
theorem dX9_isDone_134 : decode cX9_isDone 134 = .ok (.iload_n 2, 1) := by decide +kernel
theorem dX9_isDone_135 : decode cX9_isDone 135 = .ok (.invokevirtual 48, 3) := by decide +kernel
theorem dX9_isDone_138 : decode cX9_isDone 138 = .ok (.ifCond .eq 17, 3) := by decide +kernel
theorem dX9_isDone_141 : decode cX9_isDone 141 = .ok (.aload_n 0, 1) := by decide +kernel
theorem dX9_isDone_142 : decode cX9_isDone 142 = .ok (.getfield 9, 3) := by decide +kernel
theorem dX9_isDone_145 : decode cX9_isDone 145 = .ok (.iload_n 2, 1) := by decide +kernel
theorem dX9_isDone_146 : decode cX9_isDone 146 = .ok (.bipush 6, 2) := by decide +kernel
theorem dX9_isDone_148 : decode cX9_isDone 148 = .ok (.invokestatic 52, 3) := by decide +kernel
theorem dX9_isDone_151 : decode cX9_isDone 151 = .ok (.iaload, 1) := by decide +kernel
theorem dX9_isDone_152 : decode cX9_isDone 152 = .ok (.ifCond .ne 5, 3) := by decide +kernel
theorem dX9_isDone_155 : decode cX9_isDone 155 = .ok (.iconst 0, 1) := by decide +kernel
theorem dX9_isDone_156 : decode cX9_isDone 156 = .ok (.ireturn, 1) := by decide +kernel
theorem dX9_isDone_157 : decode cX9_isDone 157 = .ok (.aload_n 0, 1) := by decide +kernel
theorem dX9_isDone_158 : decode cX9_isDone 158 = .ok (.getfield 9, 3) := by decide +kernel
theorem dX9_isDone_161 : decode cX9_isDone 161 = .ok (.iload_n 2, 1) := by decide +kernel
theorem dX9_isDone_162 : decode cX9_isDone 162 = .ok (.invokestatic 81, 3) := by decide +kernel
theorem dX9_isDone_165 : decode cX9_isDone 165 = .ok (.istore 4, 2) := by decide +kernel
theorem dX9_isDone_167 : decode cX9_isDone 167 = .ok (.iconst 1, 1) := by decide +kernel
theorem dX9_isDone_168 : decode cX9_isDone 168 = .ok (.ireturn, 1) := by decide +kernel
theorem dX9_isDone_169 : decode cX9_isDone 169 = .ok (.aload_n 0, 1) := by decide +kernel
theorem dX9_isDone_170 : decode cX9_isDone 170 = .ok (.iload_n 2, 1) := by decide +kernel
theorem dX9_isDone_171 : decode cX9_isDone 171 = .ok (.invokevirtual 48, 3) := by decide +kernel
theorem dX9_isDone_174 : decode cX9_isDone 174 = .ok (.ifCond .eq 11, 3) := by decide +kernel
theorem dX9_isDone_177 : decode cX9_isDone 177 = .ok (.aload_n 0, 1) := by decide +kernel
theorem dX9_isDone_178 : decode cX9_isDone 178 = .ok (.iload_n 3, 1) := by decide +kernel
theorem dX9_isDone_179 : decode cX9_isDone 179 = .ok (.invokevirtual 48, 3) := by decide +kernel
theorem dX9_isDone_182 : decode cX9_isDone 182 = .ok (.ifCond .ne 5, 3) := by decide +kernel
theorem dX9_isDone_185 : decode cX9_isDone 185 = .ok (.iconst 0, 1) := by decide +kernel
theorem dX9_isDone_186 : decode cX9_isDone 186 = .ok (.ireturn, 1) := by decide +kernel
theorem dX9_isDone_187 : decode cX9_isDone 187 = .ok (.aload_n 0, 1) := by decide +kernel
theorem dX9_isDone_188 : decode cX9_isDone 188 = .ok (.getfield 9, 3) := by decide +kernel
theorem dX9_isDone_191 : decode cX9_isDone 191 = .ok (.iload_n 2, 1) := by decide +kernel
theorem dX9_isDone_192 : decode cX9_isDone 192 = .ok (.iconst 2, 1) := by decide +kernel
theorem dX9_isDone_193 : decode cX9_isDone 193 = .ok (.invokestatic 52, 3) := by decide +kernel
theorem dX9_isDone_196 : decode cX9_isDone 196 = .ok (.dup2, 1) := by decide +kernel
theorem dX9_isDone_197 : decode cX9_isDone 197 = .ok (.iaload, 1) := by decide +kernel
theorem dX9_isDone_198 : decode cX9_isDone 198 = .ok (.iconst 1, 1) := by decide +kernel
theorem dX9_isDone_199 : decode cX9_isDone 199 = .ok (.iload_n 3, 1) := by decide +kernel
theorem dX9_isDone_200 : decode cX9_isDone 200 = .ok (.ishl, 1) := by decide +kernel
theorem dX9_isDone_201 : decode cX9_isDone 201 = .ok (.ixor, 1) := by decide +kernel
theorem dX9_isDone_202 : decode cX9_isDone 202 = .ok (.iastore, 1) := by decide +kernel
theorem dX9_isDone_203 : decode cX9_isDone 203 = .ok (.iconst 1, 1) := by decide +kernel
theorem dX9_isDone_204 : decode cX9_isDone 204 = .ok (.ireturn, 1) := by decide +kernel
theorem dX9_isDone_205 : decode cX9_isDone 205 = .ok (.aload_n 0, 1) := by decide +kernel
theorem dX9_isDone_206 : decode cX9_isDone 206 = .ok (.iload_n 2, 1) := by decide +kernel
theorem dX9_isDone_207 : decode cX9_isDone 207 = .ok (.invokevirtual 48, 3) := by decide +kernel
theorem dX9_isDone_210 : decode cX9_isDone 210 = .ok (.ifCond .ne 5, 3) := by decide +kernel
theorem dX9_isDone_213 : decode cX9_isDone 213 = .ok (.iconst 0, 1) := by decide +kernel
theorem dX9_isDone_214 : decode cX9_isDone 214 = .ok (.ireturn, 1) := by decide +kernel
theorem dX9_isDone_215 : decode cX9_isDone 215 = .ok (.aload_n 0, 1) := by decide +kernel
theorem dX9_isDone_216 : decode cX9_isDone 216 = .ok (.getfield 9, 3) := by decide +kernel
theorem dX9_isDone_219 : decode cX9_isDone 219 = .ok (.iload_n 2, 1) := by decide +kernel
theorem dX9_isDone_220 : decode cX9_isDone 220 = .ok (.iconst 4, 1) := by decide +kernel
theorem dX9_isDone_221 : decode cX9_isDone 221 = .ok (.invokestatic 52, 3) := by decide +kernel
theorem dX9_isDone_224 : decode cX9_isDone 224 = .ok (.iload_n 3, 1) := by decide +kernel
theorem dX9_isDone_225 : decode cX9_isDone 225 = .ok (.iastore, 1) := by decide +kernel
theorem dX9_isDone_226 : decode cX9_isDone 226 = .ok (.iconst 1, 1) := by decide +kernel
theorem dX9_isDone_227 : decode cX9_isDone 227 = .ok (.ireturn, 1) := by decide +kernel
theorem dX9_isDone_228 : decode cX9_isDone 228 = .ok (.iload_n 2, 1) := by decide +kernel
theorem dX9_isDone_229 : decode cX9_isDone 229 = .ok (.iconst 1, 1) := by decide +kernel
theorem dX9_isDone_230 : decode cX9_isDone 230 = .ok (.bipush 60, 2) := by decide +kernel
theorem dX9_isDone_232 : decode cX9_isDone 232 = .ok (.invokestatic 44, 3) := by decide +kernel
theorem dX9_isDone_235 : decode cX9_isDone 235 = .ok (.ifCond .eq 17, 3) := by decide +kernel
theorem dX9_isDone_238 : decode cX9_isDone 238 = .ok (.aload_n 0, 1) := by decide +kernel
theorem dX9_isDone_239 : decode cX9_isDone 239 = .ok (.getfield 9, 3) := by decide +kernel
theorem dX9_isDone_242 : decode cX9_isDone 242 = .ok (.iconst 1, 1) := by decide +kernel
theorem dX9_isDone_243 : decode cX9_isDone 243 = .ok (.iaload, 1) := by decide +kernel
theorem dX9_isDone_244 : decode cX9_isDone 244 = .ok (.iload_n 2, 1) := by decide +kernel
theorem dX9_isDone_245 : decode cX9_isDone 245 = .ok (.iadd, 1) := by decide +kernel
theorem dX9_isDone_246 : decode cX9_isDone 246 = .ok (.sipush 999, 3) := by decide +kernel
theorem dX9_isDone_249 : decode cX9_isDone 249 = .ok (.if_icmp .le 5, 3) := by decide +kernel
theorem dX9_isDone_252 : decode cX9_isDone 252 = .ok (.iconst 0, 1) := by decide +kernel
theorem dX9_isDone_253 : decode cX9_isDone 253 = .ok (.ireturn, 1) := by decide +kernel
theorem dX9_isDone_254 : decode cX9_isDone 254 = .ok (.aload_n 0, 1) := by decide +kernel
theorem dX9_isDone_255 : decode cX9_isDone 255 = .ok (.getfield 9, 3) := by decide +kernel
theorem dX9_isDone_258 : decode cX9_isDone 258 = .ok (.iload_n 2, 1) := by decide +kernel
theorem dX9_isDone_259 : decode cX9_isDone 259 = .ok (.invokestatic 126, 3) := by decide +kernel
theorem dX9_isDone_262 : decode cX9_isDone 262 = .ok (.iconst 1, 1) := by decide +kernel
theorem dX9_isDone_263 : decode cX9_isDone 263 = .ok (.ireturn, 1) := by decide +kernel
theorem dX9_town_0 : decode cX9_town 0 = .ok (.aload_n 0, 1) := by decide +kernel
theorem dX9_town_1 : decode cX9_town 1 = .ok (.iconst 0, 1) := by decide +kernel
theorem dX9_town_2 : decode cX9_town 2 = .ok (.putfield 95, 3) := by decide +kernel
theorem dX9_town_5 : decode cX9_town 5 = .ok (.iconst 0, 1) := by decide +kernel
theorem dX9_town_6 : decode cX9_town 6 = .ok (.istore_n 1, 1) := by decide +kernel
theorem dX9_town_7 : decode cX9_town 7 = .ok (.bipush (-9), 2) := by decide +kernel
theorem dX9_town_9 : decode cX9_town 9 = .ok (.istore_n 2, 1) := by decide +kernel
theorem dX9_town_10 : decode cX9_town 10 = .ok (.aload_n 0, 1) := by decide +kernel
theorem dX9_town_11 : decode cX9_town 11 = .ok (.invokevirtual 130, 3) := by decide +kernel
theorem dX9_town_14 : decode cX9_town 14 = .ok (.ifCond .ne 12, 3) := by decide +kernel
theorem dX9_town_17 : decode cX9_town 17 = .ok (.sipush (-1000), 3) := by decide +kernel
theorem dX9_town_20 : decode cX9_town 20 = .ok (.aload_n 0, 1) := by decide +kernel
theorem dX9_town_21 : decode cX9_town 21 = .ok (.getfield 95, 3) := by decide +kernel
theorem dX9_town_24 : decode cX9_town 24 = .ok (.isub, 1) := by decide +kernel
theorem dX9_town_25 : decode cX9_town 25 = .ok (.istore_n 2, 1) := by decide +kernel
theorem dX9_town_26 : decode cX9_town 26 = .ok (.iinc 1 1, 3) := by decide +kernel
theorem dX9_town_29 : decode cX9_town 29 = .ok (.iload_n 2, 1) := by decide +kernel
theorem dX9_town_30 : decode cX9_town 30 = .ok (.bipush (-9), 2) := by decide +kernel
theorem dX9_town_32 : decode cX9_town 32 = .ok (.if_icmp .ne 14, 3) := by decide +kernel
theorem dX9_town_35 : decode cX9_town 35 = .ok (.aload_n 0, 1) := by decide +kernel
theorem dX9_town_36 : decode cX9_town 36 = .ok (.getfield 95, 3) := by decide +kernel
theorem dX9_town_39 : decode cX9_town 39 = .ok (.aload_n 0, 1) := by decide +kernel
theorem dX9_town_40 : decode cX9_town 40 = .ok (.getfield 91, 3) := by decide +kernel
theorem dX9_town_43 : decode cX9_town 43 = .ok (.if_icmp .lt (-33), 3) := by decide +kernel
theorem dX9_town_46 : decode cX9_town 46 = .ok (.aload_n 0, 1) := by decide +kernel
theorem dX9_town_47 : decode cX9_town 47 = .ok (.getfield 9, 3) := by decide +kernel
theorem dX9_town_50 : decode cX9_town 50 = .ok (.aload_n 0, 1) := by decide +kernel
theorem dX9_town_51 : decode cX9_town 51 = .ok (.getfield 19, 3) := by decide +kernel
theorem dX9_town_54 : decode cX9_town 54 = .ok (.invokestatic 133, 3) := by decide +kernel
theorem dX9_town_57 : decode cX9_town 57 = .ok (.aload_n 0, 1) := by decide +kernel
theorem dX9_town_58 : decode cX9_town 58 = .ok (.iconst 0, 1) := by decide +kernel
theorem dX9_town_59 : decode cX9_town 59 = .ok (.putfield 95, 3) := by decide +kernel
theorem dX9_town_62 : decode cX9_town 62 = .ok (.iload_n 2, 1) := by decide +kernel
theorem dX9_town_63 : decode cX9_town 63 = .ok (.bipush (-9), 2) := by decide +kernel
theorem dX9_town_65 : decode cX9_town 65 = .ok (.if_icmp .ne 63, 3) := by decide +kernel
theorem dX9_town_68 : decode cX9_town 68 = .ok (.aload_n 0, 1) := by decide +kernel
theorem dX9_town_69 : decode cX9_town 69 = .ok (.getfield 95, 3) := by decide +kernel
theorem dX9_town_72 : decode cX9_town 72 = .ok (.aload_n 0, 1) := by decide +kernel
theorem dX9_town_73 : decode cX9_town 73 = .ok (.getfield 91, 3) := by decide +kernel
theorem dX9_town_76 : decode cX9_town 76 = .ok (.if_icmp .ge 52, 3) := by decide +kernel
theorem dX9_town_79 : decode cX9_town 79 = .ok (.aload_n 0, 1) := by decide +kernel
theorem dX9_town_80 : decode cX9_town 80 = .ok (.getfield 95, 3) := by decide +kernel
theorem dX9_town_83 : decode cX9_town 83 = .ok (.istore_n 3, 1) := by decide +kernel
theorem dX9_town_84 : decode cX9_town 84 = .ok (.aload_n 0, 1) := by decide +kernel
theorem dX9_town_85 : decode cX9_town 85 = .ok (.invokevirtual 98, 3) := by decide +kernel
theorem dX9_town_88 : decode cX9_town 88 = .ok (.istore 4, 2) := by decide +kernel
theorem dX9_town_90 : decode cX9_town 90 = .ok (.aload_n 0, 1) := by decide +kernel
theorem dX9_town_91 : decode cX9_town 91 = .ok (.invokevirtual 130, 3) := by decide +kernel
theorem dX9_town_94 : decode cX9_town 94 = .ok (.istore 5, 2) := by decide +kernel
theorem dX9_town_96 : decode cX9_town 96 = .ok (.aload_n 0, 1) := by decide +kernel
theorem dX9_town_97 : decode cX9_town 97 = .ok (.iload 4, 2) := by decide +kernel
theorem dX9_town_99 : decode cX9_town 99 = .ok (.invokevirtual 137, 3) := by decide +kernel
theorem dX9_town_102 : decode cX9_town 102 = .ok (.ifCond .eq 6, 3) := by decide +kernel
theorem dX9_town_105 : decode cX9_town 105 = .ok (.goto (-43), 3) := by decide +kernel
theorem dX9_town_108 : decode cX9_town 108 = .ok (.sipush (-2000), 3) := by decide +kernel
theorem dX9_town_111 : decode cX9_town 111 = .ok (.iload_n 3, 1) := by decide +kernel
theorem dX9_town_112 : decode cX9_town 112 = .ok (.isub, 1) := by decide +kernel
theorem dX9_town_113 : decode cX9_town 113 = .ok (.istore_n 2, 1) := by decide +kernel
theorem dX9_town_114 : decode cX9_town 114 = .ok (.aload_n 0, 1) := by decide +kernel
theorem dX9_town_115 : decode cX9_town 115 = .ok (.getfield 19, 3) := by decide +kernel
theorem dX9_town_118 : decode cX9_town 118 = .ok (.aload_n 0, 1) := by decide +kernel
theorem dX9_town_119 : decode cX9_town 119 = .ok (.getfield 9, 3) := by decide +kernel
theorem dX9_town_122 : decode cX9_town 122 = .ok (.invokestatic 133, 3) := by decide +kernel
theorem dX9_town_125 : decode cX9_town 125 = .ok (.goto (-63), 3) := by decide +kernel
theorem dX9_town_128 : decode cX9_town 128 = .ok (.aload_n 0, 1) := by decide +kernel
theorem dX9_town_129 : decode cX9_town 129 = .ok (.iconst 0, 1) := by decide +kernel
theorem dX9_town_130 : decode cX9_town 130 = .ok (.putfield 91, 3) := by decide +kernel
theorem dX9_town_133 : decode cX9_town 133 = .ok (.iload_n 2, 1) := by decide +kernel
theorem dX9_town_134 : decode cX9_town 134 = .ok (.bipush (-9), 2) := by decide +kernel
theorem dX9_town_136 : decode cX9_town 136 = .ok (.if_icmp .ne 7, 3) := by decide +kernel
theorem dX9_town_139 : decode cX9_town 139 = .ok (.iload_n 1, 1) := by decide +kernel
theorem dX9_town_140 : decode cX9_town 140 = .ok (.goto 4, 3) := by decide +kernel
theorem dX9_town_143 : decode cX9_town 143 = .ok (.iload_n 2, 1) := by decide +kernel
theorem dX9_town_144 : decode cX9_town 144 = .ok (.ireturn, 1) := by decide +kernel
theorem dX9_person_0 : decode cX9_person 0 = .ok (.aload_n 0, 1) := by decide +kernel
theorem dX9_person_1 : decode cX9_person 1 = .ok (.iload_n 1, 1) := by decide +kernel
theorem dX9_person_2 : decode cX9_person 2 = .ok (.invokevirtual 48, 3) := by decide +kernel
theorem dX9_person_5 : decode cX9_person 5 = .ok (.ifCond .ne 9, 3) := by decide +kernel
theorem dX9_person_8 : decode cX9_person 8 = .ok (.aload_n 0, 1) := by decide +kernel
theorem dX9_person_9 : decode cX9_person 9 = .ok (.iconst (-1), 1) := by decide +kernel
theorem dX9_person_10 : decode cX9_person 10 = .ok (.invokevirtual 38, 3) := by decide +kernel
theorem dX9_person_13 : decode cX9_person 13 = .ok (.ireturn, 1) := by decide +kernel
theorem dX9_person_14 : decode cX9_person 14 = .ok (.iload_n 2, 1) := by decide +kernel
theorem dX9_person_15 : decode cX9_person 15 = .ok (.iconst 0, 1) := by decide +kernel
theorem dX9_person_16 : decode cX9_person 16 = .ok (.iconst 3, 1) := by decide +kernel
theorem dX9_person_17 : decode cX9_person 17 = .ok (.invokestatic 44, 3) := by decide +kernel
theorem dX9_person_20 : decode cX9_person 20 = .ok (.ifCond .eq 16, 3) := by decide +kernel
theorem dX9_person_23 : decode cX9_person 23 = .ok (.aload_n 0, 1) := by decide +kernel
theorem dX9_person_24 : decode cX9_person 24 = .ok (.getfield 9, 3) := by decide +kernel
theorem dX9_person_27 : decode cX9_person 27 = .ok (.iload_n 1, 1) := by decide +kernel
theorem dX9_person_28 : decode cX9_person 28 = .ok (.iload_n 2, 1) := by decide +kernel
theorem dX9_person_29 : decode cX9_person 29 = .ok (.invokestatic 52, 3) := by decide +kernel
theorem dX9_person_32 : decode cX9_person 32 = .ok (.iaload, 1) := by decide +kernel
theorem dX9_person_33 : decode cX9_person 33 = .ok (.goto 9, 3) := by decide +kernel
theorem dX9_person_36 : decode cX9_person 36 = .ok (.aload_n 0, 1) := by decide +kernel
theorem dX9_person_37 : decode cX9_person 37 = .ok (.bipush (-2), 2) := by decide +kernel
theorem dX9_person_39 : decode cX9_person 39 = .ok (.invokevirtual 38, 3) := by decide +kernel
theorem dX9_person_42 : decode cX9_person 42 = .ok (.ireturn, 1) := by decide +kernel
theorem dX9_faceIn_0 : decode cX9_faceIn 0 = .ok (.iload_n 2, 1) := by decide +kernel
theorem dX9_faceIn_1 : decode cX9_faceIn 1 = .ok (.iconst 3, 1) := by decide +kernel
theorem dX9_faceIn_2 : decode cX9_faceIn 2 = .ok (.if_icmp .ne 11, 3) := by decide +kernel
theorem dX9_faceIn_5 : decode cX9_faceIn 5 = .ok (.aload_n 0, 1) := by decide +kernel
theorem dX9_faceIn_6 : decode cX9_faceIn 6 = .ok (.iload_n 1, 1) := by decide +kernel
theorem dX9_faceIn_7 : decode cX9_faceIn 7 = .ok (.invokestatic 68, 3) := by decide +kernel
theorem dX9_faceIn_10 : decode cX9_faceIn 10 = .ok (.goto 12, 3) := by decide +kernel
theorem dX9_faceIn_13 : decode cX9_faceIn 13 = .ok (.aload_n 0, 1) := by decide +kernel
theorem dX9_faceIn_14 : decode cX9_faceIn 14 = .ok (.iload_n 1, 1) := by decide +kernel
theorem dX9_faceIn_15 : decode cX9_faceIn 15 = .ok (.iconst 4, 1) := by decide +kernel
theorem dX9_faceIn_16 : decode cX9_faceIn 16 = .ok (.iload_n 2, 1) := by decide +kernel
theorem dX9_faceIn_17 : decode cX9_faceIn 17 = .ok (.iadd, 1) := by decide +kernel
theorem dX9_faceIn_18 : decode cX9_faceIn 18 = .ok (.invokestatic 52, 3) := by decide +kernel
theorem dX9_faceIn_21 : decode cX9_faceIn 21 = .ok (.iaload, 1) := by decide +kernel
theorem dX9_faceIn_22 : decode cX9_faceIn 22 = .ok (.ireturn, 1) := by decide +kernel
theorem dX9_face_0 : decode cX9_face 0 = .ok (.aload_n 0, 1) := by decide +kernel
theorem dX9_face_1 : decode cX9_face 1 = .ok (.iload_n 1, 1) := by decide +kernel
theorem dX9_face_2 : decode cX9_face 2 = .ok (.invokevirtual 48, 3) := by decide +kernel
theorem dX9_face_5 : decode cX9_face 5 = .ok (.ifCond .ne 9, 3) := by decide +kernel
theorem dX9_face_8 : decode cX9_face 8 = .ok (.aload_n 0, 1) := by decide +kernel
theorem dX9_face_9 : decode cX9_face 9 = .ok (.iconst (-1), 1) := by decide +kernel
theorem dX9_face_10 : decode cX9_face 10 = .ok (.invokevirtual 38, 3) := by decide +kernel
theorem dX9_face_13 : decode cX9_face 13 = .ok (.ireturn, 1) := by decide +kernel
theorem dX9_face_14 : decode cX9_face 14 = .ok (.iload_n 2, 1) := by decide +kernel
theorem dX9_face_15 : decode cX9_face 15 = .ok (.iconst 0, 1) := by decide +kernel
theorem dX9_face_16 : decode cX9_face 16 = .ok (.iconst 3, 1) := by decide +kernel
theorem dX9_face_17 : decode cX9_face 17 = .ok (.invokestatic 44, 3) := by decide +kernel
theorem dX9_face_20 : decode cX9_face 20 = .ok (.ifCond .eq 15, 3) := by decide +kernel
theorem dX9_face_23 : decode cX9_face 23 = .ok (.aload_n 0, 1) := by decide +kernel
theorem dX9_face_24 : decode cX9_face 24 = .ok (.getfield 9, 3) := by decide +kernel
theorem dX9_face_27 : decode cX9_face 27 = .ok (.iload_n 1, 1) := by decide +kernel
theorem dX9_face_28 : decode cX9_face 28 = .ok (.iload_n 2, 1) := by decide +kernel
theorem dX9_face_29 : decode cX9_face 29 = .ok (.invokestatic 140, 3) := by decide +kernel
theorem dX9_face_32 : decode cX9_face 32 = .ok (.goto 9, 3) := by decide +kernel
theorem dX9_face_35 : decode cX9_face 35 = .ok (.aload_n 0, 1) := by decide +kernel
theorem dX9_face_36 : decode cX9_face 36 = .ok (.bipush (-2), 2) := by decide +kernel
theorem dX9_face_38 : decode cX9_face 38 = .ok (.invokevirtual 38, 3) := by decide +kernel
theorem dX9_face_41 : decode cX9_face 41 = .ok (.ireturn, 1) := by decide +kernel
theorem dX9_worth_0 : decode cX9_worth 0 = .ok (.aload_n 0, 1) := by decide +kernel
theorem dX9_worth_1 : decode cX9_worth 1 = .ok (.iload_n 1, 1) := by decide +kernel
theorem dX9_worth_2 : decode cX9_worth 2 = .ok (.invokevirtual 48, 3) := by decide +kernel
theorem dX9_worth_5 : decode cX9_worth 5 = .ok (.ifCond .eq 14, 3) := by decide +kernel
theorem dX9_worth_8 : decode cX9_worth 8 = .ok (.aload_n 0, 1) := by decide +kernel
theorem dX9_worth_9 : decode cX9_worth 9 = .ok (.getfield 9, 3) := by decide +kernel
theorem dX9_worth_12 : decode cX9_worth 12 = .ok (.iload_n 1, 1) := by decide +kernel
theorem dX9_worth_13 : decode cX9_worth 13 = .ok (.invokestatic 88, 3) := by decide +kernel
theorem dX9_worth_16 : decode cX9_worth 16 = .ok (.goto 8, 3) := by decide +kernel
theorem dX9_worth_19 : decode cX9_worth 19 = .ok (.aload_n 0, 1) := by decide +kernel
theorem dX9_worth_20 : decode cX9_worth 20 = .ok (.iconst (-1), 1) := by decide +kernel
theorem dX9_worth_21 : decode cX9_worth 21 = .ok (.invokevirtual 143, 3) := by decide +kernel
theorem dX9_worth_24 : decode cX9_worth 24 = .ok (.ireturn, 1) := by decide +kernel
theorem dX9_lends_0 : decode cX9_lends 0 = .ok (.aload_n 0, 1) := by decide +kernel
theorem dX9_lends_1 : decode cX9_lends 1 = .ok (.iload_n 1, 1) := by decide +kernel
theorem dX9_lends_2 : decode cX9_lends 2 = .ok (.iload_n 2, 1) := by decide +kernel
theorem dX9_lends_3 : decode cX9_lends 3 = .ok (.invokevirtual 115, 3) := by decide +kernel
theorem dX9_lends_6 : decode cX9_lends 6 = .ok (.ifCond .ne 9, 3) := by decide +kernel
theorem dX9_lends_9 : decode cX9_lends 9 = .ok (.aload_n 0, 1) := by decide +kernel
theorem dX9_lends_10 : decode cX9_lends 10 = .ok (.iconst (-1), 1) := by decide +kernel
theorem dX9_lends_11 : decode cX9_lends 11 = .ok (.invokevirtual 38, 3) := by decide +kernel
theorem dX9_lends_14 : decode cX9_lends 14 = .ok (.ireturn, 1) := by decide +kernel
theorem dX9_lends_15 : decode cX9_lends 15 = .ok (.aload_n 0, 1) := by decide +kernel
theorem dX9_lends_16 : decode cX9_lends 16 = .ok (.getfield 9, 3) := by decide +kernel
theorem dX9_lends_19 : decode cX9_lends 19 = .ok (.iload_n 1, 1) := by decide +kernel
theorem dX9_lends_20 : decode cX9_lends 20 = .ok (.iload_n 2, 1) := by decide +kernel
theorem dX9_lends_21 : decode cX9_lends 21 = .ok (.invokestatic 118, 3) := by decide +kernel
theorem dX9_lends_24 : decode cX9_lends 24 = .ok (.ifCond .ne 10, 3) := by decide +kernel
theorem dX9_lends_27 : decode cX9_lends 27 = .ok (.aload_n 0, 1) := by decide +kernel
theorem dX9_lends_28 : decode cX9_lends 28 = .ok (.bipush (-3), 2) := by decide +kernel
theorem dX9_lends_30 : decode cX9_lends 30 = .ok (.invokevirtual 38, 3) := by decide +kernel
theorem dX9_lends_33 : decode cX9_lends 33 = .ok (.ireturn, 1) := by decide +kernel
theorem dX9_lends_34 : decode cX9_lends 34 = .ok (.aload_n 0, 1) := by decide +kernel
theorem dX9_lends_35 : decode cX9_lends 35 = .ok (.getfield 9, 3) := by decide +kernel
theorem dX9_lends_38 : decode cX9_lends 38 = .ok (.iload_n 1, 1) := by decide +kernel
theorem dX9_lends_39 : decode cX9_lends 39 = .ok (.iload_n 2, 1) := by decide +kernel
theorem dX9_lends_40 : decode cX9_lends 40 = .ok (.invokestatic 122, 3) := by decide +kernel
theorem dX9_lends_43 : decode cX9_lends 43 = .ok (.aload_n 0, 1) := by decide +kernel
theorem dX9_lends_44 : decode cX9_lends 44 = .ok (.getfield 9, 3) := by decide +kernel
theorem dX9_lends_47 : decode cX9_lends 47 = .ok (.invokestatic 146, 3) := by decide +kernel
theorem dX9_lends_50 : decode cX9_lends 50 = .ok (.ireturn, 1) := by decide +kernel
theorem dX9_back_0 : decode cX9_back 0 = .ok (.aload_n 0, 1) := by decide +kernel
theorem dX9_back_1 : decode cX9_back 1 = .ok (.iload_n 1, 1) := by decide +kernel
theorem dX9_back_2 : decode cX9_back 2 = .ok (.invokevirtual 48, 3) := by decide +kernel
theorem dX9_back_5 : decode cX9_back 5 = .ok (.ifCond .ne 9, 3) := by decide +kernel
theorem dX9_back_8 : decode cX9_back 8 = .ok (.aload_n 0, 1) := by decide +kernel
theorem dX9_back_9 : decode cX9_back 9 = .ok (.iconst (-1), 1) := by decide +kernel
theorem dX9_back_10 : decode cX9_back 10 = .ok (.invokevirtual 38, 3) := by decide +kernel
theorem dX9_back_13 : decode cX9_back 13 = .ok (.ireturn, 1) := by decide +kernel
theorem dX9_back_14 : decode cX9_back 14 = .ok (.aload_n 0, 1) := by decide +kernel
theorem dX9_back_15 : decode cX9_back 15 = .ok (.getfield 9, 3) := by decide +kernel
theorem dX9_back_18 : decode cX9_back 18 = .ok (.iload_n 1, 1) := by decide +kernel
theorem dX9_back_19 : decode cX9_back 19 = .ok (.bipush 6, 2) := by decide +kernel
theorem dX9_back_21 : decode cX9_back 21 = .ok (.invokestatic 52, 3) := by decide +kernel
theorem dX9_back_24 : decode cX9_back 24 = .ok (.iaload, 1) := by decide +kernel
theorem dX9_back_25 : decode cX9_back 25 = .ok (.ifCond .ne 12, 3) := by decide +kernel
theorem dX9_back_28 : decode cX9_back 28 = .ok (.aload_n 0, 1) := by decide +kernel
theorem dX9_back_29 : decode cX9_back 29 = .ok (.bipush (-3), 2) := by decide +kernel
theorem dX9_back_31 : decode cX9_back 31 = .ok (.invokevirtual 38, 3) := by decide +kernel
theorem dX9_back_34 : decode cX9_back 34 = .ok (.goto 11, 3) := by decide +kernel
theorem dX9_back_37 : decode cX9_back 37 = .ok (.aload_n 0, 1) := by decide +kernel
theorem dX9_back_38 : decode cX9_back 38 = .ok (.getfield 9, 3) := by decide +kernel
theorem dX9_back_41 : decode cX9_back 41 = .ok (.iload_n 1, 1) := by decide +kernel
theorem dX9_back_42 : decode cX9_back 42 = .ok (.invokestatic 81, 3) := by decide +kernel
theorem dX9_back_45 : decode cX9_back 45 = .ok (.ireturn, 1) := by decide +kernel
theorem dX9_learns_0 : decode cX9_learns 0 = .ok (.aload_n 0, 1) := by decide +kernel
theorem dX9_learns_1 : decode cX9_learns 1 = .ok (.iload_n 1, 1) := by decide +kernel
theorem dX9_learns_2 : decode cX9_learns 2 = .ok (.invokevirtual 48, 3) := by decide +kernel
theorem dX9_learns_5 : decode cX9_learns 5 = .ok (.ifCond .eq 11, 3) := by decide +kernel
theorem dX9_learns_8 : decode cX9_learns 8 = .ok (.aload_n 0, 1) := by decide +kernel
theorem dX9_learns_9 : decode cX9_learns 9 = .ok (.iload_n 2, 1) := by decide +kernel
theorem dX9_learns_10 : decode cX9_learns 10 = .ok (.invokevirtual 48, 3) := by decide +kernel
theorem dX9_learns_13 : decode cX9_learns 13 = .ok (.ifCond .ne 9, 3) := by decide +kernel
theorem dX9_learns_16 : decode cX9_learns 16 = .ok (.aload_n 0, 1) := by decide +kernel
theorem dX9_learns_17 : decode cX9_learns 17 = .ok (.iconst (-1), 1) := by decide +kernel
theorem dX9_learns_18 : decode cX9_learns 18 = .ok (.invokevirtual 38, 3) := by decide +kernel
theorem dX9_learns_21 : decode cX9_learns 21 = .ok (.ireturn, 1) := by decide +kernel
theorem dX9_learns_22 : decode cX9_learns 22 = .ok (.aload_n 0, 1) := by decide +kernel
theorem dX9_learns_23 : decode cX9_learns 23 = .ok (.getfield 9, 3) := by decide +kernel
theorem dX9_learns_26 : decode cX9_learns 26 = .ok (.iload_n 1, 1) := by decide +kernel
theorem dX9_learns_27 : decode cX9_learns 27 = .ok (.iconst 2, 1) := by decide +kernel
theorem dX9_learns_28 : decode cX9_learns 28 = .ok (.invokestatic 52, 3) := by decide +kernel
theorem dX9_learns_31 : decode cX9_learns 31 = .ok (.dup2, 1) := by decide +kernel
theorem dX9_learns_32 : decode cX9_learns 32 = .ok (.iaload, 1) := by decide +kernel
theorem dX9_learns_33 : decode cX9_learns 33 = .ok (.iconst 1, 1) := by decide +kernel
theorem dX9_learns_34 : decode cX9_learns 34 = .ok (.iload_n 2, 1) := by decide +kernel
theorem dX9_learns_35 : decode cX9_learns 35 = .ok (.ishl, 1) := by decide +kernel
theorem dX9_learns_36 : decode cX9_learns 36 = .ok (.ixor, 1) := by decide +kernel
theorem dX9_learns_37 : decode cX9_learns 37 = .ok (.iastore, 1) := by decide +kernel
theorem dX9_learns_38 : decode cX9_learns 38 = .ok (.aload_n 0, 1) := by decide +kernel
theorem dX9_learns_39 : decode cX9_learns 39 = .ok (.getfield 9, 3) := by decide +kernel
theorem dX9_learns_42 : decode cX9_learns 42 = .ok (.iload_n 1, 1) := by decide +kernel
theorem dX9_learns_43 : decode cX9_learns 43 = .ok (.iconst 2, 1) := by decide +kernel
theorem dX9_learns_44 : decode cX9_learns 44 = .ok (.invokestatic 52, 3) := by decide +kernel
theorem dX9_learns_47 : decode cX9_learns 47 = .ok (.iaload, 1) := by decide +kernel
theorem dX9_learns_48 : decode cX9_learns 48 = .ok (.iload_n 2, 1) := by decide +kernel
theorem dX9_learns_49 : decode cX9_learns 49 = .ok (.ishr, 1) := by decide +kernel
theorem dX9_learns_50 : decode cX9_learns 50 = .ok (.iconst 1, 1) := by decide +kernel
theorem dX9_learns_51 : decode cX9_learns 51 = .ok (.iand, 1) := by decide +kernel
theorem dX9_learns_52 : decode cX9_learns 52 = .ok (.ireturn, 1) := by decide +kernel
theorem dX9_wrongBy_0 : decode cX9_wrongBy 0 = .ok (.iload_n 0, 1) := by decide +kernel
theorem dX9_wrongBy_1 : decode cX9_wrongBy 1 = .ok (.ifCond .ge 8, 3) := by decide +kernel
theorem dX9_wrongBy_4 : decode cX9_wrongBy 4 = .ok (.bipush (-4), 2) := by decide +kernel
theorem dX9_wrongBy_6 : decode cX9_wrongBy 6 = .ok (.goto 14, 3) := by decide +kernel
theorem dX9_wrongBy_9 : decode cX9_wrongBy 9 = .ok (.iload_n 0, 1) := by decide +kernel
theorem dX9_wrongBy_10 : decode cX9_wrongBy 10 = .ok (.iload_n 1, 1) := by decide +kernel
theorem dX9_wrongBy_11 : decode cX9_wrongBy 11 = .ok (.if_icmp .le 8, 3) := by decide +kernel
theorem dX9_wrongBy_14 : decode cX9_wrongBy 14 = .ok (.bipush (-6), 2) := by decide +kernel
theorem dX9_wrongBy_16 : decode cX9_wrongBy 16 = .ok (.goto 4, 3) := by decide +kernel
theorem dX9_wrongBy_19 : decode cX9_wrongBy 19 = .ok (.iconst 0, 1) := by decide +kernel
theorem dX9_wrongBy_20 : decode cX9_wrongBy 20 = .ok (.ireturn, 1) := by decide +kernel
theorem dX9_becomes_0 : decode cX9_becomes 0 = .ok (.aload_n 0, 1) := by decide +kernel
theorem dX9_becomes_1 : decode cX9_becomes 1 = .ok (.iload_n 1, 1) := by decide +kernel
theorem dX9_becomes_2 : decode cX9_becomes 2 = .ok (.invokevirtual 48, 3) := by decide +kernel
theorem dX9_becomes_5 : decode cX9_becomes 5 = .ok (.ifCond .ne 7, 3) := by decide +kernel
theorem dX9_becomes_8 : decode cX9_becomes 8 = .ok (.iconst (-1), 1) := by decide +kernel
theorem dX9_becomes_9 : decode cX9_becomes 9 = .ok (.goto 23, 3) := by decide +kernel
theorem dX9_becomes_12 : decode cX9_becomes 12 = .ok (.iload_n 2, 1) := by decide +kernel
theorem dX9_becomes_13 : decode cX9_becomes 13 = .ok (.iconst 0, 1) := by decide +kernel
theorem dX9_becomes_14 : decode cX9_becomes 14 = .ok (.iconst 1, 1) := by decide +kernel
theorem dX9_becomes_15 : decode cX9_becomes 15 = .ok (.invokestatic 44, 3) := by decide +kernel
theorem dX9_becomes_18 : decode cX9_becomes 18 = .ok (.ifCond .eq 12, 3) := by decide +kernel
theorem dX9_becomes_21 : decode cX9_becomes 21 = .ok (.iload_n 3, 1) := by decide +kernel
theorem dX9_becomes_22 : decode cX9_becomes 22 = .ok (.bipush 99, 2) := by decide +kernel
theorem dX9_becomes_24 : decode cX9_becomes 24 = .ok (.invokestatic 150, 3) := by decide +kernel
theorem dX9_becomes_27 : decode cX9_becomes 27 = .ok (.goto 5, 3) := by decide +kernel
theorem dX9_becomes_30 : decode cX9_becomes 30 = .ok (.bipush (-2), 2) := by decide +kernel
theorem dX9_becomes_32 : decode cX9_becomes 32 = .ok (.istore 4, 2) := by decide +kernel
theorem dX9_becomes_34 : decode cX9_becomes 34 = .ok (.iload 4, 2) := by decide +kernel
theorem dX9_becomes_36 : decode cX9_becomes 36 = .ok (.ifCond .eq 10, 3) := by decide +kernel
theorem dX9_becomes_39 : decode cX9_becomes 39 = .ok (.aload_n 0, 1) := by decide +kernel
theorem dX9_becomes_40 : decode cX9_becomes 40 = .ok (.iload 4, 2) := by decide +kernel
theorem dX9_becomes_42 : decode cX9_becomes 42 = .ok (.invokevirtual 38, 3) := by decide +kernel
theorem dX9_becomes_45 : decode cX9_becomes 45 = .ok (.ireturn, 1) := by decide +kernel
theorem dX9_becomes_46 : decode cX9_becomes 46 = .ok (.aload_n 0, 1) := by decide +kernel
theorem dX9_becomes_47 : decode cX9_becomes 47 = .ok (.getfield 9, 3) := by decide +kernel
theorem dX9_becomes_50 : decode cX9_becomes 50 = .ok (.iload_n 1, 1) := by decide +kernel
theorem dX9_becomes_51 : decode cX9_becomes 51 = .ok (.iconst 4, 1) := by decide +kernel
theorem dX9_becomes_52 : decode cX9_becomes 52 = .ok (.iload_n 2, 1) := by decide +kernel
theorem dX9_becomes_53 : decode cX9_becomes 53 = .ok (.iadd, 1) := by decide +kernel
theorem dX9_becomes_54 : decode cX9_becomes 54 = .ok (.invokestatic 52, 3) := by decide +kernel
theorem dX9_becomes_57 : decode cX9_becomes 57 = .ok (.iaload, 1) := by decide +kernel
theorem dX9_becomes_58 : decode cX9_becomes 58 = .ok (.istore 5, 2) := by decide +kernel
theorem dX9_becomes_60 : decode cX9_becomes 60 = .ok (.aload_n 0, 1) := by decide +kernel
theorem dX9_becomes_61 : decode cX9_becomes 61 = .ok (.getfield 9, 3) := by decide +kernel
theorem dX9_becomes_64 : decode cX9_becomes 64 = .ok (.iload_n 1, 1) := by decide +kernel
theorem dX9_becomes_65 : decode cX9_becomes 65 = .ok (.iconst 4, 1) := by decide +kernel
theorem dX9_becomes_66 : decode cX9_becomes 66 = .ok (.iload_n 2, 1) := by decide +kernel
theorem dX9_becomes_67 : decode cX9_becomes 67 = .ok (.iadd, 1) := by decide +kernel
theorem dX9_becomes_68 : decode cX9_becomes 68 = .ok (.invokestatic 52, 3) := by decide +kernel
theorem dX9_becomes_71 : decode cX9_becomes 71 = .ok (.iload_n 3, 1) := by decide +kernel
theorem dX9_becomes_72 : decode cX9_becomes 72 = .ok (.iastore, 1) := by decide +kernel
theorem dX9_becomes_73 : decode cX9_becomes 73 = .ok (.iload 5, 2) := by decide +kernel
theorem dX9_becomes_75 : decode cX9_becomes 75 = .ok (.ireturn, 1) := by decide +kernel
theorem dX9_turn_0 : decode cX9_turn 0 = .ok (.aload_n 0, 1) := by decide +kernel
theorem dX9_turn_1 : decode cX9_turn 1 = .ok (.iload_n 1, 1) := by decide +kernel
theorem dX9_turn_2 : decode cX9_turn 2 = .ok (.invokevirtual 48, 3) := by decide +kernel
theorem dX9_turn_5 : decode cX9_turn 5 = .ok (.ifCond .ne 7, 3) := by decide +kernel
theorem dX9_turn_8 : decode cX9_turn 8 = .ok (.iconst (-1), 1) := by decide +kernel
theorem dX9_turn_9 : decode cX9_turn 9 = .ok (.goto 23, 3) := by decide +kernel
theorem dX9_turn_12 : decode cX9_turn 12 = .ok (.iload_n 2, 1) := by decide +kernel
theorem dX9_turn_13 : decode cX9_turn 13 = .ok (.iconst 0, 1) := by decide +kernel
theorem dX9_turn_14 : decode cX9_turn 14 = .ok (.iconst 5, 1) := by decide +kernel
theorem dX9_turn_15 : decode cX9_turn 15 = .ok (.invokestatic 44, 3) := by decide +kernel
theorem dX9_turn_18 : decode cX9_turn 18 = .ok (.ifCond .ne 8, 3) := by decide +kernel
theorem dX9_turn_21 : decode cX9_turn 21 = .ok (.bipush (-2), 2) := by decide +kernel
theorem dX9_turn_23 : decode cX9_turn 23 = .ok (.goto 9, 3) := by decide +kernel
theorem dX9_turn_26 : decode cX9_turn 26 = .ok (.iload_n 3, 1) := by decide +kernel
theorem dX9_turn_27 : decode cX9_turn 27 = .ok (.bipush 9, 2) := by decide +kernel
theorem dX9_turn_29 : decode cX9_turn 29 = .ok (.invokestatic 150, 3) := by decide +kernel
theorem dX9_turn_32 : decode cX9_turn 32 = .ok (.istore 4, 2) := by decide +kernel
theorem dX9_turn_34 : decode cX9_turn 34 = .ok (.iload 4, 2) := by decide +kernel
theorem dX9_turn_36 : decode cX9_turn 36 = .ok (.ifCond .eq 10, 3) := by decide +kernel
theorem dX9_turn_39 : decode cX9_turn 39 = .ok (.aload_n 0, 1) := by decide +kernel
theorem dX9_turn_40 : decode cX9_turn 40 = .ok (.iload 4, 2) := by decide +kernel
theorem dX9_turn_42 : decode cX9_turn 42 = .ok (.invokevirtual 38, 3) := by decide +kernel
theorem dX9_turn_45 : decode cX9_turn 45 = .ok (.ireturn, 1) := by decide +kernel
theorem dX9_turn_46 : decode cX9_turn 46 = .ok (.bipush 10, 2) := by decide +kernel
theorem dX9_turn_48 : decode cX9_turn 48 = .ok (.aload_n 0, 1) := by decide +kernel
theorem dX9_turn_49 : decode cX9_turn 49 = .ok (.getfield 9, 3) := by decide +kernel
theorem dX9_turn_52 : decode cX9_turn 52 = .ok (.iload_n 1, 1) := by decide +kernel
theorem dX9_turn_53 : decode cX9_turn 53 = .ok (.iconst 0, 1) := by decide +kernel
theorem dX9_turn_54 : decode cX9_turn 54 = .ok (.invokestatic 52, 3) := by decide +kernel
theorem dX9_turn_57 : decode cX9_turn 57 = .ok (.iaload, 1) := by decide +kernel
theorem dX9_turn_58 : decode cX9_turn 58 = .ok (.imul, 1) := by decide +kernel
theorem dX9_turn_59 : decode cX9_turn 59 = .ok (.aload_n 0, 1) := by decide +kernel
theorem dX9_turn_60 : decode cX9_turn 60 = .ok (.getfield 9, 3) := by decide +kernel
theorem dX9_turn_63 : decode cX9_turn 63 = .ok (.iload_n 1, 1) := by decide +kernel
theorem dX9_turn_64 : decode cX9_turn 64 = .ok (.iconst 1, 1) := by decide +kernel
theorem dX9_turn_65 : decode cX9_turn 65 = .ok (.invokestatic 52, 3) := by decide +kernel
theorem dX9_turn_68 : decode cX9_turn 68 = .ok (.iaload, 1) := by decide +kernel
theorem dX9_turn_69 : decode cX9_turn 69 = .ok (.iadd, 1) := by decide +kernel
theorem dX9_turn_70 : decode cX9_turn 70 = .ok (.istore 5, 2) := by decide +kernel
theorem dX9_turn_72 : decode cX9_turn 72 = .ok (.aload_n 0, 1) := by decide +kernel
theorem dX9_turn_73 : decode cX9_turn 73 = .ok (.getfield 9, 3) := by decide +kernel
theorem dX9_turn_76 : decode cX9_turn 76 = .ok (.iload_n 1, 1) := by decide +kernel
theorem dX9_turn_77 : decode cX9_turn 77 = .ok (.iconst 0, 1) := by decide +kernel
theorem dX9_turn_78 : decode cX9_turn 78 = .ok (.invokestatic 52, 3) := by decide +kernel
theorem dX9_turn_81 : decode cX9_turn 81 = .ok (.iload_n 2, 1) := by decide +kernel
theorem dX9_turn_82 : decode cX9_turn 82 = .ok (.iastore, 1) := by decide +kernel
theorem dX9_turn_83 : decode cX9_turn 83 = .ok (.aload_n 0, 1) := by decide +kernel
theorem dX9_turn_84 : decode cX9_turn 84 = .ok (.getfield 9, 3) := by decide +kernel
theorem dX9_turn_87 : decode cX9_turn 87 = .ok (.iload_n 1, 1) := by decide +kernel
theorem dX9_turn_88 : decode cX9_turn 88 = .ok (.iconst 1, 1) := by decide +kernel
theorem dX9_turn_89 : decode cX9_turn 89 = .ok (.invokestatic 52, 3) := by decide +kernel
theorem dX9_turn_92 : decode cX9_turn 92 = .ok (.iload_n 3, 1) := by decide +kernel
theorem dX9_turn_93 : decode cX9_turn 93 = .ok (.iastore, 1) := by decide +kernel
theorem dX9_turn_94 : decode cX9_turn 94 = .ok (.iload 5, 2) := by decide +kernel
theorem dX9_turn_96 : decode cX9_turn 96 = .ok (.ireturn, 1) := by decide +kernel
theorem dX9_months_0 : decode cX9_months 0 = .ok (.iload_n 1, 1) := by decide +kernel
theorem dX9_months_1 : decode cX9_months 1 = .ok (.iconst 1, 1) := by decide +kernel
theorem dX9_months_2 : decode cX9_months 2 = .ok (.if_icmp .ge 10, 3) := by decide +kernel
theorem dX9_months_5 : decode cX9_months 5 = .ok (.aload_n 0, 1) := by decide +kernel
theorem dX9_months_6 : decode cX9_months 6 = .ok (.bipush (-4), 2) := by decide +kernel
theorem dX9_months_8 : decode cX9_months 8 = .ok (.invokevirtual 38, 3) := by decide +kernel
theorem dX9_months_11 : decode cX9_months 11 = .ok (.ireturn, 1) := by decide +kernel
theorem dX9_months_12 : decode cX9_months 12 = .ok (.iload_n 1, 1) := by decide +kernel
theorem dX9_months_13 : decode cX9_months 13 = .ok (.bipush 60, 2) := by decide +kernel
theorem dX9_months_15 : decode cX9_months 15 = .ok (.if_icmp .gt 17, 3) := by decide +kernel
theorem dX9_months_18 : decode cX9_months 18 = .ok (.aload_n 0, 1) := by decide +kernel
theorem dX9_months_19 : decode cX9_months 19 = .ok (.getfield 9, 3) := by decide +kernel
theorem dX9_months_22 : decode cX9_months 22 = .ok (.iconst 1, 1) := by decide +kernel
theorem dX9_months_23 : decode cX9_months 23 = .ok (.iaload, 1) := by decide +kernel
theorem dX9_months_24 : decode cX9_months 24 = .ok (.iload_n 1, 1) := by decide +kernel
theorem dX9_months_25 : decode cX9_months 25 = .ok (.iadd, 1) := by decide +kernel
theorem dX9_months_26 : decode cX9_months 26 = .ok (.sipush 999, 3) := by decide +kernel
theorem dX9_months_29 : decode cX9_months 29 = .ok (.if_icmp .le 10, 3) := by decide +kernel
theorem dX9_months_32 : decode cX9_months 32 = .ok (.aload_n 0, 1) := by decide +kernel
theorem dX9_months_33 : decode cX9_months 33 = .ok (.bipush (-6), 2) := by decide +kernel
theorem dX9_months_35 : decode cX9_months 35 = .ok (.invokevirtual 38, 3) := by decide +kernel
theorem dX9_months_38 : decode cX9_months 38 = .ok (.ireturn, 1) := by decide +kernel
theorem dX9_months_39 : decode cX9_months 39 = .ok (.aload_n 0, 1) := by decide +kernel
theorem dX9_months_40 : decode cX9_months 40 = .ok (.getfield 9, 3) := by decide +kernel
theorem dX9_months_43 : decode cX9_months 43 = .ok (.iload_n 1, 1) := by decide +kernel
theorem dX9_months_44 : decode cX9_months 44 = .ok (.invokestatic 126, 3) := by decide +kernel
theorem dX9_months_47 : decode cX9_months 47 = .ok (.aload_n 0, 1) := by decide +kernel
theorem dX9_months_48 : decode cX9_months 48 = .ok (.getfield 9, 3) := by decide +kernel
theorem dX9_months_51 : decode cX9_months 51 = .ok (.invokestatic 146, 3) := by decide +kernel
theorem dX9_months_54 : decode cX9_months 54 = .ok (.ireturn, 1) := by decide +kernel
theorem dX9_faceThen_0 : decode cX9_faceThen 0 = .ok (.aload_n 0, 1) := by decide +kernel
theorem dX9_faceThen_1 : decode cX9_faceThen 1 = .ok (.iload_n 1, 1) := by decide +kernel
theorem dX9_faceThen_2 : decode cX9_faceThen 2 = .ok (.invokevirtual 48, 3) := by decide +kernel
theorem dX9_faceThen_5 : decode cX9_faceThen 5 = .ok (.ifCond .eq 12, 3) := by decide +kernel
theorem dX9_faceThen_8 : decode cX9_faceThen 8 = .ok (.iload_n 2, 1) := by decide +kernel
theorem dX9_faceThen_9 : decode cX9_faceThen 9 = .ok (.bipush 60, 2) := by decide +kernel
theorem dX9_faceThen_11 : decode cX9_faceThen 11 = .ok (.invokestatic 150, 3) := by decide +kernel
theorem dX9_faceThen_14 : decode cX9_faceThen 14 = .ok (.goto 4, 3) := by decide +kernel
theorem dX9_faceThen_17 : decode cX9_faceThen 17 = .ok (.iconst (-1), 1) := by decide +kernel
theorem dX9_faceThen_18 : decode cX9_faceThen 18 = .ok (.istore 4, 2) := by decide +kernel
theorem dX9_faceThen_20 : decode cX9_faceThen 20 = .ok (.iload 4, 2) := by decide +kernel
theorem dX9_faceThen_22 : decode cX9_faceThen 22 = .ok (.ifCond .ne 16, 3) := by decide +kernel
theorem dX9_faceThen_25 : decode cX9_faceThen 25 = .ok (.iload_n 3, 1) := by decide +kernel
theorem dX9_faceThen_26 : decode cX9_faceThen 26 = .ok (.iconst 0, 1) := by decide +kernel
theorem dX9_faceThen_27 : decode cX9_faceThen 27 = .ok (.iconst 3, 1) := by decide +kernel
theorem dX9_faceThen_28 : decode cX9_faceThen 28 = .ok (.invokestatic 44, 3) := by decide +kernel
theorem dX9_faceThen_31 : decode cX9_faceThen 31 = .ok (.ifCond .ne 7, 3) := by decide +kernel
theorem dX9_faceThen_34 : decode cX9_faceThen 34 = .ok (.bipush (-2), 2) := by decide +kernel
theorem dX9_faceThen_36 : decode cX9_faceThen 36 = .ok (.istore 4, 2) := by decide +kernel
theorem dX9_faceThen_38 : decode cX9_faceThen 38 = .ok (.iload 4, 2) := by decide +kernel
theorem dX9_faceThen_40 : decode cX9_faceThen 40 = .ok (.ifCond .eq 10, 3) := by decide +kernel
theorem dX9_faceThen_43 : decode cX9_faceThen 43 = .ok (.aload_n 0, 1) := by decide +kernel
theorem dX9_faceThen_44 : decode cX9_faceThen 44 = .ok (.iload 4, 2) := by decide +kernel
theorem dX9_faceThen_46 : decode cX9_faceThen 46 = .ok (.invokevirtual 38, 3) := by decide +kernel
theorem dX9_faceThen_49 : decode cX9_faceThen 49 = .ok (.ireturn, 1) := by decide +kernel
theorem dX9_faceThen_50 : decode cX9_faceThen 50 = .ok (.aload_n 0, 1) := by decide +kernel
theorem dX9_faceThen_51 : decode cX9_faceThen 51 = .ok (.getfield 9, 3) := by decide +kernel
theorem dX9_faceThen_54 : decode cX9_faceThen 54 = .ok (.aload_n 0, 1) := by decide +kernel
theorem dX9_faceThen_55 : decode cX9_faceThen 55 = .ok (.getfield 13, 3) := by decide +kernel
theorem dX9_faceThen_58 : decode cX9_faceThen 58 = .ok (.invokestatic 133, 3) := by decide +kernel
theorem dX9_faceThen_61 : decode cX9_faceThen 61 = .ok (.aload_n 0, 1) := by decide +kernel
theorem dX9_faceThen_62 : decode cX9_faceThen 62 = .ok (.getfield 13, 3) := by decide +kernel
theorem dX9_faceThen_65 : decode cX9_faceThen 65 = .ok (.iload_n 2, 1) := by decide +kernel
theorem dX9_faceThen_66 : decode cX9_faceThen 66 = .ok (.invokestatic 126, 3) := by decide +kernel
theorem dX9_faceThen_69 : decode cX9_faceThen 69 = .ok (.aload_n 0, 1) := by decide +kernel
theorem dX9_faceThen_70 : decode cX9_faceThen 70 = .ok (.getfield 13, 3) := by decide +kernel
theorem dX9_faceThen_73 : decode cX9_faceThen 73 = .ok (.iload_n 1, 1) := by decide +kernel
theorem dX9_faceThen_74 : decode cX9_faceThen 74 = .ok (.iload_n 3, 1) := by decide +kernel
theorem dX9_faceThen_75 : decode cX9_faceThen 75 = .ok (.invokestatic 140, 3) := by decide +kernel
theorem dX9_faceThen_78 : decode cX9_faceThen 78 = .ok (.ireturn, 1) := by decide +kernel
theorem dX9_wornThen_0 : decode cX9_wornThen 0 = .ok (.aload_n 0, 1) := by decide +kernel
theorem dX9_wornThen_1 : decode cX9_wornThen 1 = .ok (.iload_n 1, 1) := by decide +kernel
theorem dX9_wornThen_2 : decode cX9_wornThen 2 = .ok (.invokevirtual 48, 3) := by decide +kernel
theorem dX9_wornThen_5 : decode cX9_wornThen 5 = .ok (.ifCond .eq 12, 3) := by decide +kernel
theorem dX9_wornThen_8 : decode cX9_wornThen 8 = .ok (.iload_n 2, 1) := by decide +kernel
theorem dX9_wornThen_9 : decode cX9_wornThen 9 = .ok (.bipush 60, 2) := by decide +kernel
theorem dX9_wornThen_11 : decode cX9_wornThen 11 = .ok (.invokestatic 150, 3) := by decide +kernel
theorem dX9_wornThen_14 : decode cX9_wornThen 14 = .ok (.goto 4, 3) := by decide +kernel
theorem dX9_wornThen_17 : decode cX9_wornThen 17 = .ok (.iconst (-1), 1) := by decide +kernel
theorem dX9_wornThen_18 : decode cX9_wornThen 18 = .ok (.istore_n 3, 1) := by decide +kernel
theorem dX9_wornThen_19 : decode cX9_wornThen 19 = .ok (.iload_n 3, 1) := by decide +kernel
theorem dX9_wornThen_20 : decode cX9_wornThen 20 = .ok (.ifCond .eq 9, 3) := by decide +kernel
theorem dX9_wornThen_23 : decode cX9_wornThen 23 = .ok (.aload_n 0, 1) := by decide +kernel
theorem dX9_wornThen_24 : decode cX9_wornThen 24 = .ok (.iload_n 3, 1) := by decide +kernel
theorem dX9_wornThen_25 : decode cX9_wornThen 25 = .ok (.invokevirtual 38, 3) := by decide +kernel
theorem dX9_wornThen_28 : decode cX9_wornThen 28 = .ok (.ireturn, 1) := by decide +kernel
theorem dX9_wornThen_29 : decode cX9_wornThen 29 = .ok (.aload_n 0, 1) := by decide +kernel
theorem dX9_wornThen_30 : decode cX9_wornThen 30 = .ok (.getfield 9, 3) := by decide +kernel
theorem dX9_wornThen_33 : decode cX9_wornThen 33 = .ok (.aload_n 0, 1) := by decide +kernel
theorem dX9_wornThen_34 : decode cX9_wornThen 34 = .ok (.getfield 13, 3) := by decide +kernel
theorem dX9_wornThen_37 : decode cX9_wornThen 37 = .ok (.invokestatic 133, 3) := by decide +kernel
theorem dX9_wornThen_40 : decode cX9_wornThen 40 = .ok (.aload_n 0, 1) := by decide +kernel
theorem dX9_wornThen_41 : decode cX9_wornThen 41 = .ok (.getfield 13, 3) := by decide +kernel
theorem dX9_wornThen_44 : decode cX9_wornThen 44 = .ok (.iload_n 2, 1) := by decide +kernel
theorem dX9_wornThen_45 : decode cX9_wornThen 45 = .ok (.invokestatic 126, 3) := by decide +kernel
theorem dX9_wornThen_48 : decode cX9_wornThen 48 = .ok (.aload_n 0, 1) := by decide +kernel
theorem dX9_wornThen_49 : decode cX9_wornThen 49 = .ok (.getfield 13, 3) := by decide +kernel
theorem dX9_wornThen_52 : decode cX9_wornThen 52 = .ok (.iload_n 1, 1) := by decide +kernel
theorem dX9_wornThen_53 : decode cX9_wornThen 53 = .ok (.iconst 3, 1) := by decide +kernel
theorem dX9_wornThen_54 : decode cX9_wornThen 54 = .ok (.invokestatic 52, 3) := by decide +kernel
theorem dX9_wornThen_57 : decode cX9_wornThen 57 = .ok (.iaload, 1) := by decide +kernel
theorem dX9_wornThen_58 : decode cX9_wornThen 58 = .ok (.ireturn, 1) := by decide +kernel
theorem dX9_areHome_0 : decode cX9_areHome 0 = .ok (.iconst 0, 1) := by decide +kernel
theorem dX9_areHome_1 : decode cX9_areHome 1 = .ok (.istore_n 1, 1) := by decide +kernel
theorem dX9_areHome_2 : decode cX9_areHome 2 = .ok (.iload_n 1, 1) := by decide +kernel
theorem dX9_areHome_3 : decode cX9_areHome 3 = .ok (.aload_n 0, 1) := by decide +kernel
theorem dX9_areHome_4 : decode cX9_areHome 4 = .ok (.iconst 0, 1) := by decide +kernel
theorem dX9_areHome_5 : decode cX9_areHome 5 = .ok (.iaload, 1) := by decide +kernel
theorem dX9_areHome_6 : decode cX9_areHome 6 = .ok (.if_icmp .ge 19, 3) := by decide +kernel
theorem dX9_areHome_9 : decode cX9_areHome 9 = .ok (.aload_n 0, 1) := by decide +kernel
theorem dX9_areHome_10 : decode cX9_areHome 10 = .ok (.iload_n 1, 1) := by decide +kernel
theorem dX9_areHome_11 : decode cX9_areHome 11 = .ok (.invokestatic 64, 3) := by decide +kernel
theorem dX9_areHome_14 : decode cX9_areHome 14 = .ok (.ifCond .ne 5, 3) := by decide +kernel
theorem dX9_areHome_17 : decode cX9_areHome 17 = .ok (.iconst 0, 1) := by decide +kernel
theorem dX9_areHome_18 : decode cX9_areHome 18 = .ok (.ireturn, 1) := by decide +kernel
theorem dX9_areHome_19 : decode cX9_areHome 19 = .ok (.iinc 1 1, 3) := by decide +kernel
theorem dX9_areHome_22 : decode cX9_areHome 22 = .ok (.goto (-20), 3) := by decide +kernel
theorem dX9_areHome_25 : decode cX9_areHome 25 = .ok (.iconst 1, 1) := by decide +kernel
theorem dX9_areHome_26 : decode cX9_areHome 26 = .ok (.ireturn, 1) := by decide +kernel
theorem dX9_first_0 : decode cX9_first 0 = .ok (.iload_n 1, 1) := by decide +kernel
theorem dX9_first_1 : decode cX9_first 1 = .ok (.iconst 0, 1) := by decide +kernel
theorem dX9_first_2 : decode cX9_first 2 = .ok (.iconst 2, 1) := by decide +kernel
theorem dX9_first_3 : decode cX9_first 3 = .ok (.invokestatic 44, 3) := by decide +kernel
theorem dX9_first_6 : decode cX9_first 6 = .ok (.ifCond .ne 10, 3) := by decide +kernel
theorem dX9_first_9 : decode cX9_first 9 = .ok (.aload_n 0, 1) := by decide +kernel
theorem dX9_first_10 : decode cX9_first 10 = .ok (.bipush (-2), 2) := by decide +kernel
theorem dX9_first_12 : decode cX9_first 12 = .ok (.invokevirtual 38, 3) := by decide +kernel
theorem dX9_first_15 : decode cX9_first 15 = .ok (.ireturn, 1) := by decide +kernel
theorem dX9_first_16 : decode cX9_first 16 = .ok (.aload_n 0, 1) := by decide +kernel
theorem dX9_first_17 : decode cX9_first 17 = .ok (.getfield 9, 3) := by decide +kernel
theorem dX9_first_20 : decode cX9_first 20 = .ok (.aload_n 0, 1) := by decide +kernel
theorem dX9_first_21 : decode cX9_first 21 = .ok (.getfield 13, 3) := by decide +kernel
theorem dX9_first_24 : decode cX9_first 24 = .ok (.invokestatic 133, 3) := by decide +kernel
theorem dX9_first_27 : decode cX9_first 27 = .ok (.iconst 0, 1) := by decide +kernel
theorem dX9_first_28 : decode cX9_first 28 = .ok (.istore_n 2, 1) := by decide +kernel
theorem dX9_first_29 : decode cX9_first 29 = .ok (.iload_n 2, 1) := by decide +kernel
theorem dX9_first_30 : decode cX9_first 30 = .ok (.bipush 60, 2) := by decide +kernel
theorem dX9_first_32 : decode cX9_first 32 = .ok (.if_icmp .gt 79, 3) := by decide +kernel
theorem dX9_first_35 : decode cX9_first 35 = .ok (.iload_n 1, 1) := by decide +kernel
theorem dX9_first_36 : decode cX9_first 36 = .ok (.iconst 2, 1) := by decide +kernel
theorem dX9_first_37 : decode cX9_first 37 = .ok (.if_icmp .ne 15, 3) := by decide +kernel
theorem dX9_first_40 : decode cX9_first 40 = .ok (.aload_n 0, 1) := by decide +kernel
theorem dX9_first_41 : decode cX9_first 41 = .ok (.getfield 13, 3) := by decide +kernel
theorem dX9_first_44 : decode cX9_first 44 = .ok (.invokestatic 153, 3) := by decide +kernel
theorem dX9_first_47 : decode cX9_first 47 = .ok (.ifCond .eq 5, 3) := by decide +kernel
theorem dX9_first_50 : decode cX9_first 50 = .ok (.iload_n 2, 1) := by decide +kernel
theorem dX9_first_51 : decode cX9_first 51 = .ok (.ireturn, 1) := by decide +kernel
theorem dX9_first_52 : decode cX9_first 52 = .ok (.iconst 0, 1) := by decide +kernel
theorem dX9_first_53 : decode cX9_first 53 = .ok (.istore_n 3, 1) := by decide +kernel
theorem dX9_first_54 : decode cX9_first 54 = .ok (.iload_n 3, 1) := by decide +kernel
theorem dX9_first_55 : decode cX9_first 55 = .ok (.aload_n 0, 1) := by decide +kernel
theorem dX9_first_56 : decode cX9_first 56 = .ok (.getfield 13, 3) := by decide +kernel
theorem dX9_first_59 : decode cX9_first 59 = .ok (.iconst 0, 1) := by decide +kernel
theorem dX9_first_60 : decode cX9_first 60 = .ok (.iaload, 1) := by decide +kernel
theorem dX9_first_61 : decode cX9_first 61 = .ok (.if_icmp .ge 37, 3) := by decide +kernel
theorem dX9_first_64 : decode cX9_first 64 = .ok (.iload_n 1, 1) := by decide +kernel
theorem dX9_first_65 : decode cX9_first 65 = .ok (.iconst 2, 1) := by decide +kernel
theorem dX9_first_66 : decode cX9_first 66 = .ok (.if_icmp .ge 32, 3) := by decide +kernel
theorem dX9_first_69 : decode cX9_first 69 = .ok (.aload_n 0, 1) := by decide +kernel
theorem dX9_first_70 : decode cX9_first 70 = .ok (.getfield 13, 3) := by decide +kernel
theorem dX9_first_73 : decode cX9_first 73 = .ok (.iload_n 3, 1) := by decide +kernel
theorem dX9_first_74 : decode cX9_first 74 = .ok (.iconst 4, 1) := by decide +kernel
theorem dX9_first_75 : decode cX9_first 75 = .ok (.invokestatic 52, 3) := by decide +kernel
theorem dX9_first_78 : decode cX9_first 78 = .ok (.iaload, 1) := by decide +kernel
theorem dX9_first_79 : decode cX9_first 79 = .ok (.ifCond .ne 13, 3) := by decide +kernel
theorem dX9_first_82 : decode cX9_first 82 = .ok (.iload_n 1, 1) := by decide +kernel
theorem dX9_first_83 : decode cX9_first 83 = .ok (.ifCond .ne 7, 3) := by decide +kernel
theorem dX9_first_86 : decode cX9_first 86 = .ok (.iload_n 3, 1) := by decide +kernel
theorem dX9_first_87 : decode cX9_first 87 = .ok (.goto 4, 3) := by decide +kernel
theorem dX9_first_90 : decode cX9_first 90 = .ok (.iload_n 2, 1) := by decide +kernel
theorem dX9_first_91 : decode cX9_first 91 = .ok (.ireturn, 1) := by decide +kernel
theorem dX9_first_92 : decode cX9_first 92 = .ok (.iinc 3 1, 3) := by decide +kernel
theorem dX9_first_95 : decode cX9_first 95 = .ok (.goto (-41), 3) := by decide +kernel
theorem dX9_first_98 : decode cX9_first 98 = .ok (.aload_n 0, 1) := by decide +kernel
theorem dX9_first_99 : decode cX9_first 99 = .ok (.getfield 13, 3) := by decide +kernel
theorem dX9_first_102 : decode cX9_first 102 = .ok (.invokestatic 84, 3) := by decide +kernel
theorem dX9_first_105 : decode cX9_first 105 = .ok (.iinc 2 1, 3) := by decide +kernel
theorem dX9_first_108 : decode cX9_first 108 = .ok (.goto (-79), 3) := by decide +kernel
theorem dX9_first_111 : decode cX9_first 111 = .ok (.bipush (-9), 2) := by decide +kernel
theorem dX9_first_113 : decode cX9_first 113 = .ok (.ireturn, 1) := by decide +kernel
theorem dX9_meetsOne_0 : decode cX9_meetsOne 0 = .ok (.aload_n 0, 1) := by decide +kernel
theorem dX9_meetsOne_1 : decode cX9_meetsOne 1 = .ok (.getfield 9, 3) := by decide +kernel
theorem dX9_meetsOne_4 : decode cX9_meetsOne 4 = .ok (.iload_n 2, 1) := by decide +kernel
theorem dX9_meetsOne_5 : decode cX9_meetsOne 5 = .ok (.iconst 3, 1) := by decide +kernel
theorem dX9_meetsOne_6 : decode cX9_meetsOne 6 = .ok (.invokestatic 52, 3) := by decide +kernel
theorem dX9_meetsOne_9 : decode cX9_meetsOne 9 = .ok (.iaload, 1) := by decide +kernel
theorem dX9_meetsOne_10 : decode cX9_meetsOne 10 = .ok (.istore_n 3, 1) := by decide +kernel
theorem dX9_meetsOne_11 : decode cX9_meetsOne 11 = .ok (.iload_n 3, 1) := by decide +kernel
theorem dX9_meetsOne_12 : decode cX9_meetsOne 12 = .ok (.bipush 9, 2) := by decide +kernel
theorem dX9_meetsOne_14 : decode cX9_meetsOne 14 = .ok (.if_icmp .eq 24, 3) := by decide +kernel
theorem dX9_meetsOne_17 : decode cX9_meetsOne 17 = .ok (.aload_n 0, 1) := by decide +kernel
theorem dX9_meetsOne_18 : decode cX9_meetsOne 18 = .ok (.getfield 9, 3) := by decide +kernel
theorem dX9_meetsOne_21 : decode cX9_meetsOne 21 = .ok (.iload_n 1, 1) := by decide +kernel
theorem dX9_meetsOne_22 : decode cX9_meetsOne 22 = .ok (.iconst 2, 1) := by decide +kernel
theorem dX9_meetsOne_23 : decode cX9_meetsOne 23 = .ok (.invokestatic 52, 3) := by decide +kernel
theorem dX9_meetsOne_26 : decode cX9_meetsOne 26 = .ok (.iaload, 1) := by decide +kernel
theorem dX9_meetsOne_27 : decode cX9_meetsOne 27 = .ok (.iload_n 3, 1) := by decide +kernel
theorem dX9_meetsOne_28 : decode cX9_meetsOne 28 = .ok (.invokestatic 56, 3) := by decide +kernel
theorem dX9_meetsOne_31 : decode cX9_meetsOne 31 = .ok (.ifCond .eq 7, 3) := by decide +kernel
theorem dX9_meetsOne_34 : decode cX9_meetsOne 34 = .ok (.iload_n 3, 1) := by decide +kernel
theorem dX9_meetsOne_35 : decode cX9_meetsOne 35 = .ok (.goto 5, 3) := by decide +kernel
theorem dX9_meetsOne_38 : decode cX9_meetsOne 38 = .ok (.bipush 9, 2) := by decide +kernel
theorem dX9_meetsOne_40 : decode cX9_meetsOne 40 = .ok (.ireturn, 1) := by decide +kernel
theorem dX9_meets_0 : decode cX9_meets 0 = .ok (.aload_n 0, 1) := by decide +kernel
theorem dX9_meets_1 : decode cX9_meets 1 = .ok (.iload_n 1, 1) := by decide +kernel
theorem dX9_meets_2 : decode cX9_meets 2 = .ok (.iload_n 2, 1) := by decide +kernel
theorem dX9_meets_3 : decode cX9_meets 3 = .ok (.invokevirtual 115, 3) := by decide +kernel
theorem dX9_meets_6 : decode cX9_meets 6 = .ok (.ifCond .eq 12, 3) := by decide +kernel
theorem dX9_meets_9 : decode cX9_meets 9 = .ok (.aload_n 0, 1) := by decide +kernel
theorem dX9_meets_10 : decode cX9_meets 10 = .ok (.iload_n 1, 1) := by decide +kernel
theorem dX9_meets_11 : decode cX9_meets 11 = .ok (.iload_n 2, 1) := by decide +kernel
theorem dX9_meets_12 : decode cX9_meets 12 = .ok (.invokevirtual 157, 3) := by decide +kernel
theorem dX9_meets_15 : decode cX9_meets 15 = .ok (.goto 8, 3) := by decide +kernel
theorem dX9_meets_18 : decode cX9_meets 18 = .ok (.aload_n 0, 1) := by decide +kernel
theorem dX9_meets_19 : decode cX9_meets 19 = .ok (.iconst (-1), 1) := by decide +kernel
theorem dX9_meets_20 : decode cX9_meets 20 = .ok (.invokevirtual 38, 3) := by decide +kernel
theorem dX9_meets_23 : decode cX9_meets 23 = .ok (.ireturn, 1) := by decide +kernel
theorem dX9_deceived_0 : decode cX9_deceived 0 = .ok (.aload_n 0, 1) := by decide +kernel
theorem dX9_deceived_1 : decode cX9_deceived 1 = .ok (.iload_n 1, 1) := by decide +kernel
theorem dX9_deceived_2 : decode cX9_deceived 2 = .ok (.invokevirtual 48, 3) := by decide +kernel
theorem dX9_deceived_5 : decode cX9_deceived 5 = .ok (.ifCond .ne 9, 3) := by decide +kernel
theorem dX9_deceived_8 : decode cX9_deceived 8 = .ok (.aload_n 0, 1) := by decide +kernel
theorem dX9_deceived_9 : decode cX9_deceived 9 = .ok (.iconst (-1), 1) := by decide +kernel
theorem dX9_deceived_10 : decode cX9_deceived 10 = .ok (.invokevirtual 38, 3) := by decide +kernel
theorem dX9_deceived_13 : decode cX9_deceived 13 = .ok (.ireturn, 1) := by decide +kernel
theorem dX9_deceived_14 : decode cX9_deceived 14 = .ok (.iload_n 2, 1) := by decide +kernel
theorem dX9_deceived_15 : decode cX9_deceived 15 = .ok (.iconst 0, 1) := by decide +kernel
theorem dX9_deceived_16 : decode cX9_deceived 16 = .ok (.iconst 1, 1) := by decide +kernel
theorem dX9_deceived_17 : decode cX9_deceived 17 = .ok (.invokestatic 44, 3) := by decide +kernel
theorem dX9_deceived_20 : decode cX9_deceived 20 = .ok (.ifCond .ne 10, 3) := by decide +kernel
theorem dX9_deceived_23 : decode cX9_deceived 23 = .ok (.aload_n 0, 1) := by decide +kernel
theorem dX9_deceived_24 : decode cX9_deceived 24 = .ok (.bipush (-2), 2) := by decide +kernel
theorem dX9_deceived_26 : decode cX9_deceived 26 = .ok (.invokevirtual 38, 3) := by decide +kernel
theorem dX9_deceived_29 : decode cX9_deceived 29 = .ok (.ireturn, 1) := by decide +kernel
theorem dX9_deceived_30 : decode cX9_deceived 30 = .ok (.aload_n 0, 1) := by decide +kernel
theorem dX9_deceived_31 : decode cX9_deceived 31 = .ok (.getfield 9, 3) := by decide +kernel
theorem dX9_deceived_34 : decode cX9_deceived 34 = .ok (.iload_n 1, 1) := by decide +kernel
theorem dX9_deceived_35 : decode cX9_deceived 35 = .ok (.iconst 3, 1) := by decide +kernel
theorem dX9_deceived_36 : decode cX9_deceived 36 = .ok (.invokestatic 52, 3) := by decide +kernel
theorem dX9_deceived_39 : decode cX9_deceived 39 = .ok (.iaload, 1) := by decide +kernel
theorem dX9_deceived_40 : decode cX9_deceived 40 = .ok (.istore_n 3, 1) := by decide +kernel
theorem dX9_deceived_41 : decode cX9_deceived 41 = .ok (.iload_n 3, 1) := by decide +kernel
theorem dX9_deceived_42 : decode cX9_deceived 42 = .ok (.bipush 9, 2) := by decide +kernel
theorem dX9_deceived_44 : decode cX9_deceived 44 = .ok (.if_icmp .eq 12, 3) := by decide +kernel
theorem dX9_deceived_47 : decode cX9_deceived 47 = .ok (.iload_n 2, 1) := by decide +kernel
theorem dX9_deceived_48 : decode cX9_deceived 48 = .ok (.ifCond .ne 12, 3) := by decide +kernel
theorem dX9_deceived_51 : decode cX9_deceived 51 = .ok (.iload_n 3, 1) := by decide +kernel
theorem dX9_deceived_52 : decode cX9_deceived 52 = .ok (.iload_n 1, 1) := by decide +kernel
theorem dX9_deceived_53 : decode cX9_deceived 53 = .ok (.if_icmp .ne 7, 3) := by decide +kernel
theorem dX9_deceived_56 : decode cX9_deceived 56 = .ok (.iconst 0, 1) := by decide +kernel
theorem dX9_deceived_57 : decode cX9_deceived 57 = .ok (.goto 12, 3) := by decide +kernel
theorem dX9_deceived_60 : decode cX9_deceived 60 = .ok (.aload_n 0, 1) := by decide +kernel
theorem dX9_deceived_61 : decode cX9_deceived 61 = .ok (.getfield 9, 3) := by decide +kernel
theorem dX9_deceived_64 : decode cX9_deceived 64 = .ok (.iload_n 3, 1) := by decide +kernel
theorem dX9_deceived_65 : decode cX9_deceived 65 = .ok (.iload_n 1, 1) := by decide +kernel
theorem dX9_deceived_66 : decode cX9_deceived 66 = .ok (.invokestatic 60, 3) := by decide +kernel
theorem dX9_deceived_69 : decode cX9_deceived 69 = .ok (.ireturn, 1) := by decide +kernel
theorem dX9_famous_0 : decode cX9_famous 0 = .ok (.iload_n 1, 1) := by decide +kernel
theorem dX9_famous_1 : decode cX9_famous 1 = .ok (.iconst 0, 1) := by decide +kernel
theorem dX9_famous_2 : decode cX9_famous 2 = .ok (.iconst 1, 1) := by decide +kernel
theorem dX9_famous_3 : decode cX9_famous 3 = .ok (.invokestatic 44, 3) := by decide +kernel
theorem dX9_famous_6 : decode cX9_famous 6 = .ok (.ifCond .ne 10, 3) := by decide +kernel
theorem dX9_famous_9 : decode cX9_famous 9 = .ok (.aload_n 0, 1) := by decide +kernel
theorem dX9_famous_10 : decode cX9_famous 10 = .ok (.bipush (-2), 2) := by decide +kernel
theorem dX9_famous_12 : decode cX9_famous 12 = .ok (.invokevirtual 38, 3) := by decide +kernel
theorem dX9_famous_15 : decode cX9_famous 15 = .ok (.ireturn, 1) := by decide +kernel
theorem dX9_famous_16 : decode cX9_famous 16 = .ok (.bipush (-9), 2) := by decide +kernel
theorem dX9_famous_18 : decode cX9_famous 18 = .ok (.istore_n 2, 1) := by decide +kernel
theorem dX9_famous_19 : decode cX9_famous 19 = .ok (.iconst 0, 1) := by decide +kernel
theorem dX9_famous_20 : decode cX9_famous 20 = .ok (.istore_n 3, 1) := by decide +kernel
theorem dX9_famous_21 : decode cX9_famous 21 = .ok (.iload_n 3, 1) := by decide +kernel
theorem dX9_famous_22 : decode cX9_famous 22 = .ok (.aload_n 0, 1) := by decide +kernel
theorem dX9_famous_23 : decode cX9_famous 23 = .ok (.getfield 9, 3) := by decide +kernel
theorem dX9_famous_26 : decode cX9_famous 26 = .ok (.iconst 0, 1) := by decide +kernel
theorem dX9_famous_27 : decode cX9_famous 27 = .ok (.iaload, 1) := by decide +kernel
theorem dX9_famous_28 : decode cX9_famous 28 = .ok (.if_icmp .ge 42, 3) := by decide +kernel
theorem dX9_famous_31 : decode cX9_famous 31 = .ok (.iload_n 2, 1) := by decide +kernel
theorem dX9_famous_32 : decode cX9_famous 32 = .ok (.ifCond .lt 30, 3) := by decide +kernel
theorem dX9_famous_35 : decode cX9_famous 35 = .ok (.aload_n 0, 1) := by decide +kernel
theorem dX9_famous_36 : decode cX9_famous 36 = .ok (.getfield 9, 3) := by decide +kernel
theorem dX9_famous_39 : decode cX9_famous 39 = .ok (.iload_n 3, 1) := by decide +kernel
theorem dX9_famous_40 : decode cX9_famous 40 = .ok (.iconst 4, 1) := by decide +kernel
theorem dX9_famous_41 : decode cX9_famous 41 = .ok (.iload_n 1, 1) := by decide +kernel
theorem dX9_famous_42 : decode cX9_famous 42 = .ok (.iadd, 1) := by decide +kernel
theorem dX9_famous_43 : decode cX9_famous 43 = .ok (.invokestatic 52, 3) := by decide +kernel
theorem dX9_famous_46 : decode cX9_famous 46 = .ok (.iaload, 1) := by decide +kernel
theorem dX9_famous_47 : decode cX9_famous 47 = .ok (.aload_n 0, 1) := by decide +kernel
theorem dX9_famous_48 : decode cX9_famous 48 = .ok (.getfield 9, 3) := by decide +kernel
theorem dX9_famous_51 : decode cX9_famous 51 = .ok (.iload_n 2, 1) := by decide +kernel
theorem dX9_famous_52 : decode cX9_famous 52 = .ok (.iconst 4, 1) := by decide +kernel
theorem dX9_famous_53 : decode cX9_famous 53 = .ok (.iload_n 1, 1) := by decide +kernel
theorem dX9_famous_54 : decode cX9_famous 54 = .ok (.iadd, 1) := by decide +kernel
theorem dX9_famous_55 : decode cX9_famous 55 = .ok (.invokestatic 52, 3) := by decide +kernel
theorem dX9_famous_58 : decode cX9_famous 58 = .ok (.iaload, 1) := by decide +kernel
theorem dX9_famous_59 : decode cX9_famous 59 = .ok (.if_icmp .le 5, 3) := by decide +kernel
theorem dX9_famous_62 : decode cX9_famous 62 = .ok (.iload_n 3, 1) := by decide +kernel
theorem dX9_famous_63 : decode cX9_famous 63 = .ok (.istore_n 2, 1) := by decide +kernel
theorem dX9_famous_64 : decode cX9_famous 64 = .ok (.iinc 3 1, 3) := by decide +kernel
theorem dX9_famous_67 : decode cX9_famous 67 = .ok (.goto (-46), 3) := by decide +kernel
theorem dX9_famous_70 : decode cX9_famous 70 = .ok (.iload_n 2, 1) := by decide +kernel
theorem dX9_famous_71 : decode cX9_famous 71 = .ok (.ireturn, 1) := by decide +kernel
theorem dX9_worthBehind_0 : decode cX9_worthBehind 0 = .ok (.aload_n 0, 1) := by decide +kernel
theorem dX9_worthBehind_1 : decode cX9_worthBehind 1 = .ok (.getfield 13, 3) := by decide +kernel
theorem dX9_worthBehind_4 : decode cX9_worthBehind 4 = .ok (.iload_n 2, 1) := by decide +kernel
theorem dX9_worthBehind_5 : decode cX9_worthBehind 5 = .ok (.invokestatic 126, 3) := by decide +kernel
theorem dX9_worthBehind_8 : decode cX9_worthBehind 8 = .ok (.iload_n 1, 1) := by decide +kernel
theorem dX9_worthBehind_9 : decode cX9_worthBehind 9 = .ok (.ifCond .ge 13, 3) := by decide +kernel
theorem dX9_worthBehind_12 : decode cX9_worthBehind 12 = .ok (.aload_n 0, 1) := by decide +kernel
theorem dX9_worthBehind_13 : decode cX9_worthBehind 13 = .ok (.getfield 13, 3) := by decide +kernel
theorem dX9_worthBehind_16 : decode cX9_worthBehind 16 = .ok (.invokestatic 160, 3) := by decide +kernel
theorem dX9_worthBehind_19 : decode cX9_worthBehind 19 = .ok (.goto 11, 3) := by decide +kernel
theorem dX9_worthBehind_22 : decode cX9_worthBehind 22 = .ok (.aload_n 0, 1) := by decide +kernel
theorem dX9_worthBehind_23 : decode cX9_worthBehind 23 = .ok (.getfield 13, 3) := by decide +kernel
theorem dX9_worthBehind_26 : decode cX9_worthBehind 26 = .ok (.iload_n 1, 1) := by decide +kernel
theorem dX9_worthBehind_27 : decode cX9_worthBehind 27 = .ok (.invokestatic 88, 3) := by decide +kernel
theorem dX9_worthBehind_30 : decode cX9_worthBehind 30 = .ok (.ireturn, 1) := by decide +kernel
theorem dX9_worthNow_0 : decode cX9_worthNow 0 = .ok (.aload_n 0, 1) := by decide +kernel
theorem dX9_worthNow_1 : decode cX9_worthNow 1 = .ok (.getfield 9, 3) := by decide +kernel
theorem dX9_worthNow_4 : decode cX9_worthNow 4 = .ok (.aload_n 0, 1) := by decide +kernel
theorem dX9_worthNow_5 : decode cX9_worthNow 5 = .ok (.getfield 13, 3) := by decide +kernel
theorem dX9_worthNow_8 : decode cX9_worthNow 8 = .ok (.invokestatic 133, 3) := by decide +kernel
theorem dX9_worthNow_11 : decode cX9_worthNow 11 = .ok (.aload_n 0, 1) := by decide +kernel
theorem dX9_worthNow_12 : decode cX9_worthNow 12 = .ok (.iload_n 1, 1) := by decide +kernel
theorem dX9_worthNow_13 : decode cX9_worthNow 13 = .ok (.iload_n 2, 1) := by decide +kernel
theorem dX9_worthNow_14 : decode cX9_worthNow 14 = .ok (.invokevirtual 163, 3) := by decide +kernel
theorem dX9_worthNow_17 : decode cX9_worthNow 17 = .ok (.ireturn, 1) := by decide +kernel
theorem dX9_wrongLend_0 : decode cX9_wrongLend 0 = .ok (.aload_n 0, 1) := by decide +kernel
theorem dX9_wrongLend_1 : decode cX9_wrongLend 1 = .ok (.iload_n 1, 1) := by decide +kernel
theorem dX9_wrongLend_2 : decode cX9_wrongLend 2 = .ok (.invokevirtual 48, 3) := by decide +kernel
theorem dX9_wrongLend_5 : decode cX9_wrongLend 5 = .ok (.ifCond .eq 12, 3) := by decide +kernel
theorem dX9_wrongLend_8 : decode cX9_wrongLend 8 = .ok (.iload_n 2, 1) := by decide +kernel
theorem dX9_wrongLend_9 : decode cX9_wrongLend 9 = .ok (.bipush 24, 2) := by decide +kernel
theorem dX9_wrongLend_11 : decode cX9_wrongLend 11 = .ok (.invokestatic 150, 3) := by decide +kernel
theorem dX9_wrongLend_14 : decode cX9_wrongLend 14 = .ok (.goto 4, 3) := by decide +kernel
theorem dX9_wrongLend_17 : decode cX9_wrongLend 17 = .ok (.iconst (-1), 1) := by decide +kernel
theorem dX9_wrongLend_18 : decode cX9_wrongLend 18 = .ok (.ireturn, 1) := by decide +kernel
theorem dX9_lend_0 : decode cX9_lend 0 = .ok (.aload_n 0, 1) := by decide +kernel
theorem dX9_lend_1 : decode cX9_lend 1 = .ok (.iload_n 1, 1) := by decide +kernel
theorem dX9_lend_2 : decode cX9_lend 2 = .ok (.iload_n 2, 1) := by decide +kernel
theorem dX9_lend_3 : decode cX9_lend 3 = .ok (.invokevirtual 166, 3) := by decide +kernel
theorem dX9_lend_6 : decode cX9_lend 6 = .ok (.istore 4, 2) := by decide +kernel
theorem dX9_lend_8 : decode cX9_lend 8 = .ok (.iload 4, 2) := by decide +kernel
theorem dX9_lend_10 : decode cX9_lend 10 = .ok (.ifCond .ne 36, 3) := by decide +kernel
theorem dX9_lend_13 : decode cX9_lend 13 = .ok (.iload_n 3, 1) := by decide +kernel
theorem dX9_lend_14 : decode cX9_lend 14 = .ok (.iconst 0, 1) := by decide +kernel
theorem dX9_lend_15 : decode cX9_lend 15 = .ok (.iconst 1, 1) := by decide +kernel
theorem dX9_lend_16 : decode cX9_lend 16 = .ok (.invokestatic 44, 3) := by decide +kernel
theorem dX9_lend_19 : decode cX9_lend 19 = .ok (.ifCond .ne 8, 3) := by decide +kernel
theorem dX9_lend_22 : decode cX9_lend 22 = .ok (.bipush (-2), 2) := by decide +kernel
theorem dX9_lend_24 : decode cX9_lend 24 = .ok (.goto 20, 3) := by decide +kernel
theorem dX9_lend_27 : decode cX9_lend 27 = .ok (.aload_n 0, 1) := by decide +kernel
theorem dX9_lend_28 : decode cX9_lend 28 = .ok (.getfield 9, 3) := by decide +kernel
theorem dX9_lend_31 : decode cX9_lend 31 = .ok (.iload_n 1, 1) := by decide +kernel
theorem dX9_lend_32 : decode cX9_lend 32 = .ok (.invokestatic 64, 3) := by decide +kernel
theorem dX9_lend_35 : decode cX9_lend 35 = .ok (.ifCond .eq 7, 3) := by decide +kernel
theorem dX9_lend_38 : decode cX9_lend 38 = .ok (.iconst 0, 1) := by decide +kernel
theorem dX9_lend_39 : decode cX9_lend 39 = .ok (.goto 5, 3) := by decide +kernel
theorem dX9_lend_42 : decode cX9_lend 42 = .ok (.bipush (-3), 2) := by decide +kernel
theorem dX9_lend_44 : decode cX9_lend 44 = .ok (.istore 4, 2) := by decide +kernel
theorem dX9_lend_46 : decode cX9_lend 46 = .ok (.iload 4, 2) := by decide +kernel
theorem dX9_lend_48 : decode cX9_lend 48 = .ok (.ifCond .eq 10, 3) := by decide +kernel
theorem dX9_lend_51 : decode cX9_lend 51 = .ok (.aload_n 0, 1) := by decide +kernel
theorem dX9_lend_52 : decode cX9_lend 52 = .ok (.iload 4, 2) := by decide +kernel
theorem dX9_lend_54 : decode cX9_lend 54 = .ok (.invokevirtual 38, 3) := by decide +kernel
theorem dX9_lend_57 : decode cX9_lend 57 = .ok (.ireturn, 1) := by decide +kernel
theorem dX9_lend_58 : decode cX9_lend 58 = .ok (.iconst 1, 1) := by decide +kernel
theorem dX9_lend_59 : decode cX9_lend 59 = .ok (.iconst 2, 1) := by decide +kernel
theorem dX9_lend_60 : decode cX9_lend 60 = .ok (.iload_n 3, 1) := by decide +kernel
theorem dX9_lend_61 : decode cX9_lend 61 = .ok (.imul, 1) := by decide +kernel
theorem dX9_lend_62 : decode cX9_lend 62 = .ok (.isub, 1) := by decide +kernel
theorem dX9_lend_63 : decode cX9_lend 63 = .ok (.istore 5, 2) := by decide +kernel
theorem dX9_lend_65 : decode cX9_lend 65 = .ok (.bipush (-9), 2) := by decide +kernel
theorem dX9_lend_67 : decode cX9_lend 67 = .ok (.istore 6, 2) := by decide +kernel
theorem dX9_lend_69 : decode cX9_lend 69 = .ok (.iload 5, 2) := by decide +kernel
theorem dX9_lend_71 : decode cX9_lend 71 = .ok (.aload_n 0, 1) := by decide +kernel
theorem dX9_lend_72 : decode cX9_lend 72 = .ok (.iload_n 1, 1) := by decide +kernel
theorem dX9_lend_73 : decode cX9_lend 73 = .ok (.iload_n 2, 1) := by decide +kernel
theorem dX9_lend_74 : decode cX9_lend 74 = .ok (.invokevirtual 169, 3) := by decide +kernel
theorem dX9_lend_77 : decode cX9_lend 77 = .ok (.imul, 1) := by decide +kernel
theorem dX9_lend_78 : decode cX9_lend 78 = .ok (.istore 7, 2) := by decide +kernel
theorem dX9_lend_80 : decode cX9_lend 80 = .ok (.iconst 0, 1) := by decide +kernel
theorem dX9_lend_81 : decode cX9_lend 81 = .ok (.istore 8, 2) := by decide +kernel
theorem dX9_lend_83 : decode cX9_lend 83 = .ok (.iload 8, 2) := by decide +kernel
theorem dX9_lend_85 : decode cX9_lend 85 = .ok (.aload_n 0, 1) := by decide +kernel
theorem dX9_lend_86 : decode cX9_lend 86 = .ok (.getfield 9, 3) := by decide +kernel
theorem dX9_lend_89 : decode cX9_lend 89 = .ok (.iconst 0, 1) := by decide +kernel
theorem dX9_lend_90 : decode cX9_lend 90 = .ok (.iaload, 1) := by decide +kernel
theorem dX9_lend_91 : decode cX9_lend 91 = .ok (.if_icmp .ge 75, 3) := by decide +kernel
theorem dX9_lend_94 : decode cX9_lend 94 = .ok (.aload_n 0, 1) := by decide +kernel
theorem dX9_lend_95 : decode cX9_lend 95 = .ok (.getfield 9, 3) := by decide +kernel
theorem dX9_lend_98 : decode cX9_lend 98 = .ok (.iload_n 1, 1) := by decide +kernel
theorem dX9_lend_99 : decode cX9_lend 99 = .ok (.iload 8, 2) := by decide +kernel
theorem dX9_lend_101 : decode cX9_lend 101 = .ok (.invokestatic 118, 3) := by decide +kernel
theorem dX9_lend_104 : decode cX9_lend 104 = .ok (.ifCond .ne 6, 3) := by decide +kernel
theorem dX9_lend_107 : decode cX9_lend 107 = .ok (.goto 53, 3) := by decide +kernel
theorem dX9_lend_110 : decode cX9_lend 110 = .ok (.aload_n 0, 1) := by decide +kernel
theorem dX9_lend_111 : decode cX9_lend 111 = .ok (.getfield 9, 3) := by decide +kernel
theorem dX9_lend_114 : decode cX9_lend 114 = .ok (.aload_n 0, 1) := by decide +kernel
theorem dX9_lend_115 : decode cX9_lend 115 = .ok (.getfield 13, 3) := by decide +kernel
theorem dX9_lend_118 : decode cX9_lend 118 = .ok (.invokestatic 133, 3) := by decide +kernel
theorem dX9_lend_121 : decode cX9_lend 121 = .ok (.aload_n 0, 1) := by decide +kernel
theorem dX9_lend_122 : decode cX9_lend 122 = .ok (.getfield 13, 3) := by decide +kernel
theorem dX9_lend_125 : decode cX9_lend 125 = .ok (.iload_n 1, 1) := by decide +kernel
theorem dX9_lend_126 : decode cX9_lend 126 = .ok (.iload 8, 2) := by decide +kernel
theorem dX9_lend_128 : decode cX9_lend 128 = .ok (.invokestatic 122, 3) := by decide +kernel
theorem dX9_lend_131 : decode cX9_lend 131 = .ok (.iload 5, 2) := by decide +kernel
theorem dX9_lend_133 : decode cX9_lend 133 = .ok (.aload_n 0, 1) := by decide +kernel
theorem dX9_lend_134 : decode cX9_lend 134 = .ok (.iload_n 1, 1) := by decide +kernel
theorem dX9_lend_135 : decode cX9_lend 135 = .ok (.iload_n 2, 1) := by decide +kernel
theorem dX9_lend_136 : decode cX9_lend 136 = .ok (.invokevirtual 163, 3) := by decide +kernel
theorem dX9_lend_139 : decode cX9_lend 139 = .ok (.imul, 1) := by decide +kernel
theorem dX9_lend_140 : decode cX9_lend 140 = .ok (.istore 9, 2) := by decide +kernel
theorem dX9_lend_142 : decode cX9_lend 142 = .ok (.iload 9, 2) := by decide +kernel
theorem dX9_lend_144 : decode cX9_lend 144 = .ok (.iload 7, 2) := by decide +kernel
theorem dX9_lend_146 : decode cX9_lend 146 = .ok (.if_icmp .gt 6, 3) := by decide +kernel
theorem dX9_lend_149 : decode cX9_lend 149 = .ok (.goto 11, 3) := by decide +kernel
theorem dX9_lend_152 : decode cX9_lend 152 = .ok (.iload 8, 2) := by decide +kernel
theorem dX9_lend_154 : decode cX9_lend 154 = .ok (.istore 6, 2) := by decide +kernel
theorem dX9_lend_156 : decode cX9_lend 156 = .ok (.iload 9, 2) := by decide +kernel
theorem dX9_lend_158 : decode cX9_lend 158 = .ok (.istore 7, 2) := by decide +kernel
theorem dX9_lend_160 : decode cX9_lend 160 = .ok (.iinc 8 1, 3) := by decide +kernel
theorem dX9_lend_163 : decode cX9_lend 163 = .ok (.goto (-80), 3) := by decide +kernel
theorem dX9_lend_166 : decode cX9_lend 166 = .ok (.iload 6, 2) := by decide +kernel
theorem dX9_lend_168 : decode cX9_lend 168 = .ok (.ireturn, 1) := by decide +kernel
theorem dX9_take_0 : decode cX9_take 0 = .ok (.aload_n 0, 1) := by decide +kernel
theorem dX9_take_1 : decode cX9_take 1 = .ok (.iload_n 1, 1) := by decide +kernel
theorem dX9_take_2 : decode cX9_take 2 = .ok (.iload_n 2, 1) := by decide +kernel
theorem dX9_take_3 : decode cX9_take 3 = .ok (.invokevirtual 166, 3) := by decide +kernel
theorem dX9_take_6 : decode cX9_take 6 = .ok (.istore_n 3, 1) := by decide +kernel
theorem dX9_take_7 : decode cX9_take 7 = .ok (.iload_n 3, 1) := by decide +kernel
theorem dX9_take_8 : decode cX9_take 8 = .ok (.ifCond .ne 17, 3) := by decide +kernel
theorem dX9_take_11 : decode cX9_take 11 = .ok (.aload_n 0, 1) := by decide +kernel
theorem dX9_take_12 : decode cX9_take 12 = .ok (.getfield 9, 3) := by decide +kernel
theorem dX9_take_15 : decode cX9_take 15 = .ok (.iload_n 1, 1) := by decide +kernel
theorem dX9_take_16 : decode cX9_take 16 = .ok (.invokestatic 64, 3) := by decide +kernel
theorem dX9_take_19 : decode cX9_take 19 = .ok (.ifCond .ne 6, 3) := by decide +kernel
theorem dX9_take_22 : decode cX9_take 22 = .ok (.bipush (-3), 2) := by decide +kernel
theorem dX9_take_24 : decode cX9_take 24 = .ok (.istore_n 3, 1) := by decide +kernel
theorem dX9_take_25 : decode cX9_take 25 = .ok (.iload_n 3, 1) := by decide +kernel
theorem dX9_take_26 : decode cX9_take 26 = .ok (.ifCond .eq 9, 3) := by decide +kernel
theorem dX9_take_29 : decode cX9_take 29 = .ok (.aload_n 0, 1) := by decide +kernel
theorem dX9_take_30 : decode cX9_take 30 = .ok (.iload_n 3, 1) := by decide +kernel
theorem dX9_take_31 : decode cX9_take 31 = .ok (.invokevirtual 38, 3) := by decide +kernel
theorem dX9_take_34 : decode cX9_take 34 = .ok (.ireturn, 1) := by decide +kernel
theorem dX9_take_35 : decode cX9_take 35 = .ok (.bipush (-9), 2) := by decide +kernel
theorem dX9_take_37 : decode cX9_take 37 = .ok (.istore 4, 2) := by decide +kernel
theorem dX9_take_39 : decode cX9_take 39 = .ok (.aload_n 0, 1) := by decide +kernel
theorem dX9_take_40 : decode cX9_take 40 = .ok (.iload_n 1, 1) := by decide +kernel
theorem dX9_take_41 : decode cX9_take 41 = .ok (.iload_n 2, 1) := by decide +kernel
theorem dX9_take_42 : decode cX9_take 42 = .ok (.invokevirtual 169, 3) := by decide +kernel
theorem dX9_take_45 : decode cX9_take 45 = .ok (.istore 5, 2) := by decide +kernel
theorem dX9_take_47 : decode cX9_take 47 = .ok (.iconst 0, 1) := by decide +kernel
theorem dX9_take_48 : decode cX9_take 48 = .ok (.istore 6, 2) := by decide +kernel
theorem dX9_take_50 : decode cX9_take 50 = .ok (.iload 6, 2) := by decide +kernel
theorem dX9_take_52 : decode cX9_take 52 = .ok (.aload_n 0, 1) := by decide +kernel
theorem dX9_take_53 : decode cX9_take 53 = .ok (.getfield 9, 3) := by decide +kernel
theorem dX9_take_56 : decode cX9_take 56 = .ok (.iconst 0, 1) := by decide +kernel
theorem dX9_take_57 : decode cX9_take 57 = .ok (.iaload, 1) := by decide +kernel
theorem dX9_take_58 : decode cX9_take 58 = .ok (.if_icmp .ge 72, 3) := by decide +kernel
theorem dX9_take_61 : decode cX9_take 61 = .ok (.aload_n 0, 1) := by decide +kernel
theorem dX9_take_62 : decode cX9_take 62 = .ok (.getfield 9, 3) := by decide +kernel
theorem dX9_take_65 : decode cX9_take 65 = .ok (.iload 6, 2) := by decide +kernel
theorem dX9_take_67 : decode cX9_take 67 = .ok (.iload_n 1, 1) := by decide +kernel
theorem dX9_take_68 : decode cX9_take 68 = .ok (.invokestatic 118, 3) := by decide +kernel
theorem dX9_take_71 : decode cX9_take 71 = .ok (.ifCond .ne 6, 3) := by decide +kernel
theorem dX9_take_74 : decode cX9_take 74 = .ok (.goto 50, 3) := by decide +kernel
theorem dX9_take_77 : decode cX9_take 77 = .ok (.aload_n 0, 1) := by decide +kernel
theorem dX9_take_78 : decode cX9_take 78 = .ok (.getfield 9, 3) := by decide +kernel
theorem dX9_take_81 : decode cX9_take 81 = .ok (.aload_n 0, 1) := by decide +kernel
theorem dX9_take_82 : decode cX9_take 82 = .ok (.getfield 13, 3) := by decide +kernel
theorem dX9_take_85 : decode cX9_take 85 = .ok (.invokestatic 133, 3) := by decide +kernel
theorem dX9_take_88 : decode cX9_take 88 = .ok (.aload_n 0, 1) := by decide +kernel
theorem dX9_take_89 : decode cX9_take 89 = .ok (.getfield 13, 3) := by decide +kernel
theorem dX9_take_92 : decode cX9_take 92 = .ok (.iload 6, 2) := by decide +kernel
theorem dX9_take_94 : decode cX9_take 94 = .ok (.iload_n 1, 1) := by decide +kernel
theorem dX9_take_95 : decode cX9_take 95 = .ok (.invokestatic 122, 3) := by decide +kernel
theorem dX9_take_98 : decode cX9_take 98 = .ok (.aload_n 0, 1) := by decide +kernel
theorem dX9_take_99 : decode cX9_take 99 = .ok (.iload_n 1, 1) := by decide +kernel
theorem dX9_take_100 : decode cX9_take 100 = .ok (.iload_n 2, 1) := by decide +kernel
theorem dX9_take_101 : decode cX9_take 101 = .ok (.invokevirtual 163, 3) := by decide +kernel
theorem dX9_take_104 : decode cX9_take 104 = .ok (.istore 7, 2) := by decide +kernel
theorem dX9_take_106 : decode cX9_take 106 = .ok (.iload 7, 2) := by decide +kernel
theorem dX9_take_108 : decode cX9_take 108 = .ok (.iload 5, 2) := by decide +kernel
theorem dX9_take_110 : decode cX9_take 110 = .ok (.if_icmp .gt 6, 3) := by decide +kernel
theorem dX9_take_113 : decode cX9_take 113 = .ok (.goto 11, 3) := by decide +kernel
theorem dX9_take_116 : decode cX9_take 116 = .ok (.iload 6, 2) := by decide +kernel
theorem dX9_take_118 : decode cX9_take 118 = .ok (.istore 4, 2) := by decide +kernel
theorem dX9_take_120 : decode cX9_take 120 = .ok (.iload 7, 2) := by decide +kernel
theorem dX9_take_122 : decode cX9_take 122 = .ok (.istore 5, 2) := by decide +kernel
theorem dX9_take_124 : decode cX9_take 124 = .ok (.iinc 6 1, 3) := by decide +kernel
theorem dX9_take_127 : decode cX9_take 127 = .ok (.goto (-77), 3) := by decide +kernel
theorem dX9_take_130 : decode cX9_take 130 = .ok (.iload 4, 2) := by decide +kernel
theorem dX9_take_132 : decode cX9_take 132 = .ok (.ireturn, 1) := by decide +kernel
theorem dX9_keep_0 : decode cX9_keep 0 = .ok (.iload_n 1, 1) := by decide +kernel
theorem dX9_keep_1 : decode cX9_keep 1 = .ok (.bipush 24, 2) := by decide +kernel
theorem dX9_keep_3 : decode cX9_keep 3 = .ok (.invokestatic 150, 3) := by decide +kernel
theorem dX9_keep_6 : decode cX9_keep 6 = .ok (.istore_n 2, 1) := by decide +kernel
theorem dX9_keep_7 : decode cX9_keep 7 = .ok (.iload_n 2, 1) := by decide +kernel
theorem dX9_keep_8 : decode cX9_keep 8 = .ok (.ifCond .eq 9, 3) := by decide +kernel
theorem dX9_keep_11 : decode cX9_keep 11 = .ok (.aload_n 0, 1) := by decide +kernel
theorem dX9_keep_12 : decode cX9_keep 12 = .ok (.iload_n 2, 1) := by decide +kernel
theorem dX9_keep_13 : decode cX9_keep 13 = .ok (.invokevirtual 38, 3) := by decide +kernel
theorem dX9_keep_16 : decode cX9_keep 16 = .ok (.ireturn, 1) := by decide +kernel
theorem dX9_keep_17 : decode cX9_keep 17 = .ok (.bipush (-9), 2) := by decide +kernel
theorem dX9_keep_19 : decode cX9_keep 19 = .ok (.istore_n 3, 1) := by decide +kernel
theorem dX9_keep_20 : decode cX9_keep 20 = .ok (.aload_n 0, 1) := by decide +kernel
theorem dX9_keep_21 : decode cX9_keep 21 = .ok (.bipush (-9), 2) := by decide +kernel
theorem dX9_keep_23 : decode cX9_keep 23 = .ok (.iload_n 1, 1) := by decide +kernel
theorem dX9_keep_24 : decode cX9_keep 24 = .ok (.invokevirtual 169, 3) := by decide +kernel
theorem dX9_keep_27 : decode cX9_keep 27 = .ok (.istore 4, 2) := by decide +kernel
theorem dX9_keep_29 : decode cX9_keep 29 = .ok (.iconst 0, 1) := by decide +kernel
theorem dX9_keep_30 : decode cX9_keep 30 = .ok (.istore 5, 2) := by decide +kernel
theorem dX9_keep_32 : decode cX9_keep 32 = .ok (.iload 5, 2) := by decide +kernel
theorem dX9_keep_34 : decode cX9_keep 34 = .ok (.aload_n 0, 1) := by decide +kernel
theorem dX9_keep_35 : decode cX9_keep 35 = .ok (.getfield 9, 3) := by decide +kernel
theorem dX9_keep_38 : decode cX9_keep 38 = .ok (.iconst 0, 1) := by decide +kernel
theorem dX9_keep_39 : decode cX9_keep 39 = .ok (.iaload, 1) := by decide +kernel
theorem dX9_keep_40 : decode cX9_keep 40 = .ok (.if_icmp .ge 75, 3) := by decide +kernel
theorem dX9_keep_43 : decode cX9_keep 43 = .ok (.aload_n 0, 1) := by decide +kernel
theorem dX9_keep_44 : decode cX9_keep 44 = .ok (.getfield 9, 3) := by decide +kernel
theorem dX9_keep_47 : decode cX9_keep 47 = .ok (.iload 5, 2) := by decide +kernel
theorem dX9_keep_49 : decode cX9_keep 49 = .ok (.bipush 6, 2) := by decide +kernel
theorem dX9_keep_51 : decode cX9_keep 51 = .ok (.invokestatic 52, 3) := by decide +kernel
theorem dX9_keep_54 : decode cX9_keep 54 = .ok (.iaload, 1) := by decide +kernel
theorem dX9_keep_55 : decode cX9_keep 55 = .ok (.ifCond .ne 6, 3) := by decide +kernel
theorem dX9_keep_58 : decode cX9_keep 58 = .ok (.goto 51, 3) := by decide +kernel
theorem dX9_keep_61 : decode cX9_keep 61 = .ok (.aload_n 0, 1) := by decide +kernel
theorem dX9_keep_62 : decode cX9_keep 62 = .ok (.getfield 9, 3) := by decide +kernel
theorem dX9_keep_65 : decode cX9_keep 65 = .ok (.aload_n 0, 1) := by decide +kernel
theorem dX9_keep_66 : decode cX9_keep 66 = .ok (.getfield 13, 3) := by decide +kernel
theorem dX9_keep_69 : decode cX9_keep 69 = .ok (.invokestatic 133, 3) := by decide +kernel
theorem dX9_keep_72 : decode cX9_keep 72 = .ok (.aload_n 0, 1) := by decide +kernel
theorem dX9_keep_73 : decode cX9_keep 73 = .ok (.getfield 13, 3) := by decide +kernel
theorem dX9_keep_76 : decode cX9_keep 76 = .ok (.iload 5, 2) := by decide +kernel
theorem dX9_keep_78 : decode cX9_keep 78 = .ok (.invokestatic 81, 3) := by decide +kernel
theorem dX9_keep_81 : decode cX9_keep 81 = .ok (.istore 6, 2) := by decide +kernel
theorem dX9_keep_83 : decode cX9_keep 83 = .ok (.aload_n 0, 1) := by decide +kernel
theorem dX9_keep_84 : decode cX9_keep 84 = .ok (.bipush (-9), 2) := by decide +kernel
theorem dX9_keep_86 : decode cX9_keep 86 = .ok (.iload_n 1, 1) := by decide +kernel
theorem dX9_keep_87 : decode cX9_keep 87 = .ok (.invokevirtual 163, 3) := by decide +kernel
theorem dX9_keep_90 : decode cX9_keep 90 = .ok (.istore 7, 2) := by decide +kernel
theorem dX9_keep_92 : decode cX9_keep 92 = .ok (.iload 7, 2) := by decide +kernel
theorem dX9_keep_94 : decode cX9_keep 94 = .ok (.iload 4, 2) := by decide +kernel
theorem dX9_keep_96 : decode cX9_keep 96 = .ok (.if_icmp .gt 6, 3) := by decide +kernel
theorem dX9_keep_99 : decode cX9_keep 99 = .ok (.goto 10, 3) := by decide +kernel
theorem dX9_keep_102 : decode cX9_keep 102 = .ok (.iload 5, 2) := by decide +kernel
theorem dX9_keep_104 : decode cX9_keep 104 = .ok (.istore_n 3, 1) := by decide +kernel
theorem dX9_keep_105 : decode cX9_keep 105 = .ok (.iload 7, 2) := by decide +kernel
theorem dX9_keep_107 : decode cX9_keep 107 = .ok (.istore 4, 2) := by decide +kernel
theorem dX9_keep_109 : decode cX9_keep 109 = .ok (.iinc 5 1, 3) := by decide +kernel
theorem dX9_keep_112 : decode cX9_keep 112 = .ok (.goto (-80), 3) := by decide +kernel
theorem dX9_keep_115 : decode cX9_keep 115 = .ok (.iload_n 3, 1) := by decide +kernel
theorem dX9_keep_116 : decode cX9_keep 116 = .ok (.ireturn, 1) := by decide +kernel
theorem dX9_plainSet_0 : decode cX9_plainSet 0 = .ok (.iconst 0, 1) := by decide +kernel
theorem dX9_plainSet_1 : decode cX9_plainSet 1 = .ok (.istore_n 1, 1) := by decide +kernel
theorem dX9_plainSet_2 : decode cX9_plainSet 2 = .ok (.iconst 0, 1) := by decide +kernel
theorem dX9_plainSet_3 : decode cX9_plainSet 3 = .ok (.istore_n 2, 1) := by decide +kernel
theorem dX9_plainSet_4 : decode cX9_plainSet 4 = .ok (.iload_n 2, 1) := by decide +kernel
theorem dX9_plainSet_5 : decode cX9_plainSet 5 = .ok (.aload_n 0, 1) := by decide +kernel
theorem dX9_plainSet_6 : decode cX9_plainSet 6 = .ok (.iconst 0, 1) := by decide +kernel
theorem dX9_plainSet_7 : decode cX9_plainSet 7 = .ok (.iaload, 1) := by decide +kernel
theorem dX9_plainSet_8 : decode cX9_plainSet 8 = .ok (.if_icmp .ge 31, 3) := by decide +kernel
theorem dX9_plainSet_11 : decode cX9_plainSet 11 = .ok (.iload_n 1, 1) := by decide +kernel
theorem dX9_plainSet_12 : decode cX9_plainSet 12 = .ok (.aload_n 0, 1) := by decide +kernel
theorem dX9_plainSet_13 : decode cX9_plainSet 13 = .ok (.iload_n 2, 1) := by decide +kernel
theorem dX9_plainSet_14 : decode cX9_plainSet 14 = .ok (.iconst 3, 1) := by decide +kernel
theorem dX9_plainSet_15 : decode cX9_plainSet 15 = .ok (.invokestatic 52, 3) := by decide +kernel
theorem dX9_plainSet_18 : decode cX9_plainSet 18 = .ok (.iaload, 1) := by decide +kernel
theorem dX9_plainSet_19 : decode cX9_plainSet 19 = .ok (.bipush 9, 2) := by decide +kernel
theorem dX9_plainSet_21 : decode cX9_plainSet 21 = .ok (.if_icmp .ne 9, 3) := by decide +kernel
theorem dX9_plainSet_24 : decode cX9_plainSet 24 = .ok (.iconst 1, 1) := by decide +kernel
theorem dX9_plainSet_25 : decode cX9_plainSet 25 = .ok (.iload_n 2, 1) := by decide +kernel
theorem dX9_plainSet_26 : decode cX9_plainSet 26 = .ok (.ishl, 1) := by decide +kernel
theorem dX9_plainSet_27 : decode cX9_plainSet 27 = .ok (.goto 4, 3) := by decide +kernel
theorem dX9_plainSet_30 : decode cX9_plainSet 30 = .ok (.iconst 0, 1) := by decide +kernel
theorem dX9_plainSet_31 : decode cX9_plainSet 31 = .ok (.ior, 1) := by decide +kernel
theorem dX9_plainSet_32 : decode cX9_plainSet 32 = .ok (.istore_n 1, 1) := by decide +kernel
theorem dX9_plainSet_33 : decode cX9_plainSet 33 = .ok (.iinc 2 1, 3) := by decide +kernel
theorem dX9_plainSet_36 : decode cX9_plainSet 36 = .ok (.goto (-32), 3) := by decide +kernel
theorem dX9_plainSet_39 : decode cX9_plainSet 39 = .ok (.iload_n 1, 1) := by decide +kernel
theorem dX9_plainSet_40 : decode cX9_plainSet 40 = .ok (.ireturn, 1) := by decide +kernel
theorem dX9_chained_0 : decode cX9_chained 0 = .ok (.iload_n 1, 1) := by decide +kernel
theorem dX9_chained_1 : decode cX9_chained 1 = .ok (.iconst 0, 1) := by decide +kernel
theorem dX9_chained_2 : decode cX9_chained 2 = .ok (.iconst 2, 1) := by decide +kernel
theorem dX9_chained_3 : decode cX9_chained 3 = .ok (.invokestatic 44, 3) := by decide +kernel
theorem dX9_chained_6 : decode cX9_chained 6 = .ok (.ifCond .ne 10, 3) := by decide +kernel
theorem dX9_chained_9 : decode cX9_chained 9 = .ok (.aload_n 0, 1) := by decide +kernel
theorem dX9_chained_10 : decode cX9_chained 10 = .ok (.bipush (-2), 2) := by decide +kernel
theorem dX9_chained_12 : decode cX9_chained 12 = .ok (.invokevirtual 38, 3) := by decide +kernel
theorem dX9_chained_15 : decode cX9_chained 15 = .ok (.ireturn, 1) := by decide +kernel
theorem dX9_chained_16 : decode cX9_chained 16 = .ok (.iload_n 1, 1) := by decide +kernel
theorem dX9_chained_17 : decode cX9_chained 17 = .ok (.iconst 1, 1) := by decide +kernel
theorem dX9_chained_18 : decode cX9_chained 18 = .ok (.if_icmp .ne 11, 3) := by decide +kernel
theorem dX9_chained_21 : decode cX9_chained 21 = .ok (.aload_n 0, 1) := by decide +kernel
theorem dX9_chained_22 : decode cX9_chained 22 = .ok (.getfield 9, 3) := by decide +kernel
theorem dX9_chained_25 : decode cX9_chained 25 = .ok (.invokestatic 172, 3) := by decide +kernel
theorem dX9_chained_28 : decode cX9_chained 28 = .ok (.ireturn, 1) := by decide +kernel
theorem dX9_chained_29 : decode cX9_chained 29 = .ok (.iconst 0, 1) := by decide +kernel
theorem dX9_chained_30 : decode cX9_chained 30 = .ok (.istore_n 2, 1) := by decide +kernel
theorem dX9_chained_31 : decode cX9_chained 31 = .ok (.iconst 0, 1) := by decide +kernel
theorem dX9_chained_32 : decode cX9_chained 32 = .ok (.istore_n 3, 1) := by decide +kernel
theorem dX9_chained_33 : decode cX9_chained 33 = .ok (.iconst 0, 1) := by decide +kernel
theorem dX9_chained_34 : decode cX9_chained 34 = .ok (.istore 4, 2) := by decide +kernel
theorem dX9_chained_36 : decode cX9_chained 36 = .ok (.iload 4, 2) := by decide +kernel
theorem dX9_chained_38 : decode cX9_chained 38 = .ok (.aload_n 0, 1) := by decide +kernel
theorem dX9_chained_39 : decode cX9_chained 39 = .ok (.getfield 9, 3) := by decide +kernel
theorem dX9_chained_42 : decode cX9_chained 42 = .ok (.iconst 0, 1) := by decide +kernel
theorem dX9_chained_43 : decode cX9_chained 43 = .ok (.iaload, 1) := by decide +kernel
theorem dX9_chained_44 : decode cX9_chained 44 = .ok (.if_icmp .ge 62, 3) := by decide +kernel
theorem dX9_chained_47 : decode cX9_chained 47 = .ok (.aload_n 0, 1) := by decide +kernel
theorem dX9_chained_48 : decode cX9_chained 48 = .ok (.getfield 9, 3) := by decide +kernel
theorem dX9_chained_51 : decode cX9_chained 51 = .ok (.iload 4, 2) := by decide +kernel
theorem dX9_chained_53 : decode cX9_chained 53 = .ok (.iconst 3, 1) := by decide +kernel
theorem dX9_chained_54 : decode cX9_chained 54 = .ok (.invokestatic 52, 3) := by decide +kernel
theorem dX9_chained_57 : decode cX9_chained 57 = .ok (.iaload, 1) := by decide +kernel
theorem dX9_chained_58 : decode cX9_chained 58 = .ok (.istore 5, 2) := by decide +kernel
theorem dX9_chained_60 : decode cX9_chained 60 = .ok (.iload_n 2, 1) := by decide +kernel
theorem dX9_chained_61 : decode cX9_chained 61 = .ok (.iload 5, 2) := by decide +kernel
theorem dX9_chained_63 : decode cX9_chained 63 = .ok (.bipush 9, 2) := by decide +kernel
theorem dX9_chained_65 : decode cX9_chained 65 = .ok (.if_icmp .eq 14, 3) := by decide +kernel
theorem dX9_chained_68 : decode cX9_chained 68 = .ok (.iload 5, 2) := by decide +kernel
theorem dX9_chained_70 : decode cX9_chained 70 = .ok (.iload 4, 2) := by decide +kernel
theorem dX9_chained_72 : decode cX9_chained 72 = .ok (.if_icmp .eq 7, 3) := by decide +kernel
theorem dX9_chained_75 : decode cX9_chained 75 = .ok (.iconst 1, 1) := by decide +kernel
theorem dX9_chained_76 : decode cX9_chained 76 = .ok (.goto 4, 3) := by decide +kernel
theorem dX9_chained_79 : decode cX9_chained 79 = .ok (.iconst 0, 1) := by decide +kernel
theorem dX9_chained_80 : decode cX9_chained 80 = .ok (.iadd, 1) := by decide +kernel
theorem dX9_chained_81 : decode cX9_chained 81 = .ok (.istore_n 2, 1) := by decide +kernel
theorem dX9_chained_82 : decode cX9_chained 82 = .ok (.iload_n 3, 1) := by decide +kernel
theorem dX9_chained_83 : decode cX9_chained 83 = .ok (.iload 5, 2) := by decide +kernel
theorem dX9_chained_85 : decode cX9_chained 85 = .ok (.bipush 9, 2) := by decide +kernel
theorem dX9_chained_87 : decode cX9_chained 87 = .ok (.if_icmp .ne 7, 3) := by decide +kernel
theorem dX9_chained_90 : decode cX9_chained 90 = .ok (.iconst 0, 1) := by decide +kernel
theorem dX9_chained_91 : decode cX9_chained 91 = .ok (.goto 7, 3) := by decide +kernel
theorem dX9_chained_94 : decode cX9_chained 94 = .ok (.iconst 1, 1) := by decide +kernel
theorem dX9_chained_95 : decode cX9_chained 95 = .ok (.iload 5, 2) := by decide +kernel
theorem dX9_chained_97 : decode cX9_chained 97 = .ok (.ishl, 1) := by decide +kernel
theorem dX9_chained_98 : decode cX9_chained 98 = .ok (.ior, 1) := by decide +kernel
theorem dX9_chained_99 : decode cX9_chained 99 = .ok (.istore_n 3, 1) := by decide +kernel
theorem dX9_chained_100 : decode cX9_chained 100 = .ok (.iinc 4 1, 3) := by decide +kernel
theorem dX9_chained_103 : decode cX9_chained 103 = .ok (.goto (-67), 3) := by decide +kernel
theorem dX9_chained_106 : decode cX9_chained 106 = .ok (.iload_n 1, 1) := by decide +kernel
theorem dX9_chained_107 : decode cX9_chained 107 = .ok (.ifCond .ne 7, 3) := by decide +kernel
theorem dX9_chained_110 : decode cX9_chained 110 = .ok (.iload_n 2, 1) := by decide +kernel
theorem dX9_chained_111 : decode cX9_chained 111 = .ok (.goto 4, 3) := by decide +kernel
theorem dX9_chained_114 : decode cX9_chained 114 = .ok (.iload_n 3, 1) := by decide +kernel
theorem dX9_chained_115 : decode cX9_chained 115 = .ok (.ireturn, 1) := by decide +kernel
theorem dX9_pairsBy_0 : decode cX9_pairsBy 0 = .ok (.aload_n 0, 1) := by decide +kernel
theorem dX9_pairsBy_1 : decode cX9_pairsBy 1 = .ok (.getfield 9, 3) := by decide +kernel
theorem dX9_pairsBy_4 : decode cX9_pairsBy 4 = .ok (.aload_n 0, 1) := by decide +kernel
theorem dX9_pairsBy_5 : decode cX9_pairsBy 5 = .ok (.getfield 13, 3) := by decide +kernel
theorem dX9_pairsBy_8 : decode cX9_pairsBy 8 = .ok (.invokestatic 133, 3) := by decide +kernel
theorem dX9_pairsBy_11 : decode cX9_pairsBy 11 = .ok (.iconst 0, 1) := by decide +kernel
theorem dX9_pairsBy_12 : decode cX9_pairsBy 12 = .ok (.istore_n 2, 1) := by decide +kernel
theorem dX9_pairsBy_13 : decode cX9_pairsBy 13 = .ok (.bipush (-9), 2) := by decide +kernel
theorem dX9_pairsBy_15 : decode cX9_pairsBy 15 = .ok (.istore_n 3, 1) := by decide +kernel
theorem dX9_pairsBy_16 : decode cX9_pairsBy 16 = .ok (.iconst 0, 1) := by decide +kernel
theorem dX9_pairsBy_17 : decode cX9_pairsBy 17 = .ok (.istore 4, 2) := by decide +kernel
theorem dX9_pairsBy_19 : decode cX9_pairsBy 19 = .ok (.iload 4, 2) := by decide +kernel
theorem dX9_pairsBy_21 : decode cX9_pairsBy 21 = .ok (.aload_n 0, 1) := by decide +kernel
theorem dX9_pairsBy_22 : decode cX9_pairsBy 22 = .ok (.getfield 9, 3) := by decide +kernel
theorem dX9_pairsBy_25 : decode cX9_pairsBy 25 = .ok (.iconst 0, 1) := by decide +kernel
theorem dX9_pairsBy_26 : decode cX9_pairsBy 26 = .ok (.iaload, 1) := by decide +kernel
theorem dX9_pairsBy_27 : decode cX9_pairsBy 27 = .ok (.if_icmp .ge 75, 3) := by decide +kernel
theorem dX9_pairsBy_30 : decode cX9_pairsBy 30 = .ok (.aload_n 0, 1) := by decide +kernel
theorem dX9_pairsBy_31 : decode cX9_pairsBy 31 = .ok (.getfield 9, 3) := by decide +kernel
theorem dX9_pairsBy_34 : decode cX9_pairsBy 34 = .ok (.iload 4, 2) := by decide +kernel
theorem dX9_pairsBy_36 : decode cX9_pairsBy 36 = .ok (.invokestatic 64, 3) := by decide +kernel
theorem dX9_pairsBy_39 : decode cX9_pairsBy 39 = .ok (.ifCond .ne 6, 3) := by decide +kernel
theorem dX9_pairsBy_42 : decode cX9_pairsBy 42 = .ok (.goto 54, 3) := by decide +kernel
theorem dX9_pairsBy_45 : decode cX9_pairsBy 45 = .ok (.iload_n 3, 1) := by decide +kernel
theorem dX9_pairsBy_46 : decode cX9_pairsBy 46 = .ok (.ifCond .ge 9, 3) := by decide +kernel
theorem dX9_pairsBy_49 : decode cX9_pairsBy 49 = .ok (.iload 4, 2) := by decide +kernel
theorem dX9_pairsBy_51 : decode cX9_pairsBy 51 = .ok (.istore_n 3, 1) := by decide +kernel
theorem dX9_pairsBy_52 : decode cX9_pairsBy 52 = .ok (.goto 44, 3) := by decide +kernel
theorem dX9_pairsBy_55 : decode cX9_pairsBy 55 = .ok (.aload_n 0, 1) := by decide +kernel
theorem dX9_pairsBy_56 : decode cX9_pairsBy 56 = .ok (.getfield 13, 3) := by decide +kernel
theorem dX9_pairsBy_59 : decode cX9_pairsBy 59 = .ok (.iload_n 1, 1) := by decide +kernel
theorem dX9_pairsBy_60 : decode cX9_pairsBy 60 = .ok (.iload_n 2, 1) := by decide +kernel
theorem dX9_pairsBy_61 : decode cX9_pairsBy 61 = .ok (.invokestatic 56, 3) := by decide +kernel
theorem dX9_pairsBy_64 : decode cX9_pairsBy 64 = .ok (.ifCond .eq 8, 3) := by decide +kernel
theorem dX9_pairsBy_67 : decode cX9_pairsBy 67 = .ok (.iload 4, 2) := by decide +kernel
theorem dX9_pairsBy_69 : decode cX9_pairsBy 69 = .ok (.goto 4, 3) := by decide +kernel
theorem dX9_pairsBy_72 : decode cX9_pairsBy 72 = .ok (.iload_n 3, 1) := by decide +kernel
theorem dX9_pairsBy_73 : decode cX9_pairsBy 73 = .ok (.iload_n 1, 1) := by decide +kernel
theorem dX9_pairsBy_74 : decode cX9_pairsBy 74 = .ok (.iload_n 2, 1) := by decide +kernel
theorem dX9_pairsBy_75 : decode cX9_pairsBy 75 = .ok (.invokestatic 56, 3) := by decide +kernel
theorem dX9_pairsBy_78 : decode cX9_pairsBy 78 = .ok (.ifCond .eq 7, 3) := by decide +kernel
theorem dX9_pairsBy_81 : decode cX9_pairsBy 81 = .ok (.iload_n 3, 1) := by decide +kernel
theorem dX9_pairsBy_82 : decode cX9_pairsBy 82 = .ok (.goto 5, 3) := by decide +kernel
theorem dX9_pairsBy_85 : decode cX9_pairsBy 85 = .ok (.iload 4, 2) := by decide +kernel
theorem dX9_pairsBy_87 : decode cX9_pairsBy 87 = .ok (.invokestatic 122, 3) := by decide +kernel
theorem dX9_pairsBy_90 : decode cX9_pairsBy 90 = .ok (.bipush (-9), 2) := by decide +kernel
theorem dX9_pairsBy_92 : decode cX9_pairsBy 92 = .ok (.istore_n 3, 1) := by decide +kernel
theorem dX9_pairsBy_93 : decode cX9_pairsBy 93 = .ok (.iinc 2 1, 3) := by decide +kernel
theorem dX9_pairsBy_96 : decode cX9_pairsBy 96 = .ok (.iinc 4 1, 3) := by decide +kernel
theorem dX9_pairsBy_99 : decode cX9_pairsBy 99 = .ok (.goto (-80), 3) := by decide +kernel
theorem dX9_pairsBy_102 : decode cX9_pairsBy 102 = .ok (.iload_n 2, 1) := by decide +kernel
theorem dX9_pairsBy_103 : decode cX9_pairsBy 103 = .ok (.ireturn, 1) := by decide +kernel
theorem dX9_lot_0 : decode cX9_lot 0 = .ok (.iload_n 1, 1) := by decide +kernel
theorem dX9_lot_1 : decode cX9_lot 1 = .ok (.iconst 0, 1) := by decide +kernel
theorem dX9_lot_2 : decode cX9_lot 2 = .ok (.iconst 1, 1) := by decide +kernel
theorem dX9_lot_3 : decode cX9_lot 3 = .ok (.invokestatic 44, 3) := by decide +kernel
theorem dX9_lot_6 : decode cX9_lot 6 = .ok (.ifCond .ne 10, 3) := by decide +kernel
theorem dX9_lot_9 : decode cX9_lot 9 = .ok (.aload_n 0, 1) := by decide +kernel
theorem dX9_lot_10 : decode cX9_lot 10 = .ok (.bipush (-2), 2) := by decide +kernel
theorem dX9_lot_12 : decode cX9_lot 12 = .ok (.invokevirtual 143, 3) := by decide +kernel
theorem dX9_lot_15 : decode cX9_lot 15 = .ok (.ireturn, 1) := by decide +kernel
theorem dX9_lot_16 : decode cX9_lot 16 = .ok (.aload_n 0, 1) := by decide +kernel
theorem dX9_lot_17 : decode cX9_lot 17 = .ok (.iconst 0, 1) := by decide +kernel
theorem dX9_lot_18 : decode cX9_lot 18 = .ok (.invokevirtual 175, 3) := by decide +kernel
theorem dX9_lot_21 : decode cX9_lot 21 = .ok (.istore_n 2, 1) := by decide +kernel
theorem dX9_lot_22 : decode cX9_lot 22 = .ok (.iconst 0, 1) := by decide +kernel
theorem dX9_lot_23 : decode cX9_lot 23 = .ok (.istore_n 3, 1) := by decide +kernel
theorem dX9_lot_24 : decode cX9_lot 24 = .ok (.ldc 178, 2) := by decide +kernel
theorem dX9_lot_26 : decode cX9_lot 26 = .ok (.istore 4, 2) := by decide +kernel
theorem dX9_lot_28 : decode cX9_lot 28 = .ok (.iconst 0, 1) := by decide +kernel
theorem dX9_lot_29 : decode cX9_lot 29 = .ok (.istore 5, 2) := by decide +kernel
theorem dX9_lot_31 : decode cX9_lot 31 = .ok (.iload 5, 2) := by decide +kernel
theorem dX9_lot_33 : decode cX9_lot 33 = .ok (.iconst 1, 1) := by decide +kernel
theorem dX9_lot_34 : decode cX9_lot 34 = .ok (.iload_n 2, 1) := by decide +kernel
theorem dX9_lot_35 : decode cX9_lot 35 = .ok (.ishl, 1) := by decide +kernel
theorem dX9_lot_36 : decode cX9_lot 36 = .ok (.if_icmp .ge 44, 3) := by decide +kernel
theorem dX9_lot_39 : decode cX9_lot 39 = .ok (.aload_n 0, 1) := by decide +kernel
theorem dX9_lot_40 : decode cX9_lot 40 = .ok (.iload 5, 2) := by decide +kernel
theorem dX9_lot_42 : decode cX9_lot 42 = .ok (.invokevirtual 175, 3) := by decide +kernel
theorem dX9_lot_45 : decode cX9_lot 45 = .ok (.istore 6, 2) := by decide +kernel
theorem dX9_lot_47 : decode cX9_lot 47 = .ok (.aload_n 0, 1) := by decide +kernel
theorem dX9_lot_48 : decode cX9_lot 48 = .ok (.bipush (-9), 2) := by decide +kernel
theorem dX9_lot_50 : decode cX9_lot 50 = .ok (.bipush 12, 2) := by decide +kernel
theorem dX9_lot_52 : decode cX9_lot 52 = .ok (.invokevirtual 163, 3) := by decide +kernel
theorem dX9_lot_55 : decode cX9_lot 55 = .ok (.istore 7, 2) := by decide +kernel
theorem dX9_lot_57 : decode cX9_lot 57 = .ok (.iload 7, 2) := by decide +kernel
theorem dX9_lot_59 : decode cX9_lot 59 = .ok (.iload 4, 2) := by decide +kernel
theorem dX9_lot_61 : decode cX9_lot 61 = .ok (.if_icmp .gt 6, 3) := by decide +kernel
theorem dX9_lot_64 : decode cX9_lot 64 = .ok (.goto 10, 3) := by decide +kernel
theorem dX9_lot_67 : decode cX9_lot 67 = .ok (.iload 5, 2) := by decide +kernel
theorem dX9_lot_69 : decode cX9_lot 69 = .ok (.istore_n 3, 1) := by decide +kernel
theorem dX9_lot_70 : decode cX9_lot 70 = .ok (.iload 7, 2) := by decide +kernel
theorem dX9_lot_72 : decode cX9_lot 72 = .ok (.istore 4, 2) := by decide +kernel
theorem dX9_lot_74 : decode cX9_lot 74 = .ok (.iinc 5 1, 3) := by decide +kernel
theorem dX9_lot_77 : decode cX9_lot 77 = .ok (.goto (-46), 3) := by decide +kernel
theorem dX9_lot_80 : decode cX9_lot 80 = .ok (.iload_n 1, 1) := by decide +kernel
theorem dX9_lot_81 : decode cX9_lot 81 = .ok (.ifCond .ne 7, 3) := by decide +kernel
theorem dX9_lot_84 : decode cX9_lot 84 = .ok (.iload_n 3, 1) := by decide +kernel
theorem dX9_lot_85 : decode cX9_lot 85 = .ok (.goto 5, 3) := by decide +kernel
theorem dX9_lot_88 : decode cX9_lot 88 = .ok (.iload 4, 2) := by decide +kernel
theorem dX9_lot_90 : decode cX9_lot 90 = .ok (.ireturn, 1) := by decide +kernel
theorem dX9_isFamedBehind_0 : decode cX9_isFamedBehind 0 = .ok (.aload_n 1, 1) := by decide +kernel
theorem dX9_isFamedBehind_1 : decode cX9_isFamedBehind 1 = .ok (.aload_n 0, 1) := by decide +kernel
theorem dX9_isFamedBehind_2 : decode cX9_isFamedBehind 2 = .ok (.getfield 13, 3) := by decide +kernel
theorem dX9_isFamedBehind_5 : decode cX9_isFamedBehind 5 = .ok (.invokestatic 133, 3) := by decide +kernel
theorem dX9_isFamedBehind_8 : decode cX9_isFamedBehind 8 = .ok (.aload_n 0, 1) := by decide +kernel
theorem dX9_isFamedBehind_9 : decode cX9_isFamedBehind 9 = .ok (.getfield 13, 3) := by decide +kernel
theorem dX9_isFamedBehind_12 : decode cX9_isFamedBehind 12 = .ok (.bipush 12, 2) := by decide +kernel
theorem dX9_isFamedBehind_14 : decode cX9_isFamedBehind 14 = .ok (.invokestatic 126, 3) := by decide +kernel
theorem dX9_isFamedBehind_17 : decode cX9_isFamedBehind 17 = .ok (.aload_n 0, 1) := by decide +kernel
theorem dX9_isFamedBehind_18 : decode cX9_isFamedBehind 18 = .ok (.getfield 13, 3) := by decide +kernel
theorem dX9_isFamedBehind_21 : decode cX9_isFamedBehind 21 = .ok (.iload_n 2, 1) := by decide +kernel
theorem dX9_isFamedBehind_22 : decode cX9_isFamedBehind 22 = .ok (.iconst 4, 1) := by decide +kernel
theorem dX9_isFamedBehind_23 : decode cX9_isFamedBehind 23 = .ok (.invokestatic 52, 3) := by decide +kernel
theorem dX9_isFamedBehind_26 : decode cX9_isFamedBehind 26 = .ok (.iaload, 1) := by decide +kernel
theorem dX9_isFamedBehind_27 : decode cX9_isFamedBehind 27 = .ok (.iload_n 3, 1) := by decide +kernel
theorem dX9_isFamedBehind_28 : decode cX9_isFamedBehind 28 = .ok (.if_icmp .lt 7, 3) := by decide +kernel
theorem dX9_isFamedBehind_31 : decode cX9_isFamedBehind 31 = .ok (.iconst 1, 1) := by decide +kernel
theorem dX9_isFamedBehind_32 : decode cX9_isFamedBehind 32 = .ok (.goto 4, 3) := by decide +kernel
theorem dX9_isFamedBehind_35 : decode cX9_isFamedBehind 35 = .ok (.iconst 0, 1) := by decide +kernel
theorem dX9_isFamedBehind_36 : decode cX9_isFamedBehind 36 = .ok (.ireturn, 1) := by decide +kernel
theorem dX9_canBeBy_0 : decode cX9_canBeBy 0 = .ok (.iconst 0, 1) := by decide +kernel
theorem dX9_canBeBy_1 : decode cX9_canBeBy 1 = .ok (.istore_n 3, 1) := by decide +kernel
theorem dX9_canBeBy_2 : decode cX9_canBeBy 2 = .ok (.iload_n 3, 1) := by decide +kernel
theorem dX9_canBeBy_3 : decode cX9_canBeBy 3 = .ok (.aload_n 0, 1) := by decide +kernel
theorem dX9_canBeBy_4 : decode cX9_canBeBy 4 = .ok (.getfield 9, 3) := by decide +kernel
theorem dX9_canBeBy_7 : decode cX9_canBeBy 7 = .ok (.iconst 0, 1) := by decide +kernel
theorem dX9_canBeBy_8 : decode cX9_canBeBy 8 = .ok (.iaload, 1) := by decide +kernel
theorem dX9_canBeBy_9 : decode cX9_canBeBy 9 = .ok (.if_icmp .ge 81, 3) := by decide +kernel
theorem dX9_canBeBy_12 : decode cX9_canBeBy 12 = .ok (.iconst 0, 1) := by decide +kernel
theorem dX9_canBeBy_13 : decode cX9_canBeBy 13 = .ok (.istore 4, 2) := by decide +kernel
theorem dX9_canBeBy_15 : decode cX9_canBeBy 15 = .ok (.iload 4, 2) := by decide +kernel
theorem dX9_canBeBy_17 : decode cX9_canBeBy 17 = .ok (.aload_n 0, 1) := by decide +kernel
theorem dX9_canBeBy_18 : decode cX9_canBeBy 18 = .ok (.getfield 9, 3) := by decide +kernel
theorem dX9_canBeBy_21 : decode cX9_canBeBy 21 = .ok (.iconst 0, 1) := by decide +kernel
theorem dX9_canBeBy_22 : decode cX9_canBeBy 22 = .ok (.iaload, 1) := by decide +kernel
theorem dX9_canBeBy_23 : decode cX9_canBeBy 23 = .ok (.if_icmp .ge 61, 3) := by decide +kernel
theorem dX9_canBeBy_26 : decode cX9_canBeBy 26 = .ok (.aload_n 0, 1) := by decide +kernel
theorem dX9_canBeBy_27 : decode cX9_canBeBy 27 = .ok (.getfield 22, 3) := by decide +kernel
theorem dX9_canBeBy_30 : decode cX9_canBeBy 30 = .ok (.iload_n 3, 1) := by decide +kernel
theorem dX9_canBeBy_31 : decode cX9_canBeBy 31 = .ok (.iload 4, 2) := by decide +kernel
theorem dX9_canBeBy_33 : decode cX9_canBeBy 33 = .ok (.invokestatic 118, 3) := by decide +kernel
theorem dX9_canBeBy_36 : decode cX9_canBeBy 36 = .ok (.ifCond .ne 6, 3) := by decide +kernel
theorem dX9_canBeBy_39 : decode cX9_canBeBy 39 = .ok (.goto 39, 3) := by decide +kernel
theorem dX9_canBeBy_42 : decode cX9_canBeBy 42 = .ok (.aload_n 0, 1) := by decide +kernel
theorem dX9_canBeBy_43 : decode cX9_canBeBy 43 = .ok (.getfield 22, 3) := by decide +kernel
theorem dX9_canBeBy_46 : decode cX9_canBeBy 46 = .ok (.aload_n 0, 1) := by decide +kernel
theorem dX9_canBeBy_47 : decode cX9_canBeBy 47 = .ok (.getfield 19, 3) := by decide +kernel
theorem dX9_canBeBy_50 : decode cX9_canBeBy 50 = .ok (.invokestatic 133, 3) := by decide +kernel
theorem dX9_canBeBy_53 : decode cX9_canBeBy 53 = .ok (.aload_n 0, 1) := by decide +kernel
theorem dX9_canBeBy_54 : decode cX9_canBeBy 54 = .ok (.getfield 19, 3) := by decide +kernel
theorem dX9_canBeBy_57 : decode cX9_canBeBy 57 = .ok (.iload_n 3, 1) := by decide +kernel
theorem dX9_canBeBy_58 : decode cX9_canBeBy 58 = .ok (.iload 4, 2) := by decide +kernel
theorem dX9_canBeBy_60 : decode cX9_canBeBy 60 = .ok (.invokestatic 122, 3) := by decide +kernel
theorem dX9_canBeBy_63 : decode cX9_canBeBy 63 = .ok (.aload_n 0, 1) := by decide +kernel
theorem dX9_canBeBy_64 : decode cX9_canBeBy 64 = .ok (.aload_n 0, 1) := by decide +kernel
theorem dX9_canBeBy_65 : decode cX9_canBeBy 65 = .ok (.getfield 19, 3) := by decide +kernel
theorem dX9_canBeBy_68 : decode cX9_canBeBy 68 = .ok (.iload_n 1, 1) := by decide +kernel
theorem dX9_canBeBy_69 : decode cX9_canBeBy 69 = .ok (.iload_n 2, 1) := by decide +kernel
theorem dX9_canBeBy_70 : decode cX9_canBeBy 70 = .ok (.invokevirtual 179, 3) := by decide +kernel
theorem dX9_canBeBy_73 : decode cX9_canBeBy 73 = .ok (.ifCond .eq 5, 3) := by decide +kernel
theorem dX9_canBeBy_76 : decode cX9_canBeBy 76 = .ok (.iconst 1, 1) := by decide +kernel
theorem dX9_canBeBy_77 : decode cX9_canBeBy 77 = .ok (.ireturn, 1) := by decide +kernel
theorem dX9_canBeBy_78 : decode cX9_canBeBy 78 = .ok (.iinc 4 1, 3) := by decide +kernel
theorem dX9_canBeBy_81 : decode cX9_canBeBy 81 = .ok (.goto (-66), 3) := by decide +kernel
theorem dX9_canBeBy_84 : decode cX9_canBeBy 84 = .ok (.iinc 3 1, 3) := by decide +kernel
theorem dX9_canBeBy_87 : decode cX9_canBeBy 87 = .ok (.goto (-85), 3) := by decide +kernel
theorem dX9_canBeBy_90 : decode cX9_canBeBy 90 = .ok (.iconst 0, 1) := by decide +kernel
theorem dX9_canBeBy_91 : decode cX9_canBeBy 91 = .ok (.ireturn, 1) := by decide +kernel
theorem dX9_firstLender_0 : decode cX9_firstLender 0 = .ok (.iconst 0, 1) := by decide +kernel
theorem dX9_firstLender_1 : decode cX9_firstLender 1 = .ok (.istore 4, 2) := by decide +kernel
theorem dX9_firstLender_3 : decode cX9_firstLender 3 = .ok (.iload 4, 2) := by decide +kernel
theorem dX9_firstLender_5 : decode cX9_firstLender 5 = .ok (.aload_n 0, 1) := by decide +kernel
theorem dX9_firstLender_6 : decode cX9_firstLender 6 = .ok (.getfield 9, 3) := by decide +kernel
theorem dX9_firstLender_9 : decode cX9_firstLender 9 = .ok (.iconst 0, 1) := by decide +kernel
theorem dX9_firstLender_10 : decode cX9_firstLender 10 = .ok (.iaload, 1) := by decide +kernel
theorem dX9_firstLender_11 : decode cX9_firstLender 11 = .ok (.if_icmp .ge 101, 3) := by decide +kernel
theorem dX9_firstLender_14 : decode cX9_firstLender 14 = .ok (.iconst 0, 1) := by decide +kernel
theorem dX9_firstLender_15 : decode cX9_firstLender 15 = .ok (.istore 5, 2) := by decide +kernel
theorem dX9_firstLender_17 : decode cX9_firstLender 17 = .ok (.iload 5, 2) := by decide +kernel
theorem dX9_firstLender_19 : decode cX9_firstLender 19 = .ok (.aload_n 0, 1) := by decide +kernel
theorem dX9_firstLender_20 : decode cX9_firstLender 20 = .ok (.getfield 9, 3) := by decide +kernel
theorem dX9_firstLender_23 : decode cX9_firstLender 23 = .ok (.iconst 0, 1) := by decide +kernel
theorem dX9_firstLender_24 : decode cX9_firstLender 24 = .ok (.iaload, 1) := by decide +kernel
theorem dX9_firstLender_25 : decode cX9_firstLender 25 = .ok (.if_icmp .ge 81, 3) := by decide +kernel
theorem dX9_firstLender_28 : decode cX9_firstLender 28 = .ok (.aload_n 0, 1) := by decide +kernel
theorem dX9_firstLender_29 : decode cX9_firstLender 29 = .ok (.getfield 9, 3) := by decide +kernel
theorem dX9_firstLender_32 : decode cX9_firstLender 32 = .ok (.iload 4, 2) := by decide +kernel
theorem dX9_firstLender_34 : decode cX9_firstLender 34 = .ok (.iload 5, 2) := by decide +kernel
theorem dX9_firstLender_36 : decode cX9_firstLender 36 = .ok (.invokestatic 118, 3) := by decide +kernel
theorem dX9_firstLender_39 : decode cX9_firstLender 39 = .ok (.ifCond .ne 6, 3) := by decide +kernel
theorem dX9_firstLender_42 : decode cX9_firstLender 42 = .ok (.goto 58, 3) := by decide +kernel
theorem dX9_firstLender_45 : decode cX9_firstLender 45 = .ok (.aload_n 0, 1) := by decide +kernel
theorem dX9_firstLender_46 : decode cX9_firstLender 46 = .ok (.getfield 9, 3) := by decide +kernel
theorem dX9_firstLender_49 : decode cX9_firstLender 49 = .ok (.aload_n 0, 1) := by decide +kernel
theorem dX9_firstLender_50 : decode cX9_firstLender 50 = .ok (.getfield 22, 3) := by decide +kernel
theorem dX9_firstLender_53 : decode cX9_firstLender 53 = .ok (.invokestatic 133, 3) := by decide +kernel
theorem dX9_firstLender_56 : decode cX9_firstLender 56 = .ok (.aload_n 0, 1) := by decide +kernel
theorem dX9_firstLender_57 : decode cX9_firstLender 57 = .ok (.getfield 22, 3) := by decide +kernel
theorem dX9_firstLender_60 : decode cX9_firstLender 60 = .ok (.iload 4, 2) := by decide +kernel
theorem dX9_firstLender_62 : decode cX9_firstLender 62 = .ok (.iload 5, 2) := by decide +kernel
theorem dX9_firstLender_64 : decode cX9_firstLender 64 = .ok (.invokestatic 122, 3) := by decide +kernel
theorem dX9_firstLender_67 : decode cX9_firstLender 67 = .ok (.iload_n 3, 1) := by decide +kernel
theorem dX9_firstLender_68 : decode cX9_firstLender 68 = .ok (.iconst 1, 1) := by decide +kernel
theorem dX9_firstLender_69 : decode cX9_firstLender 69 = .ok (.if_icmp .ne 19, 3) := by decide +kernel
theorem dX9_firstLender_72 : decode cX9_firstLender 72 = .ok (.aload_n 0, 1) := by decide +kernel
theorem dX9_firstLender_73 : decode cX9_firstLender 73 = .ok (.aload_n 0, 1) := by decide +kernel
theorem dX9_firstLender_74 : decode cX9_firstLender 74 = .ok (.getfield 22, 3) := by decide +kernel
theorem dX9_firstLender_77 : decode cX9_firstLender 77 = .ok (.iload_n 1, 1) := by decide +kernel
theorem dX9_firstLender_78 : decode cX9_firstLender 78 = .ok (.iload_n 2, 1) := by decide +kernel
theorem dX9_firstLender_79 : decode cX9_firstLender 79 = .ok (.invokevirtual 179, 3) := by decide +kernel
theorem dX9_firstLender_82 : decode cX9_firstLender 82 = .ok (.ifCond .eq 18, 3) := by decide +kernel
theorem dX9_firstLender_85 : decode cX9_firstLender 85 = .ok (.goto 12, 3) := by decide +kernel
theorem dX9_firstLender_88 : decode cX9_firstLender 88 = .ok (.aload_n 0, 1) := by decide +kernel
theorem dX9_firstLender_89 : decode cX9_firstLender 89 = .ok (.iload_n 1, 1) := by decide +kernel
theorem dX9_firstLender_90 : decode cX9_firstLender 90 = .ok (.iload_n 2, 1) := by decide +kernel
theorem dX9_firstLender_91 : decode cX9_firstLender 91 = .ok (.invokevirtual 182, 3) := by decide +kernel
theorem dX9_firstLender_94 : decode cX9_firstLender 94 = .ok (.ifCond .eq 6, 3) := by decide +kernel
theorem dX9_firstLender_97 : decode cX9_firstLender 97 = .ok (.iload 4, 2) := by decide +kernel
theorem dX9_firstLender_99 : decode cX9_firstLender 99 = .ok (.ireturn, 1) := by decide +kernel
theorem dX9_firstLender_100 : decode cX9_firstLender 100 = .ok (.iinc 5 1, 3) := by decide +kernel
theorem dX9_firstLender_103 : decode cX9_firstLender 103 = .ok (.goto (-86), 3) := by decide +kernel
theorem dX9_firstLender_106 : decode cX9_firstLender 106 = .ok (.iinc 4 1, 3) := by decide +kernel
theorem dX9_firstLender_109 : decode cX9_firstLender 109 = .ok (.goto (-106), 3) := by decide +kernel
theorem dX9_firstLender_112 : decode cX9_firstLender 112 = .ok (.bipush (-9), 2) := by decide +kernel
theorem dX9_firstLender_114 : decode cX9_firstLender 114 = .ok (.ireturn, 1) := by decide +kernel
theorem dX9_fewest_0 : decode cX9_fewest 0 = .ok (.aload_n 0, 1) := by decide +kernel
theorem dX9_fewest_1 : decode cX9_fewest 1 = .ok (.iload_n 1, 1) := by decide +kernel
theorem dX9_fewest_2 : decode cX9_fewest 2 = .ok (.invokevirtual 48, 3) := by decide +kernel
theorem dX9_fewest_5 : decode cX9_fewest 5 = .ok (.ifCond .eq 12, 3) := by decide +kernel
theorem dX9_fewest_8 : decode cX9_fewest 8 = .ok (.iload_n 2, 1) := by decide +kernel
theorem dX9_fewest_9 : decode cX9_fewest 9 = .ok (.bipush 99, 2) := by decide +kernel
theorem dX9_fewest_11 : decode cX9_fewest 11 = .ok (.invokestatic 150, 3) := by decide +kernel
theorem dX9_fewest_14 : decode cX9_fewest 14 = .ok (.goto 4, 3) := by decide +kernel
theorem dX9_fewest_17 : decode cX9_fewest 17 = .ok (.iconst (-1), 1) := by decide +kernel
theorem dX9_fewest_18 : decode cX9_fewest 18 = .ok (.istore 4, 2) := by decide +kernel
theorem dX9_fewest_20 : decode cX9_fewest 20 = .ok (.iload 4, 2) := by decide +kernel
theorem dX9_fewest_22 : decode cX9_fewest 22 = .ok (.ifCond .ne 16, 3) := by decide +kernel
theorem dX9_fewest_25 : decode cX9_fewest 25 = .ok (.iload_n 3, 1) := by decide +kernel
theorem dX9_fewest_26 : decode cX9_fewest 26 = .ok (.iconst 0, 1) := by decide +kernel
theorem dX9_fewest_27 : decode cX9_fewest 27 = .ok (.iconst 1, 1) := by decide +kernel
theorem dX9_fewest_28 : decode cX9_fewest 28 = .ok (.invokestatic 44, 3) := by decide +kernel
theorem dX9_fewest_31 : decode cX9_fewest 31 = .ok (.ifCond .ne 7, 3) := by decide +kernel
theorem dX9_fewest_34 : decode cX9_fewest 34 = .ok (.bipush (-2), 2) := by decide +kernel
theorem dX9_fewest_36 : decode cX9_fewest 36 = .ok (.istore 4, 2) := by decide +kernel
theorem dX9_fewest_38 : decode cX9_fewest 38 = .ok (.iload 4, 2) := by decide +kernel
theorem dX9_fewest_40 : decode cX9_fewest 40 = .ok (.ifCond .eq 10, 3) := by decide +kernel
theorem dX9_fewest_43 : decode cX9_fewest 43 = .ok (.aload_n 0, 1) := by decide +kernel
theorem dX9_fewest_44 : decode cX9_fewest 44 = .ok (.iload 4, 2) := by decide +kernel
theorem dX9_fewest_46 : decode cX9_fewest 46 = .ok (.invokevirtual 38, 3) := by decide +kernel
theorem dX9_fewest_49 : decode cX9_fewest 49 = .ok (.ireturn, 1) := by decide +kernel
theorem dX9_fewest_50 : decode cX9_fewest 50 = .ok (.aload_n 0, 1) := by decide +kernel
theorem dX9_fewest_51 : decode cX9_fewest 51 = .ok (.aload_n 0, 1) := by decide +kernel
theorem dX9_fewest_52 : decode cX9_fewest 52 = .ok (.getfield 9, 3) := by decide +kernel
theorem dX9_fewest_55 : decode cX9_fewest 55 = .ok (.iload_n 1, 1) := by decide +kernel
theorem dX9_fewest_56 : decode cX9_fewest 56 = .ok (.iload_n 2, 1) := by decide +kernel
theorem dX9_fewest_57 : decode cX9_fewest 57 = .ok (.invokevirtual 179, 3) := by decide +kernel
theorem dX9_fewest_60 : decode cX9_fewest 60 = .ok (.ifCond .eq 14, 3) := by decide +kernel
theorem dX9_fewest_63 : decode cX9_fewest 63 = .ok (.iload_n 3, 1) := by decide +kernel
theorem dX9_fewest_64 : decode cX9_fewest 64 = .ok (.ifCond .ne 7, 3) := by decide +kernel
theorem dX9_fewest_67 : decode cX9_fewest 67 = .ok (.iconst 0, 1) := by decide +kernel
theorem dX9_fewest_68 : decode cX9_fewest 68 = .ok (.goto 5, 3) := by decide +kernel
theorem dX9_fewest_71 : decode cX9_fewest 71 = .ok (.bipush (-9), 2) := by decide +kernel
theorem dX9_fewest_73 : decode cX9_fewest 73 = .ok (.ireturn, 1) := by decide +kernel
theorem dX9_fewest_74 : decode cX9_fewest 74 = .ok (.iconst 1, 1) := by decide +kernel
theorem dX9_fewest_75 : decode cX9_fewest 75 = .ok (.istore 5, 2) := by decide +kernel
theorem dX9_fewest_77 : decode cX9_fewest 77 = .ok (.iload 5, 2) := by decide +kernel
theorem dX9_fewest_79 : decode cX9_fewest 79 = .ok (.iconst 2, 1) := by decide +kernel
theorem dX9_fewest_80 : decode cX9_fewest 80 = .ok (.if_icmp .gt 36, 3) := by decide +kernel
theorem dX9_fewest_83 : decode cX9_fewest 83 = .ok (.aload_n 0, 1) := by decide +kernel
theorem dX9_fewest_84 : decode cX9_fewest 84 = .ok (.iload_n 1, 1) := by decide +kernel
theorem dX9_fewest_85 : decode cX9_fewest 85 = .ok (.iload_n 2, 1) := by decide +kernel
theorem dX9_fewest_86 : decode cX9_fewest 86 = .ok (.iload 5, 2) := by decide +kernel
theorem dX9_fewest_88 : decode cX9_fewest 88 = .ok (.invokevirtual 185, 3) := by decide +kernel
theorem dX9_fewest_91 : decode cX9_fewest 91 = .ok (.istore 6, 2) := by decide +kernel
theorem dX9_fewest_93 : decode cX9_fewest 93 = .ok (.iload 6, 2) := by decide +kernel
theorem dX9_fewest_95 : decode cX9_fewest 95 = .ok (.ifCond .lt 15, 3) := by decide +kernel
theorem dX9_fewest_98 : decode cX9_fewest 98 = .ok (.iload_n 3, 1) := by decide +kernel
theorem dX9_fewest_99 : decode cX9_fewest 99 = .ok (.ifCond .ne 8, 3) := by decide +kernel
theorem dX9_fewest_102 : decode cX9_fewest 102 = .ok (.iload 5, 2) := by decide +kernel
theorem dX9_fewest_104 : decode cX9_fewest 104 = .ok (.goto 5, 3) := by decide +kernel
theorem dX9_fewest_107 : decode cX9_fewest 107 = .ok (.iload 6, 2) := by decide +kernel
theorem dX9_fewest_109 : decode cX9_fewest 109 = .ok (.ireturn, 1) := by decide +kernel
theorem dX9_fewest_110 : decode cX9_fewest 110 = .ok (.iinc 5 1, 3) := by decide +kernel
theorem dX9_fewest_113 : decode cX9_fewest 113 = .ok (.goto (-36), 3) := by decide +kernel
theorem dX9_fewest_116 : decode cX9_fewest 116 = .ok (.bipush (-9), 2) := by decide +kernel
theorem dX9_fewest_118 : decode cX9_fewest 118 = .ok (.ireturn, 1) := by decide +kernel
theorem dX9_who_0 : decode cX9_who 0 = .ok (.aload_n 0, 1) := by decide +kernel
theorem dX9_who_1 : decode cX9_who 1 = .ok (.iload_n 1, 1) := by decide +kernel
theorem dX9_who_2 : decode cX9_who 2 = .ok (.invokevirtual 48, 3) := by decide +kernel
theorem dX9_who_5 : decode cX9_who 5 = .ok (.ifCond .ne 9, 3) := by decide +kernel
theorem dX9_who_8 : decode cX9_who 8 = .ok (.aload_n 0, 1) := by decide +kernel
theorem dX9_who_9 : decode cX9_who 9 = .ok (.iconst (-1), 1) := by decide +kernel
theorem dX9_who_10 : decode cX9_who 10 = .ok (.invokevirtual 38, 3) := by decide +kernel
theorem dX9_who_13 : decode cX9_who 13 = .ok (.ireturn, 1) := by decide +kernel
theorem dX9_who_14 : decode cX9_who 14 = .ok (.iconst 0, 1) := by decide +kernel
theorem dX9_who_15 : decode cX9_who 15 = .ok (.istore_n 2, 1) := by decide +kernel
theorem dX9_who_16 : decode cX9_who 16 = .ok (.iconst 0, 1) := by decide +kernel
theorem dX9_who_17 : decode cX9_who 17 = .ok (.istore_n 3, 1) := by decide +kernel
theorem dX9_who_18 : decode cX9_who 18 = .ok (.iload_n 3, 1) := by decide +kernel
theorem dX9_who_19 : decode cX9_who 19 = .ok (.aload_n 0, 1) := by decide +kernel
theorem dX9_who_20 : decode cX9_who 20 = .ok (.getfield 9, 3) := by decide +kernel
theorem dX9_who_23 : decode cX9_who 23 = .ok (.iconst 0, 1) := by decide +kernel
theorem dX9_who_24 : decode cX9_who 24 = .ok (.iaload, 1) := by decide +kernel
theorem dX9_who_25 : decode cX9_who 25 = .ok (.if_icmp .ge 96, 3) := by decide +kernel
theorem dX9_who_28 : decode cX9_who 28 = .ok (.aload_n 0, 1) := by decide +kernel
theorem dX9_who_29 : decode cX9_who 29 = .ok (.getfield 9, 3) := by decide +kernel
theorem dX9_who_32 : decode cX9_who 32 = .ok (.iload_n 1, 1) := by decide +kernel
theorem dX9_who_33 : decode cX9_who 33 = .ok (.iconst 4, 1) := by decide +kernel
theorem dX9_who_34 : decode cX9_who 34 = .ok (.invokestatic 52, 3) := by decide +kernel
theorem dX9_who_37 : decode cX9_who 37 = .ok (.iaload, 1) := by decide +kernel
theorem dX9_who_38 : decode cX9_who 38 = .ok (.istore 4, 2) := by decide +kernel
theorem dX9_who_40 : decode cX9_who 40 = .ok (.iconst 1, 1) := by decide +kernel
theorem dX9_who_41 : decode cX9_who 41 = .ok (.istore 5, 2) := by decide +kernel
theorem dX9_who_43 : decode cX9_who 43 = .ok (.iconst 0, 1) := by decide +kernel
theorem dX9_who_44 : decode cX9_who 44 = .ok (.istore 6, 2) := by decide +kernel
theorem dX9_who_46 : decode cX9_who 46 = .ok (.iload 6, 2) := by decide +kernel
theorem dX9_who_48 : decode cX9_who 48 = .ok (.aload_n 0, 1) := by decide +kernel
theorem dX9_who_49 : decode cX9_who 49 = .ok (.getfield 189, 3) := by decide +kernel
theorem dX9_who_52 : decode cX9_who 52 = .ok (.if_icmp .ge 48, 3) := by decide +kernel
theorem dX9_who_55 : decode cX9_who 55 = .ok (.iload 5, 2) := by decide +kernel
theorem dX9_who_57 : decode cX9_who 57 = .ok (.iload 4, 2) := by decide +kernel
theorem dX9_who_59 : decode cX9_who 59 = .ok (.aload_n 0, 1) := by decide +kernel
theorem dX9_who_60 : decode cX9_who 60 = .ok (.getfield 28, 3) := by decide +kernel
theorem dX9_who_63 : decode cX9_who 63 = .ok (.iload 6, 2) := by decide +kernel
theorem dX9_who_65 : decode cX9_who 65 = .ok (.iaload, 1) := by decide +kernel
theorem dX9_who_66 : decode cX9_who 66 = .ok (.if_icmp .ne 7, 3) := by decide +kernel
theorem dX9_who_69 : decode cX9_who 69 = .ok (.iconst 1, 1) := by decide +kernel
theorem dX9_who_70 : decode cX9_who 70 = .ok (.goto 4, 3) := by decide +kernel
theorem dX9_who_73 : decode cX9_who 73 = .ok (.iconst 0, 1) := by decide +kernel
theorem dX9_who_74 : decode cX9_who 74 = .ok (.iand, 1) := by decide +kernel
theorem dX9_who_75 : decode cX9_who 75 = .ok (.istore 5, 2) := by decide +kernel
theorem dX9_who_77 : decode cX9_who 77 = .ok (.iload 4, 2) := by decide +kernel
theorem dX9_who_79 : decode cX9_who 79 = .ok (.aload_n 0, 1) := by decide +kernel
theorem dX9_who_80 : decode cX9_who 80 = .ok (.getfield 9, 3) := by decide +kernel
theorem dX9_who_83 : decode cX9_who 83 = .ok (.iload_n 3, 1) := by decide +kernel
theorem dX9_who_84 : decode cX9_who 84 = .ok (.iload_n 1, 1) := by decide +kernel
theorem dX9_who_85 : decode cX9_who 85 = .ok (.invokestatic 72, 3) := by decide +kernel
theorem dX9_who_88 : decode cX9_who 88 = .ok (.iadd, 1) := by decide +kernel
theorem dX9_who_89 : decode cX9_who 89 = .ok (.invokestatic 75, 3) := by decide +kernel
theorem dX9_who_92 : decode cX9_who 92 = .ok (.istore 4, 2) := by decide +kernel
theorem dX9_who_94 : decode cX9_who 94 = .ok (.iinc 6 1, 3) := by decide +kernel
theorem dX9_who_97 : decode cX9_who 97 = .ok (.goto (-51), 3) := by decide +kernel
theorem dX9_who_100 : decode cX9_who 100 = .ok (.iload_n 2, 1) := by decide +kernel
theorem dX9_who_101 : decode cX9_who 101 = .ok (.iload 5, 2) := by decide +kernel
theorem dX9_who_103 : decode cX9_who 103 = .ok (.ifCond .eq 9, 3) := by decide +kernel
theorem dX9_who_106 : decode cX9_who 106 = .ok (.iconst 1, 1) := by decide +kernel
theorem dX9_who_107 : decode cX9_who 107 = .ok (.iload_n 3, 1) := by decide +kernel
theorem dX9_who_108 : decode cX9_who 108 = .ok (.ishl, 1) := by decide +kernel
theorem dX9_who_109 : decode cX9_who 109 = .ok (.goto 4, 3) := by decide +kernel
theorem dX9_who_112 : decode cX9_who 112 = .ok (.iconst 0, 1) := by decide +kernel
theorem dX9_who_113 : decode cX9_who 113 = .ok (.ior, 1) := by decide +kernel
theorem dX9_who_114 : decode cX9_who 114 = .ok (.istore_n 2, 1) := by decide +kernel
theorem dX9_who_115 : decode cX9_who 115 = .ok (.iinc 3 1, 3) := by decide +kernel
theorem dX9_who_118 : decode cX9_who 118 = .ok (.goto (-100), 3) := by decide +kernel
theorem dX9_who_121 : decode cX9_who 121 = .ok (.iload_n 2, 1) := by decide +kernel
theorem dX9_who_122 : decode cX9_who 122 = .ok (.ireturn, 1) := by decide +kernel
theorem dX9_widow_0 : decode cX9_widow 0 = .ok (.aload_n 0, 1) := by decide +kernel
theorem dX9_widow_1 : decode cX9_widow 1 = .ok (.iload_n 1, 1) := by decide +kernel
theorem dX9_widow_2 : decode cX9_widow 2 = .ok (.iload_n 2, 1) := by decide +kernel
theorem dX9_widow_3 : decode cX9_widow 3 = .ok (.invokevirtual 115, 3) := by decide +kernel
theorem dX9_widow_6 : decode cX9_widow 6 = .ok (.ifCond .ne 9, 3) := by decide +kernel
theorem dX9_widow_9 : decode cX9_widow 9 = .ok (.aload_n 0, 1) := by decide +kernel
theorem dX9_widow_10 : decode cX9_widow 10 = .ok (.iconst (-1), 1) := by decide +kernel
theorem dX9_widow_11 : decode cX9_widow 11 = .ok (.invokevirtual 38, 3) := by decide +kernel
theorem dX9_widow_14 : decode cX9_widow 14 = .ok (.ireturn, 1) := by decide +kernel
theorem dX9_widow_15 : decode cX9_widow 15 = .ok (.aload_n 0, 1) := by decide +kernel
theorem dX9_widow_16 : decode cX9_widow 16 = .ok (.getfield 9, 3) := by decide +kernel
theorem dX9_widow_19 : decode cX9_widow 19 = .ok (.iload_n 2, 1) := by decide +kernel
theorem dX9_widow_20 : decode cX9_widow 20 = .ok (.invokestatic 68, 3) := by decide +kernel
theorem dX9_widow_23 : decode cX9_widow 23 = .ok (.istore_n 3, 1) := by decide +kernel
theorem dX9_widow_24 : decode cX9_widow 24 = .ok (.aload_n 0, 1) := by decide +kernel
theorem dX9_widow_25 : decode cX9_widow 25 = .ok (.getfield 9, 3) := by decide +kernel
theorem dX9_widow_28 : decode cX9_widow 28 = .ok (.iload_n 1, 1) := by decide +kernel
theorem dX9_widow_29 : decode cX9_widow 29 = .ok (.iconst 2, 1) := by decide +kernel
theorem dX9_widow_30 : decode cX9_widow 30 = .ok (.invokestatic 52, 3) := by decide +kernel
theorem dX9_widow_33 : decode cX9_widow 33 = .ok (.iaload, 1) := by decide +kernel
theorem dX9_widow_34 : decode cX9_widow 34 = .ok (.iload_n 2, 1) := by decide +kernel
theorem dX9_widow_35 : decode cX9_widow 35 = .ok (.invokestatic 56, 3) := by decide +kernel
theorem dX9_widow_38 : decode cX9_widow 38 = .ok (.ifCond .eq 21, 3) := by decide +kernel
theorem dX9_widow_41 : decode cX9_widow 41 = .ok (.iload_n 3, 1) := by decide +kernel
theorem dX9_widow_42 : decode cX9_widow 42 = .ok (.ifCond .lt 17, 3) := by decide +kernel
theorem dX9_widow_45 : decode cX9_widow 45 = .ok (.iload_n 3, 1) := by decide +kernel
theorem dX9_widow_46 : decode cX9_widow 46 = .ok (.iload_n 2, 1) := by decide +kernel
theorem dX9_widow_47 : decode cX9_widow 47 = .ok (.if_icmp .eq 12, 3) := by decide +kernel
theorem dX9_widow_50 : decode cX9_widow 50 = .ok (.iload_n 3, 1) := by decide +kernel
theorem dX9_widow_51 : decode cX9_widow 51 = .ok (.iload_n 1, 1) := by decide +kernel
theorem dX9_widow_52 : decode cX9_widow 52 = .ok (.if_icmp .eq 7, 3) := by decide +kernel
theorem dX9_widow_55 : decode cX9_widow 55 = .ok (.iload_n 3, 1) := by decide +kernel
theorem dX9_widow_56 : decode cX9_widow 56 = .ok (.goto 5, 3) := by decide +kernel
theorem dX9_widow_59 : decode cX9_widow 59 = .ok (.bipush (-9), 2) := by decide +kernel
theorem dX9_widow_61 : decode cX9_widow 61 = .ok (.ireturn, 1) := by decide +kernel
theorem dX9_twins_0 : decode cX9_twins 0 = .ok (.iload_n 1, 1) := by decide +kernel
theorem dX9_twins_1 : decode cX9_twins 1 = .ok (.iconst 0, 1) := by decide +kernel
theorem dX9_twins_2 : decode cX9_twins 2 = .ok (.iconst 1, 1) := by decide +kernel
theorem dX9_twins_3 : decode cX9_twins 3 = .ok (.invokestatic 44, 3) := by decide +kernel
theorem dX9_twins_6 : decode cX9_twins 6 = .ok (.ifCond .ne 10, 3) := by decide +kernel
theorem dX9_twins_9 : decode cX9_twins 9 = .ok (.aload_n 0, 1) := by decide +kernel
theorem dX9_twins_10 : decode cX9_twins 10 = .ok (.bipush (-2), 2) := by decide +kernel
theorem dX9_twins_12 : decode cX9_twins 12 = .ok (.invokevirtual 38, 3) := by decide +kernel
theorem dX9_twins_15 : decode cX9_twins 15 = .ok (.ireturn, 1) := by decide +kernel
theorem dX9_twins_16 : decode cX9_twins 16 = .ok (.iconst 0, 1) := by decide +kernel
theorem dX9_twins_17 : decode cX9_twins 17 = .ok (.istore_n 2, 1) := by decide +kernel
theorem dX9_twins_18 : decode cX9_twins 18 = .ok (.bipush (-9), 2) := by decide +kernel
theorem dX9_twins_20 : decode cX9_twins 20 = .ok (.istore_n 3, 1) := by decide +kernel
theorem dX9_twins_21 : decode cX9_twins 21 = .ok (.iconst 0, 1) := by decide +kernel
theorem dX9_twins_22 : decode cX9_twins 22 = .ok (.istore 4, 2) := by decide +kernel
theorem dX9_twins_24 : decode cX9_twins 24 = .ok (.iload 4, 2) := by decide +kernel
theorem dX9_twins_26 : decode cX9_twins 26 = .ok (.aload_n 0, 1) := by decide +kernel
theorem dX9_twins_27 : decode cX9_twins 27 = .ok (.getfield 9, 3) := by decide +kernel
theorem dX9_twins_30 : decode cX9_twins 30 = .ok (.iconst 0, 1) := by decide +kernel
theorem dX9_twins_31 : decode cX9_twins 31 = .ok (.iaload, 1) := by decide +kernel
theorem dX9_twins_32 : decode cX9_twins 32 = .ok (.if_icmp .ge 105, 3) := by decide +kernel
theorem dX9_twins_35 : decode cX9_twins 35 = .ok (.iload 4, 2) := by decide +kernel
theorem dX9_twins_37 : decode cX9_twins 37 = .ok (.iconst 1, 1) := by decide +kernel
theorem dX9_twins_38 : decode cX9_twins 38 = .ok (.iadd, 1) := by decide +kernel
theorem dX9_twins_39 : decode cX9_twins 39 = .ok (.istore 5, 2) := by decide +kernel
theorem dX9_twins_41 : decode cX9_twins 41 = .ok (.iload 5, 2) := by decide +kernel
theorem dX9_twins_43 : decode cX9_twins 43 = .ok (.aload_n 0, 1) := by decide +kernel
theorem dX9_twins_44 : decode cX9_twins 44 = .ok (.getfield 9, 3) := by decide +kernel
theorem dX9_twins_47 : decode cX9_twins 47 = .ok (.iconst 0, 1) := by decide +kernel
theorem dX9_twins_48 : decode cX9_twins 48 = .ok (.iaload, 1) := by decide +kernel
theorem dX9_twins_49 : decode cX9_twins 49 = .ok (.if_icmp .ge 82, 3) := by decide +kernel
theorem dX9_twins_52 : decode cX9_twins 52 = .ok (.aload_n 0, 1) := by decide +kernel
theorem dX9_twins_53 : decode cX9_twins 53 = .ok (.getfield 9, 3) := by decide +kernel
theorem dX9_twins_56 : decode cX9_twins 56 = .ok (.iload 4, 2) := by decide +kernel
theorem dX9_twins_58 : decode cX9_twins 58 = .ok (.iconst 4, 1) := by decide +kernel
theorem dX9_twins_59 : decode cX9_twins 59 = .ok (.invokestatic 52, 3) := by decide +kernel
theorem dX9_twins_62 : decode cX9_twins 62 = .ok (.iaload, 1) := by decide +kernel
theorem dX9_twins_63 : decode cX9_twins 63 = .ok (.aload_n 0, 1) := by decide +kernel
theorem dX9_twins_64 : decode cX9_twins 64 = .ok (.getfield 9, 3) := by decide +kernel
theorem dX9_twins_67 : decode cX9_twins 67 = .ok (.iload 5, 2) := by decide +kernel
theorem dX9_twins_69 : decode cX9_twins 69 = .ok (.iconst 4, 1) := by decide +kernel
theorem dX9_twins_70 : decode cX9_twins 70 = .ok (.invokestatic 52, 3) := by decide +kernel
theorem dX9_twins_73 : decode cX9_twins 73 = .ok (.iaload, 1) := by decide +kernel
theorem dX9_twins_74 : decode cX9_twins 74 = .ok (.if_icmp .ne 51, 3) := by decide +kernel
theorem dX9_twins_77 : decode cX9_twins 77 = .ok (.aload_n 0, 1) := by decide +kernel
theorem dX9_twins_78 : decode cX9_twins 78 = .ok (.getfield 9, 3) := by decide +kernel
theorem dX9_twins_81 : decode cX9_twins 81 = .ok (.iload 4, 2) := by decide +kernel
theorem dX9_twins_83 : decode cX9_twins 83 = .ok (.iconst 5, 1) := by decide +kernel
theorem dX9_twins_84 : decode cX9_twins 84 = .ok (.invokestatic 52, 3) := by decide +kernel
theorem dX9_twins_87 : decode cX9_twins 87 = .ok (.iaload, 1) := by decide +kernel
theorem dX9_twins_88 : decode cX9_twins 88 = .ok (.aload_n 0, 1) := by decide +kernel
theorem dX9_twins_89 : decode cX9_twins 89 = .ok (.getfield 9, 3) := by decide +kernel
theorem dX9_twins_92 : decode cX9_twins 92 = .ok (.iload 5, 2) := by decide +kernel
theorem dX9_twins_94 : decode cX9_twins 94 = .ok (.iconst 5, 1) := by decide +kernel
theorem dX9_twins_95 : decode cX9_twins 95 = .ok (.invokestatic 52, 3) := by decide +kernel
theorem dX9_twins_98 : decode cX9_twins 98 = .ok (.iaload, 1) := by decide +kernel
theorem dX9_twins_99 : decode cX9_twins 99 = .ok (.if_icmp .eq 6, 3) := by decide +kernel
theorem dX9_twins_102 : decode cX9_twins 102 = .ok (.goto 23, 3) := by decide +kernel
theorem dX9_twins_105 : decode cX9_twins 105 = .ok (.iload_n 2, 1) := by decide +kernel
theorem dX9_twins_106 : decode cX9_twins 106 = .ok (.ifCond .ne 14, 3) := by decide +kernel
theorem dX9_twins_109 : decode cX9_twins 109 = .ok (.bipush 10, 2) := by decide +kernel
theorem dX9_twins_111 : decode cX9_twins 111 = .ok (.iload 4, 2) := by decide +kernel
theorem dX9_twins_113 : decode cX9_twins 113 = .ok (.imul, 1) := by decide +kernel
theorem dX9_twins_114 : decode cX9_twins 114 = .ok (.iload 5, 2) := by decide +kernel
theorem dX9_twins_116 : decode cX9_twins 116 = .ok (.iadd, 1) := by decide +kernel
theorem dX9_twins_117 : decode cX9_twins 117 = .ok (.goto 4, 3) := by decide +kernel
theorem dX9_twins_120 : decode cX9_twins 120 = .ok (.iload_n 3, 1) := by decide +kernel
theorem dX9_twins_121 : decode cX9_twins 121 = .ok (.istore_n 3, 1) := by decide +kernel
theorem dX9_twins_122 : decode cX9_twins 122 = .ok (.iinc 2 1, 3) := by decide +kernel
theorem dX9_twins_125 : decode cX9_twins 125 = .ok (.iinc 5 1, 3) := by decide +kernel
theorem dX9_twins_128 : decode cX9_twins 128 = .ok (.goto (-87), 3) := by decide +kernel
theorem dX9_twins_131 : decode cX9_twins 131 = .ok (.iinc 4 1, 3) := by decide +kernel
theorem dX9_twins_134 : decode cX9_twins 134 = .ok (.goto (-110), 3) := by decide +kernel
theorem dX9_twins_137 : decode cX9_twins 137 = .ok (.iload_n 1, 1) := by decide +kernel
theorem dX9_twins_138 : decode cX9_twins 138 = .ok (.ifCond .ne 7, 3) := by decide +kernel
theorem dX9_twins_141 : decode cX9_twins 141 = .ok (.iload_n 2, 1) := by decide +kernel
theorem dX9_twins_142 : decode cX9_twins 142 = .ok (.goto 4, 3) := by decide +kernel
theorem dX9_twins_145 : decode cX9_twins 145 = .ok (.iload_n 3, 1) := by decide +kernel
theorem dX9_twins_146 : decode cX9_twins 146 = .ok (.ireturn, 1) := by decide +kernel
theorem dX9_worthBoth_0 : decode cX9_worthBoth 0 = .ok (.aload_n 0, 1) := by decide +kernel
theorem dX9_worthBoth_1 : decode cX9_worthBoth 1 = .ok (.getfield 9, 3) := by decide +kernel
theorem dX9_worthBoth_4 : decode cX9_worthBoth 4 = .ok (.aload_n 0, 1) := by decide +kernel
theorem dX9_worthBoth_5 : decode cX9_worthBoth 5 = .ok (.getfield 13, 3) := by decide +kernel
theorem dX9_worthBoth_8 : decode cX9_worthBoth 8 = .ok (.invokestatic 133, 3) := by decide +kernel
theorem dX9_worthBoth_11 : decode cX9_worthBoth 11 = .ok (.iload_n 3, 1) := by decide +kernel
theorem dX9_worthBoth_12 : decode cX9_worthBoth 12 = .ok (.iconst 1, 1) := by decide +kernel
theorem dX9_worthBoth_13 : decode cX9_worthBoth 13 = .ok (.if_icmp .ne 26, 3) := by decide +kernel
theorem dX9_worthBoth_16 : decode cX9_worthBoth 16 = .ok (.aload_n 0, 1) := by decide +kernel
theorem dX9_worthBoth_17 : decode cX9_worthBoth 17 = .ok (.getfield 13, 3) := by decide +kernel
theorem dX9_worthBoth_20 : decode cX9_worthBoth 20 = .ok (.iload 4, 2) := by decide +kernel
theorem dX9_worthBoth_22 : decode cX9_worthBoth 22 = .ok (.iload_n 2, 1) := by decide +kernel
theorem dX9_worthBoth_23 : decode cX9_worthBoth 23 = .ok (.invokestatic 118, 3) := by decide +kernel
theorem dX9_worthBoth_26 : decode cX9_worthBoth 26 = .ok (.ifCond .eq 13, 3) := by decide +kernel
theorem dX9_worthBoth_29 : decode cX9_worthBoth 29 = .ok (.aload_n 0, 1) := by decide +kernel
theorem dX9_worthBoth_30 : decode cX9_worthBoth 30 = .ok (.getfield 13, 3) := by decide +kernel
theorem dX9_worthBoth_33 : decode cX9_worthBoth 33 = .ok (.iload 4, 2) := by decide +kernel
theorem dX9_worthBoth_35 : decode cX9_worthBoth 35 = .ok (.iload_n 2, 1) := by decide +kernel
theorem dX9_worthBoth_36 : decode cX9_worthBoth 36 = .ok (.invokestatic 122, 3) := by decide +kernel
theorem dX9_worthBoth_39 : decode cX9_worthBoth 39 = .ok (.iload 5, 2) := by decide +kernel
theorem dX9_worthBoth_41 : decode cX9_worthBoth 41 = .ok (.iconst 1, 1) := by decide +kernel
theorem dX9_worthBoth_42 : decode cX9_worthBoth 42 = .ok (.if_icmp .ne 26, 3) := by decide +kernel
theorem dX9_worthBoth_45 : decode cX9_worthBoth 45 = .ok (.aload_n 0, 1) := by decide +kernel
theorem dX9_worthBoth_46 : decode cX9_worthBoth 46 = .ok (.getfield 13, 3) := by decide +kernel
theorem dX9_worthBoth_49 : decode cX9_worthBoth 49 = .ok (.iload_n 2, 1) := by decide +kernel
theorem dX9_worthBoth_50 : decode cX9_worthBoth 50 = .ok (.iload 4, 2) := by decide +kernel
theorem dX9_worthBoth_52 : decode cX9_worthBoth 52 = .ok (.invokestatic 118, 3) := by decide +kernel
theorem dX9_worthBoth_55 : decode cX9_worthBoth 55 = .ok (.ifCond .eq 13, 3) := by decide +kernel
theorem dX9_worthBoth_58 : decode cX9_worthBoth 58 = .ok (.aload_n 0, 1) := by decide +kernel
theorem dX9_worthBoth_59 : decode cX9_worthBoth 59 = .ok (.getfield 13, 3) := by decide +kernel
theorem dX9_worthBoth_62 : decode cX9_worthBoth 62 = .ok (.iload_n 2, 1) := by decide +kernel
theorem dX9_worthBoth_63 : decode cX9_worthBoth 63 = .ok (.iload 4, 2) := by decide +kernel
theorem dX9_worthBoth_65 : decode cX9_worthBoth 65 = .ok (.invokestatic 122, 3) := by decide +kernel
theorem dX9_worthBoth_68 : decode cX9_worthBoth 68 = .ok (.aload_n 0, 1) := by decide +kernel
theorem dX9_worthBoth_69 : decode cX9_worthBoth 69 = .ok (.iload_n 1, 1) := by decide +kernel
theorem dX9_worthBoth_70 : decode cX9_worthBoth 70 = .ok (.iload 6, 2) := by decide +kernel
theorem dX9_worthBoth_72 : decode cX9_worthBoth 72 = .ok (.invokevirtual 163, 3) := by decide +kernel
theorem dX9_worthBoth_75 : decode cX9_worthBoth 75 = .ok (.ireturn, 1) := by decide +kernel
theorem dX9_two_0 : decode cX9_two 0 = .ok (.aload_n 0, 1) := by decide +kernel
theorem dX9_two_1 : decode cX9_two 1 = .ok (.iload_n 1, 1) := by decide +kernel
theorem dX9_two_2 : decode cX9_two 2 = .ok (.iload_n 2, 1) := by decide +kernel
theorem dX9_two_3 : decode cX9_two 3 = .ok (.invokevirtual 115, 3) := by decide +kernel
theorem dX9_two_6 : decode cX9_two 6 = .ok (.ifCond .eq 12, 3) := by decide +kernel
theorem dX9_two_9 : decode cX9_two 9 = .ok (.iload_n 3, 1) := by decide +kernel
theorem dX9_two_10 : decode cX9_two 10 = .ok (.bipush 24, 2) := by decide +kernel
theorem dX9_two_12 : decode cX9_two 12 = .ok (.invokestatic 150, 3) := by decide +kernel
theorem dX9_two_15 : decode cX9_two 15 = .ok (.goto 4, 3) := by decide +kernel
theorem dX9_two_18 : decode cX9_two 18 = .ok (.iconst (-1), 1) := by decide +kernel
theorem dX9_two_19 : decode cX9_two 19 = .ok (.istore 4, 2) := by decide +kernel
theorem dX9_two_21 : decode cX9_two 21 = .ok (.iload 4, 2) := by decide +kernel
theorem dX9_two_23 : decode cX9_two 23 = .ok (.ifCond .eq 10, 3) := by decide +kernel
theorem dX9_two_26 : decode cX9_two 26 = .ok (.aload_n 0, 1) := by decide +kernel
theorem dX9_two_27 : decode cX9_two 27 = .ok (.iload 4, 2) := by decide +kernel
theorem dX9_two_29 : decode cX9_two 29 = .ok (.invokevirtual 38, 3) := by decide +kernel
theorem dX9_two_32 : decode cX9_two 32 = .ok (.ireturn, 1) := by decide +kernel
theorem dX9_two_33 : decode cX9_two 33 = .ok (.iconst 0, 1) := by decide +kernel
theorem dX9_two_34 : decode cX9_two 34 = .ok (.istore 5, 2) := by decide +kernel
theorem dX9_two_36 : decode cX9_two 36 = .ok (.iload 5, 2) := by decide +kernel
theorem dX9_two_38 : decode cX9_two 38 = .ok (.iconst 4, 1) := by decide +kernel
theorem dX9_two_39 : decode cX9_two 39 = .ok (.if_icmp .ge 88, 3) := by decide +kernel
theorem dX9_two_42 : decode cX9_two 42 = .ok (.iload 5, 2) := by decide +kernel
theorem dX9_two_44 : decode cX9_two 44 = .ok (.iconst 2, 1) := by decide +kernel
theorem dX9_two_45 : decode cX9_two 45 = .ok (.idiv, 1) := by decide +kernel
theorem dX9_two_46 : decode cX9_two 46 = .ok (.istore 6, 2) := by decide +kernel
theorem dX9_two_48 : decode cX9_two 48 = .ok (.iload 5, 2) := by decide +kernel
theorem dX9_two_50 : decode cX9_two 50 = .ok (.iconst 2, 1) := by decide +kernel
theorem dX9_two_51 : decode cX9_two 51 = .ok (.irem, 1) := by decide +kernel
theorem dX9_two_52 : decode cX9_two 52 = .ok (.istore 7, 2) := by decide +kernel
theorem dX9_two_54 : decode cX9_two 54 = .ok (.aload_n 0, 1) := by decide +kernel
theorem dX9_two_55 : decode cX9_two 55 = .ok (.iload_n 1, 1) := by decide +kernel
theorem dX9_two_56 : decode cX9_two 56 = .ok (.iload_n 1, 1) := by decide +kernel
theorem dX9_two_57 : decode cX9_two 57 = .ok (.iconst 1, 1) := by decide +kernel
theorem dX9_two_58 : decode cX9_two 58 = .ok (.iload 6, 2) := by decide +kernel
theorem dX9_two_60 : decode cX9_two 60 = .ok (.isub, 1) := by decide +kernel
theorem dX9_two_61 : decode cX9_two 61 = .ok (.iload_n 2, 1) := by decide +kernel
theorem dX9_two_62 : decode cX9_two 62 = .ok (.iload 7, 2) := by decide +kernel
theorem dX9_two_64 : decode cX9_two 64 = .ok (.iload_n 3, 1) := by decide +kernel
theorem dX9_two_65 : decode cX9_two 65 = .ok (.invokevirtual 192, 3) := by decide +kernel
theorem dX9_two_68 : decode cX9_two 68 = .ok (.aload_n 0, 1) := by decide +kernel
theorem dX9_two_69 : decode cX9_two 69 = .ok (.iload_n 1, 1) := by decide +kernel
theorem dX9_two_70 : decode cX9_two 70 = .ok (.iload_n 1, 1) := by decide +kernel
theorem dX9_two_71 : decode cX9_two 71 = .ok (.iload 6, 2) := by decide +kernel
theorem dX9_two_73 : decode cX9_two 73 = .ok (.iload_n 2, 1) := by decide +kernel
theorem dX9_two_74 : decode cX9_two 74 = .ok (.iload 7, 2) := by decide +kernel
theorem dX9_two_76 : decode cX9_two 76 = .ok (.iload_n 3, 1) := by decide +kernel
theorem dX9_two_77 : decode cX9_two 77 = .ok (.invokevirtual 192, 3) := by decide +kernel
theorem dX9_two_80 : decode cX9_two 80 = .ok (.if_icmp .gt 41, 3) := by decide +kernel
theorem dX9_two_83 : decode cX9_two 83 = .ok (.aload_n 0, 1) := by decide +kernel
theorem dX9_two_84 : decode cX9_two 84 = .ok (.iload_n 2, 1) := by decide +kernel
theorem dX9_two_85 : decode cX9_two 85 = .ok (.iload_n 1, 1) := by decide +kernel
theorem dX9_two_86 : decode cX9_two 86 = .ok (.iload 6, 2) := by decide +kernel
theorem dX9_two_88 : decode cX9_two 88 = .ok (.iload_n 2, 1) := by decide +kernel
theorem dX9_two_89 : decode cX9_two 89 = .ok (.iconst 1, 1) := by decide +kernel
theorem dX9_two_90 : decode cX9_two 90 = .ok (.iload 7, 2) := by decide +kernel
theorem dX9_two_92 : decode cX9_two 92 = .ok (.isub, 1) := by decide +kernel
theorem dX9_two_93 : decode cX9_two 93 = .ok (.iload_n 3, 1) := by decide +kernel
theorem dX9_two_94 : decode cX9_two 94 = .ok (.invokevirtual 192, 3) := by decide +kernel
theorem dX9_two_97 : decode cX9_two 97 = .ok (.aload_n 0, 1) := by decide +kernel
theorem dX9_two_98 : decode cX9_two 98 = .ok (.iload_n 2, 1) := by decide +kernel
theorem dX9_two_99 : decode cX9_two 99 = .ok (.iload_n 1, 1) := by decide +kernel
theorem dX9_two_100 : decode cX9_two 100 = .ok (.iload 6, 2) := by decide +kernel
theorem dX9_two_102 : decode cX9_two 102 = .ok (.iload_n 2, 1) := by decide +kernel
theorem dX9_two_103 : decode cX9_two 103 = .ok (.iload 7, 2) := by decide +kernel
theorem dX9_two_105 : decode cX9_two 105 = .ok (.iload_n 3, 1) := by decide +kernel
theorem dX9_two_106 : decode cX9_two 106 = .ok (.invokevirtual 192, 3) := by decide +kernel
theorem dX9_two_109 : decode cX9_two 109 = .ok (.if_icmp .gt 12, 3) := by decide +kernel
theorem dX9_two_112 : decode cX9_two 112 = .ok (.bipush 10, 2) := by decide +kernel
theorem dX9_two_114 : decode cX9_two 114 = .ok (.iload 6, 2) := by decide +kernel
theorem dX9_two_116 : decode cX9_two 116 = .ok (.imul, 1) := by decide +kernel
theorem dX9_two_117 : decode cX9_two 117 = .ok (.iload 7, 2) := by decide +kernel
theorem dX9_two_119 : decode cX9_two 119 = .ok (.iadd, 1) := by decide +kernel
theorem dX9_two_120 : decode cX9_two 120 = .ok (.ireturn, 1) := by decide +kernel
theorem dX9_two_121 : decode cX9_two 121 = .ok (.iinc 5 1, 3) := by decide +kernel
theorem dX9_two_124 : decode cX9_two 124 = .ok (.goto (-88), 3) := by decide +kernel
theorem dX9_two_127 : decode cX9_two 127 = .ok (.bipush (-9), 2) := by decide +kernel
theorem dX9_two_129 : decode cX9_two 129 = .ok (.ireturn, 1) := by decide +kernel
theorem dX9_gcd_0 : decode cX9_gcd 0 = .ok (.lload_n 0, 1) := by decide +kernel
theorem dX9_gcd_1 : decode cX9_gcd 1 = .ok (.lstore 4, 2) := by decide +kernel
theorem dX9_gcd_3 : decode cX9_gcd 3 = .ok (.lload_n 2, 1) := by decide +kernel
theorem dX9_gcd_4 : decode cX9_gcd 4 = .ok (.lstore 6, 2) := by decide +kernel
theorem dX9_gcd_6 : decode cX9_gcd 6 = .ok (.lload 6, 2) := by decide +kernel
theorem dX9_gcd_8 : decode cX9_gcd 8 = .ok (.lconst 0, 1) := by decide +kernel
theorem dX9_gcd_9 : decode cX9_gcd 9 = .ok (.lcmp, 1) := by decide +kernel
theorem dX9_gcd_10 : decode cX9_gcd 10 = .ok (.ifCond .eq 21, 3) := by decide +kernel
theorem dX9_gcd_13 : decode cX9_gcd 13 = .ok (.lload 4, 2) := by decide +kernel
theorem dX9_gcd_15 : decode cX9_gcd 15 = .ok (.lload 6, 2) := by decide +kernel
theorem dX9_gcd_17 : decode cX9_gcd 17 = .ok (.lrem, 1) := by decide +kernel
theorem dX9_gcd_18 : decode cX9_gcd 18 = .ok (.lstore 8, 2) := by decide +kernel
theorem dX9_gcd_20 : decode cX9_gcd 20 = .ok (.lload 6, 2) := by decide +kernel
theorem dX9_gcd_22 : decode cX9_gcd 22 = .ok (.lstore 4, 2) := by decide +kernel
theorem dX9_gcd_24 : decode cX9_gcd 24 = .ok (.lload 8, 2) := by decide +kernel
theorem dX9_gcd_26 : decode cX9_gcd 26 = .ok (.lstore 6, 2) := by decide +kernel
theorem dX9_gcd_28 : decode cX9_gcd 28 = .ok (.goto (-22), 3) := by decide +kernel
theorem dX9_gcd_31 : decode cX9_gcd 31 = .ok (.lload 4, 2) := by decide +kernel
theorem dX9_gcd_33 : decode cX9_gcd 33 = .ok (.lreturn, 1) := by decide +kernel
theorem dX9_partOf_0 : decode cX9_partOf 0 = .ok (.lload_n 0, 1) := by decide +kernel
theorem dX9_partOf_1 : decode cX9_partOf 1 = .ok (.lconst 0, 1) := by decide +kernel
theorem dX9_partOf_2 : decode cX9_partOf 2 = .ok (.lcmp, 1) := by decide +kernel
theorem dX9_partOf_3 : decode cX9_partOf 3 = .ok (.ifCond .ne 7, 3) := by decide +kernel
theorem dX9_partOf_6 : decode cX9_partOf 6 = .ok (.iload 4, 2) := by decide +kernel
theorem dX9_partOf_8 : decode cX9_partOf 8 = .ok (.i2l, 1) := by decide +kernel
theorem dX9_partOf_9 : decode cX9_partOf 9 = .ok (.lreturn, 1) := by decide +kernel
theorem dX9_partOf_10 : decode cX9_partOf 10 = .ok (.iload 4, 2) := by decide +kernel
theorem dX9_partOf_12 : decode cX9_partOf 12 = .ok (.ifCond .ne 7, 3) := by decide +kernel
theorem dX9_partOf_15 : decode cX9_partOf 15 = .ok (.lload_n 0, 1) := by decide +kernel
theorem dX9_partOf_16 : decode cX9_partOf 16 = .ok (.goto 4, 3) := by decide +kernel
theorem dX9_partOf_19 : decode cX9_partOf 19 = .ok (.lload_n 2, 1) := by decide +kernel
theorem dX9_partOf_20 : decode cX9_partOf 20 = .ok (.lload_n 0, 1) := by decide +kernel
theorem dX9_partOf_21 : decode cX9_partOf 21 = .ok (.lload_n 2, 1) := by decide +kernel
theorem dX9_partOf_22 : decode cX9_partOf 22 = .ok (.invokestatic 196, 3) := by decide +kernel
theorem dX9_partOf_25 : decode cX9_partOf 25 = .ok (.ldiv, 1) := by decide +kernel
theorem dX9_partOf_26 : decode cX9_partOf 26 = .ok (.lreturn, 1) := by decide +kernel
theorem dX9_quarrel_0 : decode cX9_quarrel 0 = .ok (.aload_n 0, 1) := by decide +kernel
theorem dX9_quarrel_1 : decode cX9_quarrel 1 = .ok (.iload_n 1, 1) := by decide +kernel
theorem dX9_quarrel_2 : decode cX9_quarrel 2 = .ok (.invokevirtual 48, 3) := by decide +kernel
theorem dX9_quarrel_5 : decode cX9_quarrel 5 = .ok (.ifCond .ne 9, 3) := by decide +kernel
theorem dX9_quarrel_8 : decode cX9_quarrel 8 = .ok (.aload_n 0, 1) := by decide +kernel
theorem dX9_quarrel_9 : decode cX9_quarrel 9 = .ok (.iconst (-1), 1) := by decide +kernel
theorem dX9_quarrel_10 : decode cX9_quarrel 10 = .ok (.invokevirtual 200, 3) := by decide +kernel
theorem dX9_quarrel_13 : decode cX9_quarrel 13 = .ok (.lreturn, 1) := by decide +kernel
theorem dX9_quarrel_14 : decode cX9_quarrel 14 = .ok (.iload_n 2, 1) := by decide +kernel
theorem dX9_quarrel_15 : decode cX9_quarrel 15 = .ok (.ifCond .lt 13, 3) := by decide +kernel
theorem dX9_quarrel_18 : decode cX9_quarrel 18 = .ok (.iload 4, 2) := by decide +kernel
theorem dX9_quarrel_20 : decode cX9_quarrel 20 = .ok (.ifCond .lt 8, 3) := by decide +kernel
theorem dX9_quarrel_23 : decode cX9_quarrel 23 = .ok (.iload_n 3, 1) := by decide +kernel
theorem dX9_quarrel_24 : decode cX9_quarrel 24 = .ok (.iconst 2, 1) := by decide +kernel
theorem dX9_quarrel_25 : decode cX9_quarrel 25 = .ok (.if_icmp .ge 10, 3) := by decide +kernel
theorem dX9_quarrel_28 : decode cX9_quarrel 28 = .ok (.aload_n 0, 1) := by decide +kernel
theorem dX9_quarrel_29 : decode cX9_quarrel 29 = .ok (.bipush (-4), 2) := by decide +kernel
theorem dX9_quarrel_31 : decode cX9_quarrel 31 = .ok (.invokevirtual 200, 3) := by decide +kernel
theorem dX9_quarrel_34 : decode cX9_quarrel 34 = .ok (.lreturn, 1) := by decide +kernel
theorem dX9_quarrel_35 : decode cX9_quarrel 35 = .ok (.iload_n 2, 1) := by decide +kernel
theorem dX9_quarrel_36 : decode cX9_quarrel 36 = .ok (.bipush 7, 2) := by decide +kernel
theorem dX9_quarrel_38 : decode cX9_quarrel 38 = .ok (.if_icmp .gt 16, 3) := by decide +kernel
theorem dX9_quarrel_41 : decode cX9_quarrel 41 = .ok (.iload_n 3, 1) := by decide +kernel
theorem dX9_quarrel_42 : decode cX9_quarrel 42 = .ok (.bipush 20, 2) := by decide +kernel
theorem dX9_quarrel_44 : decode cX9_quarrel 44 = .ok (.if_icmp .gt 10, 3) := by decide +kernel
theorem dX9_quarrel_47 : decode cX9_quarrel 47 = .ok (.iload 4, 2) := by decide +kernel
theorem dX9_quarrel_49 : decode cX9_quarrel 49 = .ok (.bipush 99, 2) := by decide +kernel
theorem dX9_quarrel_51 : decode cX9_quarrel 51 = .ok (.if_icmp .le 10, 3) := by decide +kernel
theorem dX9_quarrel_54 : decode cX9_quarrel 54 = .ok (.aload_n 0, 1) := by decide +kernel
theorem dX9_quarrel_55 : decode cX9_quarrel 55 = .ok (.bipush (-6), 2) := by decide +kernel
theorem dX9_quarrel_57 : decode cX9_quarrel 57 = .ok (.invokevirtual 200, 3) := by decide +kernel
theorem dX9_quarrel_60 : decode cX9_quarrel 60 = .ok (.lreturn, 1) := by decide +kernel
theorem dX9_quarrel_61 : decode cX9_quarrel 61 = .ok (.iload 5, 2) := by decide +kernel
theorem dX9_quarrel_63 : decode cX9_quarrel 63 = .ok (.iconst 0, 1) := by decide +kernel
theorem dX9_quarrel_64 : decode cX9_quarrel 64 = .ok (.iconst 1, 1) := by decide +kernel
theorem dX9_quarrel_65 : decode cX9_quarrel 65 = .ok (.invokestatic 44, 3) := by decide +kernel
theorem dX9_quarrel_68 : decode cX9_quarrel 68 = .ok (.ifCond .ne 10, 3) := by decide +kernel
theorem dX9_quarrel_71 : decode cX9_quarrel 71 = .ok (.aload_n 0, 1) := by decide +kernel
theorem dX9_quarrel_72 : decode cX9_quarrel 72 = .ok (.bipush (-2), 2) := by decide +kernel
theorem dX9_quarrel_74 : decode cX9_quarrel 74 = .ok (.invokevirtual 200, 3) := by decide +kernel
theorem dX9_quarrel_77 : decode cX9_quarrel 77 = .ok (.lreturn, 1) := by decide +kernel
theorem dX9_quarrel_78 : decode cX9_quarrel 78 = .ok (.lconst 0, 1) := by decide +kernel
theorem dX9_quarrel_79 : decode cX9_quarrel 79 = .ok (.lstore 6, 2) := by decide +kernel
theorem dX9_quarrel_81 : decode cX9_quarrel 81 = .ok (.lconst 1, 1) := by decide +kernel
theorem dX9_quarrel_82 : decode cX9_quarrel 82 = .ok (.lstore 8, 2) := by decide +kernel
theorem dX9_quarrel_84 : decode cX9_quarrel 84 = .ok (.iconst 0, 1) := by decide +kernel
theorem dX9_quarrel_85 : decode cX9_quarrel 85 = .ok (.istore 10, 2) := by decide +kernel
theorem dX9_quarrel_87 : decode cX9_quarrel 87 = .ok (.iload 10, 2) := by decide +kernel
theorem dX9_quarrel_89 : decode cX9_quarrel 89 = .ok (.iload_n 2, 1) := by decide +kernel
theorem dX9_quarrel_90 : decode cX9_quarrel 90 = .ok (.if_icmp .ge 16, 3) := by decide +kernel
theorem dX9_quarrel_93 : decode cX9_quarrel 93 = .ok (.lload 8, 2) := by decide +kernel
theorem dX9_quarrel_95 : decode cX9_quarrel 95 = .ok (.iload_n 3, 1) := by decide +kernel
theorem dX9_quarrel_96 : decode cX9_quarrel 96 = .ok (.i2l, 1) := by decide +kernel
theorem dX9_quarrel_97 : decode cX9_quarrel 97 = .ok (.lmul, 1) := by decide +kernel
theorem dX9_quarrel_98 : decode cX9_quarrel 98 = .ok (.lstore 8, 2) := by decide +kernel
theorem dX9_quarrel_100 : decode cX9_quarrel 100 = .ok (.iinc 10 1, 3) := by decide +kernel
theorem dX9_quarrel_103 : decode cX9_quarrel 103 = .ok (.goto (-16), 3) := by decide +kernel
theorem dX9_quarrel_106 : decode cX9_quarrel 106 = .ok (.iconst 0, 1) := by decide +kernel
theorem dX9_quarrel_107 : decode cX9_quarrel 107 = .ok (.istore 10, 2) := by decide +kernel
theorem dX9_quarrel_109 : decode cX9_quarrel 109 = .ok (.iload 10, 2) := by decide +kernel
theorem dX9_quarrel_111 : decode cX9_quarrel 111 = .ok (.iconst 1, 1) := by decide +kernel
theorem dX9_quarrel_112 : decode cX9_quarrel 112 = .ok (.iload_n 2, 1) := by decide +kernel
theorem dX9_quarrel_113 : decode cX9_quarrel 113 = .ok (.ishl, 1) := by decide +kernel
theorem dX9_quarrel_114 : decode cX9_quarrel 114 = .ok (.if_icmp .ge 133, 3) := by decide +kernel
theorem dX9_quarrel_117 : decode cX9_quarrel 117 = .ok (.lconst 1, 1) := by decide +kernel
theorem dX9_quarrel_118 : decode cX9_quarrel 118 = .ok (.lstore 11, 2) := by decide +kernel
theorem dX9_quarrel_120 : decode cX9_quarrel 120 = .ok (.aload_n 0, 1) := by decide +kernel
theorem dX9_quarrel_121 : decode cX9_quarrel 121 = .ok (.getfield 9, 3) := by decide +kernel
theorem dX9_quarrel_124 : decode cX9_quarrel 124 = .ok (.aload_n 0, 1) := by decide +kernel
theorem dX9_quarrel_125 : decode cX9_quarrel 125 = .ok (.getfield 13, 3) := by decide +kernel
theorem dX9_quarrel_128 : decode cX9_quarrel 128 = .ok (.invokestatic 133, 3) := by decide +kernel
theorem dX9_quarrel_131 : decode cX9_quarrel 131 = .ok (.iconst 0, 1) := by decide +kernel
theorem dX9_quarrel_132 : decode cX9_quarrel 132 = .ok (.istore 13, 2) := by decide +kernel
theorem dX9_quarrel_134 : decode cX9_quarrel 134 = .ok (.iload 13, 2) := by decide +kernel
theorem dX9_quarrel_136 : decode cX9_quarrel 136 = .ok (.iload_n 2, 1) := by decide +kernel
theorem dX9_quarrel_137 : decode cX9_quarrel 137 = .ok (.if_icmp .ge 78, 3) := by decide +kernel
theorem dX9_quarrel_140 : decode cX9_quarrel 140 = .ok (.lload 11, 2) := by decide +kernel
theorem dX9_quarrel_142 : decode cX9_quarrel 142 = .ok (.iload 10, 2) := by decide +kernel
theorem dX9_quarrel_144 : decode cX9_quarrel 144 = .ok (.iload 13, 2) := by decide +kernel
theorem dX9_quarrel_146 : decode cX9_quarrel 146 = .ok (.invokestatic 56, 3) := by decide +kernel
theorem dX9_quarrel_149 : decode cX9_quarrel 149 = .ok (.ifCond .eq 7, 3) := by decide +kernel
theorem dX9_quarrel_152 : decode cX9_quarrel 152 = .ok (.lconst 1, 1) := by decide +kernel
theorem dX9_quarrel_153 : decode cX9_quarrel 153 = .ok (.goto 7, 3) := by decide +kernel
theorem dX9_quarrel_156 : decode cX9_quarrel 156 = .ok (.iload_n 3, 1) := by decide +kernel
theorem dX9_quarrel_157 : decode cX9_quarrel 157 = .ok (.iconst 1, 1) := by decide +kernel
theorem dX9_quarrel_158 : decode cX9_quarrel 158 = .ok (.isub, 1) := by decide +kernel
theorem dX9_quarrel_159 : decode cX9_quarrel 159 = .ok (.i2l, 1) := by decide +kernel
theorem dX9_quarrel_160 : decode cX9_quarrel 160 = .ok (.lmul, 1) := by decide +kernel
theorem dX9_quarrel_161 : decode cX9_quarrel 161 = .ok (.lstore 11, 2) := by decide +kernel
theorem dX9_quarrel_163 : decode cX9_quarrel 163 = .ok (.aload_n 0, 1) := by decide +kernel
theorem dX9_quarrel_164 : decode cX9_quarrel 164 = .ok (.getfield 13, 3) := by decide +kernel
theorem dX9_quarrel_167 : decode cX9_quarrel 167 = .ok (.iload_n 1, 1) := by decide +kernel
theorem dX9_quarrel_168 : decode cX9_quarrel 168 = .ok (.iconst 5, 1) := by decide +kernel
theorem dX9_quarrel_169 : decode cX9_quarrel 169 = .ok (.invokestatic 52, 3) := by decide +kernel
theorem dX9_quarrel_172 : decode cX9_quarrel 172 = .ok (.aload_n 0, 1) := by decide +kernel
theorem dX9_quarrel_173 : decode cX9_quarrel 173 = .ok (.getfield 13, 3) := by decide +kernel
theorem dX9_quarrel_176 : decode cX9_quarrel 176 = .ok (.iload_n 1, 1) := by decide +kernel
theorem dX9_quarrel_177 : decode cX9_quarrel 177 = .ok (.iconst 5, 1) := by decide +kernel
theorem dX9_quarrel_178 : decode cX9_quarrel 178 = .ok (.invokestatic 52, 3) := by decide +kernel
theorem dX9_quarrel_181 : decode cX9_quarrel 181 = .ok (.iaload, 1) := by decide +kernel
theorem dX9_quarrel_182 : decode cX9_quarrel 182 = .ok (.iload 10, 2) := by decide +kernel
theorem dX9_quarrel_184 : decode cX9_quarrel 184 = .ok (.iload 13, 2) := by decide +kernel
theorem dX9_quarrel_186 : decode cX9_quarrel 186 = .ok (.invokestatic 56, 3) := by decide +kernel
theorem dX9_quarrel_189 : decode cX9_quarrel 189 = .ok (.ifCond .eq 7, 3) := by decide +kernel
theorem dX9_quarrel_192 : decode cX9_quarrel 192 = .ok (.iconst 3, 1) := by decide +kernel
theorem dX9_quarrel_193 : decode cX9_quarrel 193 = .ok (.goto 4, 3) := by decide +kernel
theorem dX9_quarrel_196 : decode cX9_quarrel 196 = .ok (.iconst 0, 1) := by decide +kernel
theorem dX9_quarrel_197 : decode cX9_quarrel 197 = .ok (.iadd, 1) := by decide +kernel
theorem dX9_quarrel_198 : decode cX9_quarrel 198 = .ok (.invokestatic 75, 3) := by decide +kernel
theorem dX9_quarrel_201 : decode cX9_quarrel 201 = .ok (.iastore, 1) := by decide +kernel
theorem dX9_quarrel_202 : decode cX9_quarrel 202 = .ok (.aload_n 0, 1) := by decide +kernel
theorem dX9_quarrel_203 : decode cX9_quarrel 203 = .ok (.getfield 13, 3) := by decide +kernel
theorem dX9_quarrel_206 : decode cX9_quarrel 206 = .ok (.invokestatic 84, 3) := by decide +kernel
theorem dX9_quarrel_209 : decode cX9_quarrel 209 = .ok (.iinc 13 1, 3) := by decide +kernel
theorem dX9_quarrel_212 : decode cX9_quarrel 212 = .ok (.goto (-78), 3) := by decide +kernel
theorem dX9_quarrel_215 : decode cX9_quarrel 215 = .ok (.lload 6, 2) := by decide +kernel
theorem dX9_quarrel_217 : decode cX9_quarrel 217 = .ok (.aload_n 0, 1) := by decide +kernel
theorem dX9_quarrel_218 : decode cX9_quarrel 218 = .ok (.getfield 13, 3) := by decide +kernel
theorem dX9_quarrel_221 : decode cX9_quarrel 221 = .ok (.iload_n 1, 1) := by decide +kernel
theorem dX9_quarrel_222 : decode cX9_quarrel 222 = .ok (.iconst 5, 1) := by decide +kernel
theorem dX9_quarrel_223 : decode cX9_quarrel 223 = .ok (.invokestatic 52, 3) := by decide +kernel
theorem dX9_quarrel_226 : decode cX9_quarrel 226 = .ok (.iaload, 1) := by decide +kernel
theorem dX9_quarrel_227 : decode cX9_quarrel 227 = .ok (.iload 4, 2) := by decide +kernel
theorem dX9_quarrel_229 : decode cX9_quarrel 229 = .ok (.if_icmp .lt 8, 3) := by decide +kernel
theorem dX9_quarrel_232 : decode cX9_quarrel 232 = .ok (.lload 11, 2) := by decide +kernel
theorem dX9_quarrel_234 : decode cX9_quarrel 234 = .ok (.goto 4, 3) := by decide +kernel
theorem dX9_quarrel_237 : decode cX9_quarrel 237 = .ok (.lconst 0, 1) := by decide +kernel
theorem dX9_quarrel_238 : decode cX9_quarrel 238 = .ok (.ladd, 1) := by decide +kernel
theorem dX9_quarrel_239 : decode cX9_quarrel 239 = .ok (.lstore 6, 2) := by decide +kernel
theorem dX9_quarrel_241 : decode cX9_quarrel 241 = .ok (.iinc 10 1, 3) := by decide +kernel
theorem dX9_quarrel_244 : decode cX9_quarrel 244 = .ok (.goto (-135), 3) := by decide +kernel
theorem dX9_quarrel_247 : decode cX9_quarrel 247 = .ok (.lload 6, 2) := by decide +kernel
theorem dX9_quarrel_249 : decode cX9_quarrel 249 = .ok (.lload 8, 2) := by decide +kernel
theorem dX9_quarrel_251 : decode cX9_quarrel 251 = .ok (.iload 5, 2) := by decide +kernel
theorem dX9_quarrel_253 : decode cX9_quarrel 253 = .ok (.invokestatic 204, 3) := by decide +kernel
theorem dX9_quarrel_256 : decode cX9_quarrel 256 = .ok (.lreturn, 1) := by decide +kernel
theorem dX9_allOf_0 : decode cX9_allOf 0 = .ok (.iconst 0, 1) := by decide +kernel
theorem dX9_allOf_1 : decode cX9_allOf 1 = .ok (.istore_n 2, 1) := by decide +kernel
theorem dX9_allOf_2 : decode cX9_allOf 2 = .ok (.iconst 0, 1) := by decide +kernel
theorem dX9_allOf_3 : decode cX9_allOf 3 = .ok (.istore_n 3, 1) := by decide +kernel
theorem dX9_allOf_4 : decode cX9_allOf 4 = .ok (.iload_n 3, 1) := by decide +kernel
theorem dX9_allOf_5 : decode cX9_allOf 5 = .ok (.aload_n 0, 1) := by decide +kernel
theorem dX9_allOf_6 : decode cX9_allOf 6 = .ok (.iconst 0, 1) := by decide +kernel
theorem dX9_allOf_7 : decode cX9_allOf 7 = .ok (.iaload, 1) := by decide +kernel
theorem dX9_allOf_8 : decode cX9_allOf 8 = .ok (.if_icmp .ge 19, 3) := by decide +kernel
theorem dX9_allOf_11 : decode cX9_allOf 11 = .ok (.iload_n 2, 1) := by decide +kernel
theorem dX9_allOf_12 : decode cX9_allOf 12 = .ok (.aload_n 0, 1) := by decide +kernel
theorem dX9_allOf_13 : decode cX9_allOf 13 = .ok (.iload_n 3, 1) := by decide +kernel
theorem dX9_allOf_14 : decode cX9_allOf 14 = .ok (.iload_n 1, 1) := by decide +kernel
theorem dX9_allOf_15 : decode cX9_allOf 15 = .ok (.invokestatic 52, 3) := by decide +kernel
theorem dX9_allOf_18 : decode cX9_allOf 18 = .ok (.iaload, 1) := by decide +kernel
theorem dX9_allOf_19 : decode cX9_allOf 19 = .ok (.iadd, 1) := by decide +kernel
theorem dX9_allOf_20 : decode cX9_allOf 20 = .ok (.istore_n 2, 1) := by decide +kernel
theorem dX9_allOf_21 : decode cX9_allOf 21 = .ok (.iinc 3 1, 3) := by decide +kernel
theorem dX9_allOf_24 : decode cX9_allOf 24 = .ok (.goto (-20), 3) := by decide +kernel
theorem dX9_allOf_27 : decode cX9_allOf 27 = .ok (.iload_n 2, 1) := by decide +kernel
theorem dX9_allOf_28 : decode cX9_allOf 28 = .ok (.ireturn, 1) := by decide +kernel
theorem dX9_mean_0 : decode cX9_mean 0 = .ok (.iload_n 1, 1) := by decide +kernel
theorem dX9_mean_1 : decode cX9_mean 1 = .ok (.iconst 0, 1) := by decide +kernel
theorem dX9_mean_2 : decode cX9_mean 2 = .ok (.iconst 1, 1) := by decide +kernel
theorem dX9_mean_3 : decode cX9_mean 3 = .ok (.invokestatic 44, 3) := by decide +kernel
theorem dX9_mean_6 : decode cX9_mean 6 = .ok (.ifCond .eq 26, 3) := by decide +kernel
theorem dX9_mean_9 : decode cX9_mean 9 = .ok (.aload_n 0, 1) := by decide +kernel
theorem dX9_mean_10 : decode cX9_mean 10 = .ok (.getfield 9, 3) := by decide +kernel
theorem dX9_mean_13 : decode cX9_mean 13 = .ok (.iconst 4, 1) := by decide +kernel
theorem dX9_mean_14 : decode cX9_mean 14 = .ok (.invokestatic 208, 3) := by decide +kernel
theorem dX9_mean_17 : decode cX9_mean 17 = .ok (.i2l, 1) := by decide +kernel
theorem dX9_mean_18 : decode cX9_mean 18 = .ok (.aload_n 0, 1) := by decide +kernel
theorem dX9_mean_19 : decode cX9_mean 19 = .ok (.getfield 9, 3) := by decide +kernel
theorem dX9_mean_22 : decode cX9_mean 22 = .ok (.iconst 0, 1) := by decide +kernel
theorem dX9_mean_23 : decode cX9_mean 23 = .ok (.iaload, 1) := by decide +kernel
theorem dX9_mean_24 : decode cX9_mean 24 = .ok (.i2l, 1) := by decide +kernel
theorem dX9_mean_25 : decode cX9_mean 25 = .ok (.iload_n 1, 1) := by decide +kernel
theorem dX9_mean_26 : decode cX9_mean 26 = .ok (.invokestatic 204, 3) := by decide +kernel
theorem dX9_mean_29 : decode cX9_mean 29 = .ok (.goto 9, 3) := by decide +kernel
theorem dX9_mean_32 : decode cX9_mean 32 = .ok (.aload_n 0, 1) := by decide +kernel
theorem dX9_mean_33 : decode cX9_mean 33 = .ok (.bipush (-2), 2) := by decide +kernel
theorem dX9_mean_35 : decode cX9_mean 35 = .ok (.invokevirtual 200, 3) := by decide +kernel
theorem dX9_mean_38 : decode cX9_mean 38 = .ok (.lreturn, 1) := by decide +kernel
theorem dX9_whatIs_0 : decode cX9_whatIs 0 = .ok (.aload_n 0, 1) := by decide +kernel
theorem dX9_whatIs_1 : decode cX9_whatIs 1 = .ok (.iload_n 1, 1) := by decide +kernel
theorem dX9_whatIs_2 : decode cX9_whatIs 2 = .ok (.invokevirtual 48, 3) := by decide +kernel
theorem dX9_whatIs_5 : decode cX9_whatIs 5 = .ok (.ifCond .ne 9, 3) := by decide +kernel
theorem dX9_whatIs_8 : decode cX9_whatIs 8 = .ok (.aload_n 0, 1) := by decide +kernel
theorem dX9_whatIs_9 : decode cX9_whatIs 9 = .ok (.iconst (-1), 1) := by decide +kernel
theorem dX9_whatIs_10 : decode cX9_whatIs 10 = .ok (.invokevirtual 38, 3) := by decide +kernel
theorem dX9_whatIs_13 : decode cX9_whatIs 13 = .ok (.ireturn, 1) := by decide +kernel
theorem dX9_whatIs_14 : decode cX9_whatIs 14 = .ok (.iload_n 2, 1) := by decide +kernel
theorem dX9_whatIs_15 : decode cX9_whatIs 15 = .ok (.iconst 0, 1) := by decide +kernel
theorem dX9_whatIs_16 : decode cX9_whatIs 16 = .ok (.iconst 1, 1) := by decide +kernel
theorem dX9_whatIs_17 : decode cX9_whatIs 17 = .ok (.invokestatic 44, 3) := by decide +kernel
theorem dX9_whatIs_20 : decode cX9_whatIs 20 = .ok (.ifCond .ne 10, 3) := by decide +kernel
theorem dX9_whatIs_23 : decode cX9_whatIs 23 = .ok (.aload_n 0, 1) := by decide +kernel
theorem dX9_whatIs_24 : decode cX9_whatIs 24 = .ok (.bipush (-2), 2) := by decide +kernel
theorem dX9_whatIs_26 : decode cX9_whatIs 26 = .ok (.invokevirtual 38, 3) := by decide +kernel
theorem dX9_whatIs_29 : decode cX9_whatIs 29 = .ok (.ireturn, 1) := by decide +kernel
theorem dX9_whatIs_30 : decode cX9_whatIs 30 = .ok (.aload_n 0, 1) := by decide +kernel
theorem dX9_whatIs_31 : decode cX9_whatIs 31 = .ok (.getfield 9, 3) := by decide +kernel
theorem dX9_whatIs_34 : decode cX9_whatIs 34 = .ok (.iload_n 1, 1) := by decide +kernel
theorem dX9_whatIs_35 : decode cX9_whatIs 35 = .ok (.iconst 3, 1) := by decide +kernel
theorem dX9_whatIs_36 : decode cX9_whatIs 36 = .ok (.invokestatic 52, 3) := by decide +kernel
theorem dX9_whatIs_39 : decode cX9_whatIs 39 = .ok (.iaload, 1) := by decide +kernel
theorem dX9_whatIs_40 : decode cX9_whatIs 40 = .ok (.istore_n 3, 1) := by decide +kernel
theorem dX9_whatIs_41 : decode cX9_whatIs 41 = .ok (.iconst 0, 1) := by decide +kernel
theorem dX9_whatIs_42 : decode cX9_whatIs 42 = .ok (.istore 4, 2) := by decide +kernel
theorem dX9_whatIs_44 : decode cX9_whatIs 44 = .ok (.iconst 0, 1) := by decide +kernel
theorem dX9_whatIs_45 : decode cX9_whatIs 45 = .ok (.istore 5, 2) := by decide +kernel
theorem dX9_whatIs_47 : decode cX9_whatIs 47 = .ok (.iload 5, 2) := by decide +kernel
theorem dX9_whatIs_49 : decode cX9_whatIs 49 = .ok (.iload_n 2, 1) := by decide +kernel
theorem dX9_whatIs_50 : decode cX9_whatIs 50 = .ok (.ifCond .ne 8, 3) := by decide +kernel
theorem dX9_whatIs_53 : decode cX9_whatIs 53 = .ok (.bipush 6, 2) := by decide +kernel
theorem dX9_whatIs_55 : decode cX9_whatIs 55 = .ok (.goto 5, 3) := by decide +kernel
theorem dX9_whatIs_58 : decode cX9_whatIs 58 = .ok (.bipush 10, 2) := by decide +kernel
theorem dX9_whatIs_60 : decode cX9_whatIs 60 = .ok (.if_icmp .ge 114, 3) := by decide +kernel
theorem dX9_whatIs_63 : decode cX9_whatIs 63 = .ok (.iload_n 3, 1) := by decide +kernel
theorem dX9_whatIs_64 : decode cX9_whatIs 64 = .ok (.bipush 9, 2) := by decide +kernel
theorem dX9_whatIs_66 : decode cX9_whatIs 66 = .ok (.if_icmp .eq 108, 3) := by decide +kernel
theorem dX9_whatIs_69 : decode cX9_whatIs 69 = .ok (.iconst 1, 1) := by decide +kernel
theorem dX9_whatIs_70 : decode cX9_whatIs 70 = .ok (.istore 6, 2) := by decide +kernel
theorem dX9_whatIs_72 : decode cX9_whatIs 72 = .ok (.aload_n 0, 1) := by decide +kernel
theorem dX9_whatIs_73 : decode cX9_whatIs 73 = .ok (.getfield 9, 3) := by decide +kernel
theorem dX9_whatIs_76 : decode cX9_whatIs 76 = .ok (.aload_n 0, 1) := by decide +kernel
theorem dX9_whatIs_77 : decode cX9_whatIs 77 = .ok (.getfield 13, 3) := by decide +kernel
theorem dX9_whatIs_80 : decode cX9_whatIs 80 = .ok (.invokestatic 133, 3) := by decide +kernel
theorem dX9_whatIs_83 : decode cX9_whatIs 83 = .ok (.aload_n 0, 1) := by decide +kernel
theorem dX9_whatIs_84 : decode cX9_whatIs 84 = .ok (.getfield 13, 3) := by decide +kernel
theorem dX9_whatIs_87 : decode cX9_whatIs 87 = .ok (.iload_n 1, 1) := by decide +kernel
theorem dX9_whatIs_88 : decode cX9_whatIs 88 = .ok (.iload_n 2, 1) := by decide +kernel
theorem dX9_whatIs_89 : decode cX9_whatIs 89 = .ok (.invokestatic 52, 3) := by decide +kernel
theorem dX9_whatIs_92 : decode cX9_whatIs 92 = .ok (.iload 5, 2) := by decide +kernel
theorem dX9_whatIs_94 : decode cX9_whatIs 94 = .ok (.iastore, 1) := by decide +kernel
theorem dX9_whatIs_95 : decode cX9_whatIs 95 = .ok (.iconst 0, 1) := by decide +kernel
theorem dX9_whatIs_96 : decode cX9_whatIs 96 = .ok (.istore 7, 2) := by decide +kernel
theorem dX9_whatIs_98 : decode cX9_whatIs 98 = .ok (.iload 7, 2) := by decide +kernel
theorem dX9_whatIs_100 : decode cX9_whatIs 100 = .ok (.aload_n 0, 1) := by decide +kernel
theorem dX9_whatIs_101 : decode cX9_whatIs 101 = .ok (.getfield 189, 3) := by decide +kernel
theorem dX9_whatIs_104 : decode cX9_whatIs 104 = .ok (.if_icmp .ge 46, 3) := by decide +kernel
theorem dX9_whatIs_107 : decode cX9_whatIs 107 = .ok (.iload 6, 2) := by decide +kernel
theorem dX9_whatIs_109 : decode cX9_whatIs 109 = .ok (.aload_n 0, 1) := by decide +kernel
theorem dX9_whatIs_110 : decode cX9_whatIs 110 = .ok (.getfield 13, 3) := by decide +kernel
theorem dX9_whatIs_113 : decode cX9_whatIs 113 = .ok (.iload_n 3, 1) := by decide +kernel
theorem dX9_whatIs_114 : decode cX9_whatIs 114 = .ok (.iconst 4, 1) := by decide +kernel
theorem dX9_whatIs_115 : decode cX9_whatIs 115 = .ok (.invokestatic 52, 3) := by decide +kernel
theorem dX9_whatIs_118 : decode cX9_whatIs 118 = .ok (.iaload, 1) := by decide +kernel
theorem dX9_whatIs_119 : decode cX9_whatIs 119 = .ok (.aload_n 0, 1) := by decide +kernel
theorem dX9_whatIs_120 : decode cX9_whatIs 120 = .ok (.getfield 28, 3) := by decide +kernel
theorem dX9_whatIs_123 : decode cX9_whatIs 123 = .ok (.iload 7, 2) := by decide +kernel
theorem dX9_whatIs_125 : decode cX9_whatIs 125 = .ok (.iaload, 1) := by decide +kernel
theorem dX9_whatIs_126 : decode cX9_whatIs 126 = .ok (.if_icmp .ne 7, 3) := by decide +kernel
theorem dX9_whatIs_129 : decode cX9_whatIs 129 = .ok (.iconst 1, 1) := by decide +kernel
theorem dX9_whatIs_130 : decode cX9_whatIs 130 = .ok (.goto 4, 3) := by decide +kernel
theorem dX9_whatIs_133 : decode cX9_whatIs 133 = .ok (.iconst 0, 1) := by decide +kernel
theorem dX9_whatIs_134 : decode cX9_whatIs 134 = .ok (.iand, 1) := by decide +kernel
theorem dX9_whatIs_135 : decode cX9_whatIs 135 = .ok (.istore 6, 2) := by decide +kernel
theorem dX9_whatIs_137 : decode cX9_whatIs 137 = .ok (.aload_n 0, 1) := by decide +kernel
theorem dX9_whatIs_138 : decode cX9_whatIs 138 = .ok (.getfield 13, 3) := by decide +kernel
theorem dX9_whatIs_141 : decode cX9_whatIs 141 = .ok (.invokestatic 84, 3) := by decide +kernel
theorem dX9_whatIs_144 : decode cX9_whatIs 144 = .ok (.iinc 7 1, 3) := by decide +kernel
theorem dX9_whatIs_147 : decode cX9_whatIs 147 = .ok (.goto (-49), 3) := by decide +kernel
theorem dX9_whatIs_150 : decode cX9_whatIs 150 = .ok (.iload 4, 2) := by decide +kernel
theorem dX9_whatIs_152 : decode cX9_whatIs 152 = .ok (.iload 6, 2) := by decide +kernel
theorem dX9_whatIs_154 : decode cX9_whatIs 154 = .ok (.ifCond .eq 10, 3) := by decide +kernel
theorem dX9_whatIs_157 : decode cX9_whatIs 157 = .ok (.iconst 1, 1) := by decide +kernel
theorem dX9_whatIs_158 : decode cX9_whatIs 158 = .ok (.iload 5, 2) := by decide +kernel
theorem dX9_whatIs_160 : decode cX9_whatIs 160 = .ok (.ishl, 1) := by decide +kernel
theorem dX9_whatIs_161 : decode cX9_whatIs 161 = .ok (.goto 4, 3) := by decide +kernel
theorem dX9_whatIs_164 : decode cX9_whatIs 164 = .ok (.iconst 0, 1) := by decide +kernel
theorem dX9_whatIs_165 : decode cX9_whatIs 165 = .ok (.ior, 1) := by decide +kernel
theorem dX9_whatIs_166 : decode cX9_whatIs 166 = .ok (.istore 4, 2) := by decide +kernel
theorem dX9_whatIs_168 : decode cX9_whatIs 168 = .ok (.iinc 5 1, 3) := by decide +kernel
theorem dX9_whatIs_171 : decode cX9_whatIs 171 = .ok (.goto (-124), 3) := by decide +kernel
theorem dX9_whatIs_174 : decode cX9_whatIs 174 = .ok (.iload 4, 2) := by decide +kernel
theorem dX9_whatIs_176 : decode cX9_whatIs 176 = .ok (.ireturn, 1) := by decide +kernel
theorem dX9_row_0 : decode cX9_row 0 = .ok (.iload_n 1, 1) := by decide +kernel
theorem dX9_row_1 : decode cX9_row 1 = .ok (.bipush 99, 2) := by decide +kernel
theorem dX9_row_3 : decode cX9_row 3 = .ok (.invokestatic 150, 3) := by decide +kernel
theorem dX9_row_6 : decode cX9_row 6 = .ok (.istore_n 2, 1) := by decide +kernel
theorem dX9_row_7 : decode cX9_row 7 = .ok (.iload_n 2, 1) := by decide +kernel
theorem dX9_row_8 : decode cX9_row 8 = .ok (.ifCond .ne 15, 3) := by decide +kernel
theorem dX9_row_11 : decode cX9_row 11 = .ok (.aload_n 0, 1) := by decide +kernel
theorem dX9_row_12 : decode cX9_row 12 = .ok (.getfield 189, 3) := by decide +kernel
theorem dX9_row_15 : decode cX9_row 15 = .ok (.bipush 16, 2) := by decide +kernel
theorem dX9_row_17 : decode cX9_row 17 = .ok (.if_icmp .ne 6, 3) := by decide +kernel
theorem dX9_row_20 : decode cX9_row 20 = .ok (.bipush (-6), 2) := by decide +kernel
theorem dX9_row_22 : decode cX9_row 22 = .ok (.istore_n 2, 1) := by decide +kernel
theorem dX9_row_23 : decode cX9_row 23 = .ok (.iload_n 2, 1) := by decide +kernel
theorem dX9_row_24 : decode cX9_row 24 = .ok (.ifCond .eq 9, 3) := by decide +kernel
theorem dX9_row_27 : decode cX9_row 27 = .ok (.aload_n 0, 1) := by decide +kernel
theorem dX9_row_28 : decode cX9_row 28 = .ok (.iload_n 2, 1) := by decide +kernel
theorem dX9_row_29 : decode cX9_row 29 = .ok (.invokevirtual 38, 3) := by decide +kernel
theorem dX9_row_32 : decode cX9_row 32 = .ok (.ireturn, 1) := by decide +kernel
theorem dX9_row_33 : decode cX9_row 33 = .ok (.aload_n 0, 1) := by decide +kernel
theorem dX9_row_34 : decode cX9_row 34 = .ok (.getfield 28, 3) := by decide +kernel
theorem dX9_row_37 : decode cX9_row 37 = .ok (.aload_n 0, 1) := by decide +kernel
theorem dX9_row_38 : decode cX9_row 38 = .ok (.getfield 189, 3) := by decide +kernel
theorem dX9_row_41 : decode cX9_row 41 = .ok (.iload_n 1, 1) := by decide +kernel
theorem dX9_row_42 : decode cX9_row 42 = .ok (.iastore, 1) := by decide +kernel
theorem dX9_row_43 : decode cX9_row 43 = .ok (.aload_n 0, 1) := by decide +kernel
theorem dX9_row_44 : decode cX9_row 44 = .ok (.dup, 1) := by decide +kernel
theorem dX9_row_45 : decode cX9_row 45 = .ok (.getfield 189, 3) := by decide +kernel
theorem dX9_row_48 : decode cX9_row 48 = .ok (.iconst 1, 1) := by decide +kernel
theorem dX9_row_49 : decode cX9_row 49 = .ok (.iadd, 1) := by decide +kernel
theorem dX9_row_50 : decode cX9_row 50 = .ok (.putfield 189, 3) := by decide +kernel
theorem dX9_row_53 : decode cX9_row 53 = .ok (.aload_n 0, 1) := by decide +kernel
theorem dX9_row_54 : decode cX9_row 54 = .ok (.getfield 189, 3) := by decide +kernel
theorem dX9_row_57 : decode cX9_row 57 = .ok (.ireturn, 1) := by decide +kernel
theorem dX9_judge_0 : decode cX9_judge 0 = .ok (.aload_n 0, 1) := by decide +kernel
theorem dX9_judge_1 : decode cX9_judge 1 = .ok (.getfield 189, 3) := by decide +kernel
theorem dX9_judge_4 : decode cX9_judge 4 = .ok (.istore_n 1, 1) := by decide +kernel
theorem dX9_judge_5 : decode cX9_judge 5 = .ok (.aload_n 0, 1) := by decide +kernel
theorem dX9_judge_6 : decode cX9_judge 6 = .ok (.iconst 0, 1) := by decide +kernel
theorem dX9_judge_7 : decode cX9_judge 7 = .ok (.putfield 189, 3) := by decide +kernel
theorem dX9_judge_10 : decode cX9_judge 10 = .ok (.iconst 0, 1) := by decide +kernel
theorem dX9_judge_11 : decode cX9_judge 11 = .ok (.istore_n 2, 1) := by decide +kernel
theorem dX9_judge_12 : decode cX9_judge 12 = .ok (.iload_n 2, 1) := by decide +kernel
theorem dX9_judge_13 : decode cX9_judge 13 = .ok (.iload_n 1, 1) := by decide +kernel
theorem dX9_judge_14 : decode cX9_judge 14 = .ok (.if_icmp .ge 38, 3) := by decide +kernel
theorem dX9_judge_17 : decode cX9_judge 17 = .ok (.aload_n 0, 1) := by decide +kernel
theorem dX9_judge_18 : decode cX9_judge 18 = .ok (.iload_n 2, 1) := by decide +kernel
theorem dX9_judge_19 : decode cX9_judge 19 = .ok (.invokevirtual 48, 3) := by decide +kernel
theorem dX9_judge_22 : decode cX9_judge 22 = .ok (.ifCond .eq 22, 3) := by decide +kernel
theorem dX9_judge_25 : decode cX9_judge 25 = .ok (.aload_n 0, 1) := by decide +kernel
theorem dX9_judge_26 : decode cX9_judge 26 = .ok (.getfield 9, 3) := by decide +kernel
theorem dX9_judge_29 : decode cX9_judge 29 = .ok (.iload_n 2, 1) := by decide +kernel
theorem dX9_judge_30 : decode cX9_judge 30 = .ok (.iconst 5, 1) := by decide +kernel
theorem dX9_judge_31 : decode cX9_judge 31 = .ok (.invokestatic 52, 3) := by decide +kernel
theorem dX9_judge_34 : decode cX9_judge 34 = .ok (.iaload, 1) := by decide +kernel
theorem dX9_judge_35 : decode cX9_judge 35 = .ok (.aload_n 0, 1) := by decide +kernel
theorem dX9_judge_36 : decode cX9_judge 36 = .ok (.getfield 28, 3) := by decide +kernel
theorem dX9_judge_39 : decode cX9_judge 39 = .ok (.iload_n 2, 1) := by decide +kernel
theorem dX9_judge_40 : decode cX9_judge 40 = .ok (.iaload, 1) := by decide +kernel
theorem dX9_judge_41 : decode cX9_judge 41 = .ok (.if_icmp .eq 5, 3) := by decide +kernel
theorem dX9_judge_44 : decode cX9_judge 44 = .ok (.iload_n 2, 1) := by decide +kernel
theorem dX9_judge_45 : decode cX9_judge 45 = .ok (.ireturn, 1) := by decide +kernel
theorem dX9_judge_46 : decode cX9_judge 46 = .ok (.iinc 2 1, 3) := by decide +kernel
theorem dX9_judge_49 : decode cX9_judge 49 = .ok (.goto (-37), 3) := by decide +kernel
theorem dX9_judge_52 : decode cX9_judge 52 = .ok (.bipush (-9), 2) := by decide +kernel
theorem dX9_judge_54 : decode cX9_judge 54 = .ok (.ireturn, 1) := by decide +kernel
theorem dX9_clear_0 : decode cX9_clear 0 = .ok (.aload_n 0, 1) := by decide +kernel
theorem dX9_clear_1 : decode cX9_clear 1 = .ok (.getfield 189, 3) := by decide +kernel
theorem dX9_clear_4 : decode cX9_clear 4 = .ok (.istore_n 1, 1) := by decide +kernel
theorem dX9_clear_5 : decode cX9_clear 5 = .ok (.aload_n 0, 1) := by decide +kernel
theorem dX9_clear_6 : decode cX9_clear 6 = .ok (.iconst 0, 1) := by decide +kernel
theorem dX9_clear_7 : decode cX9_clear 7 = .ok (.putfield 189, 3) := by decide +kernel
theorem dX9_clear_10 : decode cX9_clear 10 = .ok (.iload_n 1, 1) := by decide +kernel
theorem dX9_clear_11 : decode cX9_clear 11 = .ok (.ireturn, 1) := by decide +kernel
theorem dX9_drawn_0 : decode cX9_drawn 0 = .ok (.aload_n 0, 1) := by decide +kernel
theorem dX9_drawn_1 : decode cX9_drawn 1 = .ok (.aload_n 0, 1) := by decide +kernel
theorem dX9_drawn_2 : decode cX9_drawn 2 = .ok (.getfield 211, 3) := by decide +kernel
theorem dX9_drawn_5 : decode cX9_drawn 5 = .ok (.ldc 214, 2) := by decide +kernel
theorem dX9_drawn_7 : decode cX9_drawn 7 = .ok (.imul, 1) := by decide +kernel
theorem dX9_drawn_8 : decode cX9_drawn 8 = .ok (.ldc 215, 2) := by decide +kernel
theorem dX9_drawn_10 : decode cX9_drawn 10 = .ok (.iadd, 1) := by decide +kernel
theorem dX9_drawn_11 : decode cX9_drawn 11 = .ok (.putfield 211, 3) := by decide +kernel
theorem dX9_drawn_14 : decode cX9_drawn 14 = .ok (.aload_n 0, 1) := by decide +kernel
theorem dX9_drawn_15 : decode cX9_drawn 15 = .ok (.getfield 211, 3) := by decide +kernel
theorem dX9_drawn_18 : decode cX9_drawn 18 = .ok (.ldc 216, 2) := by decide +kernel
theorem dX9_drawn_20 : decode cX9_drawn 20 = .ok (.iand, 1) := by decide +kernel
theorem dX9_drawn_21 : decode cX9_drawn 21 = .ok (.sipush 256, 3) := by decide +kernel
theorem dX9_drawn_24 : decode cX9_drawn 24 = .ok (.idiv, 1) := by decide +kernel
theorem dX9_drawn_25 : decode cX9_drawn 25 = .ok (.iload_n 1, 1) := by decide +kernel
theorem dX9_drawn_26 : decode cX9_drawn 26 = .ok (.irem, 1) := by decide +kernel
theorem dX9_drawn_27 : decode cX9_drawn 27 = .ok (.ireturn, 1) := by decide +kernel
theorem dX9_lots_0 : decode cX9_lots 0 = .ok (.iload_n 1, 1) := by decide +kernel
theorem dX9_lots_1 : decode cX9_lots 1 = .ok (.iconst 1, 1) := by decide +kernel
theorem dX9_lots_2 : decode cX9_lots 2 = .ok (.if_icmp .ge 10, 3) := by decide +kernel
theorem dX9_lots_5 : decode cX9_lots 5 = .ok (.aload_n 0, 1) := by decide +kernel
theorem dX9_lots_6 : decode cX9_lots 6 = .ok (.bipush (-4), 2) := by decide +kernel
theorem dX9_lots_8 : decode cX9_lots 8 = .ok (.invokevirtual 143, 3) := by decide +kernel
theorem dX9_lots_11 : decode cX9_lots 11 = .ok (.ireturn, 1) := by decide +kernel
theorem dX9_lots_12 : decode cX9_lots 12 = .ok (.iload_n 1, 1) := by decide +kernel
theorem dX9_lots_13 : decode cX9_lots 13 = .ok (.bipush 20, 2) := by decide +kernel
theorem dX9_lots_15 : decode cX9_lots 15 = .ok (.if_icmp .le 10, 3) := by decide +kernel
theorem dX9_lots_18 : decode cX9_lots 18 = .ok (.aload_n 0, 1) := by decide +kernel
theorem dX9_lots_19 : decode cX9_lots 19 = .ok (.bipush (-6), 2) := by decide +kernel
theorem dX9_lots_21 : decode cX9_lots 21 = .ok (.invokevirtual 143, 3) := by decide +kernel
theorem dX9_lots_24 : decode cX9_lots 24 = .ok (.ireturn, 1) := by decide +kernel
theorem dX9_lots_25 : decode cX9_lots 25 = .ok (.iload_n 3, 1) := by decide +kernel
theorem dX9_lots_26 : decode cX9_lots 26 = .ok (.iconst 0, 1) := by decide +kernel
theorem dX9_lots_27 : decode cX9_lots 27 = .ok (.iconst 1, 1) := by decide +kernel
theorem dX9_lots_28 : decode cX9_lots 28 = .ok (.invokestatic 44, 3) := by decide +kernel
theorem dX9_lots_31 : decode cX9_lots 31 = .ok (.ifCond .ne 10, 3) := by decide +kernel
theorem dX9_lots_34 : decode cX9_lots 34 = .ok (.aload_n 0, 1) := by decide +kernel
theorem dX9_lots_35 : decode cX9_lots 35 = .ok (.bipush (-2), 2) := by decide +kernel
theorem dX9_lots_37 : decode cX9_lots 37 = .ok (.invokevirtual 143, 3) := by decide +kernel
theorem dX9_lots_40 : decode cX9_lots 40 = .ok (.ireturn, 1) := by decide +kernel
theorem dX9_lots_41 : decode cX9_lots 41 = .ok (.aload_n 0, 1) := by decide +kernel
theorem dX9_lots_42 : decode cX9_lots 42 = .ok (.getfield 9, 3) := by decide +kernel
theorem dX9_lots_45 : decode cX9_lots 45 = .ok (.iconst 0, 1) := by decide +kernel
theorem dX9_lots_46 : decode cX9_lots 46 = .ok (.iaload, 1) := by decide +kernel
theorem dX9_lots_47 : decode cX9_lots 47 = .ok (.ifCond .ne 10, 3) := by decide +kernel
theorem dX9_lots_50 : decode cX9_lots 50 = .ok (.aload_n 0, 1) := by decide +kernel
theorem dX9_lots_51 : decode cX9_lots 51 = .ok (.bipush (-3), 2) := by decide +kernel
theorem dX9_lots_53 : decode cX9_lots 53 = .ok (.invokevirtual 143, 3) := by decide +kernel
theorem dX9_lots_56 : decode cX9_lots 56 = .ok (.ireturn, 1) := by decide +kernel
theorem dX9_lots_57 : decode cX9_lots 57 = .ok (.aload_n 0, 1) := by decide +kernel
theorem dX9_lots_58 : decode cX9_lots 58 = .ok (.iload_n 2, 1) := by decide +kernel
theorem dX9_lots_59 : decode cX9_lots 59 = .ok (.putfield 211, 3) := by decide +kernel
theorem dX9_lots_62 : decode cX9_lots 62 = .ok (.iconst 0, 1) := by decide +kernel
theorem dX9_lots_63 : decode cX9_lots 63 = .ok (.istore 4, 2) := by decide +kernel
theorem dX9_lots_65 : decode cX9_lots 65 = .ok (.iconst 0, 1) := by decide +kernel
theorem dX9_lots_66 : decode cX9_lots 66 = .ok (.istore 5, 2) := by decide +kernel
theorem dX9_lots_68 : decode cX9_lots 68 = .ok (.iload 5, 2) := by decide +kernel
theorem dX9_lots_70 : decode cX9_lots 70 = .ok (.iload_n 1, 1) := by decide +kernel
theorem dX9_lots_71 : decode cX9_lots 71 = .ok (.if_icmp .ge 120, 3) := by decide +kernel
theorem dX9_lots_74 : decode cX9_lots 74 = .ok (.aload_n 0, 1) := by decide +kernel
theorem dX9_lots_75 : decode cX9_lots 75 = .ok (.getfield 9, 3) := by decide +kernel
theorem dX9_lots_78 : decode cX9_lots 78 = .ok (.aload_n 0, 1) := by decide +kernel
theorem dX9_lots_79 : decode cX9_lots 79 = .ok (.getfield 13, 3) := by decide +kernel
theorem dX9_lots_82 : decode cX9_lots 82 = .ok (.invokestatic 133, 3) := by decide +kernel
theorem dX9_lots_85 : decode cX9_lots 85 = .ok (.iconst 0, 1) := by decide +kernel
theorem dX9_lots_86 : decode cX9_lots 86 = .ok (.istore 6, 2) := by decide +kernel
theorem dX9_lots_88 : decode cX9_lots 88 = .ok (.iload 6, 2) := by decide +kernel
theorem dX9_lots_90 : decode cX9_lots 90 = .ok (.iconst 4, 1) := by decide +kernel
theorem dX9_lots_91 : decode cX9_lots 91 = .ok (.if_icmp .ge 58, 3) := by decide +kernel
theorem dX9_lots_94 : decode cX9_lots 94 = .ok (.aload_n 0, 1) := by decide +kernel
theorem dX9_lots_95 : decode cX9_lots 95 = .ok (.aload_n 0, 1) := by decide +kernel
theorem dX9_lots_96 : decode cX9_lots 96 = .ok (.getfield 9, 3) := by decide +kernel
theorem dX9_lots_99 : decode cX9_lots 99 = .ok (.iconst 0, 1) := by decide +kernel
theorem dX9_lots_100 : decode cX9_lots 100 = .ok (.iaload, 1) := by decide +kernel
theorem dX9_lots_101 : decode cX9_lots 101 = .ok (.invokevirtual 217, 3) := by decide +kernel
theorem dX9_lots_104 : decode cX9_lots 104 = .ok (.istore 7, 2) := by decide +kernel
theorem dX9_lots_106 : decode cX9_lots 106 = .ok (.aload_n 0, 1) := by decide +kernel
theorem dX9_lots_107 : decode cX9_lots 107 = .ok (.aload_n 0, 1) := by decide +kernel
theorem dX9_lots_108 : decode cX9_lots 108 = .ok (.getfield 9, 3) := by decide +kernel
theorem dX9_lots_111 : decode cX9_lots 111 = .ok (.iconst 0, 1) := by decide +kernel
theorem dX9_lots_112 : decode cX9_lots 112 = .ok (.iaload, 1) := by decide +kernel
theorem dX9_lots_113 : decode cX9_lots 113 = .ok (.invokevirtual 217, 3) := by decide +kernel
theorem dX9_lots_116 : decode cX9_lots 116 = .ok (.istore 8, 2) := by decide +kernel
theorem dX9_lots_118 : decode cX9_lots 118 = .ok (.aload_n 0, 1) := by decide +kernel
theorem dX9_lots_119 : decode cX9_lots 119 = .ok (.getfield 13, 3) := by decide +kernel
theorem dX9_lots_122 : decode cX9_lots 122 = .ok (.iload 7, 2) := by decide +kernel
theorem dX9_lots_124 : decode cX9_lots 124 = .ok (.iload 8, 2) := by decide +kernel
theorem dX9_lots_126 : decode cX9_lots 126 = .ok (.invokestatic 118, 3) := by decide +kernel
theorem dX9_lots_129 : decode cX9_lots 129 = .ok (.ifCond .eq 14, 3) := by decide +kernel
theorem dX9_lots_132 : decode cX9_lots 132 = .ok (.aload_n 0, 1) := by decide +kernel
theorem dX9_lots_133 : decode cX9_lots 133 = .ok (.getfield 13, 3) := by decide +kernel
theorem dX9_lots_136 : decode cX9_lots 136 = .ok (.iload 7, 2) := by decide +kernel
theorem dX9_lots_138 : decode cX9_lots 138 = .ok (.iload 8, 2) := by decide +kernel
theorem dX9_lots_140 : decode cX9_lots 140 = .ok (.invokestatic 122, 3) := by decide +kernel
theorem dX9_lots_143 : decode cX9_lots 143 = .ok (.iinc 6 1, 3) := by decide +kernel
theorem dX9_lots_146 : decode cX9_lots 146 = .ok (.goto (-58), 3) := by decide +kernel
theorem dX9_lots_149 : decode cX9_lots 149 = .ok (.aload_n 0, 1) := by decide +kernel
theorem dX9_lots_150 : decode cX9_lots 150 = .ok (.getfield 13, 3) := by decide +kernel
theorem dX9_lots_153 : decode cX9_lots 153 = .ok (.bipush 6, 2) := by decide +kernel
theorem dX9_lots_155 : decode cX9_lots 155 = .ok (.invokestatic 126, 3) := by decide +kernel
theorem dX9_lots_158 : decode cX9_lots 158 = .ok (.iload 4, 2) := by decide +kernel
theorem dX9_lots_160 : decode cX9_lots 160 = .ok (.iload_n 3, 1) := by decide +kernel
theorem dX9_lots_161 : decode cX9_lots 161 = .ok (.ifCond .ne 13, 3) := by decide +kernel
theorem dX9_lots_164 : decode cX9_lots 164 = .ok (.aload_n 0, 1) := by decide +kernel
theorem dX9_lots_165 : decode cX9_lots 165 = .ok (.getfield 13, 3) := by decide +kernel
theorem dX9_lots_168 : decode cX9_lots 168 = .ok (.invokestatic 160, 3) := by decide +kernel
theorem dX9_lots_171 : decode cX9_lots 171 = .ok (.goto 11, 3) := by decide +kernel
theorem dX9_lots_174 : decode cX9_lots 174 = .ok (.aload_n 0, 1) := by decide +kernel
theorem dX9_lots_175 : decode cX9_lots 175 = .ok (.getfield 13, 3) := by decide +kernel
theorem dX9_lots_178 : decode cX9_lots 178 = .ok (.iconst 5, 1) := by decide +kernel
theorem dX9_lots_179 : decode cX9_lots 179 = .ok (.invokestatic 208, 3) := by decide +kernel
theorem dX9_lots_182 : decode cX9_lots 182 = .ok (.iadd, 1) := by decide +kernel
theorem dX9_lots_183 : decode cX9_lots 183 = .ok (.istore 4, 2) := by decide +kernel
theorem dX9_lots_185 : decode cX9_lots 185 = .ok (.iinc 5 1, 3) := by decide +kernel
theorem dX9_lots_188 : decode cX9_lots 188 = .ok (.goto (-120), 3) := by decide +kernel
theorem dX9_lots_191 : decode cX9_lots 191 = .ok (.iload 4, 2) := by decide +kernel
theorem dX9_lots_193 : decode cX9_lots 193 = .ok (.ireturn, 1) := by decide +kernel
theorem dX9_image_0 : decode cX9_image 0 = .ok (.aload_n 0, 1) := by decide +kernel
theorem dX9_image_1 : decode cX9_image 1 = .ok (.getfield 9, 3) := by decide +kernel
theorem dX9_image_4 : decode cX9_image 4 = .ok (.aload_n 0, 1) := by decide +kernel
theorem dX9_image_5 : decode cX9_image 5 = .ok (.getfield 16, 3) := by decide +kernel
theorem dX9_image_8 : decode cX9_image 8 = .ok (.invokestatic 133, 3) := by decide +kernel
theorem dX9_image_11 : decode cX9_image 11 = .ok (.aload_n 0, 1) := by decide +kernel
theorem dX9_image_12 : decode cX9_image 12 = .ok (.iconst 1, 1) := by decide +kernel
theorem dX9_image_13 : decode cX9_image 13 = .ok (.putfield 220, 3) := by decide +kernel
theorem dX9_image_16 : decode cX9_image 16 = .ok (.aload_n 0, 1) := by decide +kernel
theorem dX9_image_17 : decode cX9_image 17 = .ok (.getfield 9, 3) := by decide +kernel
theorem dX9_image_20 : decode cX9_image 20 = .ok (.iconst 1, 1) := by decide +kernel
theorem dX9_image_21 : decode cX9_image 21 = .ok (.iaload, 1) := by decide +kernel
theorem dX9_image_22 : decode cX9_image 22 = .ok (.ireturn, 1) := by decide +kernel
theorem dX9_on_0 : decode cX9_on 0 = .ok (.aload_n 0, 1) := by decide +kernel
theorem dX9_on_1 : decode cX9_on 1 = .ok (.getfield 220, 3) := by decide +kernel
theorem dX9_on_4 : decode cX9_on 4 = .ok (.ifCond .ne 10, 3) := by decide +kernel
theorem dX9_on_7 : decode cX9_on 7 = .ok (.aload_n 0, 1) := by decide +kernel
theorem dX9_on_8 : decode cX9_on 8 = .ok (.bipush (-3), 2) := by decide +kernel
theorem dX9_on_10 : decode cX9_on 10 = .ok (.invokevirtual 38, 3) := by decide +kernel
theorem dX9_on_13 : decode cX9_on 13 = .ok (.ireturn, 1) := by decide +kernel
theorem dX9_on_14 : decode cX9_on 14 = .ok (.aload_n 0, 1) := by decide +kernel
theorem dX9_on_15 : decode cX9_on 15 = .ok (.getfield 16, 3) := by decide +kernel
theorem dX9_on_18 : decode cX9_on 18 = .ok (.aload_n 0, 1) := by decide +kernel
theorem dX9_on_19 : decode cX9_on 19 = .ok (.getfield 9, 3) := by decide +kernel
theorem dX9_on_22 : decode cX9_on 22 = .ok (.invokestatic 133, 3) := by decide +kernel
theorem dX9_on_25 : decode cX9_on 25 = .ok (.aload_n 0, 1) := by decide +kernel
theorem dX9_on_26 : decode cX9_on 26 = .ok (.getfield 9, 3) := by decide +kernel
theorem dX9_on_29 : decode cX9_on 29 = .ok (.iconst 1, 1) := by decide +kernel
theorem dX9_on_30 : decode cX9_on 30 = .ok (.iaload, 1) := by decide +kernel
theorem dX9_on_31 : decode cX9_on 31 = .ok (.ireturn, 1) := by decide +kernel
theorem dX9_count_0 : decode cX9_count 0 = .ok (.iload_n 1, 1) := by decide +kernel
theorem dX9_count_1 : decode cX9_count 1 = .ok (.bipush 11, 2) := by decide +kernel
theorem dX9_count_3 : decode cX9_count 3 = .ok (.bipush 16, 2) := by decide +kernel
theorem dX9_count_5 : decode cX9_count 5 = .ok (.invokestatic 44, 3) := by decide +kernel
theorem dX9_count_8 : decode cX9_count 8 = .ok (.ifCond .eq 13, 3) := by decide +kernel
theorem dX9_count_11 : decode cX9_count 11 = .ok (.aload_n 0, 1) := by decide +kernel
theorem dX9_count_12 : decode cX9_count 12 = .ok (.getfield 31, 3) := by decide +kernel
theorem dX9_count_15 : decode cX9_count 15 = .ok (.iload_n 1, 1) := by decide +kernel
theorem dX9_count_16 : decode cX9_count 16 = .ok (.bipush 10, 2) := by decide +kernel
theorem dX9_count_18 : decode cX9_count 18 = .ok (.isub, 1) := by decide +kernel
theorem dX9_count_19 : decode cX9_count 19 = .ok (.iaload, 1) := by decide +kernel
theorem dX9_count_20 : decode cX9_count 20 = .ok (.ireturn, 1) := by decide +kernel
theorem dX9_count_21 : decode cX9_count 21 = .ok (.iload_n 1, 1) := by decide +kernel
theorem dX9_count_22 : decode cX9_count 22 = .ok (.tableswitch 97 0 7 #[46, 46, 53, 61, 70, 79, 87, 92], 46) := by decide +kernel
theorem dX9_count_68 : decode cX9_count 68 = .ok (.aload_n 0, 1) := by decide +kernel
theorem dX9_count_69 : decode cX9_count 69 = .ok (.getfield 9, 3) := by decide +kernel
theorem dX9_count_72 : decode cX9_count 72 = .ok (.iload_n 1, 1) := by decide +kernel
theorem dX9_count_73 : decode cX9_count 73 = .ok (.iaload, 1) := by decide +kernel
theorem dX9_count_74 : decode cX9_count 74 = .ok (.ireturn, 1) := by decide +kernel
theorem dX9_count_75 : decode cX9_count 75 = .ok (.aload_n 0, 1) := by decide +kernel
theorem dX9_count_76 : decode cX9_count 76 = .ok (.getfield 9, 3) := by decide +kernel
theorem dX9_count_79 : decode cX9_count 79 = .ok (.invokestatic 146, 3) := by decide +kernel
theorem dX9_count_82 : decode cX9_count 82 = .ok (.ireturn, 1) := by decide +kernel
theorem dX9_count_83 : decode cX9_count 83 = .ok (.aload_n 0, 1) := by decide +kernel
theorem dX9_count_84 : decode cX9_count 84 = .ok (.getfield 9, 3) := by decide +kernel
theorem dX9_count_87 : decode cX9_count 87 = .ok (.iconst 4, 1) := by decide +kernel
theorem dX9_count_88 : decode cX9_count 88 = .ok (.invokestatic 208, 3) := by decide +kernel
theorem dX9_count_91 : decode cX9_count 91 = .ok (.ireturn, 1) := by decide +kernel
theorem dX9_count_92 : decode cX9_count 92 = .ok (.aload_n 0, 1) := by decide +kernel
theorem dX9_count_93 : decode cX9_count 93 = .ok (.getfield 9, 3) := by decide +kernel
theorem dX9_count_96 : decode cX9_count 96 = .ok (.iconst 5, 1) := by decide +kernel
theorem dX9_count_97 : decode cX9_count 97 = .ok (.invokestatic 208, 3) := by decide +kernel
theorem dX9_count_100 : decode cX9_count 100 = .ok (.ireturn, 1) := by decide +kernel
theorem dX9_count_101 : decode cX9_count 101 = .ok (.aload_n 0, 1) := by decide +kernel
theorem dX9_count_102 : decode cX9_count 102 = .ok (.getfield 9, 3) := by decide +kernel
theorem dX9_count_105 : decode cX9_count 105 = .ok (.invokestatic 172, 3) := by decide +kernel
theorem dX9_count_108 : decode cX9_count 108 = .ok (.ireturn, 1) := by decide +kernel
theorem dX9_count_109 : decode cX9_count 109 = .ok (.aload_n 0, 1) := by decide +kernel
theorem dX9_count_110 : decode cX9_count 110 = .ok (.getfield 189, 3) := by decide +kernel
theorem dX9_count_113 : decode cX9_count 113 = .ok (.ireturn, 1) := by decide +kernel
theorem dX9_count_114 : decode cX9_count 114 = .ok (.aload_n 0, 1) := by decide +kernel
theorem dX9_count_115 : decode cX9_count 115 = .ok (.getfield 91, 3) := by decide +kernel
theorem dX9_count_118 : decode cX9_count 118 = .ok (.ireturn, 1) := by decide +kernel
theorem dX9_count_119 : decode cX9_count 119 = .ok (.bipush (-9), 2) := by decide +kernel
theorem dX9_count_121 : decode cX9_count 121 = .ok (.ireturn, 1) := by decide +kernel
theorem dJ11_isValidCodePoint_9a6ad_0 : decode cJ11_isValidCodePoint_9a6ad 0 = .ok (.iload_n 0, 1) := by decide +kernel
theorem dJ11_isValidCodePoint_9a6ad_1 : decode cJ11_isValidCodePoint_9a6ad 1 = .ok (.bipush 16, 2) := by decide +kernel
theorem dJ11_isValidCodePoint_9a6ad_3 : decode cJ11_isValidCodePoint_9a6ad 3 = .ok (.iushr, 1) := by decide +kernel
theorem dJ11_isValidCodePoint_9a6ad_4 : decode cJ11_isValidCodePoint_9a6ad 4 = .ok (.istore_n 1, 1) := by decide +kernel
theorem dJ11_isValidCodePoint_9a6ad_5 : decode cJ11_isValidCodePoint_9a6ad 5 = .ok (.iload_n 1, 1) := by decide +kernel
theorem dJ11_isValidCodePoint_9a6ad_6 : decode cJ11_isValidCodePoint_9a6ad 6 = .ok (.bipush 17, 2) := by decide +kernel
theorem dJ11_isValidCodePoint_9a6ad_8 : decode cJ11_isValidCodePoint_9a6ad 8 = .ok (.if_icmp .ge 7, 3) := by decide +kernel
theorem dJ11_isValidCodePoint_9a6ad_11 : decode cJ11_isValidCodePoint_9a6ad 11 = .ok (.iconst 1, 1) := by decide +kernel
theorem dJ11_isValidCodePoint_9a6ad_12 : decode cJ11_isValidCodePoint_9a6ad 12 = .ok (.goto 4, 3) := by decide +kernel
theorem dJ11_isValidCodePoint_9a6ad_15 : decode cJ11_isValidCodePoint_9a6ad 15 = .ok (.iconst 0, 1) := by decide +kernel
theorem dJ11_isValidCodePoint_9a6ad_16 : decode cJ11_isValidCodePoint_9a6ad 16 = .ok (.ireturn, 1) := by decide +kernel
theorem dJ11_highSurrogate_5068e_0 : decode cJ11_highSurrogate_5068e 0 = .ok (.iload_n 0, 1) := by decide +kernel
theorem dJ11_highSurrogate_5068e_1 : decode cJ11_highSurrogate_5068e 1 = .ok (.bipush 10, 2) := by decide +kernel
theorem dJ11_highSurrogate_5068e_3 : decode cJ11_highSurrogate_5068e 3 = .ok (.iushr, 1) := by decide +kernel
theorem dJ11_highSurrogate_5068e_4 : decode cJ11_highSurrogate_5068e 4 = .ok (.ldc 110, 2) := by decide +kernel
theorem dJ11_highSurrogate_5068e_6 : decode cJ11_highSurrogate_5068e 6 = .ok (.iadd, 1) := by decide +kernel
theorem dJ11_highSurrogate_5068e_7 : decode cJ11_highSurrogate_5068e 7 = .ok (.i2c, 1) := by decide +kernel
theorem dJ11_highSurrogate_5068e_8 : decode cJ11_highSurrogate_5068e 8 = .ok (.ireturn, 1) := by decide +kernel
theorem dJ11_lowSurrogate_5068e_0 : decode cJ11_lowSurrogate_5068e 0 = .ok (.iload_n 0, 1) := by decide +kernel
theorem dJ11_lowSurrogate_5068e_1 : decode cJ11_lowSurrogate_5068e 1 = .ok (.sipush 1023, 3) := by decide +kernel
theorem dJ11_lowSurrogate_5068e_4 : decode cJ11_lowSurrogate_5068e 4 = .ok (.iand, 1) := by decide +kernel
theorem dJ11_lowSurrogate_5068e_5 : decode cJ11_lowSurrogate_5068e 5 = .ok (.ldc 76, 2) := by decide +kernel
theorem dJ11_lowSurrogate_5068e_7 : decode cJ11_lowSurrogate_5068e 7 = .ok (.iadd, 1) := by decide +kernel
theorem dJ11_lowSurrogate_5068e_8 : decode cJ11_lowSurrogate_5068e 8 = .ok (.i2c, 1) := by decide +kernel
theorem dJ11_lowSurrogate_5068e_9 : decode cJ11_lowSurrogate_5068e 9 = .ok (.ireturn, 1) := by decide +kernel
theorem dJ9_max_7cf53_0 : decode cJ9_max_7cf53 0 = .ok (.iload_n 0, 1) := by decide +kernel
theorem dJ9_max_7cf53_1 : decode cJ9_max_7cf53 1 = .ok (.iload_n 1, 1) := by decide +kernel
theorem dJ9_max_7cf53_2 : decode cJ9_max_7cf53 2 = .ok (.if_icmp .lt 7, 3) := by decide +kernel
theorem dJ9_max_7cf53_5 : decode cJ9_max_7cf53 5 = .ok (.iload_n 0, 1) := by decide +kernel
theorem dJ9_max_7cf53_6 : decode cJ9_max_7cf53 6 = .ok (.goto 4, 3) := by decide +kernel
theorem dJ9_max_7cf53_9 : decode cJ9_max_7cf53 9 = .ok (.iload_n 1, 1) := by decide +kernel
theorem dJ9_max_7cf53_10 : decode cJ9_max_7cf53 10 = .ok (.ireturn, 1) := by decide +kernel
theorem dJ9_min_7cf53_0 : decode cJ9_min_7cf53 0 = .ok (.iload_n 0, 1) := by decide +kernel
theorem dJ9_min_7cf53_1 : decode cJ9_min_7cf53 1 = .ok (.iload_n 1, 1) := by decide +kernel
theorem dJ9_min_7cf53_2 : decode cJ9_min_7cf53 2 = .ok (.if_icmp .gt 7, 3) := by decide +kernel
theorem dJ9_min_7cf53_5 : decode cJ9_min_7cf53 5 = .ok (.iload_n 0, 1) := by decide +kernel
theorem dJ9_min_7cf53_6 : decode cJ9_min_7cf53 6 = .ok (.goto 4, 3) := by decide +kernel
theorem dJ9_min_7cf53_9 : decode cJ9_min_7cf53 9 = .ok (.iload_n 1, 1) := by decide +kernel
theorem dJ9_min_7cf53_10 : decode cJ9_min_7cf53 10 = .ok (.ireturn, 1) := by decide +kernel
theorem dJ0_length_8abf5_0 : decode cJ0_length_8abf5 0 = .ok (.aload_n 0, 1) := by decide +kernel
theorem dJ0_length_8abf5_1 : decode cJ0_length_8abf5 1 = .ok (.getfield 9, 3) := by decide +kernel
theorem dJ0_length_8abf5_4 : decode cJ0_length_8abf5 4 = .ok (.arraylength, 1) := by decide +kernel
theorem dJ0_length_8abf5_5 : decode cJ0_length_8abf5 5 = .ok (.aload_n 0, 1) := by decide +kernel
theorem dJ0_length_8abf5_6 : decode cJ0_length_8abf5 6 = .ok (.invokevirtual 335, 3) := by decide +kernel
theorem dJ0_length_8abf5_9 : decode cJ0_length_8abf5 9 = .ok (.ishr, 1) := by decide +kernel
theorem dJ0_length_8abf5_10 : decode cJ0_length_8abf5 10 = .ok (.ireturn, 1) := by decide +kernel
theorem dJ0_isEmpty_aae02_0 : decode cJ0_isEmpty_aae02 0 = .ok (.aload_n 0, 1) := by decide +kernel
theorem dJ0_isEmpty_aae02_1 : decode cJ0_isEmpty_aae02 1 = .ok (.getfield 9, 3) := by decide +kernel
theorem dJ0_isEmpty_aae02_4 : decode cJ0_isEmpty_aae02 4 = .ok (.arraylength, 1) := by decide +kernel
theorem dJ0_isEmpty_aae02_5 : decode cJ0_isEmpty_aae02 5 = .ok (.ifCond .ne 7, 3) := by decide +kernel
theorem dJ0_isEmpty_aae02_8 : decode cJ0_isEmpty_aae02 8 = .ok (.iconst 1, 1) := by decide +kernel
theorem dJ0_isEmpty_aae02_9 : decode cJ0_isEmpty_aae02 9 = .ok (.goto 4, 3) := by decide +kernel
theorem dJ0_isEmpty_aae02_12 : decode cJ0_isEmpty_aae02 12 = .ok (.iconst 0, 1) := by decide +kernel
theorem dJ0_isEmpty_aae02_13 : decode cJ0_isEmpty_aae02 13 = .ok (.ireturn, 1) := by decide +kernel
theorem dJ0_charAt_5068e_0 : decode cJ0_charAt_5068e 0 = .ok (.aload_n 0, 1) := by decide +kernel
theorem dJ0_charAt_5068e_1 : decode cJ0_charAt_5068e 1 = .ok (.invokevirtual 492, 3) := by decide +kernel
theorem dJ0_charAt_5068e_4 : decode cJ0_charAt_5068e 4 = .ok (.ifCond .eq 12, 3) := by decide +kernel
theorem dJ0_charAt_5068e_7 : decode cJ0_charAt_5068e 7 = .ok (.aload_n 0, 1) := by decide +kernel
theorem dJ0_charAt_5068e_8 : decode cJ0_charAt_5068e 8 = .ok (.getfield 9, 3) := by decide +kernel
theorem dJ0_charAt_5068e_11 : decode cJ0_charAt_5068e 11 = .ok (.iload_n 1, 1) := by decide +kernel
theorem dJ0_charAt_5068e_12 : decode cJ0_charAt_5068e 12 = .ok (.invokestatic 495, 3) := by decide +kernel
theorem dJ0_charAt_5068e_15 : decode cJ0_charAt_5068e 15 = .ok (.ireturn, 1) := by decide +kernel
theorem dJ0_charAt_5068e_16 : decode cJ0_charAt_5068e 16 = .ok (.aload_n 0, 1) := by decide +kernel
theorem dJ0_charAt_5068e_17 : decode cJ0_charAt_5068e 17 = .ok (.getfield 9, 3) := by decide +kernel
theorem dJ0_charAt_5068e_20 : decode cJ0_charAt_5068e 20 = .ok (.iload_n 1, 1) := by decide +kernel
theorem dJ0_charAt_5068e_21 : decode cJ0_charAt_5068e 21 = .ok (.invokestatic 498, 3) := by decide +kernel
theorem dJ0_charAt_5068e_24 : decode cJ0_charAt_5068e 24 = .ok (.ireturn, 1) := by decide +kernel
theorem dJ0_indexOf_0f7a4_0 : decode cJ0_indexOf_0f7a4 0 = .ok (.aload_n 0, 1) := by decide +kernel
theorem dJ0_indexOf_0f7a4_1 : decode cJ0_indexOf_0f7a4 1 = .ok (.iload_n 1, 1) := by decide +kernel
theorem dJ0_indexOf_0f7a4_2 : decode cJ0_indexOf_0f7a4 2 = .ok (.iconst 0, 1) := by decide +kernel
theorem dJ0_indexOf_0f7a4_3 : decode cJ0_indexOf_0f7a4 3 = .ok (.invokevirtual 633, 3) := by decide +kernel
theorem dJ0_indexOf_0f7a4_6 : decode cJ0_indexOf_0f7a4 6 = .ok (.ireturn, 1) := by decide +kernel
theorem dJ0_indexOf_7cf53_0 : decode cJ0_indexOf_7cf53 0 = .ok (.aload_n 0, 1) := by decide +kernel
theorem dJ0_indexOf_7cf53_1 : decode cJ0_indexOf_7cf53 1 = .ok (.invokevirtual 492, 3) := by decide +kernel
theorem dJ0_indexOf_7cf53_4 : decode cJ0_indexOf_7cf53 4 = .ok (.ifCond .eq 19, 3) := by decide +kernel
theorem dJ0_indexOf_7cf53_7 : decode cJ0_indexOf_7cf53 7 = .ok (.aload_n 0, 1) := by decide +kernel
theorem dJ0_indexOf_7cf53_8 : decode cJ0_indexOf_7cf53 8 = .ok (.getfield 9, 3) := by decide +kernel
theorem dJ0_indexOf_7cf53_11 : decode cJ0_indexOf_7cf53 11 = .ok (.iload_n 1, 1) := by decide +kernel
theorem dJ0_indexOf_7cf53_12 : decode cJ0_indexOf_7cf53 12 = .ok (.iload_n 2, 1) := by decide +kernel
theorem dJ0_indexOf_7cf53_13 : decode cJ0_indexOf_7cf53 13 = .ok (.aload_n 0, 1) := by decide +kernel
theorem dJ0_indexOf_7cf53_14 : decode cJ0_indexOf_7cf53 14 = .ok (.invokevirtual 505, 3) := by decide +kernel
theorem dJ0_indexOf_7cf53_17 : decode cJ0_indexOf_7cf53 17 = .ok (.invokestatic 637, 3) := by decide +kernel
theorem dJ0_indexOf_7cf53_20 : decode cJ0_indexOf_7cf53 20 = .ok (.goto 16, 3) := by decide +kernel
theorem dJ0_indexOf_7cf53_23 : decode cJ0_indexOf_7cf53 23 = .ok (.aload_n 0, 1) := by decide +kernel
theorem dJ0_indexOf_7cf53_24 : decode cJ0_indexOf_7cf53 24 = .ok (.getfield 9, 3) := by decide +kernel
theorem dJ0_indexOf_7cf53_27 : decode cJ0_indexOf_7cf53 27 = .ok (.iload_n 1, 1) := by decide +kernel
theorem dJ0_indexOf_7cf53_28 : decode cJ0_indexOf_7cf53 28 = .ok (.iload_n 2, 1) := by decide +kernel
theorem dJ0_indexOf_7cf53_29 : decode cJ0_indexOf_7cf53 29 = .ok (.aload_n 0, 1) := by decide +kernel
theorem dJ0_indexOf_7cf53_30 : decode cJ0_indexOf_7cf53 30 = .ok (.invokevirtual 505, 3) := by decide +kernel
theorem dJ0_indexOf_7cf53_33 : decode cJ0_indexOf_7cf53 33 = .ok (.invokestatic 640, 3) := by decide +kernel
theorem dJ0_indexOf_7cf53_36 : decode cJ0_indexOf_7cf53 36 = .ok (.ireturn, 1) := by decide +kernel
theorem dJ0_coder_7d493_0 : decode cJ0_coder_7d493 0 = .ok (.getstatic 38, 3) := by decide +kernel
theorem dJ0_coder_7d493_3 : decode cJ0_coder_7d493 3 = .ok (.ifCond .eq 10, 3) := by decide +kernel
theorem dJ0_coder_7d493_6 : decode cJ0_coder_7d493 6 = .ok (.aload_n 0, 1) := by decide +kernel
theorem dJ0_coder_7d493_7 : decode cJ0_coder_7d493 7 = .ok (.getfield 15, 3) := by decide +kernel
theorem dJ0_coder_7d493_10 : decode cJ0_coder_7d493 10 = .ok (.goto 4, 3) := by decide +kernel
theorem dJ0_coder_7d493_13 : decode cJ0_coder_7d493 13 = .ok (.iconst 1, 1) := by decide +kernel
theorem dJ0_coder_7d493_14 : decode cJ0_coder_7d493 14 = .ok (.ireturn, 1) := by decide +kernel
theorem dJ0_isLatin1_aae02_0 : decode cJ0_isLatin1_aae02 0 = .ok (.getstatic 38, 3) := by decide +kernel
theorem dJ0_isLatin1_aae02_3 : decode cJ0_isLatin1_aae02 3 = .ok (.ifCond .eq 14, 3) := by decide +kernel
theorem dJ0_isLatin1_aae02_6 : decode cJ0_isLatin1_aae02 6 = .ok (.aload_n 0, 1) := by decide +kernel
theorem dJ0_isLatin1_aae02_7 : decode cJ0_isLatin1_aae02 7 = .ok (.getfield 15, 3) := by decide +kernel
theorem dJ0_isLatin1_aae02_10 : decode cJ0_isLatin1_aae02 10 = .ok (.ifCond .ne 7, 3) := by decide +kernel
theorem dJ0_isLatin1_aae02_13 : decode cJ0_isLatin1_aae02 13 = .ok (.iconst 1, 1) := by decide +kernel
theorem dJ0_isLatin1_aae02_14 : decode cJ0_isLatin1_aae02 14 = .ok (.goto 4, 3) := by decide +kernel
theorem dJ0_isLatin1_aae02_17 : decode cJ0_isLatin1_aae02 17 = .ok (.iconst 0, 1) := by decide +kernel
theorem dJ0_isLatin1_aae02_18 : decode cJ0_isLatin1_aae02 18 = .ok (.ireturn, 1) := by decide +kernel
theorem dJ0_checkIndex_df160_0 : decode cJ0_checkIndex_df160 0 = .ok (.iload_n 0, 1) := by decide +kernel
theorem dJ0_checkIndex_df160_1 : decode cJ0_checkIndex_df160 1 = .ok (.iload_n 1, 1) := by decide +kernel
theorem dJ0_checkIndex_df160_2 : decode cJ0_checkIndex_df160 2 = .ok (.getstatic 1053, 3) := by decide +kernel
theorem dJ0_checkIndex_df160_5 : decode cJ0_checkIndex_df160 5 = .ok (.invokestatic 1059, 3) := by decide +kernel
theorem dJ0_checkIndex_df160_8 : decode cJ0_checkIndex_df160 8 = .ok (.pop, 1) := by decide +kernel
theorem dJ0_checkIndex_df160_9 : decode cJ0_checkIndex_df160 9 = .ok (.return_, 1) := by decide +kernel
theorem dJ0_checkBoundsBeginEnd_23922_0 : decode cJ0_checkBoundsBeginEnd_23922 0 = .ok (.iload_n 0, 1) := by decide +kernel
theorem dJ0_checkBoundsBeginEnd_23922_1 : decode cJ0_checkBoundsBeginEnd_23922 1 = .ok (.iload_n 1, 1) := by decide +kernel
theorem dJ0_checkBoundsBeginEnd_23922_2 : decode cJ0_checkBoundsBeginEnd_23922 2 = .ok (.iload_n 2, 1) := by decide +kernel
theorem dJ0_checkBoundsBeginEnd_23922_3 : decode cJ0_checkBoundsBeginEnd_23922 3 = .ok (.getstatic 1053, 3) := by decide +kernel
theorem dJ0_checkBoundsBeginEnd_23922_6 : decode cJ0_checkBoundsBeginEnd_23922 6 = .ok (.invokestatic 1062, 3) := by decide +kernel
theorem dJ0_checkBoundsBeginEnd_23922_9 : decode cJ0_checkBoundsBeginEnd_23922 9 = .ok (.pop, 1) := by decide +kernel
theorem dJ0_checkBoundsBeginEnd_23922_10 : decode cJ0_checkBoundsBeginEnd_23922 10 = .ok (.return_, 1) := by decide +kernel
theorem dJ1_charAt_3b067_0 : decode cJ1_charAt_3b067 0 = .ok (.iload_n 1, 1) := by decide +kernel
theorem dJ1_charAt_3b067_1 : decode cJ1_charAt_3b067 1 = .ok (.aload_n 0, 1) := by decide +kernel
theorem dJ1_charAt_3b067_2 : decode cJ1_charAt_3b067 2 = .ok (.arraylength, 1) := by decide +kernel
theorem dJ1_charAt_3b067_3 : decode cJ1_charAt_3b067 3 = .ok (.invokestatic 9, 3) := by decide +kernel
theorem dJ1_charAt_3b067_6 : decode cJ1_charAt_3b067 6 = .ok (.aload_n 0, 1) := by decide +kernel
theorem dJ1_charAt_3b067_7 : decode cJ1_charAt_3b067 7 = .ok (.iload_n 1, 1) := by decide +kernel
theorem dJ1_charAt_3b067_8 : decode cJ1_charAt_3b067 8 = .ok (.baload, 1) := by decide +kernel
theorem dJ1_charAt_3b067_9 : decode cJ1_charAt_3b067 9 = .ok (.sipush 255, 3) := by decide +kernel
theorem dJ1_charAt_3b067_12 : decode cJ1_charAt_3b067 12 = .ok (.iand, 1) := by decide +kernel
theorem dJ1_charAt_3b067_13 : decode cJ1_charAt_3b067 13 = .ok (.i2c, 1) := by decide +kernel
theorem dJ1_charAt_3b067_14 : decode cJ1_charAt_3b067 14 = .ok (.ireturn, 1) := by decide +kernel
theorem dJ1_canEncode_9a6ad_0 : decode cJ1_canEncode_9a6ad 0 = .ok (.iload_n 0, 1) := by decide +kernel
theorem dJ1_canEncode_9a6ad_1 : decode cJ1_canEncode_9a6ad 1 = .ok (.ifCond .lt 14, 3) := by decide +kernel
theorem dJ1_canEncode_9a6ad_4 : decode cJ1_canEncode_9a6ad 4 = .ok (.iload_n 0, 1) := by decide +kernel
theorem dJ1_canEncode_9a6ad_5 : decode cJ1_canEncode_9a6ad 5 = .ok (.sipush 255, 3) := by decide +kernel
theorem dJ1_canEncode_9a6ad_8 : decode cJ1_canEncode_9a6ad 8 = .ok (.if_icmp .gt 7, 3) := by decide +kernel
theorem dJ1_canEncode_9a6ad_11 : decode cJ1_canEncode_9a6ad 11 = .ok (.iconst 1, 1) := by decide +kernel
theorem dJ1_canEncode_9a6ad_12 : decode cJ1_canEncode_9a6ad 12 = .ok (.goto 4, 3) := by decide +kernel
theorem dJ1_canEncode_9a6ad_15 : decode cJ1_canEncode_9a6ad 15 = .ok (.iconst 0, 1) := by decide +kernel
theorem dJ1_canEncode_9a6ad_16 : decode cJ1_canEncode_9a6ad 16 = .ok (.ireturn, 1) := by decide +kernel
theorem dJ1_indexOf_4cfef_0 : decode cJ1_indexOf_4cfef 0 = .ok (.iload_n 1, 1) := by decide +kernel
theorem dJ1_indexOf_4cfef_1 : decode cJ1_indexOf_4cfef 1 = .ok (.invokestatic 88, 3) := by decide +kernel
theorem dJ1_indexOf_4cfef_4 : decode cJ1_indexOf_4cfef 4 = .ok (.ifCond .ne 5, 3) := by decide +kernel
theorem dJ1_indexOf_4cfef_7 : decode cJ1_indexOf_4cfef 7 = .ok (.iconst (-1), 1) := by decide +kernel
theorem dJ1_indexOf_4cfef_8 : decode cJ1_indexOf_4cfef 8 = .ok (.ireturn, 1) := by decide +kernel
theorem dJ1_indexOf_4cfef_9 : decode cJ1_indexOf_4cfef 9 = .ok (.iload_n 2, 1) := by decide +kernel
theorem dJ1_indexOf_4cfef_10 : decode cJ1_indexOf_4cfef 10 = .ok (.iconst 0, 1) := by decide +kernel
theorem dJ1_indexOf_4cfef_11 : decode cJ1_indexOf_4cfef 11 = .ok (.invokestatic 92, 3) := by decide +kernel
theorem dJ1_indexOf_4cfef_14 : decode cJ1_indexOf_4cfef 14 = .ok (.istore_n 2, 1) := by decide +kernel
theorem dJ1_indexOf_4cfef_15 : decode cJ1_indexOf_4cfef 15 = .ok (.iload_n 3, 1) := by decide +kernel
theorem dJ1_indexOf_4cfef_16 : decode cJ1_indexOf_4cfef 16 = .ok (.aload_n 0, 1) := by decide +kernel
theorem dJ1_indexOf_4cfef_17 : decode cJ1_indexOf_4cfef 17 = .ok (.arraylength, 1) := by decide +kernel
theorem dJ1_indexOf_4cfef_18 : decode cJ1_indexOf_4cfef 18 = .ok (.invokestatic 38, 3) := by decide +kernel
theorem dJ1_indexOf_4cfef_21 : decode cJ1_indexOf_4cfef 21 = .ok (.istore_n 3, 1) := by decide +kernel
theorem dJ1_indexOf_4cfef_22 : decode cJ1_indexOf_4cfef 22 = .ok (.iload_n 2, 1) := by decide +kernel
theorem dJ1_indexOf_4cfef_23 : decode cJ1_indexOf_4cfef 23 = .ok (.iload_n 3, 1) := by decide +kernel
theorem dJ1_indexOf_4cfef_24 : decode cJ1_indexOf_4cfef 24 = .ok (.if_icmp .lt 5, 3) := by decide +kernel
theorem dJ1_indexOf_4cfef_27 : decode cJ1_indexOf_4cfef 27 = .ok (.iconst (-1), 1) := by decide +kernel
theorem dJ1_indexOf_4cfef_28 : decode cJ1_indexOf_4cfef 28 = .ok (.ireturn, 1) := by decide +kernel
theorem dJ1_indexOf_4cfef_29 : decode cJ1_indexOf_4cfef 29 = .ok (.aload_n 0, 1) := by decide +kernel
theorem dJ1_indexOf_4cfef_30 : decode cJ1_indexOf_4cfef 30 = .ok (.iload_n 1, 1) := by decide +kernel
theorem dJ1_indexOf_4cfef_31 : decode cJ1_indexOf_4cfef 31 = .ok (.iload_n 2, 1) := by decide +kernel
theorem dJ1_indexOf_4cfef_32 : decode cJ1_indexOf_4cfef 32 = .ok (.iload_n 3, 1) := by decide +kernel
theorem dJ1_indexOf_4cfef_33 : decode cJ1_indexOf_4cfef 33 = .ok (.invokestatic 95, 3) := by decide +kernel
theorem dJ1_indexOf_4cfef_36 : decode cJ1_indexOf_4cfef 36 = .ok (.ireturn, 1) := by decide +kernel
theorem dJ1_indexOfChar_4cfef_0 : decode cJ1_indexOfChar_4cfef 0 = .ok (.iload_n 1, 1) := by decide +kernel
theorem dJ1_indexOfChar_4cfef_1 : decode cJ1_indexOfChar_4cfef 1 = .ok (.i2b, 1) := by decide +kernel
theorem dJ1_indexOfChar_4cfef_2 : decode cJ1_indexOfChar_4cfef 2 = .ok (.istore 4, 2) := by decide +kernel
theorem dJ1_indexOfChar_4cfef_4 : decode cJ1_indexOfChar_4cfef 4 = .ok (.iload_n 2, 1) := by decide +kernel
theorem dJ1_indexOfChar_4cfef_5 : decode cJ1_indexOfChar_4cfef 5 = .ok (.istore 5, 2) := by decide +kernel
theorem dJ1_indexOfChar_4cfef_7 : decode cJ1_indexOfChar_4cfef 7 = .ok (.iload 5, 2) := by decide +kernel
theorem dJ1_indexOfChar_4cfef_9 : decode cJ1_indexOfChar_4cfef 9 = .ok (.iload_n 3, 1) := by decide +kernel
theorem dJ1_indexOfChar_4cfef_10 : decode cJ1_indexOfChar_4cfef 10 = .ok (.if_icmp .ge 21, 3) := by decide +kernel
theorem dJ1_indexOfChar_4cfef_13 : decode cJ1_indexOfChar_4cfef 13 = .ok (.aload_n 0, 1) := by decide +kernel
theorem dJ1_indexOfChar_4cfef_14 : decode cJ1_indexOfChar_4cfef 14 = .ok (.iload 5, 2) := by decide +kernel
theorem dJ1_indexOfChar_4cfef_16 : decode cJ1_indexOfChar_4cfef 16 = .ok (.baload, 1) := by decide +kernel
theorem dJ1_indexOfChar_4cfef_17 : decode cJ1_indexOfChar_4cfef 17 = .ok (.iload 4, 2) := by decide +kernel
theorem dJ1_indexOfChar_4cfef_19 : decode cJ1_indexOfChar_4cfef 19 = .ok (.if_icmp .ne 6, 3) := by decide +kernel
theorem dJ1_indexOfChar_4cfef_22 : decode cJ1_indexOfChar_4cfef 22 = .ok (.iload 5, 2) := by decide +kernel
theorem dJ1_indexOfChar_4cfef_24 : decode cJ1_indexOfChar_4cfef 24 = .ok (.ireturn, 1) := by decide +kernel
theorem dJ1_indexOfChar_4cfef_25 : decode cJ1_indexOfChar_4cfef 25 = .ok (.iinc 5 1, 3) := by decide +kernel
theorem dJ1_indexOfChar_4cfef_28 : decode cJ1_indexOfChar_4cfef 28 = .ok (.goto (-21), 3) := by decide +kernel
theorem dJ1_indexOfChar_4cfef_31 : decode cJ1_indexOfChar_4cfef 31 = .ok (.iconst (-1), 1) := by decide +kernel
theorem dJ1_indexOfChar_4cfef_32 : decode cJ1_indexOfChar_4cfef 32 = .ok (.ireturn, 1) := by decide +kernel
theorem dJ2_getChar_3b067_0 : decode cJ2_getChar_3b067 0 = .ok (.getstatic 44, 3) := by decide +kernel
theorem dJ2_getChar_3b067_3 : decode cJ2_getChar_3b067 3 = .ok (.ifCond .ne 25, 3) := by decide +kernel
theorem dJ2_getChar_3b067_6 : decode cJ2_getChar_3b067 6 = .ok (.iload_n 1, 1) := by decide +kernel
theorem dJ2_getChar_3b067_7 : decode cJ2_getChar_3b067 7 = .ok (.ifCond .lt 11, 3) := by decide +kernel
theorem dJ2_getChar_3b067_10 : decode cJ2_getChar_3b067 10 = .ok (.iload_n 1, 1) := by decide +kernel
theorem dJ2_getChar_3b067_11 : decode cJ2_getChar_3b067 11 = .ok (.aload_n 0, 1) := by decide +kernel
theorem dJ2_getChar_3b067_12 : decode cJ2_getChar_3b067 12 = .ok (.invokestatic 48, 3) := by decide +kernel
theorem dJ2_getChar_3b067_15 : decode cJ2_getChar_3b067 15 = .ok (.if_icmp .lt 13, 3) := by decide +kernel
theorem dJ2_getChar_3b067_18 : decode cJ2_getChar_3b067 18 = .ok (.new 52, 3) := by decide +kernel
theorem dJ2_getChar_3b067_21 : decode cJ2_getChar_3b067 21 = .ok (.dup, 1) := by decide +kernel
theorem dJ2_getChar_3b067_22 : decode cJ2_getChar_3b067 22 = .ok (.ldc 54, 2) := by decide +kernel
theorem dJ2_getChar_3b067_24 : decode cJ2_getChar_3b067 24 = .ok (.invokespecial 56, 3) := by decide +kernel
theorem dJ2_getChar_3b067_27 : decode cJ2_getChar_3b067 27 = .ok (.athrow, 1) := by decide +kernel
theorem dJ2_getChar_3b067_28 : decode cJ2_getChar_3b067 28 = .ok (.iload_n 1, 1) := by decide +kernel
theorem dJ2_getChar_3b067_29 : decode cJ2_getChar_3b067 29 = .ok (.iconst 1, 1) := by decide +kernel
theorem dJ2_getChar_3b067_30 : decode cJ2_getChar_3b067 30 = .ok (.ishl, 1) := by decide +kernel
theorem dJ2_getChar_3b067_31 : decode cJ2_getChar_3b067 31 = .ok (.istore_n 1, 1) := by decide +kernel
theorem dJ2_getChar_3b067_32 : decode cJ2_getChar_3b067 32 = .ok (.aload_n 0, 1) := by decide +kernel
theorem dJ2_getChar_3b067_33 : decode cJ2_getChar_3b067 33 = .ok (.iload_n 1, 1) := by decide +kernel
theorem dJ2_getChar_3b067_34 : decode cJ2_getChar_3b067 34 = .ok (.iinc 1 1, 3) := by decide +kernel
theorem dJ2_getChar_3b067_37 : decode cJ2_getChar_3b067 37 = .ok (.baload, 1) := by decide +kernel
theorem dJ2_getChar_3b067_38 : decode cJ2_getChar_3b067 38 = .ok (.sipush 255, 3) := by decide +kernel
theorem dJ2_getChar_3b067_41 : decode cJ2_getChar_3b067 41 = .ok (.iand, 1) := by decide +kernel
theorem dJ2_getChar_3b067_42 : decode cJ2_getChar_3b067 42 = .ok (.getstatic 59, 3) := by decide +kernel
theorem dJ2_getChar_3b067_45 : decode cJ2_getChar_3b067 45 = .ok (.ishl, 1) := by decide +kernel
theorem dJ2_getChar_3b067_46 : decode cJ2_getChar_3b067 46 = .ok (.aload_n 0, 1) := by decide +kernel
theorem dJ2_getChar_3b067_47 : decode cJ2_getChar_3b067 47 = .ok (.iload_n 1, 1) := by decide +kernel
theorem dJ2_getChar_3b067_48 : decode cJ2_getChar_3b067 48 = .ok (.baload, 1) := by decide +kernel
theorem dJ2_getChar_3b067_49 : decode cJ2_getChar_3b067 49 = .ok (.sipush 255, 3) := by decide +kernel
theorem dJ2_getChar_3b067_52 : decode cJ2_getChar_3b067 52 = .ok (.iand, 1) := by decide +kernel
theorem dJ2_getChar_3b067_53 : decode cJ2_getChar_3b067 53 = .ok (.getstatic 63, 3) := by decide +kernel
theorem dJ2_getChar_3b067_56 : decode cJ2_getChar_3b067 56 = .ok (.ishl, 1) := by decide +kernel
theorem dJ2_getChar_3b067_57 : decode cJ2_getChar_3b067 57 = .ok (.ior, 1) := by decide +kernel
theorem dJ2_getChar_3b067_58 : decode cJ2_getChar_3b067 58 = .ok (.i2c, 1) := by decide +kernel
theorem dJ2_getChar_3b067_59 : decode cJ2_getChar_3b067 59 = .ok (.ireturn, 1) := by decide +kernel
theorem dJ2_length_9d52b_0 : decode cJ2_length_9d52b 0 = .ok (.aload_n 0, 1) := by decide +kernel
theorem dJ2_length_9d52b_1 : decode cJ2_length_9d52b 1 = .ok (.arraylength, 1) := by decide +kernel
theorem dJ2_length_9d52b_2 : decode cJ2_length_9d52b 2 = .ok (.iconst 1, 1) := by decide +kernel
theorem dJ2_length_9d52b_3 : decode cJ2_length_9d52b 3 = .ok (.ishr, 1) := by decide +kernel
theorem dJ2_length_9d52b_4 : decode cJ2_length_9d52b 4 = .ok (.ireturn, 1) := by decide +kernel
theorem dJ2_indexOf_4cfef_0 : decode cJ2_indexOf_4cfef 0 = .ok (.iload_n 2, 1) := by decide +kernel
theorem dJ2_indexOf_4cfef_1 : decode cJ2_indexOf_4cfef 1 = .ok (.iconst 0, 1) := by decide +kernel
theorem dJ2_indexOf_4cfef_2 : decode cJ2_indexOf_4cfef 2 = .ok (.invokestatic 224, 3) := by decide +kernel
theorem dJ2_indexOf_4cfef_5 : decode cJ2_indexOf_4cfef 5 = .ok (.istore_n 2, 1) := by decide +kernel
theorem dJ2_indexOf_4cfef_6 : decode cJ2_indexOf_4cfef 6 = .ok (.iload_n 3, 1) := by decide +kernel
theorem dJ2_indexOf_4cfef_7 : decode cJ2_indexOf_4cfef 7 = .ok (.aload_n 0, 1) := by decide +kernel
theorem dJ2_indexOf_4cfef_8 : decode cJ2_indexOf_4cfef 8 = .ok (.arraylength, 1) := by decide +kernel
theorem dJ2_indexOf_4cfef_9 : decode cJ2_indexOf_4cfef 9 = .ok (.iconst 1, 1) := by decide +kernel
theorem dJ2_indexOf_4cfef_10 : decode cJ2_indexOf_4cfef 10 = .ok (.ishr, 1) := by decide +kernel
theorem dJ2_indexOf_4cfef_11 : decode cJ2_indexOf_4cfef 11 = .ok (.invokestatic 183, 3) := by decide +kernel
theorem dJ2_indexOf_4cfef_14 : decode cJ2_indexOf_4cfef 14 = .ok (.istore_n 3, 1) := by decide +kernel
theorem dJ2_indexOf_4cfef_15 : decode cJ2_indexOf_4cfef 15 = .ok (.iload_n 2, 1) := by decide +kernel
theorem dJ2_indexOf_4cfef_16 : decode cJ2_indexOf_4cfef 16 = .ok (.iload_n 3, 1) := by decide +kernel
theorem dJ2_indexOf_4cfef_17 : decode cJ2_indexOf_4cfef 17 = .ok (.if_icmp .lt 5, 3) := by decide +kernel
theorem dJ2_indexOf_4cfef_20 : decode cJ2_indexOf_4cfef 20 = .ok (.iconst (-1), 1) := by decide +kernel
theorem dJ2_indexOf_4cfef_21 : decode cJ2_indexOf_4cfef 21 = .ok (.ireturn, 1) := by decide +kernel
theorem dJ2_indexOf_4cfef_22 : decode cJ2_indexOf_4cfef 22 = .ok (.iload_n 1, 1) := by decide +kernel
theorem dJ2_indexOf_4cfef_23 : decode cJ2_indexOf_4cfef 23 = .ok (.ldc 227, 2) := by decide +kernel
theorem dJ2_indexOf_4cfef_25 : decode cJ2_indexOf_4cfef 25 = .ok (.if_icmp .ge 11, 3) := by decide +kernel
theorem dJ2_indexOf_4cfef_28 : decode cJ2_indexOf_4cfef 28 = .ok (.aload_n 0, 1) := by decide +kernel
theorem dJ2_indexOf_4cfef_29 : decode cJ2_indexOf_4cfef 29 = .ok (.iload_n 1, 1) := by decide +kernel
theorem dJ2_indexOf_4cfef_30 : decode cJ2_indexOf_4cfef 30 = .ok (.iload_n 2, 1) := by decide +kernel
theorem dJ2_indexOf_4cfef_31 : decode cJ2_indexOf_4cfef 31 = .ok (.iload_n 3, 1) := by decide +kernel
theorem dJ2_indexOf_4cfef_32 : decode cJ2_indexOf_4cfef 32 = .ok (.invokestatic 228, 3) := by decide +kernel
theorem dJ2_indexOf_4cfef_35 : decode cJ2_indexOf_4cfef 35 = .ok (.ireturn, 1) := by decide +kernel
theorem dJ2_indexOf_4cfef_36 : decode cJ2_indexOf_4cfef 36 = .ok (.aload_n 0, 1) := by decide +kernel
theorem dJ2_indexOf_4cfef_37 : decode cJ2_indexOf_4cfef 37 = .ok (.iload_n 1, 1) := by decide +kernel
theorem dJ2_indexOf_4cfef_38 : decode cJ2_indexOf_4cfef 38 = .ok (.iload_n 2, 1) := by decide +kernel
theorem dJ2_indexOf_4cfef_39 : decode cJ2_indexOf_4cfef 39 = .ok (.iload_n 3, 1) := by decide +kernel
theorem dJ2_indexOf_4cfef_40 : decode cJ2_indexOf_4cfef 40 = .ok (.invokestatic 232, 3) := by decide +kernel
theorem dJ2_indexOf_4cfef_43 : decode cJ2_indexOf_4cfef 43 = .ok (.ireturn, 1) := by decide +kernel
theorem dJ2_indexOfChar_4cfef_0 : decode cJ2_indexOfChar_4cfef 0 = .ok (.iload_n 2, 1) := by decide +kernel
theorem dJ2_indexOfChar_4cfef_1 : decode cJ2_indexOfChar_4cfef 1 = .ok (.iload_n 3, 1) := by decide +kernel
theorem dJ2_indexOfChar_4cfef_2 : decode cJ2_indexOfChar_4cfef 2 = .ok (.aload_n 0, 1) := by decide +kernel
theorem dJ2_indexOfChar_4cfef_3 : decode cJ2_indexOfChar_4cfef 3 = .ok (.invokestatic 96, 3) := by decide +kernel
theorem dJ2_indexOfChar_4cfef_6 : decode cJ2_indexOfChar_4cfef 6 = .ok (.aload_n 0, 1) := by decide +kernel
theorem dJ2_indexOfChar_4cfef_7 : decode cJ2_indexOfChar_4cfef 7 = .ok (.iload_n 1, 1) := by decide +kernel
theorem dJ2_indexOfChar_4cfef_8 : decode cJ2_indexOfChar_4cfef 8 = .ok (.iload_n 2, 1) := by decide +kernel
theorem dJ2_indexOfChar_4cfef_9 : decode cJ2_indexOfChar_4cfef 9 = .ok (.iload_n 3, 1) := by decide +kernel
theorem dJ2_indexOfChar_4cfef_10 : decode cJ2_indexOfChar_4cfef 10 = .ok (.invokestatic 244, 3) := by decide +kernel
theorem dJ2_indexOfChar_4cfef_13 : decode cJ2_indexOfChar_4cfef 13 = .ok (.ireturn, 1) := by decide +kernel
theorem dJ2_indexOfCharUnsafe_4cfef_0 : decode cJ2_indexOfCharUnsafe_4cfef 0 = .ok (.iload_n 2, 1) := by decide +kernel
theorem dJ2_indexOfCharUnsafe_4cfef_1 : decode cJ2_indexOfCharUnsafe_4cfef 1 = .ok (.istore 4, 2) := by decide +kernel
theorem dJ2_indexOfCharUnsafe_4cfef_3 : decode cJ2_indexOfCharUnsafe_4cfef 3 = .ok (.iload 4, 2) := by decide +kernel
theorem dJ2_indexOfCharUnsafe_4cfef_5 : decode cJ2_indexOfCharUnsafe_4cfef 5 = .ok (.iload_n 3, 1) := by decide +kernel
theorem dJ2_indexOfCharUnsafe_4cfef_6 : decode cJ2_indexOfCharUnsafe_4cfef 6 = .ok (.if_icmp .ge 22, 3) := by decide +kernel
theorem dJ2_indexOfCharUnsafe_4cfef_9 : decode cJ2_indexOfCharUnsafe_4cfef 9 = .ok (.aload_n 0, 1) := by decide +kernel
theorem dJ2_indexOfCharUnsafe_4cfef_10 : decode cJ2_indexOfCharUnsafe_4cfef 10 = .ok (.iload 4, 2) := by decide +kernel
theorem dJ2_indexOfCharUnsafe_4cfef_12 : decode cJ2_indexOfCharUnsafe_4cfef 12 = .ok (.invokestatic 71, 3) := by decide +kernel
theorem dJ2_indexOfCharUnsafe_4cfef_15 : decode cJ2_indexOfCharUnsafe_4cfef 15 = .ok (.iload_n 1, 1) := by decide +kernel
theorem dJ2_indexOfCharUnsafe_4cfef_16 : decode cJ2_indexOfCharUnsafe_4cfef 16 = .ok (.if_icmp .ne 6, 3) := by decide +kernel
theorem dJ2_indexOfCharUnsafe_4cfef_19 : decode cJ2_indexOfCharUnsafe_4cfef 19 = .ok (.iload 4, 2) := by decide +kernel
theorem dJ2_indexOfCharUnsafe_4cfef_21 : decode cJ2_indexOfCharUnsafe_4cfef 21 = .ok (.ireturn, 1) := by decide +kernel
theorem dJ2_indexOfCharUnsafe_4cfef_22 : decode cJ2_indexOfCharUnsafe_4cfef 22 = .ok (.iinc 4 1, 3) := by decide +kernel
theorem dJ2_indexOfCharUnsafe_4cfef_25 : decode cJ2_indexOfCharUnsafe_4cfef 25 = .ok (.goto (-22), 3) := by decide +kernel
theorem dJ2_indexOfCharUnsafe_4cfef_28 : decode cJ2_indexOfCharUnsafe_4cfef 28 = .ok (.iconst (-1), 1) := by decide +kernel
theorem dJ2_indexOfCharUnsafe_4cfef_29 : decode cJ2_indexOfCharUnsafe_4cfef 29 = .ok (.ireturn, 1) := by decide +kernel
theorem dJ2_indexOfSupplementary_4cfef_0 : decode cJ2_indexOfSupplementary_4cfef 0 = .ok (.iload_n 1, 1) := by decide +kernel
theorem dJ2_indexOfSupplementary_4cfef_1 : decode cJ2_indexOfSupplementary_4cfef 1 = .ok (.invokestatic 164, 3) := by decide +kernel
theorem dJ2_indexOfSupplementary_4cfef_4 : decode cJ2_indexOfSupplementary_4cfef 4 = .ok (.ifCond .eq 65, 3) := by decide +kernel
theorem dJ2_indexOfSupplementary_4cfef_7 : decode cJ2_indexOfSupplementary_4cfef 7 = .ok (.iload_n 1, 1) := by decide +kernel
theorem dJ2_indexOfSupplementary_4cfef_8 : decode cJ2_indexOfSupplementary_4cfef 8 = .ok (.invokestatic 157, 3) := by decide +kernel
theorem dJ2_indexOfSupplementary_4cfef_11 : decode cJ2_indexOfSupplementary_4cfef 11 = .ok (.istore 4, 2) := by decide +kernel
theorem dJ2_indexOfSupplementary_4cfef_13 : decode cJ2_indexOfSupplementary_4cfef 13 = .ok (.iload_n 1, 1) := by decide +kernel
theorem dJ2_indexOfSupplementary_4cfef_14 : decode cJ2_indexOfSupplementary_4cfef 14 = .ok (.invokestatic 161, 3) := by decide +kernel
theorem dJ2_indexOfSupplementary_4cfef_17 : decode cJ2_indexOfSupplementary_4cfef 17 = .ok (.istore 5, 2) := by decide +kernel
theorem dJ2_indexOfSupplementary_4cfef_19 : decode cJ2_indexOfSupplementary_4cfef 19 = .ok (.iload_n 2, 1) := by decide +kernel
theorem dJ2_indexOfSupplementary_4cfef_20 : decode cJ2_indexOfSupplementary_4cfef 20 = .ok (.iload_n 3, 1) := by decide +kernel
theorem dJ2_indexOfSupplementary_4cfef_21 : decode cJ2_indexOfSupplementary_4cfef 21 = .ok (.aload_n 0, 1) := by decide +kernel
theorem dJ2_indexOfSupplementary_4cfef_22 : decode cJ2_indexOfSupplementary_4cfef 22 = .ok (.invokestatic 96, 3) := by decide +kernel
theorem dJ2_indexOfSupplementary_4cfef_25 : decode cJ2_indexOfSupplementary_4cfef 25 = .ok (.iload_n 2, 1) := by decide +kernel
theorem dJ2_indexOfSupplementary_4cfef_26 : decode cJ2_indexOfSupplementary_4cfef 26 = .ok (.istore 6, 2) := by decide +kernel
theorem dJ2_indexOfSupplementary_4cfef_28 : decode cJ2_indexOfSupplementary_4cfef 28 = .ok (.iload 6, 2) := by decide +kernel
theorem dJ2_indexOfSupplementary_4cfef_30 : decode cJ2_indexOfSupplementary_4cfef 30 = .ok (.iload_n 3, 1) := by decide +kernel
theorem dJ2_indexOfSupplementary_4cfef_31 : decode cJ2_indexOfSupplementary_4cfef 31 = .ok (.iconst 1, 1) := by decide +kernel
theorem dJ2_indexOfSupplementary_4cfef_32 : decode cJ2_indexOfSupplementary_4cfef 32 = .ok (.isub, 1) := by decide +kernel
theorem dJ2_indexOfSupplementary_4cfef_33 : decode cJ2_indexOfSupplementary_4cfef 33 = .ok (.if_icmp .ge 36, 3) := by decide +kernel
theorem dJ2_indexOfSupplementary_4cfef_36 : decode cJ2_indexOfSupplementary_4cfef 36 = .ok (.aload_n 0, 1) := by decide +kernel
theorem dJ2_indexOfSupplementary_4cfef_37 : decode cJ2_indexOfSupplementary_4cfef 37 = .ok (.iload 6, 2) := by decide +kernel
theorem dJ2_indexOfSupplementary_4cfef_39 : decode cJ2_indexOfSupplementary_4cfef 39 = .ok (.invokestatic 71, 3) := by decide +kernel
theorem dJ2_indexOfSupplementary_4cfef_42 : decode cJ2_indexOfSupplementary_4cfef 42 = .ok (.iload 4, 2) := by decide +kernel
theorem dJ2_indexOfSupplementary_4cfef_44 : decode cJ2_indexOfSupplementary_4cfef 44 = .ok (.if_icmp .ne 19, 3) := by decide +kernel
theorem dJ2_indexOfSupplementary_4cfef_47 : decode cJ2_indexOfSupplementary_4cfef 47 = .ok (.aload_n 0, 1) := by decide +kernel
theorem dJ2_indexOfSupplementary_4cfef_48 : decode cJ2_indexOfSupplementary_4cfef 48 = .ok (.iload 6, 2) := by decide +kernel
theorem dJ2_indexOfSupplementary_4cfef_50 : decode cJ2_indexOfSupplementary_4cfef 50 = .ok (.iconst 1, 1) := by decide +kernel
theorem dJ2_indexOfSupplementary_4cfef_51 : decode cJ2_indexOfSupplementary_4cfef 51 = .ok (.iadd, 1) := by decide +kernel
theorem dJ2_indexOfSupplementary_4cfef_52 : decode cJ2_indexOfSupplementary_4cfef 52 = .ok (.invokestatic 71, 3) := by decide +kernel
theorem dJ2_indexOfSupplementary_4cfef_55 : decode cJ2_indexOfSupplementary_4cfef 55 = .ok (.iload 5, 2) := by decide +kernel
theorem dJ2_indexOfSupplementary_4cfef_57 : decode cJ2_indexOfSupplementary_4cfef 57 = .ok (.if_icmp .ne 6, 3) := by decide +kernel
theorem dJ2_indexOfSupplementary_4cfef_60 : decode cJ2_indexOfSupplementary_4cfef 60 = .ok (.iload 6, 2) := by decide +kernel
theorem dJ2_indexOfSupplementary_4cfef_62 : decode cJ2_indexOfSupplementary_4cfef 62 = .ok (.ireturn, 1) := by decide +kernel
theorem dJ2_indexOfSupplementary_4cfef_63 : decode cJ2_indexOfSupplementary_4cfef 63 = .ok (.iinc 6 1, 3) := by decide +kernel
theorem dJ2_indexOfSupplementary_4cfef_66 : decode cJ2_indexOfSupplementary_4cfef 66 = .ok (.goto (-38), 3) := by decide +kernel
theorem dJ2_indexOfSupplementary_4cfef_69 : decode cJ2_indexOfSupplementary_4cfef 69 = .ok (.iconst (-1), 1) := by decide +kernel
theorem dJ2_indexOfSupplementary_4cfef_70 : decode cJ2_indexOfSupplementary_4cfef 70 = .ok (.ireturn, 1) := by decide +kernel
theorem dJ2_charAt_3b067_0 : decode cJ2_charAt_3b067 0 = .ok (.iload_n 1, 1) := by decide +kernel
theorem dJ2_charAt_3b067_1 : decode cJ2_charAt_3b067 1 = .ok (.aload_n 0, 1) := by decide +kernel
theorem dJ2_charAt_3b067_2 : decode cJ2_charAt_3b067 2 = .ok (.invokestatic 67, 3) := by decide +kernel
theorem dJ2_charAt_3b067_5 : decode cJ2_charAt_3b067 5 = .ok (.aload_n 0, 1) := by decide +kernel
theorem dJ2_charAt_3b067_6 : decode cJ2_charAt_3b067 6 = .ok (.iload_n 1, 1) := by decide +kernel
theorem dJ2_charAt_3b067_7 : decode cJ2_charAt_3b067 7 = .ok (.invokestatic 71, 3) := by decide +kernel
theorem dJ2_charAt_3b067_10 : decode cJ2_charAt_3b067 10 = .ok (.ireturn, 1) := by decide +kernel
theorem dJ2_checkIndex_2214a_0 : decode cJ2_checkIndex_2214a 0 = .ok (.iload_n 0, 1) := by decide +kernel
theorem dJ2_checkIndex_2214a_1 : decode cJ2_checkIndex_2214a 1 = .ok (.aload_n 1, 1) := by decide +kernel
theorem dJ2_checkIndex_2214a_2 : decode cJ2_checkIndex_2214a 2 = .ok (.invokestatic 48, 3) := by decide +kernel
theorem dJ2_checkIndex_2214a_5 : decode cJ2_checkIndex_2214a 5 = .ok (.invokestatic 414, 3) := by decide +kernel
theorem dJ2_checkIndex_2214a_8 : decode cJ2_checkIndex_2214a 8 = .ok (.return_, 1) := by decide +kernel
theorem dJ2_checkBoundsBeginEnd_d044e_0 : decode cJ2_checkBoundsBeginEnd_d044e 0 = .ok (.iload_n 0, 1) := by decide +kernel
theorem dJ2_checkBoundsBeginEnd_d044e_1 : decode cJ2_checkBoundsBeginEnd_d044e 1 = .ok (.iload_n 1, 1) := by decide +kernel
theorem dJ2_checkBoundsBeginEnd_d044e_2 : decode cJ2_checkBoundsBeginEnd_d044e 2 = .ok (.aload_n 2, 1) := by decide +kernel
theorem dJ2_checkBoundsBeginEnd_d044e_3 : decode cJ2_checkBoundsBeginEnd_d044e 3 = .ok (.invokestatic 48, 3) := by decide +kernel
theorem dJ2_checkBoundsBeginEnd_d044e_6 : decode cJ2_checkBoundsBeginEnd_d044e 6 = .ok (.invokestatic 241, 3) := by decide +kernel
theorem dJ2_checkBoundsBeginEnd_d044e_9 : decode cJ2_checkBoundsBeginEnd_d044e 9 = .ok (.return_, 1) := by decide +kernel
theorem dJ3_checkIndex_8e157_0 : decode cJ3_checkIndex_8e157 0 = .ok (.iload_n 0, 1) := by decide +kernel
theorem dJ3_checkIndex_8e157_1 : decode cJ3_checkIndex_8e157 1 = .ok (.ifCond .lt 8, 3) := by decide +kernel
theorem dJ3_checkIndex_8e157_4 : decode cJ3_checkIndex_8e157 4 = .ok (.iload_n 0, 1) := by decide +kernel
theorem dJ3_checkIndex_8e157_5 : decode cJ3_checkIndex_8e157 5 = .ok (.iload_n 1, 1) := by decide +kernel
theorem dJ3_checkIndex_8e157_6 : decode cJ3_checkIndex_8e157 6 = .ok (.if_icmp .lt 10, 3) := by decide +kernel
theorem dJ3_checkIndex_8e157_9 : decode cJ3_checkIndex_8e157 9 = .ok (.aload_n 2, 1) := by decide +kernel
theorem dJ3_checkIndex_8e157_10 : decode cJ3_checkIndex_8e157 10 = .ok (.iload_n 0, 1) := by decide +kernel
theorem dJ3_checkIndex_8e157_11 : decode cJ3_checkIndex_8e157 11 = .ok (.iload_n 1, 1) := by decide +kernel
theorem dJ3_checkIndex_8e157_12 : decode cJ3_checkIndex_8e157 12 = .ok (.invokestatic 95, 3) := by decide +kernel
theorem dJ3_checkIndex_8e157_15 : decode cJ3_checkIndex_8e157 15 = .ok (.athrow, 1) := by decide +kernel
theorem dJ3_checkIndex_8e157_16 : decode cJ3_checkIndex_8e157 16 = .ok (.iload_n 0, 1) := by decide +kernel
theorem dJ3_checkIndex_8e157_17 : decode cJ3_checkIndex_8e157 17 = .ok (.ireturn, 1) := by decide +kernel
theorem dJ3_checkFromToIndex_8c36e_0 : decode cJ3_checkFromToIndex_8c36e 0 = .ok (.iload_n 0, 1) := by decide +kernel
theorem dJ3_checkFromToIndex_8c36e_1 : decode cJ3_checkFromToIndex_8c36e 1 = .ok (.ifCond .lt 13, 3) := by decide +kernel
theorem dJ3_checkFromToIndex_8c36e_4 : decode cJ3_checkFromToIndex_8c36e 4 = .ok (.iload_n 0, 1) := by decide +kernel
theorem dJ3_checkFromToIndex_8c36e_5 : decode cJ3_checkFromToIndex_8c36e 5 = .ok (.iload_n 1, 1) := by decide +kernel
theorem dJ3_checkFromToIndex_8c36e_6 : decode cJ3_checkFromToIndex_8c36e 6 = .ok (.if_icmp .gt 8, 3) := by decide +kernel
theorem dJ3_checkFromToIndex_8c36e_9 : decode cJ3_checkFromToIndex_8c36e 9 = .ok (.iload_n 1, 1) := by decide +kernel
theorem dJ3_checkFromToIndex_8c36e_10 : decode cJ3_checkFromToIndex_8c36e 10 = .ok (.iload_n 2, 1) := by decide +kernel
theorem dJ3_checkFromToIndex_8c36e_11 : decode cJ3_checkFromToIndex_8c36e 11 = .ok (.if_icmp .le 11, 3) := by decide +kernel
theorem dJ3_checkFromToIndex_8c36e_14 : decode cJ3_checkFromToIndex_8c36e 14 = .ok (.aload_n 3, 1) := by decide +kernel
theorem dJ3_checkFromToIndex_8c36e_15 : decode cJ3_checkFromToIndex_8c36e 15 = .ok (.iload_n 0, 1) := by decide +kernel
theorem dJ3_checkFromToIndex_8c36e_16 : decode cJ3_checkFromToIndex_8c36e 16 = .ok (.iload_n 1, 1) := by decide +kernel
theorem dJ3_checkFromToIndex_8c36e_17 : decode cJ3_checkFromToIndex_8c36e 17 = .ok (.iload_n 2, 1) := by decide +kernel
theorem dJ3_checkFromToIndex_8c36e_18 : decode cJ3_checkFromToIndex_8c36e 18 = .ok (.invokestatic 99, 3) := by decide +kernel
theorem dJ3_checkFromToIndex_8c36e_21 : decode cJ3_checkFromToIndex_8c36e 21 = .ok (.athrow, 1) := by decide +kernel
theorem dJ3_checkFromToIndex_8c36e_22 : decode cJ3_checkFromToIndex_8c36e 22 = .ok (.iload_n 0, 1) := by decide +kernel
theorem dJ3_checkFromToIndex_8c36e_23 : decode cJ3_checkFromToIndex_8c36e 23 = .ok (.ireturn, 1) := by decide +kernel
theorem dL_law_0 : decode cL_law 0 = .ok (.new 7, 3) := by decide +kernel
theorem dL_law_3 : decode cL_law 3 = .ok (.dup, 1) := by decide +kernel
theorem dL_law_4 : decode cL_law 4 = .ok (.invokespecial 9, 3) := by decide +kernel
theorem dL_law_7 : decode cL_law 7 = .ok (.astore_n 1, 1) := by decide +kernel
theorem dL_law_8 : decode cL_law 8 = .ok (.new 10, 3) := by decide +kernel
theorem dL_law_11 : decode cL_law 11 = .ok (.dup, 1) := by decide +kernel
theorem dL_law_12 : decode cL_law 12 = .ok (.invokespecial 12, 3) := by decide +kernel
theorem dL_law_15 : decode cL_law 15 = .ok (.astore_n 2, 1) := by decide +kernel
theorem dL_law_16 : decode cL_law 16 = .ok (.iconst 0, 1) := by decide +kernel
theorem dL_law_17 : decode cL_law 17 = .ok (.istore_n 3, 1) := by decide +kernel
theorem dL_law_18 : decode cL_law 18 = .ok (.iload_n 3, 1) := by decide +kernel
theorem dL_law_19 : decode cL_law 19 = .ok (.aload_n 0, 1) := by decide +kernel
theorem dL_law_20 : decode cL_law 20 = .ok (.arraylength, 1) := by decide +kernel
theorem dL_law_21 : decode cL_law 21 = .ok (.bipush 6, 2) := by decide +kernel
theorem dL_law_23 : decode cL_law 23 = .ok (.isub, 1) := by decide +kernel
theorem dL_law_24 : decode cL_law 24 = .ok (.if_icmp .gt 1261, 3) := by decide +kernel
theorem dL_law_27 : decode cL_law 27 = .ok (.aload_n 0, 1) := by decide +kernel
theorem dL_law_28 : decode cL_law 28 = .ok (.iload_n 3, 1) := by decide +kernel
theorem dL_law_29 : decode cL_law 29 = .ok (.iaload, 1) := by decide +kernel
theorem dL_law_30 : decode cL_law 30 = .ok (.bipush 63, 2) := by decide +kernel
theorem dL_law_32 : decode cL_law 32 = .ok (.iand, 1) := by decide +kernel
theorem dL_law_33 : decode cL_law 33 = .ok (.tableswitch 1246 0 36 #[163, 186, 199, 232, 265, 288, 321, 344, 377, 420, 463, 486, 529, 562, 585, 618, 651, 674, 717, 750, 773, 796, 819, 862, 885, 918, 941, 984, 1048, 1072, 1105, 1128, 1141, 1154, 1197, 1210, 1223], 163) := by decide +kernel
theorem dL_law_196 : decode cL_law 196 = .ok (.aload_n 1, 1) := by decide +kernel
theorem dL_law_197 : decode cL_law 197 = .ok (.aload_n 0, 1) := by decide +kernel
theorem dL_law_198 : decode cL_law 198 = .ok (.iload_n 3, 1) := by decide +kernel
theorem dL_law_199 : decode cL_law 199 = .ok (.iconst 1, 1) := by decide +kernel
theorem dL_law_200 : decode cL_law 200 = .ok (.iadd, 1) := by decide +kernel
theorem dL_law_201 : decode cL_law 201 = .ok (.iaload, 1) := by decide +kernel
theorem dL_law_202 : decode cL_law 202 = .ok (.invokevirtual 13, 3) := by decide +kernel
theorem dL_law_205 : decode cL_law 205 = .ok (.aload_n 2, 1) := by decide +kernel
theorem dL_law_206 : decode cL_law 206 = .ok (.aload_n 0, 1) := by decide +kernel
theorem dL_law_207 : decode cL_law 207 = .ok (.iload_n 3, 1) := by decide +kernel
theorem dL_law_208 : decode cL_law 208 = .ok (.iconst 1, 1) := by decide +kernel
theorem dL_law_209 : decode cL_law 209 = .ok (.iadd, 1) := by decide +kernel
theorem dL_law_210 : decode cL_law 210 = .ok (.iaload, 1) := by decide +kernel
theorem dL_law_211 : decode cL_law 211 = .ok (.invokevirtual 17, 3) := by decide +kernel
theorem dL_law_214 : decode cL_law 214 = .ok (.if_icmp .eq 1065, 3) := by decide +kernel
theorem dL_law_217 : decode cL_law 217 = .ok (.iconst 0, 1) := by decide +kernel
theorem dL_law_218 : decode cL_law 218 = .ok (.ireturn, 1) := by decide +kernel
theorem dL_law_219 : decode cL_law 219 = .ok (.aload_n 1, 1) := by decide +kernel
theorem dL_law_220 : decode cL_law 220 = .ok (.invokevirtual 18, 3) := by decide +kernel
theorem dL_law_223 : decode cL_law 223 = .ok (.aload_n 2, 1) := by decide +kernel
theorem dL_law_224 : decode cL_law 224 = .ok (.invokevirtual 22, 3) := by decide +kernel
theorem dL_law_227 : decode cL_law 227 = .ok (.if_icmp .eq 1052, 3) := by decide +kernel
theorem dL_law_230 : decode cL_law 230 = .ok (.iconst 0, 1) := by decide +kernel
theorem dL_law_231 : decode cL_law 231 = .ok (.ireturn, 1) := by decide +kernel
theorem dL_law_232 : decode cL_law 232 = .ok (.aload_n 1, 1) := by decide +kernel
theorem dL_law_233 : decode cL_law 233 = .ok (.aload_n 0, 1) := by decide +kernel
theorem dL_law_234 : decode cL_law 234 = .ok (.iload_n 3, 1) := by decide +kernel
theorem dL_law_235 : decode cL_law 235 = .ok (.iconst 1, 1) := by decide +kernel
theorem dL_law_236 : decode cL_law 236 = .ok (.iadd, 1) := by decide +kernel
theorem dL_law_237 : decode cL_law 237 = .ok (.iaload, 1) := by decide +kernel
theorem dL_law_238 : decode cL_law 238 = .ok (.aload_n 0, 1) := by decide +kernel
theorem dL_law_239 : decode cL_law 239 = .ok (.iload_n 3, 1) := by decide +kernel
theorem dL_law_240 : decode cL_law 240 = .ok (.iconst 2, 1) := by decide +kernel
theorem dL_law_241 : decode cL_law 241 = .ok (.iadd, 1) := by decide +kernel
theorem dL_law_242 : decode cL_law 242 = .ok (.iaload, 1) := by decide +kernel
theorem dL_law_243 : decode cL_law 243 = .ok (.invokevirtual 23, 3) := by decide +kernel
theorem dL_law_246 : decode cL_law 246 = .ok (.aload_n 2, 1) := by decide +kernel
theorem dL_law_247 : decode cL_law 247 = .ok (.aload_n 0, 1) := by decide +kernel
theorem dL_law_248 : decode cL_law 248 = .ok (.iload_n 3, 1) := by decide +kernel
theorem dL_law_249 : decode cL_law 249 = .ok (.iconst 1, 1) := by decide +kernel
theorem dL_law_250 : decode cL_law 250 = .ok (.iadd, 1) := by decide +kernel
theorem dL_law_251 : decode cL_law 251 = .ok (.iaload, 1) := by decide +kernel
theorem dL_law_252 : decode cL_law 252 = .ok (.aload_n 0, 1) := by decide +kernel
theorem dL_law_253 : decode cL_law 253 = .ok (.iload_n 3, 1) := by decide +kernel
theorem dL_law_254 : decode cL_law 254 = .ok (.iconst 2, 1) := by decide +kernel
theorem dL_law_255 : decode cL_law 255 = .ok (.iadd, 1) := by decide +kernel
theorem dL_law_256 : decode cL_law 256 = .ok (.iaload, 1) := by decide +kernel
theorem dL_law_257 : decode cL_law 257 = .ok (.invokevirtual 27, 3) := by decide +kernel
theorem dL_law_260 : decode cL_law 260 = .ok (.if_icmp .eq 1019, 3) := by decide +kernel
theorem dL_law_263 : decode cL_law 263 = .ok (.iconst 0, 1) := by decide +kernel
theorem dL_law_264 : decode cL_law 264 = .ok (.ireturn, 1) := by decide +kernel
theorem dL_law_265 : decode cL_law 265 = .ok (.aload_n 1, 1) := by decide +kernel
theorem dL_law_266 : decode cL_law 266 = .ok (.aload_n 0, 1) := by decide +kernel
theorem dL_law_267 : decode cL_law 267 = .ok (.iload_n 3, 1) := by decide +kernel
theorem dL_law_268 : decode cL_law 268 = .ok (.iconst 1, 1) := by decide +kernel
theorem dL_law_269 : decode cL_law 269 = .ok (.iadd, 1) := by decide +kernel
theorem dL_law_270 : decode cL_law 270 = .ok (.iaload, 1) := by decide +kernel
theorem dL_law_271 : decode cL_law 271 = .ok (.aload_n 0, 1) := by decide +kernel
theorem dL_law_272 : decode cL_law 272 = .ok (.iload_n 3, 1) := by decide +kernel
theorem dL_law_273 : decode cL_law 273 = .ok (.iconst 2, 1) := by decide +kernel
theorem dL_law_274 : decode cL_law 274 = .ok (.iadd, 1) := by decide +kernel
theorem dL_law_275 : decode cL_law 275 = .ok (.iaload, 1) := by decide +kernel
theorem dL_law_276 : decode cL_law 276 = .ok (.invokevirtual 28, 3) := by decide +kernel
theorem dL_law_279 : decode cL_law 279 = .ok (.aload_n 2, 1) := by decide +kernel
theorem dL_law_280 : decode cL_law 280 = .ok (.aload_n 0, 1) := by decide +kernel
theorem dL_law_281 : decode cL_law 281 = .ok (.iload_n 3, 1) := by decide +kernel
theorem dL_law_282 : decode cL_law 282 = .ok (.iconst 1, 1) := by decide +kernel
theorem dL_law_283 : decode cL_law 283 = .ok (.iadd, 1) := by decide +kernel
theorem dL_law_284 : decode cL_law 284 = .ok (.iaload, 1) := by decide +kernel
theorem dL_law_285 : decode cL_law 285 = .ok (.aload_n 0, 1) := by decide +kernel
theorem dL_law_286 : decode cL_law 286 = .ok (.iload_n 3, 1) := by decide +kernel
theorem dL_law_287 : decode cL_law 287 = .ok (.iconst 2, 1) := by decide +kernel
theorem dL_law_288 : decode cL_law 288 = .ok (.iadd, 1) := by decide +kernel
theorem dL_law_289 : decode cL_law 289 = .ok (.iaload, 1) := by decide +kernel
theorem dL_law_290 : decode cL_law 290 = .ok (.invokevirtual 31, 3) := by decide +kernel
theorem dL_law_293 : decode cL_law 293 = .ok (.if_icmp .eq 986, 3) := by decide +kernel
theorem dL_law_296 : decode cL_law 296 = .ok (.iconst 0, 1) := by decide +kernel
theorem dL_law_297 : decode cL_law 297 = .ok (.ireturn, 1) := by decide +kernel
theorem dL_law_298 : decode cL_law 298 = .ok (.aload_n 1, 1) := by decide +kernel
theorem dL_law_299 : decode cL_law 299 = .ok (.aload_n 0, 1) := by decide +kernel
theorem dL_law_300 : decode cL_law 300 = .ok (.iload_n 3, 1) := by decide +kernel
theorem dL_law_301 : decode cL_law 301 = .ok (.iconst 1, 1) := by decide +kernel
theorem dL_law_302 : decode cL_law 302 = .ok (.iadd, 1) := by decide +kernel
theorem dL_law_303 : decode cL_law 303 = .ok (.iaload, 1) := by decide +kernel
theorem dL_law_304 : decode cL_law 304 = .ok (.invokevirtual 32, 3) := by decide +kernel
theorem dL_law_307 : decode cL_law 307 = .ok (.aload_n 2, 1) := by decide +kernel
theorem dL_law_308 : decode cL_law 308 = .ok (.aload_n 0, 1) := by decide +kernel
theorem dL_law_309 : decode cL_law 309 = .ok (.iload_n 3, 1) := by decide +kernel
theorem dL_law_310 : decode cL_law 310 = .ok (.iconst 1, 1) := by decide +kernel
theorem dL_law_311 : decode cL_law 311 = .ok (.iadd, 1) := by decide +kernel
theorem dL_law_312 : decode cL_law 312 = .ok (.iaload, 1) := by decide +kernel
theorem dL_law_313 : decode cL_law 313 = .ok (.invokevirtual 35, 3) := by decide +kernel
theorem dL_law_316 : decode cL_law 316 = .ok (.if_icmp .eq 963, 3) := by decide +kernel
theorem dL_law_319 : decode cL_law 319 = .ok (.iconst 0, 1) := by decide +kernel
theorem dL_law_320 : decode cL_law 320 = .ok (.ireturn, 1) := by decide +kernel
theorem dL_law_321 : decode cL_law 321 = .ok (.aload_n 1, 1) := by decide +kernel
theorem dL_law_322 : decode cL_law 322 = .ok (.aload_n 0, 1) := by decide +kernel
theorem dL_law_323 : decode cL_law 323 = .ok (.iload_n 3, 1) := by decide +kernel
theorem dL_law_324 : decode cL_law 324 = .ok (.iconst 1, 1) := by decide +kernel
theorem dL_law_325 : decode cL_law 325 = .ok (.iadd, 1) := by decide +kernel
theorem dL_law_326 : decode cL_law 326 = .ok (.iaload, 1) := by decide +kernel
theorem dL_law_327 : decode cL_law 327 = .ok (.aload_n 0, 1) := by decide +kernel
theorem dL_law_328 : decode cL_law 328 = .ok (.iload_n 3, 1) := by decide +kernel
theorem dL_law_329 : decode cL_law 329 = .ok (.iconst 2, 1) := by decide +kernel
theorem dL_law_330 : decode cL_law 330 = .ok (.iadd, 1) := by decide +kernel
theorem dL_law_331 : decode cL_law 331 = .ok (.iaload, 1) := by decide +kernel
theorem dL_law_332 : decode cL_law 332 = .ok (.invokevirtual 36, 3) := by decide +kernel
theorem dL_law_335 : decode cL_law 335 = .ok (.aload_n 2, 1) := by decide +kernel
theorem dL_law_336 : decode cL_law 336 = .ok (.aload_n 0, 1) := by decide +kernel
theorem dL_law_337 : decode cL_law 337 = .ok (.iload_n 3, 1) := by decide +kernel
theorem dL_law_338 : decode cL_law 338 = .ok (.iconst 1, 1) := by decide +kernel
theorem dL_law_339 : decode cL_law 339 = .ok (.iadd, 1) := by decide +kernel
theorem dL_law_340 : decode cL_law 340 = .ok (.iaload, 1) := by decide +kernel
theorem dL_law_341 : decode cL_law 341 = .ok (.aload_n 0, 1) := by decide +kernel
theorem dL_law_342 : decode cL_law 342 = .ok (.iload_n 3, 1) := by decide +kernel
theorem dL_law_343 : decode cL_law 343 = .ok (.iconst 2, 1) := by decide +kernel
theorem dL_law_344 : decode cL_law 344 = .ok (.iadd, 1) := by decide +kernel
theorem dL_law_345 : decode cL_law 345 = .ok (.iaload, 1) := by decide +kernel
theorem dL_law_346 : decode cL_law 346 = .ok (.invokevirtual 39, 3) := by decide +kernel
theorem dL_law_349 : decode cL_law 349 = .ok (.if_icmp .eq 930, 3) := by decide +kernel
theorem dL_law_352 : decode cL_law 352 = .ok (.iconst 0, 1) := by decide +kernel
theorem dL_law_353 : decode cL_law 353 = .ok (.ireturn, 1) := by decide +kernel
theorem dL_law_354 : decode cL_law 354 = .ok (.aload_n 1, 1) := by decide +kernel
theorem dL_law_355 : decode cL_law 355 = .ok (.aload_n 0, 1) := by decide +kernel
theorem dL_law_356 : decode cL_law 356 = .ok (.iload_n 3, 1) := by decide +kernel
theorem dL_law_357 : decode cL_law 357 = .ok (.iconst 1, 1) := by decide +kernel
theorem dL_law_358 : decode cL_law 358 = .ok (.iadd, 1) := by decide +kernel
theorem dL_law_359 : decode cL_law 359 = .ok (.iaload, 1) := by decide +kernel
theorem dL_law_360 : decode cL_law 360 = .ok (.invokevirtual 40, 3) := by decide +kernel
theorem dL_law_363 : decode cL_law 363 = .ok (.aload_n 2, 1) := by decide +kernel
theorem dL_law_364 : decode cL_law 364 = .ok (.aload_n 0, 1) := by decide +kernel
theorem dL_law_365 : decode cL_law 365 = .ok (.iload_n 3, 1) := by decide +kernel
theorem dL_law_366 : decode cL_law 366 = .ok (.iconst 1, 1) := by decide +kernel
theorem dL_law_367 : decode cL_law 367 = .ok (.iadd, 1) := by decide +kernel
theorem dL_law_368 : decode cL_law 368 = .ok (.iaload, 1) := by decide +kernel
theorem dL_law_369 : decode cL_law 369 = .ok (.invokevirtual 43, 3) := by decide +kernel
theorem dL_law_372 : decode cL_law 372 = .ok (.if_icmp .eq 907, 3) := by decide +kernel
theorem dL_law_375 : decode cL_law 375 = .ok (.iconst 0, 1) := by decide +kernel
theorem dL_law_376 : decode cL_law 376 = .ok (.ireturn, 1) := by decide +kernel
theorem dL_law_377 : decode cL_law 377 = .ok (.aload_n 1, 1) := by decide +kernel
theorem dL_law_378 : decode cL_law 378 = .ok (.aload_n 0, 1) := by decide +kernel
theorem dL_law_379 : decode cL_law 379 = .ok (.iload_n 3, 1) := by decide +kernel
theorem dL_law_380 : decode cL_law 380 = .ok (.iconst 1, 1) := by decide +kernel
theorem dL_law_381 : decode cL_law 381 = .ok (.iadd, 1) := by decide +kernel
theorem dL_law_382 : decode cL_law 382 = .ok (.iaload, 1) := by decide +kernel
theorem dL_law_383 : decode cL_law 383 = .ok (.aload_n 0, 1) := by decide +kernel
theorem dL_law_384 : decode cL_law 384 = .ok (.iload_n 3, 1) := by decide +kernel
theorem dL_law_385 : decode cL_law 385 = .ok (.iconst 2, 1) := by decide +kernel
theorem dL_law_386 : decode cL_law 386 = .ok (.iadd, 1) := by decide +kernel
theorem dL_law_387 : decode cL_law 387 = .ok (.iaload, 1) := by decide +kernel
theorem dL_law_388 : decode cL_law 388 = .ok (.invokevirtual 44, 3) := by decide +kernel
theorem dL_law_391 : decode cL_law 391 = .ok (.aload_n 2, 1) := by decide +kernel
theorem dL_law_392 : decode cL_law 392 = .ok (.aload_n 0, 1) := by decide +kernel
theorem dL_law_393 : decode cL_law 393 = .ok (.iload_n 3, 1) := by decide +kernel
theorem dL_law_394 : decode cL_law 394 = .ok (.iconst 1, 1) := by decide +kernel
theorem dL_law_395 : decode cL_law 395 = .ok (.iadd, 1) := by decide +kernel
theorem dL_law_396 : decode cL_law 396 = .ok (.iaload, 1) := by decide +kernel
theorem dL_law_397 : decode cL_law 397 = .ok (.aload_n 0, 1) := by decide +kernel
theorem dL_law_398 : decode cL_law 398 = .ok (.iload_n 3, 1) := by decide +kernel
theorem dL_law_399 : decode cL_law 399 = .ok (.iconst 2, 1) := by decide +kernel
theorem dL_law_400 : decode cL_law 400 = .ok (.iadd, 1) := by decide +kernel
theorem dL_law_401 : decode cL_law 401 = .ok (.iaload, 1) := by decide +kernel
theorem dL_law_402 : decode cL_law 402 = .ok (.invokevirtual 47, 3) := by decide +kernel
theorem dL_law_405 : decode cL_law 405 = .ok (.if_icmp .eq 874, 3) := by decide +kernel
theorem dL_law_408 : decode cL_law 408 = .ok (.iconst 0, 1) := by decide +kernel
theorem dL_law_409 : decode cL_law 409 = .ok (.ireturn, 1) := by decide +kernel
theorem dL_law_410 : decode cL_law 410 = .ok (.aload_n 1, 1) := by decide +kernel
theorem dL_law_411 : decode cL_law 411 = .ok (.aload_n 0, 1) := by decide +kernel
theorem dL_law_412 : decode cL_law 412 = .ok (.iload_n 3, 1) := by decide +kernel
theorem dL_law_413 : decode cL_law 413 = .ok (.iconst 1, 1) := by decide +kernel
theorem dL_law_414 : decode cL_law 414 = .ok (.iadd, 1) := by decide +kernel
theorem dL_law_415 : decode cL_law 415 = .ok (.iaload, 1) := by decide +kernel
theorem dL_law_416 : decode cL_law 416 = .ok (.aload_n 0, 1) := by decide +kernel
theorem dL_law_417 : decode cL_law 417 = .ok (.iload_n 3, 1) := by decide +kernel
theorem dL_law_418 : decode cL_law 418 = .ok (.iconst 2, 1) := by decide +kernel
theorem dL_law_419 : decode cL_law 419 = .ok (.iadd, 1) := by decide +kernel
theorem dL_law_420 : decode cL_law 420 = .ok (.iaload, 1) := by decide +kernel
theorem dL_law_421 : decode cL_law 421 = .ok (.aload_n 0, 1) := by decide +kernel
theorem dL_law_422 : decode cL_law 422 = .ok (.iload_n 3, 1) := by decide +kernel
theorem dL_law_423 : decode cL_law 423 = .ok (.iconst 3, 1) := by decide +kernel
theorem dL_law_424 : decode cL_law 424 = .ok (.iadd, 1) := by decide +kernel
theorem dL_law_425 : decode cL_law 425 = .ok (.iaload, 1) := by decide +kernel
theorem dL_law_426 : decode cL_law 426 = .ok (.invokevirtual 48, 3) := by decide +kernel
theorem dL_law_429 : decode cL_law 429 = .ok (.aload_n 2, 1) := by decide +kernel
theorem dL_law_430 : decode cL_law 430 = .ok (.aload_n 0, 1) := by decide +kernel
theorem dL_law_431 : decode cL_law 431 = .ok (.iload_n 3, 1) := by decide +kernel
theorem dL_law_432 : decode cL_law 432 = .ok (.iconst 1, 1) := by decide +kernel
theorem dL_law_433 : decode cL_law 433 = .ok (.iadd, 1) := by decide +kernel
theorem dL_law_434 : decode cL_law 434 = .ok (.iaload, 1) := by decide +kernel
theorem dL_law_435 : decode cL_law 435 = .ok (.aload_n 0, 1) := by decide +kernel
theorem dL_law_436 : decode cL_law 436 = .ok (.iload_n 3, 1) := by decide +kernel
theorem dL_law_437 : decode cL_law 437 = .ok (.iconst 2, 1) := by decide +kernel
theorem dL_law_438 : decode cL_law 438 = .ok (.iadd, 1) := by decide +kernel
theorem dL_law_439 : decode cL_law 439 = .ok (.iaload, 1) := by decide +kernel
theorem dL_law_440 : decode cL_law 440 = .ok (.aload_n 0, 1) := by decide +kernel
theorem dL_law_441 : decode cL_law 441 = .ok (.iload_n 3, 1) := by decide +kernel
theorem dL_law_442 : decode cL_law 442 = .ok (.iconst 3, 1) := by decide +kernel
theorem dL_law_443 : decode cL_law 443 = .ok (.iadd, 1) := by decide +kernel
theorem dL_law_444 : decode cL_law 444 = .ok (.iaload, 1) := by decide +kernel
theorem dL_law_445 : decode cL_law 445 = .ok (.invokevirtual 52, 3) := by decide +kernel
theorem dL_law_448 : decode cL_law 448 = .ok (.if_icmp .eq 831, 3) := by decide +kernel
theorem dL_law_451 : decode cL_law 451 = .ok (.iconst 0, 1) := by decide +kernel
theorem dL_law_452 : decode cL_law 452 = .ok (.ireturn, 1) := by decide +kernel
theorem dL_law_453 : decode cL_law 453 = .ok (.aload_n 1, 1) := by decide +kernel
theorem dL_law_454 : decode cL_law 454 = .ok (.aload_n 0, 1) := by decide +kernel
theorem dL_law_455 : decode cL_law 455 = .ok (.iload_n 3, 1) := by decide +kernel
theorem dL_law_456 : decode cL_law 456 = .ok (.iconst 1, 1) := by decide +kernel
theorem dL_law_457 : decode cL_law 457 = .ok (.iadd, 1) := by decide +kernel
theorem dL_law_458 : decode cL_law 458 = .ok (.iaload, 1) := by decide +kernel
theorem dL_law_459 : decode cL_law 459 = .ok (.aload_n 0, 1) := by decide +kernel
theorem dL_law_460 : decode cL_law 460 = .ok (.iload_n 3, 1) := by decide +kernel
theorem dL_law_461 : decode cL_law 461 = .ok (.iconst 2, 1) := by decide +kernel
theorem dL_law_462 : decode cL_law 462 = .ok (.iadd, 1) := by decide +kernel
theorem dL_law_463 : decode cL_law 463 = .ok (.iaload, 1) := by decide +kernel
theorem dL_law_464 : decode cL_law 464 = .ok (.aload_n 0, 1) := by decide +kernel
theorem dL_law_465 : decode cL_law 465 = .ok (.iload_n 3, 1) := by decide +kernel
theorem dL_law_466 : decode cL_law 466 = .ok (.iconst 3, 1) := by decide +kernel
theorem dL_law_467 : decode cL_law 467 = .ok (.iadd, 1) := by decide +kernel
theorem dL_law_468 : decode cL_law 468 = .ok (.iaload, 1) := by decide +kernel
theorem dL_law_469 : decode cL_law 469 = .ok (.invokevirtual 53, 3) := by decide +kernel
theorem dL_law_472 : decode cL_law 472 = .ok (.aload_n 2, 1) := by decide +kernel
theorem dL_law_473 : decode cL_law 473 = .ok (.aload_n 0, 1) := by decide +kernel
theorem dL_law_474 : decode cL_law 474 = .ok (.iload_n 3, 1) := by decide +kernel
theorem dL_law_475 : decode cL_law 475 = .ok (.iconst 1, 1) := by decide +kernel
theorem dL_law_476 : decode cL_law 476 = .ok (.iadd, 1) := by decide +kernel
theorem dL_law_477 : decode cL_law 477 = .ok (.iaload, 1) := by decide +kernel
theorem dL_law_478 : decode cL_law 478 = .ok (.aload_n 0, 1) := by decide +kernel
theorem dL_law_479 : decode cL_law 479 = .ok (.iload_n 3, 1) := by decide +kernel
theorem dL_law_480 : decode cL_law 480 = .ok (.iconst 2, 1) := by decide +kernel
theorem dL_law_481 : decode cL_law 481 = .ok (.iadd, 1) := by decide +kernel
theorem dL_law_482 : decode cL_law 482 = .ok (.iaload, 1) := by decide +kernel
theorem dL_law_483 : decode cL_law 483 = .ok (.aload_n 0, 1) := by decide +kernel
theorem dL_law_484 : decode cL_law 484 = .ok (.iload_n 3, 1) := by decide +kernel
theorem dL_law_485 : decode cL_law 485 = .ok (.iconst 3, 1) := by decide +kernel
theorem dL_law_486 : decode cL_law 486 = .ok (.iadd, 1) := by decide +kernel
theorem dL_law_487 : decode cL_law 487 = .ok (.iaload, 1) := by decide +kernel
theorem dL_law_488 : decode cL_law 488 = .ok (.invokevirtual 56, 3) := by decide +kernel
theorem dL_law_491 : decode cL_law 491 = .ok (.if_icmp .eq 788, 3) := by decide +kernel
theorem dL_law_494 : decode cL_law 494 = .ok (.iconst 0, 1) := by decide +kernel
theorem dL_law_495 : decode cL_law 495 = .ok (.ireturn, 1) := by decide +kernel
theorem dL_law_496 : decode cL_law 496 = .ok (.aload_n 1, 1) := by decide +kernel
theorem dL_law_497 : decode cL_law 497 = .ok (.aload_n 0, 1) := by decide +kernel
theorem dL_law_498 : decode cL_law 498 = .ok (.iload_n 3, 1) := by decide +kernel
theorem dL_law_499 : decode cL_law 499 = .ok (.iconst 1, 1) := by decide +kernel
theorem dL_law_500 : decode cL_law 500 = .ok (.iadd, 1) := by decide +kernel
theorem dL_law_501 : decode cL_law 501 = .ok (.iaload, 1) := by decide +kernel
theorem dL_law_502 : decode cL_law 502 = .ok (.invokevirtual 57, 3) := by decide +kernel
theorem dL_law_505 : decode cL_law 505 = .ok (.aload_n 2, 1) := by decide +kernel
theorem dL_law_506 : decode cL_law 506 = .ok (.aload_n 0, 1) := by decide +kernel
theorem dL_law_507 : decode cL_law 507 = .ok (.iload_n 3, 1) := by decide +kernel
theorem dL_law_508 : decode cL_law 508 = .ok (.iconst 1, 1) := by decide +kernel
theorem dL_law_509 : decode cL_law 509 = .ok (.iadd, 1) := by decide +kernel
theorem dL_law_510 : decode cL_law 510 = .ok (.iaload, 1) := by decide +kernel
theorem dL_law_511 : decode cL_law 511 = .ok (.invokevirtual 60, 3) := by decide +kernel
theorem dL_law_514 : decode cL_law 514 = .ok (.if_icmp .eq 765, 3) := by decide +kernel
theorem dL_law_517 : decode cL_law 517 = .ok (.iconst 0, 1) := by decide +kernel
theorem dL_law_518 : decode cL_law 518 = .ok (.ireturn, 1) := by decide +kernel
theorem dL_law_519 : decode cL_law 519 = .ok (.aload_n 1, 1) := by decide +kernel
theorem dL_law_520 : decode cL_law 520 = .ok (.aload_n 0, 1) := by decide +kernel
theorem dL_law_521 : decode cL_law 521 = .ok (.iload_n 3, 1) := by decide +kernel
theorem dL_law_522 : decode cL_law 522 = .ok (.iconst 1, 1) := by decide +kernel
theorem dL_law_523 : decode cL_law 523 = .ok (.iadd, 1) := by decide +kernel
theorem dL_law_524 : decode cL_law 524 = .ok (.iaload, 1) := by decide +kernel
theorem dL_law_525 : decode cL_law 525 = .ok (.aload_n 0, 1) := by decide +kernel
theorem dL_law_526 : decode cL_law 526 = .ok (.iload_n 3, 1) := by decide +kernel
theorem dL_law_527 : decode cL_law 527 = .ok (.iconst 2, 1) := by decide +kernel
theorem dL_law_528 : decode cL_law 528 = .ok (.iadd, 1) := by decide +kernel
theorem dL_law_529 : decode cL_law 529 = .ok (.iaload, 1) := by decide +kernel
theorem dL_law_530 : decode cL_law 530 = .ok (.aload_n 0, 1) := by decide +kernel
theorem dL_law_531 : decode cL_law 531 = .ok (.iload_n 3, 1) := by decide +kernel
theorem dL_law_532 : decode cL_law 532 = .ok (.iconst 3, 1) := by decide +kernel
theorem dL_law_533 : decode cL_law 533 = .ok (.iadd, 1) := by decide +kernel
theorem dL_law_534 : decode cL_law 534 = .ok (.iaload, 1) := by decide +kernel
theorem dL_law_535 : decode cL_law 535 = .ok (.invokevirtual 61, 3) := by decide +kernel
theorem dL_law_538 : decode cL_law 538 = .ok (.aload_n 2, 1) := by decide +kernel
theorem dL_law_539 : decode cL_law 539 = .ok (.aload_n 0, 1) := by decide +kernel
theorem dL_law_540 : decode cL_law 540 = .ok (.iload_n 3, 1) := by decide +kernel
theorem dL_law_541 : decode cL_law 541 = .ok (.iconst 1, 1) := by decide +kernel
theorem dL_law_542 : decode cL_law 542 = .ok (.iadd, 1) := by decide +kernel
theorem dL_law_543 : decode cL_law 543 = .ok (.iaload, 1) := by decide +kernel
theorem dL_law_544 : decode cL_law 544 = .ok (.aload_n 0, 1) := by decide +kernel
theorem dL_law_545 : decode cL_law 545 = .ok (.iload_n 3, 1) := by decide +kernel
theorem dL_law_546 : decode cL_law 546 = .ok (.iconst 2, 1) := by decide +kernel
theorem dL_law_547 : decode cL_law 547 = .ok (.iadd, 1) := by decide +kernel
theorem dL_law_548 : decode cL_law 548 = .ok (.iaload, 1) := by decide +kernel
theorem dL_law_549 : decode cL_law 549 = .ok (.aload_n 0, 1) := by decide +kernel
theorem dL_law_550 : decode cL_law 550 = .ok (.iload_n 3, 1) := by decide +kernel
theorem dL_law_551 : decode cL_law 551 = .ok (.iconst 3, 1) := by decide +kernel
theorem dL_law_552 : decode cL_law 552 = .ok (.iadd, 1) := by decide +kernel
theorem dL_law_553 : decode cL_law 553 = .ok (.iaload, 1) := by decide +kernel
theorem dL_law_554 : decode cL_law 554 = .ok (.invokevirtual 64, 3) := by decide +kernel
theorem dL_law_557 : decode cL_law 557 = .ok (.if_icmp .eq 722, 3) := by decide +kernel
theorem dL_law_560 : decode cL_law 560 = .ok (.iconst 0, 1) := by decide +kernel
theorem dL_law_561 : decode cL_law 561 = .ok (.ireturn, 1) := by decide +kernel
theorem dL_law_562 : decode cL_law 562 = .ok (.aload_n 1, 1) := by decide +kernel
theorem dL_law_563 : decode cL_law 563 = .ok (.aload_n 0, 1) := by decide +kernel
theorem dL_law_564 : decode cL_law 564 = .ok (.iload_n 3, 1) := by decide +kernel
theorem dL_law_565 : decode cL_law 565 = .ok (.iconst 1, 1) := by decide +kernel
theorem dL_law_566 : decode cL_law 566 = .ok (.iadd, 1) := by decide +kernel
theorem dL_law_567 : decode cL_law 567 = .ok (.iaload, 1) := by decide +kernel
theorem dL_law_568 : decode cL_law 568 = .ok (.aload_n 0, 1) := by decide +kernel
theorem dL_law_569 : decode cL_law 569 = .ok (.iload_n 3, 1) := by decide +kernel
theorem dL_law_570 : decode cL_law 570 = .ok (.iconst 2, 1) := by decide +kernel
theorem dL_law_571 : decode cL_law 571 = .ok (.iadd, 1) := by decide +kernel
theorem dL_law_572 : decode cL_law 572 = .ok (.iaload, 1) := by decide +kernel
theorem dL_law_573 : decode cL_law 573 = .ok (.invokevirtual 65, 3) := by decide +kernel
theorem dL_law_576 : decode cL_law 576 = .ok (.aload_n 2, 1) := by decide +kernel
theorem dL_law_577 : decode cL_law 577 = .ok (.aload_n 0, 1) := by decide +kernel
theorem dL_law_578 : decode cL_law 578 = .ok (.iload_n 3, 1) := by decide +kernel
theorem dL_law_579 : decode cL_law 579 = .ok (.iconst 1, 1) := by decide +kernel
theorem dL_law_580 : decode cL_law 580 = .ok (.iadd, 1) := by decide +kernel
theorem dL_law_581 : decode cL_law 581 = .ok (.iaload, 1) := by decide +kernel
theorem dL_law_582 : decode cL_law 582 = .ok (.aload_n 0, 1) := by decide +kernel
theorem dL_law_583 : decode cL_law 583 = .ok (.iload_n 3, 1) := by decide +kernel
theorem dL_law_584 : decode cL_law 584 = .ok (.iconst 2, 1) := by decide +kernel
theorem dL_law_585 : decode cL_law 585 = .ok (.iadd, 1) := by decide +kernel
theorem dL_law_586 : decode cL_law 586 = .ok (.iaload, 1) := by decide +kernel
theorem dL_law_587 : decode cL_law 587 = .ok (.invokevirtual 68, 3) := by decide +kernel
theorem dL_law_590 : decode cL_law 590 = .ok (.if_icmp .eq 689, 3) := by decide +kernel
theorem dL_law_593 : decode cL_law 593 = .ok (.iconst 0, 1) := by decide +kernel
theorem dL_law_594 : decode cL_law 594 = .ok (.ireturn, 1) := by decide +kernel
theorem dL_law_595 : decode cL_law 595 = .ok (.aload_n 1, 1) := by decide +kernel
theorem dL_law_596 : decode cL_law 596 = .ok (.aload_n 0, 1) := by decide +kernel
theorem dL_law_597 : decode cL_law 597 = .ok (.iload_n 3, 1) := by decide +kernel
theorem dL_law_598 : decode cL_law 598 = .ok (.iconst 1, 1) := by decide +kernel
theorem dL_law_599 : decode cL_law 599 = .ok (.iadd, 1) := by decide +kernel
theorem dL_law_600 : decode cL_law 600 = .ok (.iaload, 1) := by decide +kernel
theorem dL_law_601 : decode cL_law 601 = .ok (.invokevirtual 69, 3) := by decide +kernel
theorem dL_law_604 : decode cL_law 604 = .ok (.aload_n 2, 1) := by decide +kernel
theorem dL_law_605 : decode cL_law 605 = .ok (.aload_n 0, 1) := by decide +kernel
theorem dL_law_606 : decode cL_law 606 = .ok (.iload_n 3, 1) := by decide +kernel
theorem dL_law_607 : decode cL_law 607 = .ok (.iconst 1, 1) := by decide +kernel
theorem dL_law_608 : decode cL_law 608 = .ok (.iadd, 1) := by decide +kernel
theorem dL_law_609 : decode cL_law 609 = .ok (.iaload, 1) := by decide +kernel
theorem dL_law_610 : decode cL_law 610 = .ok (.invokevirtual 72, 3) := by decide +kernel
theorem dL_law_613 : decode cL_law 613 = .ok (.if_icmp .eq 666, 3) := by decide +kernel
theorem dL_law_616 : decode cL_law 616 = .ok (.iconst 0, 1) := by decide +kernel
theorem dL_law_617 : decode cL_law 617 = .ok (.ireturn, 1) := by decide +kernel
theorem dL_law_618 : decode cL_law 618 = .ok (.aload_n 1, 1) := by decide +kernel
theorem dL_law_619 : decode cL_law 619 = .ok (.aload_n 0, 1) := by decide +kernel
theorem dL_law_620 : decode cL_law 620 = .ok (.iload_n 3, 1) := by decide +kernel
theorem dL_law_621 : decode cL_law 621 = .ok (.iconst 1, 1) := by decide +kernel
theorem dL_law_622 : decode cL_law 622 = .ok (.iadd, 1) := by decide +kernel
theorem dL_law_623 : decode cL_law 623 = .ok (.iaload, 1) := by decide +kernel
theorem dL_law_624 : decode cL_law 624 = .ok (.aload_n 0, 1) := by decide +kernel
theorem dL_law_625 : decode cL_law 625 = .ok (.iload_n 3, 1) := by decide +kernel
theorem dL_law_626 : decode cL_law 626 = .ok (.iconst 2, 1) := by decide +kernel
theorem dL_law_627 : decode cL_law 627 = .ok (.iadd, 1) := by decide +kernel
theorem dL_law_628 : decode cL_law 628 = .ok (.iaload, 1) := by decide +kernel
theorem dL_law_629 : decode cL_law 629 = .ok (.invokevirtual 73, 3) := by decide +kernel
theorem dL_law_632 : decode cL_law 632 = .ok (.aload_n 2, 1) := by decide +kernel
theorem dL_law_633 : decode cL_law 633 = .ok (.aload_n 0, 1) := by decide +kernel
theorem dL_law_634 : decode cL_law 634 = .ok (.iload_n 3, 1) := by decide +kernel
theorem dL_law_635 : decode cL_law 635 = .ok (.iconst 1, 1) := by decide +kernel
theorem dL_law_636 : decode cL_law 636 = .ok (.iadd, 1) := by decide +kernel
theorem dL_law_637 : decode cL_law 637 = .ok (.iaload, 1) := by decide +kernel
theorem dL_law_638 : decode cL_law 638 = .ok (.aload_n 0, 1) := by decide +kernel
theorem dL_law_639 : decode cL_law 639 = .ok (.iload_n 3, 1) := by decide +kernel
theorem dL_law_640 : decode cL_law 640 = .ok (.iconst 2, 1) := by decide +kernel
theorem dL_law_641 : decode cL_law 641 = .ok (.iadd, 1) := by decide +kernel
theorem dL_law_642 : decode cL_law 642 = .ok (.iaload, 1) := by decide +kernel
theorem dL_law_643 : decode cL_law 643 = .ok (.invokevirtual 76, 3) := by decide +kernel
theorem dL_law_646 : decode cL_law 646 = .ok (.if_icmp .eq 633, 3) := by decide +kernel
theorem dL_law_649 : decode cL_law 649 = .ok (.iconst 0, 1) := by decide +kernel
theorem dL_law_650 : decode cL_law 650 = .ok (.ireturn, 1) := by decide +kernel
theorem dL_law_651 : decode cL_law 651 = .ok (.aload_n 1, 1) := by decide +kernel
theorem dL_law_652 : decode cL_law 652 = .ok (.aload_n 0, 1) := by decide +kernel
theorem dL_law_653 : decode cL_law 653 = .ok (.iload_n 3, 1) := by decide +kernel
theorem dL_law_654 : decode cL_law 654 = .ok (.iconst 1, 1) := by decide +kernel
theorem dL_law_655 : decode cL_law 655 = .ok (.iadd, 1) := by decide +kernel
theorem dL_law_656 : decode cL_law 656 = .ok (.iaload, 1) := by decide +kernel
theorem dL_law_657 : decode cL_law 657 = .ok (.aload_n 0, 1) := by decide +kernel
theorem dL_law_658 : decode cL_law 658 = .ok (.iload_n 3, 1) := by decide +kernel
theorem dL_law_659 : decode cL_law 659 = .ok (.iconst 2, 1) := by decide +kernel
theorem dL_law_660 : decode cL_law 660 = .ok (.iadd, 1) := by decide +kernel
theorem dL_law_661 : decode cL_law 661 = .ok (.iaload, 1) := by decide +kernel
theorem dL_law_662 : decode cL_law 662 = .ok (.invokevirtual 77, 3) := by decide +kernel
theorem dL_law_665 : decode cL_law 665 = .ok (.aload_n 2, 1) := by decide +kernel
theorem dL_law_666 : decode cL_law 666 = .ok (.aload_n 0, 1) := by decide +kernel
theorem dL_law_667 : decode cL_law 667 = .ok (.iload_n 3, 1) := by decide +kernel
theorem dL_law_668 : decode cL_law 668 = .ok (.iconst 1, 1) := by decide +kernel
theorem dL_law_669 : decode cL_law 669 = .ok (.iadd, 1) := by decide +kernel
theorem dL_law_670 : decode cL_law 670 = .ok (.iaload, 1) := by decide +kernel
theorem dL_law_671 : decode cL_law 671 = .ok (.aload_n 0, 1) := by decide +kernel
theorem dL_law_672 : decode cL_law 672 = .ok (.iload_n 3, 1) := by decide +kernel
theorem dL_law_673 : decode cL_law 673 = .ok (.iconst 2, 1) := by decide +kernel
theorem dL_law_674 : decode cL_law 674 = .ok (.iadd, 1) := by decide +kernel
theorem dL_law_675 : decode cL_law 675 = .ok (.iaload, 1) := by decide +kernel
theorem dL_law_676 : decode cL_law 676 = .ok (.invokevirtual 80, 3) := by decide +kernel
theorem dL_law_679 : decode cL_law 679 = .ok (.if_icmp .eq 600, 3) := by decide +kernel
theorem dL_law_682 : decode cL_law 682 = .ok (.iconst 0, 1) := by decide +kernel
theorem dL_law_683 : decode cL_law 683 = .ok (.ireturn, 1) := by decide +kernel
theorem dL_law_684 : decode cL_law 684 = .ok (.aload_n 1, 1) := by decide +kernel
theorem dL_law_685 : decode cL_law 685 = .ok (.aload_n 0, 1) := by decide +kernel
theorem dL_law_686 : decode cL_law 686 = .ok (.iload_n 3, 1) := by decide +kernel
theorem dL_law_687 : decode cL_law 687 = .ok (.iconst 1, 1) := by decide +kernel
theorem dL_law_688 : decode cL_law 688 = .ok (.iadd, 1) := by decide +kernel
theorem dL_law_689 : decode cL_law 689 = .ok (.iaload, 1) := by decide +kernel
theorem dL_law_690 : decode cL_law 690 = .ok (.invokevirtual 81, 3) := by decide +kernel
theorem dL_law_693 : decode cL_law 693 = .ok (.aload_n 2, 1) := by decide +kernel
theorem dL_law_694 : decode cL_law 694 = .ok (.aload_n 0, 1) := by decide +kernel
theorem dL_law_695 : decode cL_law 695 = .ok (.iload_n 3, 1) := by decide +kernel
theorem dL_law_696 : decode cL_law 696 = .ok (.iconst 1, 1) := by decide +kernel
theorem dL_law_697 : decode cL_law 697 = .ok (.iadd, 1) := by decide +kernel
theorem dL_law_698 : decode cL_law 698 = .ok (.iaload, 1) := by decide +kernel
theorem dL_law_699 : decode cL_law 699 = .ok (.invokevirtual 84, 3) := by decide +kernel
theorem dL_law_702 : decode cL_law 702 = .ok (.if_icmp .eq 577, 3) := by decide +kernel
theorem dL_law_705 : decode cL_law 705 = .ok (.iconst 0, 1) := by decide +kernel
theorem dL_law_706 : decode cL_law 706 = .ok (.ireturn, 1) := by decide +kernel
theorem dL_law_707 : decode cL_law 707 = .ok (.aload_n 1, 1) := by decide +kernel
theorem dL_law_708 : decode cL_law 708 = .ok (.aload_n 0, 1) := by decide +kernel
theorem dL_law_709 : decode cL_law 709 = .ok (.iload_n 3, 1) := by decide +kernel
theorem dL_law_710 : decode cL_law 710 = .ok (.iconst 1, 1) := by decide +kernel
theorem dL_law_711 : decode cL_law 711 = .ok (.iadd, 1) := by decide +kernel
theorem dL_law_712 : decode cL_law 712 = .ok (.iaload, 1) := by decide +kernel
theorem dL_law_713 : decode cL_law 713 = .ok (.aload_n 0, 1) := by decide +kernel
theorem dL_law_714 : decode cL_law 714 = .ok (.iload_n 3, 1) := by decide +kernel
theorem dL_law_715 : decode cL_law 715 = .ok (.iconst 2, 1) := by decide +kernel
theorem dL_law_716 : decode cL_law 716 = .ok (.iadd, 1) := by decide +kernel
theorem dL_law_717 : decode cL_law 717 = .ok (.iaload, 1) := by decide +kernel
theorem dL_law_718 : decode cL_law 718 = .ok (.aload_n 0, 1) := by decide +kernel
theorem dL_law_719 : decode cL_law 719 = .ok (.iload_n 3, 1) := by decide +kernel
theorem dL_law_720 : decode cL_law 720 = .ok (.iconst 3, 1) := by decide +kernel
theorem dL_law_721 : decode cL_law 721 = .ok (.iadd, 1) := by decide +kernel
theorem dL_law_722 : decode cL_law 722 = .ok (.iaload, 1) := by decide +kernel
theorem dL_law_723 : decode cL_law 723 = .ok (.invokevirtual 85, 3) := by decide +kernel
theorem dL_law_726 : decode cL_law 726 = .ok (.aload_n 2, 1) := by decide +kernel
theorem dL_law_727 : decode cL_law 727 = .ok (.aload_n 0, 1) := by decide +kernel
theorem dL_law_728 : decode cL_law 728 = .ok (.iload_n 3, 1) := by decide +kernel
theorem dL_law_729 : decode cL_law 729 = .ok (.iconst 1, 1) := by decide +kernel
theorem dL_law_730 : decode cL_law 730 = .ok (.iadd, 1) := by decide +kernel
theorem dL_law_731 : decode cL_law 731 = .ok (.iaload, 1) := by decide +kernel
theorem dL_law_732 : decode cL_law 732 = .ok (.aload_n 0, 1) := by decide +kernel
theorem dL_law_733 : decode cL_law 733 = .ok (.iload_n 3, 1) := by decide +kernel
theorem dL_law_734 : decode cL_law 734 = .ok (.iconst 2, 1) := by decide +kernel
theorem dL_law_735 : decode cL_law 735 = .ok (.iadd, 1) := by decide +kernel
theorem dL_law_736 : decode cL_law 736 = .ok (.iaload, 1) := by decide +kernel
theorem dL_law_737 : decode cL_law 737 = .ok (.aload_n 0, 1) := by decide +kernel
theorem dL_law_738 : decode cL_law 738 = .ok (.iload_n 3, 1) := by decide +kernel
theorem dL_law_739 : decode cL_law 739 = .ok (.iconst 3, 1) := by decide +kernel
theorem dL_law_740 : decode cL_law 740 = .ok (.iadd, 1) := by decide +kernel
theorem dL_law_741 : decode cL_law 741 = .ok (.iaload, 1) := by decide +kernel
theorem dL_law_742 : decode cL_law 742 = .ok (.invokevirtual 88, 3) := by decide +kernel
theorem dL_law_745 : decode cL_law 745 = .ok (.if_icmp .eq 534, 3) := by decide +kernel
theorem dL_law_748 : decode cL_law 748 = .ok (.iconst 0, 1) := by decide +kernel
theorem dL_law_749 : decode cL_law 749 = .ok (.ireturn, 1) := by decide +kernel
theorem dL_law_750 : decode cL_law 750 = .ok (.aload_n 1, 1) := by decide +kernel
theorem dL_law_751 : decode cL_law 751 = .ok (.aload_n 0, 1) := by decide +kernel
theorem dL_law_752 : decode cL_law 752 = .ok (.iload_n 3, 1) := by decide +kernel
theorem dL_law_753 : decode cL_law 753 = .ok (.iconst 1, 1) := by decide +kernel
theorem dL_law_754 : decode cL_law 754 = .ok (.iadd, 1) := by decide +kernel
theorem dL_law_755 : decode cL_law 755 = .ok (.iaload, 1) := by decide +kernel
theorem dL_law_756 : decode cL_law 756 = .ok (.aload_n 0, 1) := by decide +kernel
theorem dL_law_757 : decode cL_law 757 = .ok (.iload_n 3, 1) := by decide +kernel
theorem dL_law_758 : decode cL_law 758 = .ok (.iconst 2, 1) := by decide +kernel
theorem dL_law_759 : decode cL_law 759 = .ok (.iadd, 1) := by decide +kernel
theorem dL_law_760 : decode cL_law 760 = .ok (.iaload, 1) := by decide +kernel
theorem dL_law_761 : decode cL_law 761 = .ok (.invokevirtual 89, 3) := by decide +kernel
theorem dL_law_764 : decode cL_law 764 = .ok (.aload_n 2, 1) := by decide +kernel
theorem dL_law_765 : decode cL_law 765 = .ok (.aload_n 0, 1) := by decide +kernel
theorem dL_law_766 : decode cL_law 766 = .ok (.iload_n 3, 1) := by decide +kernel
theorem dL_law_767 : decode cL_law 767 = .ok (.iconst 1, 1) := by decide +kernel
theorem dL_law_768 : decode cL_law 768 = .ok (.iadd, 1) := by decide +kernel
theorem dL_law_769 : decode cL_law 769 = .ok (.iaload, 1) := by decide +kernel
theorem dL_law_770 : decode cL_law 770 = .ok (.aload_n 0, 1) := by decide +kernel
theorem dL_law_771 : decode cL_law 771 = .ok (.iload_n 3, 1) := by decide +kernel
theorem dL_law_772 : decode cL_law 772 = .ok (.iconst 2, 1) := by decide +kernel
theorem dL_law_773 : decode cL_law 773 = .ok (.iadd, 1) := by decide +kernel
theorem dL_law_774 : decode cL_law 774 = .ok (.iaload, 1) := by decide +kernel
theorem dL_law_775 : decode cL_law 775 = .ok (.invokevirtual 92, 3) := by decide +kernel
theorem dL_law_778 : decode cL_law 778 = .ok (.if_icmp .eq 501, 3) := by decide +kernel
theorem dL_law_781 : decode cL_law 781 = .ok (.iconst 0, 1) := by decide +kernel
theorem dL_law_782 : decode cL_law 782 = .ok (.ireturn, 1) := by decide +kernel
theorem dL_law_783 : decode cL_law 783 = .ok (.aload_n 1, 1) := by decide +kernel
theorem dL_law_784 : decode cL_law 784 = .ok (.aload_n 0, 1) := by decide +kernel
theorem dL_law_785 : decode cL_law 785 = .ok (.iload_n 3, 1) := by decide +kernel
theorem dL_law_786 : decode cL_law 786 = .ok (.iconst 1, 1) := by decide +kernel
theorem dL_law_787 : decode cL_law 787 = .ok (.iadd, 1) := by decide +kernel
theorem dL_law_788 : decode cL_law 788 = .ok (.iaload, 1) := by decide +kernel
theorem dL_law_789 : decode cL_law 789 = .ok (.invokevirtual 93, 3) := by decide +kernel
theorem dL_law_792 : decode cL_law 792 = .ok (.aload_n 2, 1) := by decide +kernel
theorem dL_law_793 : decode cL_law 793 = .ok (.aload_n 0, 1) := by decide +kernel
theorem dL_law_794 : decode cL_law 794 = .ok (.iload_n 3, 1) := by decide +kernel
theorem dL_law_795 : decode cL_law 795 = .ok (.iconst 1, 1) := by decide +kernel
theorem dL_law_796 : decode cL_law 796 = .ok (.iadd, 1) := by decide +kernel
theorem dL_law_797 : decode cL_law 797 = .ok (.iaload, 1) := by decide +kernel
theorem dL_law_798 : decode cL_law 798 = .ok (.invokevirtual 96, 3) := by decide +kernel
theorem dL_law_801 : decode cL_law 801 = .ok (.if_icmp .eq 478, 3) := by decide +kernel
theorem dL_law_804 : decode cL_law 804 = .ok (.iconst 0, 1) := by decide +kernel
theorem dL_law_805 : decode cL_law 805 = .ok (.ireturn, 1) := by decide +kernel
theorem dL_law_806 : decode cL_law 806 = .ok (.aload_n 1, 1) := by decide +kernel
theorem dL_law_807 : decode cL_law 807 = .ok (.aload_n 0, 1) := by decide +kernel
theorem dL_law_808 : decode cL_law 808 = .ok (.iload_n 3, 1) := by decide +kernel
theorem dL_law_809 : decode cL_law 809 = .ok (.iconst 1, 1) := by decide +kernel
theorem dL_law_810 : decode cL_law 810 = .ok (.iadd, 1) := by decide +kernel
theorem dL_law_811 : decode cL_law 811 = .ok (.iaload, 1) := by decide +kernel
theorem dL_law_812 : decode cL_law 812 = .ok (.invokevirtual 97, 3) := by decide +kernel
theorem dL_law_815 : decode cL_law 815 = .ok (.aload_n 2, 1) := by decide +kernel
theorem dL_law_816 : decode cL_law 816 = .ok (.aload_n 0, 1) := by decide +kernel
theorem dL_law_817 : decode cL_law 817 = .ok (.iload_n 3, 1) := by decide +kernel
theorem dL_law_818 : decode cL_law 818 = .ok (.iconst 1, 1) := by decide +kernel
theorem dL_law_819 : decode cL_law 819 = .ok (.iadd, 1) := by decide +kernel
theorem dL_law_820 : decode cL_law 820 = .ok (.iaload, 1) := by decide +kernel
theorem dL_law_821 : decode cL_law 821 = .ok (.invokevirtual 100, 3) := by decide +kernel
theorem dL_law_824 : decode cL_law 824 = .ok (.if_icmp .eq 455, 3) := by decide +kernel
theorem dL_law_827 : decode cL_law 827 = .ok (.iconst 0, 1) := by decide +kernel
theorem dL_law_828 : decode cL_law 828 = .ok (.ireturn, 1) := by decide +kernel
theorem dL_law_829 : decode cL_law 829 = .ok (.aload_n 1, 1) := by decide +kernel
theorem dL_law_830 : decode cL_law 830 = .ok (.aload_n 0, 1) := by decide +kernel
theorem dL_law_831 : decode cL_law 831 = .ok (.iload_n 3, 1) := by decide +kernel
theorem dL_law_832 : decode cL_law 832 = .ok (.iconst 1, 1) := by decide +kernel
theorem dL_law_833 : decode cL_law 833 = .ok (.iadd, 1) := by decide +kernel
theorem dL_law_834 : decode cL_law 834 = .ok (.iaload, 1) := by decide +kernel
theorem dL_law_835 : decode cL_law 835 = .ok (.invokevirtual 101, 3) := by decide +kernel
theorem dL_law_838 : decode cL_law 838 = .ok (.aload_n 2, 1) := by decide +kernel
theorem dL_law_839 : decode cL_law 839 = .ok (.aload_n 0, 1) := by decide +kernel
theorem dL_law_840 : decode cL_law 840 = .ok (.iload_n 3, 1) := by decide +kernel
theorem dL_law_841 : decode cL_law 841 = .ok (.iconst 1, 1) := by decide +kernel
theorem dL_law_842 : decode cL_law 842 = .ok (.iadd, 1) := by decide +kernel
theorem dL_law_843 : decode cL_law 843 = .ok (.iaload, 1) := by decide +kernel
theorem dL_law_844 : decode cL_law 844 = .ok (.invokevirtual 104, 3) := by decide +kernel
theorem dL_law_847 : decode cL_law 847 = .ok (.if_icmp .eq 432, 3) := by decide +kernel
theorem dL_law_850 : decode cL_law 850 = .ok (.iconst 0, 1) := by decide +kernel
theorem dL_law_851 : decode cL_law 851 = .ok (.ireturn, 1) := by decide +kernel
theorem dL_law_852 : decode cL_law 852 = .ok (.aload_n 1, 1) := by decide +kernel
theorem dL_law_853 : decode cL_law 853 = .ok (.aload_n 0, 1) := by decide +kernel
theorem dL_law_854 : decode cL_law 854 = .ok (.iload_n 3, 1) := by decide +kernel
theorem dL_law_855 : decode cL_law 855 = .ok (.iconst 1, 1) := by decide +kernel
theorem dL_law_856 : decode cL_law 856 = .ok (.iadd, 1) := by decide +kernel
theorem dL_law_857 : decode cL_law 857 = .ok (.iaload, 1) := by decide +kernel
theorem dL_law_858 : decode cL_law 858 = .ok (.aload_n 0, 1) := by decide +kernel
theorem dL_law_859 : decode cL_law 859 = .ok (.iload_n 3, 1) := by decide +kernel
theorem dL_law_860 : decode cL_law 860 = .ok (.iconst 2, 1) := by decide +kernel
theorem dL_law_861 : decode cL_law 861 = .ok (.iadd, 1) := by decide +kernel
theorem dL_law_862 : decode cL_law 862 = .ok (.iaload, 1) := by decide +kernel
theorem dL_law_863 : decode cL_law 863 = .ok (.aload_n 0, 1) := by decide +kernel
theorem dL_law_864 : decode cL_law 864 = .ok (.iload_n 3, 1) := by decide +kernel
theorem dL_law_865 : decode cL_law 865 = .ok (.iconst 3, 1) := by decide +kernel
theorem dL_law_866 : decode cL_law 866 = .ok (.iadd, 1) := by decide +kernel
theorem dL_law_867 : decode cL_law 867 = .ok (.iaload, 1) := by decide +kernel
theorem dL_law_868 : decode cL_law 868 = .ok (.invokevirtual 105, 3) := by decide +kernel
theorem dL_law_871 : decode cL_law 871 = .ok (.aload_n 2, 1) := by decide +kernel
theorem dL_law_872 : decode cL_law 872 = .ok (.aload_n 0, 1) := by decide +kernel
theorem dL_law_873 : decode cL_law 873 = .ok (.iload_n 3, 1) := by decide +kernel
theorem dL_law_874 : decode cL_law 874 = .ok (.iconst 1, 1) := by decide +kernel
theorem dL_law_875 : decode cL_law 875 = .ok (.iadd, 1) := by decide +kernel
theorem dL_law_876 : decode cL_law 876 = .ok (.iaload, 1) := by decide +kernel
theorem dL_law_877 : decode cL_law 877 = .ok (.aload_n 0, 1) := by decide +kernel
theorem dL_law_878 : decode cL_law 878 = .ok (.iload_n 3, 1) := by decide +kernel
theorem dL_law_879 : decode cL_law 879 = .ok (.iconst 2, 1) := by decide +kernel
theorem dL_law_880 : decode cL_law 880 = .ok (.iadd, 1) := by decide +kernel
theorem dL_law_881 : decode cL_law 881 = .ok (.iaload, 1) := by decide +kernel
theorem dL_law_882 : decode cL_law 882 = .ok (.aload_n 0, 1) := by decide +kernel
theorem dL_law_883 : decode cL_law 883 = .ok (.iload_n 3, 1) := by decide +kernel
theorem dL_law_884 : decode cL_law 884 = .ok (.iconst 3, 1) := by decide +kernel
theorem dL_law_885 : decode cL_law 885 = .ok (.iadd, 1) := by decide +kernel
theorem dL_law_886 : decode cL_law 886 = .ok (.iaload, 1) := by decide +kernel
theorem dL_law_887 : decode cL_law 887 = .ok (.invokevirtual 108, 3) := by decide +kernel
theorem dL_law_890 : decode cL_law 890 = .ok (.if_icmp .eq 389, 3) := by decide +kernel
theorem dL_law_893 : decode cL_law 893 = .ok (.iconst 0, 1) := by decide +kernel
theorem dL_law_894 : decode cL_law 894 = .ok (.ireturn, 1) := by decide +kernel
theorem dL_law_895 : decode cL_law 895 = .ok (.aload_n 1, 1) := by decide +kernel
theorem dL_law_896 : decode cL_law 896 = .ok (.aload_n 0, 1) := by decide +kernel
theorem dL_law_897 : decode cL_law 897 = .ok (.iload_n 3, 1) := by decide +kernel
theorem dL_law_898 : decode cL_law 898 = .ok (.iconst 1, 1) := by decide +kernel
theorem dL_law_899 : decode cL_law 899 = .ok (.iadd, 1) := by decide +kernel
theorem dL_law_900 : decode cL_law 900 = .ok (.iaload, 1) := by decide +kernel
theorem dL_law_901 : decode cL_law 901 = .ok (.invokevirtual 109, 3) := by decide +kernel
theorem dL_law_904 : decode cL_law 904 = .ok (.aload_n 2, 1) := by decide +kernel
theorem dL_law_905 : decode cL_law 905 = .ok (.aload_n 0, 1) := by decide +kernel
theorem dL_law_906 : decode cL_law 906 = .ok (.iload_n 3, 1) := by decide +kernel
theorem dL_law_907 : decode cL_law 907 = .ok (.iconst 1, 1) := by decide +kernel
theorem dL_law_908 : decode cL_law 908 = .ok (.iadd, 1) := by decide +kernel
theorem dL_law_909 : decode cL_law 909 = .ok (.iaload, 1) := by decide +kernel
theorem dL_law_910 : decode cL_law 910 = .ok (.invokevirtual 112, 3) := by decide +kernel
theorem dL_law_913 : decode cL_law 913 = .ok (.if_icmp .eq 366, 3) := by decide +kernel
theorem dL_law_916 : decode cL_law 916 = .ok (.iconst 0, 1) := by decide +kernel
theorem dL_law_917 : decode cL_law 917 = .ok (.ireturn, 1) := by decide +kernel
theorem dL_law_918 : decode cL_law 918 = .ok (.aload_n 1, 1) := by decide +kernel
theorem dL_law_919 : decode cL_law 919 = .ok (.aload_n 0, 1) := by decide +kernel
theorem dL_law_920 : decode cL_law 920 = .ok (.iload_n 3, 1) := by decide +kernel
theorem dL_law_921 : decode cL_law 921 = .ok (.iconst 1, 1) := by decide +kernel
theorem dL_law_922 : decode cL_law 922 = .ok (.iadd, 1) := by decide +kernel
theorem dL_law_923 : decode cL_law 923 = .ok (.iaload, 1) := by decide +kernel
theorem dL_law_924 : decode cL_law 924 = .ok (.aload_n 0, 1) := by decide +kernel
theorem dL_law_925 : decode cL_law 925 = .ok (.iload_n 3, 1) := by decide +kernel
theorem dL_law_926 : decode cL_law 926 = .ok (.iconst 2, 1) := by decide +kernel
theorem dL_law_927 : decode cL_law 927 = .ok (.iadd, 1) := by decide +kernel
theorem dL_law_928 : decode cL_law 928 = .ok (.iaload, 1) := by decide +kernel
theorem dL_law_929 : decode cL_law 929 = .ok (.invokevirtual 113, 3) := by decide +kernel
theorem dL_law_932 : decode cL_law 932 = .ok (.aload_n 2, 1) := by decide +kernel
theorem dL_law_933 : decode cL_law 933 = .ok (.aload_n 0, 1) := by decide +kernel
theorem dL_law_934 : decode cL_law 934 = .ok (.iload_n 3, 1) := by decide +kernel
theorem dL_law_935 : decode cL_law 935 = .ok (.iconst 1, 1) := by decide +kernel
theorem dL_law_936 : decode cL_law 936 = .ok (.iadd, 1) := by decide +kernel
theorem dL_law_937 : decode cL_law 937 = .ok (.iaload, 1) := by decide +kernel
theorem dL_law_938 : decode cL_law 938 = .ok (.aload_n 0, 1) := by decide +kernel
theorem dL_law_939 : decode cL_law 939 = .ok (.iload_n 3, 1) := by decide +kernel
theorem dL_law_940 : decode cL_law 940 = .ok (.iconst 2, 1) := by decide +kernel
theorem dL_law_941 : decode cL_law 941 = .ok (.iadd, 1) := by decide +kernel
theorem dL_law_942 : decode cL_law 942 = .ok (.iaload, 1) := by decide +kernel
theorem dL_law_943 : decode cL_law 943 = .ok (.invokevirtual 116, 3) := by decide +kernel
theorem dL_law_946 : decode cL_law 946 = .ok (.if_icmp .eq 333, 3) := by decide +kernel
theorem dL_law_949 : decode cL_law 949 = .ok (.iconst 0, 1) := by decide +kernel
theorem dL_law_950 : decode cL_law 950 = .ok (.ireturn, 1) := by decide +kernel
theorem dL_law_951 : decode cL_law 951 = .ok (.aload_n 1, 1) := by decide +kernel
theorem dL_law_952 : decode cL_law 952 = .ok (.aload_n 0, 1) := by decide +kernel
theorem dL_law_953 : decode cL_law 953 = .ok (.iload_n 3, 1) := by decide +kernel
theorem dL_law_954 : decode cL_law 954 = .ok (.iconst 1, 1) := by decide +kernel
theorem dL_law_955 : decode cL_law 955 = .ok (.iadd, 1) := by decide +kernel
theorem dL_law_956 : decode cL_law 956 = .ok (.iaload, 1) := by decide +kernel
theorem dL_law_957 : decode cL_law 957 = .ok (.invokevirtual 117, 3) := by decide +kernel
theorem dL_law_960 : decode cL_law 960 = .ok (.aload_n 2, 1) := by decide +kernel
theorem dL_law_961 : decode cL_law 961 = .ok (.aload_n 0, 1) := by decide +kernel
theorem dL_law_962 : decode cL_law 962 = .ok (.iload_n 3, 1) := by decide +kernel
theorem dL_law_963 : decode cL_law 963 = .ok (.iconst 1, 1) := by decide +kernel
theorem dL_law_964 : decode cL_law 964 = .ok (.iadd, 1) := by decide +kernel
theorem dL_law_965 : decode cL_law 965 = .ok (.iaload, 1) := by decide +kernel
theorem dL_law_966 : decode cL_law 966 = .ok (.invokevirtual 120, 3) := by decide +kernel
theorem dL_law_969 : decode cL_law 969 = .ok (.if_icmp .eq 310, 3) := by decide +kernel
theorem dL_law_972 : decode cL_law 972 = .ok (.iconst 0, 1) := by decide +kernel
theorem dL_law_973 : decode cL_law 973 = .ok (.ireturn, 1) := by decide +kernel
theorem dL_law_974 : decode cL_law 974 = .ok (.aload_n 1, 1) := by decide +kernel
theorem dL_law_975 : decode cL_law 975 = .ok (.aload_n 0, 1) := by decide +kernel
theorem dL_law_976 : decode cL_law 976 = .ok (.iload_n 3, 1) := by decide +kernel
theorem dL_law_977 : decode cL_law 977 = .ok (.iconst 1, 1) := by decide +kernel
theorem dL_law_978 : decode cL_law 978 = .ok (.iadd, 1) := by decide +kernel
theorem dL_law_979 : decode cL_law 979 = .ok (.iaload, 1) := by decide +kernel
theorem dL_law_980 : decode cL_law 980 = .ok (.aload_n 0, 1) := by decide +kernel
theorem dL_law_981 : decode cL_law 981 = .ok (.iload_n 3, 1) := by decide +kernel
theorem dL_law_982 : decode cL_law 982 = .ok (.iconst 2, 1) := by decide +kernel
theorem dL_law_983 : decode cL_law 983 = .ok (.iadd, 1) := by decide +kernel
theorem dL_law_984 : decode cL_law 984 = .ok (.iaload, 1) := by decide +kernel
theorem dL_law_985 : decode cL_law 985 = .ok (.aload_n 0, 1) := by decide +kernel
theorem dL_law_986 : decode cL_law 986 = .ok (.iload_n 3, 1) := by decide +kernel
theorem dL_law_987 : decode cL_law 987 = .ok (.iconst 3, 1) := by decide +kernel
theorem dL_law_988 : decode cL_law 988 = .ok (.iadd, 1) := by decide +kernel
theorem dL_law_989 : decode cL_law 989 = .ok (.iaload, 1) := by decide +kernel
theorem dL_law_990 : decode cL_law 990 = .ok (.invokevirtual 121, 3) := by decide +kernel
theorem dL_law_993 : decode cL_law 993 = .ok (.aload_n 2, 1) := by decide +kernel
theorem dL_law_994 : decode cL_law 994 = .ok (.aload_n 0, 1) := by decide +kernel
theorem dL_law_995 : decode cL_law 995 = .ok (.iload_n 3, 1) := by decide +kernel
theorem dL_law_996 : decode cL_law 996 = .ok (.iconst 1, 1) := by decide +kernel
theorem dL_law_997 : decode cL_law 997 = .ok (.iadd, 1) := by decide +kernel
theorem dL_law_998 : decode cL_law 998 = .ok (.iaload, 1) := by decide +kernel
theorem dL_law_999 : decode cL_law 999 = .ok (.aload_n 0, 1) := by decide +kernel
theorem dL_law_1000 : decode cL_law 1000 = .ok (.iload_n 3, 1) := by decide +kernel
theorem dL_law_1001 : decode cL_law 1001 = .ok (.iconst 2, 1) := by decide +kernel
theorem dL_law_1002 : decode cL_law 1002 = .ok (.iadd, 1) := by decide +kernel
theorem dL_law_1003 : decode cL_law 1003 = .ok (.iaload, 1) := by decide +kernel
theorem dL_law_1004 : decode cL_law 1004 = .ok (.aload_n 0, 1) := by decide +kernel
theorem dL_law_1005 : decode cL_law 1005 = .ok (.iload_n 3, 1) := by decide +kernel
theorem dL_law_1006 : decode cL_law 1006 = .ok (.iconst 3, 1) := by decide +kernel
theorem dL_law_1007 : decode cL_law 1007 = .ok (.iadd, 1) := by decide +kernel
theorem dL_law_1008 : decode cL_law 1008 = .ok (.iaload, 1) := by decide +kernel
theorem dL_law_1009 : decode cL_law 1009 = .ok (.invokevirtual 124, 3) := by decide +kernel
theorem dL_law_1012 : decode cL_law 1012 = .ok (.if_icmp .eq 267, 3) := by decide +kernel
theorem dL_law_1015 : decode cL_law 1015 = .ok (.iconst 0, 1) := by decide +kernel
theorem dL_law_1016 : decode cL_law 1016 = .ok (.ireturn, 1) := by decide +kernel
theorem dL_law_1017 : decode cL_law 1017 = .ok (.aload_n 1, 1) := by decide +kernel
theorem dL_law_1018 : decode cL_law 1018 = .ok (.aload_n 0, 1) := by decide +kernel
theorem dL_law_1019 : decode cL_law 1019 = .ok (.iload_n 3, 1) := by decide +kernel
theorem dL_law_1020 : decode cL_law 1020 = .ok (.iconst 1, 1) := by decide +kernel
theorem dL_law_1021 : decode cL_law 1021 = .ok (.iadd, 1) := by decide +kernel
theorem dL_law_1022 : decode cL_law 1022 = .ok (.iaload, 1) := by decide +kernel
theorem dL_law_1023 : decode cL_law 1023 = .ok (.aload_n 0, 1) := by decide +kernel
theorem dL_law_1024 : decode cL_law 1024 = .ok (.iload_n 3, 1) := by decide +kernel
theorem dL_law_1025 : decode cL_law 1025 = .ok (.iconst 2, 1) := by decide +kernel
theorem dL_law_1026 : decode cL_law 1026 = .ok (.iadd, 1) := by decide +kernel
theorem dL_law_1027 : decode cL_law 1027 = .ok (.iaload, 1) := by decide +kernel
theorem dL_law_1028 : decode cL_law 1028 = .ok (.aload_n 0, 1) := by decide +kernel
theorem dL_law_1029 : decode cL_law 1029 = .ok (.iload_n 3, 1) := by decide +kernel
theorem dL_law_1030 : decode cL_law 1030 = .ok (.iconst 3, 1) := by decide +kernel
theorem dL_law_1031 : decode cL_law 1031 = .ok (.iadd, 1) := by decide +kernel
theorem dL_law_1032 : decode cL_law 1032 = .ok (.iaload, 1) := by decide +kernel
theorem dL_law_1033 : decode cL_law 1033 = .ok (.aload_n 0, 1) := by decide +kernel
theorem dL_law_1034 : decode cL_law 1034 = .ok (.iload_n 3, 1) := by decide +kernel
theorem dL_law_1035 : decode cL_law 1035 = .ok (.iconst 4, 1) := by decide +kernel
theorem dL_law_1036 : decode cL_law 1036 = .ok (.iadd, 1) := by decide +kernel
theorem dL_law_1037 : decode cL_law 1037 = .ok (.iaload, 1) := by decide +kernel
theorem dL_law_1038 : decode cL_law 1038 = .ok (.aload_n 0, 1) := by decide +kernel
theorem dL_law_1039 : decode cL_law 1039 = .ok (.iload_n 3, 1) := by decide +kernel
theorem dL_law_1040 : decode cL_law 1040 = .ok (.iconst 5, 1) := by decide +kernel
theorem dL_law_1041 : decode cL_law 1041 = .ok (.iadd, 1) := by decide +kernel
theorem dL_law_1042 : decode cL_law 1042 = .ok (.iaload, 1) := by decide +kernel
theorem dL_law_1043 : decode cL_law 1043 = .ok (.invokevirtual 125, 3) := by decide +kernel
theorem dL_law_1046 : decode cL_law 1046 = .ok (.aload_n 2, 1) := by decide +kernel
theorem dL_law_1047 : decode cL_law 1047 = .ok (.aload_n 0, 1) := by decide +kernel
theorem dL_law_1048 : decode cL_law 1048 = .ok (.iload_n 3, 1) := by decide +kernel
theorem dL_law_1049 : decode cL_law 1049 = .ok (.iconst 1, 1) := by decide +kernel
theorem dL_law_1050 : decode cL_law 1050 = .ok (.iadd, 1) := by decide +kernel
theorem dL_law_1051 : decode cL_law 1051 = .ok (.iaload, 1) := by decide +kernel
theorem dL_law_1052 : decode cL_law 1052 = .ok (.aload_n 0, 1) := by decide +kernel
theorem dL_law_1053 : decode cL_law 1053 = .ok (.iload_n 3, 1) := by decide +kernel
theorem dL_law_1054 : decode cL_law 1054 = .ok (.iconst 2, 1) := by decide +kernel
theorem dL_law_1055 : decode cL_law 1055 = .ok (.iadd, 1) := by decide +kernel
theorem dL_law_1056 : decode cL_law 1056 = .ok (.iaload, 1) := by decide +kernel
theorem dL_law_1057 : decode cL_law 1057 = .ok (.aload_n 0, 1) := by decide +kernel
theorem dL_law_1058 : decode cL_law 1058 = .ok (.iload_n 3, 1) := by decide +kernel
theorem dL_law_1059 : decode cL_law 1059 = .ok (.iconst 3, 1) := by decide +kernel
theorem dL_law_1060 : decode cL_law 1060 = .ok (.iadd, 1) := by decide +kernel
theorem dL_law_1061 : decode cL_law 1061 = .ok (.iaload, 1) := by decide +kernel
theorem dL_law_1062 : decode cL_law 1062 = .ok (.aload_n 0, 1) := by decide +kernel
theorem dL_law_1063 : decode cL_law 1063 = .ok (.iload_n 3, 1) := by decide +kernel
theorem dL_law_1064 : decode cL_law 1064 = .ok (.iconst 4, 1) := by decide +kernel
theorem dL_law_1065 : decode cL_law 1065 = .ok (.iadd, 1) := by decide +kernel
theorem dL_law_1066 : decode cL_law 1066 = .ok (.iaload, 1) := by decide +kernel
theorem dL_law_1067 : decode cL_law 1067 = .ok (.aload_n 0, 1) := by decide +kernel
theorem dL_law_1068 : decode cL_law 1068 = .ok (.iload_n 3, 1) := by decide +kernel
theorem dL_law_1069 : decode cL_law 1069 = .ok (.iconst 5, 1) := by decide +kernel
theorem dL_law_1070 : decode cL_law 1070 = .ok (.iadd, 1) := by decide +kernel
theorem dL_law_1071 : decode cL_law 1071 = .ok (.iaload, 1) := by decide +kernel
theorem dL_law_1072 : decode cL_law 1072 = .ok (.invokevirtual 129, 3) := by decide +kernel
theorem dL_law_1075 : decode cL_law 1075 = .ok (.lcmp, 1) := by decide +kernel
theorem dL_law_1076 : decode cL_law 1076 = .ok (.ifCond .eq 203, 3) := by decide +kernel
theorem dL_law_1079 : decode cL_law 1079 = .ok (.iconst 0, 1) := by decide +kernel
theorem dL_law_1080 : decode cL_law 1080 = .ok (.ireturn, 1) := by decide +kernel
theorem dL_law_1081 : decode cL_law 1081 = .ok (.aload_n 1, 1) := by decide +kernel
theorem dL_law_1082 : decode cL_law 1082 = .ok (.aload_n 0, 1) := by decide +kernel
theorem dL_law_1083 : decode cL_law 1083 = .ok (.iload_n 3, 1) := by decide +kernel
theorem dL_law_1084 : decode cL_law 1084 = .ok (.iconst 1, 1) := by decide +kernel
theorem dL_law_1085 : decode cL_law 1085 = .ok (.iadd, 1) := by decide +kernel
theorem dL_law_1086 : decode cL_law 1086 = .ok (.iaload, 1) := by decide +kernel
theorem dL_law_1087 : decode cL_law 1087 = .ok (.invokevirtual 130, 3) := by decide +kernel
theorem dL_law_1090 : decode cL_law 1090 = .ok (.aload_n 2, 1) := by decide +kernel
theorem dL_law_1091 : decode cL_law 1091 = .ok (.aload_n 0, 1) := by decide +kernel
theorem dL_law_1092 : decode cL_law 1092 = .ok (.iload_n 3, 1) := by decide +kernel
theorem dL_law_1093 : decode cL_law 1093 = .ok (.iconst 1, 1) := by decide +kernel
theorem dL_law_1094 : decode cL_law 1094 = .ok (.iadd, 1) := by decide +kernel
theorem dL_law_1095 : decode cL_law 1095 = .ok (.iaload, 1) := by decide +kernel
theorem dL_law_1096 : decode cL_law 1096 = .ok (.invokevirtual 134, 3) := by decide +kernel
theorem dL_law_1099 : decode cL_law 1099 = .ok (.lcmp, 1) := by decide +kernel
theorem dL_law_1100 : decode cL_law 1100 = .ok (.ifCond .eq 179, 3) := by decide +kernel
theorem dL_law_1103 : decode cL_law 1103 = .ok (.iconst 0, 1) := by decide +kernel
theorem dL_law_1104 : decode cL_law 1104 = .ok (.ireturn, 1) := by decide +kernel
theorem dL_law_1105 : decode cL_law 1105 = .ok (.aload_n 1, 1) := by decide +kernel
theorem dL_law_1106 : decode cL_law 1106 = .ok (.aload_n 0, 1) := by decide +kernel
theorem dL_law_1107 : decode cL_law 1107 = .ok (.iload_n 3, 1) := by decide +kernel
theorem dL_law_1108 : decode cL_law 1108 = .ok (.iconst 1, 1) := by decide +kernel
theorem dL_law_1109 : decode cL_law 1109 = .ok (.iadd, 1) := by decide +kernel
theorem dL_law_1110 : decode cL_law 1110 = .ok (.iaload, 1) := by decide +kernel
theorem dL_law_1111 : decode cL_law 1111 = .ok (.aload_n 0, 1) := by decide +kernel
theorem dL_law_1112 : decode cL_law 1112 = .ok (.iload_n 3, 1) := by decide +kernel
theorem dL_law_1113 : decode cL_law 1113 = .ok (.iconst 2, 1) := by decide +kernel
theorem dL_law_1114 : decode cL_law 1114 = .ok (.iadd, 1) := by decide +kernel
theorem dL_law_1115 : decode cL_law 1115 = .ok (.iaload, 1) := by decide +kernel
theorem dL_law_1116 : decode cL_law 1116 = .ok (.invokevirtual 135, 3) := by decide +kernel
theorem dL_law_1119 : decode cL_law 1119 = .ok (.aload_n 2, 1) := by decide +kernel
theorem dL_law_1120 : decode cL_law 1120 = .ok (.aload_n 0, 1) := by decide +kernel
theorem dL_law_1121 : decode cL_law 1121 = .ok (.iload_n 3, 1) := by decide +kernel
theorem dL_law_1122 : decode cL_law 1122 = .ok (.iconst 1, 1) := by decide +kernel
theorem dL_law_1123 : decode cL_law 1123 = .ok (.iadd, 1) := by decide +kernel
theorem dL_law_1124 : decode cL_law 1124 = .ok (.iaload, 1) := by decide +kernel
theorem dL_law_1125 : decode cL_law 1125 = .ok (.aload_n 0, 1) := by decide +kernel
theorem dL_law_1126 : decode cL_law 1126 = .ok (.iload_n 3, 1) := by decide +kernel
theorem dL_law_1127 : decode cL_law 1127 = .ok (.iconst 2, 1) := by decide +kernel
theorem dL_law_1128 : decode cL_law 1128 = .ok (.iadd, 1) := by decide +kernel
theorem dL_law_1129 : decode cL_law 1129 = .ok (.iaload, 1) := by decide +kernel
theorem dL_law_1130 : decode cL_law 1130 = .ok (.invokevirtual 138, 3) := by decide +kernel
theorem dL_law_1133 : decode cL_law 1133 = .ok (.if_icmp .eq 146, 3) := by decide +kernel
theorem dL_law_1136 : decode cL_law 1136 = .ok (.iconst 0, 1) := by decide +kernel
theorem dL_law_1137 : decode cL_law 1137 = .ok (.ireturn, 1) := by decide +kernel
theorem dL_law_1138 : decode cL_law 1138 = .ok (.aload_n 1, 1) := by decide +kernel
theorem dL_law_1139 : decode cL_law 1139 = .ok (.aload_n 0, 1) := by decide +kernel
theorem dL_law_1140 : decode cL_law 1140 = .ok (.iload_n 3, 1) := by decide +kernel
theorem dL_law_1141 : decode cL_law 1141 = .ok (.iconst 1, 1) := by decide +kernel
theorem dL_law_1142 : decode cL_law 1142 = .ok (.iadd, 1) := by decide +kernel
theorem dL_law_1143 : decode cL_law 1143 = .ok (.iaload, 1) := by decide +kernel
theorem dL_law_1144 : decode cL_law 1144 = .ok (.invokevirtual 139, 3) := by decide +kernel
theorem dL_law_1147 : decode cL_law 1147 = .ok (.aload_n 2, 1) := by decide +kernel
theorem dL_law_1148 : decode cL_law 1148 = .ok (.aload_n 0, 1) := by decide +kernel
theorem dL_law_1149 : decode cL_law 1149 = .ok (.iload_n 3, 1) := by decide +kernel
theorem dL_law_1150 : decode cL_law 1150 = .ok (.iconst 1, 1) := by decide +kernel
theorem dL_law_1151 : decode cL_law 1151 = .ok (.iadd, 1) := by decide +kernel
theorem dL_law_1152 : decode cL_law 1152 = .ok (.iaload, 1) := by decide +kernel
theorem dL_law_1153 : decode cL_law 1153 = .ok (.invokevirtual 142, 3) := by decide +kernel
theorem dL_law_1156 : decode cL_law 1156 = .ok (.if_icmp .eq 123, 3) := by decide +kernel
theorem dL_law_1159 : decode cL_law 1159 = .ok (.iconst 0, 1) := by decide +kernel
theorem dL_law_1160 : decode cL_law 1160 = .ok (.ireturn, 1) := by decide +kernel
theorem dL_law_1161 : decode cL_law 1161 = .ok (.aload_n 1, 1) := by decide +kernel
theorem dL_law_1162 : decode cL_law 1162 = .ok (.invokevirtual 143, 3) := by decide +kernel
theorem dL_law_1165 : decode cL_law 1165 = .ok (.aload_n 2, 1) := by decide +kernel
theorem dL_law_1166 : decode cL_law 1166 = .ok (.invokevirtual 146, 3) := by decide +kernel
theorem dL_law_1169 : decode cL_law 1169 = .ok (.if_icmp .eq 110, 3) := by decide +kernel
theorem dL_law_1172 : decode cL_law 1172 = .ok (.iconst 0, 1) := by decide +kernel
theorem dL_law_1173 : decode cL_law 1173 = .ok (.ireturn, 1) := by decide +kernel
theorem dL_law_1174 : decode cL_law 1174 = .ok (.aload_n 1, 1) := by decide +kernel
theorem dL_law_1175 : decode cL_law 1175 = .ok (.invokevirtual 147, 3) := by decide +kernel
theorem dL_law_1178 : decode cL_law 1178 = .ok (.aload_n 2, 1) := by decide +kernel
theorem dL_law_1179 : decode cL_law 1179 = .ok (.invokevirtual 150, 3) := by decide +kernel
theorem dL_law_1182 : decode cL_law 1182 = .ok (.if_icmp .eq 97, 3) := by decide +kernel
theorem dL_law_1185 : decode cL_law 1185 = .ok (.iconst 0, 1) := by decide +kernel
theorem dL_law_1186 : decode cL_law 1186 = .ok (.ireturn, 1) := by decide +kernel
theorem dL_law_1187 : decode cL_law 1187 = .ok (.aload_n 1, 1) := by decide +kernel
theorem dL_law_1188 : decode cL_law 1188 = .ok (.aload_n 0, 1) := by decide +kernel
theorem dL_law_1189 : decode cL_law 1189 = .ok (.iload_n 3, 1) := by decide +kernel
theorem dL_law_1190 : decode cL_law 1190 = .ok (.iconst 1, 1) := by decide +kernel
theorem dL_law_1191 : decode cL_law 1191 = .ok (.iadd, 1) := by decide +kernel
theorem dL_law_1192 : decode cL_law 1192 = .ok (.iaload, 1) := by decide +kernel
theorem dL_law_1193 : decode cL_law 1193 = .ok (.aload_n 0, 1) := by decide +kernel
theorem dL_law_1194 : decode cL_law 1194 = .ok (.iload_n 3, 1) := by decide +kernel
theorem dL_law_1195 : decode cL_law 1195 = .ok (.iconst 2, 1) := by decide +kernel
theorem dL_law_1196 : decode cL_law 1196 = .ok (.iadd, 1) := by decide +kernel
theorem dL_law_1197 : decode cL_law 1197 = .ok (.iaload, 1) := by decide +kernel
theorem dL_law_1198 : decode cL_law 1198 = .ok (.aload_n 0, 1) := by decide +kernel
theorem dL_law_1199 : decode cL_law 1199 = .ok (.iload_n 3, 1) := by decide +kernel
theorem dL_law_1200 : decode cL_law 1200 = .ok (.iconst 3, 1) := by decide +kernel
theorem dL_law_1201 : decode cL_law 1201 = .ok (.iadd, 1) := by decide +kernel
theorem dL_law_1202 : decode cL_law 1202 = .ok (.iaload, 1) := by decide +kernel
theorem dL_law_1203 : decode cL_law 1203 = .ok (.invokevirtual 151, 3) := by decide +kernel
theorem dL_law_1206 : decode cL_law 1206 = .ok (.aload_n 2, 1) := by decide +kernel
theorem dL_law_1207 : decode cL_law 1207 = .ok (.aload_n 0, 1) := by decide +kernel
theorem dL_law_1208 : decode cL_law 1208 = .ok (.iload_n 3, 1) := by decide +kernel
theorem dL_law_1209 : decode cL_law 1209 = .ok (.iconst 1, 1) := by decide +kernel
theorem dL_law_1210 : decode cL_law 1210 = .ok (.iadd, 1) := by decide +kernel
theorem dL_law_1211 : decode cL_law 1211 = .ok (.iaload, 1) := by decide +kernel
theorem dL_law_1212 : decode cL_law 1212 = .ok (.aload_n 0, 1) := by decide +kernel
theorem dL_law_1213 : decode cL_law 1213 = .ok (.iload_n 3, 1) := by decide +kernel
theorem dL_law_1214 : decode cL_law 1214 = .ok (.iconst 2, 1) := by decide +kernel
theorem dL_law_1215 : decode cL_law 1215 = .ok (.iadd, 1) := by decide +kernel
theorem dL_law_1216 : decode cL_law 1216 = .ok (.iaload, 1) := by decide +kernel
theorem dL_law_1217 : decode cL_law 1217 = .ok (.aload_n 0, 1) := by decide +kernel
theorem dL_law_1218 : decode cL_law 1218 = .ok (.iload_n 3, 1) := by decide +kernel
theorem dL_law_1219 : decode cL_law 1219 = .ok (.iconst 3, 1) := by decide +kernel
theorem dL_law_1220 : decode cL_law 1220 = .ok (.iadd, 1) := by decide +kernel
theorem dL_law_1221 : decode cL_law 1221 = .ok (.iaload, 1) := by decide +kernel
theorem dL_law_1222 : decode cL_law 1222 = .ok (.invokevirtual 154, 3) := by decide +kernel
theorem dL_law_1225 : decode cL_law 1225 = .ok (.if_icmp .eq 54, 3) := by decide +kernel
theorem dL_law_1228 : decode cL_law 1228 = .ok (.iconst 0, 1) := by decide +kernel
theorem dL_law_1229 : decode cL_law 1229 = .ok (.ireturn, 1) := by decide +kernel
theorem dL_law_1230 : decode cL_law 1230 = .ok (.aload_n 1, 1) := by decide +kernel
theorem dL_law_1231 : decode cL_law 1231 = .ok (.invokevirtual 155, 3) := by decide +kernel
theorem dL_law_1234 : decode cL_law 1234 = .ok (.aload_n 2, 1) := by decide +kernel
theorem dL_law_1235 : decode cL_law 1235 = .ok (.invokevirtual 158, 3) := by decide +kernel
theorem dL_law_1238 : decode cL_law 1238 = .ok (.if_icmp .eq 41, 3) := by decide +kernel
theorem dL_law_1241 : decode cL_law 1241 = .ok (.iconst 0, 1) := by decide +kernel
theorem dL_law_1242 : decode cL_law 1242 = .ok (.ireturn, 1) := by decide +kernel
theorem dL_law_1243 : decode cL_law 1243 = .ok (.aload_n 1, 1) := by decide +kernel
theorem dL_law_1244 : decode cL_law 1244 = .ok (.invokevirtual 159, 3) := by decide +kernel
theorem dL_law_1247 : decode cL_law 1247 = .ok (.aload_n 2, 1) := by decide +kernel
theorem dL_law_1248 : decode cL_law 1248 = .ok (.invokevirtual 162, 3) := by decide +kernel
theorem dL_law_1251 : decode cL_law 1251 = .ok (.if_icmp .eq 28, 3) := by decide +kernel
theorem dL_law_1254 : decode cL_law 1254 = .ok (.iconst 0, 1) := by decide +kernel
theorem dL_law_1255 : decode cL_law 1255 = .ok (.ireturn, 1) := by decide +kernel
theorem dL_law_1256 : decode cL_law 1256 = .ok (.aload_n 1, 1) := by decide +kernel
theorem dL_law_1257 : decode cL_law 1257 = .ok (.aload_n 0, 1) := by decide +kernel
theorem dL_law_1258 : decode cL_law 1258 = .ok (.iload_n 3, 1) := by decide +kernel
theorem dL_law_1259 : decode cL_law 1259 = .ok (.iconst 1, 1) := by decide +kernel
theorem dL_law_1260 : decode cL_law 1260 = .ok (.iadd, 1) := by decide +kernel
theorem dL_law_1261 : decode cL_law 1261 = .ok (.iaload, 1) := by decide +kernel
theorem dL_law_1262 : decode cL_law 1262 = .ok (.invokevirtual 163, 3) := by decide +kernel
theorem dL_law_1265 : decode cL_law 1265 = .ok (.aload_n 2, 1) := by decide +kernel
theorem dL_law_1266 : decode cL_law 1266 = .ok (.aload_n 0, 1) := by decide +kernel
theorem dL_law_1267 : decode cL_law 1267 = .ok (.iload_n 3, 1) := by decide +kernel
theorem dL_law_1268 : decode cL_law 1268 = .ok (.iconst 1, 1) := by decide +kernel
theorem dL_law_1269 : decode cL_law 1269 = .ok (.iadd, 1) := by decide +kernel
theorem dL_law_1270 : decode cL_law 1270 = .ok (.iaload, 1) := by decide +kernel
theorem dL_law_1271 : decode cL_law 1271 = .ok (.invokevirtual 166, 3) := by decide +kernel
theorem dL_law_1274 : decode cL_law 1274 = .ok (.if_icmp .eq 5, 3) := by decide +kernel
theorem dL_law_1277 : decode cL_law 1277 = .ok (.iconst 0, 1) := by decide +kernel
theorem dL_law_1278 : decode cL_law 1278 = .ok (.ireturn, 1) := by decide +kernel
theorem dL_law_1279 : decode cL_law 1279 = .ok (.iinc 3 6, 3) := by decide +kernel
theorem dL_law_1282 : decode cL_law 1282 = .ok (.goto (-1264), 3) := by decide +kernel
theorem dL_law_1285 : decode cL_law 1285 = .ok (.iconst 1, 1) := by decide +kernel
theorem dL_law_1286 : decode cL_law 1286 = .ok (.ireturn, 1) := by decide +kernel
