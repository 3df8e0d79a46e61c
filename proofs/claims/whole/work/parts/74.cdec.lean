/-! Rows that decode the constructors; words. -/
theorem dX0_init_0 : decode cX0_init 0 = .ok (.aload_n 0, 1) := by decide +kernel
theorem dX0_init_1 : decode cX0_init 1 = .ok (.invokespecial 3, 3) := by decide +kernel
theorem dX0_init_4 : decode cX0_init 4 = .ok (.aload_n 0, 1) := by decide +kernel
theorem dX0_init_5 : decode cX0_init 5 = .ok (.iconst 0, 1) := by decide +kernel
theorem dX0_init_6 : decode cX0_init 6 = .ok (.putfield 9, 3) := by decide +kernel
theorem dX0_init_9 : decode cX0_init 9 = .ok (.aload_n 0, 1) := by decide +kernel
theorem dX0_init_10 : decode cX0_init 10 = .ok (.bipush 6, 2) := by decide +kernel
theorem dX0_init_12 : decode cX0_init 12 = .ok (.newarray .int, 2) := by decide +kernel
theorem dX0_init_14 : decode cX0_init 14 = .ok (.putfield 15, 3) := by decide +kernel
theorem dX0_init_17 : decode cX0_init 17 = .ok (.aload_n 0, 1) := by decide +kernel
theorem dX0_init_18 : decode cX0_init 18 = .ok (.bipush 6, 2) := by decide +kernel
theorem dX0_init_20 : decode cX0_init 20 = .ok (.newarray .int, 2) := by decide +kernel
theorem dX0_init_22 : decode cX0_init 22 = .ok (.putfield 19, 3) := by decide +kernel
theorem dX0_init_25 : decode cX0_init 25 = .ok (.aload_n 0, 1) := by decide +kernel
theorem dX0_init_26 : decode cX0_init 26 = .ok (.bipush 6, 2) := by decide +kernel
theorem dX0_init_28 : decode cX0_init 28 = .ok (.newarray .int, 2) := by decide +kernel
theorem dX0_init_30 : decode cX0_init 30 = .ok (.putfield 22, 3) := by decide +kernel
theorem dX0_init_33 : decode cX0_init 33 = .ok (.aload_n 0, 1) := by decide +kernel
theorem dX0_init_34 : decode cX0_init 34 = .ok (.bipush 24, 2) := by decide +kernel
theorem dX0_init_36 : decode cX0_init 36 = .ok (.newarray .int, 2) := by decide +kernel
theorem dX0_init_38 : decode cX0_init 38 = .ok (.putfield 25, 3) := by decide +kernel
theorem dX0_init_41 : decode cX0_init 41 = .ok (.aload_n 0, 1) := by decide +kernel
theorem dX0_init_42 : decode cX0_init 42 = .ok (.sipush 144, 3) := by decide +kernel
theorem dX0_init_45 : decode cX0_init 45 = .ok (.newarray .int, 2) := by decide +kernel
theorem dX0_init_47 : decode cX0_init 47 = .ok (.putfield 28, 3) := by decide +kernel
theorem dX0_init_50 : decode cX0_init 50 = .ok (.aload_n 0, 1) := by decide +kernel
theorem dX0_init_51 : decode cX0_init 51 = .ok (.sipush 144, 3) := by decide +kernel
theorem dX0_init_54 : decode cX0_init 54 = .ok (.newarray .int, 2) := by decide +kernel
theorem dX0_init_56 : decode cX0_init 56 = .ok (.putfield 31, 3) := by decide +kernel
theorem dX0_init_59 : decode cX0_init 59 = .ok (.aload_n 0, 1) := by decide +kernel
theorem dX0_init_60 : decode cX0_init 60 = .ok (.new 34, 3) := by decide +kernel
theorem dX0_init_63 : decode cX0_init 63 = .ok (.dup, 1) := by decide +kernel
theorem dX0_init_64 : decode cX0_init 64 = .ok (.invokespecial 36, 3) := by decide +kernel
theorem dX0_init_67 : decode cX0_init 67 = .ok (.putfield 37, 3) := by decide +kernel
theorem dX0_init_70 : decode cX0_init 70 = .ok (.aload_n 0, 1) := by decide +kernel
theorem dX0_init_71 : decode cX0_init 71 = .ok (.sipush 200, 3) := by decide +kernel
theorem dX0_init_74 : decode cX0_init 74 = .ok (.newarray .int, 2) := by decide +kernel
theorem dX0_init_76 : decode cX0_init 76 = .ok (.putfield 41, 3) := by decide +kernel
theorem dX0_init_79 : decode cX0_init 79 = .ok (.aload_n 0, 1) := by decide +kernel
theorem dX0_init_80 : decode cX0_init 80 = .ok (.iconst 0, 1) := by decide +kernel
theorem dX0_init_81 : decode cX0_init 81 = .ok (.putfield 44, 3) := by decide +kernel
theorem dX0_init_84 : decode cX0_init 84 = .ok (.aload_n 0, 1) := by decide +kernel
theorem dX0_init_85 : decode cX0_init 85 = .ok (.iconst (-1), 1) := by decide +kernel
theorem dX0_init_86 : decode cX0_init 86 = .ok (.putfield 47, 3) := by decide +kernel
theorem dX0_init_89 : decode cX0_init 89 = .ok (.aload_n 0, 1) := by decide +kernel
theorem dX0_init_90 : decode cX0_init 90 = .ok (.bipush 6, 2) := by decide +kernel
theorem dX0_init_92 : decode cX0_init 92 = .ok (.newarray .int, 2) := by decide +kernel
theorem dX0_init_94 : decode cX0_init 94 = .ok (.putfield 50, 3) := by decide +kernel
theorem dX0_init_97 : decode cX0_init 97 = .ok (.aload_n 0, 1) := by decide +kernel
theorem dX0_init_98 : decode cX0_init 98 = .ok (.getfield 50, 3) := by decide +kernel
theorem dX0_init_101 : decode cX0_init 101 = .ok (.iconst (-1), 1) := by decide +kernel
theorem dX0_init_102 : decode cX0_init 102 = .ok (.invokestatic 53, 3) := by decide +kernel
theorem dX0_init_105 : decode cX0_init 105 = .ok (.return_, 1) := by decide +kernel
theorem dX1_init_0 : decode cX1_init 0 = .ok (.aload_n 0, 1) := by decide +kernel
theorem dX1_init_1 : decode cX1_init 1 = .ok (.invokespecial 3, 3) := by decide +kernel
theorem dX1_init_4 : decode cX1_init 4 = .ok (.aload_n 0, 1) := by decide +kernel
theorem dX1_init_5 : decode cX1_init 5 = .ok (.iconst 0, 1) := by decide +kernel
theorem dX1_init_6 : decode cX1_init 6 = .ok (.putfield 9, 3) := by decide +kernel
theorem dX1_init_9 : decode cX1_init 9 = .ok (.aload_n 0, 1) := by decide +kernel
theorem dX1_init_10 : decode cX1_init 10 = .ok (.iconst 0, 1) := by decide +kernel
theorem dX1_init_11 : decode cX1_init 11 = .ok (.putfield 15, 3) := by decide +kernel
theorem dX1_init_14 : decode cX1_init 14 = .ok (.aload_n 0, 1) := by decide +kernel
theorem dX1_init_15 : decode cX1_init 15 = .ok (.bipush 14, 2) := by decide +kernel
theorem dX1_init_17 : decode cX1_init 17 = .ok (.newarray .int, 2) := by decide +kernel
theorem dX1_init_19 : decode cX1_init 19 = .ok (.putfield 18, 3) := by decide +kernel
theorem dX1_init_22 : decode cX1_init 22 = .ok (.aload_n 0, 1) := by decide +kernel
theorem dX1_init_23 : decode cX1_init 23 = .ok (.bipush 14, 2) := by decide +kernel
theorem dX1_init_25 : decode cX1_init 25 = .ok (.newarray .int, 2) := by decide +kernel
theorem dX1_init_27 : decode cX1_init 27 = .ok (.putfield 22, 3) := by decide +kernel
theorem dX1_init_30 : decode cX1_init 30 = .ok (.aload_n 0, 1) := by decide +kernel
theorem dX1_init_31 : decode cX1_init 31 = .ok (.bipush 14, 2) := by decide +kernel
theorem dX1_init_33 : decode cX1_init 33 = .ok (.newarray .int, 2) := by decide +kernel
theorem dX1_init_35 : decode cX1_init 35 = .ok (.putfield 25, 3) := by decide +kernel
theorem dX1_init_38 : decode cX1_init 38 = .ok (.aload_n 0, 1) := by decide +kernel
theorem dX1_init_39 : decode cX1_init 39 = .ok (.bipush 14, 2) := by decide +kernel
theorem dX1_init_41 : decode cX1_init 41 = .ok (.newarray .int, 2) := by decide +kernel
theorem dX1_init_43 : decode cX1_init 43 = .ok (.putfield 28, 3) := by decide +kernel
theorem dX1_init_46 : decode cX1_init 46 = .ok (.aload_n 0, 1) := by decide +kernel
theorem dX1_init_47 : decode cX1_init 47 = .ok (.bipush 14, 2) := by decide +kernel
theorem dX1_init_49 : decode cX1_init 49 = .ok (.newarray .int, 2) := by decide +kernel
theorem dX1_init_51 : decode cX1_init 51 = .ok (.putfield 31, 3) := by decide +kernel
theorem dX1_init_54 : decode cX1_init 54 = .ok (.aload_n 0, 1) := by decide +kernel
theorem dX1_init_55 : decode cX1_init 55 = .ok (.bipush 36, 2) := by decide +kernel
theorem dX1_init_57 : decode cX1_init 57 = .ok (.newarray .int, 2) := by decide +kernel
theorem dX1_init_59 : decode cX1_init 59 = .ok (.putfield 34, 3) := by decide +kernel
theorem dX1_init_62 : decode cX1_init 62 = .ok (.aload_n 0, 1) := by decide +kernel
theorem dX1_init_63 : decode cX1_init 63 = .ok (.bipush 36, 2) := by decide +kernel
theorem dX1_init_65 : decode cX1_init 65 = .ok (.newarray .int, 2) := by decide +kernel
theorem dX1_init_67 : decode cX1_init 67 = .ok (.putfield 37, 3) := by decide +kernel
theorem dX1_init_70 : decode cX1_init 70 = .ok (.aload_n 0, 1) := by decide +kernel
theorem dX1_init_71 : decode cX1_init 71 = .ok (.bipush 64, 2) := by decide +kernel
theorem dX1_init_73 : decode cX1_init 73 = .ok (.newarray .int, 2) := by decide +kernel
theorem dX1_init_75 : decode cX1_init 75 = .ok (.putfield 40, 3) := by decide +kernel
theorem dX1_init_78 : decode cX1_init 78 = .ok (.aload_n 0, 1) := by decide +kernel
theorem dX1_init_79 : decode cX1_init 79 = .ok (.bipush 64, 2) := by decide +kernel
theorem dX1_init_81 : decode cX1_init 81 = .ok (.newarray .int, 2) := by decide +kernel
theorem dX1_init_83 : decode cX1_init 83 = .ok (.putfield 43, 3) := by decide +kernel
theorem dX1_init_86 : decode cX1_init 86 = .ok (.return_, 1) := by decide +kernel
theorem dX2_init_0 : decode cX2_init 0 = .ok (.aload_n 0, 1) := by decide +kernel
theorem dX2_init_1 : decode cX2_init 1 = .ok (.invokespecial 3, 3) := by decide +kernel
theorem dX2_init_4 : decode cX2_init 4 = .ok (.aload_n 0, 1) := by decide +kernel
theorem dX2_init_5 : decode cX2_init 5 = .ok (.bipush 20, 2) := by decide +kernel
theorem dX2_init_7 : decode cX2_init 7 = .ok (.newarray .int, 2) := by decide +kernel
theorem dX2_init_9 : decode cX2_init 9 = .ok (.putfield 9, 3) := by decide +kernel
theorem dX2_init_12 : decode cX2_init 12 = .ok (.aload_n 0, 1) := by decide +kernel
theorem dX2_init_13 : decode cX2_init 13 = .ok (.bipush 20, 2) := by decide +kernel
theorem dX2_init_15 : decode cX2_init 15 = .ok (.newarray .int, 2) := by decide +kernel
theorem dX2_init_17 : decode cX2_init 17 = .ok (.putfield 15, 3) := by decide +kernel
theorem dX2_init_20 : decode cX2_init 20 = .ok (.aload_n 0, 1) := by decide +kernel
theorem dX2_init_21 : decode cX2_init 21 = .ok (.bipush 20, 2) := by decide +kernel
theorem dX2_init_23 : decode cX2_init 23 = .ok (.newarray .int, 2) := by decide +kernel
theorem dX2_init_25 : decode cX2_init 25 = .ok (.putfield 18, 3) := by decide +kernel
theorem dX2_init_28 : decode cX2_init 28 = .ok (.aload_n 0, 1) := by decide +kernel
theorem dX2_init_29 : decode cX2_init 29 = .ok (.bipush 20, 2) := by decide +kernel
theorem dX2_init_31 : decode cX2_init 31 = .ok (.newarray .int, 2) := by decide +kernel
theorem dX2_init_33 : decode cX2_init 33 = .ok (.putfield 21, 3) := by decide +kernel
theorem dX2_init_36 : decode cX2_init 36 = .ok (.return_, 1) := by decide +kernel
theorem dX3_init_0 : decode cX3_init 0 = .ok (.aload_n 0, 1) := by decide +kernel
theorem dX3_init_1 : decode cX3_init 1 = .ok (.invokespecial 3, 3) := by decide +kernel
theorem dX3_init_4 : decode cX3_init 4 = .ok (.aload_n 0, 1) := by decide +kernel
theorem dX3_init_5 : decode cX3_init 5 = .ok (.iconst 5, 1) := by decide +kernel
theorem dX3_init_6 : decode cX3_init 6 = .ok (.newarray .int, 2) := by decide +kernel
theorem dX3_init_8 : decode cX3_init 8 = .ok (.putfield 11, 3) := by decide +kernel
theorem dX3_init_11 : decode cX3_init 11 = .ok (.aload_n 0, 1) := by decide +kernel
theorem dX3_init_12 : decode cX3_init 12 = .ok (.aconst_null, 1) := by decide +kernel
theorem dX3_init_13 : decode cX3_init 13 = .ok (.putfield 15, 3) := by decide +kernel
theorem dX3_init_16 : decode cX3_init 16 = .ok (.aload_n 0, 1) := by decide +kernel
theorem dX3_init_17 : decode cX3_init 17 = .ok (.iconst 0, 1) := by decide +kernel
theorem dX3_init_18 : decode cX3_init 18 = .ok (.putfield 19, 3) := by decide +kernel
theorem dX3_init_21 : decode cX3_init 21 = .ok (.aload_n 0, 1) := by decide +kernel
theorem dX3_init_22 : decode cX3_init 22 = .ok (.iconst 0, 1) := by decide +kernel
theorem dX3_init_23 : decode cX3_init 23 = .ok (.putfield 23, 3) := by decide +kernel
theorem dX3_init_26 : decode cX3_init 26 = .ok (.aload_n 0, 1) := by decide +kernel
theorem dX3_init_27 : decode cX3_init 27 = .ok (.iconst 0, 1) := by decide +kernel
theorem dX3_init_28 : decode cX3_init 28 = .ok (.putfield 26, 3) := by decide +kernel
theorem dX3_init_31 : decode cX3_init 31 = .ok (.return_, 1) := by decide +kernel
theorem dX4_init_0 : decode cX4_init 0 = .ok (.aload_n 0, 1) := by decide +kernel
theorem dX4_init_1 : decode cX4_init 1 = .ok (.invokespecial 3, 3) := by decide +kernel
theorem dX4_init_4 : decode cX4_init 4 = .ok (.aload_n 0, 1) := by decide +kernel
theorem dX4_init_5 : decode cX4_init 5 = .ok (.bipush 6, 2) := by decide +kernel
theorem dX4_init_7 : decode cX4_init 7 = .ok (.newarray .int, 2) := by decide +kernel
theorem dX4_init_9 : decode cX4_init 9 = .ok (.putfield 9, 3) := by decide +kernel
theorem dX4_init_12 : decode cX4_init 12 = .ok (.aload_n 0, 1) := by decide +kernel
theorem dX4_init_13 : decode cX4_init 13 = .ok (.bipush 20, 2) := by decide +kernel
theorem dX4_init_15 : decode cX4_init 15 = .ok (.newarray .int, 2) := by decide +kernel
theorem dX4_init_17 : decode cX4_init 17 = .ok (.putfield 15, 3) := by decide +kernel
theorem dX4_init_20 : decode cX4_init 20 = .ok (.aload_n 0, 1) := by decide +kernel
theorem dX4_init_21 : decode cX4_init 21 = .ok (.bipush 20, 2) := by decide +kernel
theorem dX4_init_23 : decode cX4_init 23 = .ok (.newarray .int, 2) := by decide +kernel
theorem dX4_init_25 : decode cX4_init 25 = .ok (.putfield 18, 3) := by decide +kernel
theorem dX4_init_28 : decode cX4_init 28 = .ok (.aload_n 0, 1) := by decide +kernel
theorem dX4_init_29 : decode cX4_init 29 = .ok (.bipush 6, 2) := by decide +kernel
theorem dX4_init_31 : decode cX4_init 31 = .ok (.newarray .int, 2) := by decide +kernel
theorem dX4_init_33 : decode cX4_init 33 = .ok (.putfield 21, 3) := by decide +kernel
theorem dX4_init_36 : decode cX4_init 36 = .ok (.aload_n 0, 1) := by decide +kernel
theorem dX4_init_37 : decode cX4_init 37 = .ok (.sipush 1080, 3) := by decide +kernel
theorem dX4_init_40 : decode cX4_init 40 = .ok (.newarray .int, 2) := by decide +kernel
theorem dX4_init_42 : decode cX4_init 42 = .ok (.putfield 24, 3) := by decide +kernel
theorem dX4_init_45 : decode cX4_init 45 = .ok (.aload_n 0, 1) := by decide +kernel
theorem dX4_init_46 : decode cX4_init 46 = .ok (.sipush 1080, 3) := by decide +kernel
theorem dX4_init_49 : decode cX4_init 49 = .ok (.newarray .int, 2) := by decide +kernel
theorem dX4_init_51 : decode cX4_init 51 = .ok (.putfield 27, 3) := by decide +kernel
theorem dX4_init_54 : decode cX4_init 54 = .ok (.aload_n 0, 1) := by decide +kernel
theorem dX4_init_55 : decode cX4_init 55 = .ok (.iconst 0, 1) := by decide +kernel
theorem dX4_init_56 : decode cX4_init 56 = .ok (.putfield 30, 3) := by decide +kernel
theorem dX4_init_59 : decode cX4_init 59 = .ok (.aload_n 0, 1) := by decide +kernel
theorem dX4_init_60 : decode cX4_init 60 = .ok (.sipush 144, 3) := by decide +kernel
theorem dX4_init_63 : decode cX4_init 63 = .ok (.newarray .boolean, 2) := by decide +kernel
theorem dX4_init_65 : decode cX4_init 65 = .ok (.putfield 34, 3) := by decide +kernel
theorem dX4_init_68 : decode cX4_init 68 = .ok (.aload_n 0, 1) := by decide +kernel
theorem dX4_init_69 : decode cX4_init 69 = .ok (.aconst_null, 1) := by decide +kernel
theorem dX4_init_70 : decode cX4_init 70 = .ok (.putfield 38, 3) := by decide +kernel
theorem dX4_init_73 : decode cX4_init 73 = .ok (.aload_n 0, 1) := by decide +kernel
theorem dX4_init_74 : decode cX4_init 74 = .ok (.iconst 0, 1) := by decide +kernel
theorem dX4_init_75 : decode cX4_init 75 = .ok (.putfield 42, 3) := by decide +kernel
theorem dX4_init_78 : decode cX4_init 78 = .ok (.aload_n 0, 1) := by decide +kernel
theorem dX4_init_79 : decode cX4_init 79 = .ok (.iconst 0, 1) := by decide +kernel
theorem dX4_init_80 : decode cX4_init 80 = .ok (.putfield 45, 3) := by decide +kernel
theorem dX4_init_83 : decode cX4_init 83 = .ok (.aload_n 0, 1) := by decide +kernel
theorem dX4_init_84 : decode cX4_init 84 = .ok (.iconst 0, 1) := by decide +kernel
theorem dX4_init_85 : decode cX4_init 85 = .ok (.putfield 48, 3) := by decide +kernel
theorem dX4_init_88 : decode cX4_init 88 = .ok (.aload_n 0, 1) := by decide +kernel
theorem dX4_init_89 : decode cX4_init 89 = .ok (.iconst 0, 1) := by decide +kernel
theorem dX4_init_90 : decode cX4_init 90 = .ok (.putfield 51, 3) := by decide +kernel
theorem dX4_init_93 : decode cX4_init 93 = .ok (.return_, 1) := by decide +kernel
theorem dX5_init_0 : decode cX5_init 0 = .ok (.aload_n 0, 1) := by decide +kernel
theorem dX5_init_1 : decode cX5_init 1 = .ok (.invokespecial 3, 3) := by decide +kernel
theorem dX5_init_4 : decode cX5_init 4 = .ok (.aload_n 0, 1) := by decide +kernel
theorem dX5_init_5 : decode cX5_init 5 = .ok (.new 9, 3) := by decide +kernel
theorem dX5_init_8 : decode cX5_init 8 = .ok (.dup, 1) := by decide +kernel
theorem dX5_init_9 : decode cX5_init 9 = .ok (.invokespecial 11, 3) := by decide +kernel
theorem dX5_init_12 : decode cX5_init 12 = .ok (.putfield 12, 3) := by decide +kernel
theorem dX5_init_15 : decode cX5_init 15 = .ok (.aload_n 0, 1) := by decide +kernel
theorem dX5_init_16 : decode cX5_init 16 = .ok (.iconst 2, 1) := by decide +kernel
theorem dX5_init_17 : decode cX5_init 17 = .ok (.anewarray 9, 3) := by decide +kernel
theorem dX5_init_20 : decode cX5_init 20 = .ok (.putfield 16, 3) := by decide +kernel
theorem dX5_init_23 : decode cX5_init 23 = .ok (.aload_n 0, 1) := by decide +kernel
theorem dX5_init_24 : decode cX5_init 24 = .ok (.iconst 3, 1) := by decide +kernel
theorem dX5_init_25 : decode cX5_init 25 = .ok (.newarray .int, 2) := by decide +kernel
theorem dX5_init_27 : decode cX5_init 27 = .ok (.putfield 20, 3) := by decide +kernel
theorem dX5_init_30 : decode cX5_init 30 = .ok (.aload_n 0, 1) := by decide +kernel
theorem dX5_init_31 : decode cX5_init 31 = .ok (.new 24, 3) := by decide +kernel
theorem dX5_init_34 : decode cX5_init 34 = .ok (.dup, 1) := by decide +kernel
theorem dX5_init_35 : decode cX5_init 35 = .ok (.invokespecial 26, 3) := by decide +kernel
theorem dX5_init_38 : decode cX5_init 38 = .ok (.putfield 27, 3) := by decide +kernel
theorem dX5_init_41 : decode cX5_init 41 = .ok (.aload_n 0, 1) := by decide +kernel
theorem dX5_init_42 : decode cX5_init 42 = .ok (.new 31, 3) := by decide +kernel
theorem dX5_init_45 : decode cX5_init 45 = .ok (.dup, 1) := by decide +kernel
theorem dX5_init_46 : decode cX5_init 46 = .ok (.invokespecial 33, 3) := by decide +kernel
theorem dX5_init_49 : decode cX5_init 49 = .ok (.putfield 34, 3) := by decide +kernel
theorem dX5_init_52 : decode cX5_init 52 = .ok (.aload_n 0, 1) := by decide +kernel
theorem dX5_init_53 : decode cX5_init 53 = .ok (.bipush 6, 2) := by decide +kernel
theorem dX5_init_55 : decode cX5_init 55 = .ok (.newarray .int, 2) := by decide +kernel
theorem dX5_init_57 : decode cX5_init 57 = .ok (.putfield 38, 3) := by decide +kernel
theorem dX5_init_60 : decode cX5_init 60 = .ok (.aload_n 0, 1) := by decide +kernel
theorem dX5_init_61 : decode cX5_init 61 = .ok (.sipush 892, 3) := by decide +kernel
theorem dX5_init_64 : decode cX5_init 64 = .ok (.newarray .boolean, 2) := by decide +kernel
theorem dX5_init_66 : decode cX5_init 66 = .ok (.putfield 41, 3) := by decide +kernel
theorem dX5_init_69 : decode cX5_init 69 = .ok (.aload_n 0, 1) := by decide +kernel
theorem dX5_init_70 : decode cX5_init 70 = .ok (.iconst 4, 1) := by decide +kernel
theorem dX5_init_71 : decode cX5_init 71 = .ok (.newarray .int, 2) := by decide +kernel
theorem dX5_init_73 : decode cX5_init 73 = .ok (.putfield 45, 3) := by decide +kernel
theorem dX5_init_76 : decode cX5_init 76 = .ok (.aload_n 0, 1) := by decide +kernel
theorem dX5_init_77 : decode cX5_init 77 = .ok (.iconst (-1), 1) := by decide +kernel
theorem dX5_init_78 : decode cX5_init 78 = .ok (.putfield 48, 3) := by decide +kernel
theorem dX5_init_81 : decode cX5_init 81 = .ok (.aload_n 0, 1) := by decide +kernel
theorem dX5_init_82 : decode cX5_init 82 = .ok (.sipush 144, 3) := by decide +kernel
theorem dX5_init_85 : decode cX5_init 85 = .ok (.newarray .long, 2) := by decide +kernel
theorem dX5_init_87 : decode cX5_init 87 = .ok (.putfield 52, 3) := by decide +kernel
theorem dX5_init_90 : decode cX5_init 90 = .ok (.aload_n 0, 1) := by decide +kernel
theorem dX5_init_91 : decode cX5_init 91 = .ok (.sipush 144, 3) := by decide +kernel
theorem dX5_init_94 : decode cX5_init 94 = .ok (.newarray .long, 2) := by decide +kernel
theorem dX5_init_96 : decode cX5_init 96 = .ok (.putfield 56, 3) := by decide +kernel
theorem dX5_init_99 : decode cX5_init 99 = .ok (.aload_n 0, 1) := by decide +kernel
theorem dX5_init_100 : decode cX5_init 100 = .ok (.new 59, 3) := by decide +kernel
theorem dX5_init_103 : decode cX5_init 103 = .ok (.dup, 1) := by decide +kernel
theorem dX5_init_104 : decode cX5_init 104 = .ok (.invokespecial 61, 3) := by decide +kernel
theorem dX5_init_107 : decode cX5_init 107 = .ok (.putfield 62, 3) := by decide +kernel
theorem dX5_init_110 : decode cX5_init 110 = .ok (.aload_n 0, 1) := by decide +kernel
theorem dX5_init_111 : decode cX5_init 111 = .ok (.new 66, 3) := by decide +kernel
theorem dX5_init_114 : decode cX5_init 114 = .ok (.dup, 1) := by decide +kernel
theorem dX5_init_115 : decode cX5_init 115 = .ok (.invokespecial 68, 3) := by decide +kernel
theorem dX5_init_118 : decode cX5_init 118 = .ok (.putfield 69, 3) := by decide +kernel
theorem dX5_init_121 : decode cX5_init 121 = .ok (.aload_n 0, 1) := by decide +kernel
theorem dX5_init_122 : decode cX5_init 122 = .ok (.lconst 0, 1) := by decide +kernel
theorem dX5_init_123 : decode cX5_init 123 = .ok (.putfield 73, 3) := by decide +kernel
theorem dX5_init_126 : decode cX5_init 126 = .ok (.aload_n 0, 1) := by decide +kernel
theorem dX5_init_127 : decode cX5_init 127 = .ok (.lconst 1, 1) := by decide +kernel
theorem dX5_init_128 : decode cX5_init 128 = .ok (.putfield 77, 3) := by decide +kernel
theorem dX5_init_131 : decode cX5_init 131 = .ok (.return_, 1) := by decide +kernel
theorem dX6_init_0 : decode cX6_init 0 = .ok (.aload_n 0, 1) := by decide +kernel
theorem dX6_init_1 : decode cX6_init 1 = .ok (.invokespecial 1, 3) := by decide +kernel
theorem dX6_init_4 : decode cX6_init 4 = .ok (.aload_n 0, 1) := by decide +kernel
theorem dX6_init_5 : decode cX6_init 5 = .ok (.sipush 600, 3) := by decide +kernel
theorem dX6_init_8 : decode cX6_init 8 = .ok (.newarray .int, 2) := by decide +kernel
theorem dX6_init_10 : decode cX6_init 10 = .ok (.putfield 7, 3) := by decide +kernel
theorem dX6_init_13 : decode cX6_init 13 = .ok (.aload_n 0, 1) := by decide +kernel
theorem dX6_init_14 : decode cX6_init 14 = .ok (.sipush 1200, 3) := by decide +kernel
theorem dX6_init_17 : decode cX6_init 17 = .ok (.newarray .int, 2) := by decide +kernel
theorem dX6_init_19 : decode cX6_init 19 = .ok (.putfield 13, 3) := by decide +kernel
theorem dX6_init_22 : decode cX6_init 22 = .ok (.aload_n 0, 1) := by decide +kernel
theorem dX6_init_23 : decode cX6_init 23 = .ok (.iconst 2, 1) := by decide +kernel
theorem dX6_init_24 : decode cX6_init 24 = .ok (.newarray .boolean, 2) := by decide +kernel
theorem dX6_init_26 : decode cX6_init 26 = .ok (.putfield 16, 3) := by decide +kernel
theorem dX6_init_29 : decode cX6_init 29 = .ok (.aload_n 0, 1) := by decide +kernel
theorem dX6_init_30 : decode cX6_init 30 = .ok (.iconst 3, 1) := by decide +kernel
theorem dX6_init_31 : decode cX6_init 31 = .ok (.newarray .int, 2) := by decide +kernel
theorem dX6_init_33 : decode cX6_init 33 = .ok (.putfield 20, 3) := by decide +kernel
theorem dX6_init_36 : decode cX6_init 36 = .ok (.aload_n 0, 1) := by decide +kernel
theorem dX6_init_37 : decode cX6_init 37 = .ok (.bipush 6, 2) := by decide +kernel
theorem dX6_init_39 : decode cX6_init 39 = .ok (.newarray .int, 2) := by decide +kernel
theorem dX6_init_41 : decode cX6_init 41 = .ok (.putfield 23, 3) := by decide +kernel
theorem dX6_init_44 : decode cX6_init 44 = .ok (.aload_n 0, 1) := by decide +kernel
theorem dX6_init_45 : decode cX6_init 45 = .ok (.bipush 6, 2) := by decide +kernel
theorem dX6_init_47 : decode cX6_init 47 = .ok (.newarray .int, 2) := by decide +kernel
theorem dX6_init_49 : decode cX6_init 49 = .ok (.putfield 26, 3) := by decide +kernel
theorem dX6_init_52 : decode cX6_init 52 = .ok (.aload_n 0, 1) := by decide +kernel
theorem dX6_init_53 : decode cX6_init 53 = .ok (.bipush 126, 2) := by decide +kernel
theorem dX6_init_55 : decode cX6_init 55 = .ok (.newarray .int, 2) := by decide +kernel
theorem dX6_init_57 : decode cX6_init 57 = .ok (.putfield 29, 3) := by decide +kernel
theorem dX6_init_60 : decode cX6_init 60 = .ok (.aload_n 0, 1) := by decide +kernel
theorem dX6_init_61 : decode cX6_init 61 = .ok (.sipush 4320, 3) := by decide +kernel
theorem dX6_init_64 : decode cX6_init 64 = .ok (.newarray .int, 2) := by decide +kernel
theorem dX6_init_66 : decode cX6_init 66 = .ok (.putfield 32, 3) := by decide +kernel
theorem dX6_init_69 : decode cX6_init 69 = .ok (.aload_n 0, 1) := by decide +kernel
theorem dX6_init_70 : decode cX6_init 70 = .ok (.bipush 20, 2) := by decide +kernel
theorem dX6_init_72 : decode cX6_init 72 = .ok (.newarray .int, 2) := by decide +kernel
theorem dX6_init_74 : decode cX6_init 74 = .ok (.putfield 35, 3) := by decide +kernel
theorem dX6_init_77 : decode cX6_init 77 = .ok (.aload_n 0, 1) := by decide +kernel
theorem dX6_init_78 : decode cX6_init 78 = .ok (.sipush 144, 3) := by decide +kernel
theorem dX6_init_81 : decode cX6_init 81 = .ok (.newarray .long, 2) := by decide +kernel
theorem dX6_init_83 : decode cX6_init 83 = .ok (.putfield 38, 3) := by decide +kernel
theorem dX6_init_86 : decode cX6_init 86 = .ok (.aload_n 0, 1) := by decide +kernel
theorem dX6_init_87 : decode cX6_init 87 = .ok (.sipush 144, 3) := by decide +kernel
theorem dX6_init_90 : decode cX6_init 90 = .ok (.newarray .long, 2) := by decide +kernel
theorem dX6_init_92 : decode cX6_init 92 = .ok (.putfield 42, 3) := by decide +kernel
theorem dX6_init_95 : decode cX6_init 95 = .ok (.aload_n 0, 1) := by decide +kernel
theorem dX6_init_96 : decode cX6_init 96 = .ok (.iconst 4, 1) := by decide +kernel
theorem dX6_init_97 : decode cX6_init 97 = .ok (.newarray .int, 2) := by decide +kernel
theorem dX6_init_99 : decode cX6_init 99 = .ok (.putfield 45, 3) := by decide +kernel
theorem dX6_init_102 : decode cX6_init 102 = .ok (.aload_n 0, 1) := by decide +kernel
theorem dX6_init_103 : decode cX6_init 103 = .ok (.bipush 60, 2) := by decide +kernel
theorem dX6_init_105 : decode cX6_init 105 = .ok (.newarray .int, 2) := by decide +kernel
theorem dX6_init_107 : decode cX6_init 107 = .ok (.putfield 48, 3) := by decide +kernel
theorem dX6_init_110 : decode cX6_init 110 = .ok (.aload_n 0, 1) := by decide +kernel
theorem dX6_init_111 : decode cX6_init 111 = .ok (.sipush 200, 3) := by decide +kernel
theorem dX6_init_114 : decode cX6_init 114 = .ok (.newarray .int, 2) := by decide +kernel
theorem dX6_init_116 : decode cX6_init 116 = .ok (.putfield 51, 3) := by decide +kernel
theorem dX6_init_119 : decode cX6_init 119 = .ok (.aload_n 0, 1) := by decide +kernel
theorem dX6_init_120 : decode cX6_init 120 = .ok (.bipush 36, 2) := by decide +kernel
theorem dX6_init_122 : decode cX6_init 122 = .ok (.newarray .int, 2) := by decide +kernel
theorem dX6_init_124 : decode cX6_init 124 = .ok (.putfield 54, 3) := by decide +kernel
theorem dX6_init_127 : decode cX6_init 127 = .ok (.aload_n 0, 1) := by decide +kernel
theorem dX6_init_128 : decode cX6_init 128 = .ok (.bipush 40, 2) := by decide +kernel
theorem dX6_init_130 : decode cX6_init 130 = .ok (.newarray .boolean, 2) := by decide +kernel
theorem dX6_init_132 : decode cX6_init 132 = .ok (.putfield 57, 3) := by decide +kernel
theorem dX6_init_135 : decode cX6_init 135 = .ok (.aload_n 0, 1) := by decide +kernel
theorem dX6_init_136 : decode cX6_init 136 = .ok (.bipush 64, 2) := by decide +kernel
theorem dX6_init_138 : decode cX6_init 138 = .ok (.newarray .int, 2) := by decide +kernel
theorem dX6_init_140 : decode cX6_init 140 = .ok (.putfield 60, 3) := by decide +kernel
theorem dX6_init_143 : decode cX6_init 143 = .ok (.aload_n 0, 1) := by decide +kernel
theorem dX6_init_144 : decode cX6_init 144 = .ok (.bipush 6, 2) := by decide +kernel
theorem dX6_init_146 : decode cX6_init 146 = .ok (.newarray .int, 2) := by decide +kernel
theorem dX6_init_148 : decode cX6_init 148 = .ok (.putfield 63, 3) := by decide +kernel
theorem dX6_init_151 : decode cX6_init 151 = .ok (.aload_n 0, 1) := by decide +kernel
theorem dX6_init_152 : decode cX6_init 152 = .ok (.getfield 7, 3) := by decide +kernel
theorem dX6_init_155 : decode cX6_init 155 = .ok (.iconst 2, 1) := by decide +kernel
theorem dX6_init_156 : decode cX6_init 156 = .ok (.iconst (-1), 1) := by decide +kernel
theorem dX6_init_157 : decode cX6_init 157 = .ok (.iastore, 1) := by decide +kernel
theorem dX6_init_158 : decode cX6_init 158 = .ok (.iconst 0, 1) := by decide +kernel
theorem dX6_init_159 : decode cX6_init 159 = .ok (.istore_n 1, 1) := by decide +kernel
theorem dX6_init_160 : decode cX6_init 160 = .ok (.iload_n 1, 1) := by decide +kernel
theorem dX6_init_161 : decode cX6_init 161 = .ok (.bipush 6, 2) := by decide +kernel
theorem dX6_init_163 : decode cX6_init 163 = .ok (.if_icmp .ge 19, 3) := by decide +kernel
theorem dX6_init_166 : decode cX6_init 166 = .ok (.aload_n 0, 1) := by decide +kernel
theorem dX6_init_167 : decode cX6_init 167 = .ok (.getfield 7, 3) := by decide +kernel
theorem dX6_init_170 : decode cX6_init 170 = .ok (.bipush 24, 2) := by decide +kernel
theorem dX6_init_172 : decode cX6_init 172 = .ok (.iload_n 1, 1) := by decide +kernel
theorem dX6_init_173 : decode cX6_init 173 = .ok (.iadd, 1) := by decide +kernel
theorem dX6_init_174 : decode cX6_init 174 = .ok (.iconst (-1), 1) := by decide +kernel
theorem dX6_init_175 : decode cX6_init 175 = .ok (.iastore, 1) := by decide +kernel
theorem dX6_init_176 : decode cX6_init 176 = .ok (.iinc 1 1, 3) := by decide +kernel
theorem dX6_init_179 : decode cX6_init 179 = .ok (.goto (-19), 3) := by decide +kernel
theorem dX6_init_182 : decode cX6_init 182 = .ok (.aload_n 0, 1) := by decide +kernel
theorem dX6_init_183 : decode cX6_init 183 = .ok (.lconst 1, 1) := by decide +kernel
theorem dX6_init_184 : decode cX6_init 184 = .ok (.putfield 66, 3) := by decide +kernel
theorem dX6_init_187 : decode cX6_init 187 = .ok (.return_, 1) := by decide +kernel
theorem dJ7_fill_53178_0 : decode cJ7_fill_53178 0 = .ok (.iconst 0, 1) := by decide +kernel
theorem dJ7_fill_53178_1 : decode cJ7_fill_53178 1 = .ok (.istore_n 2, 1) := by decide +kernel
theorem dJ7_fill_53178_2 : decode cJ7_fill_53178 2 = .ok (.aload_n 0, 1) := by decide +kernel
theorem dJ7_fill_53178_3 : decode cJ7_fill_53178 3 = .ok (.arraylength, 1) := by decide +kernel
theorem dJ7_fill_53178_4 : decode cJ7_fill_53178 4 = .ok (.istore_n 3, 1) := by decide +kernel
theorem dJ7_fill_53178_5 : decode cJ7_fill_53178 5 = .ok (.iload_n 2, 1) := by decide +kernel
theorem dJ7_fill_53178_6 : decode cJ7_fill_53178 6 = .ok (.iload_n 3, 1) := by decide +kernel
theorem dJ7_fill_53178_7 : decode cJ7_fill_53178 7 = .ok (.if_icmp .ge 13, 3) := by decide +kernel
theorem dJ7_fill_53178_10 : decode cJ7_fill_53178 10 = .ok (.aload_n 0, 1) := by decide +kernel
theorem dJ7_fill_53178_11 : decode cJ7_fill_53178 11 = .ok (.iload_n 2, 1) := by decide +kernel
theorem dJ7_fill_53178_12 : decode cJ7_fill_53178 12 = .ok (.iload_n 1, 1) := by decide +kernel
theorem dJ7_fill_53178_13 : decode cJ7_fill_53178 13 = .ok (.iastore, 1) := by decide +kernel
theorem dJ7_fill_53178_14 : decode cJ7_fill_53178 14 = .ok (.iinc 2 1, 3) := by decide +kernel
theorem dJ7_fill_53178_17 : decode cJ7_fill_53178 17 = .ok (.goto (-12), 3) := by decide +kernel
theorem dJ7_fill_53178_20 : decode cJ7_fill_53178 20 = .ok (.return_, 1) := by decide +kernel
theorem zo_i : Cond.instanceMethod objectInit ∈ lw_tbl := List.mem_of_getElem? (i := 79) (by decide +kernel)
theorem zo_c : Cond.code objectInit ⟨#[0xb1]⟩ 1 none ∈ lw_tbl := List.mem_of_getElem? (i := 80) (by decide +kernel)
theorem za_int : Cond.arrayClass .int ∈ lw_tbl := List.mem_of_getElem? (i := 116) (by decide +kernel)
theorem za_long : Cond.arrayClass .long ∈ lw_tbl := List.mem_of_getElem? (i := 248) (by decide +kernel)
theorem za_boolean : Cond.arrayClass .boolean ∈ lw_tbl := List.mem_of_getElem? (i := 223) (by decide +kernel)
theorem zi_0 : Cond.instantiable (cN 0) (nS 0) ∈ lw_tbl := List.mem_of_getElem? (i := 82) (by decide +kernel)
theorem zt_0 : Cond.initialized (cN 0) ∈ lw_tbl := List.mem_of_getElem? (i := 59) (by decide +kernel)
theorem zm_0 : Cond.instanceMethod yX0_init ∈ lw_tbl := List.mem_of_getElem? (i := 84) (by decide +kernel)
theorem zc_0 : Cond.code yX0_init cX0_init 1 none ∈ lw_tbl := List.mem_of_getElem? (i := 85) (by decide +kernel)
theorem zi_1 : Cond.instantiable (cN 1) (nS 1) ∈ lw_tbl := List.mem_of_getElem? (i := 250) (by decide +kernel)
theorem zt_1 : Cond.initialized (cN 1) ∈ lw_tbl := List.mem_of_getElem? (i := 64) (by decide +kernel)
theorem zm_1 : Cond.instanceMethod yX1_init ∈ lw_tbl := List.mem_of_getElem? (i := 252) (by decide +kernel)
theorem zc_1 : Cond.code yX1_init cX1_init 1 none ∈ lw_tbl := List.mem_of_getElem? (i := 253) (by decide +kernel)
theorem zi_2 : Cond.instantiable (cN 2) (nS 2) ∈ lw_tbl := List.mem_of_getElem? (i := 88) (by decide +kernel)
theorem zt_2 : Cond.initialized (cN 2) ∈ lw_tbl := List.mem_of_getElem? (i := 60) (by decide +kernel)
theorem zm_2 : Cond.instanceMethod yX2_init ∈ lw_tbl := List.mem_of_getElem? (i := 90) (by decide +kernel)
theorem zc_2 : Cond.code yX2_init cX2_init 1 none ∈ lw_tbl := List.mem_of_getElem? (i := 91) (by decide +kernel)
theorem zi_3 : Cond.instantiable (cN 3) (nS 3) ∈ lw_tbl := List.mem_of_getElem? (i := 227) (by decide +kernel)
theorem zt_3 : Cond.initialized (cN 3) ∈ lw_tbl := List.mem_of_getElem? (i := 63) (by decide +kernel)
theorem zm_3 : Cond.instanceMethod yX3_init ∈ lw_tbl := List.mem_of_getElem? (i := 229) (by decide +kernel)
theorem zc_3 : Cond.code yX3_init cX3_init 1 none ∈ lw_tbl := List.mem_of_getElem? (i := 230) (by decide +kernel)
theorem zi_4 : Cond.instantiable (cN 4) (nS 4) ∈ lw_tbl := List.mem_of_getElem? (i := 175) (by decide +kernel)
theorem zt_4 : Cond.initialized (cN 4) ∈ lw_tbl := List.mem_of_getElem? (i := 62) (by decide +kernel)
theorem zm_4 : Cond.instanceMethod yX4_init ∈ lw_tbl := List.mem_of_getElem? (i := 177) (by decide +kernel)
theorem zc_4 : Cond.code yX4_init cX4_init 1 none ∈ lw_tbl := List.mem_of_getElem? (i := 178) (by decide +kernel)
theorem zi_5 : Cond.instantiable (cN 5) (nS 5) ∈ lw_tbl := List.mem_of_getElem? (i := 74) (by decide +kernel)
theorem zt_5 : Cond.initialized (cN 5) ∈ lw_tbl := List.mem_of_getElem? (i := 58) (by decide +kernel)
theorem zm_5 : Cond.instanceMethod yX5_init ∈ lw_tbl := List.mem_of_getElem? (i := 76) (by decide +kernel)
theorem zc_5 : Cond.code yX5_init cX5_init 1 none ∈ lw_tbl := List.mem_of_getElem? (i := 77) (by decide +kernel)
theorem zi_6 : Cond.instantiable (cN 6) (nS 6) ∈ lw_tbl := List.mem_of_getElem? (i := 839) (by decide +kernel)
theorem zt_6 : Cond.initialized (cN 6) ∈ lw_tbl := List.mem_of_getElem? (i := 65) (by decide +kernel)
theorem zm_6 : Cond.instanceMethod yX6_init ∈ lw_tbl := List.mem_of_getElem? (i := 841) (by decide +kernel)
theorem zc_6 : Cond.code yX6_init cX6_init 2 none ∈ lw_tbl := List.mem_of_getElem? (i := 842) (by decide +kernel)
theorem zl_2 : Cond.methodLink (cN 2) 3 objectInit ∈ lw_tbl := List.mem_of_getElem? (i := 92) (by decide +kernel)
theorem zf_2_9 : Cond.fieldLink (cN 2) 9 (Tc 2 0).1 (Tc 2 0).2.1 (Tc 2 0).2.2.1 ∈ lw_tbl := List.mem_of_getElem? (i := 93) (by decide +kernel)
theorem zd_2_0 : (Tc 2 0).2.2.2 = true ∧ (Tc 2 0).1 = cN 2 ∧ parseFieldDescriptor (Tc 2 0).2.2.1 = some (.array .int) := by decide +kernel
theorem zf_2_15 : Cond.fieldLink (cN 2) 15 (Tc 2 1).1 (Tc 2 1).2.1 (Tc 2 1).2.2.1 ∈ lw_tbl := List.mem_of_getElem? (i := 97) (by decide +kernel)
theorem zd_2_1 : (Tc 2 1).2.2.2 = true ∧ (Tc 2 1).1 = cN 2 ∧ parseFieldDescriptor (Tc 2 1).2.2.1 = some (.array .int) := by decide +kernel
theorem zf_2_18 : Cond.fieldLink (cN 2) 18 (Tc 2 2).1 (Tc 2 2).2.1 (Tc 2 2).2.2.1 ∈ lw_tbl := List.mem_of_getElem? (i := 100) (by decide +kernel)
theorem zd_2_2 : (Tc 2 2).2.2.2 = true ∧ (Tc 2 2).1 = cN 2 ∧ parseFieldDescriptor (Tc 2 2).2.2.1 = some (.array .int) := by decide +kernel
theorem zf_2_21 : Cond.fieldLink (cN 2) 21 (Tc 2 3).1 (Tc 2 3).2.1 (Tc 2 3).2.2.1 ∈ lw_tbl := List.mem_of_getElem? (i := 103) (by decide +kernel)
theorem zd_2_3 : (Tc 2 3).2.2.2 = true ∧ (Tc 2 3).1 = cN 2 ∧ parseFieldDescriptor (Tc 2 3).2.2.1 = some (.array .int) := by decide +kernel
theorem zl_4 : Cond.methodLink (cN 4) 3 objectInit ∈ lw_tbl := List.mem_of_getElem? (i := 179) (by decide +kernel)
theorem zf_4_9 : Cond.fieldLink (cN 4) 9 (Tc 4 0).1 (Tc 4 0).2.1 (Tc 4 0).2.2.1 ∈ lw_tbl := List.mem_of_getElem? (i := 180) (by decide +kernel)
theorem zd_4_0 : (Tc 4 0).2.2.2 = true ∧ (Tc 4 0).1 = cN 4 ∧ parseFieldDescriptor (Tc 4 0).2.2.1 = some (.array .int) := by decide +kernel
theorem zf_4_15 : Cond.fieldLink (cN 4) 15 (Tc 4 1).1 (Tc 4 1).2.1 (Tc 4 1).2.2.1 ∈ lw_tbl := List.mem_of_getElem? (i := 182) (by decide +kernel)
theorem zd_4_1 : (Tc 4 1).2.2.2 = true ∧ (Tc 4 1).1 = cN 4 ∧ parseFieldDescriptor (Tc 4 1).2.2.1 = some (.array .int) := by decide +kernel
theorem zf_4_18 : Cond.fieldLink (cN 4) 18 (Tc 4 2).1 (Tc 4 2).2.1 (Tc 4 2).2.2.1 ∈ lw_tbl := List.mem_of_getElem? (i := 184) (by decide +kernel)
theorem zd_4_2 : (Tc 4 2).2.2.2 = true ∧ (Tc 4 2).1 = cN 4 ∧ parseFieldDescriptor (Tc 4 2).2.2.1 = some (.array .int) := by decide +kernel
theorem zf_4_21 : Cond.fieldLink (cN 4) 21 (Tc 4 3).1 (Tc 4 3).2.1 (Tc 4 3).2.2.1 ∈ lw_tbl := List.mem_of_getElem? (i := 186) (by decide +kernel)
theorem zd_4_3 : (Tc 4 3).2.2.2 = true ∧ (Tc 4 3).1 = cN 4 ∧ parseFieldDescriptor (Tc 4 3).2.2.1 = some (.array .int) := by decide +kernel
theorem zf_4_24 : Cond.fieldLink (cN 4) 24 (Tc 4 4).1 (Tc 4 4).2.1 (Tc 4 4).2.2.1 ∈ lw_tbl := List.mem_of_getElem? (i := 187) (by decide +kernel)
theorem zd_4_4 : (Tc 4 4).2.2.2 = true ∧ (Tc 4 4).1 = cN 4 ∧ parseFieldDescriptor (Tc 4 4).2.2.1 = some (.array .int) := by decide +kernel
theorem zf_4_27 : Cond.fieldLink (cN 4) 27 (Tc 4 5).1 (Tc 4 5).2.1 (Tc 4 5).2.2.1 ∈ lw_tbl := List.mem_of_getElem? (i := 188) (by decide +kernel)
theorem zd_4_5 : (Tc 4 5).2.2.2 = true ∧ (Tc 4 5).1 = cN 4 ∧ parseFieldDescriptor (Tc 4 5).2.2.1 = some (.array .int) := by decide +kernel
theorem zf_4_30 : Cond.fieldLink (cN 4) 30 (Tc 4 6).1 (Tc 4 6).2.1 (Tc 4 6).2.2.1 ∈ lw_tbl := List.mem_of_getElem? (i := 189) (by decide +kernel)
theorem zd_4_6 : (Tc 4 6).2.2.2 = false ∧ (Tc 4 6).1 = cN 4 ∧ parseFieldDescriptor (Tc 4 6).2.2.1 = some .int := by decide +kernel
theorem zf_4_34 : Cond.fieldLink (cN 4) 34 (Tc 4 7).1 (Tc 4 7).2.1 (Tc 4 7).2.2.1 ∈ lw_tbl := List.mem_of_getElem? (i := 190) (by decide +kernel)
theorem zd_4_7 : (Tc 4 7).2.2.2 = true ∧ (Tc 4 7).1 = cN 4 ∧ parseFieldDescriptor (Tc 4 7).2.2.1 = some (.array .boolean) := by decide +kernel
theorem zf_4_38 : Cond.fieldLink (cN 4) 38 (Tc 4 8).1 (Tc 4 8).2.1 (Tc 4 8).2.2.1 ∈ lw_tbl := List.mem_of_getElem? (i := 191) (by decide +kernel)
theorem zd_4_8 : (Tc 4 8).2.2.2 = false ∧ (Tc 4 8).1 = cN 4 ∧ parseFieldDescriptor (Tc 4 8).2.2.1 = some (.object "RolledStones$Field") := by decide +kernel
theorem zf_4_42 : Cond.fieldLink (cN 4) 42 (Tc 4 9).1 (Tc 4 9).2.1 (Tc 4 9).2.2.1 ∈ lw_tbl := List.mem_of_getElem? (i := 192) (by decide +kernel)
theorem zd_4_9 : (Tc 4 9).2.2.2 = false ∧ (Tc 4 9).1 = cN 4 ∧ parseFieldDescriptor (Tc 4 9).2.2.1 = some .int := by decide +kernel
theorem zf_4_45 : Cond.fieldLink (cN 4) 45 (Tc 4 10).1 (Tc 4 10).2.1 (Tc 4 10).2.2.1 ∈ lw_tbl := List.mem_of_getElem? (i := 193) (by decide +kernel)
theorem zd_4_10 : (Tc 4 10).2.2.2 = false ∧ (Tc 4 10).1 = cN 4 ∧ parseFieldDescriptor (Tc 4 10).2.2.1 = some .int := by decide +kernel
theorem zf_4_48 : Cond.fieldLink (cN 4) 48 (Tc 4 11).1 (Tc 4 11).2.1 (Tc 4 11).2.2.1 ∈ lw_tbl := List.mem_of_getElem? (i := 194) (by decide +kernel)
theorem zd_4_11 : (Tc 4 11).2.2.2 = false ∧ (Tc 4 11).1 = cN 4 ∧ parseFieldDescriptor (Tc 4 11).2.2.1 = some .int := by decide +kernel
theorem zf_4_51 : Cond.fieldLink (cN 4) 51 (Tc 4 12).1 (Tc 4 12).2.1 (Tc 4 12).2.2.1 ∈ lw_tbl := List.mem_of_getElem? (i := 195) (by decide +kernel)
theorem zd_4_12 : (Tc 4 12).2.2.2 = false ∧ (Tc 4 12).1 = cN 4 ∧ parseFieldDescriptor (Tc 4 12).2.2.1 = some .int := by decide +kernel
theorem zl_3 : Cond.methodLink (cN 3) 3 objectInit ∈ lw_tbl := List.mem_of_getElem? (i := 231) (by decide +kernel)
theorem zf_3_11 : Cond.fieldLink (cN 3) 11 (Tc 3 0).1 (Tc 3 0).2.1 (Tc 3 0).2.2.1 ∈ lw_tbl := List.mem_of_getElem? (i := 232) (by decide +kernel)
theorem zd_3_0 : (Tc 3 0).2.2.2 = true ∧ (Tc 3 0).1 = cN 3 ∧ parseFieldDescriptor (Tc 3 0).2.2.1 = some (.array .int) := by decide +kernel
theorem zf_3_15 : Cond.fieldLink (cN 3) 15 (Tc 3 1).1 (Tc 3 1).2.1 (Tc 3 1).2.2.1 ∈ lw_tbl := List.mem_of_getElem? (i := 233) (by decide +kernel)
theorem zd_3_1 : (Tc 3 1).2.2.2 = false ∧ (Tc 3 1).1 = cN 3 ∧ parseFieldDescriptor (Tc 3 1).2.2.1 = some (.object "RolledStones$Field") := by decide +kernel
theorem zf_3_19 : Cond.fieldLink (cN 3) 19 (Tc 3 2).1 (Tc 3 2).2.1 (Tc 3 2).2.2.1 ∈ lw_tbl := List.mem_of_getElem? (i := 234) (by decide +kernel)
theorem zd_3_2 : (Tc 3 2).2.2.2 = false ∧ (Tc 3 2).1 = cN 3 ∧ parseFieldDescriptor (Tc 3 2).2.2.1 = some .int := by decide +kernel
theorem zf_3_23 : Cond.fieldLink (cN 3) 23 (Tc 3 3).1 (Tc 3 3).2.1 (Tc 3 3).2.2.1 ∈ lw_tbl := List.mem_of_getElem? (i := 235) (by decide +kernel)
theorem zd_3_3 : (Tc 3 3).2.2.2 = false ∧ (Tc 3 3).1 = cN 3 ∧ parseFieldDescriptor (Tc 3 3).2.2.1 = some .int := by decide +kernel
theorem zf_3_26 : Cond.fieldLink (cN 3) 26 (Tc 3 4).1 (Tc 3 4).2.1 (Tc 3 4).2.2.1 ∈ lw_tbl := List.mem_of_getElem? (i := 236) (by decide +kernel)
theorem zd_3_4 : (Tc 3 4).2.2.2 = false ∧ (Tc 3 4).1 = cN 3 ∧ parseFieldDescriptor (Tc 3 4).2.2.1 = some .int := by decide +kernel
theorem zl_1 : Cond.methodLink (cN 1) 3 objectInit ∈ lw_tbl := List.mem_of_getElem? (i := 254) (by decide +kernel)
theorem zf_1_9 : Cond.fieldLink (cN 1) 9 (Tc 1 0).1 (Tc 1 0).2.1 (Tc 1 0).2.2.1 ∈ lw_tbl := List.mem_of_getElem? (i := 255) (by decide +kernel)
theorem zd_1_0 : (Tc 1 0).2.2.2 = false ∧ (Tc 1 0).1 = cN 1 ∧ parseFieldDescriptor (Tc 1 0).2.2.1 = some .int := by decide +kernel
theorem zf_1_15 : Cond.fieldLink (cN 1) 15 (Tc 1 1).1 (Tc 1 1).2.1 (Tc 1 1).2.2.1 ∈ lw_tbl := List.mem_of_getElem? (i := 257) (by decide +kernel)
theorem zd_1_1 : (Tc 1 1).2.2.2 = false ∧ (Tc 1 1).1 = cN 1 ∧ parseFieldDescriptor (Tc 1 1).2.2.1 = some .int := by decide +kernel
theorem zf_1_18 : Cond.fieldLink (cN 1) 18 (Tc 1 2).1 (Tc 1 2).2.1 (Tc 1 2).2.2.1 ∈ lw_tbl := List.mem_of_getElem? (i := 259) (by decide +kernel)
theorem zd_1_2 : (Tc 1 2).2.2.2 = true ∧ (Tc 1 2).1 = cN 1 ∧ parseFieldDescriptor (Tc 1 2).2.2.1 = some (.array .int) := by decide +kernel
theorem zf_1_22 : Cond.fieldLink (cN 1) 22 (Tc 1 3).1 (Tc 1 3).2.1 (Tc 1 3).2.2.1 ∈ lw_tbl := List.mem_of_getElem? (i := 260) (by decide +kernel)
theorem zd_1_3 : (Tc 1 3).2.2.2 = true ∧ (Tc 1 3).1 = cN 1 ∧ parseFieldDescriptor (Tc 1 3).2.2.1 = some (.array .int) := by decide +kernel
theorem zf_1_25 : Cond.fieldLink (cN 1) 25 (Tc 1 4).1 (Tc 1 4).2.1 (Tc 1 4).2.2.1 ∈ lw_tbl := List.mem_of_getElem? (i := 261) (by decide +kernel)
theorem zd_1_4 : (Tc 1 4).2.2.2 = true ∧ (Tc 1 4).1 = cN 1 ∧ parseFieldDescriptor (Tc 1 4).2.2.1 = some (.array .int) := by decide +kernel
theorem zf_1_28 : Cond.fieldLink (cN 1) 28 (Tc 1 5).1 (Tc 1 5).2.1 (Tc 1 5).2.2.1 ∈ lw_tbl := List.mem_of_getElem? (i := 262) (by decide +kernel)
theorem zd_1_5 : (Tc 1 5).2.2.2 = true ∧ (Tc 1 5).1 = cN 1 ∧ parseFieldDescriptor (Tc 1 5).2.2.1 = some (.array .int) := by decide +kernel
theorem zf_1_31 : Cond.fieldLink (cN 1) 31 (Tc 1 6).1 (Tc 1 6).2.1 (Tc 1 6).2.2.1 ∈ lw_tbl := List.mem_of_getElem? (i := 263) (by decide +kernel)
theorem zd_1_6 : (Tc 1 6).2.2.2 = true ∧ (Tc 1 6).1 = cN 1 ∧ parseFieldDescriptor (Tc 1 6).2.2.1 = some (.array .int) := by decide +kernel
theorem zf_1_34 : Cond.fieldLink (cN 1) 34 (Tc 1 7).1 (Tc 1 7).2.1 (Tc 1 7).2.2.1 ∈ lw_tbl := List.mem_of_getElem? (i := 264) (by decide +kernel)
theorem zd_1_7 : (Tc 1 7).2.2.2 = true ∧ (Tc 1 7).1 = cN 1 ∧ parseFieldDescriptor (Tc 1 7).2.2.1 = some (.array .int) := by decide +kernel
theorem zf_1_37 : Cond.fieldLink (cN 1) 37 (Tc 1 8).1 (Tc 1 8).2.1 (Tc 1 8).2.2.1 ∈ lw_tbl := List.mem_of_getElem? (i := 265) (by decide +kernel)
theorem zd_1_8 : (Tc 1 8).2.2.2 = true ∧ (Tc 1 8).1 = cN 1 ∧ parseFieldDescriptor (Tc 1 8).2.2.1 = some (.array .int) := by decide +kernel
theorem zf_1_40 : Cond.fieldLink (cN 1) 40 (Tc 1 9).1 (Tc 1 9).2.1 (Tc 1 9).2.2.1 ∈ lw_tbl := List.mem_of_getElem? (i := 266) (by decide +kernel)
theorem zd_1_9 : (Tc 1 9).2.2.2 = true ∧ (Tc 1 9).1 = cN 1 ∧ parseFieldDescriptor (Tc 1 9).2.2.1 = some (.array .int) := by decide +kernel
theorem zf_1_43 : Cond.fieldLink (cN 1) 43 (Tc 1 10).1 (Tc 1 10).2.1 (Tc 1 10).2.2.1 ∈ lw_tbl := List.mem_of_getElem? (i := 267) (by decide +kernel)
theorem zd_1_10 : (Tc 1 10).2.2.2 = true ∧ (Tc 1 10).1 = cN 1 ∧ parseFieldDescriptor (Tc 1 10).2.2.1 = some (.array .int) := by decide +kernel
theorem zl_0 : Cond.methodLink (cN 0) 3 objectInit ∈ lw_tbl := List.mem_of_getElem? (i := 86) (by decide +kernel)
theorem zf_0_9 : Cond.fieldLink (cN 0) 9 (Tc 0 0).1 (Tc 0 0).2.1 (Tc 0 0).2.2.1 ∈ lw_tbl := List.mem_of_getElem? (i := 120) (by decide +kernel)
theorem zd_0_0 : (Tc 0 0).2.2.2 = false ∧ (Tc 0 0).1 = cN 0 ∧ parseFieldDescriptor (Tc 0 0).2.2.1 = some .int := by decide +kernel
theorem zf_0_15 : Cond.fieldLink (cN 0) 15 (Tc 0 1).1 (Tc 0 1).2.1 (Tc 0 1).2.2.1 ∈ lw_tbl := List.mem_of_getElem? (i := 124) (by decide +kernel)
theorem zd_0_1 : (Tc 0 1).2.2.2 = true ∧ (Tc 0 1).1 = cN 0 ∧ parseFieldDescriptor (Tc 0 1).2.2.1 = some (.array .int) := by decide +kernel
theorem zf_0_19 : Cond.fieldLink (cN 0) 19 (Tc 0 2).1 (Tc 0 2).2.1 (Tc 0 2).2.2.1 ∈ lw_tbl := List.mem_of_getElem? (i := 125) (by decide +kernel)
theorem zd_0_2 : (Tc 0 2).2.2.2 = true ∧ (Tc 0 2).1 = cN 0 ∧ parseFieldDescriptor (Tc 0 2).2.2.1 = some (.array .int) := by decide +kernel
theorem zf_0_22 : Cond.fieldLink (cN 0) 22 (Tc 0 3).1 (Tc 0 3).2.1 (Tc 0 3).2.2.1 ∈ lw_tbl := List.mem_of_getElem? (i := 127) (by decide +kernel)
theorem zd_0_3 : (Tc 0 3).2.2.2 = true ∧ (Tc 0 3).1 = cN 0 ∧ parseFieldDescriptor (Tc 0 3).2.2.1 = some (.array .int) := by decide +kernel
theorem zf_0_25 : Cond.fieldLink (cN 0) 25 (Tc 0 4).1 (Tc 0 4).2.1 (Tc 0 4).2.2.1 ∈ lw_tbl := List.mem_of_getElem? (i := 128) (by decide +kernel)
theorem zd_0_4 : (Tc 0 4).2.2.2 = true ∧ (Tc 0 4).1 = cN 0 ∧ parseFieldDescriptor (Tc 0 4).2.2.1 = some (.array .int) := by decide +kernel
theorem zf_0_28 : Cond.fieldLink (cN 0) 28 (Tc 0 5).1 (Tc 0 5).2.1 (Tc 0 5).2.2.1 ∈ lw_tbl := List.mem_of_getElem? (i := 131) (by decide +kernel)
theorem zd_0_5 : (Tc 0 5).2.2.2 = true ∧ (Tc 0 5).1 = cN 0 ∧ parseFieldDescriptor (Tc 0 5).2.2.1 = some (.array .int) := by decide +kernel
theorem zf_0_31 : Cond.fieldLink (cN 0) 31 (Tc 0 6).1 (Tc 0 6).2.1 (Tc 0 6).2.2.1 ∈ lw_tbl := List.mem_of_getElem? (i := 134) (by decide +kernel)
theorem zd_0_6 : (Tc 0 6).2.2.2 = true ∧ (Tc 0 6).1 = cN 0 ∧ parseFieldDescriptor (Tc 0 6).2.2.1 = some (.array .int) := by decide +kernel
theorem zk_0_34 : Cond.classLink (cN 0) 34 (cN 2) ∈ lw_tbl := List.mem_of_getElem? (i := 87) (by decide +kernel)
theorem zf_0_37 : Cond.fieldLink (cN 0) 37 (Tc 0 7).1 (Tc 0 7).2.1 (Tc 0 7).2.2.1 ∈ lw_tbl := List.mem_of_getElem? (i := 137) (by decide +kernel)
theorem zd_0_7 : (Tc 0 7).2.2.2 = true ∧ (Tc 0 7).1 = cN 0 ∧ parseFieldDescriptor (Tc 0 7).2.2.1 = some (.object "RolledStones$Nights") := by decide +kernel
theorem zf_0_41 : Cond.fieldLink (cN 0) 41 (Tc 0 8).1 (Tc 0 8).2.1 (Tc 0 8).2.2.1 ∈ lw_tbl := List.mem_of_getElem? (i := 139) (by decide +kernel)
theorem zd_0_8 : (Tc 0 8).2.2.2 = true ∧ (Tc 0 8).1 = cN 0 ∧ parseFieldDescriptor (Tc 0 8).2.2.1 = some (.array .int) := by decide +kernel
theorem zf_0_44 : Cond.fieldLink (cN 0) 44 (Tc 0 9).1 (Tc 0 9).2.1 (Tc 0 9).2.2.1 ∈ lw_tbl := List.mem_of_getElem? (i := 142) (by decide +kernel)
theorem zd_0_9 : (Tc 0 9).2.2.2 = false ∧ (Tc 0 9).1 = cN 0 ∧ parseFieldDescriptor (Tc 0 9).2.2.1 = some .int := by decide +kernel
theorem zf_0_47 : Cond.fieldLink (cN 0) 47 (Tc 0 10).1 (Tc 0 10).2.1 (Tc 0 10).2.2.1 ∈ lw_tbl := List.mem_of_getElem? (i := 145) (by decide +kernel)
theorem zd_0_10 : (Tc 0 10).2.2.2 = false ∧ (Tc 0 10).1 = cN 0 ∧ parseFieldDescriptor (Tc 0 10).2.2.1 = some .int := by decide +kernel
theorem zf_0_50 : Cond.fieldLink (cN 0) 50 (Tc 0 11).1 (Tc 0 11).2.1 (Tc 0 11).2.2.1 ∈ lw_tbl := List.mem_of_getElem? (i := 147) (by decide +kernel)
theorem zd_0_11 : (Tc 0 11).2.2.2 = true ∧ (Tc 0 11).1 = cN 0 ∧ parseFieldDescriptor (Tc 0 11).2.2.1 = some (.array .int) := by decide +kernel
theorem zl_5 : Cond.methodLink (cN 5) 3 objectInit ∈ lw_tbl := List.mem_of_getElem? (i := 78) (by decide +kernel)
theorem zk_5_9 : Cond.classLink (cN 5) 9 (cN 0) ∈ lw_tbl := List.mem_of_getElem? (i := 81) (by decide +kernel)
theorem zn_5_11 : Cond.methodLink (cN 5) 11 yX0_init ∈ lw_tbl := List.mem_of_getElem? (i := 83) (by decide +kernel)
theorem zf_5_12 : Cond.fieldLink (cN 5) 12 (Tc 5 0).1 (Tc 5 0).2.1 (Tc 5 0).2.2.1 ∈ lw_tbl := List.mem_of_getElem? (i := 291) (by decide +kernel)
theorem zd_5_0 : (Tc 5 0).2.2.2 = true ∧ (Tc 5 0).1 = cN 5 ∧ parseFieldDescriptor (Tc 5 0).2.2.1 = some (.object "RolledStones$Field") := by decide +kernel
theorem zf_5_16 : Cond.fieldLink (cN 5) 16 (Tc 5 1).1 (Tc 5 1).2.1 (Tc 5 1).2.2.1 ∈ lw_tbl := List.mem_of_getElem? (i := 292) (by decide +kernel)
theorem zd_5_1 : (Tc 5 1).2.2.2 = true ∧ (Tc 5 1).1 = cN 5 ∧ parseFieldDescriptor (Tc 5 1).2.2.1 = some (.array (.object "RolledStones$Field")) := by decide +kernel
theorem zf_5_20 : Cond.fieldLink (cN 5) 20 (Tc 5 2).1 (Tc 5 2).2.1 (Tc 5 2).2.2.1 ∈ lw_tbl := List.mem_of_getElem? (i := 293) (by decide +kernel)
theorem zd_5_2 : (Tc 5 2).2.2.2 = true ∧ (Tc 5 2).1 = cN 5 ∧ parseFieldDescriptor (Tc 5 2).2.2.1 = some (.array .int) := by decide +kernel
theorem zk_5_24 : Cond.classLink (cN 5) 24 (cN 4) ∈ lw_tbl := List.mem_of_getElem? (i := 174) (by decide +kernel)
theorem zf_5_27 : Cond.fieldLink (cN 5) 27 (Tc 5 3).1 (Tc 5 3).2.1 (Tc 5 3).2.2.1 ∈ lw_tbl := List.mem_of_getElem? (i := 294) (by decide +kernel)
theorem zd_5_3 : (Tc 5 3).2.2.2 = true ∧ (Tc 5 3).1 = cN 5 ∧ parseFieldDescriptor (Tc 5 3).2.2.1 = some (.object "RolledStones$Walk") := by decide +kernel
theorem zk_5_31 : Cond.classLink (cN 5) 31 (cN 2) ∈ lw_tbl := List.mem_of_getElem? (i := 224) (by decide +kernel)
theorem zf_5_34 : Cond.fieldLink (cN 5) 34 (Tc 5 4).1 (Tc 5 4).2.1 (Tc 5 4).2.2.1 ∈ lw_tbl := List.mem_of_getElem? (i := 295) (by decide +kernel)
theorem zd_5_4 : (Tc 5 4).2.2.2 = true ∧ (Tc 5 4).1 = cN 5 ∧ parseFieldDescriptor (Tc 5 4).2.2.1 = some (.object "RolledStones$Nights") := by decide +kernel
theorem zf_5_38 : Cond.fieldLink (cN 5) 38 (Tc 5 5).1 (Tc 5 5).2.1 (Tc 5 5).2.2.1 ∈ lw_tbl := List.mem_of_getElem? (i := 296) (by decide +kernel)
theorem zd_5_5 : (Tc 5 5).2.2.2 = true ∧ (Tc 5 5).1 = cN 5 ∧ parseFieldDescriptor (Tc 5 5).2.2.1 = some (.array .int) := by decide +kernel
theorem zf_5_41 : Cond.fieldLink (cN 5) 41 (Tc 5 6).1 (Tc 5 6).2.1 (Tc 5 6).2.2.1 ∈ lw_tbl := List.mem_of_getElem? (i := 297) (by decide +kernel)
theorem zd_5_6 : (Tc 5 6).2.2.2 = true ∧ (Tc 5 6).1 = cN 5 ∧ parseFieldDescriptor (Tc 5 6).2.2.1 = some (.array .boolean) := by decide +kernel
theorem zf_5_45 : Cond.fieldLink (cN 5) 45 (Tc 5 7).1 (Tc 5 7).2.1 (Tc 5 7).2.2.1 ∈ lw_tbl := List.mem_of_getElem? (i := 298) (by decide +kernel)
theorem zd_5_7 : (Tc 5 7).2.2.2 = true ∧ (Tc 5 7).1 = cN 5 ∧ parseFieldDescriptor (Tc 5 7).2.2.1 = some (.array .int) := by decide +kernel
theorem zf_5_48 : Cond.fieldLink (cN 5) 48 (Tc 5 8).1 (Tc 5 8).2.1 (Tc 5 8).2.2.1 ∈ lw_tbl := List.mem_of_getElem? (i := 299) (by decide +kernel)
theorem zd_5_8 : (Tc 5 8).2.2.2 = false ∧ (Tc 5 8).1 = cN 5 ∧ parseFieldDescriptor (Tc 5 8).2.2.1 = some .int := by decide +kernel
theorem zf_5_52 : Cond.fieldLink (cN 5) 52 (Tc 5 9).1 (Tc 5 9).2.1 (Tc 5 9).2.2.1 ∈ lw_tbl := List.mem_of_getElem? (i := 300) (by decide +kernel)
theorem zd_5_9 : (Tc 5 9).2.2.2 = true ∧ (Tc 5 9).1 = cN 5 ∧ parseFieldDescriptor (Tc 5 9).2.2.1 = some (.array .long) := by decide +kernel
theorem zf_5_56 : Cond.fieldLink (cN 5) 56 (Tc 5 10).1 (Tc 5 10).2.1 (Tc 5 10).2.2.1 ∈ lw_tbl := List.mem_of_getElem? (i := 301) (by decide +kernel)
theorem zd_5_10 : (Tc 5 10).2.2.2 = true ∧ (Tc 5 10).1 = cN 5 ∧ parseFieldDescriptor (Tc 5 10).2.2.1 = some (.array .long) := by decide +kernel
theorem zk_5_59 : Cond.classLink (cN 5) 59 (cN 3) ∈ lw_tbl := List.mem_of_getElem? (i := 226) (by decide +kernel)
theorem zf_5_62 : Cond.fieldLink (cN 5) 62 (Tc 5 11).1 (Tc 5 11).2.1 (Tc 5 11).2.2.1 ∈ lw_tbl := List.mem_of_getElem? (i := 302) (by decide +kernel)
theorem zd_5_11 : (Tc 5 11).2.2.2 = true ∧ (Tc 5 11).1 = cN 5 ∧ parseFieldDescriptor (Tc 5 11).2.2.1 = some (.object "RolledStones$Reader") := by decide +kernel
theorem zk_5_66 : Cond.classLink (cN 5) 66 (cN 1) ∈ lw_tbl := List.mem_of_getElem? (i := 249) (by decide +kernel)
theorem zf_5_69 : Cond.fieldLink (cN 5) 69 (Tc 5 12).1 (Tc 5 12).2.1 (Tc 5 12).2.2.1 ∈ lw_tbl := List.mem_of_getElem? (i := 303) (by decide +kernel)
theorem zd_5_12 : (Tc 5 12).2.2.2 = true ∧ (Tc 5 12).1 = cN 5 ∧ parseFieldDescriptor (Tc 5 12).2.2.1 = some (.object "RolledStones$Ledger") := by decide +kernel
theorem zf_5_73 : Cond.fieldLink (cN 5) 73 (Tc 5 13).1 (Tc 5 13).2.1 (Tc 5 13).2.2.1 ∈ lw_tbl := List.mem_of_getElem? (i := 304) (by decide +kernel)
theorem zd_5_13 : (Tc 5 13).2.2.2 = false ∧ (Tc 5 13).1 = cN 5 ∧ parseFieldDescriptor (Tc 5 13).2.2.1 = some .long := by decide +kernel
theorem zf_5_77 : Cond.fieldLink (cN 5) 77 (Tc 5 14).1 (Tc 5 14).2.1 (Tc 5 14).2.2.1 ∈ lw_tbl := List.mem_of_getElem? (i := 305) (by decide +kernel)
theorem zd_5_14 : (Tc 5 14).2.2.2 = false ∧ (Tc 5 14).1 = cN 5 ∧ parseFieldDescriptor (Tc 5 14).2.2.1 = some .long := by decide +kernel
theorem zl_6 : Cond.methodLink (cN 6) 1 objectInit ∈ lw_tbl := List.mem_of_getElem? (i := 843) (by decide +kernel)
theorem zf_6_7 : Cond.fieldLink (cN 6) 7 (Tc 6 0).1 (Tc 6 0).2.1 (Tc 6 0).2.2.1 ∈ lw_tbl := List.mem_of_getElem? (i := 844) (by decide +kernel)
theorem zd_6_0 : (Tc 6 0).2.2.2 = true ∧ (Tc 6 0).1 = cN 6 ∧ parseFieldDescriptor (Tc 6 0).2.2.1 = some (.array .int) := by decide +kernel
theorem zf_6_13 : Cond.fieldLink (cN 6) 13 (Tc 6 1).1 (Tc 6 1).2.1 (Tc 6 1).2.2.1 ∈ lw_tbl := List.mem_of_getElem? (i := 845) (by decide +kernel)
theorem zd_6_1 : (Tc 6 1).2.2.2 = true ∧ (Tc 6 1).1 = cN 6 ∧ parseFieldDescriptor (Tc 6 1).2.2.1 = some (.array .int) := by decide +kernel
theorem zf_6_16 : Cond.fieldLink (cN 6) 16 (Tc 6 2).1 (Tc 6 2).2.1 (Tc 6 2).2.2.1 ∈ lw_tbl := List.mem_of_getElem? (i := 846) (by decide +kernel)
theorem zd_6_2 : (Tc 6 2).2.2.2 = true ∧ (Tc 6 2).1 = cN 6 ∧ parseFieldDescriptor (Tc 6 2).2.2.1 = some (.array .boolean) := by decide +kernel
theorem zf_6_20 : Cond.fieldLink (cN 6) 20 (Tc 6 3).1 (Tc 6 3).2.1 (Tc 6 3).2.2.1 ∈ lw_tbl := List.mem_of_getElem? (i := 847) (by decide +kernel)
theorem zd_6_3 : (Tc 6 3).2.2.2 = true ∧ (Tc 6 3).1 = cN 6 ∧ parseFieldDescriptor (Tc 6 3).2.2.1 = some (.array .int) := by decide +kernel
theorem zf_6_23 : Cond.fieldLink (cN 6) 23 (Tc 6 6).1 (Tc 6 6).2.1 (Tc 6 6).2.2.1 ∈ lw_tbl := List.mem_of_getElem? (i := 850) (by decide +kernel)
theorem zd_6_6 : (Tc 6 6).2.2.2 = true ∧ (Tc 6 6).1 = cN 6 ∧ parseFieldDescriptor (Tc 6 6).2.2.1 = some (.array .int) := by decide +kernel
theorem zf_6_26 : Cond.fieldLink (cN 6) 26 (Tc 6 7).1 (Tc 6 7).2.1 (Tc 6 7).2.2.1 ∈ lw_tbl := List.mem_of_getElem? (i := 851) (by decide +kernel)
theorem zd_6_7 : (Tc 6 7).2.2.2 = true ∧ (Tc 6 7).1 = cN 6 ∧ parseFieldDescriptor (Tc 6 7).2.2.1 = some (.array .int) := by decide +kernel
theorem zf_6_29 : Cond.fieldLink (cN 6) 29 (Tc 6 8).1 (Tc 6 8).2.1 (Tc 6 8).2.2.1 ∈ lw_tbl := List.mem_of_getElem? (i := 852) (by decide +kernel)
theorem zd_6_8 : (Tc 6 8).2.2.2 = true ∧ (Tc 6 8).1 = cN 6 ∧ parseFieldDescriptor (Tc 6 8).2.2.1 = some (.array .int) := by decide +kernel
theorem zf_6_32 : Cond.fieldLink (cN 6) 32 (Tc 6 9).1 (Tc 6 9).2.1 (Tc 6 9).2.2.1 ∈ lw_tbl := List.mem_of_getElem? (i := 853) (by decide +kernel)
theorem zd_6_9 : (Tc 6 9).2.2.2 = true ∧ (Tc 6 9).1 = cN 6 ∧ parseFieldDescriptor (Tc 6 9).2.2.1 = some (.array .int) := by decide +kernel
theorem zf_6_35 : Cond.fieldLink (cN 6) 35 (Tc 6 11).1 (Tc 6 11).2.1 (Tc 6 11).2.2.1 ∈ lw_tbl := List.mem_of_getElem? (i := 855) (by decide +kernel)
theorem zd_6_11 : (Tc 6 11).2.2.2 = true ∧ (Tc 6 11).1 = cN 6 ∧ parseFieldDescriptor (Tc 6 11).2.2.1 = some (.array .int) := by decide +kernel
theorem zf_6_38 : Cond.fieldLink (cN 6) 38 (Tc 6 13).1 (Tc 6 13).2.1 (Tc 6 13).2.2.1 ∈ lw_tbl := List.mem_of_getElem? (i := 857) (by decide +kernel)
theorem zd_6_13 : (Tc 6 13).2.2.2 = true ∧ (Tc 6 13).1 = cN 6 ∧ parseFieldDescriptor (Tc 6 13).2.2.1 = some (.array .long) := by decide +kernel
theorem zf_6_42 : Cond.fieldLink (cN 6) 42 (Tc 6 14).1 (Tc 6 14).2.1 (Tc 6 14).2.2.1 ∈ lw_tbl := List.mem_of_getElem? (i := 858) (by decide +kernel)
theorem zd_6_14 : (Tc 6 14).2.2.2 = true ∧ (Tc 6 14).1 = cN 6 ∧ parseFieldDescriptor (Tc 6 14).2.2.1 = some (.array .long) := by decide +kernel
theorem zf_6_45 : Cond.fieldLink (cN 6) 45 (Tc 6 17).1 (Tc 6 17).2.1 (Tc 6 17).2.2.1 ∈ lw_tbl := List.mem_of_getElem? (i := 861) (by decide +kernel)
theorem zd_6_17 : (Tc 6 17).2.2.2 = true ∧ (Tc 6 17).1 = cN 6 ∧ parseFieldDescriptor (Tc 6 17).2.2.1 = some (.array .int) := by decide +kernel
theorem zf_6_48 : Cond.fieldLink (cN 6) 48 (Tc 6 18).1 (Tc 6 18).2.1 (Tc 6 18).2.2.1 ∈ lw_tbl := List.mem_of_getElem? (i := 862) (by decide +kernel)
theorem zd_6_18 : (Tc 6 18).2.2.2 = true ∧ (Tc 6 18).1 = cN 6 ∧ parseFieldDescriptor (Tc 6 18).2.2.1 = some (.array .int) := by decide +kernel
theorem zf_6_51 : Cond.fieldLink (cN 6) 51 (Tc 6 23).1 (Tc 6 23).2.1 (Tc 6 23).2.2.1 ∈ lw_tbl := List.mem_of_getElem? (i := 867) (by decide +kernel)
theorem zd_6_23 : (Tc 6 23).2.2.2 = true ∧ (Tc 6 23).1 = cN 6 ∧ parseFieldDescriptor (Tc 6 23).2.2.1 = some (.array .int) := by decide +kernel
theorem zf_6_54 : Cond.fieldLink (cN 6) 54 (Tc 6 25).1 (Tc 6 25).2.1 (Tc 6 25).2.2.1 ∈ lw_tbl := List.mem_of_getElem? (i := 869) (by decide +kernel)
theorem zd_6_25 : (Tc 6 25).2.2.2 = true ∧ (Tc 6 25).1 = cN 6 ∧ parseFieldDescriptor (Tc 6 25).2.2.1 = some (.array .int) := by decide +kernel
theorem zf_6_57 : Cond.fieldLink (cN 6) 57 (Tc 6 26).1 (Tc 6 26).2.1 (Tc 6 26).2.2.1 ∈ lw_tbl := List.mem_of_getElem? (i := 870) (by decide +kernel)
theorem zd_6_26 : (Tc 6 26).2.2.2 = true ∧ (Tc 6 26).1 = cN 6 ∧ parseFieldDescriptor (Tc 6 26).2.2.1 = some (.array .boolean) := by decide +kernel
theorem zf_6_60 : Cond.fieldLink (cN 6) 60 (Tc 6 27).1 (Tc 6 27).2.1 (Tc 6 27).2.2.1 ∈ lw_tbl := List.mem_of_getElem? (i := 871) (by decide +kernel)
theorem zd_6_27 : (Tc 6 27).2.2.2 = true ∧ (Tc 6 27).1 = cN 6 ∧ parseFieldDescriptor (Tc 6 27).2.2.1 = some (.array .int) := by decide +kernel
theorem zf_6_63 : Cond.fieldLink (cN 6) 63 (Tc 6 28).1 (Tc 6 28).2.1 (Tc 6 28).2.2.1 ∈ lw_tbl := List.mem_of_getElem? (i := 872) (by decide +kernel)
theorem zd_6_28 : (Tc 6 28).2.2.2 = true ∧ (Tc 6 28).1 = cN 6 ∧ parseFieldDescriptor (Tc 6 28).2.2.1 = some (.array .int) := by decide +kernel
theorem zf_6_66 : Cond.fieldLink (cN 6) 66 (Tc 6 5).1 (Tc 6 5).2.1 (Tc 6 5).2.2.1 ∈ lw_tbl := List.mem_of_getElem? (i := 849) (by decide +kernel)
theorem zd_6_5 : (Tc 6 5).2.2.2 = false ∧ (Tc 6 5).1 = cN 6 ∧ parseFieldDescriptor (Tc 6 5).2.2.1 = some .long := by decide +kernel
