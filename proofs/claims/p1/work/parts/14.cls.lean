/-! The class: constructors of its parts -/
theorem dX0_init_0 : decode cX0_init 0 = .ok (.aload_n 0, 1) := by decide +kernel
theorem dX0_init_1 : decode cX0_init 1 = .ok (.invokespecial 3, 3) := by decide +kernel
theorem dX0_init_4 : decode cX0_init 4 = .ok (.aload_n 0, 1) := by decide +kernel
theorem dX0_init_5 : decode cX0_init 5 = .ok (.ldc 11, 2) := by decide +kernel
theorem dX0_init_7 : decode cX0_init 7 = .ok (.newarray .int, 2) := by decide +kernel
theorem dX0_init_9 : decode cX0_init 9 = .ok (.putfield 12, 3) := by decide +kernel
theorem dX0_init_12 : decode cX0_init 12 = .ok (.aload_n 0, 1) := by decide +kernel
theorem dX0_init_13 : decode cX0_init 13 = .ok (.sipush 401, 3) := by decide +kernel
theorem dX0_init_16 : decode cX0_init 16 = .ok (.newarray .int, 2) := by decide +kernel
theorem dX0_init_18 : decode cX0_init 18 = .ok (.putfield 16, 3) := by decide +kernel
theorem dX0_init_21 : decode cX0_init 21 = .ok (.aload_n 0, 1) := by decide +kernel
theorem dX0_init_22 : decode cX0_init 22 = .ok (.sipush 401, 3) := by decide +kernel
theorem dX0_init_25 : decode cX0_init 25 = .ok (.newarray .int, 2) := by decide +kernel
theorem dX0_init_27 : decode cX0_init 27 = .ok (.putfield 19, 3) := by decide +kernel
theorem dX0_init_30 : decode cX0_init 30 = .ok (.aload_n 0, 1) := by decide +kernel
theorem dX0_init_31 : decode cX0_init 31 = .ok (.aload_n 1, 1) := by decide +kernel
theorem dX0_init_32 : decode cX0_init 32 = .ok (.putfield 22, 3) := by decide +kernel
theorem dX0_init_35 : decode cX0_init 35 = .ok (.aload_n 0, 1) := by decide +kernel
theorem dX0_init_36 : decode cX0_init 36 = .ok (.aload_n 2, 1) := by decide +kernel
theorem dX0_init_37 : decode cX0_init 37 = .ok (.putfield 26, 3) := by decide +kernel
theorem dX0_init_40 : decode cX0_init 40 = .ok (.return_, 1) := by decide +kernel
theorem dX2_init_0 : decode cX2_init 0 = .ok (.aload_n 0, 1) := by decide +kernel
theorem dX2_init_1 : decode cX2_init 1 = .ok (.invokespecial 3, 3) := by decide +kernel
theorem dX2_init_4 : decode cX2_init 4 = .ok (.aload_n 0, 1) := by decide +kernel
theorem dX2_init_5 : decode cX2_init 5 = .ok (.sipush 4096, 3) := by decide +kernel
theorem dX2_init_8 : decode cX2_init 8 = .ok (.newarray .int, 2) := by decide +kernel
theorem dX2_init_10 : decode cX2_init 10 = .ok (.putfield 9, 3) := by decide +kernel
theorem dX2_init_13 : decode cX2_init 13 = .ok (.aload_n 0, 1) := by decide +kernel
theorem dX2_init_14 : decode cX2_init 14 = .ok (.sipush 512, 3) := by decide +kernel
theorem dX2_init_17 : decode cX2_init 17 = .ok (.newarray .int, 2) := by decide +kernel
theorem dX2_init_19 : decode cX2_init 19 = .ok (.putfield 15, 3) := by decide +kernel
theorem dX2_init_22 : decode cX2_init 22 = .ok (.aload_n 0, 1) := by decide +kernel
theorem dX2_init_23 : decode cX2_init 23 = .ok (.sipush 512, 3) := by decide +kernel
theorem dX2_init_26 : decode cX2_init 26 = .ok (.newarray .int, 2) := by decide +kernel
theorem dX2_init_28 : decode cX2_init 28 = .ok (.putfield 18, 3) := by decide +kernel
theorem dX2_init_31 : decode cX2_init 31 = .ok (.aload_n 0, 1) := by decide +kernel
theorem dX2_init_32 : decode cX2_init 32 = .ok (.sipush 512, 3) := by decide +kernel
theorem dX2_init_35 : decode cX2_init 35 = .ok (.newarray .int, 2) := by decide +kernel
theorem dX2_init_37 : decode cX2_init 37 = .ok (.putfield 21, 3) := by decide +kernel
theorem dX2_init_40 : decode cX2_init 40 = .ok (.aload_n 0, 1) := by decide +kernel
theorem dX2_init_41 : decode cX2_init 41 = .ok (.sipush 512, 3) := by decide +kernel
theorem dX2_init_44 : decode cX2_init 44 = .ok (.newarray .int, 2) := by decide +kernel
theorem dX2_init_46 : decode cX2_init 46 = .ok (.putfield 24, 3) := by decide +kernel
theorem dX2_init_49 : decode cX2_init 49 = .ok (.aload_n 0, 1) := by decide +kernel
theorem dX2_init_50 : decode cX2_init 50 = .ok (.sipush 512, 3) := by decide +kernel
theorem dX2_init_53 : decode cX2_init 53 = .ok (.newarray .int, 2) := by decide +kernel
theorem dX2_init_55 : decode cX2_init 55 = .ok (.putfield 27, 3) := by decide +kernel
theorem dX2_init_58 : decode cX2_init 58 = .ok (.aload_n 0, 1) := by decide +kernel
theorem dX2_init_59 : decode cX2_init 59 = .ok (.sipush 512, 3) := by decide +kernel
theorem dX2_init_62 : decode cX2_init 62 = .ok (.newarray .int, 2) := by decide +kernel
theorem dX2_init_64 : decode cX2_init 64 = .ok (.putfield 30, 3) := by decide +kernel
theorem dX2_init_67 : decode cX2_init 67 = .ok (.return_, 1) := by decide +kernel
theorem dX4_init_0 : decode cX4_init 0 = .ok (.aload_n 0, 1) := by decide +kernel
theorem dX4_init_1 : decode cX4_init 1 = .ok (.invokespecial 3, 3) := by decide +kernel
theorem dX4_init_4 : decode cX4_init 4 = .ok (.aload_n 0, 1) := by decide +kernel
theorem dX4_init_5 : decode cX4_init 5 = .ok (.sipush 3100, 3) := by decide +kernel
theorem dX4_init_8 : decode cX4_init 8 = .ok (.newarray .int, 2) := by decide +kernel
theorem dX4_init_10 : decode cX4_init 10 = .ok (.putfield 9, 3) := by decide +kernel
theorem dX4_init_13 : decode cX4_init 13 = .ok (.aload_n 0, 1) := by decide +kernel
theorem dX4_init_14 : decode cX4_init 14 = .ok (.sipush 3100, 3) := by decide +kernel
theorem dX4_init_17 : decode cX4_init 17 = .ok (.newarray .int, 2) := by decide +kernel
theorem dX4_init_19 : decode cX4_init 19 = .ok (.putfield 15, 3) := by decide +kernel
theorem dX4_init_22 : decode cX4_init 22 = .ok (.aload_n 0, 1) := by decide +kernel
theorem dX4_init_23 : decode cX4_init 23 = .ok (.sipush 3100, 3) := by decide +kernel
theorem dX4_init_26 : decode cX4_init 26 = .ok (.newarray .int, 2) := by decide +kernel
theorem dX4_init_28 : decode cX4_init 28 = .ok (.putfield 18, 3) := by decide +kernel
theorem dX4_init_31 : decode cX4_init 31 = .ok (.aload_n 0, 1) := by decide +kernel
theorem dX4_init_32 : decode cX4_init 32 = .ok (.sipush 3100, 3) := by decide +kernel
theorem dX4_init_35 : decode cX4_init 35 = .ok (.newarray .int, 2) := by decide +kernel
theorem dX4_init_37 : decode cX4_init 37 = .ok (.putfield 21, 3) := by decide +kernel
theorem dX4_init_40 : decode cX4_init 40 = .ok (.aload_n 0, 1) := by decide +kernel
theorem dX4_init_41 : decode cX4_init 41 = .ok (.sipush 3100, 3) := by decide +kernel
theorem dX4_init_44 : decode cX4_init 44 = .ok (.newarray .int, 2) := by decide +kernel
theorem dX4_init_46 : decode cX4_init 46 = .ok (.putfield 24, 3) := by decide +kernel
theorem dX4_init_49 : decode cX4_init 49 = .ok (.aload_n 0, 1) := by decide +kernel
theorem dX4_init_50 : decode cX4_init 50 = .ok (.sipush 3100, 3) := by decide +kernel
theorem dX4_init_53 : decode cX4_init 53 = .ok (.newarray .int, 2) := by decide +kernel
theorem dX4_init_55 : decode cX4_init 55 = .ok (.putfield 27, 3) := by decide +kernel
theorem dX4_init_58 : decode cX4_init 58 = .ok (.aload_n 0, 1) := by decide +kernel
theorem dX4_init_59 : decode cX4_init 59 = .ok (.sipush 3100, 3) := by decide +kernel
theorem dX4_init_62 : decode cX4_init 62 = .ok (.newarray .int, 2) := by decide +kernel
theorem dX4_init_64 : decode cX4_init 64 = .ok (.putfield 30, 3) := by decide +kernel
theorem dX4_init_67 : decode cX4_init 67 = .ok (.aload_n 0, 1) := by decide +kernel
theorem dX4_init_68 : decode cX4_init 68 = .ok (.sipush 3100, 3) := by decide +kernel
theorem dX4_init_71 : decode cX4_init 71 = .ok (.newarray .int, 2) := by decide +kernel
theorem dX4_init_73 : decode cX4_init 73 = .ok (.putfield 33, 3) := by decide +kernel
theorem dX4_init_76 : decode cX4_init 76 = .ok (.aload_n 0, 1) := by decide +kernel
theorem dX4_init_77 : decode cX4_init 77 = .ok (.sipush 3100, 3) := by decide +kernel
theorem dX4_init_80 : decode cX4_init 80 = .ok (.newarray .int, 2) := by decide +kernel
theorem dX4_init_82 : decode cX4_init 82 = .ok (.putfield 36, 3) := by decide +kernel
theorem dX4_init_85 : decode cX4_init 85 = .ok (.aload_n 0, 1) := by decide +kernel
theorem dX4_init_86 : decode cX4_init 86 = .ok (.sipush 3150, 3) := by decide +kernel
theorem dX4_init_89 : decode cX4_init 89 = .ok (.newarray .int, 2) := by decide +kernel
theorem dX4_init_91 : decode cX4_init 91 = .ok (.putfield 39, 3) := by decide +kernel
theorem dX4_init_94 : decode cX4_init 94 = .ok (.aload_n 0, 1) := by decide +kernel
theorem dX4_init_95 : decode cX4_init 95 = .ok (.sipush 3150, 3) := by decide +kernel
theorem dX4_init_98 : decode cX4_init 98 = .ok (.newarray .int, 2) := by decide +kernel
theorem dX4_init_100 : decode cX4_init 100 = .ok (.putfield 42, 3) := by decide +kernel
theorem dX4_init_103 : decode cX4_init 103 = .ok (.aload_n 0, 1) := by decide +kernel
theorem dX4_init_104 : decode cX4_init 104 = .ok (.sipush 3100, 3) := by decide +kernel
theorem dX4_init_107 : decode cX4_init 107 = .ok (.newarray .int, 2) := by decide +kernel
theorem dX4_init_109 : decode cX4_init 109 = .ok (.putfield 45, 3) := by decide +kernel
theorem dX4_init_112 : decode cX4_init 112 = .ok (.aload_n 0, 1) := by decide +kernel
theorem dX4_init_113 : decode cX4_init 113 = .ok (.aload_n 1, 1) := by decide +kernel
theorem dX4_init_114 : decode cX4_init 114 = .ok (.putfield 48, 3) := by decide +kernel
theorem dX4_init_117 : decode cX4_init 117 = .ok (.return_, 1) := by decide +kernel
theorem dX5_init_0 : decode cX5_init 0 = .ok (.aload_n 0, 1) := by decide +kernel
theorem dX5_init_1 : decode cX5_init 1 = .ok (.invokespecial 3, 3) := by decide +kernel
theorem dX5_init_4 : decode cX5_init 4 = .ok (.aload_n 0, 1) := by decide +kernel
theorem dX5_init_5 : decode cX5_init 5 = .ok (.bipush 16, 2) := by decide +kernel
theorem dX5_init_7 : decode cX5_init 7 = .ok (.newarray .int, 2) := by decide +kernel
theorem dX5_init_9 : decode cX5_init 9 = .ok (.putfield 9, 3) := by decide +kernel
theorem dX5_init_12 : decode cX5_init 12 = .ok (.aload_n 0, 1) := by decide +kernel
theorem dX5_init_13 : decode cX5_init 13 = .ok (.bipush 32, 2) := by decide +kernel
theorem dX5_init_15 : decode cX5_init 15 = .ok (.newarray .int, 2) := by decide +kernel
theorem dX5_init_17 : decode cX5_init 17 = .ok (.putfield 15, 3) := by decide +kernel
theorem dX5_init_20 : decode cX5_init 20 = .ok (.aload_n 0, 1) := by decide +kernel
theorem dX5_init_21 : decode cX5_init 21 = .ok (.iload_n 1, 1) := by decide +kernel
theorem dX5_init_22 : decode cX5_init 22 = .ok (.putfield 18, 3) := by decide +kernel
theorem dX5_init_25 : decode cX5_init 25 = .ok (.return_, 1) := by decide +kernel
theorem dX6_init_0 : decode cX6_init 0 = .ok (.aload_n 0, 1) := by decide +kernel
theorem dX6_init_1 : decode cX6_init 1 = .ok (.invokespecial 5, 3) := by decide +kernel
theorem dX6_init_4 : decode cX6_init 4 = .ok (.aload_n 0, 1) := by decide +kernel
theorem dX6_init_5 : decode cX6_init 5 = .ok (.sipush 3100, 3) := by decide +kernel
theorem dX6_init_8 : decode cX6_init 8 = .ok (.newarray .long, 2) := by decide +kernel
theorem dX6_init_10 : decode cX6_init 10 = .ok (.putfield 11, 3) := by decide +kernel
theorem dX6_init_13 : decode cX6_init 13 = .ok (.aload_n 0, 1) := by decide +kernel
theorem dX6_init_14 : decode cX6_init 14 = .ok (.sipush 3100, 3) := by decide +kernel
theorem dX6_init_17 : decode cX6_init 17 = .ok (.newarray .int, 2) := by decide +kernel
theorem dX6_init_19 : decode cX6_init 19 = .ok (.putfield 15, 3) := by decide +kernel
theorem dX6_init_22 : decode cX6_init 22 = .ok (.aload_n 0, 1) := by decide +kernel
theorem dX6_init_23 : decode cX6_init 23 = .ok (.sipush 3100, 3) := by decide +kernel
theorem dX6_init_26 : decode cX6_init 26 = .ok (.newarray .int, 2) := by decide +kernel
theorem dX6_init_28 : decode cX6_init 28 = .ok (.putfield 19, 3) := by decide +kernel
theorem dX6_init_31 : decode cX6_init 31 = .ok (.aload_n 0, 1) := by decide +kernel
theorem dX6_init_32 : decode cX6_init 32 = .ok (.sipush 3100, 3) := by decide +kernel
theorem dX6_init_35 : decode cX6_init 35 = .ok (.newarray .int, 2) := by decide +kernel
theorem dX6_init_37 : decode cX6_init 37 = .ok (.putfield 22, 3) := by decide +kernel
theorem dX6_init_40 : decode cX6_init 40 = .ok (.aload_n 0, 1) := by decide +kernel
theorem dX6_init_41 : decode cX6_init 41 = .ok (.bipush 14, 2) := by decide +kernel
theorem dX6_init_43 : decode cX6_init 43 = .ok (.newarray .int, 2) := by decide +kernel
theorem dX6_init_45 : decode cX6_init 45 = .ok (.putfield 25, 3) := by decide +kernel
theorem dX6_init_48 : decode cX6_init 48 = .ok (.aload_n 0, 1) := by decide +kernel
theorem dX6_init_49 : decode cX6_init 49 = .ok (.ldc 28, 2) := by decide +kernel
theorem dX6_init_51 : decode cX6_init 51 = .ok (.newarray .int, 2) := by decide +kernel
theorem dX6_init_53 : decode cX6_init 53 = .ok (.putfield 29, 3) := by decide +kernel
theorem dX6_init_56 : decode cX6_init 56 = .ok (.aload_n 0, 1) := by decide +kernel
theorem dX6_init_57 : decode cX6_init 57 = .ok (.sipush 16800, 3) := by decide +kernel
theorem dX6_init_60 : decode cX6_init 60 = .ok (.newarray .int, 2) := by decide +kernel
theorem dX6_init_62 : decode cX6_init 62 = .ok (.putfield 32, 3) := by decide +kernel
theorem dX6_init_65 : decode cX6_init 65 = .ok (.aload_n 0, 1) := by decide +kernel
theorem dX6_init_66 : decode cX6_init 66 = .ok (.sipush 3100, 3) := by decide +kernel
theorem dX6_init_69 : decode cX6_init 69 = .ok (.newarray .int, 2) := by decide +kernel
theorem dX6_init_71 : decode cX6_init 71 = .ok (.putfield 35, 3) := by decide +kernel
theorem dX6_init_74 : decode cX6_init 74 = .ok (.aload_n 0, 1) := by decide +kernel
theorem dX6_init_75 : decode cX6_init 75 = .ok (.sipush 3100, 3) := by decide +kernel
theorem dX6_init_78 : decode cX6_init 78 = .ok (.newarray .int, 2) := by decide +kernel
theorem dX6_init_80 : decode cX6_init 80 = .ok (.putfield 38, 3) := by decide +kernel
theorem dX6_init_83 : decode cX6_init 83 = .ok (.aload_n 0, 1) := by decide +kernel
theorem dX6_init_84 : decode cX6_init 84 = .ok (.aload_n 1, 1) := by decide +kernel
theorem dX6_init_85 : decode cX6_init 85 = .ok (.putfield 41, 3) := by decide +kernel
theorem dX6_init_88 : decode cX6_init 88 = .ok (.aload_n 0, 1) := by decide +kernel
theorem dX6_init_89 : decode cX6_init 89 = .ok (.aload_n 2, 1) := by decide +kernel
theorem dX6_init_90 : decode cX6_init 90 = .ok (.putfield 45, 3) := by decide +kernel
theorem dX6_init_93 : decode cX6_init 93 = .ok (.return_, 1) := by decide +kernel
theorem dX7_init_0 : decode cX7_init 0 = .ok (.aload_n 0, 1) := by decide +kernel
theorem dX7_init_1 : decode cX7_init 1 = .ok (.invokespecial 3, 3) := by decide +kernel
theorem dX7_init_4 : decode cX7_init 4 = .ok (.aload_n 0, 1) := by decide +kernel
theorem dX7_init_5 : decode cX7_init 5 = .ok (.sipush 6000, 3) := by decide +kernel
theorem dX7_init_8 : decode cX7_init 8 = .ok (.newarray .byte, 2) := by decide +kernel
theorem dX7_init_10 : decode cX7_init 10 = .ok (.putfield 9, 3) := by decide +kernel
theorem dX7_init_13 : decode cX7_init 13 = .ok (.aload_n 0, 1) := by decide +kernel
theorem dX7_init_14 : decode cX7_init 14 = .ok (.sipush 6010, 3) := by decide +kernel
theorem dX7_init_17 : decode cX7_init 17 = .ok (.newarray .int, 2) := by decide +kernel
theorem dX7_init_19 : decode cX7_init 19 = .ok (.putfield 15, 3) := by decide +kernel
theorem dX7_init_22 : decode cX7_init 22 = .ok (.aload_n 0, 1) := by decide +kernel
theorem dX7_init_23 : decode cX7_init 23 = .ok (.sipush 6010, 3) := by decide +kernel
theorem dX7_init_26 : decode cX7_init 26 = .ok (.newarray .int, 2) := by decide +kernel
theorem dX7_init_28 : decode cX7_init 28 = .ok (.putfield 19, 3) := by decide +kernel
theorem dX7_init_31 : decode cX7_init 31 = .ok (.aload_n 0, 1) := by decide +kernel
theorem dX7_init_32 : decode cX7_init 32 = .ok (.sipush 6010, 3) := by decide +kernel
theorem dX7_init_35 : decode cX7_init 35 = .ok (.newarray .int, 2) := by decide +kernel
theorem dX7_init_37 : decode cX7_init 37 = .ok (.putfield 22, 3) := by decide +kernel
theorem dX7_init_40 : decode cX7_init 40 = .ok (.aload_n 0, 1) := by decide +kernel
theorem dX7_init_41 : decode cX7_init 41 = .ok (.sipush 6010, 3) := by decide +kernel
theorem dX7_init_44 : decode cX7_init 44 = .ok (.newarray .int, 2) := by decide +kernel
theorem dX7_init_46 : decode cX7_init 46 = .ok (.putfield 25, 3) := by decide +kernel
theorem dX7_init_49 : decode cX7_init 49 = .ok (.aload_n 0, 1) := by decide +kernel
theorem dX7_init_50 : decode cX7_init 50 = .ok (.sipush 6000, 3) := by decide +kernel
theorem dX7_init_53 : decode cX7_init 53 = .ok (.newarray .int, 2) := by decide +kernel
theorem dX7_init_55 : decode cX7_init 55 = .ok (.putfield 28, 3) := by decide +kernel
theorem dX7_init_58 : decode cX7_init 58 = .ok (.aload_n 0, 1) := by decide +kernel
theorem dX7_init_59 : decode cX7_init 59 = .ok (.sipush 6400, 3) := by decide +kernel
theorem dX7_init_62 : decode cX7_init 62 = .ok (.newarray .byte, 2) := by decide +kernel
theorem dX7_init_64 : decode cX7_init 64 = .ok (.putfield 31, 3) := by decide +kernel
theorem dX7_init_67 : decode cX7_init 67 = .ok (.aload_n 0, 1) := by decide +kernel
theorem dX7_init_68 : decode cX7_init 68 = .ok (.sipush 3150, 3) := by decide +kernel
theorem dX7_init_71 : decode cX7_init 71 = .ok (.newarray .int, 2) := by decide +kernel
theorem dX7_init_73 : decode cX7_init 73 = .ok (.putfield 34, 3) := by decide +kernel
theorem dX7_init_76 : decode cX7_init 76 = .ok (.aload_n 0, 1) := by decide +kernel
theorem dX7_init_77 : decode cX7_init 77 = .ok (.sipush 3150, 3) := by decide +kernel
theorem dX7_init_80 : decode cX7_init 80 = .ok (.newarray .int, 2) := by decide +kernel
theorem dX7_init_82 : decode cX7_init 82 = .ok (.putfield 37, 3) := by decide +kernel
theorem dX7_init_85 : decode cX7_init 85 = .ok (.aload_n 0, 1) := by decide +kernel
theorem dX7_init_86 : decode cX7_init 86 = .ok (.sipush 512, 3) := by decide +kernel
theorem dX7_init_89 : decode cX7_init 89 = .ok (.newarray .int, 2) := by decide +kernel
theorem dX7_init_91 : decode cX7_init 91 = .ok (.putfield 40, 3) := by decide +kernel
theorem dX7_init_94 : decode cX7_init 94 = .ok (.return_, 1) := by decide +kernel
theorem dX8_init_0 : decode cX8_init 0 = .ok (.aload_n 0, 1) := by decide +kernel
theorem dX8_init_1 : decode cX8_init 1 = .ok (.invokespecial 3, 3) := by decide +kernel
theorem dX8_init_4 : decode cX8_init 4 = .ok (.aload_n 0, 1) := by decide +kernel
theorem dX8_init_5 : decode cX8_init 5 = .ok (.sipush 6200, 3) := by decide +kernel
theorem dX8_init_8 : decode cX8_init 8 = .ok (.newarray .int, 2) := by decide +kernel
theorem dX8_init_10 : decode cX8_init 10 = .ok (.putfield 9, 3) := by decide +kernel
theorem dX8_init_13 : decode cX8_init 13 = .ok (.aload_n 0, 1) := by decide +kernel
theorem dX8_init_14 : decode cX8_init 14 = .ok (.sipush 6200, 3) := by decide +kernel
theorem dX8_init_17 : decode cX8_init 17 = .ok (.newarray .int, 2) := by decide +kernel
theorem dX8_init_19 : decode cX8_init 19 = .ok (.putfield 15, 3) := by decide +kernel
theorem dX8_init_22 : decode cX8_init 22 = .ok (.aload_n 0, 1) := by decide +kernel
theorem dX8_init_23 : decode cX8_init 23 = .ok (.sipush 6200, 3) := by decide +kernel
theorem dX8_init_26 : decode cX8_init 26 = .ok (.newarray .int, 2) := by decide +kernel
theorem dX8_init_28 : decode cX8_init 28 = .ok (.putfield 18, 3) := by decide +kernel
theorem dX8_init_31 : decode cX8_init 31 = .ok (.aload_n 0, 1) := by decide +kernel
theorem dX8_init_32 : decode cX8_init 32 = .ok (.sipush 6200, 3) := by decide +kernel
theorem dX8_init_35 : decode cX8_init 35 = .ok (.newarray .int, 2) := by decide +kernel
theorem dX8_init_37 : decode cX8_init 37 = .ok (.putfield 21, 3) := by decide +kernel
theorem dX8_init_40 : decode cX8_init 40 = .ok (.aload_n 0, 1) := by decide +kernel
theorem dX8_init_41 : decode cX8_init 41 = .ok (.sipush 6200, 3) := by decide +kernel
theorem dX8_init_44 : decode cX8_init 44 = .ok (.newarray .int, 2) := by decide +kernel
theorem dX8_init_46 : decode cX8_init 46 = .ok (.putfield 24, 3) := by decide +kernel
theorem dX8_init_49 : decode cX8_init 49 = .ok (.aload_n 0, 1) := by decide +kernel
theorem dX8_init_50 : decode cX8_init 50 = .ok (.sipush 6200, 3) := by decide +kernel
theorem dX8_init_53 : decode cX8_init 53 = .ok (.newarray .int, 2) := by decide +kernel
theorem dX8_init_55 : decode cX8_init 55 = .ok (.putfield 27, 3) := by decide +kernel
theorem dX8_init_58 : decode cX8_init 58 = .ok (.aload_n 0, 1) := by decide +kernel
theorem dX8_init_59 : decode cX8_init 59 = .ok (.sipush 6200, 3) := by decide +kernel
theorem dX8_init_62 : decode cX8_init 62 = .ok (.newarray .int, 2) := by decide +kernel
theorem dX8_init_64 : decode cX8_init 64 = .ok (.putfield 30, 3) := by decide +kernel
theorem dX8_init_67 : decode cX8_init 67 = .ok (.aload_n 0, 1) := by decide +kernel
theorem dX8_init_68 : decode cX8_init 68 = .ok (.sipush 6200, 3) := by decide +kernel
theorem dX8_init_71 : decode cX8_init 71 = .ok (.newarray .int, 2) := by decide +kernel
theorem dX8_init_73 : decode cX8_init 73 = .ok (.putfield 33, 3) := by decide +kernel
theorem dX8_init_76 : decode cX8_init 76 = .ok (.aload_n 0, 1) := by decide +kernel
theorem dX8_init_77 : decode cX8_init 77 = .ok (.sipush 6200, 3) := by decide +kernel
theorem dX8_init_80 : decode cX8_init 80 = .ok (.newarray .int, 2) := by decide +kernel
theorem dX8_init_82 : decode cX8_init 82 = .ok (.putfield 36, 3) := by decide +kernel
theorem dX8_init_85 : decode cX8_init 85 = .ok (.aload_n 0, 1) := by decide +kernel
theorem dX8_init_86 : decode cX8_init 86 = .ok (.sipush 6200, 3) := by decide +kernel
theorem dX8_init_89 : decode cX8_init 89 = .ok (.newarray .int, 2) := by decide +kernel
theorem dX8_init_91 : decode cX8_init 91 = .ok (.putfield 39, 3) := by decide +kernel
theorem dX8_init_94 : decode cX8_init 94 = .ok (.aload_n 0, 1) := by decide +kernel
theorem dX8_init_95 : decode cX8_init 95 = .ok (.aload_n 1, 1) := by decide +kernel
theorem dX8_init_96 : decode cX8_init 96 = .ok (.putfield 42, 3) := by decide +kernel
theorem dX8_init_99 : decode cX8_init 99 = .ok (.return_, 1) := by decide +kernel
theorem dX9_init_0 : decode cX9_init 0 = .ok (.aload_n 0, 1) := by decide +kernel
theorem dX9_init_1 : decode cX9_init 1 = .ok (.invokespecial 3, 3) := by decide +kernel
theorem dX9_init_4 : decode cX9_init 4 = .ok (.aload_n 0, 1) := by decide +kernel
theorem dX9_init_5 : decode cX9_init 5 = .ok (.sipush 3100, 3) := by decide +kernel
theorem dX9_init_8 : decode cX9_init 8 = .ok (.newarray .int, 2) := by decide +kernel
theorem dX9_init_10 : decode cX9_init 10 = .ok (.putfield 9, 3) := by decide +kernel
theorem dX9_init_13 : decode cX9_init 13 = .ok (.aload_n 0, 1) := by decide +kernel
theorem dX9_init_14 : decode cX9_init 14 = .ok (.aload_n 1, 1) := by decide +kernel
theorem dX9_init_15 : decode cX9_init 15 = .ok (.putfield 15, 3) := by decide +kernel
theorem dX9_init_18 : decode cX9_init 18 = .ok (.aload_n 0, 1) := by decide +kernel
theorem dX9_init_19 : decode cX9_init 19 = .ok (.aload_n 2, 1) := by decide +kernel
theorem dX9_init_20 : decode cX9_init 20 = .ok (.putfield 19, 3) := by decide +kernel
theorem dX9_init_23 : decode cX9_init 23 = .ok (.return_, 1) := by decide +kernel
theorem dX10_init_0 : decode cX10_init 0 = .ok (.aload_n 0, 1) := by decide +kernel
theorem dX10_init_1 : decode cX10_init 1 = .ok (.invokespecial 3, 3) := by decide +kernel
theorem dX10_init_4 : decode cX10_init 4 = .ok (.aload_n 0, 1) := by decide +kernel
theorem dX10_init_5 : decode cX10_init 5 = .ok (.sipush 8200, 3) := by decide +kernel
theorem dX10_init_8 : decode cX10_init 8 = .ok (.newarray .int, 2) := by decide +kernel
theorem dX10_init_10 : decode cX10_init 10 = .ok (.putfield 9, 3) := by decide +kernel
theorem dX10_init_13 : decode cX10_init 13 = .ok (.aload_n 0, 1) := by decide +kernel
theorem dX10_init_14 : decode cX10_init 14 = .ok (.sipush 8200, 3) := by decide +kernel
theorem dX10_init_17 : decode cX10_init 17 = .ok (.newarray .int, 2) := by decide +kernel
theorem dX10_init_19 : decode cX10_init 19 = .ok (.putfield 15, 3) := by decide +kernel
theorem dX10_init_22 : decode cX10_init 22 = .ok (.aload_n 0, 1) := by decide +kernel
theorem dX10_init_23 : decode cX10_init 23 = .ok (.sipush 8200, 3) := by decide +kernel
theorem dX10_init_26 : decode cX10_init 26 = .ok (.newarray .int, 2) := by decide +kernel
theorem dX10_init_28 : decode cX10_init 28 = .ok (.putfield 18, 3) := by decide +kernel
theorem dX10_init_31 : decode cX10_init 31 = .ok (.aload_n 0, 1) := by decide +kernel
theorem dX10_init_32 : decode cX10_init 32 = .ok (.sipush 8200, 3) := by decide +kernel
theorem dX10_init_35 : decode cX10_init 35 = .ok (.newarray .int, 2) := by decide +kernel
theorem dX10_init_37 : decode cX10_init 37 = .ok (.putfield 21, 3) := by decide +kernel
theorem dX10_init_40 : decode cX10_init 40 = .ok (.aload_n 0, 1) := by decide +kernel
theorem dX10_init_41 : decode cX10_init 41 = .ok (.ldc 24, 2) := by decide +kernel
theorem dX10_init_43 : decode cX10_init 43 = .ok (.newarray .int, 2) := by decide +kernel
theorem dX10_init_45 : decode cX10_init 45 = .ok (.putfield 25, 3) := by decide +kernel
theorem dX10_init_48 : decode cX10_init 48 = .ok (.aload_n 0, 1) := by decide +kernel
theorem dX10_init_49 : decode cX10_init 49 = .ok (.sipush 3100, 3) := by decide +kernel
theorem dX10_init_52 : decode cX10_init 52 = .ok (.newarray .int, 2) := by decide +kernel
theorem dX10_init_54 : decode cX10_init 54 = .ok (.putfield 28, 3) := by decide +kernel
theorem dX10_init_57 : decode cX10_init 57 = .ok (.aload_n 0, 1) := by decide +kernel
theorem dX10_init_58 : decode cX10_init 58 = .ok (.sipush 3100, 3) := by decide +kernel
theorem dX10_init_61 : decode cX10_init 61 = .ok (.newarray .int, 2) := by decide +kernel
theorem dX10_init_63 : decode cX10_init 63 = .ok (.putfield 31, 3) := by decide +kernel
theorem dX10_init_66 : decode cX10_init 66 = .ok (.aload_n 0, 1) := by decide +kernel
theorem dX10_init_67 : decode cX10_init 67 = .ok (.sipush 6200, 3) := by decide +kernel
theorem dX10_init_70 : decode cX10_init 70 = .ok (.newarray .int, 2) := by decide +kernel
theorem dX10_init_72 : decode cX10_init 72 = .ok (.putfield 34, 3) := by decide +kernel
theorem dX10_init_75 : decode cX10_init 75 = .ok (.aload_n 0, 1) := by decide +kernel
theorem dX10_init_76 : decode cX10_init 76 = .ok (.sipush 3100, 3) := by decide +kernel
theorem dX10_init_79 : decode cX10_init 79 = .ok (.newarray .int, 2) := by decide +kernel
theorem dX10_init_81 : decode cX10_init 81 = .ok (.putfield 37, 3) := by decide +kernel
theorem dX10_init_84 : decode cX10_init 84 = .ok (.aload_n 0, 1) := by decide +kernel
theorem dX10_init_85 : decode cX10_init 85 = .ok (.sipush 3100, 3) := by decide +kernel
theorem dX10_init_88 : decode cX10_init 88 = .ok (.newarray .int, 2) := by decide +kernel
theorem dX10_init_90 : decode cX10_init 90 = .ok (.putfield 40, 3) := by decide +kernel
theorem dX10_init_93 : decode cX10_init 93 = .ok (.aload_n 0, 1) := by decide +kernel
theorem dX10_init_94 : decode cX10_init 94 = .ok (.aload_n 1, 1) := by decide +kernel
theorem dX10_init_95 : decode cX10_init 95 = .ok (.putfield 43, 3) := by decide +kernel
theorem dX10_init_98 : decode cX10_init 98 = .ok (.aload_n 0, 1) := by decide +kernel
theorem dX10_init_99 : decode cX10_init 99 = .ok (.aload_n 2, 1) := by decide +kernel
theorem dX10_init_100 : decode cX10_init 100 = .ok (.putfield 47, 3) := by decide +kernel
theorem dX10_init_103 : decode cX10_init 103 = .ok (.aload_n 0, 1) := by decide +kernel
theorem dX10_init_104 : decode cX10_init 104 = .ok (.aload_n 3, 1) := by decide +kernel
theorem dX10_init_105 : decode cX10_init 105 = .ok (.putfield 51, 3) := by decide +kernel
theorem dX10_init_108 : decode cX10_init 108 = .ok (.return_, 1) := by decide +kernel
set_option maxHeartbeats 4000000 in
set_option maxRecDepth 100000 in
/-- Proc() -/
theorem c_Proc_init (l : Launch) (dC : Nat → ClassId) (dI : Nat → Nat → Nat) (h0 sz : Nat) (fs : List Value) (a1 : Int32) : Met l yX5_init (.code yX5_init cX5_init 2 none :: wP) ({ frames := 1, cells := 2, slots := 48, locals := 12 }) (va_Pc [.ref h0, .int a1] (fun U => U.heap.size = sz ∧ kJ 17 [] fs ∧ va_P (dC, dI) vwCl [(h0, .inr (5, fs))] U.heap ∧ va_K (dC, dI) vwCl [] U ∧ va_D (fun _ => True) [(h0, .inr (5, fs))])) (va_Qv (fun u : List Value => kJ 17 [] u) (fun (u : List Value) (t : State) => va_P (dC, dI) vwCl [(h0, .inr (5, u))] t.heap ∧ va_K (dC, dI) vwCl [] t ∧ va_D (va_A [(h0, .inr (5, fs))] sz) [(h0, .inr (5, u))]) (va_A [(h0, .inr (5, fs))] sz)) 2 48 (va_A [(h0, .inr (5, fs))] sz) := by
  refine Met.ofW (cc := cX5_init) (maxL := 2) (ret := none) (by decide) rfl ?_
  intro p e s m args below meth c s₁ B hml hv
  obtain ⟨rfl, hsz, hJ, hP, hK, hD0⟩ := hv
  have hx := B.exec
  have hb := B.bytes
  have hr := B.returns
  have hts := atoms_spec (ws := .code yX5_init cX5_init 2 none :: wP) B.pre
  have hown : s.vm.findClass RX5 = some m.cls := findClass_of_methodNamed B.named
  subst hsz
  have hD := hD0.self (sz := s.heap.size)
  generalize hAe : va_A [(h0, .inr (5, fs))] s.heap.size = A at hD ⊢
  have hA : ∀ q : Nat, s.heap.size ≤ q → A q := fun q h => by rw [← hAe]; exact Or.inr h
  have hS : va_S A s.heap s.heap [] := va_S.rf
  have hl := lv_entry ([.ref h0, .int a1]) (n := 2) (Nat.le_of_ble_eq_true rfl)
  rw [lg_entry_eq]
  generalize (lg_sl ([.ref h0, .int a1]) ++ List.replicate (2 - (lg_sl ([.ref h0, .int a1])).length) Slot.unset).toArray = ls at hl ⊢
  obtain ⟨H, hHe⟩ : ∃ H, H = s.heap := ⟨_, rfl⟩
  rw [← hHe] at hP ⊢
  have hS : va_S A s.heap H [] := by rw [hHe]; exact hS
  have hin2 : meth.name = "<init>" := (name_of_methodNamed B.named B.method).1
  have hl : lv_has ls 2 [(0, .ref h0), (1, .int a1)] := hl
  refine lv_aload_n hx hb dX5_init_0 rfl (lv_at hl 0 rfl) ?_
  refine W.objInit hx hb hown (hts _ (bP 207 rfl)) (hts _ (bP 1 rfl)) (hts _ (bP 2 rfl)) rfl (by rw [hml]; exact hl.1) rfl dX5_init_1 (Nat.le_of_ble_eq_true rfl) (Nat.le_of_ble_eq_true rfl) ?_
  refine W.eq (g2 := F0 m 4 ls []) rfl ?_
  refine lv_aload_n hx hb dX5_init_4 rfl (lv_at hl 0 rfl) ?_
  refine lv_bipush (v := 16) hx hb dX5_init_5 (by decide) ?_
  refine k_newa (N' := 16) hx hb (hts _ (bP 7 rfl)) hP hD hS (by decide) (by decide) (by decide) (Nat.le_of_ble_eq_true rfl) (Nat.le_of_ble_eq_true rfl) dX5_init_7 (fun n1 H hP hD hS => ?_)
  refine kq_put [] hts iX5 tyX5 tyX5_ok nmX5 hx hb hown hK hP hD hS 0 rfl rfl hJ 11 (by decide) (by decide) (hts _ (bP 208 rfl)) rfl (ty := .array .int) (by decide +kernel) (v := .ref n1) rfl rfl dX5_init_9 (fun f h => kJ_set h _ _ rfl) (fun H locs fs hJ hP hD hS => ?_)
  have hP : va_P (dC, dI) vwCl [(h0, .inr (5, fs))] H := hP
  have hD : va_D A [(h0, .inr (5, fs))] := hD
  refine lv_aload_n hx hb dX5_init_12 rfl (lv_at hl 0 rfl) ?_
  refine lv_bipush (v := 32) hx hb dX5_init_13 (by decide) ?_
  refine k_newa (N' := 32) hx hb (hts _ (bP 7 rfl)) hP hD hS (by decide) (by decide) (by decide) (Nat.le_of_ble_eq_true rfl) (Nat.le_of_ble_eq_true rfl) dX5_init_15 (fun n2 H hP hD hS => ?_)
  refine kq_putF [] hts iX5 tyX5 tyX5_ok nmX5 hx hb hown hin2 hK hP hD hS 0 rfl rfl hJ 15 (by decide) (by decide) rfl (hts _ (bP 209 rfl)) rfl (ty := .array .int) (by decide +kernel) (v := .ref n2) rfl rfl dX5_init_17 (fun f h => kJ_set h _ _ rfl) (fun H locs fs hJ hP hD hS => ?_)
  have hP : va_P (dC, dI) vwCl [(h0, .inr (5, fs))] H := hP
  have hD : va_D A [(h0, .inr (5, fs))] := hD
  refine lv_aload_n hx hb dX5_init_20 rfl (lv_at hl 0 rfl) ?_
  refine lv_iload_n hx hb dX5_init_21 rfl (lv_at hl 1 rfl) ?_
  refine kq_putF [(0, .int a1)] hts iX5 tyX5 tyX5_ok nmX5 hx hb hown hin2 hK hP hD hS 0 rfl rfl hJ 0 (by decide) (by decide) rfl (hts _ (bP 210 rfl)) rfl (ty := .int) (by decide +kernel) (v := .int a1) rfl rfl dX5_init_22 (fun f h => kJ_put h _ _ (by decide)) (fun H locs fs hJ hP hD hS => ?_)
  have hP : va_P (dC, dI) vwCl [(h0, .inr (5, fs))] H := hP
  have hD : va_D A [(h0, .inr (5, fs))] := hD
  refine W.widen (k := 2) (n := 48) (Nat.le_of_ble_eq_true rfl) (Nat.le_of_ble_eq_true rfl) ?_
  exact W.vret hx hb hr (fun t ht hW => ⟨⟨fs, rfl, kJ_sub hJ (by simp), by rw [ht]; exact hP, va_K.moved hW.alike hK, hD⟩, hS.F ht⟩) hS.2.2 dX5_init_25
set_option maxHeartbeats 4000000 in
set_option maxRecDepth 100000 in
/-- Heap() -/
theorem c_Heap_init (l : Launch) (dC : Nat → ClassId) (dI : Nat → Nat → Nat) (h0 sz : Nat) (fs : List Value) : Met l yX2_init (.code yX2_init cX2_init 1 none :: wP) ({ frames := 1, cells := 7, slots := 7168, locals := 12 }) (va_Pc [.ref h0] (fun U => U.heap.size = sz ∧ kJ 13 [] fs ∧ va_P (dC, dI) vwCl [(h0, .inr (2, fs))] U.heap ∧ va_K (dC, dI) vwCl [] U ∧ va_D (fun _ => True) [(h0, .inr (2, fs))])) (va_Qv (fun _ : Unit => True) (fun (_ : Unit) (_ : State) => True) (va_A [(h0, .inr (2, fs))] sz)) 7 7168 (va_A [(h0, .inr (2, fs))] sz) := by
  refine Met.ofW (cc := cX2_init) (maxL := 1) (ret := none) (by decide) rfl ?_
  intro p e s m args below meth c s₁ B hml hv
  obtain ⟨rfl, hsz, hJ, hP, hK, hD0⟩ := hv
  have hx := B.exec
  have hb := B.bytes
  have hr := B.returns
  have hts := atoms_spec (ws := .code yX2_init cX2_init 1 none :: wP) B.pre
  have hown : s.vm.findClass RX2 = some m.cls := findClass_of_methodNamed B.named
  subst hsz
  have hD := hD0.self (sz := s.heap.size)
  generalize hAe : va_A [(h0, .inr (2, fs))] s.heap.size = A at hD ⊢
  have hA : ∀ q : Nat, s.heap.size ≤ q → A q := fun q h => by rw [← hAe]; exact Or.inr h
  have hS : va_S A s.heap s.heap [] := va_S.rf
  have hl := lv_entry ([.ref h0]) (n := 1) (Nat.le_of_ble_eq_true rfl)
  rw [lg_entry_eq]
  generalize (lg_sl ([.ref h0]) ++ List.replicate (1 - (lg_sl ([.ref h0])).length) Slot.unset).toArray = ls at hl ⊢
  obtain ⟨H, hHe⟩ : ∃ H, H = s.heap := ⟨_, rfl⟩
  rw [← hHe] at hP ⊢
  have hS : va_S A s.heap H [] := by rw [hHe]; exact hS
  have hin2 : meth.name = "<init>" := (name_of_methodNamed B.named B.method).1
  have hl : lv_has ls 1 [(0, .ref h0)] := hl
  refine lv_aload_n hx hb dX2_init_0 rfl (lv_at hl 0 rfl) ?_
  refine W.objInit hx hb hown (hts _ (bP 212 rfl)) (hts _ (bP 1 rfl)) (hts _ (bP 2 rfl)) rfl (by rw [hml]; exact hl.1) rfl dX2_init_1 (Nat.le_of_ble_eq_true rfl) (Nat.le_of_ble_eq_true rfl) ?_
  refine W.eq (g2 := F0 m 4 ls []) rfl ?_
  refine lv_aload_n hx hb dX2_init_4 rfl (lv_at hl 0 rfl) ?_
  refine lv_sipush (v := 4096) hx hb dX2_init_5 (by decide) ?_
  refine k_newa (N' := 4096) hx hb (hts _ (bP 7 rfl)) hP hD hS (by decide) (by decide) (by decide) (Nat.le_of_ble_eq_true rfl) (Nat.le_of_ble_eq_true rfl) dX2_init_8 (fun n1 H hP hD hS => ?_)
  refine kq_put [] hts iX2 tyX2 tyX2_ok nmX2 hx hb hown hK hP hD hS 0 rfl rfl hJ 1 (by decide) (by decide) (hts _ (bP 213 rfl)) rfl (ty := .array .int) (by decide +kernel) (v := .ref n1) rfl rfl dX2_init_10 (fun f h => kJ_set h _ _ rfl) (fun H locs fs hJ hP hD hS => ?_)
  have hP : va_P (dC, dI) vwCl [(h0, .inr (2, fs))] H := hP
  have hD : va_D A [(h0, .inr (2, fs))] := hD
  refine lv_aload_n hx hb dX2_init_13 rfl (lv_at hl 0 rfl) ?_
  refine lv_sipush (v := 512) hx hb dX2_init_14 (by decide) ?_
  refine k_newa (N' := 512) hx hb (hts _ (bP 7 rfl)) hP hD hS (by decide) (by decide) (by decide) (Nat.le_of_ble_eq_true rfl) (Nat.le_of_ble_eq_true rfl) dX2_init_17 (fun n2 H hP hD hS => ?_)
  refine kq_put [] hts iX2 tyX2 tyX2_ok nmX2 hx hb hown hK hP hD hS 0 rfl rfl hJ 2 (by decide) (by decide) (hts _ (bP 214 rfl)) rfl (ty := .array .int) (by decide +kernel) (v := .ref n2) rfl rfl dX2_init_19 (fun f h => kJ_set h _ _ rfl) (fun H locs fs hJ hP hD hS => ?_)
  have hP : va_P (dC, dI) vwCl [(h0, .inr (2, fs))] H := hP
  have hD : va_D A [(h0, .inr (2, fs))] := hD
  refine lv_aload_n hx hb dX2_init_22 rfl (lv_at hl 0 rfl) ?_
  refine lv_sipush (v := 512) hx hb dX2_init_23 (by decide) ?_
  refine k_newa (N' := 512) hx hb (hts _ (bP 7 rfl)) hP hD hS (by decide) (by decide) (by decide) (Nat.le_of_ble_eq_true rfl) (Nat.le_of_ble_eq_true rfl) dX2_init_26 (fun n3 H hP hD hS => ?_)
  refine kq_put [] hts iX2 tyX2 tyX2_ok nmX2 hx hb hown hK hP hD hS 0 rfl rfl hJ 3 (by decide) (by decide) (hts _ (bP 215 rfl)) rfl (ty := .array .int) (by decide +kernel) (v := .ref n3) rfl rfl dX2_init_28 (fun f h => kJ_set h _ _ rfl) (fun H locs fs hJ hP hD hS => ?_)
  have hP : va_P (dC, dI) vwCl [(h0, .inr (2, fs))] H := hP
  have hD : va_D A [(h0, .inr (2, fs))] := hD
  refine lv_aload_n hx hb dX2_init_31 rfl (lv_at hl 0 rfl) ?_
  refine lv_sipush (v := 512) hx hb dX2_init_32 (by decide) ?_
  refine k_newa (N' := 512) hx hb (hts _ (bP 7 rfl)) hP hD hS (by decide) (by decide) (by decide) (Nat.le_of_ble_eq_true rfl) (Nat.le_of_ble_eq_true rfl) dX2_init_35 (fun n4 H hP hD hS => ?_)
  refine kq_put [] hts iX2 tyX2 tyX2_ok nmX2 hx hb hown hK hP hD hS 0 rfl rfl hJ 4 (by decide) (by decide) (hts _ (bP 216 rfl)) rfl (ty := .array .int) (by decide +kernel) (v := .ref n4) rfl rfl dX2_init_37 (fun f h => kJ_set h _ _ rfl) (fun H locs fs hJ hP hD hS => ?_)
  have hP : va_P (dC, dI) vwCl [(h0, .inr (2, fs))] H := hP
  have hD : va_D A [(h0, .inr (2, fs))] := hD
  refine lv_aload_n hx hb dX2_init_40 rfl (lv_at hl 0 rfl) ?_
  refine lv_sipush (v := 512) hx hb dX2_init_41 (by decide) ?_
  refine k_newa (N' := 512) hx hb (hts _ (bP 7 rfl)) hP hD hS (by decide) (by decide) (by decide) (Nat.le_of_ble_eq_true rfl) (Nat.le_of_ble_eq_true rfl) dX2_init_44 (fun n5 H hP hD hS => ?_)
  refine kq_put [] hts iX2 tyX2 tyX2_ok nmX2 hx hb hown hK hP hD hS 0 rfl rfl hJ 5 (by decide) (by decide) (hts _ (bP 217 rfl)) rfl (ty := .array .int) (by decide +kernel) (v := .ref n5) rfl rfl dX2_init_46 (fun f h => kJ_set h _ _ rfl) (fun H locs fs hJ hP hD hS => ?_)
  have hP : va_P (dC, dI) vwCl [(h0, .inr (2, fs))] H := hP
  have hD : va_D A [(h0, .inr (2, fs))] := hD
  refine lv_aload_n hx hb dX2_init_49 rfl (lv_at hl 0 rfl) ?_
  refine lv_sipush (v := 512) hx hb dX2_init_50 (by decide) ?_
  refine k_newa (N' := 512) hx hb (hts _ (bP 7 rfl)) hP hD hS (by decide) (by decide) (by decide) (Nat.le_of_ble_eq_true rfl) (Nat.le_of_ble_eq_true rfl) dX2_init_53 (fun n6 H hP hD hS => ?_)
  refine kq_put [] hts iX2 tyX2 tyX2_ok nmX2 hx hb hown hK hP hD hS 0 rfl rfl hJ 6 (by decide) (by decide) (hts _ (bP 218 rfl)) rfl (ty := .array .int) (by decide +kernel) (v := .ref n6) rfl rfl dX2_init_55 (fun f h => kJ_set h _ _ rfl) (fun H locs fs hJ hP hD hS => ?_)
  have hP : va_P (dC, dI) vwCl [(h0, .inr (2, fs))] H := hP
  have hD : va_D A [(h0, .inr (2, fs))] := hD
  refine lv_aload_n hx hb dX2_init_58 rfl (lv_at hl 0 rfl) ?_
  refine lv_sipush (v := 512) hx hb dX2_init_59 (by decide) ?_
  refine k_newa (N' := 512) hx hb (hts _ (bP 7 rfl)) hP hD hS (by decide) (by decide) (by decide) (Nat.le_of_ble_eq_true rfl) (Nat.le_of_ble_eq_true rfl) dX2_init_62 (fun n7 H hP hD hS => ?_)
  refine kq_put [] hts iX2 tyX2 tyX2_ok nmX2 hx hb hown hK hP hD hS 0 rfl rfl hJ 7 (by decide) (by decide) (hts _ (bP 219 rfl)) rfl (ty := .array .int) (by decide +kernel) (v := .ref n7) rfl rfl dX2_init_64 (fun f h => kJ_set h _ _ rfl) (fun H locs fs hJ hP hD hS => ?_)
  have hP : va_P (dC, dI) vwCl [(h0, .inr (2, fs))] H := hP
  have hD : va_D A [(h0, .inr (2, fs))] := hD
  refine W.widen (k := 7) (n := 7168) (Nat.le_of_ble_eq_true rfl) (Nat.le_of_ble_eq_true rfl) ?_
  exact W.vret hx hb hr (fun t ht hW => ⟨⟨(), rfl, trivial, trivial⟩, hS.F ht⟩) hS.2.2 dX2_init_67
set_option maxHeartbeats 4000000 in
set_option maxRecDepth 100000 in
/-- Names() -/
theorem c_Names_init (l : Launch) (dC : Nat → ClassId) (dI : Nat → Nat → Nat) (h0 sz : Nat) (fs : List Value) (a1 : Nat) : Met l yX4_init (.code yX4_init cX4_init 2 none :: wP) ({ frames := 1, cells := 12, slots := 37300, locals := 12 }) (va_Pc [.ref h0, .ref a1] (fun U => U.heap.size = sz ∧ kJ 16 [] fs ∧ va_P (dC, dI) vwCl [(h0, .inr (4, fs))] U.heap ∧ va_K (dC, dI) vwCl [] U ∧ va_D (fun _ => True) [(h0, .inr (4, fs))])) (va_Qv (fun _ : Unit => True) (fun (_ : Unit) (_ : State) => True) (va_A [(h0, .inr (4, fs))] sz)) 12 37300 (va_A [(h0, .inr (4, fs))] sz) := by
  refine Met.ofW (cc := cX4_init) (maxL := 2) (ret := none) (by decide) rfl ?_
  intro p e s m args below meth c s₁ B hml hv
  obtain ⟨rfl, hsz, hJ, hP, hK, hD0⟩ := hv
  have hx := B.exec
  have hb := B.bytes
  have hr := B.returns
  have hts := atoms_spec (ws := .code yX4_init cX4_init 2 none :: wP) B.pre
  have hown : s.vm.findClass RX4 = some m.cls := findClass_of_methodNamed B.named
  subst hsz
  have hD := hD0.self (sz := s.heap.size)
  generalize hAe : va_A [(h0, .inr (4, fs))] s.heap.size = A at hD ⊢
  have hA : ∀ q : Nat, s.heap.size ≤ q → A q := fun q h => by rw [← hAe]; exact Or.inr h
  have hS : va_S A s.heap s.heap [] := va_S.rf
  have hl := lv_entry ([.ref h0, .ref a1]) (n := 2) (Nat.le_of_ble_eq_true rfl)
  rw [lg_entry_eq]
  generalize (lg_sl ([.ref h0, .ref a1]) ++ List.replicate (2 - (lg_sl ([.ref h0, .ref a1])).length) Slot.unset).toArray = ls at hl ⊢
  obtain ⟨H, hHe⟩ : ∃ H, H = s.heap := ⟨_, rfl⟩
  rw [← hHe] at hP ⊢
  have hS : va_S A s.heap H [] := by rw [hHe]; exact hS
  have hin2 : meth.name = "<init>" := (name_of_methodNamed B.named B.method).1
  have hl : lv_has ls 2 [(0, .ref h0), (1, .ref a1)] := hl
  refine lv_aload_n hx hb dX4_init_0 rfl (lv_at hl 0 rfl) ?_
  refine W.objInit hx hb hown (hts _ (bP 221 rfl)) (hts _ (bP 1 rfl)) (hts _ (bP 2 rfl)) rfl (by rw [hml]; exact hl.1) rfl dX4_init_1 (Nat.le_of_ble_eq_true rfl) (Nat.le_of_ble_eq_true rfl) ?_
  refine W.eq (g2 := F0 m 4 ls []) rfl ?_
  refine lv_aload_n hx hb dX4_init_4 rfl (lv_at hl 0 rfl) ?_
  refine lv_sipush (v := 3100) hx hb dX4_init_5 (by decide) ?_
  refine k_newa (N' := 3100) hx hb (hts _ (bP 7 rfl)) hP hD hS (by decide) (by decide) (by decide) (Nat.le_of_ble_eq_true rfl) (Nat.le_of_ble_eq_true rfl) dX4_init_8 (fun n1 H hP hD hS => ?_)
  refine kq_putF [] hts iX4 tyX4 tyX4_ok nmX4 hx hb hown hin2 hK hP hD hS 0 rfl rfl hJ 0 (by decide) (by decide) rfl (hts _ (bP 222 rfl)) rfl (ty := .array .int) (by decide +kernel) (v := .ref n1) rfl rfl dX4_init_10 (fun f h => kJ_set h _ _ rfl) (fun H locs fs hJ hP hD hS => ?_)
  have hP : va_P (dC, dI) vwCl [(h0, .inr (4, fs))] H := hP
  have hD : va_D A [(h0, .inr (4, fs))] := hD
  refine lv_aload_n hx hb dX4_init_13 rfl (lv_at hl 0 rfl) ?_
  refine lv_sipush (v := 3100) hx hb dX4_init_14 (by decide) ?_
  refine k_newa (N' := 3100) hx hb (hts _ (bP 7 rfl)) hP hD hS (by decide) (by decide) (by decide) (Nat.le_of_ble_eq_true rfl) (Nat.le_of_ble_eq_true rfl) dX4_init_17 (fun n2 H hP hD hS => ?_)
  refine kq_putF [] hts iX4 tyX4 tyX4_ok nmX4 hx hb hown hin2 hK hP hD hS 0 rfl rfl hJ 1 (by decide) (by decide) rfl (hts _ (bP 223 rfl)) rfl (ty := .array .int) (by decide +kernel) (v := .ref n2) rfl rfl dX4_init_19 (fun f h => kJ_set h _ _ rfl) (fun H locs fs hJ hP hD hS => ?_)
  have hP : va_P (dC, dI) vwCl [(h0, .inr (4, fs))] H := hP
  have hD : va_D A [(h0, .inr (4, fs))] := hD
  refine lv_aload_n hx hb dX4_init_22 rfl (lv_at hl 0 rfl) ?_
  refine lv_sipush (v := 3100) hx hb dX4_init_23 (by decide) ?_
  refine k_newa (N' := 3100) hx hb (hts _ (bP 7 rfl)) hP hD hS (by decide) (by decide) (by decide) (Nat.le_of_ble_eq_true rfl) (Nat.le_of_ble_eq_true rfl) dX4_init_26 (fun n3 H hP hD hS => ?_)
  refine kq_putF [] hts iX4 tyX4 tyX4_ok nmX4 hx hb hown hin2 hK hP hD hS 0 rfl rfl hJ 2 (by decide) (by decide) rfl (hts _ (bP 224 rfl)) rfl (ty := .array .int) (by decide +kernel) (v := .ref n3) rfl rfl dX4_init_28 (fun f h => kJ_set h _ _ rfl) (fun H locs fs hJ hP hD hS => ?_)
  have hP : va_P (dC, dI) vwCl [(h0, .inr (4, fs))] H := hP
  have hD : va_D A [(h0, .inr (4, fs))] := hD
  refine lv_aload_n hx hb dX4_init_31 rfl (lv_at hl 0 rfl) ?_
  refine lv_sipush (v := 3100) hx hb dX4_init_32 (by decide) ?_
  refine k_newa (N' := 3100) hx hb (hts _ (bP 7 rfl)) hP hD hS (by decide) (by decide) (by decide) (Nat.le_of_ble_eq_true rfl) (Nat.le_of_ble_eq_true rfl) dX4_init_35 (fun n4 H hP hD hS => ?_)
  refine kq_putF [] hts iX4 tyX4 tyX4_ok nmX4 hx hb hown hin2 hK hP hD hS 0 rfl rfl hJ 3 (by decide) (by decide) rfl (hts _ (bP 225 rfl)) rfl (ty := .array .int) (by decide +kernel) (v := .ref n4) rfl rfl dX4_init_37 (fun f h => kJ_set h _ _ rfl) (fun H locs fs hJ hP hD hS => ?_)
  have hP : va_P (dC, dI) vwCl [(h0, .inr (4, fs))] H := hP
  have hD : va_D A [(h0, .inr (4, fs))] := hD
  refine lv_aload_n hx hb dX4_init_40 rfl (lv_at hl 0 rfl) ?_
  refine lv_sipush (v := 3100) hx hb dX4_init_41 (by decide) ?_
  refine k_newa (N' := 3100) hx hb (hts _ (bP 7 rfl)) hP hD hS (by decide) (by decide) (by decide) (Nat.le_of_ble_eq_true rfl) (Nat.le_of_ble_eq_true rfl) dX4_init_44 (fun n5 H hP hD hS => ?_)
  refine kq_putF [] hts iX4 tyX4 tyX4_ok nmX4 hx hb hown hin2 hK hP hD hS 0 rfl rfl hJ 4 (by decide) (by decide) rfl (hts _ (bP 226 rfl)) rfl (ty := .array .int) (by decide +kernel) (v := .ref n5) rfl rfl dX4_init_46 (fun f h => kJ_set h _ _ rfl) (fun H locs fs hJ hP hD hS => ?_)
  have hP : va_P (dC, dI) vwCl [(h0, .inr (4, fs))] H := hP
  have hD : va_D A [(h0, .inr (4, fs))] := hD
  refine lv_aload_n hx hb dX4_init_49 rfl (lv_at hl 0 rfl) ?_
  refine lv_sipush (v := 3100) hx hb dX4_init_50 (by decide) ?_
  refine k_newa (N' := 3100) hx hb (hts _ (bP 7 rfl)) hP hD hS (by decide) (by decide) (by decide) (Nat.le_of_ble_eq_true rfl) (Nat.le_of_ble_eq_true rfl) dX4_init_53 (fun n6 H hP hD hS => ?_)
  refine kq_putF [] hts iX4 tyX4 tyX4_ok nmX4 hx hb hown hin2 hK hP hD hS 0 rfl rfl hJ 5 (by decide) (by decide) rfl (hts _ (bP 227 rfl)) rfl (ty := .array .int) (by decide +kernel) (v := .ref n6) rfl rfl dX4_init_55 (fun f h => kJ_set h _ _ rfl) (fun H locs fs hJ hP hD hS => ?_)
  have hP : va_P (dC, dI) vwCl [(h0, .inr (4, fs))] H := hP
  have hD : va_D A [(h0, .inr (4, fs))] := hD
  refine lv_aload_n hx hb dX4_init_58 rfl (lv_at hl 0 rfl) ?_
  refine lv_sipush (v := 3100) hx hb dX4_init_59 (by decide) ?_
  refine k_newa (N' := 3100) hx hb (hts _ (bP 7 rfl)) hP hD hS (by decide) (by decide) (by decide) (Nat.le_of_ble_eq_true rfl) (Nat.le_of_ble_eq_true rfl) dX4_init_62 (fun n7 H hP hD hS => ?_)
  refine kq_putF [] hts iX4 tyX4 tyX4_ok nmX4 hx hb hown hin2 hK hP hD hS 0 rfl rfl hJ 6 (by decide) (by decide) rfl (hts _ (bP 228 rfl)) rfl (ty := .array .int) (by decide +kernel) (v := .ref n7) rfl rfl dX4_init_64 (fun f h => kJ_set h _ _ rfl) (fun H locs fs hJ hP hD hS => ?_)
  have hP : va_P (dC, dI) vwCl [(h0, .inr (4, fs))] H := hP
  have hD : va_D A [(h0, .inr (4, fs))] := hD
  refine lv_aload_n hx hb dX4_init_67 rfl (lv_at hl 0 rfl) ?_
  refine lv_sipush (v := 3100) hx hb dX4_init_68 (by decide) ?_
  refine k_newa (N' := 3100) hx hb (hts _ (bP 7 rfl)) hP hD hS (by decide) (by decide) (by decide) (Nat.le_of_ble_eq_true rfl) (Nat.le_of_ble_eq_true rfl) dX4_init_71 (fun n8 H hP hD hS => ?_)
  refine kq_putF [] hts iX4 tyX4 tyX4_ok nmX4 hx hb hown hin2 hK hP hD hS 0 rfl rfl hJ 9 (by decide) (by decide) rfl (hts _ (bP 229 rfl)) rfl (ty := .array .int) (by decide +kernel) (v := .ref n8) rfl rfl dX4_init_73 (fun f h => kJ_set h _ _ rfl) (fun H locs fs hJ hP hD hS => ?_)
  have hP : va_P (dC, dI) vwCl [(h0, .inr (4, fs))] H := hP
  have hD : va_D A [(h0, .inr (4, fs))] := hD
  refine lv_aload_n hx hb dX4_init_76 rfl (lv_at hl 0 rfl) ?_
  refine lv_sipush (v := 3100) hx hb dX4_init_77 (by decide) ?_
  refine k_newa (N' := 3100) hx hb (hts _ (bP 7 rfl)) hP hD hS (by decide) (by decide) (by decide) (Nat.le_of_ble_eq_true rfl) (Nat.le_of_ble_eq_true rfl) dX4_init_80 (fun n9 H hP hD hS => ?_)
  refine kq_putF [] hts iX4 tyX4 tyX4_ok nmX4 hx hb hown hin2 hK hP hD hS 0 rfl rfl hJ 10 (by decide) (by decide) rfl (hts _ (bP 230 rfl)) rfl (ty := .array .int) (by decide +kernel) (v := .ref n9) rfl rfl dX4_init_82 (fun f h => kJ_set h _ _ rfl) (fun H locs fs hJ hP hD hS => ?_)
  have hP : va_P (dC, dI) vwCl [(h0, .inr (4, fs))] H := hP
  have hD : va_D A [(h0, .inr (4, fs))] := hD
  refine lv_aload_n hx hb dX4_init_85 rfl (lv_at hl 0 rfl) ?_
  refine lv_sipush (v := 3150) hx hb dX4_init_86 (by decide) ?_
  refine k_newa (N' := 3150) hx hb (hts _ (bP 7 rfl)) hP hD hS (by decide) (by decide) (by decide) (Nat.le_of_ble_eq_true rfl) (Nat.le_of_ble_eq_true rfl) dX4_init_89 (fun n10 H hP hD hS => ?_)
  refine kq_putF [] hts iX4 tyX4 tyX4_ok nmX4 hx hb hown hin2 hK hP hD hS 0 rfl rfl hJ 11 (by decide) (by decide) rfl (hts _ (bP 231 rfl)) rfl (ty := .array .int) (by decide +kernel) (v := .ref n10) rfl rfl dX4_init_91 (fun f h => kJ_set h _ _ rfl) (fun H locs fs hJ hP hD hS => ?_)
  have hP : va_P (dC, dI) vwCl [(h0, .inr (4, fs))] H := hP
  have hD : va_D A [(h0, .inr (4, fs))] := hD
  refine lv_aload_n hx hb dX4_init_94 rfl (lv_at hl 0 rfl) ?_
  refine lv_sipush (v := 3150) hx hb dX4_init_95 (by decide) ?_
  refine k_newa (N' := 3150) hx hb (hts _ (bP 7 rfl)) hP hD hS (by decide) (by decide) (by decide) (Nat.le_of_ble_eq_true rfl) (Nat.le_of_ble_eq_true rfl) dX4_init_98 (fun n11 H hP hD hS => ?_)
  refine kq_putF [] hts iX4 tyX4 tyX4_ok nmX4 hx hb hown hin2 hK hP hD hS 0 rfl rfl hJ 12 (by decide) (by decide) rfl (hts _ (bP 232 rfl)) rfl (ty := .array .int) (by decide +kernel) (v := .ref n11) rfl rfl dX4_init_100 (fun f h => kJ_set h _ _ rfl) (fun H locs fs hJ hP hD hS => ?_)
  have hP : va_P (dC, dI) vwCl [(h0, .inr (4, fs))] H := hP
  have hD : va_D A [(h0, .inr (4, fs))] := hD
  refine lv_aload_n hx hb dX4_init_103 rfl (lv_at hl 0 rfl) ?_
  refine lv_sipush (v := 3100) hx hb dX4_init_104 (by decide) ?_
  refine k_newa (N' := 3100) hx hb (hts _ (bP 7 rfl)) hP hD hS (by decide) (by decide) (by decide) (Nat.le_of_ble_eq_true rfl) (Nat.le_of_ble_eq_true rfl) dX4_init_107 (fun n12 H hP hD hS => ?_)
  refine kq_putF [] hts iX4 tyX4 tyX4_ok nmX4 hx hb hown hin2 hK hP hD hS 0 rfl rfl hJ 13 (by decide) (by decide) rfl (hts _ (bP 233 rfl)) rfl (ty := .array .int) (by decide +kernel) (v := .ref n12) rfl rfl dX4_init_109 (fun f h => kJ_set h _ _ rfl) (fun H locs fs hJ hP hD hS => ?_)
  have hP : va_P (dC, dI) vwCl [(h0, .inr (4, fs))] H := hP
  have hD : va_D A [(h0, .inr (4, fs))] := hD
  refine lv_aload_n hx hb dX4_init_112 rfl (lv_at hl 0 rfl) ?_
  refine lv_aload_n hx hb dX4_init_113 rfl (lv_at hl 1 rfl) ?_
  refine kq_putF [] hts iX4 tyX4 tyX4_ok nmX4 hx hb hown hin2 hK hP hD hS 0 rfl rfl hJ 8 (by decide) (by decide) rfl (hts _ (bP 234 rfl)) rfl (ty := .object "MeetingHouse$Tree") (by decide +kernel) (v := .ref a1) rfl rfl dX4_init_114 (fun f h => kJ_set h _ _ rfl) (fun H locs fs hJ hP hD hS => ?_)
  have hP : va_P (dC, dI) vwCl [(h0, .inr (4, fs))] H := hP
  have hD : va_D A [(h0, .inr (4, fs))] := hD
  refine W.widen (k := 12) (n := 37300) (Nat.le_of_ble_eq_true rfl) (Nat.le_of_ble_eq_true rfl) ?_
  exact W.vret hx hb hr (fun t ht hW => ⟨⟨(), rfl, trivial, trivial⟩, hS.F ht⟩) hS.2.2 dX4_init_117
set_option maxHeartbeats 4000000 in
set_option maxRecDepth 100000 in
/-- Types() -/
theorem c_Types_init (l : Launch) (dC : Nat → ClassId) (dI : Nat → Nat → Nat) (h0 sz : Nat) (fs : List Value) (a1 : Nat) (a2 : Nat) : Met l yX9_init (.code yX9_init cX9_init 3 none :: wP) ({ frames := 1, cells := 1, slots := 3100, locals := 12 }) (va_Pc [.ref h0, .ref a1, .ref a2] (fun U => U.heap.size = sz ∧ kJ 6 [] fs ∧ va_P (dC, dI) vwCl [(h0, .inr (9, fs))] U.heap ∧ va_K (dC, dI) vwCl [] U ∧ va_D (fun _ => True) [(h0, .inr (9, fs))])) (va_Qv (fun _ : Unit => True) (fun (_ : Unit) (_ : State) => True) (va_A [(h0, .inr (9, fs))] sz)) 1 3100 (va_A [(h0, .inr (9, fs))] sz) := by
  refine Met.ofW (cc := cX9_init) (maxL := 3) (ret := none) (by decide) rfl ?_
  intro p e s m args below meth c s₁ B hml hv
  obtain ⟨rfl, hsz, hJ, hP, hK, hD0⟩ := hv
  have hx := B.exec
  have hb := B.bytes
  have hr := B.returns
  have hts := atoms_spec (ws := .code yX9_init cX9_init 3 none :: wP) B.pre
  have hown : s.vm.findClass RX9 = some m.cls := findClass_of_methodNamed B.named
  subst hsz
  have hD := hD0.self (sz := s.heap.size)
  generalize hAe : va_A [(h0, .inr (9, fs))] s.heap.size = A at hD ⊢
  have hA : ∀ q : Nat, s.heap.size ≤ q → A q := fun q h => by rw [← hAe]; exact Or.inr h
  have hS : va_S A s.heap s.heap [] := va_S.rf
  have hl := lv_entry ([.ref h0, .ref a1, .ref a2]) (n := 3) (Nat.le_of_ble_eq_true rfl)
  rw [lg_entry_eq]
  generalize (lg_sl ([.ref h0, .ref a1, .ref a2]) ++ List.replicate (3 - (lg_sl ([.ref h0, .ref a1, .ref a2])).length) Slot.unset).toArray = ls at hl ⊢
  obtain ⟨H, hHe⟩ : ∃ H, H = s.heap := ⟨_, rfl⟩
  rw [← hHe] at hP ⊢
  have hS : va_S A s.heap H [] := by rw [hHe]; exact hS
  have hin2 : meth.name = "<init>" := (name_of_methodNamed B.named B.method).1
  have hl : lv_has ls 3 [(0, .ref h0), (1, .ref a1), (2, .ref a2)] := hl
  refine lv_aload_n hx hb dX9_init_0 rfl (lv_at hl 0 rfl) ?_
  refine W.objInit hx hb hown (hts _ (bP 236 rfl)) (hts _ (bP 1 rfl)) (hts _ (bP 2 rfl)) rfl (by rw [hml]; exact hl.1) rfl dX9_init_1 (Nat.le_of_ble_eq_true rfl) (Nat.le_of_ble_eq_true rfl) ?_
  refine W.eq (g2 := F0 m 4 ls []) rfl ?_
  refine lv_aload_n hx hb dX9_init_4 rfl (lv_at hl 0 rfl) ?_
  refine lv_sipush (v := 3100) hx hb dX9_init_5 (by decide) ?_
  refine k_newa (N' := 3100) hx hb (hts _ (bP 7 rfl)) hP hD hS (by decide) (by decide) (by decide) (Nat.le_of_ble_eq_true rfl) (Nat.le_of_ble_eq_true rfl) dX9_init_8 (fun n1 H hP hD hS => ?_)
  refine kq_putF [] hts iX9 tyX9 tyX9_ok nmX9 hx hb hown hin2 hK hP hD hS 0 rfl rfl hJ 3 (by decide) (by decide) rfl (hts _ (bP 237 rfl)) rfl (ty := .array .int) (by decide +kernel) (v := .ref n1) rfl rfl dX9_init_10 (fun f h => kJ_set h _ _ rfl) (fun H locs fs hJ hP hD hS => ?_)
  have hP : va_P (dC, dI) vwCl [(h0, .inr (9, fs))] H := hP
  have hD : va_D A [(h0, .inr (9, fs))] := hD
  refine lv_aload_n hx hb dX9_init_13 rfl (lv_at hl 0 rfl) ?_
  refine lv_aload_n hx hb dX9_init_14 rfl (lv_at hl 1 rfl) ?_
  refine kq_putF [] hts iX9 tyX9 tyX9_ok nmX9 hx hb hown hin2 hK hP hD hS 0 rfl rfl hJ 1 (by decide) (by decide) rfl (hts _ (bP 238 rfl)) rfl (ty := .object "MeetingHouse$Tree") (by decide +kernel) (v := .ref a1) rfl rfl dX9_init_15 (fun f h => kJ_set h _ _ rfl) (fun H locs fs hJ hP hD hS => ?_)
  have hP : va_P (dC, dI) vwCl [(h0, .inr (9, fs))] H := hP
  have hD : va_D A [(h0, .inr (9, fs))] := hD
  refine lv_aload_n hx hb dX9_init_18 rfl (lv_at hl 0 rfl) ?_
  refine lv_aload_n hx hb dX9_init_19 rfl (lv_at hl 2 rfl) ?_
  refine kq_putF [] hts iX9 tyX9 tyX9_ok nmX9 hx hb hown hin2 hK hP hD hS 0 rfl rfl hJ 2 (by decide) (by decide) rfl (hts _ (bP 239 rfl)) rfl (ty := .object "MeetingHouse$Names") (by decide +kernel) (v := .ref a2) rfl rfl dX9_init_20 (fun f h => kJ_set h _ _ rfl) (fun H locs fs hJ hP hD hS => ?_)
  have hP : va_P (dC, dI) vwCl [(h0, .inr (9, fs))] H := hP
  have hD : va_D A [(h0, .inr (9, fs))] := hD
  refine W.widen (k := 1) (n := 3100) (Nat.le_of_ble_eq_true rfl) (Nat.le_of_ble_eq_true rfl) ?_
  exact W.vret hx hb hr (fun t ht hW => ⟨⟨(), rfl, trivial, trivial⟩, hS.F ht⟩) hS.2.2 dX9_init_23
set_option maxHeartbeats 4000000 in
set_option maxRecDepth 100000 in
/-- Sides() -/
theorem c_Sides_init (l : Launch) (dC : Nat → ClassId) (dI : Nat → Nat → Nat) (h0 sz : Nat) (fs : List Value) (a1 : Nat) (a2 : Nat) : Met l yX6_init (.code yX6_init cX6_init 3 none :: wP) ({ frames := 1, cells := 9, slots := 92814, locals := 12 }) (va_Pc [.ref h0, .ref a1, .ref a2] (fun U => U.heap.size = sz ∧ kJ 17 [] fs ∧ va_P (dC, dI) vwCl [(h0, .inr (6, fs))] U.heap ∧ va_K (dC, dI) vwCl [] U ∧ va_D (fun _ => True) [(h0, .inr (6, fs))])) (va_Qv (fun _ : Unit => True) (fun (_ : Unit) (_ : State) => True) (va_A [(h0, .inr (6, fs))] sz)) 9 92814 (va_A [(h0, .inr (6, fs))] sz) := by
  refine Met.ofW (cc := cX6_init) (maxL := 3) (ret := none) (by decide) rfl ?_
  intro p e s m args below meth c s₁ B hml hv
  obtain ⟨rfl, hsz, hJ, hP, hK, hD0⟩ := hv
  have hx := B.exec
  have hb := B.bytes
  have hr := B.returns
  have hts := atoms_spec (ws := .code yX6_init cX6_init 3 none :: wP) B.pre
  have hown : s.vm.findClass RX6 = some m.cls := findClass_of_methodNamed B.named
  subst hsz
  have hD := hD0.self (sz := s.heap.size)
  generalize hAe : va_A [(h0, .inr (6, fs))] s.heap.size = A at hD ⊢
  have hA : ∀ q : Nat, s.heap.size ≤ q → A q := fun q h => by rw [← hAe]; exact Or.inr h
  have hS : va_S A s.heap s.heap [] := va_S.rf
  have hl := lv_entry ([.ref h0, .ref a1, .ref a2]) (n := 3) (Nat.le_of_ble_eq_true rfl)
  rw [lg_entry_eq]
  generalize (lg_sl ([.ref h0, .ref a1, .ref a2]) ++ List.replicate (3 - (lg_sl ([.ref h0, .ref a1, .ref a2])).length) Slot.unset).toArray = ls at hl ⊢
  obtain ⟨H, hHe⟩ : ∃ H, H = s.heap := ⟨_, rfl⟩
  rw [← hHe] at hP ⊢
  have hS : va_S A s.heap H [] := by rw [hHe]; exact hS
  have hin2 : meth.name = "<init>" := (name_of_methodNamed B.named B.method).1
  have hl : lv_has ls 3 [(0, .ref h0), (1, .ref a1), (2, .ref a2)] := hl
  refine lv_aload_n hx hb dX6_init_0 rfl (lv_at hl 0 rfl) ?_
  refine W.objInit hx hb hown (hts _ (bP 241 rfl)) (hts _ (bP 1 rfl)) (hts _ (bP 2 rfl)) rfl (by rw [hml]; exact hl.1) rfl dX6_init_1 (Nat.le_of_ble_eq_true rfl) (Nat.le_of_ble_eq_true rfl) ?_
  refine W.eq (g2 := F0 m 4 ls []) rfl ?_
  refine lv_aload_n hx hb dX6_init_4 rfl (lv_at hl 0 rfl) ?_
  refine lv_sipush (v := 3100) hx hb dX6_init_5 (by decide) ?_
  refine k_newa (N' := 3100) hx hb (hts _ (bP 55 rfl)) hP hD hS (by decide) (by decide) (by decide) (Nat.le_of_ble_eq_true rfl) (Nat.le_of_ble_eq_true rfl) dX6_init_8 (fun n1 H hP hD hS => ?_)
  refine kq_putF [] hts iX6 tyX6 tyX6_ok nmX6 hx hb hown hin2 hK hP hD hS 0 rfl rfl hJ 2 (by decide) (by decide) rfl (hts _ (bP 242 rfl)) rfl (ty := .array .long) (by decide +kernel) (v := .ref n1) rfl rfl dX6_init_10 (fun f h => kJ_set h _ _ rfl) (fun H locs fs hJ hP hD hS => ?_)
  have hP : va_P (dC, dI) vwCl [(h0, .inr (6, fs))] H := hP
  have hD : va_D A [(h0, .inr (6, fs))] := hD
  refine lv_aload_n hx hb dX6_init_13 rfl (lv_at hl 0 rfl) ?_
  refine lv_sipush (v := 3100) hx hb dX6_init_14 (by decide) ?_
  refine k_newa (N' := 3100) hx hb (hts _ (bP 7 rfl)) hP hD hS (by decide) (by decide) (by decide) (Nat.le_of_ble_eq_true rfl) (Nat.le_of_ble_eq_true rfl) dX6_init_17 (fun n2 H hP hD hS => ?_)
  refine kq_putF [] hts iX6 tyX6 tyX6_ok nmX6 hx hb hown hin2 hK hP hD hS 0 rfl rfl hJ 3 (by decide) (by decide) rfl (hts _ (bP 243 rfl)) rfl (ty := .array .int) (by decide +kernel) (v := .ref n2) rfl rfl dX6_init_19 (fun f h => kJ_set h _ _ rfl) (fun H locs fs hJ hP hD hS => ?_)
  have hP : va_P (dC, dI) vwCl [(h0, .inr (6, fs))] H := hP
  have hD : va_D A [(h0, .inr (6, fs))] := hD
  refine lv_aload_n hx hb dX6_init_22 rfl (lv_at hl 0 rfl) ?_
  refine lv_sipush (v := 3100) hx hb dX6_init_23 (by decide) ?_
  refine k_newa (N' := 3100) hx hb (hts _ (bP 7 rfl)) hP hD hS (by decide) (by decide) (by decide) (Nat.le_of_ble_eq_true rfl) (Nat.le_of_ble_eq_true rfl) dX6_init_26 (fun n3 H hP hD hS => ?_)
  refine kq_putF [] hts iX6 tyX6 tyX6_ok nmX6 hx hb hown hin2 hK hP hD hS 0 rfl rfl hJ 5 (by decide) (by decide) rfl (hts _ (bP 244 rfl)) rfl (ty := .array .int) (by decide +kernel) (v := .ref n3) rfl rfl dX6_init_28 (fun f h => kJ_set h _ _ rfl) (fun H locs fs hJ hP hD hS => ?_)
  have hP : va_P (dC, dI) vwCl [(h0, .inr (6, fs))] H := hP
  have hD : va_D A [(h0, .inr (6, fs))] := hD
  refine lv_aload_n hx hb dX6_init_31 rfl (lv_at hl 0 rfl) ?_
  refine lv_sipush (v := 3100) hx hb dX6_init_32 (by decide) ?_
  refine k_newa (N' := 3100) hx hb (hts _ (bP 7 rfl)) hP hD hS (by decide) (by decide) (by decide) (Nat.le_of_ble_eq_true rfl) (Nat.le_of_ble_eq_true rfl) dX6_init_35 (fun n4 H hP hD hS => ?_)
  refine kq_putF [] hts iX6 tyX6 tyX6_ok nmX6 hx hb hown hin2 hK hP hD hS 0 rfl rfl hJ 7 (by decide) (by decide) rfl (hts _ (bP 245 rfl)) rfl (ty := .array .int) (by decide +kernel) (v := .ref n4) rfl rfl dX6_init_37 (fun f h => kJ_set h _ _ rfl) (fun H locs fs hJ hP hD hS => ?_)
  have hP : va_P (dC, dI) vwCl [(h0, .inr (6, fs))] H := hP
  have hD : va_D A [(h0, .inr (6, fs))] := hD
  refine lv_aload_n hx hb dX6_init_40 rfl (lv_at hl 0 rfl) ?_
  refine lv_bipush (v := 14) hx hb dX6_init_41 (by decide) ?_
  refine k_newa (N' := 14) hx hb (hts _ (bP 7 rfl)) hP hD hS (by decide) (by decide) (by decide) (Nat.le_of_ble_eq_true rfl) (Nat.le_of_ble_eq_true rfl) dX6_init_43 (fun n5 H hP hD hS => ?_)
  refine kq_putF [] hts iX6 tyX6 tyX6_ok nmX6 hx hb hown hin2 hK hP hD hS 0 rfl rfl hJ 9 (by decide) (by decide) rfl (hts _ (bP 246 rfl)) rfl (ty := .array .int) (by decide +kernel) (v := .ref n5) rfl rfl dX6_init_45 (fun f h => kJ_set h _ _ rfl) (fun H locs fs hJ hP hD hS => ?_)
  have hP : va_P (dC, dI) vwCl [(h0, .inr (6, fs))] H := hP
  have hD : va_D A [(h0, .inr (6, fs))] := hD
  refine lv_aload_n hx hb dX6_init_48 rfl (lv_at hl 0 rfl) ?_
  refine lv_ldc hx hb hown (hts _ (bP 247 rfl)) dX6_init_49 ?_
  refine k_newa (N' := 57400) hx hb (hts _ (bP 7 rfl)) hP hD hS (by decide) (by decide) (by decide) (Nat.le_of_ble_eq_true rfl) (Nat.le_of_ble_eq_true rfl) dX6_init_51 (fun n6 H hP hD hS => ?_)
  refine kq_putF [] hts iX6 tyX6 tyX6_ok nmX6 hx hb hown hin2 hK hP hD hS 0 rfl rfl hJ 10 (by decide) (by decide) rfl (hts _ (bP 248 rfl)) rfl (ty := .array .int) (by decide +kernel) (v := .ref n6) rfl rfl dX6_init_53 (fun f h => kJ_set h _ _ rfl) (fun H locs fs hJ hP hD hS => ?_)
  have hP : va_P (dC, dI) vwCl [(h0, .inr (6, fs))] H := hP
  have hD : va_D A [(h0, .inr (6, fs))] := hD
  refine lv_aload_n hx hb dX6_init_56 rfl (lv_at hl 0 rfl) ?_
  refine lv_sipush (v := 16800) hx hb dX6_init_57 (by decide) ?_
  refine k_newa (N' := 16800) hx hb (hts _ (bP 7 rfl)) hP hD hS (by decide) (by decide) (by decide) (Nat.le_of_ble_eq_true rfl) (Nat.le_of_ble_eq_true rfl) dX6_init_60 (fun n7 H hP hD hS => ?_)
  refine kq_putF [] hts iX6 tyX6 tyX6_ok nmX6 hx hb hown hin2 hK hP hD hS 0 rfl rfl hJ 11 (by decide) (by decide) rfl (hts _ (bP 249 rfl)) rfl (ty := .array .int) (by decide +kernel) (v := .ref n7) rfl rfl dX6_init_62 (fun f h => kJ_set h _ _ rfl) (fun H locs fs hJ hP hD hS => ?_)
  have hP : va_P (dC, dI) vwCl [(h0, .inr (6, fs))] H := hP
  have hD : va_D A [(h0, .inr (6, fs))] := hD
  refine lv_aload_n hx hb dX6_init_65 rfl (lv_at hl 0 rfl) ?_
  refine lv_sipush (v := 3100) hx hb dX6_init_66 (by decide) ?_
  refine k_newa (N' := 3100) hx hb (hts _ (bP 7 rfl)) hP hD hS (by decide) (by decide) (by decide) (Nat.le_of_ble_eq_true rfl) (Nat.le_of_ble_eq_true rfl) dX6_init_69 (fun n8 H hP hD hS => ?_)
  refine kq_putF [] hts iX6 tyX6 tyX6_ok nmX6 hx hb hown hin2 hK hP hD hS 0 rfl rfl hJ 12 (by decide) (by decide) rfl (hts _ (bP 250 rfl)) rfl (ty := .array .int) (by decide +kernel) (v := .ref n8) rfl rfl dX6_init_71 (fun f h => kJ_set h _ _ rfl) (fun H locs fs hJ hP hD hS => ?_)
  have hP : va_P (dC, dI) vwCl [(h0, .inr (6, fs))] H := hP
  have hD : va_D A [(h0, .inr (6, fs))] := hD
  refine lv_aload_n hx hb dX6_init_74 rfl (lv_at hl 0 rfl) ?_
  refine lv_sipush (v := 3100) hx hb dX6_init_75 (by decide) ?_
  refine k_newa (N' := 3100) hx hb (hts _ (bP 7 rfl)) hP hD hS (by decide) (by decide) (by decide) (Nat.le_of_ble_eq_true rfl) (Nat.le_of_ble_eq_true rfl) dX6_init_78 (fun n9 H hP hD hS => ?_)
  refine kq_putF [] hts iX6 tyX6 tyX6_ok nmX6 hx hb hown hin2 hK hP hD hS 0 rfl rfl hJ 13 (by decide) (by decide) rfl (hts _ (bP 251 rfl)) rfl (ty := .array .int) (by decide +kernel) (v := .ref n9) rfl rfl dX6_init_80 (fun f h => kJ_set h _ _ rfl) (fun H locs fs hJ hP hD hS => ?_)
  have hP : va_P (dC, dI) vwCl [(h0, .inr (6, fs))] H := hP
  have hD : va_D A [(h0, .inr (6, fs))] := hD
  refine lv_aload_n hx hb dX6_init_83 rfl (lv_at hl 0 rfl) ?_
  refine lv_aload_n hx hb dX6_init_84 rfl (lv_at hl 1 rfl) ?_
  refine kq_putF [] hts iX6 tyX6 tyX6_ok nmX6 hx hb hown hin2 hK hP hD hS 0 rfl rfl hJ 0 (by decide) (by decide) rfl (hts _ (bP 252 rfl)) rfl (ty := .object "MeetingHouse$Tree") (by decide +kernel) (v := .ref a1) rfl rfl dX6_init_85 (fun f h => kJ_set h _ _ rfl) (fun H locs fs hJ hP hD hS => ?_)
  have hP : va_P (dC, dI) vwCl [(h0, .inr (6, fs))] H := hP
  have hD : va_D A [(h0, .inr (6, fs))] := hD
  refine lv_aload_n hx hb dX6_init_88 rfl (lv_at hl 0 rfl) ?_
  refine lv_aload_n hx hb dX6_init_89 rfl (lv_at hl 2 rfl) ?_
  refine kq_putF [] hts iX6 tyX6 tyX6_ok nmX6 hx hb hown hin2 hK hP hD hS 0 rfl rfl hJ 1 (by decide) (by decide) rfl (hts _ (bP 253 rfl)) rfl (ty := .object "MeetingHouse$Names") (by decide +kernel) (v := .ref a2) rfl rfl dX6_init_90 (fun f h => kJ_set h _ _ rfl) (fun H locs fs hJ hP hD hS => ?_)
  have hP : va_P (dC, dI) vwCl [(h0, .inr (6, fs))] H := hP
  have hD : va_D A [(h0, .inr (6, fs))] := hD
  refine W.widen (k := 9) (n := 92814) (Nat.le_of_ble_eq_true rfl) (Nat.le_of_ble_eq_true rfl) ?_
  exact W.vret hx hb hr (fun t ht hW => ⟨⟨(), rfl, trivial, trivial⟩, hS.F ht⟩) hS.2.2 dX6_init_93
set_option maxHeartbeats 4000000 in
set_option maxRecDepth 100000 in
/-- Uses() -/
theorem c_Uses_init (l : Launch) (dC : Nat → ClassId) (dI : Nat → Nat → Nat) (h0 sz : Nat) (fs : List Value) (a1 : Nat) (a2 : Nat) (a3 : Nat) : Met l yX10_init (.code yX10_init cX10_init 4 none :: wP) ({ frames := 1, cells := 10, slots := 95400, locals := 12 }) (va_Pc [.ref h0, .ref a1, .ref a2, .ref a3] (fun U => U.heap.size = sz ∧ kJ 19 [] fs ∧ va_P (dC, dI) vwCl [(h0, .inr (10, fs))] U.heap ∧ va_K (dC, dI) vwCl [] U ∧ va_D (fun _ => True) [(h0, .inr (10, fs))])) (va_Qv (fun _ : Unit => True) (fun (_ : Unit) (_ : State) => True) (va_A [(h0, .inr (10, fs))] sz)) 10 95400 (va_A [(h0, .inr (10, fs))] sz) := by
  refine Met.ofW (cc := cX10_init) (maxL := 4) (ret := none) (by decide) rfl ?_
  intro p e s m args below meth c s₁ B hml hv
  obtain ⟨rfl, hsz, hJ, hP, hK, hD0⟩ := hv
  have hx := B.exec
  have hb := B.bytes
  have hr := B.returns
  have hts := atoms_spec (ws := .code yX10_init cX10_init 4 none :: wP) B.pre
  have hown : s.vm.findClass RX10 = some m.cls := findClass_of_methodNamed B.named
  subst hsz
  have hD := hD0.self (sz := s.heap.size)
  generalize hAe : va_A [(h0, .inr (10, fs))] s.heap.size = A at hD ⊢
  have hA : ∀ q : Nat, s.heap.size ≤ q → A q := fun q h => by rw [← hAe]; exact Or.inr h
  have hS : va_S A s.heap s.heap [] := va_S.rf
  have hl := lv_entry ([.ref h0, .ref a1, .ref a2, .ref a3]) (n := 4) (Nat.le_of_ble_eq_true rfl)
  rw [lg_entry_eq]
  generalize (lg_sl ([.ref h0, .ref a1, .ref a2, .ref a3]) ++ List.replicate (4 - (lg_sl ([.ref h0, .ref a1, .ref a2, .ref a3])).length) Slot.unset).toArray = ls at hl ⊢
  obtain ⟨H, hHe⟩ : ∃ H, H = s.heap := ⟨_, rfl⟩
  rw [← hHe] at hP ⊢
  have hS : va_S A s.heap H [] := by rw [hHe]; exact hS
  have hin2 : meth.name = "<init>" := (name_of_methodNamed B.named B.method).1
  have hl : lv_has ls 4 [(0, .ref h0), (1, .ref a1), (2, .ref a2), (3, .ref a3)] := hl
  refine lv_aload_n hx hb dX10_init_0 rfl (lv_at hl 0 rfl) ?_
  refine W.objInit hx hb hown (hts _ (bP 255 rfl)) (hts _ (bP 1 rfl)) (hts _ (bP 2 rfl)) rfl (by rw [hml]; exact hl.1) rfl dX10_init_1 (Nat.le_of_ble_eq_true rfl) (Nat.le_of_ble_eq_true rfl) ?_
  refine W.eq (g2 := F0 m 4 ls []) rfl ?_
  refine lv_aload_n hx hb dX10_init_4 rfl (lv_at hl 0 rfl) ?_
  refine lv_sipush (v := 8200) hx hb dX10_init_5 (by decide) ?_
  refine k_newa (N' := 8200) hx hb (hts _ (bP 7 rfl)) hP hD hS (by decide) (by decide) (by decide) (Nat.le_of_ble_eq_true rfl) (Nat.le_of_ble_eq_true rfl) dX10_init_8 (fun n1 H hP hD hS => ?_)
  refine kq_putF [] hts iX10 tyX10 tyX10_ok nmX10 hx hb hown hin2 hK hP hD hS 0 rfl rfl hJ 0 (by decide) (by decide) rfl (hts _ (bP 256 rfl)) rfl (ty := .array .int) (by decide +kernel) (v := .ref n1) rfl rfl dX10_init_10 (fun f h => kJ_set h _ _ rfl) (fun H locs fs hJ hP hD hS => ?_)
  have hP : va_P (dC, dI) vwCl [(h0, .inr (10, fs))] H := hP
  have hD : va_D A [(h0, .inr (10, fs))] := hD
  refine lv_aload_n hx hb dX10_init_13 rfl (lv_at hl 0 rfl) ?_
  refine lv_sipush (v := 8200) hx hb dX10_init_14 (by decide) ?_
  refine k_newa (N' := 8200) hx hb (hts _ (bP 7 rfl)) hP hD hS (by decide) (by decide) (by decide) (Nat.le_of_ble_eq_true rfl) (Nat.le_of_ble_eq_true rfl) dX10_init_17 (fun n2 H hP hD hS => ?_)
  refine kq_putF [] hts iX10 tyX10 tyX10_ok nmX10 hx hb hown hin2 hK hP hD hS 0 rfl rfl hJ 1 (by decide) (by decide) rfl (hts _ (bP 257 rfl)) rfl (ty := .array .int) (by decide +kernel) (v := .ref n2) rfl rfl dX10_init_19 (fun f h => kJ_set h _ _ rfl) (fun H locs fs hJ hP hD hS => ?_)
  have hP : va_P (dC, dI) vwCl [(h0, .inr (10, fs))] H := hP
  have hD : va_D A [(h0, .inr (10, fs))] := hD
  refine lv_aload_n hx hb dX10_init_22 rfl (lv_at hl 0 rfl) ?_
  refine lv_sipush (v := 8200) hx hb dX10_init_23 (by decide) ?_
  refine k_newa (N' := 8200) hx hb (hts _ (bP 7 rfl)) hP hD hS (by decide) (by decide) (by decide) (Nat.le_of_ble_eq_true rfl) (Nat.le_of_ble_eq_true rfl) dX10_init_26 (fun n3 H hP hD hS => ?_)
  refine kq_putF [] hts iX10 tyX10 tyX10_ok nmX10 hx hb hown hin2 hK hP hD hS 0 rfl rfl hJ 2 (by decide) (by decide) rfl (hts _ (bP 258 rfl)) rfl (ty := .array .int) (by decide +kernel) (v := .ref n3) rfl rfl dX10_init_28 (fun f h => kJ_set h _ _ rfl) (fun H locs fs hJ hP hD hS => ?_)
  have hP : va_P (dC, dI) vwCl [(h0, .inr (10, fs))] H := hP
  have hD : va_D A [(h0, .inr (10, fs))] := hD
  refine lv_aload_n hx hb dX10_init_31 rfl (lv_at hl 0 rfl) ?_
  refine lv_sipush (v := 8200) hx hb dX10_init_32 (by decide) ?_
  refine k_newa (N' := 8200) hx hb (hts _ (bP 7 rfl)) hP hD hS (by decide) (by decide) (by decide) (Nat.le_of_ble_eq_true rfl) (Nat.le_of_ble_eq_true rfl) dX10_init_35 (fun n4 H hP hD hS => ?_)
  refine kq_putF [] hts iX10 tyX10 tyX10_ok nmX10 hx hb hown hin2 hK hP hD hS 0 rfl rfl hJ 3 (by decide) (by decide) rfl (hts _ (bP 259 rfl)) rfl (ty := .array .int) (by decide +kernel) (v := .ref n4) rfl rfl dX10_init_37 (fun f h => kJ_set h _ _ rfl) (fun H locs fs hJ hP hD hS => ?_)
  have hP : va_P (dC, dI) vwCl [(h0, .inr (10, fs))] H := hP
  have hD : va_D A [(h0, .inr (10, fs))] := hD
  refine lv_aload_n hx hb dX10_init_40 rfl (lv_at hl 0 rfl) ?_
  refine lv_ldc hx hb hown (hts _ (bP 260 rfl)) dX10_init_41 ?_
  refine k_newa (N' := 44000) hx hb (hts _ (bP 7 rfl)) hP hD hS (by decide) (by decide) (by decide) (Nat.le_of_ble_eq_true rfl) (Nat.le_of_ble_eq_true rfl) dX10_init_43 (fun n5 H hP hD hS => ?_)
  refine kq_putF [] hts iX10 tyX10 tyX10_ok nmX10 hx hb hown hin2 hK hP hD hS 0 rfl rfl hJ 4 (by decide) (by decide) rfl (hts _ (bP 261 rfl)) rfl (ty := .array .int) (by decide +kernel) (v := .ref n5) rfl rfl dX10_init_45 (fun f h => kJ_set h _ _ rfl) (fun H locs fs hJ hP hD hS => ?_)
  have hP : va_P (dC, dI) vwCl [(h0, .inr (10, fs))] H := hP
  have hD : va_D A [(h0, .inr (10, fs))] := hD
  refine lv_aload_n hx hb dX10_init_48 rfl (lv_at hl 0 rfl) ?_
  refine lv_sipush (v := 3100) hx hb dX10_init_49 (by decide) ?_
  refine k_newa (N' := 3100) hx hb (hts _ (bP 7 rfl)) hP hD hS (by decide) (by decide) (by decide) (Nat.le_of_ble_eq_true rfl) (Nat.le_of_ble_eq_true rfl) dX10_init_52 (fun n6 H hP hD hS => ?_)
  refine kq_putF [] hts iX10 tyX10 tyX10_ok nmX10 hx hb hown hin2 hK hP hD hS 0 rfl rfl hJ 5 (by decide) (by decide) rfl (hts _ (bP 262 rfl)) rfl (ty := .array .int) (by decide +kernel) (v := .ref n6) rfl rfl dX10_init_54 (fun f h => kJ_set h _ _ rfl) (fun H locs fs hJ hP hD hS => ?_)
  have hP : va_P (dC, dI) vwCl [(h0, .inr (10, fs))] H := hP
  have hD : va_D A [(h0, .inr (10, fs))] := hD
  refine lv_aload_n hx hb dX10_init_57 rfl (lv_at hl 0 rfl) ?_
  refine lv_sipush (v := 3100) hx hb dX10_init_58 (by decide) ?_
  refine k_newa (N' := 3100) hx hb (hts _ (bP 7 rfl)) hP hD hS (by decide) (by decide) (by decide) (Nat.le_of_ble_eq_true rfl) (Nat.le_of_ble_eq_true rfl) dX10_init_61 (fun n7 H hP hD hS => ?_)
  refine kq_putF [] hts iX10 tyX10 tyX10_ok nmX10 hx hb hown hin2 hK hP hD hS 0 rfl rfl hJ 6 (by decide) (by decide) rfl (hts _ (bP 263 rfl)) rfl (ty := .array .int) (by decide +kernel) (v := .ref n7) rfl rfl dX10_init_63 (fun f h => kJ_set h _ _ rfl) (fun H locs fs hJ hP hD hS => ?_)
  have hP : va_P (dC, dI) vwCl [(h0, .inr (10, fs))] H := hP
  have hD : va_D A [(h0, .inr (10, fs))] := hD
  refine lv_aload_n hx hb dX10_init_66 rfl (lv_at hl 0 rfl) ?_
  refine lv_sipush (v := 6200) hx hb dX10_init_67 (by decide) ?_
  refine k_newa (N' := 6200) hx hb (hts _ (bP 7 rfl)) hP hD hS (by decide) (by decide) (by decide) (Nat.le_of_ble_eq_true rfl) (Nat.le_of_ble_eq_true rfl) dX10_init_70 (fun n8 H hP hD hS => ?_)
  refine kq_putF [] hts iX10 tyX10 tyX10_ok nmX10 hx hb hown hin2 hK hP hD hS 0 rfl rfl hJ 7 (by decide) (by decide) rfl (hts _ (bP 264 rfl)) rfl (ty := .array .int) (by decide +kernel) (v := .ref n8) rfl rfl dX10_init_72 (fun f h => kJ_set h _ _ rfl) (fun H locs fs hJ hP hD hS => ?_)
  have hP : va_P (dC, dI) vwCl [(h0, .inr (10, fs))] H := hP
  have hD : va_D A [(h0, .inr (10, fs))] := hD
  refine lv_aload_n hx hb dX10_init_75 rfl (lv_at hl 0 rfl) ?_
  refine lv_sipush (v := 3100) hx hb dX10_init_76 (by decide) ?_
  refine k_newa (N' := 3100) hx hb (hts _ (bP 7 rfl)) hP hD hS (by decide) (by decide) (by decide) (Nat.le_of_ble_eq_true rfl) (Nat.le_of_ble_eq_true rfl) dX10_init_79 (fun n9 H hP hD hS => ?_)
  refine kq_putF [] hts iX10 tyX10 tyX10_ok nmX10 hx hb hown hin2 hK hP hD hS 0 rfl rfl hJ 12 (by decide) (by decide) rfl (hts _ (bP 265 rfl)) rfl (ty := .array .int) (by decide +kernel) (v := .ref n9) rfl rfl dX10_init_81 (fun f h => kJ_set h _ _ rfl) (fun H locs fs hJ hP hD hS => ?_)
  have hP : va_P (dC, dI) vwCl [(h0, .inr (10, fs))] H := hP
  have hD : va_D A [(h0, .inr (10, fs))] := hD
  refine lv_aload_n hx hb dX10_init_84 rfl (lv_at hl 0 rfl) ?_
  refine lv_sipush (v := 3100) hx hb dX10_init_85 (by decide) ?_
  refine k_newa (N' := 3100) hx hb (hts _ (bP 7 rfl)) hP hD hS (by decide) (by decide) (by decide) (Nat.le_of_ble_eq_true rfl) (Nat.le_of_ble_eq_true rfl) dX10_init_88 (fun n10 H hP hD hS => ?_)
  refine kq_putF [] hts iX10 tyX10 tyX10_ok nmX10 hx hb hown hin2 hK hP hD hS 0 rfl rfl hJ 13 (by decide) (by decide) rfl (hts _ (bP 266 rfl)) rfl (ty := .array .int) (by decide +kernel) (v := .ref n10) rfl rfl dX10_init_90 (fun f h => kJ_set h _ _ rfl) (fun H locs fs hJ hP hD hS => ?_)
  have hP : va_P (dC, dI) vwCl [(h0, .inr (10, fs))] H := hP
  have hD : va_D A [(h0, .inr (10, fs))] := hD
  refine lv_aload_n hx hb dX10_init_93 rfl (lv_at hl 0 rfl) ?_
  refine lv_aload_n hx hb dX10_init_94 rfl (lv_at hl 1 rfl) ?_
  refine kq_putF [] hts iX10 tyX10 tyX10_ok nmX10 hx hb hown hin2 hK hP hD hS 0 rfl rfl hJ 9 (by decide) (by decide) rfl (hts _ (bP 267 rfl)) rfl (ty := .object "MeetingHouse$Tree") (by decide +kernel) (v := .ref a1) rfl rfl dX10_init_95 (fun f h => kJ_set h _ _ rfl) (fun H locs fs hJ hP hD hS => ?_)
  have hP : va_P (dC, dI) vwCl [(h0, .inr (10, fs))] H := hP
  have hD : va_D A [(h0, .inr (10, fs))] := hD
  refine lv_aload_n hx hb dX10_init_98 rfl (lv_at hl 0 rfl) ?_
  refine lv_aload_n hx hb dX10_init_99 rfl (lv_at hl 2 rfl) ?_
  refine kq_putF [] hts iX10 tyX10 tyX10_ok nmX10 hx hb hown hin2 hK hP hD hS 0 rfl rfl hJ 10 (by decide) (by decide) rfl (hts _ (bP 268 rfl)) rfl (ty := .object "MeetingHouse$Names") (by decide +kernel) (v := .ref a2) rfl rfl dX10_init_100 (fun f h => kJ_set h _ _ rfl) (fun H locs fs hJ hP hD hS => ?_)
  have hP : va_P (dC, dI) vwCl [(h0, .inr (10, fs))] H := hP
  have hD : va_D A [(h0, .inr (10, fs))] := hD
  refine lv_aload_n hx hb dX10_init_103 rfl (lv_at hl 0 rfl) ?_
  refine lv_aload_n hx hb dX10_init_104 rfl (lv_at hl 3 rfl) ?_
  refine kq_putF [] hts iX10 tyX10 tyX10_ok nmX10 hx hb hown hin2 hK hP hD hS 0 rfl rfl hJ 11 (by decide) (by decide) rfl (hts _ (bP 269 rfl)) rfl (ty := .object "MeetingHouse$Sides") (by decide +kernel) (v := .ref a3) rfl rfl dX10_init_105 (fun f h => kJ_set h _ _ rfl) (fun H locs fs hJ hP hD hS => ?_)
  have hP : va_P (dC, dI) vwCl [(h0, .inr (10, fs))] H := hP
  have hD : va_D A [(h0, .inr (10, fs))] := hD
  refine W.widen (k := 10) (n := 95400) (Nat.le_of_ble_eq_true rfl) (Nat.le_of_ble_eq_true rfl) ?_
  exact W.vret hx hb hr (fun t ht hW => ⟨⟨(), rfl, trivial, trivial⟩, hS.F ht⟩) hS.2.2 dX10_init_108
set_option maxHeartbeats 4000000 in
set_option maxRecDepth 100000 in
/-- Coder() -/
theorem c_Coder_init (l : Launch) (dC : Nat → ClassId) (dI : Nat → Nat → Nat) (h0 sz : Nat) (fs : List Value) (a1 : Nat) (a2 : Nat) : Met l yX0_init (.code yX0_init cX0_init 3 none :: wP) ({ frames := 1, cells := 3, slots := 40802, locals := 12 }) (va_Pc [.ref h0, .ref a1, .ref a2] (fun U => U.heap.size = sz ∧ kJ 8 [] fs ∧ va_P (dC, dI) vwCl [(h0, .inr (0, fs))] U.heap ∧ va_K (dC, dI) vwCl [] U ∧ va_D (fun _ => True) [(h0, .inr (0, fs))])) (va_Qv (fun _ : Unit => True) (fun (_ : Unit) (_ : State) => True) (va_A [(h0, .inr (0, fs))] sz)) 3 40802 (va_A [(h0, .inr (0, fs))] sz) := by
  refine Met.ofW (cc := cX0_init) (maxL := 3) (ret := none) (by decide) rfl ?_
  intro p e s m args below meth c s₁ B hml hv
  obtain ⟨rfl, hsz, hJ, hP, hK, hD0⟩ := hv
  have hx := B.exec
  have hb := B.bytes
  have hr := B.returns
  have hts := atoms_spec (ws := .code yX0_init cX0_init 3 none :: wP) B.pre
  have hown : s.vm.findClass RX0 = some m.cls := findClass_of_methodNamed B.named
  subst hsz
  have hD := hD0.self (sz := s.heap.size)
  generalize hAe : va_A [(h0, .inr (0, fs))] s.heap.size = A at hD ⊢
  have hA : ∀ q : Nat, s.heap.size ≤ q → A q := fun q h => by rw [← hAe]; exact Or.inr h
  have hS : va_S A s.heap s.heap [] := va_S.rf
  have hl := lv_entry ([.ref h0, .ref a1, .ref a2]) (n := 3) (Nat.le_of_ble_eq_true rfl)
  rw [lg_entry_eq]
  generalize (lg_sl ([.ref h0, .ref a1, .ref a2]) ++ List.replicate (3 - (lg_sl ([.ref h0, .ref a1, .ref a2])).length) Slot.unset).toArray = ls at hl ⊢
  obtain ⟨H, hHe⟩ : ∃ H, H = s.heap := ⟨_, rfl⟩
  rw [← hHe] at hP ⊢
  have hS : va_S A s.heap H [] := by rw [hHe]; exact hS
  have hin2 : meth.name = "<init>" := (name_of_methodNamed B.named B.method).1
  have hl : lv_has ls 3 [(0, .ref h0), (1, .ref a1), (2, .ref a2)] := hl
  refine lv_aload_n hx hb dX0_init_0 rfl (lv_at hl 0 rfl) ?_
  refine W.objInit hx hb hown (hts _ (bP 271 rfl)) (hts _ (bP 1 rfl)) (hts _ (bP 2 rfl)) rfl (by rw [hml]; exact hl.1) rfl dX0_init_1 (Nat.le_of_ble_eq_true rfl) (Nat.le_of_ble_eq_true rfl) ?_
  refine W.eq (g2 := F0 m 4 ls []) rfl ?_
  refine lv_aload_n hx hb dX0_init_4 rfl (lv_at hl 0 rfl) ?_
  refine lv_ldc hx hb hown (hts _ (bP 272 rfl)) dX0_init_5 ?_
  refine k_newa (N' := 40000) hx hb (hts _ (bP 7 rfl)) hP hD hS (by decide) (by decide) (by decide) (Nat.le_of_ble_eq_true rfl) (Nat.le_of_ble_eq_true rfl) dX0_init_7 (fun n1 H hP hD hS => ?_)
  refine kq_putF [] hts iX0 tyX0 tyX0_ok nmX0 hx hb hown hin2 hK hP hD hS 0 rfl rfl hJ 0 (by decide) (by decide) rfl (hts _ (bP 273 rfl)) rfl (ty := .array .int) (by decide +kernel) (v := .ref n1) rfl rfl dX0_init_9 (fun f h => kJ_set h _ _ rfl) (fun H locs fs hJ hP hD hS => ?_)
  have hP : va_P (dC, dI) vwCl [(h0, .inr (0, fs))] H := hP
  have hD : va_D A [(h0, .inr (0, fs))] := hD
  refine lv_aload_n hx hb dX0_init_12 rfl (lv_at hl 0 rfl) ?_
  refine lv_sipush (v := 401) hx hb dX0_init_13 (by decide) ?_
  refine k_newa (N' := 401) hx hb (hts _ (bP 7 rfl)) hP hD hS (by decide) (by decide) (by decide) (Nat.le_of_ble_eq_true rfl) (Nat.le_of_ble_eq_true rfl) dX0_init_16 (fun n2 H hP hD hS => ?_)
  refine kq_putF [] hts iX0 tyX0 tyX0_ok nmX0 hx hb hown hin2 hK hP hD hS 0 rfl rfl hJ 3 (by decide) (by decide) rfl (hts _ (bP 274 rfl)) rfl (ty := .array .int) (by decide +kernel) (v := .ref n2) rfl rfl dX0_init_18 (fun f h => kJ_set h _ _ rfl) (fun H locs fs hJ hP hD hS => ?_)
  have hP : va_P (dC, dI) vwCl [(h0, .inr (0, fs))] H := hP
  have hD : va_D A [(h0, .inr (0, fs))] := hD
  refine lv_aload_n hx hb dX0_init_21 rfl (lv_at hl 0 rfl) ?_
  refine lv_sipush (v := 401) hx hb dX0_init_22 (by decide) ?_
  refine k_newa (N' := 401) hx hb (hts _ (bP 7 rfl)) hP hD hS (by decide) (by decide) (by decide) (Nat.le_of_ble_eq_true rfl) (Nat.le_of_ble_eq_true rfl) dX0_init_25 (fun n3 H hP hD hS => ?_)
  refine kq_putF [] hts iX0 tyX0 tyX0_ok nmX0 hx hb hown hin2 hK hP hD hS 0 rfl rfl hJ 4 (by decide) (by decide) rfl (hts _ (bP 275 rfl)) rfl (ty := .array .int) (by decide +kernel) (v := .ref n3) rfl rfl dX0_init_27 (fun f h => kJ_set h _ _ rfl) (fun H locs fs hJ hP hD hS => ?_)
  have hP : va_P (dC, dI) vwCl [(h0, .inr (0, fs))] H := hP
  have hD : va_D A [(h0, .inr (0, fs))] := hD
  refine lv_aload_n hx hb dX0_init_30 rfl (lv_at hl 0 rfl) ?_
  refine lv_aload_n hx hb dX0_init_31 rfl (lv_at hl 1 rfl) ?_
  refine kq_putF [] hts iX0 tyX0 tyX0_ok nmX0 hx hb hown hin2 hK hP hD hS 0 rfl rfl hJ 6 (by decide) (by decide) rfl (hts _ (bP 276 rfl)) rfl (ty := .object "MeetingHouse$Tree") (by decide +kernel) (v := .ref a1) rfl rfl dX0_init_32 (fun f h => kJ_set h _ _ rfl) (fun H locs fs hJ hP hD hS => ?_)
  have hP : va_P (dC, dI) vwCl [(h0, .inr (0, fs))] H := hP
  have hD : va_D A [(h0, .inr (0, fs))] := hD
  refine lv_aload_n hx hb dX0_init_35 rfl (lv_at hl 0 rfl) ?_
  refine lv_aload_n hx hb dX0_init_36 rfl (lv_at hl 2 rfl) ?_
  refine kq_putF [] hts iX0 tyX0 tyX0_ok nmX0 hx hb hown hin2 hK hP hD hS 0 rfl rfl hJ 7 (by decide) (by decide) rfl (hts _ (bP 277 rfl)) rfl (ty := .object "MeetingHouse$Names") (by decide +kernel) (v := .ref a2) rfl rfl dX0_init_37 (fun f h => kJ_set h _ _ rfl) (fun H locs fs hJ hP hD hS => ?_)
  have hP : va_P (dC, dI) vwCl [(h0, .inr (0, fs))] H := hP
  have hD : va_D A [(h0, .inr (0, fs))] := hD
  refine W.widen (k := 3) (n := 40802) (Nat.le_of_ble_eq_true rfl) (Nat.le_of_ble_eq_true rfl) ?_
  exact W.vret hx hb hr (fun t ht hW => ⟨⟨(), rfl, trivial, trivial⟩, hS.F ht⟩) hS.2.2 dX0_init_40
set_option maxHeartbeats 4000000 in
set_option maxRecDepth 100000 in
/-- Tree() -/
theorem c_Tree_init (l : Launch) (dC : Nat → ClassId) (dI : Nat → Nat → Nat) (h0 sz : Nat) (fs : List Value) (a1 : Nat) : Met l yX8_init (.code yX8_init cX8_init 2 none :: wP) ({ frames := 1, cells := 10, slots := 62000, locals := 12 }) (va_Pc [.ref h0, .ref a1] (fun U => U.heap.size = sz ∧ kJ 17 [] fs ∧ va_P (dC, dI) vwCl [(h0, .inr (8, fs))] U.heap ∧ va_K (dC, dI) vwCl [] U ∧ va_D (fun _ => True) [(h0, .inr (8, fs))])) (va_Qv (fun u : List Value => kJ 17 [(12, .ref a1)] u) (fun (u : List Value) (t : State) => va_P (dC, dI) vwCl [(h0, .inr (8, u))] t.heap ∧ va_K (dC, dI) vwCl [] t ∧ va_D (va_A [(h0, .inr (8, fs))] sz) [(h0, .inr (8, u))]) (va_A [(h0, .inr (8, fs))] sz)) 10 62000 (va_A [(h0, .inr (8, fs))] sz) := by
  refine Met.ofW (cc := cX8_init) (maxL := 2) (ret := none) (by decide) rfl ?_
  intro p e s m args below meth c s₁ B hml hv
  obtain ⟨rfl, hsz, hJ, hP, hK, hD0⟩ := hv
  have hx := B.exec
  have hb := B.bytes
  have hr := B.returns
  have hts := atoms_spec (ws := .code yX8_init cX8_init 2 none :: wP) B.pre
  have hown : s.vm.findClass RX8 = some m.cls := findClass_of_methodNamed B.named
  subst hsz
  have hD := hD0.self (sz := s.heap.size)
  generalize hAe : va_A [(h0, .inr (8, fs))] s.heap.size = A at hD ⊢
  have hA : ∀ q : Nat, s.heap.size ≤ q → A q := fun q h => by rw [← hAe]; exact Or.inr h
  have hS : va_S A s.heap s.heap [] := va_S.rf
  have hl := lv_entry ([.ref h0, .ref a1]) (n := 2) (Nat.le_of_ble_eq_true rfl)
  rw [lg_entry_eq]
  generalize (lg_sl ([.ref h0, .ref a1]) ++ List.replicate (2 - (lg_sl ([.ref h0, .ref a1])).length) Slot.unset).toArray = ls at hl ⊢
  obtain ⟨H, hHe⟩ : ∃ H, H = s.heap := ⟨_, rfl⟩
  rw [← hHe] at hP ⊢
  have hS : va_S A s.heap H [] := by rw [hHe]; exact hS
  have hin2 : meth.name = "<init>" := (name_of_methodNamed B.named B.method).1
  have hl : lv_has ls 2 [(0, .ref h0), (1, .ref a1)] := hl
  refine lv_aload_n hx hb dX8_init_0 rfl (lv_at hl 0 rfl) ?_
  refine W.objInit hx hb hown (hts _ (bP 279 rfl)) (hts _ (bP 1 rfl)) (hts _ (bP 2 rfl)) rfl (by rw [hml]; exact hl.1) rfl dX8_init_1 (Nat.le_of_ble_eq_true rfl) (Nat.le_of_ble_eq_true rfl) ?_
  refine W.eq (g2 := F0 m 4 ls []) rfl ?_
  refine lv_aload_n hx hb dX8_init_4 rfl (lv_at hl 0 rfl) ?_
  refine lv_sipush (v := 6200) hx hb dX8_init_5 (by decide) ?_
  refine k_newa (N' := 6200) hx hb (hts _ (bP 7 rfl)) hP hD hS (by decide) (by decide) (by decide) (Nat.le_of_ble_eq_true rfl) (Nat.le_of_ble_eq_true rfl) dX8_init_8 (fun n1 H hP hD hS => ?_)
  refine kq_putF [] hts iX8 tyX8 tyX8_ok nmX8 hx hb hown hin2 hK hP hD hS 0 rfl rfl hJ 0 (by decide) (by decide) rfl (hts _ (bP 280 rfl)) rfl (ty := .array .int) (by decide +kernel) (v := .ref n1) rfl rfl dX8_init_10 (fun f h => kJ_set h _ _ rfl) (fun H locs fs hJ hP hD hS => ?_)
  have hP : va_P (dC, dI) vwCl [(h0, .inr (8, fs))] H := hP
  have hD : va_D A [(h0, .inr (8, fs))] := hD
  refine lv_aload_n hx hb dX8_init_13 rfl (lv_at hl 0 rfl) ?_
  refine lv_sipush (v := 6200) hx hb dX8_init_14 (by decide) ?_
  refine k_newa (N' := 6200) hx hb (hts _ (bP 7 rfl)) hP hD hS (by decide) (by decide) (by decide) (Nat.le_of_ble_eq_true rfl) (Nat.le_of_ble_eq_true rfl) dX8_init_17 (fun n2 H hP hD hS => ?_)
  refine kq_putF [] hts iX8 tyX8 tyX8_ok nmX8 hx hb hown hin2 hK hP hD hS 0 rfl rfl hJ 1 (by decide) (by decide) rfl (hts _ (bP 281 rfl)) rfl (ty := .array .int) (by decide +kernel) (v := .ref n2) rfl rfl dX8_init_19 (fun f h => kJ_set h _ _ rfl) (fun H locs fs hJ hP hD hS => ?_)
  have hP : va_P (dC, dI) vwCl [(h0, .inr (8, fs))] H := hP
  have hD : va_D A [(h0, .inr (8, fs))] := hD
  refine lv_aload_n hx hb dX8_init_22 rfl (lv_at hl 0 rfl) ?_
  refine lv_sipush (v := 6200) hx hb dX8_init_23 (by decide) ?_
  refine k_newa (N' := 6200) hx hb (hts _ (bP 7 rfl)) hP hD hS (by decide) (by decide) (by decide) (Nat.le_of_ble_eq_true rfl) (Nat.le_of_ble_eq_true rfl) dX8_init_26 (fun n3 H hP hD hS => ?_)
  refine kq_putF [] hts iX8 tyX8 tyX8_ok nmX8 hx hb hown hin2 hK hP hD hS 0 rfl rfl hJ 2 (by decide) (by decide) rfl (hts _ (bP 282 rfl)) rfl (ty := .array .int) (by decide +kernel) (v := .ref n3) rfl rfl dX8_init_28 (fun f h => kJ_set h _ _ rfl) (fun H locs fs hJ hP hD hS => ?_)
  have hP : va_P (dC, dI) vwCl [(h0, .inr (8, fs))] H := hP
  have hD : va_D A [(h0, .inr (8, fs))] := hD
  refine lv_aload_n hx hb dX8_init_31 rfl (lv_at hl 0 rfl) ?_
  refine lv_sipush (v := 6200) hx hb dX8_init_32 (by decide) ?_
  refine k_newa (N' := 6200) hx hb (hts _ (bP 7 rfl)) hP hD hS (by decide) (by decide) (by decide) (Nat.le_of_ble_eq_true rfl) (Nat.le_of_ble_eq_true rfl) dX8_init_35 (fun n4 H hP hD hS => ?_)
  refine kq_putF [] hts iX8 tyX8 tyX8_ok nmX8 hx hb hown hin2 hK hP hD hS 0 rfl rfl hJ 3 (by decide) (by decide) rfl (hts _ (bP 283 rfl)) rfl (ty := .array .int) (by decide +kernel) (v := .ref n4) rfl rfl dX8_init_37 (fun f h => kJ_set h _ _ rfl) (fun H locs fs hJ hP hD hS => ?_)
  have hP : va_P (dC, dI) vwCl [(h0, .inr (8, fs))] H := hP
  have hD : va_D A [(h0, .inr (8, fs))] := hD
  refine lv_aload_n hx hb dX8_init_40 rfl (lv_at hl 0 rfl) ?_
  refine lv_sipush (v := 6200) hx hb dX8_init_41 (by decide) ?_
  refine k_newa (N' := 6200) hx hb (hts _ (bP 7 rfl)) hP hD hS (by decide) (by decide) (by decide) (Nat.le_of_ble_eq_true rfl) (Nat.le_of_ble_eq_true rfl) dX8_init_44 (fun n5 H hP hD hS => ?_)
  refine kq_putF [] hts iX8 tyX8 tyX8_ok nmX8 hx hb hown hin2 hK hP hD hS 0 rfl rfl hJ 4 (by decide) (by decide) rfl (hts _ (bP 284 rfl)) rfl (ty := .array .int) (by decide +kernel) (v := .ref n5) rfl rfl dX8_init_46 (fun f h => kJ_set h _ _ rfl) (fun H locs fs hJ hP hD hS => ?_)
  have hP : va_P (dC, dI) vwCl [(h0, .inr (8, fs))] H := hP
  have hD : va_D A [(h0, .inr (8, fs))] := hD
  refine lv_aload_n hx hb dX8_init_49 rfl (lv_at hl 0 rfl) ?_
  refine lv_sipush (v := 6200) hx hb dX8_init_50 (by decide) ?_
  refine k_newa (N' := 6200) hx hb (hts _ (bP 7 rfl)) hP hD hS (by decide) (by decide) (by decide) (Nat.le_of_ble_eq_true rfl) (Nat.le_of_ble_eq_true rfl) dX8_init_53 (fun n6 H hP hD hS => ?_)
  refine kq_putF [] hts iX8 tyX8 tyX8_ok nmX8 hx hb hown hin2 hK hP hD hS 0 rfl rfl hJ 5 (by decide) (by decide) rfl (hts _ (bP 285 rfl)) rfl (ty := .array .int) (by decide +kernel) (v := .ref n6) rfl rfl dX8_init_55 (fun f h => kJ_set h _ _ rfl) (fun H locs fs hJ hP hD hS => ?_)
  have hP : va_P (dC, dI) vwCl [(h0, .inr (8, fs))] H := hP
  have hD : va_D A [(h0, .inr (8, fs))] := hD
  refine lv_aload_n hx hb dX8_init_58 rfl (lv_at hl 0 rfl) ?_
  refine lv_sipush (v := 6200) hx hb dX8_init_59 (by decide) ?_
  refine k_newa (N' := 6200) hx hb (hts _ (bP 7 rfl)) hP hD hS (by decide) (by decide) (by decide) (Nat.le_of_ble_eq_true rfl) (Nat.le_of_ble_eq_true rfl) dX8_init_62 (fun n7 H hP hD hS => ?_)
  refine kq_putF [] hts iX8 tyX8 tyX8_ok nmX8 hx hb hown hin2 hK hP hD hS 0 rfl rfl hJ 6 (by decide) (by decide) rfl (hts _ (bP 286 rfl)) rfl (ty := .array .int) (by decide +kernel) (v := .ref n7) rfl rfl dX8_init_64 (fun f h => kJ_set h _ _ rfl) (fun H locs fs hJ hP hD hS => ?_)
  have hP : va_P (dC, dI) vwCl [(h0, .inr (8, fs))] H := hP
  have hD : va_D A [(h0, .inr (8, fs))] := hD
  refine lv_aload_n hx hb dX8_init_67 rfl (lv_at hl 0 rfl) ?_
  refine lv_sipush (v := 6200) hx hb dX8_init_68 (by decide) ?_
  refine k_newa (N' := 6200) hx hb (hts _ (bP 7 rfl)) hP hD hS (by decide) (by decide) (by decide) (Nat.le_of_ble_eq_true rfl) (Nat.le_of_ble_eq_true rfl) dX8_init_71 (fun n8 H hP hD hS => ?_)
  refine kq_putF [] hts iX8 tyX8 tyX8_ok nmX8 hx hb hown hin2 hK hP hD hS 0 rfl rfl hJ 7 (by decide) (by decide) rfl (hts _ (bP 287 rfl)) rfl (ty := .array .int) (by decide +kernel) (v := .ref n8) rfl rfl dX8_init_73 (fun f h => kJ_set h _ _ rfl) (fun H locs fs hJ hP hD hS => ?_)
  have hP : va_P (dC, dI) vwCl [(h0, .inr (8, fs))] H := hP
  have hD : va_D A [(h0, .inr (8, fs))] := hD
  refine lv_aload_n hx hb dX8_init_76 rfl (lv_at hl 0 rfl) ?_
  refine lv_sipush (v := 6200) hx hb dX8_init_77 (by decide) ?_
  refine k_newa (N' := 6200) hx hb (hts _ (bP 7 rfl)) hP hD hS (by decide) (by decide) (by decide) (Nat.le_of_ble_eq_true rfl) (Nat.le_of_ble_eq_true rfl) dX8_init_80 (fun n9 H hP hD hS => ?_)
  refine kq_putF [] hts iX8 tyX8 tyX8_ok nmX8 hx hb hown hin2 hK hP hD hS 0 rfl rfl hJ 8 (by decide) (by decide) rfl (hts _ (bP 288 rfl)) rfl (ty := .array .int) (by decide +kernel) (v := .ref n9) rfl rfl dX8_init_82 (fun f h => kJ_set h _ _ rfl) (fun H locs fs hJ hP hD hS => ?_)
  have hP : va_P (dC, dI) vwCl [(h0, .inr (8, fs))] H := hP
  have hD : va_D A [(h0, .inr (8, fs))] := hD
  refine lv_aload_n hx hb dX8_init_85 rfl (lv_at hl 0 rfl) ?_
  refine lv_sipush (v := 6200) hx hb dX8_init_86 (by decide) ?_
  refine k_newa (N' := 6200) hx hb (hts _ (bP 7 rfl)) hP hD hS (by decide) (by decide) (by decide) (Nat.le_of_ble_eq_true rfl) (Nat.le_of_ble_eq_true rfl) dX8_init_89 (fun n10 H hP hD hS => ?_)
  refine kq_putF [] hts iX8 tyX8 tyX8_ok nmX8 hx hb hown hin2 hK hP hD hS 0 rfl rfl hJ 9 (by decide) (by decide) rfl (hts _ (bP 289 rfl)) rfl (ty := .array .int) (by decide +kernel) (v := .ref n10) rfl rfl dX8_init_91 (fun f h => kJ_set h _ _ rfl) (fun H locs fs hJ hP hD hS => ?_)
  have hP : va_P (dC, dI) vwCl [(h0, .inr (8, fs))] H := hP
  have hD : va_D A [(h0, .inr (8, fs))] := hD
  refine lv_aload_n hx hb dX8_init_94 rfl (lv_at hl 0 rfl) ?_
  refine lv_aload_n hx hb dX8_init_95 rfl (lv_at hl 1 rfl) ?_
  refine kq_putF [(12, .ref a1)] hts iX8 tyX8 tyX8_ok nmX8 hx hb hown hin2 hK hP hD hS 0 rfl rfl hJ 12 (by decide) (by decide) rfl (hts _ (bP 290 rfl)) rfl (ty := .object "MeetingHouse$Text") (by decide +kernel) (v := .ref a1) rfl rfl dX8_init_96 (fun f h => kJ_put h _ _ (by decide)) (fun H locs fs hJ hP hD hS => ?_)
  have hP : va_P (dC, dI) vwCl [(h0, .inr (8, fs))] H := hP
  have hD : va_D A [(h0, .inr (8, fs))] := hD
  refine W.widen (k := 10) (n := 62000) (Nat.le_of_ble_eq_true rfl) (Nat.le_of_ble_eq_true rfl) ?_
  exact W.vret hx hb hr (fun t ht hW => ⟨⟨fs, rfl, kJ_sub hJ (by simp), by rw [ht]; exact hP, va_K.moved hW.alike hK, hD⟩, hS.F ht⟩) hS.2.2 dX8_init_99
set_option maxHeartbeats 4000000 in
set_option maxRecDepth 100000 in
/-- Text() -/
theorem c_Text_init (l : Launch) (dC : Nat → ClassId) (dI : Nat → Nat → Nat) (h0 sz : Nat) (fs : List Value) : Met l yX7_init (.code yX7_init cX7_init 1 none :: wP) ({ frames := 1, cells := 10, slots := 49252, locals := 12 }) (va_Pc [.ref h0] (fun U => U.heap.size = sz ∧ kJ 19 [(1, .int 0)] fs ∧ va_P (dC, dI) vwCl [(h0, .inr (7, fs))] U.heap ∧ va_K (dC, dI) vwCl [] U ∧ va_D (fun _ => True) [(h0, .inr (7, fs))])) (va_Qv (fun v : List Value × Nat × Nat × Nat × Nat × Nat × Nat × Nat × Nat × Nat × ClassId × ClassId × ClassId × ClassId × ClassId × ClassId × ClassId × ClassId × ClassId => match v with | (u, t_tape, t_kind, t_value, t_line, t_blanks, t_letters, t_nameFrom, t_nameNext, t_bucket, ct_tape, ct_kind, ct_value, ct_line, ct_blanks, ct_letters, ct_nameFrom, ct_nameNext, ct_bucket) => kJ 19 [(0, .ref t_tape), (2, .ref t_kind), (3, .ref t_value), (4, .ref t_line), (5, .ref t_blanks), (14, .ref t_letters), (15, .ref t_nameFrom), (16, .ref t_nameNext), (17, .ref t_bucket), (1, .int 0)] u) (fun (v : List Value × Nat × Nat × Nat × Nat × Nat × Nat × Nat × Nat × Nat × ClassId × ClassId × ClassId × ClassId × ClassId × ClassId × ClassId × ClassId × ClassId) (t : State) => match v with | (u, t_tape, t_kind, t_value, t_line, t_blanks, t_letters, t_nameFrom, t_nameNext, t_bucket, ct_tape, ct_kind, ct_value, ct_line, ct_blanks, ct_letters, ct_nameFrom, ct_nameNext, ct_bucket) => va_P (dC, dI) vwCl [(h0, .inr (7, u)), (t_tape, .inl (ct_tape, 6000, .inl (fun _ => 0))), (t_kind, .inl (ct_kind, 6010, .inl (fun _ => 0))), (t_value, .inl (ct_value, 6010, .inl (fun _ => 0))), (t_line, .inl (ct_line, 6010, .inl (fun _ => 0))), (t_blanks, .inl (ct_blanks, 6010, .inl (fun _ => 0))), (t_letters, .inl (ct_letters, 6400, .inl (fun _ => 0))), (t_nameFrom, .inl (ct_nameFrom, 3150, .inl (fun _ => 0))), (t_nameNext, .inl (ct_nameNext, 3150, .inl (fun _ => 0))), (t_bucket, .inl (ct_bucket, 512, .inl (fun _ => 0)))] t.heap ∧ va_K (dC, dI) vwCl [(ct_tape, .byte), (ct_kind, .int), (ct_value, .int), (ct_line, .int), (ct_blanks, .int), (ct_letters, .byte), (ct_nameFrom, .int), (ct_nameNext, .int), (ct_bucket, .int)] t ∧ va_D (va_A [(h0, .inr (7, fs))] sz) [(h0, .inr (7, u)), (t_tape, .inl (ct_tape, 6000, .inl (fun _ => 0))), (t_kind, .inl (ct_kind, 6010, .inl (fun _ => 0))), (t_value, .inl (ct_value, 6010, .inl (fun _ => 0))), (t_line, .inl (ct_line, 6010, .inl (fun _ => 0))), (t_blanks, .inl (ct_blanks, 6010, .inl (fun _ => 0))), (t_letters, .inl (ct_letters, 6400, .inl (fun _ => 0))), (t_nameFrom, .inl (ct_nameFrom, 3150, .inl (fun _ => 0))), (t_nameNext, .inl (ct_nameNext, 3150, .inl (fun _ => 0))), (t_bucket, .inl (ct_bucket, 512, .inl (fun _ => 0)))]) (va_A [(h0, .inr (7, fs))] sz)) 10 49252 (va_A [(h0, .inr (7, fs))] sz) := by
  refine Met.ofW (cc := cX7_init) (maxL := 1) (ret := none) (by decide) rfl ?_
  intro p e s m args below meth c s₁ B hml hv
  obtain ⟨rfl, hsz, hJ, hP, hK, hD0⟩ := hv
  have hx := B.exec
  have hb := B.bytes
  have hr := B.returns
  have hts := atoms_spec (ws := .code yX7_init cX7_init 1 none :: wP) B.pre
  have hown : s.vm.findClass RX7 = some m.cls := findClass_of_methodNamed B.named
  subst hsz
  have hD := hD0.self (sz := s.heap.size)
  generalize hAe : va_A [(h0, .inr (7, fs))] s.heap.size = A at hD ⊢
  have hA : ∀ q : Nat, s.heap.size ≤ q → A q := fun q h => by rw [← hAe]; exact Or.inr h
  have hS : va_S A s.heap s.heap [] := va_S.rf
  have hl := lv_entry ([.ref h0]) (n := 1) (Nat.le_of_ble_eq_true rfl)
  rw [lg_entry_eq]
  generalize (lg_sl ([.ref h0]) ++ List.replicate (1 - (lg_sl ([.ref h0])).length) Slot.unset).toArray = ls at hl ⊢
  obtain ⟨H, hHe⟩ : ∃ H, H = s.heap := ⟨_, rfl⟩
  rw [← hHe] at hP ⊢
  have hS : va_S A s.heap H [] := by rw [hHe]; exact hS
  have hin2 : meth.name = "<init>" := (name_of_methodNamed B.named B.method).1
  have hl : lv_has ls 1 [(0, .ref h0)] := hl
  refine lv_aload_n hx hb dX7_init_0 rfl (lv_at hl 0 rfl) ?_
  refine W.objInit hx hb hown (hts _ (bP 292 rfl)) (hts _ (bP 1 rfl)) (hts _ (bP 2 rfl)) rfl (by rw [hml]; exact hl.1) rfl dX7_init_1 (Nat.le_of_ble_eq_true rfl) (Nat.le_of_ble_eq_true rfl) ?_
  refine W.eq (g2 := F0 m 4 ls []) rfl ?_
  refine lv_aload_n hx hb dX7_init_4 rfl (lv_at hl 0 rfl) ?_
  refine lv_sipush (v := 6000) hx hb dX7_init_5 (by decide) ?_
  refine va_newa (ty := .byte) (a0 := (6000, .inl (fun _ => 0))) hx hb (hts _ (bP 293 rfl)) rfl hK hP hD hS hA (fun _ => rfl) (by decide) (by decide) (by decide) (Nat.le_of_ble_eq_true rfl) (Nat.le_of_ble_eq_true rfl) dX7_init_8 (fun t_tape ct_tape H hK hP hD hS => ?_)
  have hP : va_P (dC, dI) vwCl [(h0, .inr (7, fs)), (t_tape, .inl (ct_tape, 6000, .inl (fun _ => 0)))] H := hP
  have hD : va_D A [(h0, .inr (7, fs)), (t_tape, .inl (ct_tape, 6000, .inl (fun _ => 0)))] := hD
  have hK : va_K (dC, dI) vwCl [(ct_tape, .byte)] s := hK
  refine kq_putF [(0, .ref t_tape), (1, .int 0)] hts iX7 tyX7 tyX7_ok nmX7 hx hb hown hin2 hK hP hD hS 0 rfl rfl hJ 0 (by decide) (by decide) rfl (hts _ (bP 294 rfl)) rfl (ty := .array .byte) (by decide +kernel) (v := .ref t_tape) rfl rfl dX7_init_10 (fun f h => kJ_put h _ _ (by decide)) (fun H locs fs hJ hP hD hS => ?_)
  have hP : va_P (dC, dI) vwCl [(h0, .inr (7, fs)), (t_tape, .inl (ct_tape, 6000, .inl (fun _ => 0)))] H := hP
  have hD : va_D A [(h0, .inr (7, fs)), (t_tape, .inl (ct_tape, 6000, .inl (fun _ => 0)))] := hD
  refine lv_aload_n hx hb dX7_init_13 rfl (lv_at hl 0 rfl) ?_
  refine lv_sipush (v := 6010) hx hb dX7_init_14 (by decide) ?_
  refine va_newa (ty := .int) (a0 := (6010, .inl (fun _ => 0))) hx hb (hts _ (bP 7 rfl)) rfl hK hP hD hS hA (fun _ => rfl) (by decide) (by decide) (by decide) (Nat.le_of_ble_eq_true rfl) (Nat.le_of_ble_eq_true rfl) dX7_init_17 (fun t_kind ct_kind H hK hP hD hS => ?_)
  have hP : va_P (dC, dI) vwCl [(h0, .inr (7, fs)), (t_tape, .inl (ct_tape, 6000, .inl (fun _ => 0))), (t_kind, .inl (ct_kind, 6010, .inl (fun _ => 0)))] H := hP
  have hD : va_D A [(h0, .inr (7, fs)), (t_tape, .inl (ct_tape, 6000, .inl (fun _ => 0))), (t_kind, .inl (ct_kind, 6010, .inl (fun _ => 0)))] := hD
  have hK : va_K (dC, dI) vwCl [(ct_tape, .byte), (ct_kind, .int)] s := hK
  refine kq_putF [(2, .ref t_kind), (0, .ref t_tape), (1, .int 0)] hts iX7 tyX7 tyX7_ok nmX7 hx hb hown hin2 hK hP hD hS 0 rfl rfl hJ 2 (by decide) (by decide) rfl (hts _ (bP 295 rfl)) rfl (ty := .array .int) (by decide +kernel) (v := .ref t_kind) rfl rfl dX7_init_19 (fun f h => kJ_put h _ _ (by decide)) (fun H locs fs hJ hP hD hS => ?_)
  have hP : va_P (dC, dI) vwCl [(h0, .inr (7, fs)), (t_tape, .inl (ct_tape, 6000, .inl (fun _ => 0))), (t_kind, .inl (ct_kind, 6010, .inl (fun _ => 0)))] H := hP
  have hD : va_D A [(h0, .inr (7, fs)), (t_tape, .inl (ct_tape, 6000, .inl (fun _ => 0))), (t_kind, .inl (ct_kind, 6010, .inl (fun _ => 0)))] := hD
  refine lv_aload_n hx hb dX7_init_22 rfl (lv_at hl 0 rfl) ?_
  refine lv_sipush (v := 6010) hx hb dX7_init_23 (by decide) ?_
  refine va_newa (ty := .int) (a0 := (6010, .inl (fun _ => 0))) hx hb (hts _ (bP 7 rfl)) rfl hK hP hD hS hA (fun _ => rfl) (by decide) (by decide) (by decide) (Nat.le_of_ble_eq_true rfl) (Nat.le_of_ble_eq_true rfl) dX7_init_26 (fun t_value ct_value H hK hP hD hS => ?_)
  have hP : va_P (dC, dI) vwCl [(h0, .inr (7, fs)), (t_tape, .inl (ct_tape, 6000, .inl (fun _ => 0))), (t_kind, .inl (ct_kind, 6010, .inl (fun _ => 0))), (t_value, .inl (ct_value, 6010, .inl (fun _ => 0)))] H := hP
  have hD : va_D A [(h0, .inr (7, fs)), (t_tape, .inl (ct_tape, 6000, .inl (fun _ => 0))), (t_kind, .inl (ct_kind, 6010, .inl (fun _ => 0))), (t_value, .inl (ct_value, 6010, .inl (fun _ => 0)))] := hD
  have hK : va_K (dC, dI) vwCl [(ct_tape, .byte), (ct_kind, .int), (ct_value, .int)] s := hK
  refine kq_putF [(3, .ref t_value), (2, .ref t_kind), (0, .ref t_tape), (1, .int 0)] hts iX7 tyX7 tyX7_ok nmX7 hx hb hown hin2 hK hP hD hS 0 rfl rfl hJ 3 (by decide) (by decide) rfl (hts _ (bP 296 rfl)) rfl (ty := .array .int) (by decide +kernel) (v := .ref t_value) rfl rfl dX7_init_28 (fun f h => kJ_put h _ _ (by decide)) (fun H locs fs hJ hP hD hS => ?_)
  have hP : va_P (dC, dI) vwCl [(h0, .inr (7, fs)), (t_tape, .inl (ct_tape, 6000, .inl (fun _ => 0))), (t_kind, .inl (ct_kind, 6010, .inl (fun _ => 0))), (t_value, .inl (ct_value, 6010, .inl (fun _ => 0)))] H := hP
  have hD : va_D A [(h0, .inr (7, fs)), (t_tape, .inl (ct_tape, 6000, .inl (fun _ => 0))), (t_kind, .inl (ct_kind, 6010, .inl (fun _ => 0))), (t_value, .inl (ct_value, 6010, .inl (fun _ => 0)))] := hD
  refine lv_aload_n hx hb dX7_init_31 rfl (lv_at hl 0 rfl) ?_
  refine lv_sipush (v := 6010) hx hb dX7_init_32 (by decide) ?_
  refine va_newa (ty := .int) (a0 := (6010, .inl (fun _ => 0))) hx hb (hts _ (bP 7 rfl)) rfl hK hP hD hS hA (fun _ => rfl) (by decide) (by decide) (by decide) (Nat.le_of_ble_eq_true rfl) (Nat.le_of_ble_eq_true rfl) dX7_init_35 (fun t_line ct_line H hK hP hD hS => ?_)
  have hP : va_P (dC, dI) vwCl [(h0, .inr (7, fs)), (t_tape, .inl (ct_tape, 6000, .inl (fun _ => 0))), (t_kind, .inl (ct_kind, 6010, .inl (fun _ => 0))), (t_value, .inl (ct_value, 6010, .inl (fun _ => 0))), (t_line, .inl (ct_line, 6010, .inl (fun _ => 0)))] H := hP
  have hD : va_D A [(h0, .inr (7, fs)), (t_tape, .inl (ct_tape, 6000, .inl (fun _ => 0))), (t_kind, .inl (ct_kind, 6010, .inl (fun _ => 0))), (t_value, .inl (ct_value, 6010, .inl (fun _ => 0))), (t_line, .inl (ct_line, 6010, .inl (fun _ => 0)))] := hD
  have hK : va_K (dC, dI) vwCl [(ct_tape, .byte), (ct_kind, .int), (ct_value, .int), (ct_line, .int)] s := hK
  refine kq_putF [(4, .ref t_line), (3, .ref t_value), (2, .ref t_kind), (0, .ref t_tape), (1, .int 0)] hts iX7 tyX7 tyX7_ok nmX7 hx hb hown hin2 hK hP hD hS 0 rfl rfl hJ 4 (by decide) (by decide) rfl (hts _ (bP 297 rfl)) rfl (ty := .array .int) (by decide +kernel) (v := .ref t_line) rfl rfl dX7_init_37 (fun f h => kJ_put h _ _ (by decide)) (fun H locs fs hJ hP hD hS => ?_)
  have hP : va_P (dC, dI) vwCl [(h0, .inr (7, fs)), (t_tape, .inl (ct_tape, 6000, .inl (fun _ => 0))), (t_kind, .inl (ct_kind, 6010, .inl (fun _ => 0))), (t_value, .inl (ct_value, 6010, .inl (fun _ => 0))), (t_line, .inl (ct_line, 6010, .inl (fun _ => 0)))] H := hP
  have hD : va_D A [(h0, .inr (7, fs)), (t_tape, .inl (ct_tape, 6000, .inl (fun _ => 0))), (t_kind, .inl (ct_kind, 6010, .inl (fun _ => 0))), (t_value, .inl (ct_value, 6010, .inl (fun _ => 0))), (t_line, .inl (ct_line, 6010, .inl (fun _ => 0)))] := hD
  refine lv_aload_n hx hb dX7_init_40 rfl (lv_at hl 0 rfl) ?_
  refine lv_sipush (v := 6010) hx hb dX7_init_41 (by decide) ?_
  refine va_newa (ty := .int) (a0 := (6010, .inl (fun _ => 0))) hx hb (hts _ (bP 7 rfl)) rfl hK hP hD hS hA (fun _ => rfl) (by decide) (by decide) (by decide) (Nat.le_of_ble_eq_true rfl) (Nat.le_of_ble_eq_true rfl) dX7_init_44 (fun t_blanks ct_blanks H hK hP hD hS => ?_)
  have hP : va_P (dC, dI) vwCl [(h0, .inr (7, fs)), (t_tape, .inl (ct_tape, 6000, .inl (fun _ => 0))), (t_kind, .inl (ct_kind, 6010, .inl (fun _ => 0))), (t_value, .inl (ct_value, 6010, .inl (fun _ => 0))), (t_line, .inl (ct_line, 6010, .inl (fun _ => 0))), (t_blanks, .inl (ct_blanks, 6010, .inl (fun _ => 0)))] H := hP
  have hD : va_D A [(h0, .inr (7, fs)), (t_tape, .inl (ct_tape, 6000, .inl (fun _ => 0))), (t_kind, .inl (ct_kind, 6010, .inl (fun _ => 0))), (t_value, .inl (ct_value, 6010, .inl (fun _ => 0))), (t_line, .inl (ct_line, 6010, .inl (fun _ => 0))), (t_blanks, .inl (ct_blanks, 6010, .inl (fun _ => 0)))] := hD
  have hK : va_K (dC, dI) vwCl [(ct_tape, .byte), (ct_kind, .int), (ct_value, .int), (ct_line, .int), (ct_blanks, .int)] s := hK
  refine kq_putF [(5, .ref t_blanks), (4, .ref t_line), (3, .ref t_value), (2, .ref t_kind), (0, .ref t_tape), (1, .int 0)] hts iX7 tyX7 tyX7_ok nmX7 hx hb hown hin2 hK hP hD hS 0 rfl rfl hJ 5 (by decide) (by decide) rfl (hts _ (bP 298 rfl)) rfl (ty := .array .int) (by decide +kernel) (v := .ref t_blanks) rfl rfl dX7_init_46 (fun f h => kJ_put h _ _ (by decide)) (fun H locs fs hJ hP hD hS => ?_)
  have hP : va_P (dC, dI) vwCl [(h0, .inr (7, fs)), (t_tape, .inl (ct_tape, 6000, .inl (fun _ => 0))), (t_kind, .inl (ct_kind, 6010, .inl (fun _ => 0))), (t_value, .inl (ct_value, 6010, .inl (fun _ => 0))), (t_line, .inl (ct_line, 6010, .inl (fun _ => 0))), (t_blanks, .inl (ct_blanks, 6010, .inl (fun _ => 0)))] H := hP
  have hD : va_D A [(h0, .inr (7, fs)), (t_tape, .inl (ct_tape, 6000, .inl (fun _ => 0))), (t_kind, .inl (ct_kind, 6010, .inl (fun _ => 0))), (t_value, .inl (ct_value, 6010, .inl (fun _ => 0))), (t_line, .inl (ct_line, 6010, .inl (fun _ => 0))), (t_blanks, .inl (ct_blanks, 6010, .inl (fun _ => 0)))] := hD
  refine lv_aload_n hx hb dX7_init_49 rfl (lv_at hl 0 rfl) ?_
  refine lv_sipush (v := 6000) hx hb dX7_init_50 (by decide) ?_
  refine k_newa (N' := 6000) hx hb (hts _ (bP 7 rfl)) hP hD hS (by decide) (by decide) (by decide) (Nat.le_of_ble_eq_true rfl) (Nat.le_of_ble_eq_true rfl) dX7_init_53 (fun n1 H hP hD hS => ?_)
  refine kq_putF [(5, .ref t_blanks), (4, .ref t_line), (3, .ref t_value), (2, .ref t_kind), (0, .ref t_tape), (1, .int 0)] hts iX7 tyX7 tyX7_ok nmX7 hx hb hown hin2 hK hP hD hS 0 rfl rfl hJ 8 (by decide) (by decide) rfl (hts _ (bP 299 rfl)) rfl (ty := .array .int) (by decide +kernel) (v := .ref n1) rfl rfl dX7_init_55 (fun f h => kJ_set h _ _ rfl) (fun H locs fs hJ hP hD hS => ?_)
  have hP : va_P (dC, dI) vwCl [(h0, .inr (7, fs)), (t_tape, .inl (ct_tape, 6000, .inl (fun _ => 0))), (t_kind, .inl (ct_kind, 6010, .inl (fun _ => 0))), (t_value, .inl (ct_value, 6010, .inl (fun _ => 0))), (t_line, .inl (ct_line, 6010, .inl (fun _ => 0))), (t_blanks, .inl (ct_blanks, 6010, .inl (fun _ => 0)))] H := hP
  have hD : va_D A [(h0, .inr (7, fs)), (t_tape, .inl (ct_tape, 6000, .inl (fun _ => 0))), (t_kind, .inl (ct_kind, 6010, .inl (fun _ => 0))), (t_value, .inl (ct_value, 6010, .inl (fun _ => 0))), (t_line, .inl (ct_line, 6010, .inl (fun _ => 0))), (t_blanks, .inl (ct_blanks, 6010, .inl (fun _ => 0)))] := hD
  refine lv_aload_n hx hb dX7_init_58 rfl (lv_at hl 0 rfl) ?_
  refine lv_sipush (v := 6400) hx hb dX7_init_59 (by decide) ?_
  refine va_newa (ty := .byte) (a0 := (6400, .inl (fun _ => 0))) hx hb (hts _ (bP 293 rfl)) rfl hK hP hD hS hA (fun _ => rfl) (by decide) (by decide) (by decide) (Nat.le_of_ble_eq_true rfl) (Nat.le_of_ble_eq_true rfl) dX7_init_62 (fun t_letters ct_letters H hK hP hD hS => ?_)
  have hP : va_P (dC, dI) vwCl [(h0, .inr (7, fs)), (t_tape, .inl (ct_tape, 6000, .inl (fun _ => 0))), (t_kind, .inl (ct_kind, 6010, .inl (fun _ => 0))), (t_value, .inl (ct_value, 6010, .inl (fun _ => 0))), (t_line, .inl (ct_line, 6010, .inl (fun _ => 0))), (t_blanks, .inl (ct_blanks, 6010, .inl (fun _ => 0))), (t_letters, .inl (ct_letters, 6400, .inl (fun _ => 0)))] H := hP
  have hD : va_D A [(h0, .inr (7, fs)), (t_tape, .inl (ct_tape, 6000, .inl (fun _ => 0))), (t_kind, .inl (ct_kind, 6010, .inl (fun _ => 0))), (t_value, .inl (ct_value, 6010, .inl (fun _ => 0))), (t_line, .inl (ct_line, 6010, .inl (fun _ => 0))), (t_blanks, .inl (ct_blanks, 6010, .inl (fun _ => 0))), (t_letters, .inl (ct_letters, 6400, .inl (fun _ => 0)))] := hD
  have hK : va_K (dC, dI) vwCl [(ct_tape, .byte), (ct_kind, .int), (ct_value, .int), (ct_line, .int), (ct_blanks, .int), (ct_letters, .byte)] s := hK
  refine kq_putF [(14, .ref t_letters), (5, .ref t_blanks), (4, .ref t_line), (3, .ref t_value), (2, .ref t_kind), (0, .ref t_tape), (1, .int 0)] hts iX7 tyX7 tyX7_ok nmX7 hx hb hown hin2 hK hP hD hS 0 rfl rfl hJ 14 (by decide) (by decide) rfl (hts _ (bP 300 rfl)) rfl (ty := .array .byte) (by decide +kernel) (v := .ref t_letters) rfl rfl dX7_init_64 (fun f h => kJ_put h _ _ (by decide)) (fun H locs fs hJ hP hD hS => ?_)
  have hP : va_P (dC, dI) vwCl [(h0, .inr (7, fs)), (t_tape, .inl (ct_tape, 6000, .inl (fun _ => 0))), (t_kind, .inl (ct_kind, 6010, .inl (fun _ => 0))), (t_value, .inl (ct_value, 6010, .inl (fun _ => 0))), (t_line, .inl (ct_line, 6010, .inl (fun _ => 0))), (t_blanks, .inl (ct_blanks, 6010, .inl (fun _ => 0))), (t_letters, .inl (ct_letters, 6400, .inl (fun _ => 0)))] H := hP
  have hD : va_D A [(h0, .inr (7, fs)), (t_tape, .inl (ct_tape, 6000, .inl (fun _ => 0))), (t_kind, .inl (ct_kind, 6010, .inl (fun _ => 0))), (t_value, .inl (ct_value, 6010, .inl (fun _ => 0))), (t_line, .inl (ct_line, 6010, .inl (fun _ => 0))), (t_blanks, .inl (ct_blanks, 6010, .inl (fun _ => 0))), (t_letters, .inl (ct_letters, 6400, .inl (fun _ => 0)))] := hD
  refine lv_aload_n hx hb dX7_init_67 rfl (lv_at hl 0 rfl) ?_
  refine lv_sipush (v := 3150) hx hb dX7_init_68 (by decide) ?_
  refine va_newa (ty := .int) (a0 := (3150, .inl (fun _ => 0))) hx hb (hts _ (bP 7 rfl)) rfl hK hP hD hS hA (fun _ => rfl) (by decide) (by decide) (by decide) (Nat.le_of_ble_eq_true rfl) (Nat.le_of_ble_eq_true rfl) dX7_init_71 (fun t_nameFrom ct_nameFrom H hK hP hD hS => ?_)
  have hP : va_P (dC, dI) vwCl [(h0, .inr (7, fs)), (t_tape, .inl (ct_tape, 6000, .inl (fun _ => 0))), (t_kind, .inl (ct_kind, 6010, .inl (fun _ => 0))), (t_value, .inl (ct_value, 6010, .inl (fun _ => 0))), (t_line, .inl (ct_line, 6010, .inl (fun _ => 0))), (t_blanks, .inl (ct_blanks, 6010, .inl (fun _ => 0))), (t_letters, .inl (ct_letters, 6400, .inl (fun _ => 0))), (t_nameFrom, .inl (ct_nameFrom, 3150, .inl (fun _ => 0)))] H := hP
  have hD : va_D A [(h0, .inr (7, fs)), (t_tape, .inl (ct_tape, 6000, .inl (fun _ => 0))), (t_kind, .inl (ct_kind, 6010, .inl (fun _ => 0))), (t_value, .inl (ct_value, 6010, .inl (fun _ => 0))), (t_line, .inl (ct_line, 6010, .inl (fun _ => 0))), (t_blanks, .inl (ct_blanks, 6010, .inl (fun _ => 0))), (t_letters, .inl (ct_letters, 6400, .inl (fun _ => 0))), (t_nameFrom, .inl (ct_nameFrom, 3150, .inl (fun _ => 0)))] := hD
  have hK : va_K (dC, dI) vwCl [(ct_tape, .byte), (ct_kind, .int), (ct_value, .int), (ct_line, .int), (ct_blanks, .int), (ct_letters, .byte), (ct_nameFrom, .int)] s := hK
  refine kq_putF [(15, .ref t_nameFrom), (14, .ref t_letters), (5, .ref t_blanks), (4, .ref t_line), (3, .ref t_value), (2, .ref t_kind), (0, .ref t_tape), (1, .int 0)] hts iX7 tyX7 tyX7_ok nmX7 hx hb hown hin2 hK hP hD hS 0 rfl rfl hJ 15 (by decide) (by decide) rfl (hts _ (bP 301 rfl)) rfl (ty := .array .int) (by decide +kernel) (v := .ref t_nameFrom) rfl rfl dX7_init_73 (fun f h => kJ_put h _ _ (by decide)) (fun H locs fs hJ hP hD hS => ?_)
  have hP : va_P (dC, dI) vwCl [(h0, .inr (7, fs)), (t_tape, .inl (ct_tape, 6000, .inl (fun _ => 0))), (t_kind, .inl (ct_kind, 6010, .inl (fun _ => 0))), (t_value, .inl (ct_value, 6010, .inl (fun _ => 0))), (t_line, .inl (ct_line, 6010, .inl (fun _ => 0))), (t_blanks, .inl (ct_blanks, 6010, .inl (fun _ => 0))), (t_letters, .inl (ct_letters, 6400, .inl (fun _ => 0))), (t_nameFrom, .inl (ct_nameFrom, 3150, .inl (fun _ => 0)))] H := hP
  have hD : va_D A [(h0, .inr (7, fs)), (t_tape, .inl (ct_tape, 6000, .inl (fun _ => 0))), (t_kind, .inl (ct_kind, 6010, .inl (fun _ => 0))), (t_value, .inl (ct_value, 6010, .inl (fun _ => 0))), (t_line, .inl (ct_line, 6010, .inl (fun _ => 0))), (t_blanks, .inl (ct_blanks, 6010, .inl (fun _ => 0))), (t_letters, .inl (ct_letters, 6400, .inl (fun _ => 0))), (t_nameFrom, .inl (ct_nameFrom, 3150, .inl (fun _ => 0)))] := hD
  refine lv_aload_n hx hb dX7_init_76 rfl (lv_at hl 0 rfl) ?_
  refine lv_sipush (v := 3150) hx hb dX7_init_77 (by decide) ?_
  refine va_newa (ty := .int) (a0 := (3150, .inl (fun _ => 0))) hx hb (hts _ (bP 7 rfl)) rfl hK hP hD hS hA (fun _ => rfl) (by decide) (by decide) (by decide) (Nat.le_of_ble_eq_true rfl) (Nat.le_of_ble_eq_true rfl) dX7_init_80 (fun t_nameNext ct_nameNext H hK hP hD hS => ?_)
  have hP : va_P (dC, dI) vwCl [(h0, .inr (7, fs)), (t_tape, .inl (ct_tape, 6000, .inl (fun _ => 0))), (t_kind, .inl (ct_kind, 6010, .inl (fun _ => 0))), (t_value, .inl (ct_value, 6010, .inl (fun _ => 0))), (t_line, .inl (ct_line, 6010, .inl (fun _ => 0))), (t_blanks, .inl (ct_blanks, 6010, .inl (fun _ => 0))), (t_letters, .inl (ct_letters, 6400, .inl (fun _ => 0))), (t_nameFrom, .inl (ct_nameFrom, 3150, .inl (fun _ => 0))), (t_nameNext, .inl (ct_nameNext, 3150, .inl (fun _ => 0)))] H := hP
  have hD : va_D A [(h0, .inr (7, fs)), (t_tape, .inl (ct_tape, 6000, .inl (fun _ => 0))), (t_kind, .inl (ct_kind, 6010, .inl (fun _ => 0))), (t_value, .inl (ct_value, 6010, .inl (fun _ => 0))), (t_line, .inl (ct_line, 6010, .inl (fun _ => 0))), (t_blanks, .inl (ct_blanks, 6010, .inl (fun _ => 0))), (t_letters, .inl (ct_letters, 6400, .inl (fun _ => 0))), (t_nameFrom, .inl (ct_nameFrom, 3150, .inl (fun _ => 0))), (t_nameNext, .inl (ct_nameNext, 3150, .inl (fun _ => 0)))] := hD
  have hK : va_K (dC, dI) vwCl [(ct_tape, .byte), (ct_kind, .int), (ct_value, .int), (ct_line, .int), (ct_blanks, .int), (ct_letters, .byte), (ct_nameFrom, .int), (ct_nameNext, .int)] s := hK
  refine kq_putF [(16, .ref t_nameNext), (15, .ref t_nameFrom), (14, .ref t_letters), (5, .ref t_blanks), (4, .ref t_line), (3, .ref t_value), (2, .ref t_kind), (0, .ref t_tape), (1, .int 0)] hts iX7 tyX7 tyX7_ok nmX7 hx hb hown hin2 hK hP hD hS 0 rfl rfl hJ 16 (by decide) (by decide) rfl (hts _ (bP 302 rfl)) rfl (ty := .array .int) (by decide +kernel) (v := .ref t_nameNext) rfl rfl dX7_init_82 (fun f h => kJ_put h _ _ (by decide)) (fun H locs fs hJ hP hD hS => ?_)
  have hP : va_P (dC, dI) vwCl [(h0, .inr (7, fs)), (t_tape, .inl (ct_tape, 6000, .inl (fun _ => 0))), (t_kind, .inl (ct_kind, 6010, .inl (fun _ => 0))), (t_value, .inl (ct_value, 6010, .inl (fun _ => 0))), (t_line, .inl (ct_line, 6010, .inl (fun _ => 0))), (t_blanks, .inl (ct_blanks, 6010, .inl (fun _ => 0))), (t_letters, .inl (ct_letters, 6400, .inl (fun _ => 0))), (t_nameFrom, .inl (ct_nameFrom, 3150, .inl (fun _ => 0))), (t_nameNext, .inl (ct_nameNext, 3150, .inl (fun _ => 0)))] H := hP
  have hD : va_D A [(h0, .inr (7, fs)), (t_tape, .inl (ct_tape, 6000, .inl (fun _ => 0))), (t_kind, .inl (ct_kind, 6010, .inl (fun _ => 0))), (t_value, .inl (ct_value, 6010, .inl (fun _ => 0))), (t_line, .inl (ct_line, 6010, .inl (fun _ => 0))), (t_blanks, .inl (ct_blanks, 6010, .inl (fun _ => 0))), (t_letters, .inl (ct_letters, 6400, .inl (fun _ => 0))), (t_nameFrom, .inl (ct_nameFrom, 3150, .inl (fun _ => 0))), (t_nameNext, .inl (ct_nameNext, 3150, .inl (fun _ => 0)))] := hD
  refine lv_aload_n hx hb dX7_init_85 rfl (lv_at hl 0 rfl) ?_
  refine lv_sipush (v := 512) hx hb dX7_init_86 (by decide) ?_
  refine va_newa (ty := .int) (a0 := (512, .inl (fun _ => 0))) hx hb (hts _ (bP 7 rfl)) rfl hK hP hD hS hA (fun _ => rfl) (by decide) (by decide) (by decide) (Nat.le_of_ble_eq_true rfl) (Nat.le_of_ble_eq_true rfl) dX7_init_89 (fun t_bucket ct_bucket H hK hP hD hS => ?_)
  have hP : va_P (dC, dI) vwCl [(h0, .inr (7, fs)), (t_tape, .inl (ct_tape, 6000, .inl (fun _ => 0))), (t_kind, .inl (ct_kind, 6010, .inl (fun _ => 0))), (t_value, .inl (ct_value, 6010, .inl (fun _ => 0))), (t_line, .inl (ct_line, 6010, .inl (fun _ => 0))), (t_blanks, .inl (ct_blanks, 6010, .inl (fun _ => 0))), (t_letters, .inl (ct_letters, 6400, .inl (fun _ => 0))), (t_nameFrom, .inl (ct_nameFrom, 3150, .inl (fun _ => 0))), (t_nameNext, .inl (ct_nameNext, 3150, .inl (fun _ => 0))), (t_bucket, .inl (ct_bucket, 512, .inl (fun _ => 0)))] H := hP
  have hD : va_D A [(h0, .inr (7, fs)), (t_tape, .inl (ct_tape, 6000, .inl (fun _ => 0))), (t_kind, .inl (ct_kind, 6010, .inl (fun _ => 0))), (t_value, .inl (ct_value, 6010, .inl (fun _ => 0))), (t_line, .inl (ct_line, 6010, .inl (fun _ => 0))), (t_blanks, .inl (ct_blanks, 6010, .inl (fun _ => 0))), (t_letters, .inl (ct_letters, 6400, .inl (fun _ => 0))), (t_nameFrom, .inl (ct_nameFrom, 3150, .inl (fun _ => 0))), (t_nameNext, .inl (ct_nameNext, 3150, .inl (fun _ => 0))), (t_bucket, .inl (ct_bucket, 512, .inl (fun _ => 0)))] := hD
  have hK : va_K (dC, dI) vwCl [(ct_tape, .byte), (ct_kind, .int), (ct_value, .int), (ct_line, .int), (ct_blanks, .int), (ct_letters, .byte), (ct_nameFrom, .int), (ct_nameNext, .int), (ct_bucket, .int)] s := hK
  refine kq_putF [(17, .ref t_bucket), (16, .ref t_nameNext), (15, .ref t_nameFrom), (14, .ref t_letters), (5, .ref t_blanks), (4, .ref t_line), (3, .ref t_value), (2, .ref t_kind), (0, .ref t_tape), (1, .int 0)] hts iX7 tyX7 tyX7_ok nmX7 hx hb hown hin2 hK hP hD hS 0 rfl rfl hJ 17 (by decide) (by decide) rfl (hts _ (bP 303 rfl)) rfl (ty := .array .int) (by decide +kernel) (v := .ref t_bucket) rfl rfl dX7_init_91 (fun f h => kJ_put h _ _ (by decide)) (fun H locs fs hJ hP hD hS => ?_)
  have hP : va_P (dC, dI) vwCl [(h0, .inr (7, fs)), (t_tape, .inl (ct_tape, 6000, .inl (fun _ => 0))), (t_kind, .inl (ct_kind, 6010, .inl (fun _ => 0))), (t_value, .inl (ct_value, 6010, .inl (fun _ => 0))), (t_line, .inl (ct_line, 6010, .inl (fun _ => 0))), (t_blanks, .inl (ct_blanks, 6010, .inl (fun _ => 0))), (t_letters, .inl (ct_letters, 6400, .inl (fun _ => 0))), (t_nameFrom, .inl (ct_nameFrom, 3150, .inl (fun _ => 0))), (t_nameNext, .inl (ct_nameNext, 3150, .inl (fun _ => 0))), (t_bucket, .inl (ct_bucket, 512, .inl (fun _ => 0)))] H := hP
  have hD : va_D A [(h0, .inr (7, fs)), (t_tape, .inl (ct_tape, 6000, .inl (fun _ => 0))), (t_kind, .inl (ct_kind, 6010, .inl (fun _ => 0))), (t_value, .inl (ct_value, 6010, .inl (fun _ => 0))), (t_line, .inl (ct_line, 6010, .inl (fun _ => 0))), (t_blanks, .inl (ct_blanks, 6010, .inl (fun _ => 0))), (t_letters, .inl (ct_letters, 6400, .inl (fun _ => 0))), (t_nameFrom, .inl (ct_nameFrom, 3150, .inl (fun _ => 0))), (t_nameNext, .inl (ct_nameNext, 3150, .inl (fun _ => 0))), (t_bucket, .inl (ct_bucket, 512, .inl (fun _ => 0)))] := hD
  refine W.widen (k := 10) (n := 49252) (Nat.le_of_ble_eq_true rfl) (Nat.le_of_ble_eq_true rfl) ?_
  exact W.vret hx hb hr (fun t ht hW => ⟨⟨(fs, t_tape, t_kind, t_value, t_line, t_blanks, t_letters, t_nameFrom, t_nameNext, t_bucket, ct_tape, ct_kind, ct_value, ct_line, ct_blanks, ct_letters, ct_nameFrom, ct_nameNext, ct_bucket), rfl, kJ_sub hJ (by intro x hx; simp only [List.mem_cons, List.not_mem_nil, or_false] at hx ⊢; rcases hx with h | h | h | h | h | h | h | h | h | h <;> simp [h]), by rw [ht]; exact hP, va_K.moved hW.alike hK, hD⟩, hS.F ht⟩) hS.2.2 dX7_init_94
