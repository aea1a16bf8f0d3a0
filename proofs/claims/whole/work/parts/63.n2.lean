section
theorem dX5_init_0 : decode cX5_init 0 = .ok (.aload_n 0, 1) := by decide +kernel
theorem dX5_init_1 : decode cX5_init 1 = .ok (.invokespecial 3, 3) := by decide +kernel
theorem dX5_init_4 : decode cX5_init 4 = .ok (.aload_n 0, 1) := by decide +kernel
theorem dX5_init_5 : decode cX5_init 5 = .ok (.iload_n 1, 1) := by decide +kernel
theorem dX5_init_6 : decode cX5_init 6 = .ok (.newarray .int, 2) := by decide +kernel
theorem dX5_init_8 : decode cX5_init 8 = .ok (.putfield 9, 3) := by decide +kernel
theorem dX5_init_11 : decode cX5_init 11 = .ok (.aload_n 0, 1) := by decide +kernel
theorem dX5_init_12 : decode cX5_init 12 = .ok (.iconst 0, 1) := by decide +kernel
theorem dX5_init_13 : decode cX5_init 13 = .ok (.putfield 15, 3) := by decide +kernel
theorem dX5_init_16 : decode cX5_init 16 = .ok (.return_, 1) := by decide +kernel
theorem dX3_init_0 : decode cX3_init 0 = .ok (.aload_n 0, 1) := by decide +kernel
theorem dX3_init_1 : decode cX3_init 1 = .ok (.invokespecial 3, 3) := by decide +kernel
theorem dX3_init_4 : decode cX3_init 4 = .ok (.aload_n 0, 1) := by decide +kernel
theorem dX3_init_5 : decode cX3_init 5 = .ok (.bipush 32, 2) := by decide +kernel
theorem dX3_init_7 : decode cX3_init 7 = .ok (.newarray .int, 2) := by decide +kernel
theorem dX3_init_9 : decode cX3_init 9 = .ok (.putfield 11, 3) := by decide +kernel
theorem dX3_init_12 : decode cX3_init 12 = .ok (.aload_n 0, 1) := by decide +kernel
theorem dX3_init_13 : decode cX3_init 13 = .ok (.sipush 128, 3) := by decide +kernel
theorem dX3_init_16 : decode cX3_init 16 = .ok (.newarray .int, 2) := by decide +kernel
theorem dX3_init_18 : decode cX3_init 18 = .ok (.putfield 15, 3) := by decide +kernel
theorem dX3_init_21 : decode cX3_init 21 = .ok (.aload_n 0, 1) := by decide +kernel
theorem dX3_init_22 : decode cX3_init 22 = .ok (.iconst (-1), 1) := by decide +kernel
theorem dX3_init_23 : decode cX3_init 23 = .ok (.putfield 18, 3) := by decide +kernel
theorem dX3_init_26 : decode cX3_init 26 = .ok (.return_, 1) := by decide +kernel
theorem dX1_init_0 : decode cX1_init 0 = .ok (.aload_n 0, 1) := by decide +kernel
theorem dX1_init_1 : decode cX1_init 1 = .ok (.invokespecial 3, 3) := by decide +kernel
theorem dX1_init_4 : decode cX1_init 4 = .ok (.aload_n 0, 1) := by decide +kernel
theorem dX1_init_5 : decode cX1_init 5 = .ok (.bipush 64, 2) := by decide +kernel
theorem dX1_init_7 : decode cX1_init 7 = .ok (.newarray .long, 2) := by decide +kernel
theorem dX1_init_9 : decode cX1_init 9 = .ok (.putfield 9, 3) := by decide +kernel
theorem dX1_init_12 : decode cX1_init 12 = .ok (.aload_n 0, 1) := by decide +kernel
theorem dX1_init_13 : decode cX1_init 13 = .ok (.iconst (-1), 1) := by decide +kernel
theorem dX1_init_14 : decode cX1_init 14 = .ok (.putfield 15, 3) := by decide +kernel
theorem dX1_init_17 : decode cX1_init 17 = .ok (.aload_n 0, 1) := by decide +kernel
theorem dX1_init_18 : decode cX1_init 18 = .ok (.iconst (-1), 1) := by decide +kernel
theorem dX1_init_19 : decode cX1_init 19 = .ok (.putfield 19, 3) := by decide +kernel
theorem dX1_init_22 : decode cX1_init 22 = .ok (.aload_n 0, 1) := by decide +kernel
theorem dX1_init_23 : decode cX1_init 23 = .ok (.iconst (-1), 1) := by decide +kernel
theorem dX1_init_24 : decode cX1_init 24 = .ok (.putfield 22, 3) := by decide +kernel
theorem dX1_init_27 : decode cX1_init 27 = .ok (.return_, 1) := by decide +kernel
theorem dX6_init_0 : decode cX6_init 0 = .ok (.aload_n 0, 1) := by decide +kernel
theorem dX6_init_1 : decode cX6_init 1 = .ok (.invokespecial 5, 3) := by decide +kernel
theorem dX6_init_4 : decode cX6_init 4 = .ok (.aload_n 0, 1) := by decide +kernel
theorem dX6_init_5 : decode cX6_init 5 = .ok (.iconst 4, 1) := by decide +kernel
theorem dX6_init_6 : decode cX6_init 6 = .ok (.newarray .long, 2) := by decide +kernel
theorem dX6_init_8 : decode cX6_init 8 = .ok (.putfield 11, 3) := by decide +kernel
theorem dX6_init_11 : decode cX6_init 11 = .ok (.aload_n 0, 1) := by decide +kernel
theorem dX6_init_12 : decode cX6_init 12 = .ok (.iconst 4, 1) := by decide +kernel
theorem dX6_init_13 : decode cX6_init 13 = .ok (.newarray .long, 2) := by decide +kernel
theorem dX6_init_15 : decode cX6_init 15 = .ok (.putfield 17, 3) := by decide +kernel
theorem dX6_init_18 : decode cX6_init 18 = .ok (.aload_n 0, 1) := by decide +kernel
theorem dX6_init_19 : decode cX6_init 19 = .ok (.iconst 4, 1) := by decide +kernel
theorem dX6_init_20 : decode cX6_init 20 = .ok (.newarray .long, 2) := by decide +kernel
theorem dX6_init_22 : decode cX6_init 22 = .ok (.putfield 20, 3) := by decide +kernel
theorem dX6_init_25 : decode cX6_init 25 = .ok (.aload_n 0, 1) := by decide +kernel
theorem dX6_init_26 : decode cX6_init 26 = .ok (.iconst 4, 1) := by decide +kernel
theorem dX6_init_27 : decode cX6_init 27 = .ok (.newarray .long, 2) := by decide +kernel
theorem dX6_init_29 : decode cX6_init 29 = .ok (.putfield 23, 3) := by decide +kernel
theorem dX6_init_32 : decode cX6_init 32 = .ok (.return_, 1) := by decide +kernel
theorem dX0_init_0 : decode cX0_init 0 = .ok (.aload_n 0, 1) := by decide +kernel
theorem dX0_init_1 : decode cX0_init 1 = .ok (.invokespecial 3, 3) := by decide +kernel
theorem dX0_init_4 : decode cX0_init 4 = .ok (.aload_n 0, 1) := by decide +kernel
theorem dX0_init_5 : decode cX0_init 5 = .ok (.bipush 8, 2) := by decide +kernel
theorem dX0_init_7 : decode cX0_init 7 = .ok (.newarray .int, 2) := by decide +kernel
theorem dX0_init_9 : decode cX0_init 9 = .ok (.putfield 11, 3) := by decide +kernel
theorem dX0_init_12 : decode cX0_init 12 = .ok (.aload_n 0, 1) := by decide +kernel
theorem dX0_init_13 : decode cX0_init 13 = .ok (.bipush 8, 2) := by decide +kernel
theorem dX0_init_15 : decode cX0_init 15 = .ok (.newarray .int, 2) := by decide +kernel
theorem dX0_init_17 : decode cX0_init 17 = .ok (.putfield 15, 3) := by decide +kernel
theorem dX0_init_20 : decode cX0_init 20 = .ok (.aload_n 0, 1) := by decide +kernel
theorem dX0_init_21 : decode cX0_init 21 = .ok (.bipush 32, 2) := by decide +kernel
theorem dX0_init_23 : decode cX0_init 23 = .ok (.newarray .int, 2) := by decide +kernel
theorem dX0_init_25 : decode cX0_init 25 = .ok (.putfield 20, 3) := by decide +kernel
theorem dX0_init_28 : decode cX0_init 28 = .ok (.return_, 1) := by decide +kernel
theorem dX4_init_0 : decode cX4_init 0 = .ok (.aload_n 0, 1) := by decide +kernel
theorem dX4_init_1 : decode cX4_init 1 = .ok (.invokespecial 3, 3) := by decide +kernel
theorem dX4_init_4 : decode cX4_init 4 = .ok (.aload_n 0, 1) := by decide +kernel
theorem dX4_init_5 : decode cX4_init 5 = .ok (.bipush 64, 2) := by decide +kernel
theorem dX4_init_7 : decode cX4_init 7 = .ok (.newarray .int, 2) := by decide +kernel
theorem dX4_init_9 : decode cX4_init 9 = .ok (.putfield 11, 3) := by decide +kernel
theorem dX4_init_12 : decode cX4_init 12 = .ok (.aload_n 0, 1) := by decide +kernel
theorem dX4_init_13 : decode cX4_init 13 = .ok (.iconst 1, 1) := by decide +kernel
theorem dX4_init_14 : decode cX4_init 14 = .ok (.putfield 15, 3) := by decide +kernel
theorem dX4_init_17 : decode cX4_init 17 = .ok (.return_, 1) := by decide +kernel
set_option maxRecDepth 20000 in
theorem ggX7_init_X5_init : GoodIn wsX7_init wsX5_init := goodIn_r _ [32, 33, 2, 3, 34, 35, 36, 69, 70] (by decide +kernel) (by decide +kernel)
set_option maxRecDepth 20000 in
theorem gX7_init_X5_init : GoodIn wsX7_init (wsX5_init) := ggX7_init_X5_init
set_option maxRecDepth 20000 in
theorem ggX7_init_X3_init : GoodIn wsX7_init wsX3_init := goodIn_r _ [38, 39, 2, 3, 34, 40, 41, 42, 79, 80, 81, 82] (by decide +kernel) (by decide +kernel)
set_option maxRecDepth 20000 in
theorem gX7_init_X3_init_n23 : GoodIn wsX7_init (wsX3_init) := ggX7_init_X3_init
set_option maxRecDepth 20000 in
theorem ggX7_init_X1_init : GoodIn wsX7_init wsX1_init := goodIn_r _ [44, 45, 2, 3, 46, 47, 48, 49, 50, 83, 84, 85, 86, 87, 88] (by decide +kernel) (by decide +kernel)
set_option maxRecDepth 20000 in
theorem gX7_init_X1_init_n30 : GoodIn wsX7_init (wsX1_init) := ggX7_init_X1_init
set_option maxRecDepth 20000 in
theorem ggX7_init_X6_init : GoodIn wsX7_init wsX6_init := goodIn_r _ [52, 53, 2, 3, 46, 54, 55, 56, 57, 89, 90, 91, 92] (by decide +kernel) (by decide +kernel)
set_option maxRecDepth 20000 in
theorem gX7_init_X6_init_n37 : GoodIn wsX7_init (wsX6_init) := ggX7_init_X6_init
set_option maxRecDepth 20000 in
theorem ggX7_init_X0_init : GoodIn wsX7_init wsX0_init := goodIn_r _ [59, 60, 2, 3, 34, 61, 62, 63, 93, 94, 95, 96] (by decide +kernel) (by decide +kernel)
set_option maxRecDepth 20000 in
theorem gX7_init_X0_init_n44 : GoodIn wsX7_init (wsX0_init) := ggX7_init_X0_init
set_option maxRecDepth 20000 in
theorem ggX7_init_X4_init : GoodIn wsX7_init wsX4_init := goodIn_r _ [65, 66, 2, 3, 34, 67, 68, 97, 98, 99, 100] (by decide +kernel) (by decide +kernel)
set_option maxRecDepth 20000 in
theorem gX7_init_X4_init_n55 : GoodIn wsX7_init (wsX4_init) := ggX7_init_X4_init
theorem dX7_init_0 : decode cX7_init 0 = .ok (.aload_n 0, 1) := by decide +kernel
theorem dX7_init_1 : decode cX7_init 1 = .ok (.invokespecial 1, 3) := by decide +kernel
theorem dX7_init_4 : decode cX7_init 4 = .ok (.aload_n 0, 1) := by decide +kernel
theorem dX7_init_5 : decode cX7_init 5 = .ok (.new 7, 3) := by decide +kernel
theorem dX7_init_8 : decode cX7_init 8 = .ok (.dup, 1) := by decide +kernel
theorem dX7_init_9 : decode cX7_init 9 = .ok (.bipush 40, 2) := by decide +kernel
theorem dX7_init_11 : decode cX7_init 11 = .ok (.invokespecial 11, 3) := by decide +kernel
theorem dX7_init_14 : decode cX7_init 14 = .ok (.putfield 14, 3) := by decide +kernel
theorem dX7_init_17 : decode cX7_init 17 = .ok (.aload_n 0, 1) := by decide +kernel
theorem dX7_init_18 : decode cX7_init 18 = .ok (.new 7, 3) := by decide +kernel
theorem dX7_init_21 : decode cX7_init 21 = .ok (.dup, 1) := by decide +kernel
theorem dX7_init_22 : decode cX7_init 22 = .ok (.bipush 71, 2) := by decide +kernel
theorem dX7_init_24 : decode cX7_init 24 = .ok (.invokespecial 11, 3) := by decide +kernel
theorem dX7_init_27 : decode cX7_init 27 = .ok (.putfield 18, 3) := by decide +kernel
theorem dX7_init_30 : decode cX7_init 30 = .ok (.aload_n 0, 1) := by decide +kernel
theorem dX7_init_31 : decode cX7_init 31 = .ok (.new 21, 3) := by decide +kernel
theorem dX7_init_34 : decode cX7_init 34 = .ok (.dup, 1) := by decide +kernel
theorem dX7_init_35 : decode cX7_init 35 = .ok (.invokespecial 23, 3) := by decide +kernel
theorem dX7_init_38 : decode cX7_init 38 = .ok (.putfield 24, 3) := by decide +kernel
theorem dX7_init_41 : decode cX7_init 41 = .ok (.aload_n 0, 1) := by decide +kernel
theorem dX7_init_42 : decode cX7_init 42 = .ok (.new 28, 3) := by decide +kernel
theorem dX7_init_45 : decode cX7_init 45 = .ok (.dup, 1) := by decide +kernel
theorem dX7_init_46 : decode cX7_init 46 = .ok (.invokespecial 30, 3) := by decide +kernel
theorem dX7_init_49 : decode cX7_init 49 = .ok (.putfield 31, 3) := by decide +kernel
theorem dX7_init_52 : decode cX7_init 52 = .ok (.aload_n 0, 1) := by decide +kernel
theorem dX7_init_53 : decode cX7_init 53 = .ok (.new 35, 3) := by decide +kernel
theorem dX7_init_56 : decode cX7_init 56 = .ok (.dup, 1) := by decide +kernel
theorem dX7_init_57 : decode cX7_init 57 = .ok (.invokespecial 37, 3) := by decide +kernel
theorem dX7_init_60 : decode cX7_init 60 = .ok (.putfield 38, 3) := by decide +kernel
theorem dX7_init_63 : decode cX7_init 63 = .ok (.aload_n 0, 1) := by decide +kernel
theorem dX7_init_64 : decode cX7_init 64 = .ok (.new 42, 3) := by decide +kernel
theorem dX7_init_67 : decode cX7_init 67 = .ok (.dup, 1) := by decide +kernel
theorem dX7_init_68 : decode cX7_init 68 = .ok (.invokespecial 44, 3) := by decide +kernel
theorem dX7_init_71 : decode cX7_init 71 = .ok (.putfield 45, 3) := by decide +kernel
theorem dX7_init_74 : decode cX7_init 74 = .ok (.aload_n 0, 1) := by decide +kernel
theorem dX7_init_75 : decode cX7_init 75 = .ok (.iconst 4, 1) := by decide +kernel
theorem dX7_init_76 : decode cX7_init 76 = .ok (.anewarray 49, 3) := by decide +kernel
theorem dX7_init_79 : decode cX7_init 79 = .ok (.putfield 51, 3) := by decide +kernel
theorem dX7_init_82 : decode cX7_init 82 = .ok (.iconst 0, 1) := by decide +kernel
theorem dX7_init_83 : decode cX7_init 83 = .ok (.istore_n 1, 1) := by decide +kernel
theorem dX7_init_84 : decode cX7_init 84 = .ok (.iload_n 1, 1) := by decide +kernel
theorem dX7_init_85 : decode cX7_init 85 = .ok (.iconst 4, 1) := by decide +kernel
theorem dX7_init_86 : decode cX7_init 86 = .ok (.if_icmp .ge 22, 3) := by decide +kernel
theorem dX7_init_89 : decode cX7_init 89 = .ok (.aload_n 0, 1) := by decide +kernel
theorem dX7_init_90 : decode cX7_init 90 = .ok (.getfield 51, 3) := by decide +kernel
theorem dX7_init_93 : decode cX7_init 93 = .ok (.iload_n 1, 1) := by decide +kernel
theorem dX7_init_94 : decode cX7_init 94 = .ok (.new 49, 3) := by decide +kernel
theorem dX7_init_97 : decode cX7_init 97 = .ok (.dup, 1) := by decide +kernel
theorem dX7_init_98 : decode cX7_init 98 = .ok (.invokespecial 55, 3) := by decide +kernel
theorem dX7_init_101 : decode cX7_init 101 = .ok (.aastore, 1) := by decide +kernel
theorem dX7_init_102 : decode cX7_init 102 = .ok (.iinc 1 1, 3) := by decide +kernel
theorem dX7_init_105 : decode cX7_init 105 = .ok (.goto (-21), 3) := by decide +kernel
theorem dX7_init_108 : decode cX7_init 108 = .ok (.aload_n 0, 1) := by decide +kernel
theorem dX7_init_109 : decode cX7_init 109 = .ok (.iconst 0, 1) := by decide +kernel
theorem dX7_init_110 : decode cX7_init 110 = .ok (.putfield 56, 3) := by decide +kernel
theorem dX7_init_113 : decode cX7_init 113 = .ok (.return_, 1) := by decide +kernel
theorem dX8_init_0 : decode cX8_init 0 = .ok (.aload_n 0, 1) := by decide +kernel
theorem dX8_init_1 : decode cX8_init 1 = .ok (.invokespecial 1, 3) := by decide +kernel
theorem dX8_init_4 : decode cX8_init 4 = .ok (.aload_n 0, 1) := by decide +kernel
theorem dX8_init_5 : decode cX8_init 5 = .ok (.iconst 4, 1) := by decide +kernel
theorem dX8_init_6 : decode cX8_init 6 = .ok (.newarray .int, 2) := by decide +kernel
theorem dX8_init_8 : decode cX8_init 8 = .ok (.putfield 7, 3) := by decide +kernel
theorem dX8_init_11 : decode cX8_init 11 = .ok (.aload_n 0, 1) := by decide +kernel
theorem dX8_init_12 : decode cX8_init 12 = .ok (.iconst 4, 1) := by decide +kernel
theorem dX8_init_13 : decode cX8_init 13 = .ok (.newarray .int, 2) := by decide +kernel
theorem dX8_init_15 : decode cX8_init 15 = .ok (.putfield 13, 3) := by decide +kernel
theorem dX8_init_18 : decode cX8_init 18 = .ok (.aload_n 0, 1) := by decide +kernel
theorem dX8_init_19 : decode cX8_init 19 = .ok (.sipush 256, 3) := by decide +kernel
theorem dX8_init_22 : decode cX8_init 22 = .ok (.newarray .int, 2) := by decide +kernel
theorem dX8_init_24 : decode cX8_init 24 = .ok (.putfield 16, 3) := by decide +kernel
theorem dX8_init_27 : decode cX8_init 27 = .ok (.aload_n 0, 1) := by decide +kernel
theorem dX8_init_28 : decode cX8_init 28 = .ok (.bipush 64, 2) := by decide +kernel
theorem dX8_init_30 : decode cX8_init 30 = .ok (.newarray .int, 2) := by decide +kernel
theorem dX8_init_32 : decode cX8_init 32 = .ok (.putfield 19, 3) := by decide +kernel
theorem dX8_init_35 : decode cX8_init 35 = .ok (.aload_n 0, 1) := by decide +kernel
theorem dX8_init_36 : decode cX8_init 36 = .ok (.bipush 112, 2) := by decide +kernel
theorem dX8_init_38 : decode cX8_init 38 = .ok (.newarray .int, 2) := by decide +kernel
theorem dX8_init_40 : decode cX8_init 40 = .ok (.putfield 22, 3) := by decide +kernel
theorem dX8_init_43 : decode cX8_init 43 = .ok (.aload_n 0, 1) := by decide +kernel
theorem dX8_init_44 : decode cX8_init 44 = .ok (.iconst 2, 1) := by decide +kernel
theorem dX8_init_45 : decode cX8_init 45 = .ok (.newarray .int, 2) := by decide +kernel
theorem dX8_init_47 : decode cX8_init 47 = .ok (.putfield 25, 3) := by decide +kernel
theorem dX8_init_50 : decode cX8_init 50 = .ok (.aload_n 0, 1) := by decide +kernel
theorem dX8_init_51 : decode cX8_init 51 = .ok (.bipush 8, 2) := by decide +kernel
theorem dX8_init_53 : decode cX8_init 53 = .ok (.newarray .int, 2) := by decide +kernel
theorem dX8_init_55 : decode cX8_init 55 = .ok (.putfield 28, 3) := by decide +kernel
theorem dX8_init_58 : decode cX8_init 58 = .ok (.aload_n 0, 1) := by decide +kernel
theorem dX8_init_59 : decode cX8_init 59 = .ok (.bipush 64, 2) := by decide +kernel
theorem dX8_init_61 : decode cX8_init 61 = .ok (.newarray .boolean, 2) := by decide +kernel
theorem dX8_init_63 : decode cX8_init 63 = .ok (.putfield 31, 3) := by decide +kernel
theorem dX8_init_66 : decode cX8_init 66 = .ok (.aload_n 0, 1) := by decide +kernel
theorem dX8_init_67 : decode cX8_init 67 = .ok (.sipush 256, 3) := by decide +kernel
theorem dX8_init_70 : decode cX8_init 70 = .ok (.newarray .int, 2) := by decide +kernel
theorem dX8_init_72 : decode cX8_init 72 = .ok (.putfield 35, 3) := by decide +kernel
theorem dX8_init_75 : decode cX8_init 75 = .ok (.aload_n 0, 1) := by decide +kernel
theorem dX8_init_76 : decode cX8_init 76 = .ok (.sipush 256, 3) := by decide +kernel
theorem dX8_init_79 : decode cX8_init 79 = .ok (.newarray .int, 2) := by decide +kernel
theorem dX8_init_81 : decode cX8_init 81 = .ok (.putfield 38, 3) := by decide +kernel
theorem dX8_init_84 : decode cX8_init 84 = .ok (.aload_n 0, 1) := by decide +kernel
theorem dX8_init_85 : decode cX8_init 85 = .ok (.bipush 16, 2) := by decide +kernel
theorem dX8_init_87 : decode cX8_init 87 = .ok (.newarray .int, 2) := by decide +kernel
theorem dX8_init_89 : decode cX8_init 89 = .ok (.putfield 41, 3) := by decide +kernel
theorem dX8_init_92 : decode cX8_init 92 = .ok (.aload_n 0, 1) := by decide +kernel
theorem dX8_init_93 : decode cX8_init 93 = .ok (.sipush 625, 3) := by decide +kernel
theorem dX8_init_96 : decode cX8_init 96 = .ok (.newarray .int, 2) := by decide +kernel
theorem dX8_init_98 : decode cX8_init 98 = .ok (.putfield 44, 3) := by decide +kernel
theorem dX8_init_101 : decode cX8_init 101 = .ok (.aload_n 0, 1) := by decide +kernel
theorem dX8_init_102 : decode cX8_init 102 = .ok (.bipush 64, 2) := by decide +kernel
theorem dX8_init_104 : decode cX8_init 104 = .ok (.newarray .long, 2) := by decide +kernel
theorem dX8_init_106 : decode cX8_init 106 = .ok (.putfield 47, 3) := by decide +kernel
theorem dX8_init_109 : decode cX8_init 109 = .ok (.iconst 0, 1) := by decide +kernel
theorem dX8_init_110 : decode cX8_init 110 = .ok (.istore_n 1, 1) := by decide +kernel
theorem dX8_init_111 : decode cX8_init 111 = .ok (.iload_n 1, 1) := by decide +kernel
theorem dX8_init_112 : decode cX8_init 112 = .ok (.iconst 4, 1) := by decide +kernel
theorem dX8_init_113 : decode cX8_init 113 = .ok (.if_icmp .ge 16, 3) := by decide +kernel
theorem dX8_init_116 : decode cX8_init 116 = .ok (.aload_n 0, 1) := by decide +kernel
theorem dX8_init_117 : decode cX8_init 117 = .ok (.getfield 7, 3) := by decide +kernel
theorem dX8_init_120 : decode cX8_init 120 = .ok (.iload_n 1, 1) := by decide +kernel
theorem dX8_init_121 : decode cX8_init 121 = .ok (.iconst (-1), 1) := by decide +kernel
theorem dX8_init_122 : decode cX8_init 122 = .ok (.iastore, 1) := by decide +kernel
theorem dX8_init_123 : decode cX8_init 123 = .ok (.iinc 1 1, 3) := by decide +kernel
theorem dX8_init_126 : decode cX8_init 126 = .ok (.goto (-15), 3) := by decide +kernel
theorem dX8_init_129 : decode cX8_init 129 = .ok (.return_, 1) := by decide +kernel
theorem iwi_X5_init_X5 : ∀ w ∈ u_ws RX5 TX5 2, w ∈ wsX5_init := by decide +kernel
set_option maxRecDepth 100000 in
theorem c_X5_init (l : Launch) (D : va_G) (E : Nat → ClassId) (a1 a2 b : Nat) (lim : Nat) (hlim : lim ≤ 71) : Fx l D E a1 a2 yX5_init wsX5_init 1 20 1 lim [.ref b, .int (nI lim)] [(b, .inr (4, [.null, .int 0]))] (fun w => ∃ q1, w = [(b, .inr (4, [.ref q1, .int 0])), (q1, .inl (E 0, lim, .inl (fun _ => 0)))]) := by
  refine Fx.of (cc := cX5_init) (maxL := 2) (own := RX5) (by decide) rfl rfl rfl (Nat.le_of_ble_eq_true rfl) (fun X q1 q2 q3 q4 q5 hm1 hm2 C hA hi2 hao hE => ?_)
  subst q1 q2 q3 q4 q5
  have C0 : Cx (X.cs 0 0) cX5_init 2 RX5 wsX5_init 1 20 := C.cs (by rw [hm1]; omega) (by rw [hm2]; omega)
  refine at_aload_n C0 dX5_init_0 rfl (j := 0) rfl ?_
  refine at_objInit C0 (by decide +kernel) (by decide +kernel) (by decide +kernel) (Nat.le_of_ble_eq_true rfl) (Nat.le_of_ble_eq_true rfl) (Nat.le_of_ble_eq_true rfl) dX5_init_1 ?_
  refine at_aload_n C0 dX5_init_4 rfl (j := 0) rfl ?_
  refine at_iload_n C0 dX5_init_5 rfl (j := 1) rfl ?_
  refine at_newaI C hA (N := lim) (by decide +kernel) (nI_pos (by omega)) (nI_clamp (by omega)) (by omega) (by rw [hm1]; omega) (by rw [hm2]; omega) (ws' := fun q1 => [(b, .inr (4, [.null, .int 0])), (q1, .inl (X.E 0, lim, .inl (fun _ => 0)))]) (fun _ => rfl) dX5_init_6 (fun q1 => ?_)
  have C1 : Cx (X.cs (0 + 1) (0 + lim)) cX5_init 2 RX5 wsX5_init 1 20 := C.cs (by rw [hm1]; omega) (by rw [hm2]; omega)
  refine at_putF C1 hi2 (K := RX5) (T := TX5) (N := 2) (ci := 4) (ty := .array .int) iwi_X5_init_X5 tyX5 tyX5_ok nmX5 0 rfl rfl 0 (by decide) (by decide +kernel) rfl rfl rfl rfl rfl (Nat.le_of_ble_eq_true rfl) (ws' := [(b, .inr (4, [.ref q1, .int 0])), (q1, .inl (X.E 0, lim, .inl (fun _ => 0)))]) rfl dX5_init_8 ?_
  refine at_aload_n C1 dX5_init_11 rfl (j := 0) rfl ?_
  refine at_iconst C1 dX5_init_12 (v := 0) rfl ?_
  refine at_put C1 (K := RX5) (T := TX5) (N := 2) (ci := 4) (ty := .int) iwi_X5_init_X5 tyX5 tyX5_ok nmX5 0 rfl rfl 1 (by decide) (by decide +kernel) rfl rfl rfl rfl (Nat.le_of_ble_eq_true rfl) (ws' := [(b, .inr (4, [.ref q1, .int 0])), (q1, .inl (X.E 0, lim, .inl (fun _ => 0)))]) rfl dX5_init_13 ?_
  exact at_vretX C hE (by omega) (by omega) ⟨q1, rfl⟩ dX5_init_16
theorem iwi_X3_init_X3 : ∀ w ∈ u_ws RX3 TX3 4, w ∈ wsX3_init := by decide +kernel
set_option maxRecDepth 100000 in
theorem c_X3_init (l : Launch) (D : va_G) (E : Nat → ClassId) (a1 a2 b : Nat) : Fx l D E a1 a2 yX3_init wsX3_init 1 20 2 160 [.ref b] [(b, .inr (2, [.null, .null, .int 0, .int 0]))] (fun w => ∃ q1 q2, w = [(b, .inr (2, [.ref q1, .ref q2, .int 0, .int (-1)])), (q1, .inl (E 0, 32, .inl (fun _ => 0))), (q2, .inl (E 0, 128, .inl (fun _ => 0)))]) := by
  refine Fx.of (cc := cX3_init) (maxL := 1) (own := RX3) (by decide) rfl rfl rfl (Nat.le_of_ble_eq_true rfl) (fun X q1 q2 q3 q4 q5 hm1 hm2 C hA hi2 hao hE => ?_)
  subst q1 q2 q3 q4 q5
  have C0 : Cx (X.cs 0 0) cX3_init 1 RX3 wsX3_init 1 20 := C.cs (by rw [hm1]; omega) (by rw [hm2]; omega)
  refine at_aload_n C0 dX3_init_0 rfl (j := 0) rfl ?_
  refine at_objInit C0 (by decide +kernel) (by decide +kernel) (by decide +kernel) (Nat.le_of_ble_eq_true rfl) (Nat.le_of_ble_eq_true rfl) (Nat.le_of_ble_eq_true rfl) dX3_init_1 ?_
  refine at_aload_n C0 dX3_init_4 rfl (j := 0) rfl ?_
  refine at_bipush C0 dX3_init_5 (v := 32) rfl ?_
  refine at_newaI C hA (N := 32) (by decide +kernel) (by decide) rfl (by decide) (by rw [hm1]; omega) (by rw [hm2]; omega) (ws' := fun q1 => [(b, .inr (2, [.null, .null, .int 0, .int 0])), (q1, .inl (X.E 0, 32, .inl (fun _ => 0)))]) (fun _ => rfl) dX3_init_7 (fun q1 => ?_)
  have C1 : Cx (X.cs (0 + 1) (0 + 32)) cX3_init 1 RX3 wsX3_init 1 20 := C.cs (by rw [hm1]; omega) (by rw [hm2]; omega)
  refine at_putF C1 hi2 (K := RX3) (T := TX3) (N := 4) (ci := 2) (ty := .array .int) iwi_X3_init_X3 tyX3 tyX3_ok nmX3 0 rfl rfl 0 (by decide) (by decide +kernel) rfl rfl rfl rfl rfl (Nat.le_of_ble_eq_true rfl) (ws' := [(b, .inr (2, [.ref q1, .null, .int 0, .int 0])), (q1, .inl (X.E 0, 32, .inl (fun _ => 0)))]) rfl dX3_init_9 ?_
  refine at_aload_n C1 dX3_init_12 rfl (j := 0) rfl ?_
  refine at_sipush C1 dX3_init_13 (v := 128) rfl ?_
  refine at_newaI C hA (N := 128) (by decide +kernel) (by decide) rfl (by decide) (by rw [hm1]; omega) (by rw [hm2]; omega) (ws' := fun q2 => [(b, .inr (2, [.ref q1, .null, .int 0, .int 0])), (q1, .inl (X.E 0, 32, .inl (fun _ => 0))), (q2, .inl (X.E 0, 128, .inl (fun _ => 0)))]) (fun _ => rfl) dX3_init_16 (fun q2 => ?_)
  have C2 : Cx (X.cs (0 + 1 + 1) (0 + 32 + 128)) cX3_init 1 RX3 wsX3_init 1 20 := C.cs (by rw [hm1]; omega) (by rw [hm2]; omega)
  refine at_putF C2 hi2 (K := RX3) (T := TX3) (N := 4) (ci := 2) (ty := .array .int) iwi_X3_init_X3 tyX3 tyX3_ok nmX3 0 rfl rfl 1 (by decide) (by decide +kernel) rfl rfl rfl rfl rfl (Nat.le_of_ble_eq_true rfl) (ws' := [(b, .inr (2, [.ref q1, .ref q2, .int 0, .int 0])), (q1, .inl (X.E 0, 32, .inl (fun _ => 0))), (q2, .inl (X.E 0, 128, .inl (fun _ => 0)))]) rfl dX3_init_18 ?_
  refine at_aload_n C2 dX3_init_21 rfl (j := 0) rfl ?_
  refine at_iconst C2 dX3_init_22 (v := (-1)) rfl ?_
  refine at_put C2 (K := RX3) (T := TX3) (N := 4) (ci := 2) (ty := .int) iwi_X3_init_X3 tyX3 tyX3_ok nmX3 0 rfl rfl 3 (by decide) (by decide +kernel) rfl rfl rfl rfl (Nat.le_of_ble_eq_true rfl) (ws' := [(b, .inr (2, [.ref q1, .ref q2, .int 0, .int (-1)])), (q1, .inl (X.E 0, 32, .inl (fun _ => 0))), (q2, .inl (X.E 0, 128, .inl (fun _ => 0)))]) rfl dX3_init_23 ?_
  exact at_vretX C hE (by omega) (by omega) ⟨q1, q2, rfl⟩ dX3_init_26
theorem iwi_X1_init_X1 : ∀ w ∈ u_ws RX1 TX1 6, w ∈ wsX1_init := by decide +kernel
set_option maxRecDepth 100000 in
theorem c_X1_init (l : Launch) (D : va_G) (E : Nat → ClassId) (a1 a2 b : Nat) : Fx l D E a1 a2 yX1_init wsX1_init 1 20 1 64 [.ref b] [(b, .inr (1, [.null, .long 0, .int 0, .int 0, .int 0, .int 0]))] (fun w => ∃ q1, w = [(b, .inr (1, [.ref q1, .long 0, .int (-1), .int 0, .int (-1), .int (-1)])), (q1, .inl (E 1, 64, .inr (.inl (fun _ => 0))))]) := by
  refine Fx.of (cc := cX1_init) (maxL := 1) (own := RX1) (by decide) rfl rfl rfl (Nat.le_of_ble_eq_true rfl) (fun X q1 q2 q3 q4 q5 hm1 hm2 C hA hi2 hao hE => ?_)
  subst q1 q2 q3 q4 q5
  have C0 : Cx (X.cs 0 0) cX1_init 1 RX1 wsX1_init 1 20 := C.cs (by rw [hm1]; omega) (by rw [hm2]; omega)
  refine at_aload_n C0 dX1_init_0 rfl (j := 0) rfl ?_
  refine at_objInit C0 (by decide +kernel) (by decide +kernel) (by decide +kernel) (Nat.le_of_ble_eq_true rfl) (Nat.le_of_ble_eq_true rfl) (Nat.le_of_ble_eq_true rfl) dX1_init_1 ?_
  refine at_aload_n C0 dX1_init_4 rfl (j := 0) rfl ?_
  refine at_bipush C0 dX1_init_5 (v := 64) rfl ?_
  refine at_newaJ C hA (N := 64) (by decide +kernel) (by decide) rfl (by decide) (by rw [hm1]; omega) (by rw [hm2]; omega) (ws' := fun q1 => [(b, .inr (1, [.null, .long 0, .int 0, .int 0, .int 0, .int 0])), (q1, .inl (X.E 1, 64, .inr (.inl (fun _ => 0))))]) (fun _ => rfl) dX1_init_7 (fun q1 => ?_)
  have C1 : Cx (X.cs (0 + 1) (0 + 64)) cX1_init 1 RX1 wsX1_init 1 20 := C.cs (by rw [hm1]; omega) (by rw [hm2]; omega)
  refine at_putF C1 hi2 (K := RX1) (T := TX1) (N := 6) (ci := 1) (ty := .array .long) iwi_X1_init_X1 tyX1 tyX1_ok nmX1 0 rfl rfl 0 (by decide) (by decide +kernel) rfl rfl rfl rfl rfl (Nat.le_of_ble_eq_true rfl) (ws' := [(b, .inr (1, [.ref q1, .long 0, .int 0, .int 0, .int 0, .int 0])), (q1, .inl (X.E 1, 64, .inr (.inl (fun _ => 0))))]) rfl dX1_init_9 ?_
  refine at_aload_n C1 dX1_init_12 rfl (j := 0) rfl ?_
  refine at_iconst C1 dX1_init_13 (v := (-1)) rfl ?_
  refine at_put C1 (K := RX1) (T := TX1) (N := 6) (ci := 1) (ty := .int) iwi_X1_init_X1 tyX1 tyX1_ok nmX1 0 rfl rfl 2 (by decide) (by decide +kernel) rfl rfl rfl rfl (Nat.le_of_ble_eq_true rfl) (ws' := [(b, .inr (1, [.ref q1, .long 0, .int (-1), .int 0, .int 0, .int 0])), (q1, .inl (X.E 1, 64, .inr (.inl (fun _ => 0))))]) rfl dX1_init_14 ?_
  refine at_aload_n C1 dX1_init_17 rfl (j := 0) rfl ?_
  refine at_iconst C1 dX1_init_18 (v := (-1)) rfl ?_
  refine at_put C1 (K := RX1) (T := TX1) (N := 6) (ci := 1) (ty := .int) iwi_X1_init_X1 tyX1 tyX1_ok nmX1 0 rfl rfl 4 (by decide) (by decide +kernel) rfl rfl rfl rfl (Nat.le_of_ble_eq_true rfl) (ws' := [(b, .inr (1, [.ref q1, .long 0, .int (-1), .int 0, .int (-1), .int 0])), (q1, .inl (X.E 1, 64, .inr (.inl (fun _ => 0))))]) rfl dX1_init_19 ?_
  refine at_aload_n C1 dX1_init_22 rfl (j := 0) rfl ?_
  refine at_iconst C1 dX1_init_23 (v := (-1)) rfl ?_
  refine at_put C1 (K := RX1) (T := TX1) (N := 6) (ci := 1) (ty := .int) iwi_X1_init_X1 tyX1 tyX1_ok nmX1 0 rfl rfl 5 (by decide) (by decide +kernel) rfl rfl rfl rfl (Nat.le_of_ble_eq_true rfl) (ws' := [(b, .inr (1, [.ref q1, .long 0, .int (-1), .int 0, .int (-1), .int (-1)])), (q1, .inl (X.E 1, 64, .inr (.inl (fun _ => 0))))]) rfl dX1_init_24 ?_
  exact at_vretX C hE (by omega) (by omega) ⟨q1, rfl⟩ dX1_init_27
theorem iwi_X6_init_X6 : ∀ w ∈ u_ws RX6 TX6 4, w ∈ wsX6_init := by decide +kernel
set_option maxRecDepth 100000 in
theorem c_X6_init (l : Launch) (D : va_G) (E : Nat → ClassId) (a1 a2 b : Nat) : Fx l D E a1 a2 yX6_init wsX6_init 1 20 4 16 [.ref b] [(b, .inr (5, [.null, .null, .null, .null]))] (fun w => ∃ q1 q2 q3 q4, w = [(b, .inr (5, [.ref q1, .ref q2, .ref q3, .ref q4])), (q1, .inl (E 1, 4, .inr (.inl (fun _ => 0)))), (q2, .inl (E 1, 4, .inr (.inl (fun _ => 0)))), (q3, .inl (E 1, 4, .inr (.inl (fun _ => 0)))), (q4, .inl (E 1, 4, .inr (.inl (fun _ => 0))))]) := by
  refine Fx.of (cc := cX6_init) (maxL := 1) (own := RX6) (by decide) rfl rfl rfl (Nat.le_of_ble_eq_true rfl) (fun X q1 q2 q3 q4 q5 hm1 hm2 C hA hi2 hao hE => ?_)
  subst q1 q2 q3 q4 q5
  have C0 : Cx (X.cs 0 0) cX6_init 1 RX6 wsX6_init 1 20 := C.cs (by rw [hm1]; omega) (by rw [hm2]; omega)
  refine at_aload_n C0 dX6_init_0 rfl (j := 0) rfl ?_
  refine at_objInit C0 (by decide +kernel) (by decide +kernel) (by decide +kernel) (Nat.le_of_ble_eq_true rfl) (Nat.le_of_ble_eq_true rfl) (Nat.le_of_ble_eq_true rfl) dX6_init_1 ?_
  refine at_aload_n C0 dX6_init_4 rfl (j := 0) rfl ?_
  refine at_iconst C0 dX6_init_5 (v := 4) rfl ?_
  refine at_newaJ C hA (N := 4) (by decide +kernel) (by decide) rfl (by decide) (by rw [hm1]; omega) (by rw [hm2]; omega) (ws' := fun q1 => [(b, .inr (5, [.null, .null, .null, .null])), (q1, .inl (X.E 1, 4, .inr (.inl (fun _ => 0))))]) (fun _ => rfl) dX6_init_6 (fun q1 => ?_)
  have C1 : Cx (X.cs (0 + 1) (0 + 4)) cX6_init 1 RX6 wsX6_init 1 20 := C.cs (by rw [hm1]; omega) (by rw [hm2]; omega)
  refine at_putF C1 hi2 (K := RX6) (T := TX6) (N := 4) (ci := 5) (ty := .array .long) iwi_X6_init_X6 tyX6 tyX6_ok nmX6 0 rfl rfl 0 (by decide) (by decide +kernel) rfl rfl rfl rfl rfl (Nat.le_of_ble_eq_true rfl) (ws' := [(b, .inr (5, [.ref q1, .null, .null, .null])), (q1, .inl (X.E 1, 4, .inr (.inl (fun _ => 0))))]) rfl dX6_init_8 ?_
  refine at_aload_n C1 dX6_init_11 rfl (j := 0) rfl ?_
  refine at_iconst C1 dX6_init_12 (v := 4) rfl ?_
  refine at_newaJ C hA (N := 4) (by decide +kernel) (by decide) rfl (by decide) (by rw [hm1]; omega) (by rw [hm2]; omega) (ws' := fun q2 => [(b, .inr (5, [.ref q1, .null, .null, .null])), (q1, .inl (X.E 1, 4, .inr (.inl (fun _ => 0)))), (q2, .inl (X.E 1, 4, .inr (.inl (fun _ => 0))))]) (fun _ => rfl) dX6_init_13 (fun q2 => ?_)
  have C2 : Cx (X.cs (0 + 1 + 1) (0 + 4 + 4)) cX6_init 1 RX6 wsX6_init 1 20 := C.cs (by rw [hm1]; omega) (by rw [hm2]; omega)
  refine at_putF C2 hi2 (K := RX6) (T := TX6) (N := 4) (ci := 5) (ty := .array .long) iwi_X6_init_X6 tyX6 tyX6_ok nmX6 0 rfl rfl 1 (by decide) (by decide +kernel) rfl rfl rfl rfl rfl (Nat.le_of_ble_eq_true rfl) (ws' := [(b, .inr (5, [.ref q1, .ref q2, .null, .null])), (q1, .inl (X.E 1, 4, .inr (.inl (fun _ => 0)))), (q2, .inl (X.E 1, 4, .inr (.inl (fun _ => 0))))]) rfl dX6_init_15 ?_
  refine at_aload_n C2 dX6_init_18 rfl (j := 0) rfl ?_
  refine at_iconst C2 dX6_init_19 (v := 4) rfl ?_
  refine at_newaJ C hA (N := 4) (by decide +kernel) (by decide) rfl (by decide) (by rw [hm1]; omega) (by rw [hm2]; omega) (ws' := fun q3 => [(b, .inr (5, [.ref q1, .ref q2, .null, .null])), (q1, .inl (X.E 1, 4, .inr (.inl (fun _ => 0)))), (q2, .inl (X.E 1, 4, .inr (.inl (fun _ => 0)))), (q3, .inl (X.E 1, 4, .inr (.inl (fun _ => 0))))]) (fun _ => rfl) dX6_init_20 (fun q3 => ?_)
  have C3 : Cx (X.cs (0 + 1 + 1 + 1) (0 + 4 + 4 + 4)) cX6_init 1 RX6 wsX6_init 1 20 := C.cs (by rw [hm1]; omega) (by rw [hm2]; omega)
  refine at_putF C3 hi2 (K := RX6) (T := TX6) (N := 4) (ci := 5) (ty := .array .long) iwi_X6_init_X6 tyX6 tyX6_ok nmX6 0 rfl rfl 2 (by decide) (by decide +kernel) rfl rfl rfl rfl rfl (Nat.le_of_ble_eq_true rfl) (ws' := [(b, .inr (5, [.ref q1, .ref q2, .ref q3, .null])), (q1, .inl (X.E 1, 4, .inr (.inl (fun _ => 0)))), (q2, .inl (X.E 1, 4, .inr (.inl (fun _ => 0)))), (q3, .inl (X.E 1, 4, .inr (.inl (fun _ => 0))))]) rfl dX6_init_22 ?_
  refine at_aload_n C3 dX6_init_25 rfl (j := 0) rfl ?_
  refine at_iconst C3 dX6_init_26 (v := 4) rfl ?_
  refine at_newaJ C hA (N := 4) (by decide +kernel) (by decide) rfl (by decide) (by rw [hm1]; omega) (by rw [hm2]; omega) (ws' := fun q4 => [(b, .inr (5, [.ref q1, .ref q2, .ref q3, .null])), (q1, .inl (X.E 1, 4, .inr (.inl (fun _ => 0)))), (q2, .inl (X.E 1, 4, .inr (.inl (fun _ => 0)))), (q3, .inl (X.E 1, 4, .inr (.inl (fun _ => 0)))), (q4, .inl (X.E 1, 4, .inr (.inl (fun _ => 0))))]) (fun _ => rfl) dX6_init_27 (fun q4 => ?_)
  have C4 : Cx (X.cs (0 + 1 + 1 + 1 + 1) (0 + 4 + 4 + 4 + 4)) cX6_init 1 RX6 wsX6_init 1 20 := C.cs (by rw [hm1]; omega) (by rw [hm2]; omega)
  refine at_putF C4 hi2 (K := RX6) (T := TX6) (N := 4) (ci := 5) (ty := .array .long) iwi_X6_init_X6 tyX6 tyX6_ok nmX6 0 rfl rfl 3 (by decide) (by decide +kernel) rfl rfl rfl rfl rfl (Nat.le_of_ble_eq_true rfl) (ws' := [(b, .inr (5, [.ref q1, .ref q2, .ref q3, .ref q4])), (q1, .inl (X.E 1, 4, .inr (.inl (fun _ => 0)))), (q2, .inl (X.E 1, 4, .inr (.inl (fun _ => 0)))), (q3, .inl (X.E 1, 4, .inr (.inl (fun _ => 0)))), (q4, .inl (X.E 1, 4, .inr (.inl (fun _ => 0))))]) rfl dX6_init_29 ?_
  exact at_vretX C hE (by omega) (by omega) ⟨q1, q2, q3, q4, rfl⟩ dX6_init_32
theorem iwi_X0_init_X0 : ∀ w ∈ u_ws RX0 TX0 4, w ∈ wsX0_init := by decide +kernel
set_option maxRecDepth 100000 in
theorem c_X0_init (l : Launch) (D : va_G) (E : Nat → ClassId) (a1 a2 b : Nat) : Fx l D E a1 a2 yX0_init wsX0_init 1 20 3 48 [.ref b] [(b, .inr (0, [.null, .null, .null, .int 0]))] (fun w => ∃ q1 q2 q3, w = [(b, .inr (0, [.ref q1, .ref q2, .ref q3, .int 0])), (q1, .inl (E 0, 8, .inl (fun _ => 0))), (q2, .inl (E 0, 8, .inl (fun _ => 0))), (q3, .inl (E 0, 32, .inl (fun _ => 0)))]) := by
  refine Fx.of (cc := cX0_init) (maxL := 1) (own := RX0) (by decide) rfl rfl rfl (Nat.le_of_ble_eq_true rfl) (fun X q1 q2 q3 q4 q5 hm1 hm2 C hA hi2 hao hE => ?_)
  subst q1 q2 q3 q4 q5
  have C0 : Cx (X.cs 0 0) cX0_init 1 RX0 wsX0_init 1 20 := C.cs (by rw [hm1]; omega) (by rw [hm2]; omega)
  refine at_aload_n C0 dX0_init_0 rfl (j := 0) rfl ?_
  refine at_objInit C0 (by decide +kernel) (by decide +kernel) (by decide +kernel) (Nat.le_of_ble_eq_true rfl) (Nat.le_of_ble_eq_true rfl) (Nat.le_of_ble_eq_true rfl) dX0_init_1 ?_
  refine at_aload_n C0 dX0_init_4 rfl (j := 0) rfl ?_
  refine at_bipush C0 dX0_init_5 (v := 8) rfl ?_
  refine at_newaI C hA (N := 8) (by decide +kernel) (by decide) rfl (by decide) (by rw [hm1]; omega) (by rw [hm2]; omega) (ws' := fun q1 => [(b, .inr (0, [.null, .null, .null, .int 0])), (q1, .inl (X.E 0, 8, .inl (fun _ => 0)))]) (fun _ => rfl) dX0_init_7 (fun q1 => ?_)
  have C1 : Cx (X.cs (0 + 1) (0 + 8)) cX0_init 1 RX0 wsX0_init 1 20 := C.cs (by rw [hm1]; omega) (by rw [hm2]; omega)
  refine at_putF C1 hi2 (K := RX0) (T := TX0) (N := 4) (ci := 0) (ty := .array .int) iwi_X0_init_X0 tyX0 tyX0_ok nmX0 0 rfl rfl 0 (by decide) (by decide +kernel) rfl rfl rfl rfl rfl (Nat.le_of_ble_eq_true rfl) (ws' := [(b, .inr (0, [.ref q1, .null, .null, .int 0])), (q1, .inl (X.E 0, 8, .inl (fun _ => 0)))]) rfl dX0_init_9 ?_
  refine at_aload_n C1 dX0_init_12 rfl (j := 0) rfl ?_
  refine at_bipush C1 dX0_init_13 (v := 8) rfl ?_
  refine at_newaI C hA (N := 8) (by decide +kernel) (by decide) rfl (by decide) (by rw [hm1]; omega) (by rw [hm2]; omega) (ws' := fun q2 => [(b, .inr (0, [.ref q1, .null, .null, .int 0])), (q1, .inl (X.E 0, 8, .inl (fun _ => 0))), (q2, .inl (X.E 0, 8, .inl (fun _ => 0)))]) (fun _ => rfl) dX0_init_15 (fun q2 => ?_)
  have C2 : Cx (X.cs (0 + 1 + 1) (0 + 8 + 8)) cX0_init 1 RX0 wsX0_init 1 20 := C.cs (by rw [hm1]; omega) (by rw [hm2]; omega)
  refine at_putF C2 hi2 (K := RX0) (T := TX0) (N := 4) (ci := 0) (ty := .array .int) iwi_X0_init_X0 tyX0 tyX0_ok nmX0 0 rfl rfl 1 (by decide) (by decide +kernel) rfl rfl rfl rfl rfl (Nat.le_of_ble_eq_true rfl) (ws' := [(b, .inr (0, [.ref q1, .ref q2, .null, .int 0])), (q1, .inl (X.E 0, 8, .inl (fun _ => 0))), (q2, .inl (X.E 0, 8, .inl (fun _ => 0)))]) rfl dX0_init_17 ?_
  refine at_aload_n C2 dX0_init_20 rfl (j := 0) rfl ?_
  refine at_bipush C2 dX0_init_21 (v := 32) rfl ?_
  refine at_newaI C hA (N := 32) (by decide +kernel) (by decide) rfl (by decide) (by rw [hm1]; omega) (by rw [hm2]; omega) (ws' := fun q3 => [(b, .inr (0, [.ref q1, .ref q2, .null, .int 0])), (q1, .inl (X.E 0, 8, .inl (fun _ => 0))), (q2, .inl (X.E 0, 8, .inl (fun _ => 0))), (q3, .inl (X.E 0, 32, .inl (fun _ => 0)))]) (fun _ => rfl) dX0_init_23 (fun q3 => ?_)
  have C3 : Cx (X.cs (0 + 1 + 1 + 1) (0 + 8 + 8 + 32)) cX0_init 1 RX0 wsX0_init 1 20 := C.cs (by rw [hm1]; omega) (by rw [hm2]; omega)
  refine at_putF C3 hi2 (K := RX0) (T := TX0) (N := 4) (ci := 0) (ty := .array .int) iwi_X0_init_X0 tyX0 tyX0_ok nmX0 0 rfl rfl 2 (by decide) (by decide +kernel) rfl rfl rfl rfl rfl (Nat.le_of_ble_eq_true rfl) (ws' := [(b, .inr (0, [.ref q1, .ref q2, .ref q3, .int 0])), (q1, .inl (X.E 0, 8, .inl (fun _ => 0))), (q2, .inl (X.E 0, 8, .inl (fun _ => 0))), (q3, .inl (X.E 0, 32, .inl (fun _ => 0)))]) rfl dX0_init_25 ?_
  exact at_vretX C hE (by omega) (by omega) ⟨q1, q2, q3, rfl⟩ dX0_init_28
theorem iwi_X4_init_X4 : ∀ w ∈ u_ws RX4 TX4 4, w ∈ wsX4_init := by decide +kernel
set_option maxRecDepth 100000 in
theorem c_X4_init (l : Launch) (D : va_G) (E : Nat → ClassId) (a1 a2 b : Nat) : Fx l D E a1 a2 yX4_init wsX4_init 1 20 1 64 [.ref b] [(b, .inr (3, [.null, .int 0, .int 0, .int 0]))] (fun w => ∃ q1, w = [(b, .inr (3, [.ref q1, .int 0, .int 0, .int 1])), (q1, .inl (E 0, 64, .inl (fun _ => 0)))]) := by
  refine Fx.of (cc := cX4_init) (maxL := 1) (own := RX4) (by decide) rfl rfl rfl (Nat.le_of_ble_eq_true rfl) (fun X q1 q2 q3 q4 q5 hm1 hm2 C hA hi2 hao hE => ?_)
  subst q1 q2 q3 q4 q5
  have C0 : Cx (X.cs 0 0) cX4_init 1 RX4 wsX4_init 1 20 := C.cs (by rw [hm1]; omega) (by rw [hm2]; omega)
  refine at_aload_n C0 dX4_init_0 rfl (j := 0) rfl ?_
  refine at_objInit C0 (by decide +kernel) (by decide +kernel) (by decide +kernel) (Nat.le_of_ble_eq_true rfl) (Nat.le_of_ble_eq_true rfl) (Nat.le_of_ble_eq_true rfl) dX4_init_1 ?_
  refine at_aload_n C0 dX4_init_4 rfl (j := 0) rfl ?_
  refine at_bipush C0 dX4_init_5 (v := 64) rfl ?_
  refine at_newaI C hA (N := 64) (by decide +kernel) (by decide) rfl (by decide) (by rw [hm1]; omega) (by rw [hm2]; omega) (ws' := fun q1 => [(b, .inr (3, [.null, .int 0, .int 0, .int 0])), (q1, .inl (X.E 0, 64, .inl (fun _ => 0)))]) (fun _ => rfl) dX4_init_7 (fun q1 => ?_)
  have C1 : Cx (X.cs (0 + 1) (0 + 64)) cX4_init 1 RX4 wsX4_init 1 20 := C.cs (by rw [hm1]; omega) (by rw [hm2]; omega)
  refine at_putF C1 hi2 (K := RX4) (T := TX4) (N := 4) (ci := 3) (ty := .array .int) iwi_X4_init_X4 tyX4 tyX4_ok nmX4 0 rfl rfl 0 (by decide) (by decide +kernel) rfl rfl rfl rfl rfl (Nat.le_of_ble_eq_true rfl) (ws' := [(b, .inr (3, [.ref q1, .int 0, .int 0, .int 0])), (q1, .inl (X.E 0, 64, .inl (fun _ => 0)))]) rfl dX4_init_9 ?_
  refine at_aload_n C1 dX4_init_12 rfl (j := 0) rfl ?_
  refine at_iconst C1 dX4_init_13 (v := 1) rfl ?_
  refine at_put C1 (K := RX4) (T := TX4) (N := 4) (ci := 3) (ty := .boolean) iwi_X4_init_X4 tyX4 tyX4_ok nmX4 0 rfl rfl 3 (by decide) (by decide +kernel) rfl rfl rfl rfl (Nat.le_of_ble_eq_true rfl) (ws' := [(b, .inr (3, [.ref q1, .int 0, .int 0, .int 1])), (q1, .inl (X.E 0, 64, .inl (fun _ => 0)))]) rfl dX4_init_14 ?_
  exact at_vretX C hE (by omega) (by omega) ⟨q1, rfl⟩ dX4_init_17
def C00 : MS := (fun k => match k with
  | 7 => fun _ => -1
  | 8 => fun _ => -1
  | 10 => fun _ => -1
  | 11 => fun _ => -1
  | 32 => fun _ => 1
  | 33 => fun _ => 1
  | 34 => fun _ => 1
  | 35 => fun _ => 1
  | _ => fun _ => 0, fun _ _ => 0)
def M00 : MS := (fun k => match k with
  | 0 => upd (upd (upd (upd (fun _ => 0) 0 (-1)) 1 (-1)) 2 (-1)) 3 (-1)
  | _ => fun _ => 0, fun _ _ => 0)
theorem sh_up (ad : Nat → Nat) : va_up (va_up (va_up (va_up (fun _ => none) 0 (some (ad 20))) 1 (some (ad 22))) 2 (some (ad 24))) 3 (some (ad 26)) = shF ad := by
  funext j
  unfold shF
  by_cases h : j < 4
  · rw [if_pos h]
    rcases (show j = 0 ∨ j = 1 ∨ j = 2 ∨ j = 3 by omega) with rfl | rfl | rfl | rfl <;> rfl
  · rw [if_neg h]
    unfold va_up
    rw [if_neg (by omega), if_neg (by omega), if_neg (by omega), if_neg (by omega)]
theorem iwi_X7_init_X0 : ∀ w ∈ u_ws RX0 TX0 4, w ∈ wsX7_init := by decide +kernel
theorem iwi_X7_init_X1 : ∀ w ∈ u_ws RX1 TX1 6, w ∈ wsX7_init := by decide +kernel
theorem iwi_X7_init_X3 : ∀ w ∈ u_ws RX3 TX3 4, w ∈ wsX7_init := by decide +kernel
theorem iwi_X7_init_X4 : ∀ w ∈ u_ws RX4 TX4 4, w ∈ wsX7_init := by decide +kernel
theorem iwi_X7_init_X5 : ∀ w ∈ u_ws RX5 TX5 2, w ∈ wsX7_init := by decide +kernel
theorem iwi_X7_init_X6 : ∀ w ∈ u_ws RX6 TX6 4, w ∈ wsX7_init := by decide +kernel
theorem iwi_X7_init_X7 : ∀ w ∈ u_ws RX7 TX7 8, w ∈ wsX7_init := by decide +kernel
set_option maxRecDepth 100000 in
theorem c_X7_init (l : Launch) (D : va_G) (E : Nat → ClassId) (a1 a2 b : Nat) : Fx l D E a1 a2 yX7_init wsX7_init 2 41 27 697 [.ref b] [(b, .inr (6, [.null, .null, .null, .null, .null, .null, .null, .int 0]))] (fun w => ∃ ad : Nat → Nat, ad 0 = b ∧ w = cW E ad C00) := by
  refine Fx.of (cc := cX7_init) (maxL := 2) (own := RX7) (by decide) rfl rfl rfl (Nat.le_of_ble_eq_true rfl) (fun X q1 q2 q3 q4 q5 hm1 hm2 C hA hi2 hao hE => ?_)
  subst q1 q2 q3 q4 q5
  have C0 : Cx (X.cs 0 0) cX7_init 2 RX7 wsX7_init 2 41 := C.cs (by rw [hm1]; omega) (by rw [hm2]; omega)
  refine at_aload_n C0 dX7_init_0 rfl (j := 0) rfl ?_
  refine at_objInit C0 (by decide +kernel) (by decide +kernel) (by decide +kernel) (Nat.le_of_ble_eq_true rfl) (Nat.le_of_ble_eq_true rfl) (Nat.le_of_ble_eq_true rfl) dX7_init_1 ?_
  refine at_aload_n C0 dX7_init_4 rfl (j := 0) rfl ?_
  refine at_new C hA (K := RX5) (T := TX5) (N := 2) (ci := 4) iwi_X7_init_X5 tyX5 tyX5_ok (by decide +kernel) (by decide +kernel) (by decide +kernel) rfl (fs := [.null, .int 0]) (fun j hj => by rcases (show j = 0 ∨ j = 1 by omega) with rfl | rfl <;> rfl) (by rw [hm1]; omega) (by rw [hm2]; omega) (ws' := fun q1 => [(b, .inr (6, [.null, .null, .null, .null, .null, .null, .null, .int 0])), (q1, .inr (4, [.null, .int 0]))]) (fun _ => rfl) dX7_init_5 (fun q1 => ?_)
  have C1 : Cx (X.cs (0 + 1) (0 + 2)) cX7_init 2 RX7 wsX7_init 2 41 := C.cs (by rw [hm1]; omega) (by rw [hm2]; omega)
  refine at_dup C1 dX7_init_8 rfl ?_
  refine at_bipush C1 dX7_init_9 (v := 40) rfl ?_
  refine at_callI C hA hao (b := q1) (As := [.int (nI 40)]) (w0 := [(q1, .inr (4, [.null, .int 0]))]) [(b, .inr (6, [.null, .null, .null, .null, .null, .null, .null, .int 0]))] 1 (c_X5_init X.l X.D X.E X.a1 X.a2 q1 40 (by decide)) gX7_init_X5_init rfl (by decide +kernel) (by decide +kernel) (by decide +kernel) rfl (by decide +kernel) ⟨rfl, rfl⟩ rfl rfl (Nat.le_of_ble_eq_true rfl) (by rw [hm1]; omega) (by rw [hm2]; omega) rfl dX7_init_11 (fun w1 hw1 => ?_)
  obtain ⟨q2, rfl⟩ := hw1
  have C2 : Cx (X.cs (0 + 1 + 1) (0 + 2 + 40)) cX7_init 2 RX7 wsX7_init 2 41 := C.cs (by rw [hm1]; omega) (by rw [hm2]; omega)
  refine at_putF C2 hi2 (K := RX7) (T := TX7) (N := 8) (ci := 6) (ty := .object "OnlySideways$Text") iwi_X7_init_X7 tyX7 tyX7_ok nmX7 0 rfl rfl 0 (by decide) (by decide +kernel) rfl rfl rfl rfl rfl (Nat.le_of_ble_eq_true rfl) (ws' := [(b, .inr (6, [.ref q1, .null, .null, .null, .null, .null, .null, .int 0])), (q1, .inr (4, [.ref q2, .int 0])), (q2, .inl (X.E 0, 40, .inl (fun _ => 0)))]) rfl dX7_init_14 ?_
  refine at_aload_n C2 dX7_init_17 rfl (j := 0) rfl ?_
  refine at_new C hA (K := RX5) (T := TX5) (N := 2) (ci := 4) iwi_X7_init_X5 tyX5 tyX5_ok (by decide +kernel) (by decide +kernel) (by decide +kernel) rfl (fs := [.null, .int 0]) (fun j hj => by rcases (show j = 0 ∨ j = 1 by omega) with rfl | rfl <;> rfl) (by rw [hm1]; omega) (by rw [hm2]; omega) (ws' := fun q3 => [(b, .inr (6, [.ref q1, .null, .null, .null, .null, .null, .null, .int 0])), (q1, .inr (4, [.ref q2, .int 0])), (q2, .inl (X.E 0, 40, .inl (fun _ => 0))), (q3, .inr (4, [.null, .int 0]))]) (fun _ => rfl) dX7_init_18 (fun q3 => ?_)
  have C3 : Cx (X.cs (0 + 1 + 1 + 1) (0 + 2 + 40 + 2)) cX7_init 2 RX7 wsX7_init 2 41 := C.cs (by rw [hm1]; omega) (by rw [hm2]; omega)
  refine at_dup C3 dX7_init_21 rfl ?_
  refine at_bipush C3 dX7_init_22 (v := 71) rfl ?_
  refine at_callI C hA hao (b := q3) (As := [.int (nI 71)]) (w0 := [(q3, .inr (4, [.null, .int 0]))]) [(b, .inr (6, [.ref q1, .null, .null, .null, .null, .null, .null, .int 0])), (q1, .inr (4, [.ref q2, .int 0])), (q2, .inl (X.E 0, 40, .inl (fun _ => 0)))] 1 (c_X5_init X.l X.D X.E X.a1 X.a2 q3 71 (by decide)) gX7_init_X5_init rfl (by decide +kernel) (by decide +kernel) (by decide +kernel) rfl (by decide +kernel) ⟨rfl, rfl⟩ rfl rfl (Nat.le_of_ble_eq_true rfl) (by rw [hm1]; omega) (by rw [hm2]; omega) rfl dX7_init_24 (fun w1 hw1 => ?_)
  obtain ⟨q4, rfl⟩ := hw1
  have C4 : Cx (X.cs (0 + 1 + 1 + 1 + 1) (0 + 2 + 40 + 2 + 71)) cX7_init 2 RX7 wsX7_init 2 41 := C.cs (by rw [hm1]; omega) (by rw [hm2]; omega)
  refine at_putF C4 hi2 (K := RX7) (T := TX7) (N := 8) (ci := 6) (ty := .object "OnlySideways$Text") iwi_X7_init_X7 tyX7 tyX7_ok nmX7 0 rfl rfl 1 (by decide) (by decide +kernel) rfl rfl rfl rfl rfl (Nat.le_of_ble_eq_true rfl) (ws' := [(b, .inr (6, [.ref q1, .ref q3, .null, .null, .null, .null, .null, .int 0])), (q1, .inr (4, [.ref q2, .int 0])), (q2, .inl (X.E 0, 40, .inl (fun _ => 0))), (q3, .inr (4, [.ref q4, .int 0])), (q4, .inl (X.E 0, 71, .inl (fun _ => 0)))]) rfl dX7_init_27 ?_
  refine at_aload_n C4 dX7_init_30 rfl (j := 0) rfl ?_
  refine at_new C hA (K := RX3) (T := TX3) (N := 4) (ci := 2) iwi_X7_init_X3 tyX3 tyX3_ok (by decide +kernel) (by decide +kernel) (by decide +kernel) rfl (fs := [.null, .null, .int 0, .int 0]) (fun j hj => by rcases (show j = 0 ∨ j = 1 ∨ j = 2 ∨ j = 3 by omega) with rfl | rfl | rfl | rfl <;> rfl) (by rw [hm1]; omega) (by rw [hm2]; omega) (ws' := fun q5 => [(b, .inr (6, [.ref q1, .ref q3, .null, .null, .null, .null, .null, .int 0])), (q1, .inr (4, [.ref q2, .int 0])), (q2, .inl (X.E 0, 40, .inl (fun _ => 0))), (q3, .inr (4, [.ref q4, .int 0])), (q4, .inl (X.E 0, 71, .inl (fun _ => 0))), (q5, .inr (2, [.null, .null, .int 0, .int 0]))]) (fun _ => rfl) dX7_init_31 (fun q5 => ?_)
  have C5 : Cx (X.cs (0 + 1 + 1 + 1 + 1 + 1) (0 + 2 + 40 + 2 + 71 + 4)) cX7_init 2 RX7 wsX7_init 2 41 := C.cs (by rw [hm1]; omega) (by rw [hm2]; omega)
  refine at_dup C5 dX7_init_34 rfl ?_
  refine at_callIN C hA hao (host := RX7) (b := q5) (As := []) (w0 := [(q5, .inr (2, [.null, .null, .int 0, .int 0]))]) [(b, .inr (6, [.ref q1, .ref q3, .null, .null, .null, .null, .null, .int 0])), (q1, .inr (4, [.ref q2, .int 0])), (q2, .inl (X.E 0, 40, .inl (fun _ => 0))), (q3, .inr (4, [.ref q4, .int 0])), (q4, .inl (X.E 0, 71, .inl (fun _ => 0)))] 0 (c_X3_init X.l X.D X.E X.a1 X.a2 q5) gX7_init_X3_init_n23 rfl (by decide +kernel) (by decide +kernel) (by decide +kernel) rfl (by decide +kernel) ⟨rfl, rfl⟩ rfl rfl (Nat.le_of_ble_eq_true rfl) (by rw [hm1]; omega) (by rw [hm2]; omega) rfl dX7_init_35 (fun w1 hw1 => ?_)
  obtain ⟨q6, q7, rfl⟩ := hw1
  have C6 : Cx (X.cs (0 + 1 + 1 + 1 + 1 + 1 + 2) (0 + 2 + 40 + 2 + 71 + 4 + 160)) cX7_init 2 RX7 wsX7_init 2 41 := C.cs (by rw [hm1]; omega) (by rw [hm2]; omega)
  refine at_putF C6 hi2 (K := RX7) (T := TX7) (N := 8) (ci := 6) (ty := .object "OnlySideways$Shapes") iwi_X7_init_X7 tyX7 tyX7_ok nmX7 0 rfl rfl 2 (by decide) (by decide +kernel) rfl rfl rfl rfl rfl (Nat.le_of_ble_eq_true rfl) (ws' := [(b, .inr (6, [.ref q1, .ref q3, .ref q5, .null, .null, .null, .null, .int 0])), (q1, .inr (4, [.ref q2, .int 0])), (q2, .inl (X.E 0, 40, .inl (fun _ => 0))), (q3, .inr (4, [.ref q4, .int 0])), (q4, .inl (X.E 0, 71, .inl (fun _ => 0))), (q5, .inr (2, [.ref q6, .ref q7, .int 0, .int (-1)])), (q6, .inl (X.E 0, 32, .inl (fun _ => 0))), (q7, .inl (X.E 0, 128, .inl (fun _ => 0)))]) rfl dX7_init_38 ?_
  refine at_aload_n C6 dX7_init_41 rfl (j := 0) rfl ?_
  refine at_new C hA (K := RX1) (T := TX1) (N := 6) (ci := 1) iwi_X7_init_X1 tyX1 tyX1_ok (by decide +kernel) (by decide +kernel) (by decide +kernel) rfl (fs := [.null, .long 0, .int 0, .int 0, .int 0, .int 0]) (fun j hj => by rcases (show j = 0 ∨ j = 1 ∨ j = 2 ∨ j = 3 ∨ j = 4 ∨ j = 5 by omega) with rfl | rfl | rfl | rfl | rfl | rfl <;> rfl) (by rw [hm1]; omega) (by rw [hm2]; omega) (ws' := fun q8 => [(b, .inr (6, [.ref q1, .ref q3, .ref q5, .null, .null, .null, .null, .int 0])), (q1, .inr (4, [.ref q2, .int 0])), (q2, .inl (X.E 0, 40, .inl (fun _ => 0))), (q3, .inr (4, [.ref q4, .int 0])), (q4, .inl (X.E 0, 71, .inl (fun _ => 0))), (q5, .inr (2, [.ref q6, .ref q7, .int 0, .int (-1)])), (q6, .inl (X.E 0, 32, .inl (fun _ => 0))), (q7, .inl (X.E 0, 128, .inl (fun _ => 0))), (q8, .inr (1, [.null, .long 0, .int 0, .int 0, .int 0, .int 0]))]) (fun _ => rfl) dX7_init_42 (fun q8 => ?_)
  have C7 : Cx (X.cs (0 + 1 + 1 + 1 + 1 + 1 + 2 + 1) (0 + 2 + 40 + 2 + 71 + 4 + 160 + 6)) cX7_init 2 RX7 wsX7_init 2 41 := C.cs (by rw [hm1]; omega) (by rw [hm2]; omega)
  refine at_dup C7 dX7_init_45 rfl ?_
  refine at_callIN C hA hao (host := RX7) (b := q8) (As := []) (w0 := [(q8, .inr (1, [.null, .long 0, .int 0, .int 0, .int 0, .int 0]))]) [(b, .inr (6, [.ref q1, .ref q3, .ref q5, .null, .null, .null, .null, .int 0])), (q1, .inr (4, [.ref q2, .int 0])), (q2, .inl (X.E 0, 40, .inl (fun _ => 0))), (q3, .inr (4, [.ref q4, .int 0])), (q4, .inl (X.E 0, 71, .inl (fun _ => 0))), (q5, .inr (2, [.ref q6, .ref q7, .int 0, .int (-1)])), (q6, .inl (X.E 0, 32, .inl (fun _ => 0))), (q7, .inl (X.E 0, 128, .inl (fun _ => 0)))] 0 (c_X1_init X.l X.D X.E X.a1 X.a2 q8) gX7_init_X1_init_n30 rfl (by decide +kernel) (by decide +kernel) (by decide +kernel) rfl (by decide +kernel) ⟨rfl, rfl⟩ rfl rfl (Nat.le_of_ble_eq_true rfl) (by rw [hm1]; omega) (by rw [hm2]; omega) rfl dX7_init_46 (fun w1 hw1 => ?_)
  obtain ⟨q9, rfl⟩ := hw1
  have C8 : Cx (X.cs (0 + 1 + 1 + 1 + 1 + 1 + 2 + 1 + 1) (0 + 2 + 40 + 2 + 71 + 4 + 160 + 6 + 64)) cX7_init 2 RX7 wsX7_init 2 41 := C.cs (by rw [hm1]; omega) (by rw [hm2]; omega)
  refine at_putF C8 hi2 (K := RX7) (T := TX7) (N := 8) (ci := 6) (ty := .object "OnlySideways$House") iwi_X7_init_X7 tyX7 tyX7_ok nmX7 0 rfl rfl 3 (by decide) (by decide +kernel) rfl rfl rfl rfl rfl (Nat.le_of_ble_eq_true rfl) (ws' := [(b, .inr (6, [.ref q1, .ref q3, .ref q5, .ref q8, .null, .null, .null, .int 0])), (q1, .inr (4, [.ref q2, .int 0])), (q2, .inl (X.E 0, 40, .inl (fun _ => 0))), (q3, .inr (4, [.ref q4, .int 0])), (q4, .inl (X.E 0, 71, .inl (fun _ => 0))), (q5, .inr (2, [.ref q6, .ref q7, .int 0, .int (-1)])), (q6, .inl (X.E 0, 32, .inl (fun _ => 0))), (q7, .inl (X.E 0, 128, .inl (fun _ => 0))), (q8, .inr (1, [.ref q9, .long 0, .int (-1), .int 0, .int (-1), .int (-1)])), (q9, .inl (X.E 1, 64, .inr (.inl (fun _ => 0))))]) rfl dX7_init_49 ?_
  refine at_aload_n C8 dX7_init_52 rfl (j := 0) rfl ?_
  refine at_new C hA (K := RX6) (T := TX6) (N := 4) (ci := 5) iwi_X7_init_X6 tyX6 tyX6_ok (by decide +kernel) (by decide +kernel) (by decide +kernel) rfl (fs := [.null, .null, .null, .null]) (fun j hj => by rcases (show j = 0 ∨ j = 1 ∨ j = 2 ∨ j = 3 by omega) with rfl | rfl | rfl | rfl <;> rfl) (by rw [hm1]; omega) (by rw [hm2]; omega) (ws' := fun q10 => [(b, .inr (6, [.ref q1, .ref q3, .ref q5, .ref q8, .null, .null, .null, .int 0])), (q1, .inr (4, [.ref q2, .int 0])), (q2, .inl (X.E 0, 40, .inl (fun _ => 0))), (q3, .inr (4, [.ref q4, .int 0])), (q4, .inl (X.E 0, 71, .inl (fun _ => 0))), (q5, .inr (2, [.ref q6, .ref q7, .int 0, .int (-1)])), (q6, .inl (X.E 0, 32, .inl (fun _ => 0))), (q7, .inl (X.E 0, 128, .inl (fun _ => 0))), (q8, .inr (1, [.ref q9, .long 0, .int (-1), .int 0, .int (-1), .int (-1)])), (q9, .inl (X.E 1, 64, .inr (.inl (fun _ => 0)))), (q10, .inr (5, [.null, .null, .null, .null]))]) (fun _ => rfl) dX7_init_53 (fun q10 => ?_)
  have C9 : Cx (X.cs (0 + 1 + 1 + 1 + 1 + 1 + 2 + 1 + 1 + 1) (0 + 2 + 40 + 2 + 71 + 4 + 160 + 6 + 64 + 4)) cX7_init 2 RX7 wsX7_init 2 41 := C.cs (by rw [hm1]; omega) (by rw [hm2]; omega)
  refine at_dup C9 dX7_init_56 rfl ?_
  refine at_callIN C hA hao (host := RX7) (b := q10) (As := []) (w0 := [(q10, .inr (5, [.null, .null, .null, .null]))]) [(b, .inr (6, [.ref q1, .ref q3, .ref q5, .ref q8, .null, .null, .null, .int 0])), (q1, .inr (4, [.ref q2, .int 0])), (q2, .inl (X.E 0, 40, .inl (fun _ => 0))), (q3, .inr (4, [.ref q4, .int 0])), (q4, .inl (X.E 0, 71, .inl (fun _ => 0))), (q5, .inr (2, [.ref q6, .ref q7, .int 0, .int (-1)])), (q6, .inl (X.E 0, 32, .inl (fun _ => 0))), (q7, .inl (X.E 0, 128, .inl (fun _ => 0))), (q8, .inr (1, [.ref q9, .long 0, .int (-1), .int 0, .int (-1), .int (-1)])), (q9, .inl (X.E 1, 64, .inr (.inl (fun _ => 0))))] 0 (c_X6_init X.l X.D X.E X.a1 X.a2 q10) gX7_init_X6_init_n37 rfl (by decide +kernel) (by decide +kernel) (by decide +kernel) rfl (by decide +kernel) ⟨rfl, rfl⟩ rfl rfl (Nat.le_of_ble_eq_true rfl) (by rw [hm1]; omega) (by rw [hm2]; omega) rfl dX7_init_57 (fun w1 hw1 => ?_)
  obtain ⟨q11, q12, q13, q14, rfl⟩ := hw1
  have C10 : Cx (X.cs (0 + 1 + 1 + 1 + 1 + 1 + 2 + 1 + 1 + 1 + 4) (0 + 2 + 40 + 2 + 71 + 4 + 160 + 6 + 64 + 4 + 16)) cX7_init 2 RX7 wsX7_init 2 41 := C.cs (by rw [hm1]; omega) (by rw [hm2]; omega)
  refine at_putF C10 hi2 (K := RX7) (T := TX7) (N := 8) (ci := 6) (ty := .object "OnlySideways$Walk") iwi_X7_init_X7 tyX7 tyX7_ok nmX7 0 rfl rfl 4 (by decide) (by decide +kernel) rfl rfl rfl rfl rfl (Nat.le_of_ble_eq_true rfl) (ws' := [(b, .inr (6, [.ref q1, .ref q3, .ref q5, .ref q8, .ref q10, .null, .null, .int 0])), (q1, .inr (4, [.ref q2, .int 0])), (q2, .inl (X.E 0, 40, .inl (fun _ => 0))), (q3, .inr (4, [.ref q4, .int 0])), (q4, .inl (X.E 0, 71, .inl (fun _ => 0))), (q5, .inr (2, [.ref q6, .ref q7, .int 0, .int (-1)])), (q6, .inl (X.E 0, 32, .inl (fun _ => 0))), (q7, .inl (X.E 0, 128, .inl (fun _ => 0))), (q8, .inr (1, [.ref q9, .long 0, .int (-1), .int 0, .int (-1), .int (-1)])), (q9, .inl (X.E 1, 64, .inr (.inl (fun _ => 0)))), (q10, .inr (5, [.ref q11, .ref q12, .ref q13, .ref q14])), (q11, .inl (X.E 1, 4, .inr (.inl (fun _ => 0)))), (q12, .inl (X.E 1, 4, .inr (.inl (fun _ => 0)))), (q13, .inl (X.E 1, 4, .inr (.inl (fun _ => 0)))), (q14, .inl (X.E 1, 4, .inr (.inl (fun _ => 0))))]) rfl dX7_init_60 ?_
  refine at_aload_n C10 dX7_init_63 rfl (j := 0) rfl ?_
  refine at_new C hA (K := RX0) (T := TX0) (N := 4) (ci := 0) iwi_X7_init_X0 tyX0 tyX0_ok (by decide +kernel) (by decide +kernel) (by decide +kernel) rfl (fs := [.null, .null, .null, .int 0]) (fun j hj => by rcases (show j = 0 ∨ j = 1 ∨ j = 2 ∨ j = 3 by omega) with rfl | rfl | rfl | rfl <;> rfl) (by rw [hm1]; omega) (by rw [hm2]; omega) (ws' := fun q15 => [(b, .inr (6, [.ref q1, .ref q3, .ref q5, .ref q8, .ref q10, .null, .null, .int 0])), (q1, .inr (4, [.ref q2, .int 0])), (q2, .inl (X.E 0, 40, .inl (fun _ => 0))), (q3, .inr (4, [.ref q4, .int 0])), (q4, .inl (X.E 0, 71, .inl (fun _ => 0))), (q5, .inr (2, [.ref q6, .ref q7, .int 0, .int (-1)])), (q6, .inl (X.E 0, 32, .inl (fun _ => 0))), (q7, .inl (X.E 0, 128, .inl (fun _ => 0))), (q8, .inr (1, [.ref q9, .long 0, .int (-1), .int 0, .int (-1), .int (-1)])), (q9, .inl (X.E 1, 64, .inr (.inl (fun _ => 0)))), (q10, .inr (5, [.ref q11, .ref q12, .ref q13, .ref q14])), (q11, .inl (X.E 1, 4, .inr (.inl (fun _ => 0)))), (q12, .inl (X.E 1, 4, .inr (.inl (fun _ => 0)))), (q13, .inl (X.E 1, 4, .inr (.inl (fun _ => 0)))), (q14, .inl (X.E 1, 4, .inr (.inl (fun _ => 0)))), (q15, .inr (0, [.null, .null, .null, .int 0]))]) (fun _ => rfl) dX7_init_64 (fun q15 => ?_)
  have C11 : Cx (X.cs (0 + 1 + 1 + 1 + 1 + 1 + 2 + 1 + 1 + 1 + 4 + 1) (0 + 2 + 40 + 2 + 71 + 4 + 160 + 6 + 64 + 4 + 16 + 4)) cX7_init 2 RX7 wsX7_init 2 41 := C.cs (by rw [hm1]; omega) (by rw [hm2]; omega)
  refine at_dup C11 dX7_init_67 rfl ?_
  refine at_callIN C hA hao (host := RX7) (b := q15) (As := []) (w0 := [(q15, .inr (0, [.null, .null, .null, .int 0]))]) [(b, .inr (6, [.ref q1, .ref q3, .ref q5, .ref q8, .ref q10, .null, .null, .int 0])), (q1, .inr (4, [.ref q2, .int 0])), (q2, .inl (X.E 0, 40, .inl (fun _ => 0))), (q3, .inr (4, [.ref q4, .int 0])), (q4, .inl (X.E 0, 71, .inl (fun _ => 0))), (q5, .inr (2, [.ref q6, .ref q7, .int 0, .int (-1)])), (q6, .inl (X.E 0, 32, .inl (fun _ => 0))), (q7, .inl (X.E 0, 128, .inl (fun _ => 0))), (q8, .inr (1, [.ref q9, .long 0, .int (-1), .int 0, .int (-1), .int (-1)])), (q9, .inl (X.E 1, 64, .inr (.inl (fun _ => 0)))), (q10, .inr (5, [.ref q11, .ref q12, .ref q13, .ref q14])), (q11, .inl (X.E 1, 4, .inr (.inl (fun _ => 0)))), (q12, .inl (X.E 1, 4, .inr (.inl (fun _ => 0)))), (q13, .inl (X.E 1, 4, .inr (.inl (fun _ => 0)))), (q14, .inl (X.E 1, 4, .inr (.inl (fun _ => 0))))] 0 (c_X0_init X.l X.D X.E X.a1 X.a2 q15) gX7_init_X0_init_n44 rfl (by decide +kernel) (by decide +kernel) (by decide +kernel) rfl (by decide +kernel) ⟨rfl, rfl⟩ rfl rfl (Nat.le_of_ble_eq_true rfl) (by rw [hm1]; omega) (by rw [hm2]; omega) rfl dX7_init_68 (fun w1 hw1 => ?_)
  obtain ⟨q16, q17, q18, rfl⟩ := hw1
  have C12 : Cx (X.cs (0 + 1 + 1 + 1 + 1 + 1 + 2 + 1 + 1 + 1 + 4 + 1 + 3) (0 + 2 + 40 + 2 + 71 + 4 + 160 + 6 + 64 + 4 + 16 + 4 + 48)) cX7_init 2 RX7 wsX7_init 2 41 := C.cs (by rw [hm1]; omega) (by rw [hm2]; omega)
  refine at_putF C12 hi2 (K := RX7) (T := TX7) (N := 8) (ci := 6) (ty := .object "OnlySideways$Clues") iwi_X7_init_X7 tyX7 tyX7_ok nmX7 0 rfl rfl 5 (by decide) (by decide +kernel) rfl rfl rfl rfl rfl (Nat.le_of_ble_eq_true rfl) (ws' := [(b, .inr (6, [.ref q1, .ref q3, .ref q5, .ref q8, .ref q10, .ref q15, .null, .int 0])), (q1, .inr (4, [.ref q2, .int 0])), (q2, .inl (X.E 0, 40, .inl (fun _ => 0))), (q3, .inr (4, [.ref q4, .int 0])), (q4, .inl (X.E 0, 71, .inl (fun _ => 0))), (q5, .inr (2, [.ref q6, .ref q7, .int 0, .int (-1)])), (q6, .inl (X.E 0, 32, .inl (fun _ => 0))), (q7, .inl (X.E 0, 128, .inl (fun _ => 0))), (q8, .inr (1, [.ref q9, .long 0, .int (-1), .int 0, .int (-1), .int (-1)])), (q9, .inl (X.E 1, 64, .inr (.inl (fun _ => 0)))), (q10, .inr (5, [.ref q11, .ref q12, .ref q13, .ref q14])), (q11, .inl (X.E 1, 4, .inr (.inl (fun _ => 0)))), (q12, .inl (X.E 1, 4, .inr (.inl (fun _ => 0)))), (q13, .inl (X.E 1, 4, .inr (.inl (fun _ => 0)))), (q14, .inl (X.E 1, 4, .inr (.inl (fun _ => 0)))), (q15, .inr (0, [.ref q16, .ref q17, .ref q18, .int 0])), (q16, .inl (X.E 0, 8, .inl (fun _ => 0))), (q17, .inl (X.E 0, 8, .inl (fun _ => 0))), (q18, .inl (X.E 0, 32, .inl (fun _ => 0)))]) rfl dX7_init_71 ?_
  refine at_aload_n C12 dX7_init_74 rfl (j := 0) rfl ?_
  refine at_iconst C12 dX7_init_75 (v := 4) rfl ?_
  refine at_newq C hA (N := 4) (by decide +kernel) hao (by decide) rfl (by decide) (by rw [hm1]; omega) (by rw [hm2]; omega) (ws' := fun q19 => [(b, .inr (6, [.ref q1, .ref q3, .ref q5, .ref q8, .ref q10, .ref q15, .null, .int 0])), (q1, .inr (4, [.ref q2, .int 0])), (q2, .inl (X.E 0, 40, .inl (fun _ => 0))), (q3, .inr (4, [.ref q4, .int 0])), (q4, .inl (X.E 0, 71, .inl (fun _ => 0))), (q5, .inr (2, [.ref q6, .ref q7, .int 0, .int (-1)])), (q6, .inl (X.E 0, 32, .inl (fun _ => 0))), (q7, .inl (X.E 0, 128, .inl (fun _ => 0))), (q8, .inr (1, [.ref q9, .long 0, .int (-1), .int 0, .int (-1), .int (-1)])), (q9, .inl (X.E 1, 64, .inr (.inl (fun _ => 0)))), (q10, .inr (5, [.ref q11, .ref q12, .ref q13, .ref q14])), (q11, .inl (X.E 1, 4, .inr (.inl (fun _ => 0)))), (q12, .inl (X.E 1, 4, .inr (.inl (fun _ => 0)))), (q13, .inl (X.E 1, 4, .inr (.inl (fun _ => 0)))), (q14, .inl (X.E 1, 4, .inr (.inl (fun _ => 0)))), (q15, .inr (0, [.ref q16, .ref q17, .ref q18, .int 0])), (q16, .inl (X.E 0, 8, .inl (fun _ => 0))), (q17, .inl (X.E 0, 8, .inl (fun _ => 0))), (q18, .inl (X.E 0, 32, .inl (fun _ => 0))), (q19, .inl (X.E 3, 4, .inr (.inr (.inr (.inr (fun _ => none))))))]) (fun _ => rfl) dX7_init_76 (fun q19 => ?_)
  have C13 : Cx (X.cs (0 + 1 + 1 + 1 + 1 + 1 + 2 + 1 + 1 + 1 + 4 + 1 + 3 + 1) (0 + 2 + 40 + 2 + 71 + 4 + 160 + 6 + 64 + 4 + 16 + 4 + 48 + 4)) cX7_init 2 RX7 wsX7_init 2 41 := C.cs (by rw [hm1]; omega) (by rw [hm2]; omega)
  refine at_putF C13 hi2 (K := RX7) (T := TX7) (N := 8) (ci := 6) (ty := .array (.object "OnlySideways$Sheet")) iwi_X7_init_X7 tyX7 tyX7_ok nmX7 0 rfl rfl 6 (by decide) (by decide +kernel) rfl rfl rfl rfl rfl (Nat.le_of_ble_eq_true rfl) (ws' := [(b, .inr (6, [.ref q1, .ref q3, .ref q5, .ref q8, .ref q10, .ref q15, .ref q19, .int 0])), (q1, .inr (4, [.ref q2, .int 0])), (q2, .inl (X.E 0, 40, .inl (fun _ => 0))), (q3, .inr (4, [.ref q4, .int 0])), (q4, .inl (X.E 0, 71, .inl (fun _ => 0))), (q5, .inr (2, [.ref q6, .ref q7, .int 0, .int (-1)])), (q6, .inl (X.E 0, 32, .inl (fun _ => 0))), (q7, .inl (X.E 0, 128, .inl (fun _ => 0))), (q8, .inr (1, [.ref q9, .long 0, .int (-1), .int 0, .int (-1), .int (-1)])), (q9, .inl (X.E 1, 64, .inr (.inl (fun _ => 0)))), (q10, .inr (5, [.ref q11, .ref q12, .ref q13, .ref q14])), (q11, .inl (X.E 1, 4, .inr (.inl (fun _ => 0)))), (q12, .inl (X.E 1, 4, .inr (.inl (fun _ => 0)))), (q13, .inl (X.E 1, 4, .inr (.inl (fun _ => 0)))), (q14, .inl (X.E 1, 4, .inr (.inl (fun _ => 0)))), (q15, .inr (0, [.ref q16, .ref q17, .ref q18, .int 0])), (q16, .inl (X.E 0, 8, .inl (fun _ => 0))), (q17, .inl (X.E 0, 8, .inl (fun _ => 0))), (q18, .inl (X.E 0, 32, .inl (fun _ => 0))), (q19, .inl (X.E 3, 4, .inr (.inr (.inr (.inr (fun _ => none))))))]) rfl dX7_init_79 ?_
  refine at_iconst C13 dX7_init_82 (v := 0) rfl ?_
  refine at_istore_n C13 dX7_init_83 rfl (by decide) (lv' := [(1, .int 0), (0, .ref b)]) rfl ?_
  refine at_iload_n C13 dX7_init_84 rfl (j := 0) rfl ?_
  refine at_iconst C13 dX7_init_85 (v := 4) rfl ?_
  refine at_icmp_ge C13 dX7_init_86 (tgt := 108) (by decide) (fun hc => absurd hc (by decide)) (fun _ => ?_)
  refine at_aload_n C13 dX7_init_89 rfl (j := 1) rfl ?_
  refine at_get C13 (K := RX7) (T := TX7) (N := 8) (ci := 6) (v := .ref q19) iwi_X7_init_X7 0 rfl rfl 6 (by decide) (by decide +kernel) rfl dX7_init_90 ?_
  refine at_iload_n C13 dX7_init_93 rfl (j := 0) rfl ?_
  refine at_new C hA (K := RX4) (T := TX4) (N := 4) (ci := 3) iwi_X7_init_X4 tyX4 tyX4_ok (by decide +kernel) (by decide +kernel) (by decide +kernel) rfl (fs := [.null, .int 0, .int 0, .int 0]) (fun j hj => by rcases (show j = 0 ∨ j = 1 ∨ j = 2 ∨ j = 3 by omega) with rfl | rfl | rfl | rfl <;> rfl) (by rw [hm1]; omega) (by rw [hm2]; omega) (ws' := fun q20 => [(b, .inr (6, [.ref q1, .ref q3, .ref q5, .ref q8, .ref q10, .ref q15, .ref q19, .int 0])), (q1, .inr (4, [.ref q2, .int 0])), (q2, .inl (X.E 0, 40, .inl (fun _ => 0))), (q3, .inr (4, [.ref q4, .int 0])), (q4, .inl (X.E 0, 71, .inl (fun _ => 0))), (q5, .inr (2, [.ref q6, .ref q7, .int 0, .int (-1)])), (q6, .inl (X.E 0, 32, .inl (fun _ => 0))), (q7, .inl (X.E 0, 128, .inl (fun _ => 0))), (q8, .inr (1, [.ref q9, .long 0, .int (-1), .int 0, .int (-1), .int (-1)])), (q9, .inl (X.E 1, 64, .inr (.inl (fun _ => 0)))), (q10, .inr (5, [.ref q11, .ref q12, .ref q13, .ref q14])), (q11, .inl (X.E 1, 4, .inr (.inl (fun _ => 0)))), (q12, .inl (X.E 1, 4, .inr (.inl (fun _ => 0)))), (q13, .inl (X.E 1, 4, .inr (.inl (fun _ => 0)))), (q14, .inl (X.E 1, 4, .inr (.inl (fun _ => 0)))), (q15, .inr (0, [.ref q16, .ref q17, .ref q18, .int 0])), (q16, .inl (X.E 0, 8, .inl (fun _ => 0))), (q17, .inl (X.E 0, 8, .inl (fun _ => 0))), (q18, .inl (X.E 0, 32, .inl (fun _ => 0))), (q19, .inl (X.E 3, 4, .inr (.inr (.inr (.inr (fun _ => none)))))), (q20, .inr (3, [.null, .int 0, .int 0, .int 0]))]) (fun _ => rfl) dX7_init_94 (fun q20 => ?_)
  have C14 : Cx (X.cs (0 + 1 + 1 + 1 + 1 + 1 + 2 + 1 + 1 + 1 + 4 + 1 + 3 + 1 + 1) (0 + 2 + 40 + 2 + 71 + 4 + 160 + 6 + 64 + 4 + 16 + 4 + 48 + 4 + 4)) cX7_init 2 RX7 wsX7_init 2 41 := C.cs (by rw [hm1]; omega) (by rw [hm2]; omega)
  refine at_dup C14 dX7_init_97 rfl ?_
  refine at_callIN C hA hao (host := RX7) (b := q20) (As := []) (w0 := [(q20, .inr (3, [.null, .int 0, .int 0, .int 0]))]) [(b, .inr (6, [.ref q1, .ref q3, .ref q5, .ref q8, .ref q10, .ref q15, .ref q19, .int 0])), (q1, .inr (4, [.ref q2, .int 0])), (q2, .inl (X.E 0, 40, .inl (fun _ => 0))), (q3, .inr (4, [.ref q4, .int 0])), (q4, .inl (X.E 0, 71, .inl (fun _ => 0))), (q5, .inr (2, [.ref q6, .ref q7, .int 0, .int (-1)])), (q6, .inl (X.E 0, 32, .inl (fun _ => 0))), (q7, .inl (X.E 0, 128, .inl (fun _ => 0))), (q8, .inr (1, [.ref q9, .long 0, .int (-1), .int 0, .int (-1), .int (-1)])), (q9, .inl (X.E 1, 64, .inr (.inl (fun _ => 0)))), (q10, .inr (5, [.ref q11, .ref q12, .ref q13, .ref q14])), (q11, .inl (X.E 1, 4, .inr (.inl (fun _ => 0)))), (q12, .inl (X.E 1, 4, .inr (.inl (fun _ => 0)))), (q13, .inl (X.E 1, 4, .inr (.inl (fun _ => 0)))), (q14, .inl (X.E 1, 4, .inr (.inl (fun _ => 0)))), (q15, .inr (0, [.ref q16, .ref q17, .ref q18, .int 0])), (q16, .inl (X.E 0, 8, .inl (fun _ => 0))), (q17, .inl (X.E 0, 8, .inl (fun _ => 0))), (q18, .inl (X.E 0, 32, .inl (fun _ => 0))), (q19, .inl (X.E 3, 4, .inr (.inr (.inr (.inr (fun _ => none))))))] 0 (c_X4_init X.l X.D X.E X.a1 X.a2 q20) gX7_init_X4_init_n55 rfl (by decide +kernel) (by decide +kernel) (by decide +kernel) rfl (by decide +kernel) ⟨rfl, rfl⟩ rfl rfl (Nat.le_of_ble_eq_true rfl) (by rw [hm1]; omega) (by rw [hm2]; omega) rfl dX7_init_98 (fun w1 hw1 => ?_)
  obtain ⟨q21, rfl⟩ := hw1
  have C15 : Cx (X.cs (0 + 1 + 1 + 1 + 1 + 1 + 2 + 1 + 1 + 1 + 4 + 1 + 3 + 1 + 1 + 1) (0 + 2 + 40 + 2 + 71 + 4 + 160 + 6 + 64 + 4 + 16 + 4 + 48 + 4 + 4 + 64)) cX7_init 2 RX7 wsX7_init 2 41 := C.cs (by rw [hm1]; omega) (by rw [hm2]; omega)
  refine at_astq C15 19 20 rfl rfl (vp_in_nI (n := 0) (by decide) (by decide)) (ws' := [(b, .inr (6, [.ref q1, .ref q3, .ref q5, .ref q8, .ref q10, .ref q15, .ref q19, .int 0])), (q1, .inr (4, [.ref q2, .int 0])), (q2, .inl (X.E 0, 40, .inl (fun _ => 0))), (q3, .inr (4, [.ref q4, .int 0])), (q4, .inl (X.E 0, 71, .inl (fun _ => 0))), (q5, .inr (2, [.ref q6, .ref q7, .int 0, .int (-1)])), (q6, .inl (X.E 0, 32, .inl (fun _ => 0))), (q7, .inl (X.E 0, 128, .inl (fun _ => 0))), (q8, .inr (1, [.ref q9, .long 0, .int (-1), .int 0, .int (-1), .int (-1)])), (q9, .inl (X.E 1, 64, .inr (.inl (fun _ => 0)))), (q10, .inr (5, [.ref q11, .ref q12, .ref q13, .ref q14])), (q11, .inl (X.E 1, 4, .inr (.inl (fun _ => 0)))), (q12, .inl (X.E 1, 4, .inr (.inl (fun _ => 0)))), (q13, .inl (X.E 1, 4, .inr (.inl (fun _ => 0)))), (q14, .inl (X.E 1, 4, .inr (.inl (fun _ => 0)))), (q15, .inr (0, [.ref q16, .ref q17, .ref q18, .int 0])), (q16, .inl (X.E 0, 8, .inl (fun _ => 0))), (q17, .inl (X.E 0, 8, .inl (fun _ => 0))), (q18, .inl (X.E 0, 32, .inl (fun _ => 0))), (q19, .inl (X.E 3, 4, .inr (.inr (.inr (.inr (va_up (fun _ => none) 0 (some q20))))))), (q20, .inr (3, [.ref q21, .int 0, .int 0, .int 1])), (q21, .inl (X.E 0, 64, .inl (fun _ => 0)))]) rfl dX7_init_101 ?_
  refine at_iinc C15 dX7_init_102 (j := 0) (v := 1) rfl rfl (by decide) (lv' := [(1, .int 1), (0, .ref b)]) rfl ?_
  refine at_goto C15 dX7_init_105 (tgt := 84) (by decide) ?_
  refine at_iload_n C15 dX7_init_84 rfl (j := 0) rfl ?_
  refine at_iconst C15 dX7_init_85 (v := 4) rfl ?_
  refine at_icmp_ge C15 dX7_init_86 (tgt := 108) (by decide) (fun hc => absurd hc (by decide)) (fun _ => ?_)
  refine at_aload_n C15 dX7_init_89 rfl (j := 1) rfl ?_
  refine at_get C15 (K := RX7) (T := TX7) (N := 8) (ci := 6) (v := .ref q19) iwi_X7_init_X7 0 rfl rfl 6 (by decide) (by decide +kernel) rfl dX7_init_90 ?_
  refine at_iload_n C15 dX7_init_93 rfl (j := 0) rfl ?_
  refine at_new C hA (K := RX4) (T := TX4) (N := 4) (ci := 3) iwi_X7_init_X4 tyX4 tyX4_ok (by decide +kernel) (by decide +kernel) (by decide +kernel) rfl (fs := [.null, .int 0, .int 0, .int 0]) (fun j hj => by rcases (show j = 0 ∨ j = 1 ∨ j = 2 ∨ j = 3 by omega) with rfl | rfl | rfl | rfl <;> rfl) (by rw [hm1]; omega) (by rw [hm2]; omega) (ws' := fun q22 => [(b, .inr (6, [.ref q1, .ref q3, .ref q5, .ref q8, .ref q10, .ref q15, .ref q19, .int 0])), (q1, .inr (4, [.ref q2, .int 0])), (q2, .inl (X.E 0, 40, .inl (fun _ => 0))), (q3, .inr (4, [.ref q4, .int 0])), (q4, .inl (X.E 0, 71, .inl (fun _ => 0))), (q5, .inr (2, [.ref q6, .ref q7, .int 0, .int (-1)])), (q6, .inl (X.E 0, 32, .inl (fun _ => 0))), (q7, .inl (X.E 0, 128, .inl (fun _ => 0))), (q8, .inr (1, [.ref q9, .long 0, .int (-1), .int 0, .int (-1), .int (-1)])), (q9, .inl (X.E 1, 64, .inr (.inl (fun _ => 0)))), (q10, .inr (5, [.ref q11, .ref q12, .ref q13, .ref q14])), (q11, .inl (X.E 1, 4, .inr (.inl (fun _ => 0)))), (q12, .inl (X.E 1, 4, .inr (.inl (fun _ => 0)))), (q13, .inl (X.E 1, 4, .inr (.inl (fun _ => 0)))), (q14, .inl (X.E 1, 4, .inr (.inl (fun _ => 0)))), (q15, .inr (0, [.ref q16, .ref q17, .ref q18, .int 0])), (q16, .inl (X.E 0, 8, .inl (fun _ => 0))), (q17, .inl (X.E 0, 8, .inl (fun _ => 0))), (q18, .inl (X.E 0, 32, .inl (fun _ => 0))), (q19, .inl (X.E 3, 4, .inr (.inr (.inr (.inr (va_up (fun _ => none) 0 (some q20))))))), (q20, .inr (3, [.ref q21, .int 0, .int 0, .int 1])), (q21, .inl (X.E 0, 64, .inl (fun _ => 0))), (q22, .inr (3, [.null, .int 0, .int 0, .int 0]))]) (fun _ => rfl) dX7_init_94 (fun q22 => ?_)
  have C16 : Cx (X.cs (0 + 1 + 1 + 1 + 1 + 1 + 2 + 1 + 1 + 1 + 4 + 1 + 3 + 1 + 1 + 1 + 1) (0 + 2 + 40 + 2 + 71 + 4 + 160 + 6 + 64 + 4 + 16 + 4 + 48 + 4 + 4 + 64 + 4)) cX7_init 2 RX7 wsX7_init 2 41 := C.cs (by rw [hm1]; omega) (by rw [hm2]; omega)
  refine at_dup C16 dX7_init_97 rfl ?_
  refine at_callIN C hA hao (host := RX7) (b := q22) (As := []) (w0 := [(q22, .inr (3, [.null, .int 0, .int 0, .int 0]))]) [(b, .inr (6, [.ref q1, .ref q3, .ref q5, .ref q8, .ref q10, .ref q15, .ref q19, .int 0])), (q1, .inr (4, [.ref q2, .int 0])), (q2, .inl (X.E 0, 40, .inl (fun _ => 0))), (q3, .inr (4, [.ref q4, .int 0])), (q4, .inl (X.E 0, 71, .inl (fun _ => 0))), (q5, .inr (2, [.ref q6, .ref q7, .int 0, .int (-1)])), (q6, .inl (X.E 0, 32, .inl (fun _ => 0))), (q7, .inl (X.E 0, 128, .inl (fun _ => 0))), (q8, .inr (1, [.ref q9, .long 0, .int (-1), .int 0, .int (-1), .int (-1)])), (q9, .inl (X.E 1, 64, .inr (.inl (fun _ => 0)))), (q10, .inr (5, [.ref q11, .ref q12, .ref q13, .ref q14])), (q11, .inl (X.E 1, 4, .inr (.inl (fun _ => 0)))), (q12, .inl (X.E 1, 4, .inr (.inl (fun _ => 0)))), (q13, .inl (X.E 1, 4, .inr (.inl (fun _ => 0)))), (q14, .inl (X.E 1, 4, .inr (.inl (fun _ => 0)))), (q15, .inr (0, [.ref q16, .ref q17, .ref q18, .int 0])), (q16, .inl (X.E 0, 8, .inl (fun _ => 0))), (q17, .inl (X.E 0, 8, .inl (fun _ => 0))), (q18, .inl (X.E 0, 32, .inl (fun _ => 0))), (q19, .inl (X.E 3, 4, .inr (.inr (.inr (.inr (va_up (fun _ => none) 0 (some q20))))))), (q20, .inr (3, [.ref q21, .int 0, .int 0, .int 1])), (q21, .inl (X.E 0, 64, .inl (fun _ => 0)))] 0 (c_X4_init X.l X.D X.E X.a1 X.a2 q22) gX7_init_X4_init_n55 rfl (by decide +kernel) (by decide +kernel) (by decide +kernel) rfl (by decide +kernel) ⟨rfl, rfl⟩ rfl rfl (Nat.le_of_ble_eq_true rfl) (by rw [hm1]; omega) (by rw [hm2]; omega) rfl dX7_init_98 (fun w1 hw1 => ?_)
  obtain ⟨q23, rfl⟩ := hw1
  have C17 : Cx (X.cs (0 + 1 + 1 + 1 + 1 + 1 + 2 + 1 + 1 + 1 + 4 + 1 + 3 + 1 + 1 + 1 + 1 + 1) (0 + 2 + 40 + 2 + 71 + 4 + 160 + 6 + 64 + 4 + 16 + 4 + 48 + 4 + 4 + 64 + 4 + 64)) cX7_init 2 RX7 wsX7_init 2 41 := C.cs (by rw [hm1]; omega) (by rw [hm2]; omega)
  refine at_astq C17 19 22 rfl rfl (vp_in_nI (n := 1) (by decide) (by decide)) (ws' := [(b, .inr (6, [.ref q1, .ref q3, .ref q5, .ref q8, .ref q10, .ref q15, .ref q19, .int 0])), (q1, .inr (4, [.ref q2, .int 0])), (q2, .inl (X.E 0, 40, .inl (fun _ => 0))), (q3, .inr (4, [.ref q4, .int 0])), (q4, .inl (X.E 0, 71, .inl (fun _ => 0))), (q5, .inr (2, [.ref q6, .ref q7, .int 0, .int (-1)])), (q6, .inl (X.E 0, 32, .inl (fun _ => 0))), (q7, .inl (X.E 0, 128, .inl (fun _ => 0))), (q8, .inr (1, [.ref q9, .long 0, .int (-1), .int 0, .int (-1), .int (-1)])), (q9, .inl (X.E 1, 64, .inr (.inl (fun _ => 0)))), (q10, .inr (5, [.ref q11, .ref q12, .ref q13, .ref q14])), (q11, .inl (X.E 1, 4, .inr (.inl (fun _ => 0)))), (q12, .inl (X.E 1, 4, .inr (.inl (fun _ => 0)))), (q13, .inl (X.E 1, 4, .inr (.inl (fun _ => 0)))), (q14, .inl (X.E 1, 4, .inr (.inl (fun _ => 0)))), (q15, .inr (0, [.ref q16, .ref q17, .ref q18, .int 0])), (q16, .inl (X.E 0, 8, .inl (fun _ => 0))), (q17, .inl (X.E 0, 8, .inl (fun _ => 0))), (q18, .inl (X.E 0, 32, .inl (fun _ => 0))), (q19, .inl (X.E 3, 4, .inr (.inr (.inr (.inr (va_up (va_up (fun _ => none) 0 (some q20)) 1 (some q22))))))), (q20, .inr (3, [.ref q21, .int 0, .int 0, .int 1])), (q21, .inl (X.E 0, 64, .inl (fun _ => 0))), (q22, .inr (3, [.ref q23, .int 0, .int 0, .int 1])), (q23, .inl (X.E 0, 64, .inl (fun _ => 0)))]) rfl dX7_init_101 ?_
  refine at_iinc C17 dX7_init_102 (j := 0) (v := 2) rfl rfl (by decide) (lv' := [(1, .int 2), (0, .ref b)]) rfl ?_
  refine at_goto C17 dX7_init_105 (tgt := 84) (by decide) ?_
  refine at_iload_n C17 dX7_init_84 rfl (j := 0) rfl ?_
  refine at_iconst C17 dX7_init_85 (v := 4) rfl ?_
  refine at_icmp_ge C17 dX7_init_86 (tgt := 108) (by decide) (fun hc => absurd hc (by decide)) (fun _ => ?_)
  refine at_aload_n C17 dX7_init_89 rfl (j := 1) rfl ?_
  refine at_get C17 (K := RX7) (T := TX7) (N := 8) (ci := 6) (v := .ref q19) iwi_X7_init_X7 0 rfl rfl 6 (by decide) (by decide +kernel) rfl dX7_init_90 ?_
  refine at_iload_n C17 dX7_init_93 rfl (j := 0) rfl ?_
  refine at_new C hA (K := RX4) (T := TX4) (N := 4) (ci := 3) iwi_X7_init_X4 tyX4 tyX4_ok (by decide +kernel) (by decide +kernel) (by decide +kernel) rfl (fs := [.null, .int 0, .int 0, .int 0]) (fun j hj => by rcases (show j = 0 ∨ j = 1 ∨ j = 2 ∨ j = 3 by omega) with rfl | rfl | rfl | rfl <;> rfl) (by rw [hm1]; omega) (by rw [hm2]; omega) (ws' := fun q24 => [(b, .inr (6, [.ref q1, .ref q3, .ref q5, .ref q8, .ref q10, .ref q15, .ref q19, .int 0])), (q1, .inr (4, [.ref q2, .int 0])), (q2, .inl (X.E 0, 40, .inl (fun _ => 0))), (q3, .inr (4, [.ref q4, .int 0])), (q4, .inl (X.E 0, 71, .inl (fun _ => 0))), (q5, .inr (2, [.ref q6, .ref q7, .int 0, .int (-1)])), (q6, .inl (X.E 0, 32, .inl (fun _ => 0))), (q7, .inl (X.E 0, 128, .inl (fun _ => 0))), (q8, .inr (1, [.ref q9, .long 0, .int (-1), .int 0, .int (-1), .int (-1)])), (q9, .inl (X.E 1, 64, .inr (.inl (fun _ => 0)))), (q10, .inr (5, [.ref q11, .ref q12, .ref q13, .ref q14])), (q11, .inl (X.E 1, 4, .inr (.inl (fun _ => 0)))), (q12, .inl (X.E 1, 4, .inr (.inl (fun _ => 0)))), (q13, .inl (X.E 1, 4, .inr (.inl (fun _ => 0)))), (q14, .inl (X.E 1, 4, .inr (.inl (fun _ => 0)))), (q15, .inr (0, [.ref q16, .ref q17, .ref q18, .int 0])), (q16, .inl (X.E 0, 8, .inl (fun _ => 0))), (q17, .inl (X.E 0, 8, .inl (fun _ => 0))), (q18, .inl (X.E 0, 32, .inl (fun _ => 0))), (q19, .inl (X.E 3, 4, .inr (.inr (.inr (.inr (va_up (va_up (fun _ => none) 0 (some q20)) 1 (some q22))))))), (q20, .inr (3, [.ref q21, .int 0, .int 0, .int 1])), (q21, .inl (X.E 0, 64, .inl (fun _ => 0))), (q22, .inr (3, [.ref q23, .int 0, .int 0, .int 1])), (q23, .inl (X.E 0, 64, .inl (fun _ => 0))), (q24, .inr (3, [.null, .int 0, .int 0, .int 0]))]) (fun _ => rfl) dX7_init_94 (fun q24 => ?_)
  have C18 : Cx (X.cs (0 + 1 + 1 + 1 + 1 + 1 + 2 + 1 + 1 + 1 + 4 + 1 + 3 + 1 + 1 + 1 + 1 + 1 + 1) (0 + 2 + 40 + 2 + 71 + 4 + 160 + 6 + 64 + 4 + 16 + 4 + 48 + 4 + 4 + 64 + 4 + 64 + 4)) cX7_init 2 RX7 wsX7_init 2 41 := C.cs (by rw [hm1]; omega) (by rw [hm2]; omega)
  refine at_dup C18 dX7_init_97 rfl ?_
  refine at_callIN C hA hao (host := RX7) (b := q24) (As := []) (w0 := [(q24, .inr (3, [.null, .int 0, .int 0, .int 0]))]) [(b, .inr (6, [.ref q1, .ref q3, .ref q5, .ref q8, .ref q10, .ref q15, .ref q19, .int 0])), (q1, .inr (4, [.ref q2, .int 0])), (q2, .inl (X.E 0, 40, .inl (fun _ => 0))), (q3, .inr (4, [.ref q4, .int 0])), (q4, .inl (X.E 0, 71, .inl (fun _ => 0))), (q5, .inr (2, [.ref q6, .ref q7, .int 0, .int (-1)])), (q6, .inl (X.E 0, 32, .inl (fun _ => 0))), (q7, .inl (X.E 0, 128, .inl (fun _ => 0))), (q8, .inr (1, [.ref q9, .long 0, .int (-1), .int 0, .int (-1), .int (-1)])), (q9, .inl (X.E 1, 64, .inr (.inl (fun _ => 0)))), (q10, .inr (5, [.ref q11, .ref q12, .ref q13, .ref q14])), (q11, .inl (X.E 1, 4, .inr (.inl (fun _ => 0)))), (q12, .inl (X.E 1, 4, .inr (.inl (fun _ => 0)))), (q13, .inl (X.E 1, 4, .inr (.inl (fun _ => 0)))), (q14, .inl (X.E 1, 4, .inr (.inl (fun _ => 0)))), (q15, .inr (0, [.ref q16, .ref q17, .ref q18, .int 0])), (q16, .inl (X.E 0, 8, .inl (fun _ => 0))), (q17, .inl (X.E 0, 8, .inl (fun _ => 0))), (q18, .inl (X.E 0, 32, .inl (fun _ => 0))), (q19, .inl (X.E 3, 4, .inr (.inr (.inr (.inr (va_up (va_up (fun _ => none) 0 (some q20)) 1 (some q22))))))), (q20, .inr (3, [.ref q21, .int 0, .int 0, .int 1])), (q21, .inl (X.E 0, 64, .inl (fun _ => 0))), (q22, .inr (3, [.ref q23, .int 0, .int 0, .int 1])), (q23, .inl (X.E 0, 64, .inl (fun _ => 0)))] 0 (c_X4_init X.l X.D X.E X.a1 X.a2 q24) gX7_init_X4_init_n55 rfl (by decide +kernel) (by decide +kernel) (by decide +kernel) rfl (by decide +kernel) ⟨rfl, rfl⟩ rfl rfl (Nat.le_of_ble_eq_true rfl) (by rw [hm1]; omega) (by rw [hm2]; omega) rfl dX7_init_98 (fun w1 hw1 => ?_)
  obtain ⟨q25, rfl⟩ := hw1
  have C19 : Cx (X.cs (0 + 1 + 1 + 1 + 1 + 1 + 2 + 1 + 1 + 1 + 4 + 1 + 3 + 1 + 1 + 1 + 1 + 1 + 1 + 1) (0 + 2 + 40 + 2 + 71 + 4 + 160 + 6 + 64 + 4 + 16 + 4 + 48 + 4 + 4 + 64 + 4 + 64 + 4 + 64)) cX7_init 2 RX7 wsX7_init 2 41 := C.cs (by rw [hm1]; omega) (by rw [hm2]; omega)
  refine at_astq C19 19 24 rfl rfl (vp_in_nI (n := 2) (by decide) (by decide)) (ws' := [(b, .inr (6, [.ref q1, .ref q3, .ref q5, .ref q8, .ref q10, .ref q15, .ref q19, .int 0])), (q1, .inr (4, [.ref q2, .int 0])), (q2, .inl (X.E 0, 40, .inl (fun _ => 0))), (q3, .inr (4, [.ref q4, .int 0])), (q4, .inl (X.E 0, 71, .inl (fun _ => 0))), (q5, .inr (2, [.ref q6, .ref q7, .int 0, .int (-1)])), (q6, .inl (X.E 0, 32, .inl (fun _ => 0))), (q7, .inl (X.E 0, 128, .inl (fun _ => 0))), (q8, .inr (1, [.ref q9, .long 0, .int (-1), .int 0, .int (-1), .int (-1)])), (q9, .inl (X.E 1, 64, .inr (.inl (fun _ => 0)))), (q10, .inr (5, [.ref q11, .ref q12, .ref q13, .ref q14])), (q11, .inl (X.E 1, 4, .inr (.inl (fun _ => 0)))), (q12, .inl (X.E 1, 4, .inr (.inl (fun _ => 0)))), (q13, .inl (X.E 1, 4, .inr (.inl (fun _ => 0)))), (q14, .inl (X.E 1, 4, .inr (.inl (fun _ => 0)))), (q15, .inr (0, [.ref q16, .ref q17, .ref q18, .int 0])), (q16, .inl (X.E 0, 8, .inl (fun _ => 0))), (q17, .inl (X.E 0, 8, .inl (fun _ => 0))), (q18, .inl (X.E 0, 32, .inl (fun _ => 0))), (q19, .inl (X.E 3, 4, .inr (.inr (.inr (.inr (va_up (va_up (va_up (fun _ => none) 0 (some q20)) 1 (some q22)) 2 (some q24))))))), (q20, .inr (3, [.ref q21, .int 0, .int 0, .int 1])), (q21, .inl (X.E 0, 64, .inl (fun _ => 0))), (q22, .inr (3, [.ref q23, .int 0, .int 0, .int 1])), (q23, .inl (X.E 0, 64, .inl (fun _ => 0))), (q24, .inr (3, [.ref q25, .int 0, .int 0, .int 1])), (q25, .inl (X.E 0, 64, .inl (fun _ => 0)))]) rfl dX7_init_101 ?_
  refine at_iinc C19 dX7_init_102 (j := 0) (v := 3) rfl rfl (by decide) (lv' := [(1, .int 3), (0, .ref b)]) rfl ?_
  refine at_goto C19 dX7_init_105 (tgt := 84) (by decide) ?_
  refine at_iload_n C19 dX7_init_84 rfl (j := 0) rfl ?_
  refine at_iconst C19 dX7_init_85 (v := 4) rfl ?_
  refine at_icmp_ge C19 dX7_init_86 (tgt := 108) (by decide) (fun hc => absurd hc (by decide)) (fun _ => ?_)
  refine at_aload_n C19 dX7_init_89 rfl (j := 1) rfl ?_
  refine at_get C19 (K := RX7) (T := TX7) (N := 8) (ci := 6) (v := .ref q19) iwi_X7_init_X7 0 rfl rfl 6 (by decide) (by decide +kernel) rfl dX7_init_90 ?_
  refine at_iload_n C19 dX7_init_93 rfl (j := 0) rfl ?_
  refine at_new C hA (K := RX4) (T := TX4) (N := 4) (ci := 3) iwi_X7_init_X4 tyX4 tyX4_ok (by decide +kernel) (by decide +kernel) (by decide +kernel) rfl (fs := [.null, .int 0, .int 0, .int 0]) (fun j hj => by rcases (show j = 0 ∨ j = 1 ∨ j = 2 ∨ j = 3 by omega) with rfl | rfl | rfl | rfl <;> rfl) (by rw [hm1]; omega) (by rw [hm2]; omega) (ws' := fun q26 => [(b, .inr (6, [.ref q1, .ref q3, .ref q5, .ref q8, .ref q10, .ref q15, .ref q19, .int 0])), (q1, .inr (4, [.ref q2, .int 0])), (q2, .inl (X.E 0, 40, .inl (fun _ => 0))), (q3, .inr (4, [.ref q4, .int 0])), (q4, .inl (X.E 0, 71, .inl (fun _ => 0))), (q5, .inr (2, [.ref q6, .ref q7, .int 0, .int (-1)])), (q6, .inl (X.E 0, 32, .inl (fun _ => 0))), (q7, .inl (X.E 0, 128, .inl (fun _ => 0))), (q8, .inr (1, [.ref q9, .long 0, .int (-1), .int 0, .int (-1), .int (-1)])), (q9, .inl (X.E 1, 64, .inr (.inl (fun _ => 0)))), (q10, .inr (5, [.ref q11, .ref q12, .ref q13, .ref q14])), (q11, .inl (X.E 1, 4, .inr (.inl (fun _ => 0)))), (q12, .inl (X.E 1, 4, .inr (.inl (fun _ => 0)))), (q13, .inl (X.E 1, 4, .inr (.inl (fun _ => 0)))), (q14, .inl (X.E 1, 4, .inr (.inl (fun _ => 0)))), (q15, .inr (0, [.ref q16, .ref q17, .ref q18, .int 0])), (q16, .inl (X.E 0, 8, .inl (fun _ => 0))), (q17, .inl (X.E 0, 8, .inl (fun _ => 0))), (q18, .inl (X.E 0, 32, .inl (fun _ => 0))), (q19, .inl (X.E 3, 4, .inr (.inr (.inr (.inr (va_up (va_up (va_up (fun _ => none) 0 (some q20)) 1 (some q22)) 2 (some q24))))))), (q20, .inr (3, [.ref q21, .int 0, .int 0, .int 1])), (q21, .inl (X.E 0, 64, .inl (fun _ => 0))), (q22, .inr (3, [.ref q23, .int 0, .int 0, .int 1])), (q23, .inl (X.E 0, 64, .inl (fun _ => 0))), (q24, .inr (3, [.ref q25, .int 0, .int 0, .int 1])), (q25, .inl (X.E 0, 64, .inl (fun _ => 0))), (q26, .inr (3, [.null, .int 0, .int 0, .int 0]))]) (fun _ => rfl) dX7_init_94 (fun q26 => ?_)
  have C20 : Cx (X.cs (0 + 1 + 1 + 1 + 1 + 1 + 2 + 1 + 1 + 1 + 4 + 1 + 3 + 1 + 1 + 1 + 1 + 1 + 1 + 1 + 1) (0 + 2 + 40 + 2 + 71 + 4 + 160 + 6 + 64 + 4 + 16 + 4 + 48 + 4 + 4 + 64 + 4 + 64 + 4 + 64 + 4)) cX7_init 2 RX7 wsX7_init 2 41 := C.cs (by rw [hm1]; omega) (by rw [hm2]; omega)
  refine at_dup C20 dX7_init_97 rfl ?_
  refine at_callIN C hA hao (host := RX7) (b := q26) (As := []) (w0 := [(q26, .inr (3, [.null, .int 0, .int 0, .int 0]))]) [(b, .inr (6, [.ref q1, .ref q3, .ref q5, .ref q8, .ref q10, .ref q15, .ref q19, .int 0])), (q1, .inr (4, [.ref q2, .int 0])), (q2, .inl (X.E 0, 40, .inl (fun _ => 0))), (q3, .inr (4, [.ref q4, .int 0])), (q4, .inl (X.E 0, 71, .inl (fun _ => 0))), (q5, .inr (2, [.ref q6, .ref q7, .int 0, .int (-1)])), (q6, .inl (X.E 0, 32, .inl (fun _ => 0))), (q7, .inl (X.E 0, 128, .inl (fun _ => 0))), (q8, .inr (1, [.ref q9, .long 0, .int (-1), .int 0, .int (-1), .int (-1)])), (q9, .inl (X.E 1, 64, .inr (.inl (fun _ => 0)))), (q10, .inr (5, [.ref q11, .ref q12, .ref q13, .ref q14])), (q11, .inl (X.E 1, 4, .inr (.inl (fun _ => 0)))), (q12, .inl (X.E 1, 4, .inr (.inl (fun _ => 0)))), (q13, .inl (X.E 1, 4, .inr (.inl (fun _ => 0)))), (q14, .inl (X.E 1, 4, .inr (.inl (fun _ => 0)))), (q15, .inr (0, [.ref q16, .ref q17, .ref q18, .int 0])), (q16, .inl (X.E 0, 8, .inl (fun _ => 0))), (q17, .inl (X.E 0, 8, .inl (fun _ => 0))), (q18, .inl (X.E 0, 32, .inl (fun _ => 0))), (q19, .inl (X.E 3, 4, .inr (.inr (.inr (.inr (va_up (va_up (va_up (fun _ => none) 0 (some q20)) 1 (some q22)) 2 (some q24))))))), (q20, .inr (3, [.ref q21, .int 0, .int 0, .int 1])), (q21, .inl (X.E 0, 64, .inl (fun _ => 0))), (q22, .inr (3, [.ref q23, .int 0, .int 0, .int 1])), (q23, .inl (X.E 0, 64, .inl (fun _ => 0))), (q24, .inr (3, [.ref q25, .int 0, .int 0, .int 1])), (q25, .inl (X.E 0, 64, .inl (fun _ => 0)))] 0 (c_X4_init X.l X.D X.E X.a1 X.a2 q26) gX7_init_X4_init_n55 rfl (by decide +kernel) (by decide +kernel) (by decide +kernel) rfl (by decide +kernel) ⟨rfl, rfl⟩ rfl rfl (Nat.le_of_ble_eq_true rfl) (by rw [hm1]; omega) (by rw [hm2]; omega) rfl dX7_init_98 (fun w1 hw1 => ?_)
  obtain ⟨q27, rfl⟩ := hw1
  have C21 : Cx (X.cs (0 + 1 + 1 + 1 + 1 + 1 + 2 + 1 + 1 + 1 + 4 + 1 + 3 + 1 + 1 + 1 + 1 + 1 + 1 + 1 + 1 + 1) (0 + 2 + 40 + 2 + 71 + 4 + 160 + 6 + 64 + 4 + 16 + 4 + 48 + 4 + 4 + 64 + 4 + 64 + 4 + 64 + 4 + 64)) cX7_init 2 RX7 wsX7_init 2 41 := C.cs (by rw [hm1]; omega) (by rw [hm2]; omega)
  refine at_astq C21 19 26 rfl rfl (vp_in_nI (n := 3) (by decide) (by decide)) (ws' := [(b, .inr (6, [.ref q1, .ref q3, .ref q5, .ref q8, .ref q10, .ref q15, .ref q19, .int 0])), (q1, .inr (4, [.ref q2, .int 0])), (q2, .inl (X.E 0, 40, .inl (fun _ => 0))), (q3, .inr (4, [.ref q4, .int 0])), (q4, .inl (X.E 0, 71, .inl (fun _ => 0))), (q5, .inr (2, [.ref q6, .ref q7, .int 0, .int (-1)])), (q6, .inl (X.E 0, 32, .inl (fun _ => 0))), (q7, .inl (X.E 0, 128, .inl (fun _ => 0))), (q8, .inr (1, [.ref q9, .long 0, .int (-1), .int 0, .int (-1), .int (-1)])), (q9, .inl (X.E 1, 64, .inr (.inl (fun _ => 0)))), (q10, .inr (5, [.ref q11, .ref q12, .ref q13, .ref q14])), (q11, .inl (X.E 1, 4, .inr (.inl (fun _ => 0)))), (q12, .inl (X.E 1, 4, .inr (.inl (fun _ => 0)))), (q13, .inl (X.E 1, 4, .inr (.inl (fun _ => 0)))), (q14, .inl (X.E 1, 4, .inr (.inl (fun _ => 0)))), (q15, .inr (0, [.ref q16, .ref q17, .ref q18, .int 0])), (q16, .inl (X.E 0, 8, .inl (fun _ => 0))), (q17, .inl (X.E 0, 8, .inl (fun _ => 0))), (q18, .inl (X.E 0, 32, .inl (fun _ => 0))), (q19, .inl (X.E 3, 4, .inr (.inr (.inr (.inr (va_up (va_up (va_up (va_up (fun _ => none) 0 (some q20)) 1 (some q22)) 2 (some q24)) 3 (some q26))))))), (q20, .inr (3, [.ref q21, .int 0, .int 0, .int 1])), (q21, .inl (X.E 0, 64, .inl (fun _ => 0))), (q22, .inr (3, [.ref q23, .int 0, .int 0, .int 1])), (q23, .inl (X.E 0, 64, .inl (fun _ => 0))), (q24, .inr (3, [.ref q25, .int 0, .int 0, .int 1])), (q25, .inl (X.E 0, 64, .inl (fun _ => 0))), (q26, .inr (3, [.ref q27, .int 0, .int 0, .int 1])), (q27, .inl (X.E 0, 64, .inl (fun _ => 0)))]) rfl dX7_init_101 ?_
  refine at_iinc C21 dX7_init_102 (j := 0) (v := 4) rfl rfl (by decide) (lv' := [(1, .int 4), (0, .ref b)]) rfl ?_
  refine at_goto C21 dX7_init_105 (tgt := 84) (by decide) ?_
  refine at_iload_n C21 dX7_init_84 rfl (j := 0) rfl ?_
  refine at_iconst C21 dX7_init_85 (v := 4) rfl ?_
  refine at_icmp_ge C21 dX7_init_86 (tgt := 108) (by decide) (fun _ => ?_) (fun hc => absurd (by decide) hc)
  refine at_aload_n C21 dX7_init_108 rfl (j := 1) rfl ?_
  refine at_iconst C21 dX7_init_109 (v := 0) rfl ?_
  refine at_put C21 (K := RX7) (T := TX7) (N := 8) (ci := 6) (ty := .int) iwi_X7_init_X7 tyX7 tyX7_ok nmX7 0 rfl rfl 7 (by decide) (by decide +kernel) rfl rfl rfl rfl (Nat.le_of_ble_eq_true rfl) (ws' := [(b, .inr (6, [.ref q1, .ref q3, .ref q5, .ref q8, .ref q10, .ref q15, .ref q19, .int 0])), (q1, .inr (4, [.ref q2, .int 0])), (q2, .inl (X.E 0, 40, .inl (fun _ => 0))), (q3, .inr (4, [.ref q4, .int 0])), (q4, .inl (X.E 0, 71, .inl (fun _ => 0))), (q5, .inr (2, [.ref q6, .ref q7, .int 0, .int (-1)])), (q6, .inl (X.E 0, 32, .inl (fun _ => 0))), (q7, .inl (X.E 0, 128, .inl (fun _ => 0))), (q8, .inr (1, [.ref q9, .long 0, .int (-1), .int 0, .int (-1), .int (-1)])), (q9, .inl (X.E 1, 64, .inr (.inl (fun _ => 0)))), (q10, .inr (5, [.ref q11, .ref q12, .ref q13, .ref q14])), (q11, .inl (X.E 1, 4, .inr (.inl (fun _ => 0)))), (q12, .inl (X.E 1, 4, .inr (.inl (fun _ => 0)))), (q13, .inl (X.E 1, 4, .inr (.inl (fun _ => 0)))), (q14, .inl (X.E 1, 4, .inr (.inl (fun _ => 0)))), (q15, .inr (0, [.ref q16, .ref q17, .ref q18, .int 0])), (q16, .inl (X.E 0, 8, .inl (fun _ => 0))), (q17, .inl (X.E 0, 8, .inl (fun _ => 0))), (q18, .inl (X.E 0, 32, .inl (fun _ => 0))), (q19, .inl (X.E 3, 4, .inr (.inr (.inr (.inr (va_up (va_up (va_up (va_up (fun _ => none) 0 (some q20)) 1 (some q22)) 2 (some q24)) 3 (some q26))))))), (q20, .inr (3, [.ref q21, .int 0, .int 0, .int 1])), (q21, .inl (X.E 0, 64, .inl (fun _ => 0))), (q22, .inr (3, [.ref q23, .int 0, .int 0, .int 1])), (q23, .inl (X.E 0, 64, .inl (fun _ => 0))), (q24, .inr (3, [.ref q25, .int 0, .int 0, .int 1])), (q25, .inl (X.E 0, 64, .inl (fun _ => 0))), (q26, .inr (3, [.ref q27, .int 0, .int 0, .int 1])), (q27, .inl (X.E 0, 64, .inl (fun _ => 0)))]) rfl dX7_init_110 ?_
  refine at_vretX C hE (by omega) (by omega) ⟨fun j => ([b, q1, q2, q3, q4, q5, q6, q7, q8, q9, q10, q11, q12, q13, q14, q15, q16, q17, q18, q19, q20, q21, q22, q23, q24, q25, q26, q27] : List Nat).getD j 0, rfl, ?_⟩ dX7_init_113
  have e := sh_up (fun j => ([b, q1, q2, q3, q4, q5, q6, q7, q8, q9, q10, q11, q12, q13, q14, q15, q16, q17, q18, q19, q20, q21, q22, q23, q24, q25, q26, q27] : List Nat).getD j 0)
  have e' : va_up (va_up (va_up (va_up (fun _ => none) 0 (some q20)) 1 (some q22)) 2 (some q24)) 3 (some q26) = shF (fun j => ([b, q1, q2, q3, q4, q5, q6, q7, q8, q9, q10, q11, q12, q13, q14, q15, q16, q17, q18, q19, q20, q21, q22, q23, q24, q25, q26, q27] : List Nat).getD j 0) := e
  rw [e']
  rfl
theorem iwi_X8_init_X8 : ∀ w ∈ u_ws RX8 TX8 18, w ∈ wsX8_init := by decide +kernel
set_option maxRecDepth 100000 in
theorem c_X8_init (l : Launch) (D : va_G) (E : Nat → ClassId) (a1 a2 b : Nat) : Fx l D E a1 a2 yX8_init wsX8_init 1 20 13 1731 [.ref b] [(b, .inr (7, [.null, .null, .null, .null, .int 0, .null, .null, .int 0, .int 0, .null, .null, .null, .null, .int 0, .int 0, .null, .null, .null]))] (fun w => ∃ ad : Nat → Nat, ad 0 = b ∧ w = mW E ad M00) := by
  refine Fx.of (cc := cX8_init) (maxL := 2) (own := RX8) (by decide) rfl rfl rfl (Nat.le_of_ble_eq_true rfl) (fun X q1 q2 q3 q4 q5 hm1 hm2 C hA hi2 hao hE => ?_)
  subst q1 q2 q3 q4 q5
  have C0 : Cx (X.cs 0 0) cX8_init 2 RX8 wsX8_init 1 20 := C.cs (by rw [hm1]; omega) (by rw [hm2]; omega)
  refine at_aload_n C0 dX8_init_0 rfl (j := 0) rfl ?_
  refine at_objInit C0 (by decide +kernel) (by decide +kernel) (by decide +kernel) (Nat.le_of_ble_eq_true rfl) (Nat.le_of_ble_eq_true rfl) (Nat.le_of_ble_eq_true rfl) dX8_init_1 ?_
  refine at_aload_n C0 dX8_init_4 rfl (j := 0) rfl ?_
  refine at_iconst C0 dX8_init_5 (v := 4) rfl ?_
  refine at_newaI C hA (N := 4) (by decide +kernel) (by decide) rfl (by decide) (by rw [hm1]; omega) (by rw [hm2]; omega) (ws' := fun q1 => [(b, .inr (7, [.null, .null, .null, .null, .int 0, .null, .null, .int 0, .int 0, .null, .null, .null, .null, .int 0, .int 0, .null, .null, .null])), (q1, .inl (X.E 0, 4, .inl (fun _ => 0)))]) (fun _ => rfl) dX8_init_6 (fun q1 => ?_)
  have C1 : Cx (X.cs (0 + 1) (0 + 4)) cX8_init 2 RX8 wsX8_init 1 20 := C.cs (by rw [hm1]; omega) (by rw [hm2]; omega)
  refine at_putF C1 hi2 (K := RX8) (T := TX8) (N := 18) (ci := 7) (ty := .array .int) iwi_X8_init_X8 tyX8 tyX8_ok nmX8 0 rfl rfl 0 (by decide) (by decide +kernel) rfl rfl rfl rfl rfl (Nat.le_of_ble_eq_true rfl) (ws' := [(b, .inr (7, [.ref q1, .null, .null, .null, .int 0, .null, .null, .int 0, .int 0, .null, .null, .null, .null, .int 0, .int 0, .null, .null, .null])), (q1, .inl (X.E 0, 4, .inl (fun _ => 0)))]) rfl dX8_init_8 ?_
  refine at_aload_n C1 dX8_init_11 rfl (j := 0) rfl ?_
  refine at_iconst C1 dX8_init_12 (v := 4) rfl ?_
  refine at_newaI C hA (N := 4) (by decide +kernel) (by decide) rfl (by decide) (by rw [hm1]; omega) (by rw [hm2]; omega) (ws' := fun q2 => [(b, .inr (7, [.ref q1, .null, .null, .null, .int 0, .null, .null, .int 0, .int 0, .null, .null, .null, .null, .int 0, .int 0, .null, .null, .null])), (q1, .inl (X.E 0, 4, .inl (fun _ => 0))), (q2, .inl (X.E 0, 4, .inl (fun _ => 0)))]) (fun _ => rfl) dX8_init_13 (fun q2 => ?_)
  have C2 : Cx (X.cs (0 + 1 + 1) (0 + 4 + 4)) cX8_init 2 RX8 wsX8_init 1 20 := C.cs (by rw [hm1]; omega) (by rw [hm2]; omega)
  refine at_putF C2 hi2 (K := RX8) (T := TX8) (N := 18) (ci := 7) (ty := .array .int) iwi_X8_init_X8 tyX8 tyX8_ok nmX8 0 rfl rfl 1 (by decide) (by decide +kernel) rfl rfl rfl rfl rfl (Nat.le_of_ble_eq_true rfl) (ws' := [(b, .inr (7, [.ref q1, .ref q2, .null, .null, .int 0, .null, .null, .int 0, .int 0, .null, .null, .null, .null, .int 0, .int 0, .null, .null, .null])), (q1, .inl (X.E 0, 4, .inl (fun _ => 0))), (q2, .inl (X.E 0, 4, .inl (fun _ => 0)))]) rfl dX8_init_15 ?_
  refine at_aload_n C2 dX8_init_18 rfl (j := 0) rfl ?_
  refine at_sipush C2 dX8_init_19 (v := 256) rfl ?_
  refine at_newaI C hA (N := 256) (by decide +kernel) (by decide) rfl (by decide) (by rw [hm1]; omega) (by rw [hm2]; omega) (ws' := fun q3 => [(b, .inr (7, [.ref q1, .ref q2, .null, .null, .int 0, .null, .null, .int 0, .int 0, .null, .null, .null, .null, .int 0, .int 0, .null, .null, .null])), (q1, .inl (X.E 0, 4, .inl (fun _ => 0))), (q2, .inl (X.E 0, 4, .inl (fun _ => 0))), (q3, .inl (X.E 0, 256, .inl (fun _ => 0)))]) (fun _ => rfl) dX8_init_22 (fun q3 => ?_)
  have C3 : Cx (X.cs (0 + 1 + 1 + 1) (0 + 4 + 4 + 256)) cX8_init 2 RX8 wsX8_init 1 20 := C.cs (by rw [hm1]; omega) (by rw [hm2]; omega)
  refine at_putF C3 hi2 (K := RX8) (T := TX8) (N := 18) (ci := 7) (ty := .array .int) iwi_X8_init_X8 tyX8 tyX8_ok nmX8 0 rfl rfl 2 (by decide) (by decide +kernel) rfl rfl rfl rfl rfl (Nat.le_of_ble_eq_true rfl) (ws' := [(b, .inr (7, [.ref q1, .ref q2, .ref q3, .null, .int 0, .null, .null, .int 0, .int 0, .null, .null, .null, .null, .int 0, .int 0, .null, .null, .null])), (q1, .inl (X.E 0, 4, .inl (fun _ => 0))), (q2, .inl (X.E 0, 4, .inl (fun _ => 0))), (q3, .inl (X.E 0, 256, .inl (fun _ => 0)))]) rfl dX8_init_24 ?_
  refine at_aload_n C3 dX8_init_27 rfl (j := 0) rfl ?_
  refine at_bipush C3 dX8_init_28 (v := 64) rfl ?_
  refine at_newaI C hA (N := 64) (by decide +kernel) (by decide) rfl (by decide) (by rw [hm1]; omega) (by rw [hm2]; omega) (ws' := fun q4 => [(b, .inr (7, [.ref q1, .ref q2, .ref q3, .null, .int 0, .null, .null, .int 0, .int 0, .null, .null, .null, .null, .int 0, .int 0, .null, .null, .null])), (q1, .inl (X.E 0, 4, .inl (fun _ => 0))), (q2, .inl (X.E 0, 4, .inl (fun _ => 0))), (q3, .inl (X.E 0, 256, .inl (fun _ => 0))), (q4, .inl (X.E 0, 64, .inl (fun _ => 0)))]) (fun _ => rfl) dX8_init_30 (fun q4 => ?_)
  have C4 : Cx (X.cs (0 + 1 + 1 + 1 + 1) (0 + 4 + 4 + 256 + 64)) cX8_init 2 RX8 wsX8_init 1 20 := C.cs (by rw [hm1]; omega) (by rw [hm2]; omega)
  refine at_putF C4 hi2 (K := RX8) (T := TX8) (N := 18) (ci := 7) (ty := .array .int) iwi_X8_init_X8 tyX8 tyX8_ok nmX8 0 rfl rfl 3 (by decide) (by decide +kernel) rfl rfl rfl rfl rfl (Nat.le_of_ble_eq_true rfl) (ws' := [(b, .inr (7, [.ref q1, .ref q2, .ref q3, .ref q4, .int 0, .null, .null, .int 0, .int 0, .null, .null, .null, .null, .int 0, .int 0, .null, .null, .null])), (q1, .inl (X.E 0, 4, .inl (fun _ => 0))), (q2, .inl (X.E 0, 4, .inl (fun _ => 0))), (q3, .inl (X.E 0, 256, .inl (fun _ => 0))), (q4, .inl (X.E 0, 64, .inl (fun _ => 0)))]) rfl dX8_init_32 ?_
  refine at_aload_n C4 dX8_init_35 rfl (j := 0) rfl ?_
  refine at_bipush C4 dX8_init_36 (v := 112) rfl ?_
  refine at_newaI C hA (N := 112) (by decide +kernel) (by decide) rfl (by decide) (by rw [hm1]; omega) (by rw [hm2]; omega) (ws' := fun q5 => [(b, .inr (7, [.ref q1, .ref q2, .ref q3, .ref q4, .int 0, .null, .null, .int 0, .int 0, .null, .null, .null, .null, .int 0, .int 0, .null, .null, .null])), (q1, .inl (X.E 0, 4, .inl (fun _ => 0))), (q2, .inl (X.E 0, 4, .inl (fun _ => 0))), (q3, .inl (X.E 0, 256, .inl (fun _ => 0))), (q4, .inl (X.E 0, 64, .inl (fun _ => 0))), (q5, .inl (X.E 0, 112, .inl (fun _ => 0)))]) (fun _ => rfl) dX8_init_38 (fun q5 => ?_)
  have C5 : Cx (X.cs (0 + 1 + 1 + 1 + 1 + 1) (0 + 4 + 4 + 256 + 64 + 112)) cX8_init 2 RX8 wsX8_init 1 20 := C.cs (by rw [hm1]; omega) (by rw [hm2]; omega)
  refine at_putF C5 hi2 (K := RX8) (T := TX8) (N := 18) (ci := 7) (ty := .array .int) iwi_X8_init_X8 tyX8 tyX8_ok nmX8 0 rfl rfl 5 (by decide) (by decide +kernel) rfl rfl rfl rfl rfl (Nat.le_of_ble_eq_true rfl) (ws' := [(b, .inr (7, [.ref q1, .ref q2, .ref q3, .ref q4, .int 0, .ref q5, .null, .int 0, .int 0, .null, .null, .null, .null, .int 0, .int 0, .null, .null, .null])), (q1, .inl (X.E 0, 4, .inl (fun _ => 0))), (q2, .inl (X.E 0, 4, .inl (fun _ => 0))), (q3, .inl (X.E 0, 256, .inl (fun _ => 0))), (q4, .inl (X.E 0, 64, .inl (fun _ => 0))), (q5, .inl (X.E 0, 112, .inl (fun _ => 0)))]) rfl dX8_init_40 ?_
  refine at_aload_n C5 dX8_init_43 rfl (j := 0) rfl ?_
  refine at_iconst C5 dX8_init_44 (v := 2) rfl ?_
  refine at_newaI C hA (N := 2) (by decide +kernel) (by decide) rfl (by decide) (by rw [hm1]; omega) (by rw [hm2]; omega) (ws' := fun q6 => [(b, .inr (7, [.ref q1, .ref q2, .ref q3, .ref q4, .int 0, .ref q5, .null, .int 0, .int 0, .null, .null, .null, .null, .int 0, .int 0, .null, .null, .null])), (q1, .inl (X.E 0, 4, .inl (fun _ => 0))), (q2, .inl (X.E 0, 4, .inl (fun _ => 0))), (q3, .inl (X.E 0, 256, .inl (fun _ => 0))), (q4, .inl (X.E 0, 64, .inl (fun _ => 0))), (q5, .inl (X.E 0, 112, .inl (fun _ => 0))), (q6, .inl (X.E 0, 2, .inl (fun _ => 0)))]) (fun _ => rfl) dX8_init_45 (fun q6 => ?_)
  have C6 : Cx (X.cs (0 + 1 + 1 + 1 + 1 + 1 + 1) (0 + 4 + 4 + 256 + 64 + 112 + 2)) cX8_init 2 RX8 wsX8_init 1 20 := C.cs (by rw [hm1]; omega) (by rw [hm2]; omega)
  refine at_putF C6 hi2 (K := RX8) (T := TX8) (N := 18) (ci := 7) (ty := .array .int) iwi_X8_init_X8 tyX8 tyX8_ok nmX8 0 rfl rfl 6 (by decide) (by decide +kernel) rfl rfl rfl rfl rfl (Nat.le_of_ble_eq_true rfl) (ws' := [(b, .inr (7, [.ref q1, .ref q2, .ref q3, .ref q4, .int 0, .ref q5, .ref q6, .int 0, .int 0, .null, .null, .null, .null, .int 0, .int 0, .null, .null, .null])), (q1, .inl (X.E 0, 4, .inl (fun _ => 0))), (q2, .inl (X.E 0, 4, .inl (fun _ => 0))), (q3, .inl (X.E 0, 256, .inl (fun _ => 0))), (q4, .inl (X.E 0, 64, .inl (fun _ => 0))), (q5, .inl (X.E 0, 112, .inl (fun _ => 0))), (q6, .inl (X.E 0, 2, .inl (fun _ => 0)))]) rfl dX8_init_47 ?_
  refine at_aload_n C6 dX8_init_50 rfl (j := 0) rfl ?_
  refine at_bipush C6 dX8_init_51 (v := 8) rfl ?_
  refine at_newaI C hA (N := 8) (by decide +kernel) (by decide) rfl (by decide) (by rw [hm1]; omega) (by rw [hm2]; omega) (ws' := fun q7 => [(b, .inr (7, [.ref q1, .ref q2, .ref q3, .ref q4, .int 0, .ref q5, .ref q6, .int 0, .int 0, .null, .null, .null, .null, .int 0, .int 0, .null, .null, .null])), (q1, .inl (X.E 0, 4, .inl (fun _ => 0))), (q2, .inl (X.E 0, 4, .inl (fun _ => 0))), (q3, .inl (X.E 0, 256, .inl (fun _ => 0))), (q4, .inl (X.E 0, 64, .inl (fun _ => 0))), (q5, .inl (X.E 0, 112, .inl (fun _ => 0))), (q6, .inl (X.E 0, 2, .inl (fun _ => 0))), (q7, .inl (X.E 0, 8, .inl (fun _ => 0)))]) (fun _ => rfl) dX8_init_53 (fun q7 => ?_)
  have C7 : Cx (X.cs (0 + 1 + 1 + 1 + 1 + 1 + 1 + 1) (0 + 4 + 4 + 256 + 64 + 112 + 2 + 8)) cX8_init 2 RX8 wsX8_init 1 20 := C.cs (by rw [hm1]; omega) (by rw [hm2]; omega)
  refine at_putF C7 hi2 (K := RX8) (T := TX8) (N := 18) (ci := 7) (ty := .array .int) iwi_X8_init_X8 tyX8 tyX8_ok nmX8 0 rfl rfl 9 (by decide) (by decide +kernel) rfl rfl rfl rfl rfl (Nat.le_of_ble_eq_true rfl) (ws' := [(b, .inr (7, [.ref q1, .ref q2, .ref q3, .ref q4, .int 0, .ref q5, .ref q6, .int 0, .int 0, .ref q7, .null, .null, .null, .int 0, .int 0, .null, .null, .null])), (q1, .inl (X.E 0, 4, .inl (fun _ => 0))), (q2, .inl (X.E 0, 4, .inl (fun _ => 0))), (q3, .inl (X.E 0, 256, .inl (fun _ => 0))), (q4, .inl (X.E 0, 64, .inl (fun _ => 0))), (q5, .inl (X.E 0, 112, .inl (fun _ => 0))), (q6, .inl (X.E 0, 2, .inl (fun _ => 0))), (q7, .inl (X.E 0, 8, .inl (fun _ => 0)))]) rfl dX8_init_55 ?_
  refine at_aload_n C7 dX8_init_58 rfl (j := 0) rfl ?_
  refine at_bipush C7 dX8_init_59 (v := 64) rfl ?_
  refine at_newaZ C hA (N := 64) (by decide +kernel) (by decide) rfl (by decide) (by rw [hm1]; omega) (by rw [hm2]; omega) (ws' := fun q8 => [(b, .inr (7, [.ref q1, .ref q2, .ref q3, .ref q4, .int 0, .ref q5, .ref q6, .int 0, .int 0, .ref q7, .null, .null, .null, .int 0, .int 0, .null, .null, .null])), (q1, .inl (X.E 0, 4, .inl (fun _ => 0))), (q2, .inl (X.E 0, 4, .inl (fun _ => 0))), (q3, .inl (X.E 0, 256, .inl (fun _ => 0))), (q4, .inl (X.E 0, 64, .inl (fun _ => 0))), (q5, .inl (X.E 0, 112, .inl (fun _ => 0))), (q6, .inl (X.E 0, 2, .inl (fun _ => 0))), (q7, .inl (X.E 0, 8, .inl (fun _ => 0))), (q8, .inl (X.E 2, 64, .inl (fun _ => 0)))]) (fun _ => rfl) dX8_init_61 (fun q8 => ?_)
  have C8 : Cx (X.cs (0 + 1 + 1 + 1 + 1 + 1 + 1 + 1 + 1) (0 + 4 + 4 + 256 + 64 + 112 + 2 + 8 + 64)) cX8_init 2 RX8 wsX8_init 1 20 := C.cs (by rw [hm1]; omega) (by rw [hm2]; omega)
  refine at_putF C8 hi2 (K := RX8) (T := TX8) (N := 18) (ci := 7) (ty := .array .boolean) iwi_X8_init_X8 tyX8 tyX8_ok nmX8 0 rfl rfl 10 (by decide) (by decide +kernel) rfl rfl rfl rfl rfl (Nat.le_of_ble_eq_true rfl) (ws' := [(b, .inr (7, [.ref q1, .ref q2, .ref q3, .ref q4, .int 0, .ref q5, .ref q6, .int 0, .int 0, .ref q7, .ref q8, .null, .null, .int 0, .int 0, .null, .null, .null])), (q1, .inl (X.E 0, 4, .inl (fun _ => 0))), (q2, .inl (X.E 0, 4, .inl (fun _ => 0))), (q3, .inl (X.E 0, 256, .inl (fun _ => 0))), (q4, .inl (X.E 0, 64, .inl (fun _ => 0))), (q5, .inl (X.E 0, 112, .inl (fun _ => 0))), (q6, .inl (X.E 0, 2, .inl (fun _ => 0))), (q7, .inl (X.E 0, 8, .inl (fun _ => 0))), (q8, .inl (X.E 2, 64, .inl (fun _ => 0)))]) rfl dX8_init_63 ?_
  refine at_aload_n C8 dX8_init_66 rfl (j := 0) rfl ?_
  refine at_sipush C8 dX8_init_67 (v := 256) rfl ?_
  refine at_newaI C hA (N := 256) (by decide +kernel) (by decide) rfl (by decide) (by rw [hm1]; omega) (by rw [hm2]; omega) (ws' := fun q9 => [(b, .inr (7, [.ref q1, .ref q2, .ref q3, .ref q4, .int 0, .ref q5, .ref q6, .int 0, .int 0, .ref q7, .ref q8, .null, .null, .int 0, .int 0, .null, .null, .null])), (q1, .inl (X.E 0, 4, .inl (fun _ => 0))), (q2, .inl (X.E 0, 4, .inl (fun _ => 0))), (q3, .inl (X.E 0, 256, .inl (fun _ => 0))), (q4, .inl (X.E 0, 64, .inl (fun _ => 0))), (q5, .inl (X.E 0, 112, .inl (fun _ => 0))), (q6, .inl (X.E 0, 2, .inl (fun _ => 0))), (q7, .inl (X.E 0, 8, .inl (fun _ => 0))), (q8, .inl (X.E 2, 64, .inl (fun _ => 0))), (q9, .inl (X.E 0, 256, .inl (fun _ => 0)))]) (fun _ => rfl) dX8_init_70 (fun q9 => ?_)
  have C9 : Cx (X.cs (0 + 1 + 1 + 1 + 1 + 1 + 1 + 1 + 1 + 1) (0 + 4 + 4 + 256 + 64 + 112 + 2 + 8 + 64 + 256)) cX8_init 2 RX8 wsX8_init 1 20 := C.cs (by rw [hm1]; omega) (by rw [hm2]; omega)
  refine at_putF C9 hi2 (K := RX8) (T := TX8) (N := 18) (ci := 7) (ty := .array .int) iwi_X8_init_X8 tyX8 tyX8_ok nmX8 0 rfl rfl 11 (by decide) (by decide +kernel) rfl rfl rfl rfl rfl (Nat.le_of_ble_eq_true rfl) (ws' := [(b, .inr (7, [.ref q1, .ref q2, .ref q3, .ref q4, .int 0, .ref q5, .ref q6, .int 0, .int 0, .ref q7, .ref q8, .ref q9, .null, .int 0, .int 0, .null, .null, .null])), (q1, .inl (X.E 0, 4, .inl (fun _ => 0))), (q2, .inl (X.E 0, 4, .inl (fun _ => 0))), (q3, .inl (X.E 0, 256, .inl (fun _ => 0))), (q4, .inl (X.E 0, 64, .inl (fun _ => 0))), (q5, .inl (X.E 0, 112, .inl (fun _ => 0))), (q6, .inl (X.E 0, 2, .inl (fun _ => 0))), (q7, .inl (X.E 0, 8, .inl (fun _ => 0))), (q8, .inl (X.E 2, 64, .inl (fun _ => 0))), (q9, .inl (X.E 0, 256, .inl (fun _ => 0)))]) rfl dX8_init_72 ?_
  refine at_aload_n C9 dX8_init_75 rfl (j := 0) rfl ?_
  refine at_sipush C9 dX8_init_76 (v := 256) rfl ?_
  refine at_newaI C hA (N := 256) (by decide +kernel) (by decide) rfl (by decide) (by rw [hm1]; omega) (by rw [hm2]; omega) (ws' := fun q10 => [(b, .inr (7, [.ref q1, .ref q2, .ref q3, .ref q4, .int 0, .ref q5, .ref q6, .int 0, .int 0, .ref q7, .ref q8, .ref q9, .null, .int 0, .int 0, .null, .null, .null])), (q1, .inl (X.E 0, 4, .inl (fun _ => 0))), (q2, .inl (X.E 0, 4, .inl (fun _ => 0))), (q3, .inl (X.E 0, 256, .inl (fun _ => 0))), (q4, .inl (X.E 0, 64, .inl (fun _ => 0))), (q5, .inl (X.E 0, 112, .inl (fun _ => 0))), (q6, .inl (X.E 0, 2, .inl (fun _ => 0))), (q7, .inl (X.E 0, 8, .inl (fun _ => 0))), (q8, .inl (X.E 2, 64, .inl (fun _ => 0))), (q9, .inl (X.E 0, 256, .inl (fun _ => 0))), (q10, .inl (X.E 0, 256, .inl (fun _ => 0)))]) (fun _ => rfl) dX8_init_79 (fun q10 => ?_)
  have C10 : Cx (X.cs (0 + 1 + 1 + 1 + 1 + 1 + 1 + 1 + 1 + 1 + 1) (0 + 4 + 4 + 256 + 64 + 112 + 2 + 8 + 64 + 256 + 256)) cX8_init 2 RX8 wsX8_init 1 20 := C.cs (by rw [hm1]; omega) (by rw [hm2]; omega)
  refine at_putF C10 hi2 (K := RX8) (T := TX8) (N := 18) (ci := 7) (ty := .array .int) iwi_X8_init_X8 tyX8 tyX8_ok nmX8 0 rfl rfl 12 (by decide) (by decide +kernel) rfl rfl rfl rfl rfl (Nat.le_of_ble_eq_true rfl) (ws' := [(b, .inr (7, [.ref q1, .ref q2, .ref q3, .ref q4, .int 0, .ref q5, .ref q6, .int 0, .int 0, .ref q7, .ref q8, .ref q9, .ref q10, .int 0, .int 0, .null, .null, .null])), (q1, .inl (X.E 0, 4, .inl (fun _ => 0))), (q2, .inl (X.E 0, 4, .inl (fun _ => 0))), (q3, .inl (X.E 0, 256, .inl (fun _ => 0))), (q4, .inl (X.E 0, 64, .inl (fun _ => 0))), (q5, .inl (X.E 0, 112, .inl (fun _ => 0))), (q6, .inl (X.E 0, 2, .inl (fun _ => 0))), (q7, .inl (X.E 0, 8, .inl (fun _ => 0))), (q8, .inl (X.E 2, 64, .inl (fun _ => 0))), (q9, .inl (X.E 0, 256, .inl (fun _ => 0))), (q10, .inl (X.E 0, 256, .inl (fun _ => 0)))]) rfl dX8_init_81 ?_
  refine at_aload_n C10 dX8_init_84 rfl (j := 0) rfl ?_
  refine at_bipush C10 dX8_init_85 (v := 16) rfl ?_
  refine at_newaI C hA (N := 16) (by decide +kernel) (by decide) rfl (by decide) (by rw [hm1]; omega) (by rw [hm2]; omega) (ws' := fun q11 => [(b, .inr (7, [.ref q1, .ref q2, .ref q3, .ref q4, .int 0, .ref q5, .ref q6, .int 0, .int 0, .ref q7, .ref q8, .ref q9, .ref q10, .int 0, .int 0, .null, .null, .null])), (q1, .inl (X.E 0, 4, .inl (fun _ => 0))), (q2, .inl (X.E 0, 4, .inl (fun _ => 0))), (q3, .inl (X.E 0, 256, .inl (fun _ => 0))), (q4, .inl (X.E 0, 64, .inl (fun _ => 0))), (q5, .inl (X.E 0, 112, .inl (fun _ => 0))), (q6, .inl (X.E 0, 2, .inl (fun _ => 0))), (q7, .inl (X.E 0, 8, .inl (fun _ => 0))), (q8, .inl (X.E 2, 64, .inl (fun _ => 0))), (q9, .inl (X.E 0, 256, .inl (fun _ => 0))), (q10, .inl (X.E 0, 256, .inl (fun _ => 0))), (q11, .inl (X.E 0, 16, .inl (fun _ => 0)))]) (fun _ => rfl) dX8_init_87 (fun q11 => ?_)
  have C11 : Cx (X.cs (0 + 1 + 1 + 1 + 1 + 1 + 1 + 1 + 1 + 1 + 1 + 1) (0 + 4 + 4 + 256 + 64 + 112 + 2 + 8 + 64 + 256 + 256 + 16)) cX8_init 2 RX8 wsX8_init 1 20 := C.cs (by rw [hm1]; omega) (by rw [hm2]; omega)
  refine at_putF C11 hi2 (K := RX8) (T := TX8) (N := 18) (ci := 7) (ty := .array .int) iwi_X8_init_X8 tyX8 tyX8_ok nmX8 0 rfl rfl 15 (by decide) (by decide +kernel) rfl rfl rfl rfl rfl (Nat.le_of_ble_eq_true rfl) (ws' := [(b, .inr (7, [.ref q1, .ref q2, .ref q3, .ref q4, .int 0, .ref q5, .ref q6, .int 0, .int 0, .ref q7, .ref q8, .ref q9, .ref q10, .int 0, .int 0, .ref q11, .null, .null])), (q1, .inl (X.E 0, 4, .inl (fun _ => 0))), (q2, .inl (X.E 0, 4, .inl (fun _ => 0))), (q3, .inl (X.E 0, 256, .inl (fun _ => 0))), (q4, .inl (X.E 0, 64, .inl (fun _ => 0))), (q5, .inl (X.E 0, 112, .inl (fun _ => 0))), (q6, .inl (X.E 0, 2, .inl (fun _ => 0))), (q7, .inl (X.E 0, 8, .inl (fun _ => 0))), (q8, .inl (X.E 2, 64, .inl (fun _ => 0))), (q9, .inl (X.E 0, 256, .inl (fun _ => 0))), (q10, .inl (X.E 0, 256, .inl (fun _ => 0))), (q11, .inl (X.E 0, 16, .inl (fun _ => 0)))]) rfl dX8_init_89 ?_
  refine at_aload_n C11 dX8_init_92 rfl (j := 0) rfl ?_
  refine at_sipush C11 dX8_init_93 (v := 625) rfl ?_
  refine at_newaI C hA (N := 625) (by decide +kernel) (by decide) rfl (by decide) (by rw [hm1]; omega) (by rw [hm2]; omega) (ws' := fun q12 => [(b, .inr (7, [.ref q1, .ref q2, .ref q3, .ref q4, .int 0, .ref q5, .ref q6, .int 0, .int 0, .ref q7, .ref q8, .ref q9, .ref q10, .int 0, .int 0, .ref q11, .null, .null])), (q1, .inl (X.E 0, 4, .inl (fun _ => 0))), (q2, .inl (X.E 0, 4, .inl (fun _ => 0))), (q3, .inl (X.E 0, 256, .inl (fun _ => 0))), (q4, .inl (X.E 0, 64, .inl (fun _ => 0))), (q5, .inl (X.E 0, 112, .inl (fun _ => 0))), (q6, .inl (X.E 0, 2, .inl (fun _ => 0))), (q7, .inl (X.E 0, 8, .inl (fun _ => 0))), (q8, .inl (X.E 2, 64, .inl (fun _ => 0))), (q9, .inl (X.E 0, 256, .inl (fun _ => 0))), (q10, .inl (X.E 0, 256, .inl (fun _ => 0))), (q11, .inl (X.E 0, 16, .inl (fun _ => 0))), (q12, .inl (X.E 0, 625, .inl (fun _ => 0)))]) (fun _ => rfl) dX8_init_96 (fun q12 => ?_)
  have C12 : Cx (X.cs (0 + 1 + 1 + 1 + 1 + 1 + 1 + 1 + 1 + 1 + 1 + 1 + 1) (0 + 4 + 4 + 256 + 64 + 112 + 2 + 8 + 64 + 256 + 256 + 16 + 625)) cX8_init 2 RX8 wsX8_init 1 20 := C.cs (by rw [hm1]; omega) (by rw [hm2]; omega)
  refine at_putF C12 hi2 (K := RX8) (T := TX8) (N := 18) (ci := 7) (ty := .array .int) iwi_X8_init_X8 tyX8 tyX8_ok nmX8 0 rfl rfl 16 (by decide) (by decide +kernel) rfl rfl rfl rfl rfl (Nat.le_of_ble_eq_true rfl) (ws' := [(b, .inr (7, [.ref q1, .ref q2, .ref q3, .ref q4, .int 0, .ref q5, .ref q6, .int 0, .int 0, .ref q7, .ref q8, .ref q9, .ref q10, .int 0, .int 0, .ref q11, .ref q12, .null])), (q1, .inl (X.E 0, 4, .inl (fun _ => 0))), (q2, .inl (X.E 0, 4, .inl (fun _ => 0))), (q3, .inl (X.E 0, 256, .inl (fun _ => 0))), (q4, .inl (X.E 0, 64, .inl (fun _ => 0))), (q5, .inl (X.E 0, 112, .inl (fun _ => 0))), (q6, .inl (X.E 0, 2, .inl (fun _ => 0))), (q7, .inl (X.E 0, 8, .inl (fun _ => 0))), (q8, .inl (X.E 2, 64, .inl (fun _ => 0))), (q9, .inl (X.E 0, 256, .inl (fun _ => 0))), (q10, .inl (X.E 0, 256, .inl (fun _ => 0))), (q11, .inl (X.E 0, 16, .inl (fun _ => 0))), (q12, .inl (X.E 0, 625, .inl (fun _ => 0)))]) rfl dX8_init_98 ?_
  refine at_aload_n C12 dX8_init_101 rfl (j := 0) rfl ?_
  refine at_bipush C12 dX8_init_102 (v := 64) rfl ?_
  refine at_newaJ C hA (N := 64) (by decide +kernel) (by decide) rfl (by decide) (by rw [hm1]; omega) (by rw [hm2]; omega) (ws' := fun q13 => [(b, .inr (7, [.ref q1, .ref q2, .ref q3, .ref q4, .int 0, .ref q5, .ref q6, .int 0, .int 0, .ref q7, .ref q8, .ref q9, .ref q10, .int 0, .int 0, .ref q11, .ref q12, .null])), (q1, .inl (X.E 0, 4, .inl (fun _ => 0))), (q2, .inl (X.E 0, 4, .inl (fun _ => 0))), (q3, .inl (X.E 0, 256, .inl (fun _ => 0))), (q4, .inl (X.E 0, 64, .inl (fun _ => 0))), (q5, .inl (X.E 0, 112, .inl (fun _ => 0))), (q6, .inl (X.E 0, 2, .inl (fun _ => 0))), (q7, .inl (X.E 0, 8, .inl (fun _ => 0))), (q8, .inl (X.E 2, 64, .inl (fun _ => 0))), (q9, .inl (X.E 0, 256, .inl (fun _ => 0))), (q10, .inl (X.E 0, 256, .inl (fun _ => 0))), (q11, .inl (X.E 0, 16, .inl (fun _ => 0))), (q12, .inl (X.E 0, 625, .inl (fun _ => 0))), (q13, .inl (X.E 1, 64, .inr (.inl (fun _ => 0))))]) (fun _ => rfl) dX8_init_104 (fun q13 => ?_)
  have C13 : Cx (X.cs (0 + 1 + 1 + 1 + 1 + 1 + 1 + 1 + 1 + 1 + 1 + 1 + 1 + 1) (0 + 4 + 4 + 256 + 64 + 112 + 2 + 8 + 64 + 256 + 256 + 16 + 625 + 64)) cX8_init 2 RX8 wsX8_init 1 20 := C.cs (by rw [hm1]; omega) (by rw [hm2]; omega)
  refine at_putF C13 hi2 (K := RX8) (T := TX8) (N := 18) (ci := 7) (ty := .array .long) iwi_X8_init_X8 tyX8 tyX8_ok nmX8 0 rfl rfl 17 (by decide) (by decide +kernel) rfl rfl rfl rfl rfl (Nat.le_of_ble_eq_true rfl) (ws' := [(b, .inr (7, [.ref q1, .ref q2, .ref q3, .ref q4, .int 0, .ref q5, .ref q6, .int 0, .int 0, .ref q7, .ref q8, .ref q9, .ref q10, .int 0, .int 0, .ref q11, .ref q12, .ref q13])), (q1, .inl (X.E 0, 4, .inl (fun _ => 0))), (q2, .inl (X.E 0, 4, .inl (fun _ => 0))), (q3, .inl (X.E 0, 256, .inl (fun _ => 0))), (q4, .inl (X.E 0, 64, .inl (fun _ => 0))), (q5, .inl (X.E 0, 112, .inl (fun _ => 0))), (q6, .inl (X.E 0, 2, .inl (fun _ => 0))), (q7, .inl (X.E 0, 8, .inl (fun _ => 0))), (q8, .inl (X.E 2, 64, .inl (fun _ => 0))), (q9, .inl (X.E 0, 256, .inl (fun _ => 0))), (q10, .inl (X.E 0, 256, .inl (fun _ => 0))), (q11, .inl (X.E 0, 16, .inl (fun _ => 0))), (q12, .inl (X.E 0, 625, .inl (fun _ => 0))), (q13, .inl (X.E 1, 64, .inr (.inl (fun _ => 0))))]) rfl dX8_init_106 ?_
  refine at_iconst C13 dX8_init_109 (v := 0) rfl ?_
  refine at_istore_n C13 dX8_init_110 rfl (by decide) (lv' := [(1, .int 0), (0, .ref b)]) rfl ?_
  refine at_iload_n C13 dX8_init_111 rfl (j := 0) rfl ?_
  refine at_iconst C13 dX8_init_112 (v := 4) rfl ?_
  refine at_icmp_ge C13 dX8_init_113 (tgt := 129) (by decide) (fun hc => absurd hc (by decide)) (fun _ => ?_)
  refine at_aload_n C13 dX8_init_116 rfl (j := 1) rfl ?_
  refine at_get C13 (K := RX8) (T := TX8) (N := 18) (ci := 7) (v := .ref q1) iwi_X8_init_X8 0 rfl rfl 0 (by decide) (by decide +kernel) rfl dX8_init_117 ?_
  refine at_iload_n C13 dX8_init_120 rfl (j := 0) rfl ?_
  refine at_iconst C13 dX8_init_121 (v := (-1)) rfl ?_
  refine at_iast C13 1 rfl (vp_in_nI (n := 0) (by decide) (by decide)) (ws' := [(b, .inr (7, [.ref q1, .ref q2, .ref q3, .ref q4, .int 0, .ref q5, .ref q6, .int 0, .int 0, .ref q7, .ref q8, .ref q9, .ref q10, .int 0, .int 0, .ref q11, .ref q12, .ref q13])), (q1, .inl (X.E 0, 4, .inl (upd (fun _ => 0) 0 (-1)))), (q2, .inl (X.E 0, 4, .inl (fun _ => 0))), (q3, .inl (X.E 0, 256, .inl (fun _ => 0))), (q4, .inl (X.E 0, 64, .inl (fun _ => 0))), (q5, .inl (X.E 0, 112, .inl (fun _ => 0))), (q6, .inl (X.E 0, 2, .inl (fun _ => 0))), (q7, .inl (X.E 0, 8, .inl (fun _ => 0))), (q8, .inl (X.E 2, 64, .inl (fun _ => 0))), (q9, .inl (X.E 0, 256, .inl (fun _ => 0))), (q10, .inl (X.E 0, 256, .inl (fun _ => 0))), (q11, .inl (X.E 0, 16, .inl (fun _ => 0))), (q12, .inl (X.E 0, 625, .inl (fun _ => 0))), (q13, .inl (X.E 1, 64, .inr (.inl (fun _ => 0))))]) rfl dX8_init_122 ?_
  refine at_iinc C13 dX8_init_123 (j := 0) (v := 1) rfl rfl (by decide) (lv' := [(1, .int 1), (0, .ref b)]) rfl ?_
  refine at_goto C13 dX8_init_126 (tgt := 111) (by decide) ?_
  refine at_iload_n C13 dX8_init_111 rfl (j := 0) rfl ?_
  refine at_iconst C13 dX8_init_112 (v := 4) rfl ?_
  refine at_icmp_ge C13 dX8_init_113 (tgt := 129) (by decide) (fun hc => absurd hc (by decide)) (fun _ => ?_)
  refine at_aload_n C13 dX8_init_116 rfl (j := 1) rfl ?_
  refine at_get C13 (K := RX8) (T := TX8) (N := 18) (ci := 7) (v := .ref q1) iwi_X8_init_X8 0 rfl rfl 0 (by decide) (by decide +kernel) rfl dX8_init_117 ?_
  refine at_iload_n C13 dX8_init_120 rfl (j := 0) rfl ?_
  refine at_iconst C13 dX8_init_121 (v := (-1)) rfl ?_
  refine at_iast C13 1 rfl (vp_in_nI (n := 1) (by decide) (by decide)) (ws' := [(b, .inr (7, [.ref q1, .ref q2, .ref q3, .ref q4, .int 0, .ref q5, .ref q6, .int 0, .int 0, .ref q7, .ref q8, .ref q9, .ref q10, .int 0, .int 0, .ref q11, .ref q12, .ref q13])), (q1, .inl (X.E 0, 4, .inl (upd (upd (fun _ => 0) 0 (-1)) 1 (-1)))), (q2, .inl (X.E 0, 4, .inl (fun _ => 0))), (q3, .inl (X.E 0, 256, .inl (fun _ => 0))), (q4, .inl (X.E 0, 64, .inl (fun _ => 0))), (q5, .inl (X.E 0, 112, .inl (fun _ => 0))), (q6, .inl (X.E 0, 2, .inl (fun _ => 0))), (q7, .inl (X.E 0, 8, .inl (fun _ => 0))), (q8, .inl (X.E 2, 64, .inl (fun _ => 0))), (q9, .inl (X.E 0, 256, .inl (fun _ => 0))), (q10, .inl (X.E 0, 256, .inl (fun _ => 0))), (q11, .inl (X.E 0, 16, .inl (fun _ => 0))), (q12, .inl (X.E 0, 625, .inl (fun _ => 0))), (q13, .inl (X.E 1, 64, .inr (.inl (fun _ => 0))))]) rfl dX8_init_122 ?_
  refine at_iinc C13 dX8_init_123 (j := 0) (v := 2) rfl rfl (by decide) (lv' := [(1, .int 2), (0, .ref b)]) rfl ?_
  refine at_goto C13 dX8_init_126 (tgt := 111) (by decide) ?_
  refine at_iload_n C13 dX8_init_111 rfl (j := 0) rfl ?_
  refine at_iconst C13 dX8_init_112 (v := 4) rfl ?_
  refine at_icmp_ge C13 dX8_init_113 (tgt := 129) (by decide) (fun hc => absurd hc (by decide)) (fun _ => ?_)
  refine at_aload_n C13 dX8_init_116 rfl (j := 1) rfl ?_
  refine at_get C13 (K := RX8) (T := TX8) (N := 18) (ci := 7) (v := .ref q1) iwi_X8_init_X8 0 rfl rfl 0 (by decide) (by decide +kernel) rfl dX8_init_117 ?_
  refine at_iload_n C13 dX8_init_120 rfl (j := 0) rfl ?_
  refine at_iconst C13 dX8_init_121 (v := (-1)) rfl ?_
  refine at_iast C13 1 rfl (vp_in_nI (n := 2) (by decide) (by decide)) (ws' := [(b, .inr (7, [.ref q1, .ref q2, .ref q3, .ref q4, .int 0, .ref q5, .ref q6, .int 0, .int 0, .ref q7, .ref q8, .ref q9, .ref q10, .int 0, .int 0, .ref q11, .ref q12, .ref q13])), (q1, .inl (X.E 0, 4, .inl (upd (upd (upd (fun _ => 0) 0 (-1)) 1 (-1)) 2 (-1)))), (q2, .inl (X.E 0, 4, .inl (fun _ => 0))), (q3, .inl (X.E 0, 256, .inl (fun _ => 0))), (q4, .inl (X.E 0, 64, .inl (fun _ => 0))), (q5, .inl (X.E 0, 112, .inl (fun _ => 0))), (q6, .inl (X.E 0, 2, .inl (fun _ => 0))), (q7, .inl (X.E 0, 8, .inl (fun _ => 0))), (q8, .inl (X.E 2, 64, .inl (fun _ => 0))), (q9, .inl (X.E 0, 256, .inl (fun _ => 0))), (q10, .inl (X.E 0, 256, .inl (fun _ => 0))), (q11, .inl (X.E 0, 16, .inl (fun _ => 0))), (q12, .inl (X.E 0, 625, .inl (fun _ => 0))), (q13, .inl (X.E 1, 64, .inr (.inl (fun _ => 0))))]) rfl dX8_init_122 ?_
  refine at_iinc C13 dX8_init_123 (j := 0) (v := 3) rfl rfl (by decide) (lv' := [(1, .int 3), (0, .ref b)]) rfl ?_
  refine at_goto C13 dX8_init_126 (tgt := 111) (by decide) ?_
  refine at_iload_n C13 dX8_init_111 rfl (j := 0) rfl ?_
  refine at_iconst C13 dX8_init_112 (v := 4) rfl ?_
  refine at_icmp_ge C13 dX8_init_113 (tgt := 129) (by decide) (fun hc => absurd hc (by decide)) (fun _ => ?_)
  refine at_aload_n C13 dX8_init_116 rfl (j := 1) rfl ?_
  refine at_get C13 (K := RX8) (T := TX8) (N := 18) (ci := 7) (v := .ref q1) iwi_X8_init_X8 0 rfl rfl 0 (by decide) (by decide +kernel) rfl dX8_init_117 ?_
  refine at_iload_n C13 dX8_init_120 rfl (j := 0) rfl ?_
  refine at_iconst C13 dX8_init_121 (v := (-1)) rfl ?_
  refine at_iast C13 1 rfl (vp_in_nI (n := 3) (by decide) (by decide)) (ws' := [(b, .inr (7, [.ref q1, .ref q2, .ref q3, .ref q4, .int 0, .ref q5, .ref q6, .int 0, .int 0, .ref q7, .ref q8, .ref q9, .ref q10, .int 0, .int 0, .ref q11, .ref q12, .ref q13])), (q1, .inl (X.E 0, 4, .inl (upd (upd (upd (upd (fun _ => 0) 0 (-1)) 1 (-1)) 2 (-1)) 3 (-1)))), (q2, .inl (X.E 0, 4, .inl (fun _ => 0))), (q3, .inl (X.E 0, 256, .inl (fun _ => 0))), (q4, .inl (X.E 0, 64, .inl (fun _ => 0))), (q5, .inl (X.E 0, 112, .inl (fun _ => 0))), (q6, .inl (X.E 0, 2, .inl (fun _ => 0))), (q7, .inl (X.E 0, 8, .inl (fun _ => 0))), (q8, .inl (X.E 2, 64, .inl (fun _ => 0))), (q9, .inl (X.E 0, 256, .inl (fun _ => 0))), (q10, .inl (X.E 0, 256, .inl (fun _ => 0))), (q11, .inl (X.E 0, 16, .inl (fun _ => 0))), (q12, .inl (X.E 0, 625, .inl (fun _ => 0))), (q13, .inl (X.E 1, 64, .inr (.inl (fun _ => 0))))]) rfl dX8_init_122 ?_
  refine at_iinc C13 dX8_init_123 (j := 0) (v := 4) rfl rfl (by decide) (lv' := [(1, .int 4), (0, .ref b)]) rfl ?_
  refine at_goto C13 dX8_init_126 (tgt := 111) (by decide) ?_
  refine at_iload_n C13 dX8_init_111 rfl (j := 0) rfl ?_
  refine at_iconst C13 dX8_init_112 (v := 4) rfl ?_
  refine at_icmp_ge C13 dX8_init_113 (tgt := 129) (by decide) (fun _ => ?_) (fun hc => absurd (by decide) hc)
  exact at_vretX C hE (by omega) (by omega) ⟨fun j => ([b, q1, q2, q3, q4, q5, q6, q7, q8, q9, q10, q11, q12, q13] : List Nat).getD j 0, rfl, rfl⟩ dX8_init_129
end
