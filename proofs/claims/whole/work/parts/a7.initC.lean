/-! ===== the class's constructors (written by mkinit.py) ===== -/
theorem dX0_init_0 : decode cX0_init 0 = .ok (.aload_n 0, 1) := by decide +kernel
theorem dX0_init_1 : decode cX0_init 1 = .ok (.invokespecial 3, 3) := by decide +kernel
theorem dX0_init_4 : decode cX0_init 4 = .ok (.aload_n 0, 1) := by decide +kernel
theorem dX0_init_5 : decode cX0_init 5 = .ok (.bipush 6, 2) := by decide +kernel
theorem dX0_init_7 : decode cX0_init 7 = .ok (.newarray .int, 2) := by decide +kernel
theorem dX0_init_9 : decode cX0_init 9 = .ok (.dup, 1) := by decide +kernel
theorem dX0_init_10 : decode cX0_init 10 = .ok (.iconst 0, 1) := by decide +kernel
theorem dX0_init_11 : decode cX0_init 11 = .ok (.iconst (-1), 1) := by decide +kernel
theorem dX0_init_12 : decode cX0_init 12 = .ok (.iastore, 1) := by decide +kernel
theorem dX0_init_13 : decode cX0_init 13 = .ok (.dup, 1) := by decide +kernel
theorem dX0_init_14 : decode cX0_init 14 = .ok (.iconst 1, 1) := by decide +kernel
theorem dX0_init_15 : decode cX0_init 15 = .ok (.iconst 0, 1) := by decide +kernel
theorem dX0_init_16 : decode cX0_init 16 = .ok (.iastore, 1) := by decide +kernel
theorem dX0_init_17 : decode cX0_init 17 = .ok (.dup, 1) := by decide +kernel
theorem dX0_init_18 : decode cX0_init 18 = .ok (.iconst 2, 1) := by decide +kernel
theorem dX0_init_19 : decode cX0_init 19 = .ok (.iconst 0, 1) := by decide +kernel
theorem dX0_init_20 : decode cX0_init 20 = .ok (.iastore, 1) := by decide +kernel
theorem dX0_init_21 : decode cX0_init 21 = .ok (.dup, 1) := by decide +kernel
theorem dX0_init_22 : decode cX0_init 22 = .ok (.iconst 3, 1) := by decide +kernel
theorem dX0_init_23 : decode cX0_init 23 = .ok (.iconst 0, 1) := by decide +kernel
theorem dX0_init_24 : decode cX0_init 24 = .ok (.iastore, 1) := by decide +kernel
theorem dX0_init_25 : decode cX0_init 25 = .ok (.dup, 1) := by decide +kernel
theorem dX0_init_26 : decode cX0_init 26 = .ok (.iconst 4, 1) := by decide +kernel
theorem dX0_init_27 : decode cX0_init 27 = .ok (.iconst 0, 1) := by decide +kernel
theorem dX0_init_28 : decode cX0_init 28 = .ok (.iastore, 1) := by decide +kernel
theorem dX0_init_29 : decode cX0_init 29 = .ok (.dup, 1) := by decide +kernel
theorem dX0_init_30 : decode cX0_init 30 = .ok (.iconst 5, 1) := by decide +kernel
theorem dX0_init_31 : decode cX0_init 31 = .ok (.iconst 0, 1) := by decide +kernel
theorem dX0_init_32 : decode cX0_init 32 = .ok (.iastore, 1) := by decide +kernel
theorem dX0_init_33 : decode cX0_init 33 = .ok (.putfield 9, 3) := by decide +kernel
theorem dX0_init_36 : decode cX0_init 36 = .ok (.aload_n 0, 1) := by decide +kernel
theorem dX0_init_37 : decode cX0_init 37 = .ok (.bipush 8, 2) := by decide +kernel
theorem dX0_init_39 : decode cX0_init 39 = .ok (.newarray .int, 2) := by decide +kernel
theorem dX0_init_41 : decode cX0_init 41 = .ok (.putfield 15, 3) := by decide +kernel
theorem dX0_init_44 : decode cX0_init 44 = .ok (.aload_n 0, 1) := by decide +kernel
theorem dX0_init_45 : decode cX0_init 45 = .ok (.iconst 0, 1) := by decide +kernel
theorem dX0_init_46 : decode cX0_init 46 = .ok (.putfield 18, 3) := by decide +kernel
theorem dX0_init_49 : decode cX0_init 49 = .ok (.aload_n 0, 1) := by decide +kernel
theorem dX0_init_50 : decode cX0_init 50 = .ok (.bipush 49, 2) := by decide +kernel
theorem dX0_init_52 : decode cX0_init 52 = .ok (.newarray .int, 2) := by decide +kernel
theorem dX0_init_54 : decode cX0_init 54 = .ok (.putfield 22, 3) := by decide +kernel
theorem dX0_init_57 : decode cX0_init 57 = .ok (.aload_n 0, 1) := by decide +kernel
theorem dX0_init_58 : decode cX0_init 58 = .ok (.bipush 49, 2) := by decide +kernel
theorem dX0_init_60 : decode cX0_init 60 = .ok (.newarray .int, 2) := by decide +kernel
theorem dX0_init_62 : decode cX0_init 62 = .ok (.putfield 25, 3) := by decide +kernel
theorem dX0_init_65 : decode cX0_init 65 = .ok (.return_, 1) := by decide +kernel
abbrev mX0_init : zq_M := (cX0_init, RX0, "<init>", none, 1)
theorem dX2_init_0 : decode cX2_init 0 = .ok (.aload_n 0, 1) := by decide +kernel
theorem dX2_init_1 : decode cX2_init 1 = .ok (.invokespecial 3, 3) := by decide +kernel
theorem dX2_init_4 : decode cX2_init 4 = .ok (.aload_n 0, 1) := by decide +kernel
theorem dX2_init_5 : decode cX2_init 5 = .ok (.bipush 48, 2) := by decide +kernel
theorem dX2_init_7 : decode cX2_init 7 = .ok (.newarray .int, 2) := by decide +kernel
theorem dX2_init_9 : decode cX2_init 9 = .ok (.putfield 9, 3) := by decide +kernel
theorem dX2_init_12 : decode cX2_init 12 = .ok (.aload_n 0, 1) := by decide +kernel
theorem dX2_init_13 : decode cX2_init 13 = .ok (.bipush 7, 2) := by decide +kernel
theorem dX2_init_15 : decode cX2_init 15 = .ok (.newarray .int, 2) := by decide +kernel
theorem dX2_init_17 : decode cX2_init 17 = .ok (.putfield 15, 3) := by decide +kernel
theorem dX2_init_20 : decode cX2_init 20 = .ok (.aload_n 0, 1) := by decide +kernel
theorem dX2_init_21 : decode cX2_init 21 = .ok (.bipush 7, 2) := by decide +kernel
theorem dX2_init_23 : decode cX2_init 23 = .ok (.newarray .int, 2) := by decide +kernel
theorem dX2_init_25 : decode cX2_init 25 = .ok (.putfield 18, 3) := by decide +kernel
theorem dX2_init_28 : decode cX2_init 28 = .ok (.aload_n 0, 1) := by decide +kernel
theorem dX2_init_29 : decode cX2_init 29 = .ok (.iconst (-1), 1) := by decide +kernel
theorem dX2_init_30 : decode cX2_init 30 = .ok (.putfield 21, 3) := by decide +kernel
theorem dX2_init_33 : decode cX2_init 33 = .ok (.return_, 1) := by decide +kernel
abbrev mX2_init : zq_M := (cX2_init, RX2, "<init>", none, 1)
theorem dX3_init_0 : decode cX3_init 0 = .ok (.aload_n 0, 1) := by decide +kernel
theorem dX3_init_1 : decode cX3_init 1 = .ok (.invokespecial 3, 3) := by decide +kernel
theorem dX3_init_4 : decode cX3_init 4 = .ok (.aload_n 0, 1) := by decide +kernel
theorem dX3_init_5 : decode cX3_init 5 = .ok (.new 9, 3) := by decide +kernel
theorem dX3_init_8 : decode cX3_init 8 = .ok (.dup, 1) := by decide +kernel
theorem dX3_init_9 : decode cX3_init 9 = .ok (.invokespecial 11, 3) := by decide +kernel
theorem dX3_init_12 : decode cX3_init 12 = .ok (.putfield 12, 3) := by decide +kernel
theorem dX3_init_15 : decode cX3_init 15 = .ok (.aload_n 0, 1) := by decide +kernel
theorem dX3_init_16 : decode cX3_init 16 = .ok (.bipush 8, 2) := by decide +kernel
theorem dX3_init_18 : decode cX3_init 18 = .ok (.newarray .int, 2) := by decide +kernel
theorem dX3_init_20 : decode cX3_init 20 = .ok (.putfield 18, 3) := by decide +kernel
theorem dX3_init_23 : decode cX3_init 23 = .ok (.return_, 1) := by decide +kernel
abbrev mX3_init : zq_M := (cX3_init, RX3, "<init>", none, 1)
theorem dX4_init_0 : decode cX4_init 0 = .ok (.aload_n 0, 1) := by decide +kernel
theorem dX4_init_1 : decode cX4_init 1 = .ok (.invokespecial 3, 3) := by decide +kernel
theorem dX4_init_4 : decode cX4_init 4 = .ok (.aload_n 0, 1) := by decide +kernel
theorem dX4_init_5 : decode cX4_init 5 = .ok (.iconst 0, 1) := by decide +kernel
theorem dX4_init_6 : decode cX4_init 6 = .ok (.putfield 9, 3) := by decide +kernel
theorem dX4_init_9 : decode cX4_init 9 = .ok (.aload_n 0, 1) := by decide +kernel
theorem dX4_init_10 : decode cX4_init 10 = .ok (.bipush 16, 2) := by decide +kernel
theorem dX4_init_12 : decode cX4_init 12 = .ok (.newarray .int, 2) := by decide +kernel
theorem dX4_init_14 : decode cX4_init 14 = .ok (.putfield 15, 3) := by decide +kernel
theorem dX4_init_17 : decode cX4_init 17 = .ok (.return_, 1) := by decide +kernel
abbrev mX4_init : zq_M := (cX4_init, RX4, "<init>", none, 1)
theorem dX5_init_0 : decode cX5_init 0 = .ok (.aload_n 0, 1) := by decide +kernel
theorem dX5_init_1 : decode cX5_init 1 = .ok (.invokespecial 5, 3) := by decide +kernel
theorem dX5_init_4 : decode cX5_init 4 = .ok (.aload_n 0, 1) := by decide +kernel
theorem dX5_init_5 : decode cX5_init 5 = .ok (.sipush 6248, 3) := by decide +kernel
theorem dX5_init_8 : decode cX5_init 8 = .ok (.newarray .int, 2) := by decide +kernel
theorem dX5_init_10 : decode cX5_init 10 = .ok (.putfield 11, 3) := by decide +kernel
theorem dX5_init_13 : decode cX5_init 13 = .ok (.aload_n 0, 1) := by decide +kernel
theorem dX5_init_14 : decode cX5_init 14 = .ok (.sipush 168, 3) := by decide +kernel
theorem dX5_init_17 : decode cX5_init 17 = .ok (.newarray .int, 2) := by decide +kernel
theorem dX5_init_19 : decode cX5_init 19 = .ok (.putfield 15, 3) := by decide +kernel
theorem dX5_init_22 : decode cX5_init 22 = .ok (.return_, 1) := by decide +kernel
abbrev mX5_init : zq_M := (cX5_init, RX5, "<init>", none, 1)
theorem dX8_init_0 : decode cX8_init 0 = .ok (.aload_n 0, 1) := by decide +kernel
theorem dX8_init_1 : decode cX8_init 1 = .ok (.invokespecial 5, 3) := by decide +kernel
theorem dX8_init_4 : decode cX8_init 4 = .ok (.aload_n 0, 1) := by decide +kernel
theorem dX8_init_5 : decode cX8_init 5 = .ok (.sipush 401, 3) := by decide +kernel
theorem dX8_init_8 : decode cX8_init 8 = .ok (.newarray .int, 2) := by decide +kernel
theorem dX8_init_10 : decode cX8_init 10 = .ok (.putfield 11, 3) := by decide +kernel
theorem dX8_init_13 : decode cX8_init 13 = .ok (.aload_n 0, 1) := by decide +kernel
theorem dX8_init_14 : decode cX8_init 14 = .ok (.sipush 401, 3) := by decide +kernel
theorem dX8_init_17 : decode cX8_init 17 = .ok (.newarray .int, 2) := by decide +kernel
theorem dX8_init_19 : decode cX8_init 19 = .ok (.putfield 15, 3) := by decide +kernel
theorem dX8_init_22 : decode cX8_init 22 = .ok (.aload_n 0, 1) := by decide +kernel
theorem dX8_init_23 : decode cX8_init 23 = .ok (.iconst 0, 1) := by decide +kernel
theorem dX8_init_24 : decode cX8_init 24 = .ok (.putfield 18, 3) := by decide +kernel
theorem dX8_init_27 : decode cX8_init 27 = .ok (.aload_n 0, 1) := by decide +kernel
theorem dX8_init_28 : decode cX8_init 28 = .ok (.sipush 3000, 3) := by decide +kernel
theorem dX8_init_31 : decode cX8_init 31 = .ok (.putfield 22, 3) := by decide +kernel
theorem dX8_init_34 : decode cX8_init 34 = .ok (.aload_n 0, 1) := by decide +kernel
theorem dX8_init_35 : decode cX8_init 35 = .ok (.sipush 800, 3) := by decide +kernel
theorem dX8_init_38 : decode cX8_init 38 = .ok (.newarray .int, 2) := by decide +kernel
theorem dX8_init_40 : decode cX8_init 40 = .ok (.putfield 25, 3) := by decide +kernel
theorem dX8_init_43 : decode cX8_init 43 = .ok (.aload_n 0, 1) := by decide +kernel
theorem dX8_init_44 : decode cX8_init 44 = .ok (.iconst 0, 1) := by decide +kernel
theorem dX8_init_45 : decode cX8_init 45 = .ok (.putfield 28, 3) := by decide +kernel
theorem dX8_init_48 : decode cX8_init 48 = .ok (.aload_n 0, 1) := by decide +kernel
theorem dX8_init_49 : decode cX8_init 49 = .ok (.iconst 0, 1) := by decide +kernel
theorem dX8_init_50 : decode cX8_init 50 = .ok (.putfield 31, 3) := by decide +kernel
theorem dX8_init_53 : decode cX8_init 53 = .ok (.aload_n 0, 1) := by decide +kernel
theorem dX8_init_54 : decode cX8_init 54 = .ok (.iconst (-1), 1) := by decide +kernel
theorem dX8_init_55 : decode cX8_init 55 = .ok (.putfield 34, 3) := by decide +kernel
theorem dX8_init_58 : decode cX8_init 58 = .ok (.aload_n 0, 1) := by decide +kernel
theorem dX8_init_59 : decode cX8_init 59 = .ok (.iconst 0, 1) := by decide +kernel
theorem dX8_init_60 : decode cX8_init 60 = .ok (.putfield 37, 3) := by decide +kernel
theorem dX8_init_63 : decode cX8_init 63 = .ok (.return_, 1) := by decide +kernel
abbrev mX8_init : zq_M := (cX8_init, RX8, "<init>", none, 1)
theorem dX9_init_0 : decode cX9_init 0 = .ok (.aload_n 0, 1) := by decide +kernel
theorem dX9_init_1 : decode cX9_init 1 = .ok (.invokespecial 3, 3) := by decide +kernel
theorem dX9_init_4 : decode cX9_init 4 = .ok (.aload_n 0, 1) := by decide +kernel
theorem dX9_init_5 : decode cX9_init 5 = .ok (.bipush 32, 2) := by decide +kernel
theorem dX9_init_7 : decode cX9_init 7 = .ok (.newarray .int, 2) := by decide +kernel
theorem dX9_init_9 : decode cX9_init 9 = .ok (.putfield 9, 3) := by decide +kernel
theorem dX9_init_12 : decode cX9_init 12 = .ok (.return_, 1) := by decide +kernel
abbrev mX9_init : zq_M := (cX9_init, RX9, "<init>", none, 1)
theorem dX11_init_0 : decode cX11_init 0 = .ok (.aload_n 0, 1) := by decide +kernel
theorem dX11_init_1 : decode cX11_init 1 = .ok (.invokespecial 3, 3) := by decide +kernel
theorem dX11_init_4 : decode cX11_init 4 = .ok (.aload_n 0, 1) := by decide +kernel
theorem dX11_init_5 : decode cX11_init 5 = .ok (.new 9, 3) := by decide +kernel
theorem dX11_init_8 : decode cX11_init 8 = .ok (.dup, 1) := by decide +kernel
theorem dX11_init_9 : decode cX11_init 9 = .ok (.invokespecial 11, 3) := by decide +kernel
theorem dX11_init_12 : decode cX11_init 12 = .ok (.putfield 12, 3) := by decide +kernel
theorem dX11_init_15 : decode cX11_init 15 = .ok (.aload_n 0, 1) := by decide +kernel
theorem dX11_init_16 : decode cX11_init 16 = .ok (.iconst 2, 1) := by decide +kernel
theorem dX11_init_17 : decode cX11_init 17 = .ok (.anewarray 9, 3) := by decide +kernel
theorem dX11_init_20 : decode cX11_init 20 = .ok (.putfield 16, 3) := by decide +kernel
theorem dX11_init_23 : decode cX11_init 23 = .ok (.aload_n 0, 1) := by decide +kernel
theorem dX11_init_24 : decode cX11_init 24 = .ok (.new 9, 3) := by decide +kernel
theorem dX11_init_27 : decode cX11_init 27 = .ok (.dup, 1) := by decide +kernel
theorem dX11_init_28 : decode cX11_init 28 = .ok (.invokespecial 11, 3) := by decide +kernel
theorem dX11_init_31 : decode cX11_init 31 = .ok (.putfield 20, 3) := by decide +kernel
theorem dX11_init_34 : decode cX11_init 34 = .ok (.aload_n 0, 1) := by decide +kernel
theorem dX11_init_35 : decode cX11_init 35 = .ok (.new 9, 3) := by decide +kernel
theorem dX11_init_38 : decode cX11_init 38 = .ok (.dup, 1) := by decide +kernel
theorem dX11_init_39 : decode cX11_init 39 = .ok (.invokespecial 11, 3) := by decide +kernel
theorem dX11_init_42 : decode cX11_init 42 = .ok (.putfield 23, 3) := by decide +kernel
theorem dX11_init_45 : decode cX11_init 45 = .ok (.aload_n 0, 1) := by decide +kernel
theorem dX11_init_46 : decode cX11_init 46 = .ok (.new 26, 3) := by decide +kernel
theorem dX11_init_49 : decode cX11_init 49 = .ok (.dup, 1) := by decide +kernel
theorem dX11_init_50 : decode cX11_init 50 = .ok (.invokespecial 28, 3) := by decide +kernel
theorem dX11_init_53 : decode cX11_init 53 = .ok (.putfield 29, 3) := by decide +kernel
theorem dX11_init_56 : decode cX11_init 56 = .ok (.aload_n 0, 1) := by decide +kernel
theorem dX11_init_57 : decode cX11_init 57 = .ok (.new 26, 3) := by decide +kernel
theorem dX11_init_60 : decode cX11_init 60 = .ok (.dup, 1) := by decide +kernel
theorem dX11_init_61 : decode cX11_init 61 = .ok (.invokespecial 28, 3) := by decide +kernel
theorem dX11_init_64 : decode cX11_init 64 = .ok (.putfield 33, 3) := by decide +kernel
theorem dX11_init_67 : decode cX11_init 67 = .ok (.aload_n 0, 1) := by decide +kernel
theorem dX11_init_68 : decode cX11_init 68 = .ok (.sipush 400, 3) := by decide +kernel
theorem dX11_init_71 : decode cX11_init 71 = .ok (.newarray .int, 2) := by decide +kernel
theorem dX11_init_73 : decode cX11_init 73 = .ok (.putfield 36, 3) := by decide +kernel
theorem dX11_init_76 : decode cX11_init 76 = .ok (.aload_n 0, 1) := by decide +kernel
theorem dX11_init_77 : decode cX11_init 77 = .ok (.iconst 0, 1) := by decide +kernel
theorem dX11_init_78 : decode cX11_init 78 = .ok (.putfield 40, 3) := by decide +kernel
theorem dX11_init_81 : decode cX11_init 81 = .ok (.aload_n 0, 1) := by decide +kernel
theorem dX11_init_82 : decode cX11_init 82 = .ok (.new 44, 3) := by decide +kernel
theorem dX11_init_85 : decode cX11_init 85 = .ok (.dup, 1) := by decide +kernel
theorem dX11_init_86 : decode cX11_init 86 = .ok (.invokespecial 46, 3) := by decide +kernel
theorem dX11_init_89 : decode cX11_init 89 = .ok (.putfield 47, 3) := by decide +kernel
theorem dX11_init_92 : decode cX11_init 92 = .ok (.aload_n 0, 1) := by decide +kernel
theorem dX11_init_93 : decode cX11_init 93 = .ok (.new 51, 3) := by decide +kernel
theorem dX11_init_96 : decode cX11_init 96 = .ok (.dup, 1) := by decide +kernel
theorem dX11_init_97 : decode cX11_init 97 = .ok (.invokespecial 53, 3) := by decide +kernel
theorem dX11_init_100 : decode cX11_init 100 = .ok (.putfield 54, 3) := by decide +kernel
theorem dX11_init_103 : decode cX11_init 103 = .ok (.aload_n 0, 1) := by decide +kernel
theorem dX11_init_104 : decode cX11_init 104 = .ok (.new 58, 3) := by decide +kernel
theorem dX11_init_107 : decode cX11_init 107 = .ok (.dup, 1) := by decide +kernel
theorem dX11_init_108 : decode cX11_init 108 = .ok (.invokespecial 60, 3) := by decide +kernel
theorem dX11_init_111 : decode cX11_init 111 = .ok (.putfield 61, 3) := by decide +kernel
theorem dX11_init_114 : decode cX11_init 114 = .ok (.aload_n 0, 1) := by decide +kernel
theorem dX11_init_115 : decode cX11_init 115 = .ok (.new 65, 3) := by decide +kernel
theorem dX11_init_118 : decode cX11_init 118 = .ok (.dup, 1) := by decide +kernel
theorem dX11_init_119 : decode cX11_init 119 = .ok (.invokespecial 67, 3) := by decide +kernel
theorem dX11_init_122 : decode cX11_init 122 = .ok (.putfield 68, 3) := by decide +kernel
theorem dX11_init_125 : decode cX11_init 125 = .ok (.aload_n 0, 1) := by decide +kernel
theorem dX11_init_126 : decode cX11_init 126 = .ok (.new 72, 3) := by decide +kernel
theorem dX11_init_129 : decode cX11_init 129 = .ok (.dup, 1) := by decide +kernel
theorem dX11_init_130 : decode cX11_init 130 = .ok (.invokespecial 74, 3) := by decide +kernel
theorem dX11_init_133 : decode cX11_init 133 = .ok (.putfield 75, 3) := by decide +kernel
theorem dX11_init_136 : decode cX11_init 136 = .ok (.aload_n 0, 1) := by decide +kernel
theorem dX11_init_137 : decode cX11_init 137 = .ok (.bipush 19, 2) := by decide +kernel
theorem dX11_init_139 : decode cX11_init 139 = .ok (.newarray .int, 2) := by decide +kernel
theorem dX11_init_141 : decode cX11_init 141 = .ok (.putfield 79, 3) := by decide +kernel
theorem dX11_init_144 : decode cX11_init 144 = .ok (.aload_n 0, 1) := by decide +kernel
theorem dX11_init_145 : decode cX11_init 145 = .ok (.iconst 5, 1) := by decide +kernel
theorem dX11_init_146 : decode cX11_init 146 = .ok (.newarray .int, 2) := by decide +kernel
theorem dX11_init_148 : decode cX11_init 148 = .ok (.putfield 82, 3) := by decide +kernel
theorem dX11_init_151 : decode cX11_init 151 = .ok (.aload_n 0, 1) := by decide +kernel
theorem dX11_init_152 : decode cX11_init 152 = .ok (.iconst (-1), 1) := by decide +kernel
theorem dX11_init_153 : decode cX11_init 153 = .ok (.putfield 85, 3) := by decide +kernel
theorem dX11_init_156 : decode cX11_init 156 = .ok (.aload_n 0, 1) := by decide +kernel
theorem dX11_init_157 : decode cX11_init 157 = .ok (.iconst (-1), 1) := by decide +kernel
theorem dX11_init_158 : decode cX11_init 158 = .ok (.putfield 88, 3) := by decide +kernel
theorem dX11_init_161 : decode cX11_init 161 = .ok (.aload_n 0, 1) := by decide +kernel
theorem dX11_init_162 : decode cX11_init 162 = .ok (.iconst 0, 1) := by decide +kernel
theorem dX11_init_163 : decode cX11_init 163 = .ok (.putfield 91, 3) := by decide +kernel
theorem dX11_init_166 : decode cX11_init 166 = .ok (.aload_n 0, 1) := by decide +kernel
theorem dX11_init_167 : decode cX11_init 167 = .ok (.iconst 0, 1) := by decide +kernel
theorem dX11_init_168 : decode cX11_init 168 = .ok (.putfield 94, 3) := by decide +kernel
theorem dX11_init_171 : decode cX11_init 171 = .ok (.return_, 1) := by decide +kernel
abbrev mX11_init : zq_M := (cX11_init, RX11, "<init>", none, 1)
/-- an object of class ci at B, behind it its own cells -/
def zqL (f : Nat → zq_E) (ci B : Nat) (fs : List Value) (L : List zq_E) : Nat → zq_E := fun q => if q = B then .inr (ci, fs) else if B < q ∧ q ≤ B + L.length then L.getD (q - B - 1) zq_dead else f q
section ZQL
variable {f : Nat → zq_E} {ci ci2 B B2 q : Nat} {fs fs' fs2 : List Value} {L M : List zq_E} {e e' : zq_E}
theorem zqL_o : zqL f ci B fs L B = .inr (ci, fs) := if_pos rfl
theorem zqL_x (h : q < B ∨ B + L.length < q) : zqL f ci B fs L q = f q := by
  unfold zqL
  rw [if_neg (by omega), if_neg (by omega)]
theorem zqL_i (h : B < q) (h2 : q ≤ B + L.length) : zqL f ci B fs L q = L.getD (q - B - 1) zq_dead := by
  unfold zqL
  rw [if_neg (by omega), if_pos ⟨h, h2⟩]
theorem zqL_p : va_up (zqL f ci B fs L) B (.inr (ci, fs')) = zqL f ci B fs' L := by
  funext q
  by_cases h : q = B
  · rw [h, va_up_self, zqL_o]
  · rw [va_up_ne _ _ h]
    unfold zqL
    rw [if_neg h, if_neg h]
theorem zqL_c (hq : q = B + L.length + 1) : zqL f ci B fs (L ++ [e]) q = e := by
  rw [zqL_i (by omega) (by rw [List.length_append]; show q ≤ B + (L.length + 1); omega), show q - B - 1 = L.length by omega, List.getD_eq_getElem?_getD, List.getElem?_append_right (Nat.le_refl _), Nat.sub_self]
  rfl
theorem zqL_n (hq : q = B + L.length + 1) : va_up (zqL f ci B fs L) q e = zqL f ci B fs (L ++ [e]) := by
  funext k
  by_cases h : k = q
  · rw [h, va_up_self, zqL_c hq]
  · rw [va_up_ne _ _ h]
    by_cases h0 : k = B
    · rw [h0, zqL_o, zqL_o]
    · by_cases h1 : B < k ∧ k ≤ B + L.length
      · rw [zqL_i h1.1 h1.2, zqL_i h1.1 (by rw [List.length_append]; omega), List.getD_eq_getElem?_getD, List.getD_eq_getElem?_getD, List.getElem?_append_left (by omega)]
      · rw [zqL_x (by omega), zqL_x (by rw [List.length_append]; show _ ∨ B + (L.length + 1) < k; omega)]
theorem zqL_u (hq : q = B + L.length + 1) : va_up (zqL f ci B fs (L ++ [e])) q e' = zqL f ci B fs (L ++ [e']) := by
  rw [← zqL_n (e := e) hq, ← zqL_n (e := e') hq]
  funext k
  by_cases h : k = q
  · rw [h, va_up_self, va_up_self]
  · rw [va_up_ne _ _ h, va_up_ne _ _ h, va_up_ne _ _ h]
theorem zqL_0 (h : f B = .inr (ci, fs)) : zqL f ci B fs [] = f := by
  funext k
  by_cases h0 : k = B
  · rw [h0, zqL_o]; exact h.symm
  · exact zqL_x (by show k < B ∨ B + 0 < k; omega)
theorem zqL_s (hq : B2 = B + L.length + 1) : zqL (zqL f ci B fs (L ++ [e])) ci2 B2 fs2 M = zqL f ci B fs (L ++ (.inr (ci2, fs2) :: M)) := by
  have hl1 : (L ++ [e]).length = L.length + 1 := by rw [List.length_append]; rfl
  have hl2 : (L ++ ((.inr (ci2, fs2) : zq_E) :: M)).length = L.length + (M.length + 1) := by rw [List.length_append]; rfl
  funext k
  by_cases h0 : k = B2
  · rw [h0, zqL_o, zqL_i (by omega) (by omega), show B2 - B - 1 = L.length by omega, List.getD_eq_getElem?_getD, List.getElem?_append_right (Nat.le_refl _), Nat.sub_self]
    rfl
  · by_cases h1 : B2 < k ∧ k ≤ B2 + M.length
    · rw [zqL_i h1.1 h1.2, zqL_i (by omega) (by omega), List.getD_eq_getElem?_getD, List.getD_eq_getElem?_getD, List.getElem?_append_right (by omega), show k - B - 1 - L.length = k - B2 - 1 + 1 by omega, List.getElem?_cons_succ]
    · rw [zqL_x (by omega)]
      by_cases h2 : k = B
      · rw [h2, zqL_o, zqL_o]
      · by_cases h3 : B < k ∧ k ≤ B + L.length
        · rw [zqL_i h3.1 (by omega), zqL_i h3.1 (by omega), List.getD_eq_getElem?_getD, List.getD_eq_getElem?_getD, List.getElem?_append_left (by omega), List.getElem?_append_left (by omega)]
        · rw [zqL_x (by omega), zqL_x (by omega)]
end ZQL
def zuL (b : Nat) (i : Nat → Int32) (A : Nat → Nat → Int32) (T : Nat → Option Nat) : List zq_E := [.inl (0, zu_len 1, .inl (A 1)), .inl (0, zu_len 2, .inl (A 2)), .inl (0, zu_len 3, .inl (A 3)), .inl (0, zu_len 4, .inl (A 4)), .inl (0, zu_len 5, .inl (A 5)), .inl (0, zu_len 6, .inl (A 6)), .inl (0, zu_len 7, .inl (A 7)), .inl (0, zu_len 8, .inl (A 8)), .inl (0, zu_len 9, .inl (A 9)), .inl (6, 6, .inr (.inr (.inr (.inr T))))]
theorem zus_L {f : Nat → zq_E} {b : Nat} {i : Nat → Int32} {A : Nat → Nat → Int32} {T : Nat → Option Nat} : zu_set f b i A T = zqL f 7 b (zu_fs i b) (zuL b i A T) := by
  funext k
  by_cases h0 : k = b
  · rw [h0, zus_o, zqL_o]
  · by_cases h1 : k = b + 10
    · rw [h1, zus_t, zqL_i (by omega) (by show b + 10 ≤ b + 10; omega), show b + 10 - b - 1 = 9 by omega]
      rfl
    · by_cases h2 : b < k ∧ k < b + 10
      · obtain ⟨c, rfl⟩ : ∃ c, k = b + c := ⟨k - b, by omega⟩
        rw [zus_a (by omega) (by omega), zqL_i (by omega) (by show b + c ≤ b + 10; omega), show b + c - b - 1 = c - 1 by omega]
        rcases (show c = 1 ∨ c = 2 ∨ c = 3 ∨ c = 4 ∨ c = 5 ∨ c = 6 ∨ c = 7 ∨ c = 8 ∨ c = 9 by omega) with rfl | rfl | rfl | rfl | rfl | rfl | rfl | rfl | rfl <;> rfl
      · rw [zus_x (by omega), zqL_x (by show k < b ∨ b + 10 < k; omega)]
theorem zqL_q {f : Nat → zq_E} {ci B b : Nat} {fs : List Value} {L : List zq_E} {e : zq_E} {i : Nat → Int32} {A : Nat → Nat → Int32} {T : Nat → Option Nat} (hq : b = B + L.length + 1) : zu_set (zqL f ci B fs (L ++ [e])) b i A T = zqL f ci B fs (L ++ (.inr (7, zu_fs i b) :: zuL b i A T)) := by
  rw [zus_L, zqL_s hq]
section ZK32
variable {l : Launch} {G : zq_G} {D n n' b : Nat} {f : Nat → zq_E} {post : Option Value → Nat → (Nat → zq_E) → Prop}

theorem zq_i0 : Cond.instantiable RX0 5 ∈ zq_ws := zq_in (zq_t1 (List.mem_of_getElem? (i := 174) rfl)) rfl
theorem zq_n0 : Cond.initialized RX0 ∈ zq_ws := zq_in (zq_t1 (List.mem_of_getElem? (i := 7) rfl)) rfl
theorem zq_vo_0 : zq_ws.all (zq_vo yX0_init) = true := by decide +kernel
theorem zq_i2 : Cond.instantiable RX2 4 ∈ zq_ws := zq_in (zq_t1 (List.mem_of_getElem? (i := 209) rfl)) rfl
theorem zq_n2 : Cond.initialized RX2 ∈ zq_ws := zq_in (zq_t1 (List.mem_of_getElem? (i := 9) rfl)) rfl
theorem zq_vo_2 : zq_ws.all (zq_vo yX2_init) = true := by decide +kernel
theorem zq_i3 : Cond.instantiable RX3 2 ∈ zq_ws := zq_in (zq_t1 (List.mem_of_getElem? (i := 150) rfl)) rfl
theorem zq_n3 : Cond.initialized RX3 ∈ zq_ws := zq_in (zq_t1 (List.mem_of_getElem? (i := 5) rfl)) rfl
theorem zq_vo_3 : zq_ws.all (zq_vo yX3_init) = true := by decide +kernel
theorem zq_i4 : Cond.instantiable RX4 2 ∈ zq_ws := zq_in (zq_t1 (List.mem_of_getElem? (i := 102) rfl)) rfl
theorem zq_n4 : Cond.initialized RX4 ∈ zq_ws := zq_in (zq_t1 (List.mem_of_getElem? (i := 3) rfl)) rfl
theorem zq_vo_4 : zq_ws.all (zq_vo yX4_init) = true := by decide +kernel
theorem zq_i5 : Cond.instantiable RX5 2 ∈ zq_ws := zq_in (zq_t1 (List.mem_of_getElem? (i := 196) rfl)) rfl
theorem zq_n5 : Cond.initialized RX5 ∈ zq_ws := zq_in (zq_t1 (List.mem_of_getElem? (i := 8) rfl)) rfl
theorem zq_vo_5 : zq_ws.all (zq_vo yX5_init) = true := by decide +kernel
theorem zq_i8 : Cond.instantiable RX8 9 ∈ zq_ws := zq_in (zq_t1 (List.mem_of_getElem? (i := 116) rfl)) rfl
theorem zq_n8 : Cond.initialized RX8 ∈ zq_ws := zq_in (zq_t1 (List.mem_of_getElem? (i := 4) rfl)) rfl
theorem zq_vo_8 : zq_ws.all (zq_vo yX8_init) = true := by decide +kernel
theorem zq_i9 : Cond.instantiable RX9 1 ∈ zq_ws := zq_in (zq_t1 (List.mem_of_getElem? (i := 156) rfl)) rfl
theorem zq_n9 : Cond.initialized RX9 ∈ zq_ws := zq_in (zq_t1 (List.mem_of_getElem? (i := 6) rfl)) rfl
theorem zq_vo_9 : zq_ws.all (zq_vo yX9_init) = true := by decide +kernel
theorem zc_i4 {B : Nat} (hD : 1 ≤ D) (hn : n + 8 = B + 1) (hB : f B = .inr (4, [.int 0, .null]))
    (hp : post none (n + 1) (zqL f 4 B [.int (nI 0), .ref (B + 1)] [.inl (0, 16, .inl (fun _ => 0))])) : zq_Runs l G D 1 16 yX4_init [.ref B] n f post := by
  rw [← zqL_0 hB]
  refine zq_enter (cc := cX4_init) (nL := 1) (ret := none) cw_X4_init (by decide) rfl (Nat.le_of_ble_eq_true rfl) ?_
  refine at_aload_n dX4_init_0 rfl ?_
  refine at_objInit dX4_init_1 oi_X4_3 zq_oi zq_oc (Nat.le_of_ble_eq_true rfl) ⟨by show 1 ≤ D; omega, by show 20 ≤ 60 * D; omega⟩ ?_
  refine at_aload_n dX4_init_4 rfl ?_
  refine at_iconst dX4_init_5 (v := nI 0) (by decide) ?_
  refine at_put dX4_init_6 (pl_X4_9 _) zqL_o (Nat.le_of_ble_eq_true rfl) (fun _ => rfl) (fun _ => rfl) ?_
  rw [zqL_p]
  refine at_aload_n dX4_init_9 rfl ?_
  refine at_bipush dX4_init_10 (v := nI 16) (by decide) ?_
  refine at_newa (t := 0) (N := 16) (by decide) dX4_init_12 zq_ai (by decide) (by decide) (by decide) (by show 0 + 1 ≤ 1; omega) (by show 0 + 16 ≤ 16; omega) ?_
  rw [zqL_n (show n + 8 = B + 0 + 1 by omega), show n + 8 = B + 1 by omega]
  refine at_put dX4_init_14 pl_X4_15 zqL_o (Nat.le_of_ble_eq_true rfl) (fun _ => rfl) (fun _ => rfl) ?_
  rw [zqL_p]
  refine at_vret dX4_init_17 rfl (by show 1 ≤ 1; omega) (by show 16 ≤ 16; omega) ?_
  exact hp
theorem zc_i9 {B : Nat} (hD : 1 ≤ D) (hn : n + 8 = B + 1) (hB : f B = .inr (9, [.null]))
    (hp : post none (n + 1) (zqL f 9 B [.ref (B + 1)] [.inl (0, 32, .inl (fun _ => 0))])) : zq_Runs l G D 1 32 yX9_init [.ref B] n f post := by
  rw [← zqL_0 hB]
  refine zq_enter (cc := cX9_init) (nL := 1) (ret := none) cw_X9_init (by decide) rfl (Nat.le_of_ble_eq_true rfl) ?_
  refine at_aload_n dX9_init_0 rfl ?_
  refine at_objInit dX9_init_1 oi_X9_3 zq_oi zq_oc (Nat.le_of_ble_eq_true rfl) ⟨by show 1 ≤ D; omega, by show 20 ≤ 60 * D; omega⟩ ?_
  refine at_aload_n dX9_init_4 rfl ?_
  refine at_bipush dX9_init_5 (v := nI 32) (by decide) ?_
  refine at_newa (t := 0) (N := 32) (by decide) dX9_init_7 zq_ai (by decide) (by decide) (by decide) (by show 0 + 1 ≤ 1; omega) (by show 0 + 32 ≤ 32; omega) ?_
  rw [zqL_n (show n + 8 = B + 0 + 1 by omega), show n + 8 = B + 1 by omega]
  refine at_put dX9_init_9 pl_X9_9 zqL_o (Nat.le_of_ble_eq_true rfl) (fun _ => rfl) (fun _ => rfl) ?_
  rw [zqL_p]
  refine at_vret dX9_init_12 rfl (by show 1 ≤ 1; omega) (by show 32 ≤ 32; omega) ?_
  exact hp
theorem zc_i5 {B : Nat} (hD : 1 ≤ D) (hn : n + 8 = B + 1) (hB : f B = .inr (5, [.null, .null]))
    (hp : post none (n + 2) (zqL f 5 B [.ref (B + 1), .ref (B + 2)] [.inl (0, 6248, .inl (fun _ => 0)), .inl (0, 168, .inl (fun _ => 0))])) : zq_Runs l G D 2 6416 yX5_init [.ref B] n f post := by
  rw [← zqL_0 hB]
  refine zq_enter (cc := cX5_init) (nL := 1) (ret := none) cw_X5_init (by decide) rfl (Nat.le_of_ble_eq_true rfl) ?_
  refine at_aload_n dX5_init_0 rfl ?_
  refine at_objInit dX5_init_1 oi_X5_5 zq_oi zq_oc (Nat.le_of_ble_eq_true rfl) ⟨by show 1 ≤ D; omega, by show 20 ≤ 60 * D; omega⟩ ?_
  refine at_aload_n dX5_init_4 rfl ?_
  refine at_sipush dX5_init_5 (v := nI 6248) (by decide) ?_
  refine at_newa (t := 0) (N := 6248) (by decide) dX5_init_8 zq_ai (by decide) (by decide) (by decide) (by show 0 + 1 ≤ 2; omega) (by show 0 + 6248 ≤ 6416; omega) ?_
  rw [zqL_n (show n + 8 = B + 0 + 1 by omega), show n + 8 = B + 1 by omega]
  refine at_put dX5_init_10 pl_X5_11 zqL_o (Nat.le_of_ble_eq_true rfl) (fun _ => rfl) (fun _ => rfl) ?_
  rw [zqL_p]
  refine at_aload_n dX5_init_13 rfl ?_
  refine at_sipush dX5_init_14 (v := nI 168) (by decide) ?_
  refine at_newa (t := 0) (N := 168) (by decide) dX5_init_17 zq_ai (by decide) (by decide) (by decide) (by show 1 + 1 ≤ 2; omega) (by show 6248 + 168 ≤ 6416; omega) ?_
  rw [zqL_n (show n + 1 + 8 = B + 1 + 1 by omega), show n + 1 + 8 = B + 2 by omega]
  rw [show n + 1 + 1 = n + 2 from rfl]
  refine at_put dX5_init_19 pl_X5_15 zqL_o (Nat.le_of_ble_eq_true rfl) (fun _ => rfl) (fun _ => rfl) ?_
  rw [zqL_p]
  refine at_vret dX5_init_22 rfl (by show 2 ≤ 2; omega) (by show 6416 ≤ 6416; omega) ?_
  exact hp
theorem zc_i2 {B : Nat} (hD : 1 ≤ D) (hn : n + 8 = B + 1) (hB : f B = .inr (2, [.null, .null, .null, .int 0]))
    (hp : post none (n + 3) (zqL f 2 B [.ref (B + 1), .ref (B + 2), .ref (B + 3), .int (-1)] [.inl (0, 48, .inl (fun _ => 0)), .inl (0, 7, .inl (fun _ => 0)), .inl (0, 7, .inl (fun _ => 0))])) : zq_Runs l G D 3 62 yX2_init [.ref B] n f post := by
  rw [← zqL_0 hB]
  refine zq_enter (cc := cX2_init) (nL := 1) (ret := none) cw_X2_init (by decide) rfl (Nat.le_of_ble_eq_true rfl) ?_
  refine at_aload_n dX2_init_0 rfl ?_
  refine at_objInit dX2_init_1 oi_X2_3 zq_oi zq_oc (Nat.le_of_ble_eq_true rfl) ⟨by show 1 ≤ D; omega, by show 20 ≤ 60 * D; omega⟩ ?_
  refine at_aload_n dX2_init_4 rfl ?_
  refine at_bipush dX2_init_5 (v := nI 48) (by decide) ?_
  refine at_newa (t := 0) (N := 48) (by decide) dX2_init_7 zq_ai (by decide) (by decide) (by decide) (by show 0 + 1 ≤ 3; omega) (by show 0 + 48 ≤ 62; omega) ?_
  rw [zqL_n (show n + 8 = B + 0 + 1 by omega), show n + 8 = B + 1 by omega]
  refine at_put dX2_init_9 pl_X2_9 zqL_o (Nat.le_of_ble_eq_true rfl) (fun _ => rfl) (fun _ => rfl) ?_
  rw [zqL_p]
  refine at_aload_n dX2_init_12 rfl ?_
  refine at_bipush dX2_init_13 (v := nI 7) (by decide) ?_
  refine at_newa (t := 0) (N := 7) (by decide) dX2_init_15 zq_ai (by decide) (by decide) (by decide) (by show 1 + 1 ≤ 3; omega) (by show 48 + 7 ≤ 62; omega) ?_
  rw [zqL_n (show n + 1 + 8 = B + 1 + 1 by omega), show n + 1 + 8 = B + 2 by omega]
  rw [show n + 1 + 1 = n + 2 from rfl]
  refine at_put dX2_init_17 pl_X2_15 zqL_o (Nat.le_of_ble_eq_true rfl) (fun _ => rfl) (fun _ => rfl) ?_
  rw [zqL_p]
  refine at_aload_n dX2_init_20 rfl ?_
  refine at_bipush dX2_init_21 (v := nI 7) (by decide) ?_
  refine at_newa (t := 0) (N := 7) (by decide) dX2_init_23 zq_ai (by decide) (by decide) (by decide) (by show 2 + 1 ≤ 3; omega) (by show 55 + 7 ≤ 62; omega) ?_
  rw [zqL_n (show n + 2 + 8 = B + 2 + 1 by omega), show n + 2 + 8 = B + 3 by omega]
  rw [show n + 2 + 1 = n + 3 from rfl]
  refine at_put dX2_init_25 pl_X2_18 zqL_o (Nat.le_of_ble_eq_true rfl) (fun _ => rfl) (fun _ => rfl) ?_
  rw [zqL_p]
  refine at_aload_n dX2_init_28 rfl ?_
  refine at_iconst dX2_init_29 (v := -1) rfl ?_
  refine at_put dX2_init_30 (pl_X2_21 _) zqL_o (Nat.le_of_ble_eq_true rfl) (fun _ => rfl) (fun _ => rfl) ?_
  rw [zqL_p]
  refine at_vret dX2_init_33 rfl (by show 3 ≤ 3; omega) (by show 62 ≤ 62; omega) ?_
  exact hp
theorem zc_i0 {B : Nat} (hD : 1 ≤ D) (hn : n + 8 = B + 1) (hB : f B = .inr (0, [.null, .null, .int 0, .null, .null]))
    (hp : post none (n + 4) (zqL f 0 B [.ref (B + 1), .ref (B + 2), .int (nI 0), .ref (B + 3), .ref (B + 4)] [.inl (0, 6, .inl (upd (upd (upd (upd (upd (upd (fun _ => 0) 0 (-1)) 1 (nI 0)) 2 (nI 0)) 3 (nI 0)) 4 (nI 0)) 5 (nI 0))), .inl (0, 8, .inl (fun _ => 0)), .inl (0, 49, .inl (fun _ => 0)), .inl (0, 49, .inl (fun _ => 0))])) : zq_Runs l G D 4 112 yX0_init [.ref B] n f post := by
  rw [← zqL_0 hB]
  refine zq_enter (cc := cX0_init) (nL := 1) (ret := none) cw_X0_init (by decide) rfl (Nat.le_of_ble_eq_true rfl) ?_
  refine at_aload_n dX0_init_0 rfl ?_
  refine at_objInit dX0_init_1 oi_X0_3 zq_oi zq_oc (Nat.le_of_ble_eq_true rfl) ⟨by show 1 ≤ D; omega, by show 20 ≤ 60 * D; omega⟩ ?_
  refine at_aload_n dX0_init_4 rfl ?_
  refine at_bipush dX0_init_5 (v := nI 6) (by decide) ?_
  refine at_newa (t := 0) (N := 6) (by decide) dX0_init_7 zq_ai (by decide) (by decide) (by decide) (by show 0 + 1 ≤ 4; omega) (by show 0 + 6 ≤ 112; omega) ?_
  rw [zqL_n (show n + 8 = B + 0 + 1 by omega), show n + 8 = B + 1 by omega]
  refine at_dup dX0_init_9 rfl ?_
  refine at_iconst dX0_init_10 (v := nI 0) (by decide) ?_
  refine at_iconst dX0_init_11 (v := -1) rfl ?_
  refine at_iastN dX0_init_12 (zqL_c (show B + 1 = B + 0 + 1 from rfl)) (by decide) (j := 0) rfl (by decide) ?_
  rw [zqL_u (show B + 1 = B + 0 + 1 from rfl)]
  refine at_dup dX0_init_13 rfl ?_
  refine at_iconst dX0_init_14 (v := nI 1) (by decide) ?_
  refine at_iconst dX0_init_15 (v := nI 0) (by decide) ?_
  refine at_iastN dX0_init_16 (zqL_c (show B + 1 = B + 0 + 1 from rfl)) (by decide) (j := 1) rfl (by decide) ?_
  rw [zqL_u (show B + 1 = B + 0 + 1 from rfl)]
  refine at_dup dX0_init_17 rfl ?_
  refine at_iconst dX0_init_18 (v := nI 2) (by decide) ?_
  refine at_iconst dX0_init_19 (v := nI 0) (by decide) ?_
  refine at_iastN dX0_init_20 (zqL_c (show B + 1 = B + 0 + 1 from rfl)) (by decide) (j := 2) rfl (by decide) ?_
  rw [zqL_u (show B + 1 = B + 0 + 1 from rfl)]
  refine at_dup dX0_init_21 rfl ?_
  refine at_iconst dX0_init_22 (v := nI 3) (by decide) ?_
  refine at_iconst dX0_init_23 (v := nI 0) (by decide) ?_
  refine at_iastN dX0_init_24 (zqL_c (show B + 1 = B + 0 + 1 from rfl)) (by decide) (j := 3) rfl (by decide) ?_
  rw [zqL_u (show B + 1 = B + 0 + 1 from rfl)]
  refine at_dup dX0_init_25 rfl ?_
  refine at_iconst dX0_init_26 (v := nI 4) (by decide) ?_
  refine at_iconst dX0_init_27 (v := nI 0) (by decide) ?_
  refine at_iastN dX0_init_28 (zqL_c (show B + 1 = B + 0 + 1 from rfl)) (by decide) (j := 4) rfl (by decide) ?_
  rw [zqL_u (show B + 1 = B + 0 + 1 from rfl)]
  refine at_dup dX0_init_29 rfl ?_
  refine at_iconst dX0_init_30 (v := nI 5) (by decide) ?_
  refine at_iconst dX0_init_31 (v := nI 0) (by decide) ?_
  refine at_iastN dX0_init_32 (zqL_c (show B + 1 = B + 0 + 1 from rfl)) (by decide) (j := 5) rfl (by decide) ?_
  rw [zqL_u (show B + 1 = B + 0 + 1 from rfl)]
  refine at_put dX0_init_33 pl_X0_9 zqL_o (Nat.le_of_ble_eq_true rfl) (fun _ => rfl) (fun _ => rfl) ?_
  rw [zqL_p]
  refine at_aload_n dX0_init_36 rfl ?_
  refine at_bipush dX0_init_37 (v := nI 8) (by decide) ?_
  refine at_newa (t := 0) (N := 8) (by decide) dX0_init_39 zq_ai (by decide) (by decide) (by decide) (by show 1 + 1 ≤ 4; omega) (by show 6 + 8 ≤ 112; omega) ?_
  rw [zqL_n (show n + 1 + 8 = B + 1 + 1 by omega), show n + 1 + 8 = B + 2 by omega]
  rw [show n + 1 + 1 = n + 2 from rfl]
  refine at_put dX0_init_41 pl_X0_15 zqL_o (Nat.le_of_ble_eq_true rfl) (fun _ => rfl) (fun _ => rfl) ?_
  rw [zqL_p]
  refine at_aload_n dX0_init_44 rfl ?_
  refine at_iconst dX0_init_45 (v := nI 0) (by decide) ?_
  refine at_put dX0_init_46 (pl_X0_18 _) zqL_o (Nat.le_of_ble_eq_true rfl) (fun _ => rfl) (fun _ => rfl) ?_
  rw [zqL_p]
  refine at_aload_n dX0_init_49 rfl ?_
  refine at_bipush dX0_init_50 (v := nI 49) (by decide) ?_
  refine at_newa (t := 0) (N := 49) (by decide) dX0_init_52 zq_ai (by decide) (by decide) (by decide) (by show 2 + 1 ≤ 4; omega) (by show 14 + 49 ≤ 112; omega) ?_
  rw [zqL_n (show n + 2 + 8 = B + 2 + 1 by omega), show n + 2 + 8 = B + 3 by omega]
  rw [show n + 2 + 1 = n + 3 from rfl]
  refine at_put dX0_init_54 pl_X0_22 zqL_o (Nat.le_of_ble_eq_true rfl) (fun _ => rfl) (fun _ => rfl) ?_
  rw [zqL_p]
  refine at_aload_n dX0_init_57 rfl ?_
  refine at_bipush dX0_init_58 (v := nI 49) (by decide) ?_
  refine at_newa (t := 0) (N := 49) (by decide) dX0_init_60 zq_ai (by decide) (by decide) (by decide) (by show 3 + 1 ≤ 4; omega) (by show 63 + 49 ≤ 112; omega) ?_
  rw [zqL_n (show n + 3 + 8 = B + 3 + 1 by omega), show n + 3 + 8 = B + 4 by omega]
  rw [show n + 3 + 1 = n + 4 from rfl]
  refine at_put dX0_init_62 pl_X0_25 zqL_o (Nat.le_of_ble_eq_true rfl) (fun _ => rfl) (fun _ => rfl) ?_
  rw [zqL_p]
  refine at_vret dX0_init_65 rfl (by show 4 ≤ 4; omega) (by show 112 ≤ 112; omega) ?_
  exact hp
theorem zc_i8 {B : Nat} (hD : 1 ≤ D) (hn : n + 8 = B + 1) (hB : f B = .inr (8, [.null, .null, .int 0, .int 0, .null, .int 0, .int 0, .int 0, .int 0]))
    (hp : post none (n + 3) (zqL f 8 B [.ref (B + 1), .ref (B + 2), .int (nI 0), .int (nI 3000), .ref (B + 3), .int (nI 0), .int (nI 0), .int (-1), .int (nI 0)] [.inl (0, 401, .inl (fun _ => 0)), .inl (0, 401, .inl (fun _ => 0)), .inl (0, 800, .inl (fun _ => 0))])) : zq_Runs l G D 3 1602 yX8_init [.ref B] n f post := by
  rw [← zqL_0 hB]
  refine zq_enter (cc := cX8_init) (nL := 1) (ret := none) cw_X8_init (by decide) rfl (Nat.le_of_ble_eq_true rfl) ?_
  refine at_aload_n dX8_init_0 rfl ?_
  refine at_objInit dX8_init_1 oi_X8_5 zq_oi zq_oc (Nat.le_of_ble_eq_true rfl) ⟨by show 1 ≤ D; omega, by show 20 ≤ 60 * D; omega⟩ ?_
  refine at_aload_n dX8_init_4 rfl ?_
  refine at_sipush dX8_init_5 (v := nI 401) (by decide) ?_
  refine at_newa (t := 0) (N := 401) (by decide) dX8_init_8 zq_ai (by decide) (by decide) (by decide) (by show 0 + 1 ≤ 3; omega) (by show 0 + 401 ≤ 1602; omega) ?_
  rw [zqL_n (show n + 8 = B + 0 + 1 by omega), show n + 8 = B + 1 by omega]
  refine at_put dX8_init_10 pl_X8_11 zqL_o (Nat.le_of_ble_eq_true rfl) (fun _ => rfl) (fun _ => rfl) ?_
  rw [zqL_p]
  refine at_aload_n dX8_init_13 rfl ?_
  refine at_sipush dX8_init_14 (v := nI 401) (by decide) ?_
  refine at_newa (t := 0) (N := 401) (by decide) dX8_init_17 zq_ai (by decide) (by decide) (by decide) (by show 1 + 1 ≤ 3; omega) (by show 401 + 401 ≤ 1602; omega) ?_
  rw [zqL_n (show n + 1 + 8 = B + 1 + 1 by omega), show n + 1 + 8 = B + 2 by omega]
  rw [show n + 1 + 1 = n + 2 from rfl]
  refine at_put dX8_init_19 pl_X8_15 zqL_o (Nat.le_of_ble_eq_true rfl) (fun _ => rfl) (fun _ => rfl) ?_
  rw [zqL_p]
  refine at_aload_n dX8_init_22 rfl ?_
  refine at_iconst dX8_init_23 (v := nI 0) (by decide) ?_
  refine at_put dX8_init_24 (pl_X8_18 _) zqL_o (Nat.le_of_ble_eq_true rfl) (fun _ => rfl) (fun _ => rfl) ?_
  rw [zqL_p]
  refine at_aload_n dX8_init_27 rfl ?_
  refine at_sipush dX8_init_28 (v := nI 3000) (by decide) ?_
  refine at_put dX8_init_31 (pl_X8_22 _) zqL_o (Nat.le_of_ble_eq_true rfl) (fun _ => rfl) (fun _ => rfl) ?_
  rw [zqL_p]
  refine at_aload_n dX8_init_34 rfl ?_
  refine at_sipush dX8_init_35 (v := nI 800) (by decide) ?_
  refine at_newa (t := 0) (N := 800) (by decide) dX8_init_38 zq_ai (by decide) (by decide) (by decide) (by show 2 + 1 ≤ 3; omega) (by show 802 + 800 ≤ 1602; omega) ?_
  rw [zqL_n (show n + 2 + 8 = B + 2 + 1 by omega), show n + 2 + 8 = B + 3 by omega]
  rw [show n + 2 + 1 = n + 3 from rfl]
  refine at_put dX8_init_40 pl_X8_25 zqL_o (Nat.le_of_ble_eq_true rfl) (fun _ => rfl) (fun _ => rfl) ?_
  rw [zqL_p]
  refine at_aload_n dX8_init_43 rfl ?_
  refine at_iconst dX8_init_44 (v := nI 0) (by decide) ?_
  refine at_put dX8_init_45 (pl_X8_28 _) zqL_o (Nat.le_of_ble_eq_true rfl) (fun _ => rfl) (fun _ => rfl) ?_
  rw [zqL_p]
  refine at_aload_n dX8_init_48 rfl ?_
  refine at_iconst dX8_init_49 (v := nI 0) (by decide) ?_
  refine at_put dX8_init_50 (pl_X8_31 _) zqL_o (Nat.le_of_ble_eq_true rfl) (fun _ => rfl) (fun _ => rfl) ?_
  rw [zqL_p]
  refine at_aload_n dX8_init_53 rfl ?_
  refine at_iconst dX8_init_54 (v := -1) rfl ?_
  refine at_put dX8_init_55 (pl_X8_34 _) zqL_o (Nat.le_of_ble_eq_true rfl) (fun _ => rfl) (fun _ => rfl) ?_
  rw [zqL_p]
  refine at_aload_n dX8_init_58 rfl ?_
  refine at_iconst dX8_init_59 (v := nI 0) (by decide) ?_
  refine at_put dX8_init_60 (pl_X8_37 _) zqL_o (Nat.le_of_ble_eq_true rfl) (fun _ => rfl) (fun _ => rfl) ?_
  rw [zqL_p]
  refine at_vret dX8_init_63 rfl (by show 3 ≤ 3; omega) (by show 1602 ≤ 1602; omega) ?_
  exact hp
theorem zc_i3 {B : Nat} (hD : 2 ≤ D) (hn : n + 8 = B + 1) (hB : f B = .inr (3, [.null, .null]))
    (hp : post none (n + 3) (zqL f 3 B [.ref (B + 1), .ref (B + 3)] [.inr (9, [.ref (B + 2)]), .inl (0, 32, .inl (fun _ => 0)), .inl (0, 8, .inl (fun _ => 0))])) : zq_Runs l G D 3 41 yX3_init [.ref B] n f post := by
  rw [← zqL_0 hB]
  refine zq_enter (cc := cX3_init) (nL := 1) (ret := none) cw_X3_init (by decide) rfl (Nat.le_of_ble_eq_true rfl) ?_
  refine at_aload_n dX3_init_0 rfl ?_
  refine at_objInit dX3_init_1 oi_X3_3 zq_oi zq_oc (Nat.le_of_ble_eq_true rfl) ⟨by show 1 ≤ D; omega, by show 20 ≤ 60 * D; omega⟩ ?_
  refine at_aload_n dX3_init_4 rfl ?_
  refine at_new (ci := 9) (T := TX9) (N := 1) (fs := [.null]) dX3_init_5 rfl cl_X3_9 zq_i9 zq_n9 (fun G j hj => ?_) (by show 0 + 1 ≤ 3; omega) (by show 0 + 1 ≤ 41; omega) ?_
  · rcases (show j = 0 by omega) with rfl <;> rfl
  rw [zqL_n (show n + 8 = B + 0 + 1 by omega)]
  rw [show n + 8 = B + 1 by omega]
  refine at_dup dX3_init_8 rfl ?_
  refine at_callC (d := D - 1) [] dX3_init_9 mc_X3_11 rfl (Nat.le_of_ble_eq_true rfl) ⟨by show D - 1 + 1 ≤ D; omega, by show 60 * (D - 1) + 59 ≤ 60 * D; omega, by show 1 + 1 ≤ 3; omega, by show 1 + 32 ≤ 41; omega⟩ (zq_vo_ret zq_vo_9) ?_
  refine zc_i9 (B := B + 1) (by omega) (by show n + 1 + 8 = B + 1 + 1; omega) (zqL_c (by rfl)) ?_
  rw [zqL_s (show B + 1 = B + 0 + 1 from rfl)]
  rw [show n + 1 + 1 = n + 2 from rfl]
  refine at_put dX3_init_12 pl_X3_12 zqL_o (Nat.le_of_ble_eq_true rfl) (fun _ => rfl) (fun _ => rfl) ?_
  rw [zqL_p]
  refine at_aload_n dX3_init_15 rfl ?_
  refine at_bipush dX3_init_16 (v := nI 8) (by decide) ?_
  refine at_newa (t := 0) (N := 8) (by decide) dX3_init_18 zq_ai (by decide) (by decide) (by decide) (by show 2 + 1 ≤ 3; omega) (by show 33 + 8 ≤ 41; omega) ?_
  rw [zqL_n (show n + 2 + 8 = B + 2 + 1 by omega), show n + 2 + 8 = B + 3 by omega]
  rw [show n + 2 + 1 = n + 3 from rfl]
  refine at_put dX3_init_20 pl_X3_18 zqL_o (Nat.le_of_ble_eq_true rfl) (fun _ => rfl) (fun _ => rfl) ?_
  rw [zqL_p]
  refine at_vret dX3_init_23 rfl (by show 3 ≤ 3; omega) (by show 41 ≤ 41; omega) ?_
  exact hp
end ZK32

