/-! ===== the class: deeds ===== -/
theorem dX11_strokeNow_0 : decode cX11_strokeNow 0 = .ok (.iload_n 2, 1) := by decide +kernel
theorem dX11_strokeNow_1 : decode cX11_strokeNow 1 = .ok (.invokestatic 144, 3) := by decide +kernel
theorem dX11_strokeNow_4 : decode cX11_strokeNow 4 = .ok (.ifCond .eq 10, 3) := by decide +kernel
theorem dX11_strokeNow_7 : decode cX11_strokeNow 7 = .ok (.iload_n 3, 1) := by decide +kernel
theorem dX11_strokeNow_8 : decode cX11_strokeNow 8 = .ok (.invokestatic 147, 3) := by decide +kernel
theorem dX11_strokeNow_11 : decode cX11_strokeNow 11 = .ok (.ifCond .ne 5, 3) := by decide +kernel
theorem dX11_strokeNow_14 : decode cX11_strokeNow 14 = .ok (.iconst (-1), 1) := by decide +kernel
theorem dX11_strokeNow_15 : decode cX11_strokeNow 15 = .ok (.ireturn, 1) := by decide +kernel
theorem dX11_strokeNow_16 : decode cX11_strokeNow 16 = .ok (.aload_n 0, 1) := by decide +kernel
theorem dX11_strokeNow_17 : decode cX11_strokeNow 17 = .ok (.getfield 12, 3) := by decide +kernel
theorem dX11_strokeNow_20 : decode cX11_strokeNow 20 = .ok (.iload_n 1, 1) := by decide +kernel
theorem dX11_strokeNow_21 : decode cX11_strokeNow 21 = .ok (.invokevirtual 120, 3) := by decide +kernel
theorem dX11_strokeNow_24 : decode cX11_strokeNow 24 = .ok (.ifCond .ne 6, 3) := by decide +kernel
theorem dX11_strokeNow_27 : decode cX11_strokeNow 27 = .ok (.bipush (-2), 2) := by decide +kernel
theorem dX11_strokeNow_29 : decode cX11_strokeNow 29 = .ok (.ireturn, 1) := by decide +kernel
theorem dX11_strokeNow_30 : decode cX11_strokeNow 30 = .ok (.aload_n 0, 1) := by decide +kernel
theorem dX11_strokeNow_31 : decode cX11_strokeNow 31 = .ok (.getfield 12, 3) := by decide +kernel
theorem dX11_strokeNow_34 : decode cX11_strokeNow 34 = .ok (.getfield 123, 3) := by decide +kernel
theorem dX11_strokeNow_37 : decode cX11_strokeNow 37 = .ok (.iload_n 1, 1) := by decide +kernel
theorem dX11_strokeNow_38 : decode cX11_strokeNow 38 = .ok (.iaload, 1) := by decide +kernel
theorem dX11_strokeNow_39 : decode cX11_strokeNow 39 = .ok (.iload_n 2, 1) := by decide +kernel
theorem dX11_strokeNow_40 : decode cX11_strokeNow 40 = .ok (.invokestatic 150, 3) := by decide +kernel
theorem dX11_strokeNow_43 : decode cX11_strokeNow 43 = .ok (.istore 4, 2) := by decide +kernel
theorem dX11_strokeNow_45 : decode cX11_strokeNow 45 = .ok (.iload 4, 2) := by decide +kernel
theorem dX11_strokeNow_47 : decode cX11_strokeNow 47 = .ok (.ifCond .eq 31, 3) := by decide +kernel
theorem dX11_strokeNow_50 : decode cX11_strokeNow 50 = .ok (.iload 4, 2) := by decide +kernel
theorem dX11_strokeNow_52 : decode cX11_strokeNow 52 = .ok (.iload_n 3, 1) := by decide +kernel
theorem dX11_strokeNow_53 : decode cX11_strokeNow 53 = .ok (.if_icmp .eq 25, 3) := by decide +kernel
theorem dX11_strokeNow_56 : decode cX11_strokeNow 56 = .ok (.aload_n 0, 1) := by decide +kernel
theorem dX11_strokeNow_57 : decode cX11_strokeNow 57 = .ok (.getfield 54, 3) := by decide +kernel
theorem dX11_strokeNow_60 : decode cX11_strokeNow 60 = .ok (.aload_n 0, 1) := by decide +kernel
theorem dX11_strokeNow_61 : decode cX11_strokeNow 61 = .ok (.getfield 12, 3) := by decide +kernel
theorem dX11_strokeNow_64 : decode cX11_strokeNow 64 = .ok (.aload_n 0, 1) := by decide +kernel
theorem dX11_strokeNow_65 : decode cX11_strokeNow 65 = .ok (.getfield 12, 3) := by decide +kernel
theorem dX11_strokeNow_68 : decode cX11_strokeNow 68 = .ok (.invokevirtual 129, 3) := by decide +kernel
theorem dX11_strokeNow_71 : decode cX11_strokeNow 71 = .ok (.iload_n 1, 1) := by decide +kernel
theorem dX11_strokeNow_72 : decode cX11_strokeNow 72 = .ok (.invokevirtual 137, 3) := by decide +kernel
theorem dX11_strokeNow_75 : decode cX11_strokeNow 75 = .ok (.ifCond .eq 6, 3) := by decide +kernel
theorem dX11_strokeNow_78 : decode cX11_strokeNow 78 = .ok (.bipush (-3), 2) := by decide +kernel
theorem dX11_strokeNow_80 : decode cX11_strokeNow 80 = .ok (.ireturn, 1) := by decide +kernel
theorem dX11_strokeNow_81 : decode cX11_strokeNow 81 = .ok (.aload_n 0, 1) := by decide +kernel
theorem dX11_strokeNow_82 : decode cX11_strokeNow 82 = .ok (.getfield 54, 3) := by decide +kernel
theorem dX11_strokeNow_85 : decode cX11_strokeNow 85 = .ok (.aload_n 0, 1) := by decide +kernel
theorem dX11_strokeNow_86 : decode cX11_strokeNow 86 = .ok (.getfield 12, 3) := by decide +kernel
theorem dX11_strokeNow_89 : decode cX11_strokeNow 89 = .ok (.aload_n 0, 1) := by decide +kernel
theorem dX11_strokeNow_90 : decode cX11_strokeNow 90 = .ok (.getfield 12, 3) := by decide +kernel
theorem dX11_strokeNow_93 : decode cX11_strokeNow 93 = .ok (.invokevirtual 129, 3) := by decide +kernel
theorem dX11_strokeNow_96 : decode cX11_strokeNow 96 = .ok (.iload_n 1, 1) := by decide +kernel
theorem dX11_strokeNow_97 : decode cX11_strokeNow 97 = .ok (.iload_n 2, 1) := by decide +kernel
theorem dX11_strokeNow_98 : decode cX11_strokeNow 98 = .ok (.iload_n 3, 1) := by decide +kernel
theorem dX11_strokeNow_99 : decode cX11_strokeNow 99 = .ok (.invokevirtual 154, 3) := by decide +kernel
theorem dX11_strokeNow_102 : decode cX11_strokeNow 102 = .ok (.istore 5, 2) := by decide +kernel
theorem dX11_strokeNow_104 : decode cX11_strokeNow 104 = .ok (.aload_n 0, 1) := by decide +kernel
theorem dX11_strokeNow_105 : decode cX11_strokeNow 105 = .ok (.getfield 12, 3) := by decide +kernel
theorem dX11_strokeNow_108 : decode cX11_strokeNow 108 = .ok (.iload_n 1, 1) := by decide +kernel
theorem dX11_strokeNow_109 : decode cX11_strokeNow 109 = .ok (.iload_n 2, 1) := by decide +kernel
theorem dX11_strokeNow_110 : decode cX11_strokeNow 110 = .ok (.iload_n 3, 1) := by decide +kernel
theorem dX11_strokeNow_111 : decode cX11_strokeNow 111 = .ok (.invokevirtual 254, 3) := by decide +kernel
theorem dX11_strokeNow_114 : decode cX11_strokeNow 114 = .ok (.aload_n 0, 1) := by decide +kernel
theorem dX11_strokeNow_115 : decode cX11_strokeNow 115 = .ok (.getfield 29, 3) := by decide +kernel
theorem dX11_strokeNow_118 : decode cX11_strokeNow 118 = .ok (.iconst 0, 1) := by decide +kernel
theorem dX11_strokeNow_119 : decode cX11_strokeNow 119 = .ok (.iload_n 1, 1) := by decide +kernel
theorem dX11_strokeNow_120 : decode cX11_strokeNow 120 = .ok (.iload_n 2, 1) := by decide +kernel
theorem dX11_strokeNow_121 : decode cX11_strokeNow 121 = .ok (.iload 4, 2) := by decide +kernel
theorem dX11_strokeNow_123 : decode cX11_strokeNow 123 = .ok (.invokevirtual 349, 3) := by decide +kernel
theorem dX11_strokeNow_126 : decode cX11_strokeNow 126 = .ok (.iload 5, 2) := by decide +kernel
theorem dX11_strokeNow_128 : decode cX11_strokeNow 128 = .ok (.ireturn, 1) := by decide +kernel
abbrev mX11_strokeNow : zq_M := (cX11_strokeNow, RX11, "strokeNow", (some .int), 6)
theorem dX11_swapNow_0 : decode cX11_swapNow 0 = .ok (.aload_n 0, 1) := by decide +kernel
theorem dX11_swapNow_1 : decode cX11_swapNow 1 = .ok (.getfield 12, 3) := by decide +kernel
theorem dX11_swapNow_4 : decode cX11_swapNow 4 = .ok (.iload_n 1, 1) := by decide +kernel
theorem dX11_swapNow_5 : decode cX11_swapNow 5 = .ok (.invokevirtual 120, 3) := by decide +kernel
theorem dX11_swapNow_8 : decode cX11_swapNow 8 = .ok (.ifCond .eq 16, 3) := by decide +kernel
theorem dX11_swapNow_11 : decode cX11_swapNow 11 = .ok (.aload_n 0, 1) := by decide +kernel
theorem dX11_swapNow_12 : decode cX11_swapNow 12 = .ok (.getfield 12, 3) := by decide +kernel
theorem dX11_swapNow_15 : decode cX11_swapNow 15 = .ok (.iload_n 1, 1) := by decide +kernel
theorem dX11_swapNow_16 : decode cX11_swapNow 16 = .ok (.iconst 1, 1) := by decide +kernel
theorem dX11_swapNow_17 : decode cX11_swapNow 17 = .ok (.iadd, 1) := by decide +kernel
theorem dX11_swapNow_18 : decode cX11_swapNow 18 = .ok (.invokevirtual 120, 3) := by decide +kernel
theorem dX11_swapNow_21 : decode cX11_swapNow 21 = .ok (.ifCond .ne 6, 3) := by decide +kernel
theorem dX11_swapNow_24 : decode cX11_swapNow 24 = .ok (.bipush (-2), 2) := by decide +kernel
theorem dX11_swapNow_26 : decode cX11_swapNow 26 = .ok (.ireturn, 1) := by decide +kernel
theorem dX11_swapNow_27 : decode cX11_swapNow 27 = .ok (.aload_n 0, 1) := by decide +kernel
theorem dX11_swapNow_28 : decode cX11_swapNow 28 = .ok (.getfield 12, 3) := by decide +kernel
theorem dX11_swapNow_31 : decode cX11_swapNow 31 = .ok (.invokevirtual 129, 3) := by decide +kernel
theorem dX11_swapNow_34 : decode cX11_swapNow 34 = .ok (.astore_n 2, 1) := by decide +kernel
theorem dX11_swapNow_35 : decode cX11_swapNow 35 = .ok (.aload_n 0, 1) := by decide +kernel
theorem dX11_swapNow_36 : decode cX11_swapNow 36 = .ok (.getfield 54, 3) := by decide +kernel
theorem dX11_swapNow_39 : decode cX11_swapNow 39 = .ok (.aload_n 0, 1) := by decide +kernel
theorem dX11_swapNow_40 : decode cX11_swapNow 40 = .ok (.getfield 12, 3) := by decide +kernel
theorem dX11_swapNow_43 : decode cX11_swapNow 43 = .ok (.aload_n 2, 1) := by decide +kernel
theorem dX11_swapNow_44 : decode cX11_swapNow 44 = .ok (.aload_n 0, 1) := by decide +kernel
theorem dX11_swapNow_45 : decode cX11_swapNow 45 = .ok (.getfield 12, 3) := by decide +kernel
theorem dX11_swapNow_48 : decode cX11_swapNow 48 = .ok (.getfield 141, 3) := by decide +kernel
theorem dX11_swapNow_51 : decode cX11_swapNow 51 = .ok (.iload_n 1, 1) := by decide +kernel
theorem dX11_swapNow_52 : decode cX11_swapNow 52 = .ok (.iaload, 1) := by decide +kernel
theorem dX11_swapNow_53 : decode cX11_swapNow 53 = .ok (.invokevirtual 133, 3) := by decide +kernel
theorem dX11_swapNow_56 : decode cX11_swapNow 56 = .ok (.aload_n 0, 1) := by decide +kernel
theorem dX11_swapNow_57 : decode cX11_swapNow 57 = .ok (.getfield 54, 3) := by decide +kernel
theorem dX11_swapNow_60 : decode cX11_swapNow 60 = .ok (.aload_n 0, 1) := by decide +kernel
theorem dX11_swapNow_61 : decode cX11_swapNow 61 = .ok (.getfield 12, 3) := by decide +kernel
theorem dX11_swapNow_64 : decode cX11_swapNow 64 = .ok (.aload_n 2, 1) := by decide +kernel
theorem dX11_swapNow_65 : decode cX11_swapNow 65 = .ok (.aload_n 0, 1) := by decide +kernel
theorem dX11_swapNow_66 : decode cX11_swapNow 66 = .ok (.getfield 12, 3) := by decide +kernel
theorem dX11_swapNow_69 : decode cX11_swapNow 69 = .ok (.getfield 141, 3) := by decide +kernel
theorem dX11_swapNow_72 : decode cX11_swapNow 72 = .ok (.iload_n 1, 1) := by decide +kernel
theorem dX11_swapNow_73 : decode cX11_swapNow 73 = .ok (.iconst 1, 1) := by decide +kernel
theorem dX11_swapNow_74 : decode cX11_swapNow 74 = .ok (.iadd, 1) := by decide +kernel
theorem dX11_swapNow_75 : decode cX11_swapNow 75 = .ok (.iaload, 1) := by decide +kernel
theorem dX11_swapNow_76 : decode cX11_swapNow 76 = .ok (.invokevirtual 133, 3) := by decide +kernel
theorem dX11_swapNow_79 : decode cX11_swapNow 79 = .ok (.iadd, 1) := by decide +kernel
theorem dX11_swapNow_80 : decode cX11_swapNow 80 = .ok (.istore_n 3, 1) := by decide +kernel
theorem dX11_swapNow_81 : decode cX11_swapNow 81 = .ok (.aload_n 0, 1) := by decide +kernel
theorem dX11_swapNow_82 : decode cX11_swapNow 82 = .ok (.getfield 12, 3) := by decide +kernel
theorem dX11_swapNow_85 : decode cX11_swapNow 85 = .ok (.iload_n 1, 1) := by decide +kernel
theorem dX11_swapNow_86 : decode cX11_swapNow 86 = .ok (.invokevirtual 257, 3) := by decide +kernel
theorem dX11_swapNow_89 : decode cX11_swapNow 89 = .ok (.aload_n 0, 1) := by decide +kernel
theorem dX11_swapNow_90 : decode cX11_swapNow 90 = .ok (.getfield 29, 3) := by decide +kernel
theorem dX11_swapNow_93 : decode cX11_swapNow 93 = .ok (.iconst 1, 1) := by decide +kernel
theorem dX11_swapNow_94 : decode cX11_swapNow 94 = .ok (.iload_n 1, 1) := by decide +kernel
theorem dX11_swapNow_95 : decode cX11_swapNow 95 = .ok (.iconst 0, 1) := by decide +kernel
theorem dX11_swapNow_96 : decode cX11_swapNow 96 = .ok (.iconst 0, 1) := by decide +kernel
theorem dX11_swapNow_97 : decode cX11_swapNow 97 = .ok (.invokevirtual 349, 3) := by decide +kernel
theorem dX11_swapNow_100 : decode cX11_swapNow 100 = .ok (.iload_n 3, 1) := by decide +kernel
theorem dX11_swapNow_101 : decode cX11_swapNow 101 = .ok (.ireturn, 1) := by decide +kernel
abbrev mX11_swapNow : zq_M := (cX11_swapNow, RX11, "swapNow", (some .int), 4)
theorem dX11_decreeNow_0 : decode cX11_decreeNow 0 = .ok (.iload_n 1, 1) := by decide +kernel
theorem dX11_decreeNow_1 : decode cX11_decreeNow 1 = .ok (.ifCond .lt 8, 3) := by decide +kernel
theorem dX11_decreeNow_4 : decode cX11_decreeNow 4 = .ok (.iload_n 1, 1) := by decide +kernel
theorem dX11_decreeNow_5 : decode cX11_decreeNow 5 = .ok (.iconst 3, 1) := by decide +kernel
theorem dX11_decreeNow_6 : decode cX11_decreeNow 6 = .ok (.if_icmp .le 5, 3) := by decide +kernel
theorem dX11_decreeNow_9 : decode cX11_decreeNow 9 = .ok (.iconst (-1), 1) := by decide +kernel
theorem dX11_decreeNow_10 : decode cX11_decreeNow 10 = .ok (.ireturn, 1) := by decide +kernel
theorem dX11_decreeNow_11 : decode cX11_decreeNow 11 = .ok (.aload_n 0, 1) := by decide +kernel
theorem dX11_decreeNow_12 : decode cX11_decreeNow 12 = .ok (.getfield 12, 3) := by decide +kernel
theorem dX11_decreeNow_15 : decode cX11_decreeNow 15 = .ok (.iload_n 1, 1) := by decide +kernel
theorem dX11_decreeNow_16 : decode cX11_decreeNow 16 = .ok (.invokevirtual 260, 3) := by decide +kernel
theorem dX11_decreeNow_19 : decode cX11_decreeNow 19 = .ok (.aload_n 0, 1) := by decide +kernel
theorem dX11_decreeNow_20 : decode cX11_decreeNow 20 = .ok (.getfield 29, 3) := by decide +kernel
theorem dX11_decreeNow_23 : decode cX11_decreeNow 23 = .ok (.iconst 2, 1) := by decide +kernel
theorem dX11_decreeNow_24 : decode cX11_decreeNow 24 = .ok (.iload_n 1, 1) := by decide +kernel
theorem dX11_decreeNow_25 : decode cX11_decreeNow 25 = .ok (.iconst 0, 1) := by decide +kernel
theorem dX11_decreeNow_26 : decode cX11_decreeNow 26 = .ok (.iconst 0, 1) := by decide +kernel
theorem dX11_decreeNow_27 : decode cX11_decreeNow 27 = .ok (.invokevirtual 349, 3) := by decide +kernel
theorem dX11_decreeNow_30 : decode cX11_decreeNow 30 = .ok (.aload_n 0, 1) := by decide +kernel
theorem dX11_decreeNow_31 : decode cX11_decreeNow 31 = .ok (.getfield 12, 3) := by decide +kernel
theorem dX11_decreeNow_34 : decode cX11_decreeNow 34 = .ok (.invokevirtual 165, 3) := by decide +kernel
theorem dX11_decreeNow_37 : decode cX11_decreeNow 37 = .ok (.ireturn, 1) := by decide +kernel
abbrev mX11_decreeNow : zq_M := (cX11_decreeNow, RX11, "decreeNow", (some .int), 2)
theorem dX11_passNow_0 : decode cX11_passNow 0 = .ok (.aload_n 0, 1) := by decide +kernel
theorem dX11_passNow_1 : decode cX11_passNow 1 = .ok (.getfield 12, 3) := by decide +kernel
theorem dX11_passNow_4 : decode cX11_passNow 4 = .ok (.getfield 172, 3) := by decide +kernel
theorem dX11_passNow_7 : decode cX11_passNow 7 = .ok (.iconst 0, 1) := by decide +kernel
theorem dX11_passNow_8 : decode cX11_passNow 8 = .ok (.iaload, 1) := by decide +kernel
theorem dX11_passNow_9 : decode cX11_passNow 9 = .ok (.sipush 999, 3) := by decide +kernel
theorem dX11_passNow_12 : decode cX11_passNow 12 = .ok (.if_icmp .lt 6, 3) := by decide +kernel
theorem dX11_passNow_15 : decode cX11_passNow 15 = .ok (.bipush (-3), 2) := by decide +kernel
theorem dX11_passNow_17 : decode cX11_passNow 17 = .ok (.ireturn, 1) := by decide +kernel
theorem dX11_passNow_18 : decode cX11_passNow 18 = .ok (.aload_n 0, 1) := by decide +kernel
theorem dX11_passNow_19 : decode cX11_passNow 19 = .ok (.getfield 12, 3) := by decide +kernel
theorem dX11_passNow_22 : decode cX11_passNow 22 = .ok (.getfield 172, 3) := by decide +kernel
theorem dX11_passNow_25 : decode cX11_passNow 25 = .ok (.iconst 0, 1) := by decide +kernel
theorem dX11_passNow_26 : decode cX11_passNow 26 = .ok (.dup2, 1) := by decide +kernel
theorem dX11_passNow_27 : decode cX11_passNow 27 = .ok (.iaload, 1) := by decide +kernel
theorem dX11_passNow_28 : decode cX11_passNow 28 = .ok (.iconst 1, 1) := by decide +kernel
theorem dX11_passNow_29 : decode cX11_passNow 29 = .ok (.iadd, 1) := by decide +kernel
theorem dX11_passNow_30 : decode cX11_passNow 30 = .ok (.iastore, 1) := by decide +kernel
theorem dX11_passNow_31 : decode cX11_passNow 31 = .ok (.aload_n 0, 1) := by decide +kernel
theorem dX11_passNow_32 : decode cX11_passNow 32 = .ok (.getfield 29, 3) := by decide +kernel
theorem dX11_passNow_35 : decode cX11_passNow 35 = .ok (.iconst 3, 1) := by decide +kernel
theorem dX11_passNow_36 : decode cX11_passNow 36 = .ok (.iconst 0, 1) := by decide +kernel
theorem dX11_passNow_37 : decode cX11_passNow 37 = .ok (.iconst 0, 1) := by decide +kernel
theorem dX11_passNow_38 : decode cX11_passNow 38 = .ok (.iconst 0, 1) := by decide +kernel
theorem dX11_passNow_39 : decode cX11_passNow 39 = .ok (.invokevirtual 349, 3) := by decide +kernel
theorem dX11_passNow_42 : decode cX11_passNow 42 = .ok (.aload_n 0, 1) := by decide +kernel
theorem dX11_passNow_43 : decode cX11_passNow 43 = .ok (.getfield 12, 3) := by decide +kernel
theorem dX11_passNow_46 : decode cX11_passNow 46 = .ok (.getfield 172, 3) := by decide +kernel
theorem dX11_passNow_49 : decode cX11_passNow 49 = .ok (.iconst 0, 1) := by decide +kernel
theorem dX11_passNow_50 : decode cX11_passNow 50 = .ok (.iaload, 1) := by decide +kernel
theorem dX11_passNow_51 : decode cX11_passNow 51 = .ok (.ireturn, 1) := by decide +kernel
abbrev mX11_passNow : zq_M := (cX11_passNow, RX11, "passNow", (some .int), 1)
theorem dX11_stroke_0 : decode cX11_stroke 0 = .ok (.aload_n 0, 1) := by decide +kernel
theorem dX11_stroke_1 : decode cX11_stroke 1 = .ok (.aload_n 0, 1) := by decide +kernel
theorem dX11_stroke_2 : decode cX11_stroke 2 = .ok (.iload_n 1, 1) := by decide +kernel
theorem dX11_stroke_3 : decode cX11_stroke 3 = .ok (.iload_n 2, 1) := by decide +kernel
theorem dX11_stroke_4 : decode cX11_stroke 4 = .ok (.iload_n 3, 1) := by decide +kernel
theorem dX11_stroke_5 : decode cX11_stroke 5 = .ok (.invokevirtual 222, 3) := by decide +kernel
theorem dX11_stroke_8 : decode cX11_stroke 8 = .ok (.invokevirtual 226, 3) := by decide +kernel
theorem dX11_stroke_11 : decode cX11_stroke 11 = .ok (.ireturn, 1) := by decide +kernel
abbrev mX11_stroke : zq_M := (cX11_stroke, RX11, "stroke", (some .int), 4)
theorem dX11_swap_0 : decode cX11_swap 0 = .ok (.aload_n 0, 1) := by decide +kernel
theorem dX11_swap_1 : decode cX11_swap 1 = .ok (.aload_n 0, 1) := by decide +kernel
theorem dX11_swap_2 : decode cX11_swap 2 = .ok (.iload_n 1, 1) := by decide +kernel
theorem dX11_swap_3 : decode cX11_swap 3 = .ok (.invokevirtual 229, 3) := by decide +kernel
theorem dX11_swap_6 : decode cX11_swap 6 = .ok (.invokevirtual 226, 3) := by decide +kernel
theorem dX11_swap_9 : decode cX11_swap 9 = .ok (.ireturn, 1) := by decide +kernel
abbrev mX11_swap : zq_M := (cX11_swap, RX11, "swap", (some .int), 2)
theorem dX11_decree_0 : decode cX11_decree 0 = .ok (.aload_n 0, 1) := by decide +kernel
theorem dX11_decree_1 : decode cX11_decree 1 = .ok (.aload_n 0, 1) := by decide +kernel
theorem dX11_decree_2 : decode cX11_decree 2 = .ok (.iload_n 1, 1) := by decide +kernel
theorem dX11_decree_3 : decode cX11_decree 3 = .ok (.invokevirtual 232, 3) := by decide +kernel
theorem dX11_decree_6 : decode cX11_decree 6 = .ok (.invokevirtual 226, 3) := by decide +kernel
theorem dX11_decree_9 : decode cX11_decree 9 = .ok (.ireturn, 1) := by decide +kernel
abbrev mX11_decree : zq_M := (cX11_decree, RX11, "decree", (some .int), 2)
theorem dX11_pass_0 : decode cX11_pass 0 = .ok (.aload_n 0, 1) := by decide +kernel
theorem dX11_pass_1 : decode cX11_pass 1 = .ok (.aload_n 0, 1) := by decide +kernel
theorem dX11_pass_2 : decode cX11_pass 2 = .ok (.invokevirtual 235, 3) := by decide +kernel
theorem dX11_pass_5 : decode cX11_pass 5 = .ok (.invokevirtual 226, 3) := by decide +kernel
theorem dX11_pass_8 : decode cX11_pass 8 = .ok (.ireturn, 1) := by decide +kernel
abbrev mX11_pass : zq_M := (cX11_pass, RX11, "pass", (some .int), 1)
theorem dX11_undo_0 : decode cX11_undo 0 = .ok (.aload_n 0, 1) := by decide +kernel
theorem dX11_undo_1 : decode cX11_undo 1 = .ok (.getfield 29, 3) := by decide +kernel
theorem dX11_undo_4 : decode cX11_undo 4 = .ok (.getfield 238, 3) := by decide +kernel
theorem dX11_undo_7 : decode cX11_undo 7 = .ok (.ifCond .ne 10, 3) := by decide +kernel
theorem dX11_undo_10 : decode cX11_undo 10 = .ok (.aload_n 0, 1) := by decide +kernel
theorem dX11_undo_11 : decode cX11_undo 11 = .ok (.bipush (-3), 2) := by decide +kernel
theorem dX11_undo_13 : decode cX11_undo 13 = .ok (.invokevirtual 103, 3) := by decide +kernel
theorem dX11_undo_16 : decode cX11_undo 16 = .ok (.ireturn, 1) := by decide +kernel
theorem dX11_undo_17 : decode cX11_undo 17 = .ok (.aload_n 0, 1) := by decide +kernel
theorem dX11_undo_18 : decode cX11_undo 18 = .ok (.getfield 29, 3) := by decide +kernel
theorem dX11_undo_21 : decode cX11_undo 21 = .ok (.invokevirtual 239, 3) := by decide +kernel
theorem dX11_undo_24 : decode cX11_undo 24 = .ok (.istore_n 1, 1) := by decide +kernel
theorem dX11_undo_25 : decode cX11_undo 25 = .ok (.iload_n 1, 1) := by decide +kernel
theorem dX11_undo_26 : decode cX11_undo 26 = .ok (.invokestatic 242, 3) := by decide +kernel
theorem dX11_undo_29 : decode cX11_undo 29 = .ok (.istore_n 2, 1) := by decide +kernel
theorem dX11_undo_30 : decode cX11_undo 30 = .ok (.iload_n 2, 1) := by decide +kernel
theorem dX11_undo_31 : decode cX11_undo 31 = .ok (.tableswitch 75 0 2 #[25, 47, 61], 25) := by decide +kernel
theorem dX11_undo_56 : decode cX11_undo 56 = .ok (.aload_n 0, 1) := by decide +kernel
theorem dX11_undo_57 : decode cX11_undo 57 = .ok (.getfield 12, 3) := by decide +kernel
theorem dX11_undo_60 : decode cX11_undo 60 = .ok (.iload_n 1, 1) := by decide +kernel
theorem dX11_undo_61 : decode cX11_undo 61 = .ok (.invokestatic 245, 3) := by decide +kernel
theorem dX11_undo_64 : decode cX11_undo 64 = .ok (.iload_n 1, 1) := by decide +kernel
theorem dX11_undo_65 : decode cX11_undo 65 = .ok (.invokestatic 248, 3) := by decide +kernel
theorem dX11_undo_68 : decode cX11_undo 68 = .ok (.iload_n 1, 1) := by decide +kernel
theorem dX11_undo_69 : decode cX11_undo 69 = .ok (.invokestatic 251, 3) := by decide +kernel
theorem dX11_undo_72 : decode cX11_undo 72 = .ok (.invokevirtual 254, 3) := by decide +kernel
theorem dX11_undo_75 : decode cX11_undo 75 = .ok (.goto 44, 3) := by decide +kernel
theorem dX11_undo_78 : decode cX11_undo 78 = .ok (.aload_n 0, 1) := by decide +kernel
theorem dX11_undo_79 : decode cX11_undo 79 = .ok (.getfield 12, 3) := by decide +kernel
theorem dX11_undo_82 : decode cX11_undo 82 = .ok (.iload_n 1, 1) := by decide +kernel
theorem dX11_undo_83 : decode cX11_undo 83 = .ok (.invokestatic 245, 3) := by decide +kernel
theorem dX11_undo_86 : decode cX11_undo 86 = .ok (.invokevirtual 257, 3) := by decide +kernel
theorem dX11_undo_89 : decode cX11_undo 89 = .ok (.goto 30, 3) := by decide +kernel
theorem dX11_undo_92 : decode cX11_undo 92 = .ok (.aload_n 0, 1) := by decide +kernel
theorem dX11_undo_93 : decode cX11_undo 93 = .ok (.getfield 12, 3) := by decide +kernel
theorem dX11_undo_96 : decode cX11_undo 96 = .ok (.iload_n 1, 1) := by decide +kernel
theorem dX11_undo_97 : decode cX11_undo 97 = .ok (.invokestatic 245, 3) := by decide +kernel
theorem dX11_undo_100 : decode cX11_undo 100 = .ok (.invokevirtual 260, 3) := by decide +kernel
theorem dX11_undo_103 : decode cX11_undo 103 = .ok (.goto 16, 3) := by decide +kernel
theorem dX11_undo_106 : decode cX11_undo 106 = .ok (.aload_n 0, 1) := by decide +kernel
theorem dX11_undo_107 : decode cX11_undo 107 = .ok (.getfield 12, 3) := by decide +kernel
theorem dX11_undo_110 : decode cX11_undo 110 = .ok (.getfield 172, 3) := by decide +kernel
theorem dX11_undo_113 : decode cX11_undo 113 = .ok (.iconst 0, 1) := by decide +kernel
theorem dX11_undo_114 : decode cX11_undo 114 = .ok (.dup2, 1) := by decide +kernel
theorem dX11_undo_115 : decode cX11_undo 115 = .ok (.iaload, 1) := by decide +kernel
theorem dX11_undo_116 : decode cX11_undo 116 = .ok (.iconst 1, 1) := by decide +kernel
theorem dX11_undo_117 : decode cX11_undo 117 = .ok (.isub, 1) := by decide +kernel
theorem dX11_undo_118 : decode cX11_undo 118 = .ok (.iastore, 1) := by decide +kernel
theorem dX11_undo_119 : decode cX11_undo 119 = .ok (.aload_n 0, 1) := by decide +kernel
theorem dX11_undo_120 : decode cX11_undo 120 = .ok (.iload_n 2, 1) := by decide +kernel
theorem dX11_undo_121 : decode cX11_undo 121 = .ok (.invokevirtual 117, 3) := by decide +kernel
theorem dX11_undo_124 : decode cX11_undo 124 = .ok (.ireturn, 1) := by decide +kernel
abbrev mX11_undo : zq_M := (cX11_undo, RX11, "undo", (some .int), 3)
/-- the class's part of it all -/
def zCI (κ : zl_S) (ρ : Nat → zq_E) (n : Nat) (K : Nat → Int32) (m hn t : Nat) (Ls : Nat → List zLC) (Λ : List Nat) : Prop := zKW K m hn t Ls ∧ zQc κ ρ n 9 K m hn t Ls ∧ Λ.length ≤ 16 ∧ κ.1 43 0 = nI Λ.length ∧ zLd (κ.2.1 44) Λ
def zSc (κ' κ : zl_S) : Prop := κ'.1 = κ.1 ∧ (∀ a, a ≠ 54 → a ≠ 55 → κ'.2.1 a = κ.2.1 a) ∧ κ'.2.2 = κ.2.2
def zDf (κ' κ : zl_S) : Prop := (∀ o, o ≠ 9 → o ≠ 43 → κ'.1 o = κ.1 o) ∧ (∀ a, ¬ (10 ≤ a ∧ a ≤ 18) → a ≠ 44 → a ≠ 54 → a ≠ 55 → κ'.2.1 a = κ.2.1 a) ∧ κ'.2.2 = κ.2.2
theorem zSc_r (κ : zl_S) : zSc κ κ := ⟨rfl, fun _ _ _ => rfl, rfl⟩
theorem zSc_54 {κ' κ : zl_S} (h : zSc κ' κ) (a g : Nat → Int32) : zSc (zl_sA (zl_sA κ' 55 g) 54 a) κ := ⟨h.1, fun c h1 h2 => by rw [zlA_o _ h1, zlA_o _ h2]; exact h.2.1 c h1 h2, h.2.2⟩
theorem zDf_s {κ' κ : zl_S} (h : zSc κ' κ) : zDf κ' κ := ⟨fun o _ _ => by rw [h.1], fun a _ _ h1 h2 => h.2.1 a h1 h2, h.2.2⟩
theorem zDf_t {κ1 κ2 κ : zl_S} (h : zDf κ1 κ2) (g : zDf κ2 κ) : zDf κ1 κ := ⟨fun o h1 h2 => (h.1 o h1 h2).trans (g.1 o h1 h2), fun a h1 h2 h3 h4 => (h.2.1 a h1 h2 h3 h4).trans (g.2.1 a h1 h2 h3 h4), h.2.2.trans g.2.2⟩
theorem zDf_a {κ' κ : zl_S} {a i : Nat} {v : Int32} (h : zDf κ' κ) (ha : 10 ≤ a ∧ a ≤ 18) : zDf (zl_sa κ' a i v) κ := ⟨h.1, fun c h1 h2 h3 h4 => (zla_o _ (by omega) _ _).trans (h.2.1 c h1 h2 h3 h4), h.2.2⟩
theorem zDf_l {κ' κ : zl_S} {g : Nat → Int32} {v : Int32} (h : zDf κ' κ) : zDf (zl_si (zl_sA κ' 44 g) 43 0 v) κ := ⟨fun o h1 h2 => (zsi2_o _ h2 _ _).trans (h.1 o h1 h2), fun c h1 h2 h3 h4 => (zlA_o _ h2 _).trans (h.2.1 c h1 h2 h3 h4), h.2.2⟩
theorem zDf_43 {κ' κ : zl_S} {v : Int32} (h : zDf κ' κ) : zDf (zl_si κ' 43 0 v) κ := ⟨fun o h1 h2 => (zsi2_o _ h2 _ _).trans (h.1 o h1 h2), h.2.1, h.2.2⟩
theorem zKf_s {κ' κ : zl_S} (h : zSc κ' κ) : zKf κ' κ := ⟨fun o _ => by rw [h.1], fun a ha => h.2.1 a (by omega) (by omega), congrFun (h.2.1 57 (by decide) (by decide)) 0, by rw [h.2.2], by rw [h.2.2]⟩
theorem zix_4 (v : Int32) : zix 4 v = zlies 0 3 v := (zix_lies (m := 4) (by decide)).symm
section ZK9
variable {l : Launch} {G : zq_G} {D n b : Nat} {κ κ' : zl_S} {σ : zm_S} {ρ : Nat → zq_E} {K : Nat → Int32} {m hn t z : Nat} {Ls : Nat → List zLC} {Λ : List Nat} {post : Option Value → Nat → (Nat → zq_E) → Prop}
theorem zQc_f (h : zQc κ ρ n b K m hn t Ls) (h1 : κ'.1 b = κ.1 b) (h2 : ∀ c, 1 ≤ c → c ≤ 9 → κ'.2.1 (b + c) = κ.2.1 (b + c)) (h3 : κ'.2.2 (b + 10) = κ.2.2 (b + 10)) : zQc κ' ρ n b K m hn t Ls := by
  unfold zQc zQR at h ⊢
  rw [h1, h3]
  simp only [h2 1 (by decide) (by decide), h2 2 (by decide) (by decide), h2 3 (by decide) (by decide), h2 4 (by decide) (by decide), h2 5 (by decide) (by decide), h2 6 (by decide) (by decide), h2 7 (by decide) (by decide), h2 8 (by decide) (by decide), h2 9 (by decide) (by decide)]
  exact h
theorem zQc_s (h : zQc κ ρ n 9 K m hn t Ls) (g : zSc κ' κ) : zQc κ' ρ n 9 K m hn t Ls := zQc_f h (by rw [g.1]) (fun c h1 h9 => g.2.1 _ (by omega) (by omega)) (by rw [g.2.2])
theorem zCI_s (h : zCI κ ρ n K m hn t Ls Λ) (g : zSc κ' κ) : zCI κ' ρ n K m hn t Ls Λ := ⟨h.1, zQc_s h.2.1 g, h.2.2.1, by rw [g.1]; exact h.2.2.2.1, by rw [g.2.1 44 (by decide) (by decide)]; exact h.2.2.2.2⟩
/-- a deed is told -/
theorem zCI_push {K' : Nat → Int32} {d : Nat} {g' : Nat → Int32} (hK : zKW K' m hn t Ls) (hQ : zQc κ' ρ n 9 K' m hn t Ls) (hd : zLd g' (zpush d Λ)) : zCI (zl_si (zl_sA κ' 44 g') 43 0 (nI (zpush d Λ).length)) ρ n K' m hn t Ls (zpush d Λ) := by
  refine ⟨hK, zQc_f hQ (zsi2_o _ (by decide) _ _) (fun c h1 h9 => zlA_o _ (by omega) _) rfl, zpush_le _ _, zsi2_s _ _ _ _, ?_⟩
  show zLd ((zl_sA κ' 44 g').2.1 44) _
  rw [zlA_s]
  exact hd
theorem zc_passNow (hD : 4 ≤ D) (h : zCI κ ρ n K m hn t Ls Λ) (a b c : Int32)
    (hf : zdC 3 a b c K m (zLoK K Ls) ≠ 0 → post (some (.int (-(nI (zdC 3 a b c K m (zLoK K Ls)))))) n (zl_h κ (zm_h σ ρ)))
    (ht : ∀ κ', zdC 3 a b c K m (zLoK K Ls) = 0 → zCI κ' ρ n (zdK 3 a b c K) m hn t Ls (zpush (zdD 3 a b K) Λ) → zDf κ' κ → post (some (.int (zI (zdT 3 a b c K m (zLoK K Ls))))) n (zl_h κ' (zm_h σ ρ))) : zq_Runs l G D 0 0 yX11_passNow [.ref 8] n (zl_h κ (zm_h σ ρ)) post := by
  obtain ⟨hK, hQ, h16, h43, h44⟩ := h
  obtain ⟨d, d9, ed⟩ := hK.2.2.2.1
  have e0 : κ.2.1 (9 + 7) 0 = nI d := hQ.2.2.2.2.2.2.2.1.1.trans ed
  have hc : zdC 3 a b c K m (zLoK K Ls) = if d = 999 then 3 else 0 := by
    unfold zdC
    rw [if_neg (by decide), if_neg (by decide), if_neg (by decide), ed, nI_clamp (by omega)]
  by_cases h9 : d = 999
  · rw [if_pos h9] at hc
    have hp := hf (by rw [hc]; decide)
    rw [hc] at hp
    refine zq_enter (cc := cX11_passNow) (nL := 1) (ret := (some .int)) cw_X11_passNow (by decide) rfl (Nat.le_of_ble_eq_true rfl) ?_
    refine at_aload_n dX11_passNow_0 rfl ?_
    refine at_get dX11_passNow_1 fl_X11_12 (zl_o rfl) rfl ?_
    refine at_get dX11_passNow_4 fl_X11_172 (zl_q zQ9) rfl ?_
    refine at_iconst dX11_passNow_7 (v := nI 0) (by decide) ?_
    refine at_uld (b := 9) (c := 7) dX11_passNow_8 zQ9 (by decide) (by decide) rfl (by show _ < 3; omega) ?_
    rw [e0]
    refine at_sipush dX11_passNow_9 (v := nI 999) (by decide) ?_
    refine at_ltN (tgt := 18) dX11_passNow_12 (by decide) (by omega) (by omega) (fun c12 => ?_) (fun c12 => ?_)
    · omega
    · refine at_bipush dX11_passNow_15 (v := -3) (by decide) ?_
      refine at_iret dX11_passNow_17 rfl (by omega) (by omega) ?_
      exact hp
  · rw [if_neg h9] at hc
    have eK : zdK 3 a b c K = upd K 19 (nI (d + 1)) := by
      unfold zdK
      rw [if_neg (by decide), if_neg (by decide), if_neg (by decide), ed, nI_clamp (by omega)]
    have eT : zdT 3 a b c K m (zLoK K Ls) = (d + 1 : Nat) := by
      unfold zdT
      rw [if_neg (by decide), if_neg (by decide), if_neg (by decide), ed, nI_clamp (by omega)]
    have eD : zdD 3 a b K = 1000 * 3 + 100 * 0 + 10 * 0 + 0 := rfl
    have hK' := zKW_d hK hc
    rw [eK, eT, zI_n, eD] at ht
    rw [eK] at hK'
    have hQ' := zQc_term (v := nI (d + 1)) hQ hK.1.2.1 hK.2.2.2.2.2.2.2.1.2.1 (show 0 < 3 by decide)
    have hQ' : zQc (zl_sa κ (9 + 7) 0 (nI (d + 1))) ρ n 9 (upd K 19 (nI (d + 1))) m hn t Ls := hQ'
    refine zq_enter (cc := cX11_passNow) (nL := 1) (ret := (some .int)) cw_X11_passNow (by decide) rfl (Nat.le_of_ble_eq_true rfl) ?_
    refine at_aload_n dX11_passNow_0 rfl ?_
    refine at_get dX11_passNow_1 fl_X11_12 (zl_o rfl) rfl ?_
    refine at_get dX11_passNow_4 fl_X11_172 (zl_q zQ9) rfl ?_
    refine at_iconst dX11_passNow_7 (v := nI 0) (by decide) ?_
    refine at_uld (b := 9) (c := 7) dX11_passNow_8 zQ9 (by decide) (by decide) rfl (by show _ < 3; omega) ?_
    rw [e0]
    refine at_sipush dX11_passNow_9 (v := nI 999) (by decide) ?_
    refine at_ltN (tgt := 18) dX11_passNow_12 (by decide) (by omega) (by omega) (fun c12 => ?_) (fun c12 => ?_)
    · refine at_aload_n dX11_passNow_18 rfl ?_
      refine at_get dX11_passNow_19 fl_X11_12 (zl_o rfl) rfl ?_
      refine at_get dX11_passNow_22 fl_X11_172 (zl_q zQ9) rfl ?_
      refine at_iconst dX11_passNow_25 (v := nI 0) (by decide) ?_
      refine at_dup2 dX11_passNow_26 rfl rfl ?_
      refine at_uld (b := 9) (c := 7) dX11_passNow_27 zQ9 (by decide) (by decide) rfl (by show _ < 3; omega) ?_
      rw [e0]
      refine at_iconst dX11_passNow_28 (v := nI 1) (by decide) ?_
      refine at_iaddN dX11_passNow_29 ?_
      refine at_ust (b := 9) (c := 7) dX11_passNow_30 zQ9 (by decide) (by decide) rfl (by show _ < 3; omega) ?_
      refine at_aload_n dX11_passNow_31 rfl ?_
      refine at_get dX11_passNow_32 fl_X11_29 (zl_o rfl) rfl ?_
      refine at_iconst dX11_passNow_35 (v := nI 3) (by decide) ?_
      refine at_iconst dX11_passNow_36 (v := nI 0) (by decide) ?_
      refine at_iconst dX11_passNow_37 (v := nI 0) (by decide) ?_
      refine at_iconst dX11_passNow_38 (v := nI 0) (by decide) ?_
      refine at_callV4 (d := D - 1) dX11_passNow_39 mv_X11_349 (zl_o rfl) (Nat.le_of_ble_eq_true rfl) (zq_r0 (by omega) (by omega) (by omega)) ?_
      refine zc_logAdd (κ := zl_sa κ (9 + 7) 0 (nI (d + 1))) (k := 3) (a := 0) (b := 0) (c := 0) (by omega) h43 h16 h44 (fun g' hg => ?_)
      have hp := ht _ hc (zCI_push hK' hQ' hg) (zDf_l (zDf_a (zDf_s (zSc_r κ)) (by omega)))
      rw [show nI (d + 1) = (zl_si (zl_sA (zl_sa κ (9 + 7) 0 (nI (d + 1))) 44 g') 43 0 (nI (zpush (1000 * 3 + 100 * 0 + 10 * 0 + 0) Λ).length)).2.1 (9 + 7) 0 by show nI (d + 1) = (zl_sA (zl_sa κ (9 + 7) 0 (nI (d + 1))) 44 g').2.1 (9 + 7) 0; rw [zlA_o _ (by decide), zla_s, upd_s]] at hp
      refine at_aload_n dX11_passNow_42 rfl ?_
      refine at_get dX11_passNow_43 fl_X11_12 (zl_o rfl) rfl ?_
      refine at_get dX11_passNow_46 fl_X11_172 (zl_q zQ9) rfl ?_
      refine at_iconst dX11_passNow_49 (v := nI 0) (by decide) ?_
      refine at_uld (b := 9) (c := 7) dX11_passNow_50 zQ9 (by decide) (by decide) rfl (by show _ < 3; omega) ?_
      refine at_iret dX11_passNow_51 rfl (by omega) (by omega) ?_
      exact hp
    · omega
theorem zc_decreeNow (hD : 4 ≤ D) (h : zCI κ ρ n K m hn t Ls Λ) {a : Int32} (b c : Int32)
    (hf : zdC 2 a b c K m (zLoK K Ls) ≠ 0 → post (some (.int (-(nI (zdC 2 a b c K m (zLoK K Ls)))))) n (zl_h κ (zm_h σ ρ)))
    (ht : ∀ κ', zdC 2 a b c K m (zLoK K Ls) = 0 → zCI κ' ρ n (zdK 2 a b c K) m hn t Ls (zpush (zdD 2 a b K) Λ) → zDf κ' κ → post (some (.int (zI (zdT 2 a b c K m (zLoK K Ls))))) n (zl_h κ' (zm_h σ ρ))) : zq_Runs l G D 0 0 yX11_decreeNow [.ref 8, .int a] n (zl_h κ (zm_h σ ρ)) post := by
  obtain ⟨hK, hQ, h16, h43, h44⟩ := h
  have hc : zdC 2 a b c K m (zLoK K Ls) = if zlies 0 3 a = false then 1 else 0 := by
    unfold zdC
    rw [if_neg (by decide), if_neg (by decide), if_pos rfl]
  cases e : zlies 0 3 a with
  | false =>
    rw [e, if_pos rfl] at hc
    have hp := hf (by rw [hc]; decide)
    rw [hc] at hp
    have hge : ¬ a < 0 → ¬ nI 3 < a → False := fun h1 h2 => by
      have : zlies 0 3 a = true := by unfold zlies; rw [decide_eq_true (show nI 0 ≤ a from Int32.not_lt.mp h1), decide_eq_true (Int32.not_lt.mp h2)]; rfl
      rw [this] at e; cases e
    refine zq_enter (cc := cX11_decreeNow) (nL := 2) (ret := (some .int)) cw_X11_decreeNow (by decide) rfl (Nat.le_of_ble_eq_true rfl) ?_
    refine at_iload_n dX11_decreeNow_0 rfl ?_
    refine at_if_lt (tgt := 9) dX11_decreeNow_1 (by decide) (fun c1 => ?_) (fun c1 => ?_)
    · refine at_iconst dX11_decreeNow_9 (v := -1) rfl ?_
      refine at_iret dX11_decreeNow_10 rfl (by omega) (by omega) ?_
      exact hp
    · refine at_iload_n dX11_decreeNow_4 rfl ?_
      refine at_iconst dX11_decreeNow_5 (v := nI 3) (by decide) ?_
      refine at_icmp_le (tgt := 11) dX11_decreeNow_6 (by decide) (fun c6 => ?_) (fun c6 => ?_)
      · exact (hge c1 (Int32.not_lt.mpr c6)).elim
      · refine at_iconst dX11_decreeNow_9 (v := -1) rfl ?_
        refine at_iret dX11_decreeNow_10 rfl (by omega) (by omega) ?_
        exact hp
  | true =>
    obtain ⟨q, q0, q3, rfl⟩ := zlies_t (by decide) (by decide) e
    rw [e, if_neg (by decide)] at hc
    have eK : zdK 2 (nI q) b c K = zdec K q := by
      unfold zdK
      rw [if_neg (by decide), if_neg (by decide), if_pos rfl, nI_clamp (by omega)]
    have eT : zdT 2 (nI q) b c K m (zLoK K Ls) = (zaln (alK (zdec K q)) 5 : Nat) := by
      unfold zdT
      rw [if_neg (by decide), if_neg (by decide), if_pos rfl, nI_clamp (by omega)]
    have eD : zdD 2 (nI q) b K = 1000 * 2 + 100 * q + 10 * 0 + 0 := by
      unfold zdD
      rw [if_neg (by decide), if_neg (by decide), if_pos rfl, nI_clamp (by omega)]
      omega
    have hK' := zKW_d hK hc
    rw [eK, eT, zI_n, eD] at ht
    rw [eK] at hK'
    have hQ' := zQc_dec hQ hK.2.1 hK.1.2.1 q3
    refine zq_enter (cc := cX11_decreeNow) (nL := 2) (ret := (some .int)) cw_X11_decreeNow (by decide) rfl (Nat.le_of_ble_eq_true rfl) ?_
    refine at_iload_n dX11_decreeNow_0 rfl ?_
    refine at_if_ltN (tgt := 9) dX11_decreeNow_1 (by decide) (by omega) (fun c1 => ?_) (fun c1 => ?_)
    · exact c1.elim
    · refine at_iload_n dX11_decreeNow_4 rfl ?_
      refine at_iconst dX11_decreeNow_5 (v := nI 3) (by decide) ?_
      refine at_leN (tgt := 11) dX11_decreeNow_6 (by decide) (by omega) (by omega) (fun c6 => ?_) (fun c6 => ?_)
      · refine at_aload_n dX11_decreeNow_11 rfl ?_
        refine at_get dX11_decreeNow_12 fl_X11_12 (zl_o rfl) rfl ?_
        refine at_iload_n dX11_decreeNow_15 rfl ?_
        refine at_callV1 (d := D - 1) dX11_decreeNow_16 mv_X11_260 (zl_q zQ9) (Nat.le_of_ble_eq_true rfl) (zq_r0 (by omega) (by omega) (by omega)) ?_
        refine zc_turn (by omega) zQ9 (zQc_L hQ hK) q3 ?_
        refine at_aload_n dX11_decreeNow_19 rfl ?_
        refine at_get dX11_decreeNow_20 fl_X11_29 (zl_o rfl) rfl ?_
        refine at_iconst dX11_decreeNow_23 (v := nI 2) (by decide) ?_
        refine at_iload_n dX11_decreeNow_24 rfl ?_
        refine at_iconst dX11_decreeNow_25 (v := nI 0) (by decide) ?_
        refine at_iconst dX11_decreeNow_26 (v := nI 0) (by decide) ?_
        refine at_callV4 (d := D - 1) dX11_decreeNow_27 mv_X11_349 (zl_o rfl) (Nat.le_of_ble_eq_true rfl) (zq_r0 (by omega) (by omega) (by omega)) ?_
        refine zc_logAdd (κ := zuT κ 9 q (alK K q) (alK K (q + 1))) (k := 2) (a := q) (b := 0) (c := 0) (by omega) h43 h16 (by show zLd ((zuT κ 9 q (alK K q) (alK K (q + 1))).2.1 44) Λ; unfold zuT; rw [zla_o _ (by decide), zla_o _ (by decide), zla_o _ (by decide), zla_o _ (by decide)]; exact h44) (fun g' hg => ?_)
        have hCI := zCI_push hK' hQ' hg
        have hp := ht _ hc hCI (zDf_l (by unfold zuT; exact zDf_a (zDf_a (zDf_a (zDf_a (zDf_s (zSc_r κ)) (by omega)) (by omega)) (by omega)) (by omega)))
        refine at_aload_n dX11_decreeNow_30 rfl ?_
        refine at_get dX11_decreeNow_31 fl_X11_12 (zl_o rfl) rfl ?_
        refine at_callV0 (d := D - 1) dX11_decreeNow_34 mv_X11_165 (zl_q zQ9) (Nat.le_of_ble_eq_true rfl) (zq_r0 (by omega) (by omega) (by omega)) ?_
        refine zc_alphabetNumber zQ9 (fun k hk => (zQc_L hCI.2.1 hCI.1 k hk).1) ?_
        refine at_iret dX11_decreeNow_37 rfl (by omega) (by omega) ?_
        exact hp
      · omega
end ZK9

