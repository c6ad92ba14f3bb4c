/-! ===== the Model: the tape, rows of bytes ===== -/
theorem dX12_toldName_0 : decode cX12_toldName 0 = .ok (.iconst 0, 1) := by decide +kernel
theorem dX12_toldName_1 : decode cX12_toldName 1 = .ok (.istore_n 2, 1) := by decide +kernel
theorem dX12_toldName_2 : decode cX12_toldName 2 = .ok (.iconst 0, 1) := by decide +kernel
theorem dX12_toldName_3 : decode cX12_toldName 3 = .ok (.istore_n 3, 1) := by decide +kernel
theorem dX12_toldName_4 : decode cX12_toldName 4 = .ok (.iconst 0, 1) := by decide +kernel
theorem dX12_toldName_5 : decode cX12_toldName 5 = .ok (.istore 4, 2) := by decide +kernel
theorem dX12_toldName_7 : decode cX12_toldName 7 = .ok (.iload 4, 2) := by decide +kernel
theorem dX12_toldName_9 : decode cX12_toldName 9 = .ok (.iconst 4, 1) := by decide +kernel
theorem dX12_toldName_10 : decode cX12_toldName 10 = .ok (.if_icmp .ge 68, 3) := by decide +kernel
theorem dX12_toldName_13 : decode cX12_toldName 13 = .ok (.aload_n 0, 1) := by decide +kernel
theorem dX12_toldName_14 : decode cX12_toldName 14 = .ok (.getfield 62, 3) := by decide +kernel
theorem dX12_toldName_17 : decode cX12_toldName 17 = .ok (.iload_n 1, 1) := by decide +kernel
theorem dX12_toldName_18 : decode cX12_toldName 18 = .ok (.iload 4, 2) := by decide +kernel
theorem dX12_toldName_20 : decode cX12_toldName 20 = .ok (.iadd, 1) := by decide +kernel
theorem dX12_toldName_21 : decode cX12_toldName 21 = .ok (.baload, 1) := by decide +kernel
theorem dX12_toldName_22 : decode cX12_toldName 22 = .ok (.istore 5, 2) := by decide +kernel
theorem dX12_toldName_24 : decode cX12_toldName 24 = .ok (.iload 5, 2) := by decide +kernel
theorem dX12_toldName_26 : decode cX12_toldName 26 = .ok (.iconst 0, 1) := by decide +kernel
theorem dX12_toldName_27 : decode cX12_toldName 27 = .ok (.iconst 5, 1) := by decide +kernel
theorem dX12_toldName_28 : decode cX12_toldName 28 = .ok (.invokestatic 18, 3) := by decide +kernel
theorem dX12_toldName_31 : decode cX12_toldName 31 = .ok (.ifCond .eq 12, 3) := by decide +kernel
theorem dX12_toldName_34 : decode cX12_toldName 34 = .ok (.iload_n 3, 1) := by decide +kernel
theorem dX12_toldName_35 : decode cX12_toldName 35 = .ok (.ifCond .eq 10, 3) := by decide +kernel
theorem dX12_toldName_38 : decode cX12_toldName 38 = .ok (.iload 5, 2) := by decide +kernel
theorem dX12_toldName_40 : decode cX12_toldName 40 = .ok (.ifCond .le 5, 3) := by decide +kernel
theorem dX12_toldName_43 : decode cX12_toldName 43 = .ok (.iconst (-1), 1) := by decide +kernel
theorem dX12_toldName_44 : decode cX12_toldName 44 = .ok (.ireturn, 1) := by decide +kernel
theorem dX12_toldName_45 : decode cX12_toldName 45 = .ok (.iload 5, 2) := by decide +kernel
theorem dX12_toldName_47 : decode cX12_toldName 47 = .ok (.ifCond .ne 7, 3) := by decide +kernel
theorem dX12_toldName_50 : decode cX12_toldName 50 = .ok (.iconst 1, 1) := by decide +kernel
theorem dX12_toldName_51 : decode cX12_toldName 51 = .ok (.goto 4, 3) := by decide +kernel
theorem dX12_toldName_54 : decode cX12_toldName 54 = .ok (.iconst 0, 1) := by decide +kernel
theorem dX12_toldName_55 : decode cX12_toldName 55 = .ok (.istore_n 3, 1) := by decide +kernel
theorem dX12_toldName_56 : decode cX12_toldName 56 = .ok (.iload_n 3, 1) := by decide +kernel
theorem dX12_toldName_57 : decode cX12_toldName 57 = .ok (.ifCond .eq 7, 3) := by decide +kernel
theorem dX12_toldName_60 : decode cX12_toldName 60 = .ok (.iload_n 2, 1) := by decide +kernel
theorem dX12_toldName_61 : decode cX12_toldName 61 = .ok (.goto 10, 3) := by decide +kernel
theorem dX12_toldName_64 : decode cX12_toldName 64 = .ok (.bipush 10, 2) := by decide +kernel
theorem dX12_toldName_66 : decode cX12_toldName 66 = .ok (.iload_n 2, 1) := by decide +kernel
theorem dX12_toldName_67 : decode cX12_toldName 67 = .ok (.imul, 1) := by decide +kernel
theorem dX12_toldName_68 : decode cX12_toldName 68 = .ok (.iload 5, 2) := by decide +kernel
theorem dX12_toldName_70 : decode cX12_toldName 70 = .ok (.iadd, 1) := by decide +kernel
theorem dX12_toldName_71 : decode cX12_toldName 71 = .ok (.istore_n 2, 1) := by decide +kernel
theorem dX12_toldName_72 : decode cX12_toldName 72 = .ok (.iinc 4 1, 3) := by decide +kernel
theorem dX12_toldName_75 : decode cX12_toldName 75 = .ok (.goto (-68), 3) := by decide +kernel
theorem dX12_toldName_78 : decode cX12_toldName 78 = .ok (.iload_n 2, 1) := by decide +kernel
theorem dX12_toldName_79 : decode cX12_toldName 79 = .ok (.ifCond .ne 7, 3) := by decide +kernel
theorem dX12_toldName_82 : decode cX12_toldName 82 = .ok (.iconst (-1), 1) := by decide +kernel
theorem dX12_toldName_83 : decode cX12_toldName 83 = .ok (.goto 4, 3) := by decide +kernel
theorem dX12_toldName_86 : decode cX12_toldName 86 = .ok (.iload_n 2, 1) := by decide +kernel
theorem dX12_toldName_87 : decode cX12_toldName 87 = .ok (.ireturn, 1) := by decide +kernel
abbrev mX12_toldName : zq_M := (cX12_toldName, RX12, "toldName", (some .int), 6)
theorem dX12_row_0 : decode cX12_row 0 = .ok (.aload_n 0, 1) := by decide +kernel
theorem dX12_row_1 : decode cX12_row 1 = .ok (.getfield 175, 3) := by decide +kernel
theorem dX12_row_4 : decode cX12_row 4 = .ok (.istore_n 1, 1) := by decide +kernel
theorem dX12_row_5 : decode cX12_row 5 = .ok (.aload_n 0, 1) := by decide +kernel
theorem dX12_row_6 : decode cX12_row 6 = .ok (.iconst 0, 1) := by decide +kernel
theorem dX12_row_7 : decode cX12_row 7 = .ok (.putfield 175, 3) := by decide +kernel
theorem dX12_row_10 : decode cX12_row 10 = .ok (.iload_n 1, 1) := by decide +kernel
theorem dX12_row_11 : decode cX12_row 11 = .ok (.ifCond .ne 10, 3) := by decide +kernel
theorem dX12_row_14 : decode cX12_row 14 = .ok (.aload_n 0, 1) := by decide +kernel
theorem dX12_row_15 : decode cX12_row 15 = .ok (.bipush (-6), 2) := by decide +kernel
theorem dX12_row_17 : decode cX12_row 17 = .ok (.invokevirtual 135, 3) := by decide +kernel
theorem dX12_row_20 : decode cX12_row 20 = .ok (.ireturn, 1) := by decide +kernel
theorem dX12_row_21 : decode cX12_row 21 = .ok (.iconst 0, 1) := by decide +kernel
theorem dX12_row_22 : decode cX12_row 22 = .ok (.istore_n 2, 1) := by decide +kernel
theorem dX12_row_23 : decode cX12_row 23 = .ok (.aload_n 0, 1) := by decide +kernel
theorem dX12_row_24 : decode cX12_row 24 = .ok (.iload_n 1, 1) := by decide +kernel
theorem dX12_row_25 : decode cX12_row 25 = .ok (.iconst 4, 1) := by decide +kernel
theorem dX12_row_26 : decode cX12_row 26 = .ok (.irem, 1) := by decide +kernel
theorem dX12_row_27 : decode cX12_row 27 = .ok (.ifCond .ne 7, 3) := by decide +kernel
theorem dX12_row_30 : decode cX12_row 30 = .ok (.iconst 0, 1) := by decide +kernel
theorem dX12_row_31 : decode cX12_row 31 = .ok (.goto 4, 3) := by decide +kernel
theorem dX12_row_34 : decode cX12_row 34 = .ok (.iconst 1, 1) := by decide +kernel
theorem dX12_row_35 : decode cX12_row 35 = .ok (.putfield 178, 3) := by decide +kernel
theorem dX12_row_38 : decode cX12_row 38 = .ok (.iconst 0, 1) := by decide +kernel
theorem dX12_row_39 : decode cX12_row 39 = .ok (.istore_n 3, 1) := by decide +kernel
theorem dX12_row_40 : decode cX12_row 40 = .ok (.iload_n 3, 1) := by decide +kernel
theorem dX12_row_41 : decode cX12_row 41 = .ok (.iconst 4, 1) := by decide +kernel
theorem dX12_row_42 : decode cX12_row 42 = .ok (.iadd, 1) := by decide +kernel
theorem dX12_row_43 : decode cX12_row 43 = .ok (.iload_n 1, 1) := by decide +kernel
theorem dX12_row_44 : decode cX12_row 44 = .ok (.if_icmp .gt 81, 3) := by decide +kernel
theorem dX12_row_47 : decode cX12_row 47 = .ok (.aload_n 0, 1) := by decide +kernel
theorem dX12_row_48 : decode cX12_row 48 = .ok (.iload_n 3, 1) := by decide +kernel
theorem dX12_row_49 : decode cX12_row 49 = .ok (.invokevirtual 181, 3) := by decide +kernel
theorem dX12_row_52 : decode cX12_row 52 = .ok (.istore 4, 2) := by decide +kernel
theorem dX12_row_54 : decode cX12_row 54 = .ok (.iload 4, 2) := by decide +kernel
theorem dX12_row_56 : decode cX12_row 56 = .ok (.iconst (-1), 1) := by decide +kernel
theorem dX12_row_57 : decode cX12_row 57 = .ok (.if_icmp .eq 16, 3) := by decide +kernel
theorem dX12_row_60 : decode cX12_row 60 = .ok (.aload_n 0, 1) := by decide +kernel
theorem dX12_row_61 : decode cX12_row 61 = .ok (.invokevirtual 141, 3) := by decide +kernel
theorem dX12_row_64 : decode cX12_row 64 = .ok (.bipush 7, 2) := by decide +kernel
theorem dX12_row_66 : decode cX12_row 66 = .ok (.if_icmp .ge 7, 3) := by decide +kernel
theorem dX12_row_69 : decode cX12_row 69 = .ok (.iconst 1, 1) := by decide +kernel
theorem dX12_row_70 : decode cX12_row 70 = .ok (.goto 4, 3) := by decide +kernel
theorem dX12_row_73 : decode cX12_row 73 = .ok (.iconst 0, 1) := by decide +kernel
theorem dX12_row_74 : decode cX12_row 74 = .ok (.istore 5, 2) := by decide +kernel
theorem dX12_row_76 : decode cX12_row 76 = .ok (.iload 5, 2) := by decide +kernel
theorem dX12_row_78 : decode cX12_row 78 = .ok (.ifCond .eq 9, 3) := by decide +kernel
theorem dX12_row_81 : decode cX12_row 81 = .ok (.aload_n 0, 1) := by decide +kernel
theorem dX12_row_82 : decode cX12_row 82 = .ok (.iload 4, 2) := by decide +kernel
theorem dX12_row_84 : decode cX12_row 84 = .ok (.invokevirtual 148, 3) := by decide +kernel
theorem dX12_row_87 : decode cX12_row 87 = .ok (.iload_n 2, 1) := by decide +kernel
theorem dX12_row_88 : decode cX12_row 88 = .ok (.iload 5, 2) := by decide +kernel
theorem dX12_row_90 : decode cX12_row 90 = .ok (.ifCond .eq 7, 3) := by decide +kernel
theorem dX12_row_93 : decode cX12_row 93 = .ok (.iconst 1, 1) := by decide +kernel
theorem dX12_row_94 : decode cX12_row 94 = .ok (.goto 4, 3) := by decide +kernel
theorem dX12_row_97 : decode cX12_row 97 = .ok (.iconst 0, 1) := by decide +kernel
theorem dX12_row_98 : decode cX12_row 98 = .ok (.iadd, 1) := by decide +kernel
theorem dX12_row_99 : decode cX12_row 99 = .ok (.istore_n 2, 1) := by decide +kernel
theorem dX12_row_100 : decode cX12_row 100 = .ok (.aload_n 0, 1) := by decide +kernel
theorem dX12_row_101 : decode cX12_row 101 = .ok (.dup, 1) := by decide +kernel
theorem dX12_row_102 : decode cX12_row 102 = .ok (.getfield 178, 3) := by decide +kernel
theorem dX12_row_105 : decode cX12_row 105 = .ok (.iload 5, 2) := by decide +kernel
theorem dX12_row_107 : decode cX12_row 107 = .ok (.ifCond .eq 7, 3) := by decide +kernel
theorem dX12_row_110 : decode cX12_row 110 = .ok (.iconst 0, 1) := by decide +kernel
theorem dX12_row_111 : decode cX12_row 111 = .ok (.goto 4, 3) := by decide +kernel
theorem dX12_row_114 : decode cX12_row 114 = .ok (.iconst 1, 1) := by decide +kernel
theorem dX12_row_115 : decode cX12_row 115 = .ok (.iadd, 1) := by decide +kernel
theorem dX12_row_116 : decode cX12_row 116 = .ok (.putfield 178, 3) := by decide +kernel
theorem dX12_row_119 : decode cX12_row 119 = .ok (.iinc 3 4, 3) := by decide +kernel
theorem dX12_row_122 : decode cX12_row 122 = .ok (.goto (-82), 3) := by decide +kernel
theorem dX12_row_125 : decode cX12_row 125 = .ok (.aload_n 0, 1) := by decide +kernel
theorem dX12_row_126 : decode cX12_row 126 = .ok (.iload_n 2, 1) := by decide +kernel
theorem dX12_row_127 : decode cX12_row 127 = .ok (.invokevirtual 138, 3) := by decide +kernel
theorem dX12_row_130 : decode cX12_row 130 = .ok (.ireturn, 1) := by decide +kernel
abbrev mX12_row : zq_M := (cX12_row, RX12, "row", (some .int), 6)
theorem dX12_feed_0 : decode cX12_feed 0 = .ok (.aload_n 0, 1) := by decide +kernel
theorem dX12_feed_1 : decode cX12_feed 1 = .ok (.getfield 175, 3) := by decide +kernel
theorem dX12_feed_4 : decode cX12_feed 4 = .ok (.bipush 20, 2) := by decide +kernel
theorem dX12_feed_6 : decode cX12_feed 6 = .ok (.iadd, 1) := by decide +kernel
theorem dX12_feed_7 : decode cX12_feed 7 = .ok (.sipush 400, 3) := by decide +kernel
theorem dX12_feed_10 : decode cX12_feed 10 = .ok (.if_icmp .le 5, 3) := by decide +kernel
theorem dX12_feed_13 : decode cX12_feed 13 = .ok (.iconst (-1), 1) := by decide +kernel
theorem dX12_feed_14 : decode cX12_feed 14 = .ok (.ireturn, 1) := by decide +kernel
theorem dX12_feed_15 : decode cX12_feed 15 = .ok (.aload_n 0, 1) := by decide +kernel
theorem dX12_feed_16 : decode cX12_feed 16 = .ok (.getfield 65, 3) := by decide +kernel
theorem dX12_feed_19 : decode cX12_feed 19 = .ok (.iconst 0, 1) := by decide +kernel
theorem dX12_feed_20 : decode cX12_feed 20 = .ok (.iload_n 1, 1) := by decide +kernel
theorem dX12_feed_21 : decode cX12_feed 21 = .ok (.iastore, 1) := by decide +kernel
theorem dX12_feed_22 : decode cX12_feed 22 = .ok (.aload_n 0, 1) := by decide +kernel
theorem dX12_feed_23 : decode cX12_feed 23 = .ok (.getfield 65, 3) := by decide +kernel
theorem dX12_feed_26 : decode cX12_feed 26 = .ok (.iconst 1, 1) := by decide +kernel
theorem dX12_feed_27 : decode cX12_feed 27 = .ok (.iload_n 2, 1) := by decide +kernel
theorem dX12_feed_28 : decode cX12_feed 28 = .ok (.iastore, 1) := by decide +kernel
theorem dX12_feed_29 : decode cX12_feed 29 = .ok (.aload_n 0, 1) := by decide +kernel
theorem dX12_feed_30 : decode cX12_feed 30 = .ok (.getfield 65, 3) := by decide +kernel
theorem dX12_feed_33 : decode cX12_feed 33 = .ok (.iconst 2, 1) := by decide +kernel
theorem dX12_feed_34 : decode cX12_feed 34 = .ok (.iload_n 3, 1) := by decide +kernel
theorem dX12_feed_35 : decode cX12_feed 35 = .ok (.iastore, 1) := by decide +kernel
theorem dX12_feed_36 : decode cX12_feed 36 = .ok (.aload_n 0, 1) := by decide +kernel
theorem dX12_feed_37 : decode cX12_feed 37 = .ok (.getfield 65, 3) := by decide +kernel
theorem dX12_feed_40 : decode cX12_feed 40 = .ok (.iconst 3, 1) := by decide +kernel
theorem dX12_feed_41 : decode cX12_feed 41 = .ok (.iload 4, 2) := by decide +kernel
theorem dX12_feed_43 : decode cX12_feed 43 = .ok (.iastore, 1) := by decide +kernel
theorem dX12_feed_44 : decode cX12_feed 44 = .ok (.aload_n 0, 1) := by decide +kernel
theorem dX12_feed_45 : decode cX12_feed 45 = .ok (.getfield 65, 3) := by decide +kernel
theorem dX12_feed_48 : decode cX12_feed 48 = .ok (.iconst 4, 1) := by decide +kernel
theorem dX12_feed_49 : decode cX12_feed 49 = .ok (.iload 5, 2) := by decide +kernel
theorem dX12_feed_51 : decode cX12_feed 51 = .ok (.iastore, 1) := by decide +kernel
theorem dX12_feed_52 : decode cX12_feed 52 = .ok (.iconst 0, 1) := by decide +kernel
theorem dX12_feed_53 : decode cX12_feed 53 = .ok (.istore 6, 2) := by decide +kernel
theorem dX12_feed_55 : decode cX12_feed 55 = .ok (.iload 6, 2) := by decide +kernel
theorem dX12_feed_57 : decode cX12_feed 57 = .ok (.bipush 20, 2) := by decide +kernel
theorem dX12_feed_59 : decode cX12_feed 59 = .ok (.if_icmp .ge 42, 3) := by decide +kernel
theorem dX12_feed_62 : decode cX12_feed 62 = .ok (.aload_n 0, 1) := by decide +kernel
theorem dX12_feed_63 : decode cX12_feed 63 = .ok (.getfield 62, 3) := by decide +kernel
theorem dX12_feed_66 : decode cX12_feed 66 = .ok (.aload_n 0, 1) := by decide +kernel
theorem dX12_feed_67 : decode cX12_feed 67 = .ok (.getfield 175, 3) := by decide +kernel
theorem dX12_feed_70 : decode cX12_feed 70 = .ok (.iload 6, 2) := by decide +kernel
theorem dX12_feed_72 : decode cX12_feed 72 = .ok (.iadd, 1) := by decide +kernel
theorem dX12_feed_73 : decode cX12_feed 73 = .ok (.aload_n 0, 1) := by decide +kernel
theorem dX12_feed_74 : decode cX12_feed 74 = .ok (.getfield 65, 3) := by decide +kernel
theorem dX12_feed_77 : decode cX12_feed 77 = .ok (.iload 6, 2) := by decide +kernel
theorem dX12_feed_79 : decode cX12_feed 79 = .ok (.iconst 4, 1) := by decide +kernel
theorem dX12_feed_80 : decode cX12_feed 80 = .ok (.idiv, 1) := by decide +kernel
theorem dX12_feed_81 : decode cX12_feed 81 = .ok (.iaload, 1) := by decide +kernel
theorem dX12_feed_82 : decode cX12_feed 82 = .ok (.bipush 24, 2) := by decide +kernel
theorem dX12_feed_84 : decode cX12_feed 84 = .ok (.bipush 8, 2) := by decide +kernel
theorem dX12_feed_86 : decode cX12_feed 86 = .ok (.iload 6, 2) := by decide +kernel
theorem dX12_feed_88 : decode cX12_feed 88 = .ok (.iconst 4, 1) := by decide +kernel
theorem dX12_feed_89 : decode cX12_feed 89 = .ok (.irem, 1) := by decide +kernel
theorem dX12_feed_90 : decode cX12_feed 90 = .ok (.imul, 1) := by decide +kernel
theorem dX12_feed_91 : decode cX12_feed 91 = .ok (.isub, 1) := by decide +kernel
theorem dX12_feed_92 : decode cX12_feed 92 = .ok (.ishr, 1) := by decide +kernel
theorem dX12_feed_93 : decode cX12_feed 93 = .ok (.i2b, 1) := by decide +kernel
theorem dX12_feed_94 : decode cX12_feed 94 = .ok (.bastore, 1) := by decide +kernel
theorem dX12_feed_95 : decode cX12_feed 95 = .ok (.iinc 6 1, 3) := by decide +kernel
theorem dX12_feed_98 : decode cX12_feed 98 = .ok (.goto (-43), 3) := by decide +kernel
theorem dX12_feed_101 : decode cX12_feed 101 = .ok (.aload_n 0, 1) := by decide +kernel
theorem dX12_feed_102 : decode cX12_feed 102 = .ok (.dup, 1) := by decide +kernel
theorem dX12_feed_103 : decode cX12_feed 103 = .ok (.getfield 175, 3) := by decide +kernel
theorem dX12_feed_106 : decode cX12_feed 106 = .ok (.bipush 20, 2) := by decide +kernel
theorem dX12_feed_108 : decode cX12_feed 108 = .ok (.iadd, 1) := by decide +kernel
theorem dX12_feed_109 : decode cX12_feed 109 = .ok (.putfield 175, 3) := by decide +kernel
theorem dX12_feed_112 : decode cX12_feed 112 = .ok (.aload_n 0, 1) := by decide +kernel
theorem dX12_feed_113 : decode cX12_feed 113 = .ok (.getfield 175, 3) := by decide +kernel
theorem dX12_feed_116 : decode cX12_feed 116 = .ok (.ireturn, 1) := by decide +kernel
abbrev mX12_feed : zq_M := (cX12_feed, RX12, "feed", (some .int), 7)
theorem dX12_end_0 : decode cX12_end 0 = .ok (.iload_n 1, 1) := by decide +kernel
theorem dX12_end_1 : decode cX12_end 1 = .ok (.iconst 0, 1) := by decide +kernel
theorem dX12_end_2 : decode cX12_end 2 = .ok (.aload_n 0, 1) := by decide +kernel
theorem dX12_end_3 : decode cX12_end 3 = .ok (.getfield 175, 3) := by decide +kernel
theorem dX12_end_6 : decode cX12_end 6 = .ok (.invokestatic 18, 3) := by decide +kernel
theorem dX12_end_9 : decode cX12_end 9 = .ok (.ifCond .ne 5, 3) := by decide +kernel
theorem dX12_end_12 : decode cX12_end 12 = .ok (.iconst (-1), 1) := by decide +kernel
theorem dX12_end_13 : decode cX12_end 13 = .ok (.ireturn, 1) := by decide +kernel
theorem dX12_end_14 : decode cX12_end 14 = .ok (.aload_n 0, 1) := by decide +kernel
theorem dX12_end_15 : decode cX12_end 15 = .ok (.iload_n 1, 1) := by decide +kernel
theorem dX12_end_16 : decode cX12_end 16 = .ok (.putfield 175, 3) := by decide +kernel
theorem dX12_end_19 : decode cX12_end 19 = .ok (.iload_n 1, 1) := by decide +kernel
theorem dX12_end_20 : decode cX12_end 20 = .ok (.ireturn, 1) := by decide +kernel
abbrev mX12_end : zq_M := (cX12_end, RX12, "end", (some .int), 2)
section ZL10
variable {l : Launch} {G : zq_G} {D n m : Nat} {σ : zm_S} {ρ : Nat → zq_E} {post : Option Value → Nat → (Nat → zq_E) → Prop}
theorem zm_end {v : Int32} {t : Nat} (hD : 1 ≤ D) (ht : σ.1 14 = nI t) (hf : (decide (nI 0 ≤ v) && decide (v ≤ nI t)) = false → post (some (.int (-1))) n (zm_h σ ρ)) (hp : (decide (nI 0 ≤ v) && decide (v ≤ nI t)) = true → post (some (.int v)) n (zm_h (zm_si σ 14 v) ρ)) : zq_Runs l G D 0 0 yX12_end [.ref 70, .int v] n (zm_h σ ρ) post := by
  refine zq_enter (cc := cX12_end) (nL := 2) (ret := (some .int)) cw_X12_end (by decide) rfl (Nat.le_of_ble_eq_true rfl) ?_
  refine at_iload_n dX12_end_0 rfl ?_
  refine at_iconst dX12_end_1 (v := nI 0) (by decide) ?_
  refine at_aload_n dX12_end_2 rfl ?_
  refine at_get dX12_end_3 fl_X12_175 rfl rfl ?_
  rw [ht]
  refine at_callS3 (d := D - 1) dX12_end_6 ms_X12_18 (Nat.le_of_ble_eq_true rfl) (zq_r0 (by omega) (by omega) (by omega)) ?_
  refine zm_lies ?_
  refine at_if_neB (tgt := 14) dX12_end_9 (by decide) (fun c9 => ?_) (fun c9 => ?_)
  · have hp := hp c9
    refine at_aload_n dX12_end_14 rfl ?_
    refine at_iload_n dX12_end_15 rfl ?_
    refine at_mput dX12_end_16 (pl_X12_175 _) (fun _ => ⟨_, rfl⟩) rfl rfl ?_
    refine at_iload_n dX12_end_19 rfl ?_
    refine at_iret dX12_end_20 rfl (by omega) (by omega) ?_
    exact hp
  · have hp := hf c9
    refine at_iconst dX12_end_12 (v := -1) rfl ?_
    refine at_iret dX12_end_13 rfl (by omega) (by omega) ?_
    exact hp
/-- the bytes of five numbers, the highest first -/
def zby (F : Nat → Int32) (k : Nat) : Int32 := (F (k / 4) >>> (nI (24 - 8 * (k % 4)) &&& 31)).toInt8.toInt32
def zf5 (a b c d e : Int32) (j : Nat) : Int32 := match j with
  | 0 => a
  | 1 => b
  | 2 => c
  | 3 => d
  | _ => e
theorem toInt8_idem (z : Int32) : z.toInt8.toInt32.toInt8.toInt32 = z.toInt8.toInt32 := pk_vb z
theorem zm_feed_loop {v : Int32} {t : Nat} {F : Nat → Int32} {T : Nat → Int32} (hF : σ.2.1 79 = F) (h14 : σ.1 14 = nI t) (h : t ≤ 380) (a b c d e : Int32) (hk : ∀ T' : Nat → Int32, (∀ j, j < t → T' j = T j) → (∀ j, j < 20 → T' (t + j) = zby F j) → (∀ j, t + 20 ≤ j → T' j = T j) → zq_At l G (zq_rm D 0 0) mX12_feed (zq_QF G post 0 0) 101 [(0, .ref 70), (1, .int a), (2, .int b), (3, .int c), (4, .int d), (5, .int e), (6, .int (nI 20))] [] n (zm_h (zsA σ 78 T') ρ) 0 0) :
    ∀ (k i : Nat) (A : Nat → Int32), i + k = 20 → (∀ j, j < t → A j = T j) → (∀ j, j < i → A (t + j) = zby F j) → (∀ j, t + 20 ≤ j → A j = T j) → zq_At l G (zq_rm D 0 0) mX12_feed (zq_QF G post 0 0) 55 [(0, .ref 70), (1, .int a), (2, .int b), (3, .int c), (4, .int d), (5, .int e), (6, .int (nI i))] [] n (zm_h (zsA σ 78 A) ρ) 0 0 := by
  intro k
  have e14 : ∀ A, (zsA σ 78 A).1 14 = nI t := fun _ => h14
  induction k with
  | zero =>
    intro i A hi h1 h2 h3
    obtain rfl : i = 20 := hi
    refine at_iload dX12_feed_55 rfl ?_
    refine at_bipush dX12_feed_57 (v := nI 20) (by decide) ?_
    refine at_geN (tgt := 101) dX12_feed_59 (by decide) (by omega) (by omega) (fun c59 => ?_) (fun c59 => ?_)
    · exact hk A h1 h2 h3
    · omega
  | succ k ih =>
    intro i A hi h1 h2 h3
    have hq : i / 4 < 5 := by omega
    have hr : i % 4 < 4 := Nat.mod_lt _ (by decide)
    refine at_iload dX12_feed_55 rfl ?_
    refine at_bipush dX12_feed_57 (v := nI 20) (by decide) ?_
    refine at_geN (tgt := 101) dX12_feed_59 (by decide) (by omega) (by omega) (fun c59 => ?_) (fun c59 => ?_)
    · omega
    · refine at_aload_n dX12_feed_62 rfl ?_
      refine at_get dX12_feed_63 fl_X12_62 rfl rfl ?_
      refine at_aload_n dX12_feed_66 rfl ?_
      refine at_get dX12_feed_67 fl_X12_175 rfl rfl ?_
      rw [e14]
      refine at_iload dX12_feed_70 rfl ?_
      refine at_iaddN dX12_feed_72 ?_
      refine at_aload_n dX12_feed_73 rfl ?_
      refine at_get dX12_feed_74 fl_X12_65 rfl rfl ?_
      refine at_iload dX12_feed_77 rfl ?_
      refine at_iconst dX12_feed_79 (v := nI 4) (by decide) ?_
      refine at_idivN dX12_feed_80 (by omega) (by omega) (by omega) ?_
      refine at_mald (a := 79) dX12_feed_81 (by decide) (by decide) (by decide) (by decide) rfl rfl (by show _ < 5; omega) (by decide) ?_
      rw [zsA_o _ (by decide), hF]
      refine at_bipush dX12_feed_82 (v := nI 24) (by decide) ?_
      refine at_bipush dX12_feed_84 (v := nI 8) (by decide) ?_
      refine at_iload dX12_feed_86 rfl ?_
      refine at_iconst dX12_feed_88 (v := nI 4) (by decide) ?_
      refine at_iremN dX12_feed_89 (by omega) (by omega) (by omega) ?_
      refine at_imulN dX12_feed_90 ?_
      refine at_isubN dX12_feed_91 (by omega) ?_
      refine at_ishr dX12_feed_92 ?_
      refine at_i2b dX12_feed_93 ?_
      refine at_mbast (a := 78) dX12_feed_94 (by decide) (by decide) (by decide) (by decide) rfl rfl (by show _ < 400; omega) (by decide) ?_
      rw [zsA_a]
      refine at_iincN dX12_feed_95 rfl (by decide) ?_
      refine at_goto (tgt := 55) dX12_feed_98 (by decide) ?_
      refine ih (i + 1) _ (by omega) (fun j hj => ?_) (fun j hj => ?_) (fun j hj => ?_)
      · rw [upd_o _ (by omega)]; exact h1 j hj
      · by_cases e0 : j = i
        · subst e0; rw [upd_s, toInt8_idem]; rfl
        · rw [upd_o _ (by omega)]; exact h2 j (by omega)
      · rw [upd_o _ (by omega)]; exact h3 j hj
theorem zm_feed {a b c d e : Int32} {t : Nat} (h14 : σ.1 14 = nI t) (h4 : t ≤ 400) (hf : 380 < t → post (some (.int (-1))) n (zm_h σ ρ))
    (hp : t ≤ 380 → ∀ F T' : Nat → Int32, (∀ j, j < t → T' j = σ.2.1 78 j) → (∀ j, j < 20 → T' (t + j) = zby (zf5 a b c d e) j) → post (some (.int (nI (t + 20)))) n (zm_h (zm_si (zsA (zsA σ 79 F) 78 T') 14 (nI (t + 20))) ρ)) : zq_Runs l G D 0 0 yX12_feed [.ref 70, .int a, .int b, .int c, .int d, .int e] n (zm_h σ ρ) post := by
  refine zq_enter (cc := cX12_feed) (nL := 7) (ret := (some .int)) cw_X12_feed (by decide) rfl (Nat.le_of_ble_eq_true rfl) ?_
  refine at_aload_n dX12_feed_0 rfl ?_
  refine at_get dX12_feed_1 fl_X12_175 rfl rfl ?_
  rw [h14]
  refine at_bipush dX12_feed_4 (v := nI 20) (by decide) ?_
  refine at_iaddN dX12_feed_6 ?_
  refine at_sipush dX12_feed_7 (v := nI 400) (by decide) ?_
  refine at_leN (tgt := 15) dX12_feed_10 (by decide) (by omega) (by omega) (fun c10 => ?_) (fun c10 => ?_)
  · refine at_aload_n dX12_feed_15 rfl ?_
    refine at_get dX12_feed_16 fl_X12_65 rfl rfl ?_
    refine at_iconst dX12_feed_19 (v := nI 0) (by decide) ?_
    refine at_iload_n dX12_feed_20 rfl ?_
    refine at_mast (a := 79) dX12_feed_21 (by decide) (by decide) (by decide) (by decide) rfl rfl (by show _ < 5; omega) (by decide) ?_
    rw [zsA_m]
    refine at_aload_n dX12_feed_22 rfl ?_
    refine at_get dX12_feed_23 fl_X12_65 rfl rfl ?_
    refine at_iconst dX12_feed_26 (v := nI 1) (by decide) ?_
    refine at_iload_n dX12_feed_27 rfl ?_
    refine at_mast (a := 79) dX12_feed_28 (by decide) (by decide) (by decide) (by decide) rfl rfl (by show _ < 5; omega) (by decide) ?_
    rw [zsA_a]
    refine at_aload_n dX12_feed_29 rfl ?_
    refine at_get dX12_feed_30 fl_X12_65 rfl rfl ?_
    refine at_iconst dX12_feed_33 (v := nI 2) (by decide) ?_
    refine at_iload_n dX12_feed_34 rfl ?_
    refine at_mast (a := 79) dX12_feed_35 (by decide) (by decide) (by decide) (by decide) rfl rfl (by show _ < 5; omega) (by decide) ?_
    rw [zsA_a]
    refine at_aload_n dX12_feed_36 rfl ?_
    refine at_get dX12_feed_37 fl_X12_65 rfl rfl ?_
    refine at_iconst dX12_feed_40 (v := nI 3) (by decide) ?_
    refine at_iload dX12_feed_41 rfl ?_
    refine at_mast (a := 79) dX12_feed_43 (by decide) (by decide) (by decide) (by decide) rfl rfl (by show _ < 5; omega) (by decide) ?_
    rw [zsA_a]
    refine at_aload_n dX12_feed_44 rfl ?_
    refine at_get dX12_feed_45 fl_X12_65 rfl rfl ?_
    refine at_iconst dX12_feed_48 (v := nI 4) (by decide) ?_
    refine at_iload dX12_feed_49 rfl ?_
    refine at_mast (a := 79) dX12_feed_51 (by decide) (by decide) (by decide) (by decide) rfl rfl (by show _ < 5; omega) (by decide) ?_
    rw [zsA_a]
    refine at_iconst dX12_feed_52 (v := nI 0) (by decide) ?_
    refine at_istore dX12_feed_53 (by decide) ?_
    generalize hFF : upd (upd (upd (upd (upd (σ.2.1 79) 0 a) 1 b) 2 c) 3 d) 4 e = FF
    have hF5 : ∀ j, j < 5 → FF j = zf5 a b c d e j := by
      intro j hj
      rw [← hFF]
      rcases (show j = 0 ∨ j = 1 ∨ j = 2 ∨ j = 3 ∨ j = 4 by omega) with rfl | rfl | rfl | rfl | rfl <;> rfl
    have h0 := zm_feed_loop (l := l) (G := G) (D := D) (n := n) (σ := zsA σ 79 FF) (ρ := ρ) (post := post) (v := 0) (F := FF) (T := σ.2.1 78) (zsA_s _ _ _) h14 (by omega) a b c d e (fun T' g1 g2 g3 => by
      have hp2 := hp (by omega) FF T' g1 (fun j hj => by rw [g2 j hj]; unfold zby; rw [hF5 _ (by omega)])
      have e14 : (zsA (zsA σ 79 FF) 78 T').1 14 = nI t := h14
      refine at_aload_n dX12_feed_101 rfl ?_
      refine at_dup dX12_feed_102 rfl ?_
      refine at_get dX12_feed_103 fl_X12_175 rfl rfl ?_
      rw [e14]
      refine at_bipush dX12_feed_106 (v := nI 20) (by decide) ?_
      refine at_iaddN dX12_feed_108 ?_
      refine at_mput dX12_feed_109 (pl_X12_175 _) (fun _ => ⟨_, rfl⟩) rfl rfl ?_
      refine at_aload_n dX12_feed_112 rfl ?_
      refine at_get dX12_feed_113 fl_X12_175 rfl rfl ?_
      rw [zsi_s]
      refine at_iret dX12_feed_116 rfl (by omega) (by omega) ?_
      exact hp2
      ) 20 0 (σ.2.1 78) rfl (fun _ _ => rfl) (fun j hj => absurd hj (Nat.not_lt_zero _)) (fun _ _ => rfl)
    rw [show zsA (zsA σ 79 FF) 78 (σ.2.1 78) = zsA σ 79 FF by rw [show σ.2.1 78 = (zsA σ 79 FF).2.1 78 from (zsA_o _ (by decide) _).symm, zsA_0]] at h0
    exact h0
  · have hp := hf (by omega)
    refine at_iconst dX12_feed_13 (v := -1) rfl ?_
    refine at_iret dX12_feed_14 rfl (by omega) (by omega) ?_
    exact hp
/-- the name that four bytes are (0: none): x so far, e whether it has ended -/
def ztn (B : Nat → Int32) : Nat → Nat → Nat → Bool → Nat
  | 0, _, x, _ => x
  | k + 1, i, x, e => if (decide (nI 0 ≤ B i) && decide (B i ≤ nI 5)) = false ∨ (e = true ∧ 0 < B i) then 0 else if B i = 0 then ztn B k (i + 1) x true else ztn B k (i + 1) (10 * x + (B i).toNatClampNeg) false
theorem ztn_le (B : Nat → Int32) : ∀ k i x e, ztn B k i x e ≤ (x + 1) * 10 ^ k
  | 0, _, x, _ => by unfold ztn; omega
  | k + 1, i, x, e => by
    unfold ztn
    split
    · exact Nat.zero_le _
    · next hc =>
      have hp : 0 < 10 ^ k := Nat.pow_pos (by decide)
      split
      · refine Nat.le_trans (ztn_le B k (i + 1) x true) ?_
        rw [Nat.pow_succ]
        exact Nat.mul_le_mul_left _ (by omega)
      · refine Nat.le_trans (ztn_le B k (i + 1) _ false) ?_
        have hb : (decide (nI 0 ≤ B i) && decide (B i ≤ nI 5)) = true := by
          cases hq : (decide (nI 0 ≤ B i) && decide (B i ≤ nI 5)) with
          | true => rfl
          | false => exact absurd (Or.inl hq) hc
        obtain ⟨y, -, h5, hy⟩ := zlies_n (by decide) (by decide) hb
        rw [hy, nI_clamp (by omega), Nat.pow_succ]
        have : (10 * x + y + 1) * 10 ^ k ≤ (10 * (x + 1)) * 10 ^ k := Nat.mul_le_mul_right _ (by omega)
        refine Nat.le_trans this ?_
        rw [Nat.mul_comm 10 (x + 1), Nat.mul_assoc, Nat.mul_comm 10 (10 ^ k)]
        exact Nat.le_refl _
/-- as the Model tells it: -1 for none -/
def znn (x : Nat) : Int32 := if x = 0 then -1 else nI x
theorem zm_toldName_loop {s : Nat} (hD : 1 ≤ D) (hs : s + 4 ≤ 400) : ∀ (k i x : Nat) (e : Bool), i + k = 4 → x < 10 ^ i → post (some (.int (znn (ztn (fun j => σ.2.1 78 (s + j)) k i x e)))) n (zm_h σ ρ) → zq_At l G (zq_rm D 0 0) mX12_toldName (zq_QF G post 0 0) 7 [(0, .ref 70), (1, .int (nI s)), (2, .int (nI x)), (3, .int (zb e)), (4, .int (nI i))] [] n (zm_h σ ρ) 0 0 := by
  intro k
  induction k with
  | zero =>
    intro i x e hi hx hp
    obtain rfl : i = 4 := hi
    have hx4 : x < 10000 := hx
    unfold ztn znn at hp
    refine at_iload dX12_toldName_7 rfl ?_
    refine at_iconst dX12_toldName_9 (v := nI 4) (by decide) ?_
    refine at_geN (tgt := 78) dX12_toldName_10 (by decide) (by omega) (by omega) (fun c10 => ?_) (fun c10 => ?_)
    · refine at_iload_n dX12_toldName_78 rfl ?_
      refine at_if_neN (tgt := 86) dX12_toldName_79 (by decide) (by omega) (fun c79 => ?_) (fun c79 => ?_)
      · rw [if_neg c79] at hp
        refine at_iload_n dX12_toldName_86 rfl ?_
        refine at_iret dX12_toldName_87 rfl (by omega) (by omega) ?_
        exact hp
      · rw [if_pos c79] at hp
        refine at_iconst dX12_toldName_82 (v := -1) rfl ?_
        refine at_goto (tgt := 87) dX12_toldName_83 (by decide) ?_
        refine at_iret dX12_toldName_87 rfl (by omega) (by omega) ?_
        exact hp
    · omega
  | succ k ih =>
    intro i x e hi hx hp
    unfold ztn at hp
    have hx4 : x < 10 ^ 4 := Nat.lt_of_lt_of_le hx (Nat.pow_le_pow_right (by decide) (by omega))
    have hpw : 10 ^ (i + 1) = 10 ^ i * 10 := Nat.pow_succ ..
    refine at_iload dX12_toldName_7 rfl ?_
    refine at_iconst dX12_toldName_9 (v := nI 4) (by decide) ?_
    refine at_geN (tgt := 78) dX12_toldName_10 (by decide) (by omega) (by omega) (fun c10 => ?_) (fun c10 => ?_)
    · omega
    · refine at_aload_n dX12_toldName_13 rfl ?_
      refine at_get dX12_toldName_14 fl_X12_62 rfl rfl ?_
      refine at_iload_n dX12_toldName_17 rfl ?_
      refine at_iload dX12_toldName_18 rfl ?_
      refine at_iaddN dX12_toldName_20 ?_
      refine at_mbald (a := 78) dX12_toldName_21 (by decide) (by decide) (by decide) (by decide) rfl rfl (by show _ < 400; omega) (by decide) ?_
      refine at_istore dX12_toldName_22 (by decide) ?_
      refine at_iload dX12_toldName_24 rfl ?_
      refine at_iconst dX12_toldName_26 (v := nI 0) (by decide) ?_
      refine at_iconst dX12_toldName_27 (v := nI 5) (by decide) ?_
      refine at_callS3 (d := D - 1) dX12_toldName_28 ms_X12_18 (Nat.le_of_ble_eq_true rfl) (zq_r0 (by omega) (by omega) (by omega)) ?_
      refine zm_lies ?_
      refine at_if_eqB (tgt := 43) dX12_toldName_31 (by decide) (fun c31 => ?_) (fun c31 => ?_)
      · rw [if_pos (Or.inl c31)] at hp
        refine at_iconst dX12_toldName_43 (v := -1) rfl ?_
        refine at_iret dX12_toldName_44 rfl (by omega) (by omega) ?_
        exact hp
      · obtain ⟨y, -, h5, hy⟩ := zlies_n (by decide) (by decide) c31
        refine at_iload_n dX12_toldName_34 rfl ?_
        refine at_if_eqB (tgt := 45) dX12_toldName_35 (by decide) (fun c35 => ?_) (fun c35 => ?_)
        · rw [if_neg (fun h => by rcases h with h | h; rw [c31] at h; cases h; rw [c35] at h; cases h.1)] at hp
          refine at_iload dX12_toldName_45 rfl ?_
          refine at_if_ne (tgt := 54) dX12_toldName_47 (by decide) (fun c47 => ?_) (fun c47 => ?_)
          · rw [if_neg c47] at hp
            refine at_iconst dX12_toldName_54 (v := nI 0) (by decide) ?_
            refine at_istore_n dX12_toldName_55 rfl (by decide) ?_
            refine at_iload_n dX12_toldName_56 rfl ?_
            refine at_if_eqN (tgt := 64) dX12_toldName_57 (by decide) (by omega) (fun c57 => ?_) (fun c57 => ?_)
            · refine at_bipush dX12_toldName_64 (v := nI 10) (by decide) ?_
              refine at_iload_n dX12_toldName_66 rfl ?_
              refine at_imulN dX12_toldName_67 ?_
              rw [hy]
              refine at_iload dX12_toldName_68 rfl ?_
              skip
              refine at_iaddN dX12_toldName_70 ?_
              refine at_istore_n dX12_toldName_71 rfl (by decide) ?_
              refine at_iincN dX12_toldName_72 rfl (by decide) ?_
              refine at_goto (tgt := 7) dX12_toldName_75 (by decide) ?_
              rw [hy, nI_clamp (by omega)] at hp
              exact at_lv [0, 1, 2, 3, 4] (ih (i + 1) (10 * x + y) false (by omega) (by omega) hp)
            · omega
          · rw [if_pos c47] at hp
            refine at_iconst dX12_toldName_50 (v := nI 1) (by decide) ?_
            refine at_goto (tgt := 55) dX12_toldName_51 (by decide) ?_
            refine at_istore_n dX12_toldName_55 rfl (by decide) ?_
            refine at_iload_n dX12_toldName_56 rfl ?_
            refine at_if_eqN (tgt := 64) dX12_toldName_57 (by decide) (by omega) (fun c57 => ?_) (fun c57 => ?_)
            · omega
            · refine at_iload_n dX12_toldName_60 rfl ?_
              refine at_goto (tgt := 71) dX12_toldName_61 (by decide) ?_
              refine at_istore_n dX12_toldName_71 rfl (by decide) ?_
              refine at_iincN dX12_toldName_72 rfl (by decide) ?_
              refine at_goto (tgt := 7) dX12_toldName_75 (by decide) ?_
              exact at_lv [0, 1, 2, 3, 4] (ih (i + 1) x true (by omega) (by omega) hp)
        · refine at_iload dX12_toldName_38 rfl ?_
          refine at_if_le (tgt := 45) dX12_toldName_40 (by decide) (fun c40 => ?_) (fun c40 => ?_)
          · rw [if_neg (fun h => by rcases h with h | h; rw [c31] at h; cases h; exact Int32.not_lt.mpr c40 h.2)] at hp
            refine at_iload dX12_toldName_45 rfl ?_
            refine at_if_ne (tgt := 54) dX12_toldName_47 (by decide) (fun c47 => ?_) (fun c47 => ?_)
            · rw [if_neg c47] at hp
              refine at_iconst dX12_toldName_54 (v := nI 0) (by decide) ?_
              refine at_istore_n dX12_toldName_55 rfl (by decide) ?_
              refine at_iload_n dX12_toldName_56 rfl ?_
              refine at_if_eqN (tgt := 64) dX12_toldName_57 (by decide) (by omega) (fun c57 => ?_) (fun c57 => ?_)
              · refine at_bipush dX12_toldName_64 (v := nI 10) (by decide) ?_
                refine at_iload_n dX12_toldName_66 rfl ?_
                refine at_imulN dX12_toldName_67 ?_
                rw [hy]
                refine at_iload dX12_toldName_68 rfl ?_
                skip
                refine at_iaddN dX12_toldName_70 ?_
                refine at_istore_n dX12_toldName_71 rfl (by decide) ?_
                refine at_iincN dX12_toldName_72 rfl (by decide) ?_
                refine at_goto (tgt := 7) dX12_toldName_75 (by decide) ?_
                rw [hy, nI_clamp (by omega)] at hp
                exact at_lv [0, 1, 2, 3, 4] (ih (i + 1) (10 * x + y) false (by omega) (by omega) hp)
              · omega
            · rw [if_pos c47] at hp
              refine at_iconst dX12_toldName_50 (v := nI 1) (by decide) ?_
              refine at_goto (tgt := 55) dX12_toldName_51 (by decide) ?_
              refine at_istore_n dX12_toldName_55 rfl (by decide) ?_
              refine at_iload_n dX12_toldName_56 rfl ?_
              refine at_if_eqN (tgt := 64) dX12_toldName_57 (by decide) (by omega) (fun c57 => ?_) (fun c57 => ?_)
              · omega
              · refine at_iload_n dX12_toldName_60 rfl ?_
                refine at_goto (tgt := 71) dX12_toldName_61 (by decide) ?_
                refine at_istore_n dX12_toldName_71 rfl (by decide) ?_
                refine at_iincN dX12_toldName_72 rfl (by decide) ?_
                refine at_goto (tgt := 7) dX12_toldName_75 (by decide) ?_
                exact at_lv [0, 1, 2, 3, 4] (ih (i + 1) x true (by omega) (by omega) hp)
          · rw [if_pos (Or.inr ⟨c35, Int32.not_le.mp c40⟩)] at hp
            refine at_iconst dX12_toldName_43 (v := -1) rfl ?_
            refine at_iret dX12_toldName_44 rfl (by omega) (by omega) ?_
            exact hp
/-- the name that begins at byte s of the tape; 0: none -/
def ztold (T : Nat → Int32) (s : Nat) : Nat := ztn (fun j => T (s + j)) 4 0 0 false
theorem zm_toldName {s : Nat} (hD : 2 ≤ D) (hs : s + 4 ≤ 400) (hp : post (some (.int (znn (ztold (σ.2.1 78) s)))) n (zm_h σ ρ)) : zq_Runs l G D 0 0 yX12_toldName [.ref 70, .int (nI s)] n (zm_h σ ρ) post := by
  refine zq_enter (cc := cX12_toldName) (nL := 6) (ret := (some .int)) cw_X12_toldName (by decide) rfl (Nat.le_of_ble_eq_true rfl) ?_
  refine at_iconst dX12_toldName_0 (v := nI 0) (by decide) ?_
  refine at_istore_n dX12_toldName_1 rfl (by decide) ?_
  refine at_iconst dX12_toldName_2 (v := nI 0) (by decide) ?_
  refine at_istore_n dX12_toldName_3 rfl (by decide) ?_
  refine at_iconst dX12_toldName_4 (v := nI 0) (by decide) ?_
  refine at_istore dX12_toldName_5 (by decide) ?_
  exact zm_toldName_loop (by omega) hs 4 0 0 false rfl (by decide) hp
end ZL10

