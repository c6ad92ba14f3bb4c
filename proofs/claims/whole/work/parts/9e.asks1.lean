/-! ===== calls on both sides: what is only asked ===== -/
theorem dX11_status_0 : decode cX11_status 0 = .ok (.aload_n 0, 1) := by decide +kernel
theorem dX11_status_1 : decode cX11_status 1 = .ok (.getfield 94, 3) := by decide +kernel
theorem dX11_status_4 : decode cX11_status 4 = .ok (.ireturn, 1) := by decide +kernel
abbrev mX11_status : zq_M := (cX11_status, RX11, "status", (some .int), 1)
theorem dX11_misprints_0 : decode cX11_misprints 0 = .ok (.aload_n 0, 1) := by decide +kernel
theorem dX11_misprints_1 : decode cX11_misprints 1 = .ok (.getfield 91, 3) := by decide +kernel
theorem dX11_misprints_4 : decode cX11_misprints 4 = .ok (.ireturn, 1) := by decide +kernel
abbrev mX11_misprints : zq_M := (cX11_misprints, RX11, "misprints", (some .int), 1)
theorem dX11_fault_0 : decode cX11_fault 0 = .ok (.aload_n 0, 1) := by decide +kernel
theorem dX11_fault_1 : decode cX11_fault 1 = .ok (.getfield 85, 3) := by decide +kernel
theorem dX11_fault_4 : decode cX11_fault 4 = .ok (.ireturn, 1) := by decide +kernel
abbrev mX11_fault : zq_M := (cX11_fault, RX11, "fault", (some .int), 1)
theorem dX11_stopped_0 : decode cX11_stopped 0 = .ok (.aload_n 0, 1) := by decide +kernel
theorem dX11_stopped_1 : decode cX11_stopped 1 = .ok (.getfield 88, 3) := by decide +kernel
theorem dX11_stopped_4 : decode cX11_stopped 4 = .ok (.ireturn, 1) := by decide +kernel
abbrev mX11_stopped : zq_M := (cX11_stopped, RX11, "stopped", (some .int), 1)
theorem dX11_alphabet_0 : decode cX11_alphabet 0 = .ok (.aload_n 0, 1) := by decide +kernel
theorem dX11_alphabet_1 : decode cX11_alphabet 1 = .ok (.getfield 12, 3) := by decide +kernel
theorem dX11_alphabet_4 : decode cX11_alphabet 4 = .ok (.invokevirtual 165, 3) := by decide +kernel
theorem dX11_alphabet_7 : decode cX11_alphabet 7 = .ok (.ireturn, 1) := by decide +kernel
abbrev mX11_alphabet : zq_M := (cX11_alphabet, RX11, "alphabet", (some .int), 1)
theorem dX11_at_0 : decode cX11_at 0 = .ok (.aload_n 0, 1) := by decide +kernel
theorem dX11_at_1 : decode cX11_at 1 = .ok (.getfield 12, 3) := by decide +kernel
theorem dX11_at_4 : decode cX11_at 4 = .ok (.iload_n 1, 1) := by decide +kernel
theorem dX11_at_5 : decode cX11_at 5 = .ok (.invokevirtual 120, 3) := by decide +kernel
theorem dX11_at_8 : decode cX11_at 8 = .ok (.ifCond .eq 15, 3) := by decide +kernel
theorem dX11_at_11 : decode cX11_at 11 = .ok (.aload_n 0, 1) := by decide +kernel
theorem dX11_at_12 : decode cX11_at 12 = .ok (.getfield 12, 3) := by decide +kernel
theorem dX11_at_15 : decode cX11_at 15 = .ok (.getfield 141, 3) := by decide +kernel
theorem dX11_at_18 : decode cX11_at 18 = .ok (.iload_n 1, 1) := by decide +kernel
theorem dX11_at_19 : decode cX11_at 19 = .ok (.iaload, 1) := by decide +kernel
theorem dX11_at_20 : decode cX11_at 20 = .ok (.goto 4, 3) := by decide +kernel
theorem dX11_at_23 : decode cX11_at 23 = .ok (.iconst (-1), 1) := by decide +kernel
theorem dX11_at_24 : decode cX11_at 24 = .ok (.ireturn, 1) := by decide +kernel
abbrev mX11_at : zq_M := (cX11_at, RX11, "at", (some .int), 2)
theorem dX11_breaks_0 : decode cX11_breaks 0 = .ok (.aload_n 0, 1) := by decide +kernel
theorem dX11_breaks_1 : decode cX11_breaks 1 = .ok (.getfield 12, 3) := by decide +kernel
theorem dX11_breaks_4 : decode cX11_breaks 4 = .ok (.iload_n 1, 1) := by decide +kernel
theorem dX11_breaks_5 : decode cX11_breaks 5 = .ok (.invokevirtual 273, 3) := by decide +kernel
theorem dX11_breaks_8 : decode cX11_breaks 8 = .ok (.ireturn, 1) := by decide +kernel
abbrev mX11_breaks : zq_M := (cX11_breaks, RX11, "breaks", (some .int), 2)
theorem dX11_swaps_0 : decode cX11_swaps 0 = .ok (.aload_n 0, 1) := by decide +kernel
theorem dX11_swaps_1 : decode cX11_swaps 1 = .ok (.getfield 12, 3) := by decide +kernel
theorem dX11_swaps_4 : decode cX11_swaps 4 = .ok (.invokevirtual 276, 3) := by decide +kernel
theorem dX11_swaps_7 : decode cX11_swaps 7 = .ok (.ireturn, 1) := by decide +kernel
abbrev mX11_swaps : zq_M := (cX11_swaps, RX11, "swaps", (some .int), 1)
theorem dX11_out_0 : decode cX11_out 0 = .ok (.iload_n 1, 1) := by decide +kernel
theorem dX11_out_1 : decode cX11_out 1 = .ok (.ifCond .eq 10, 3) := by decide +kernel
theorem dX11_out_4 : decode cX11_out 4 = .ok (.iload_n 1, 1) := by decide +kernel
theorem dX11_out_5 : decode cX11_out 5 = .ok (.iconst 1, 1) := by decide +kernel
theorem dX11_out_6 : decode cX11_out 6 = .ok (.if_icmp .eq 5, 3) := by decide +kernel
theorem dX11_out_9 : decode cX11_out 9 = .ok (.iconst (-1), 1) := by decide +kernel
theorem dX11_out_10 : decode cX11_out 10 = .ok (.ireturn, 1) := by decide +kernel
theorem dX11_out_11 : decode cX11_out 11 = .ok (.aload_n 0, 1) := by decide +kernel
theorem dX11_out_12 : decode cX11_out 12 = .ok (.getfield 12, 3) := by decide +kernel
theorem dX11_out_15 : decode cX11_out 15 = .ok (.invokevirtual 279, 3) := by decide +kernel
theorem dX11_out_18 : decode cX11_out 18 = .ok (.istore_n 2, 1) := by decide +kernel
theorem dX11_out_19 : decode cX11_out 19 = .ok (.iload_n 1, 1) := by decide +kernel
theorem dX11_out_20 : decode cX11_out 20 = .ok (.ifCond .ne 10, 3) := by decide +kernel
theorem dX11_out_23 : decode cX11_out 23 = .ok (.iload_n 2, 1) := by decide +kernel
theorem dX11_out_24 : decode cX11_out 24 = .ok (.invokestatic 282, 3) := by decide +kernel
theorem dX11_out_27 : decode cX11_out 27 = .ok (.goto 4, 3) := by decide +kernel
theorem dX11_out_30 : decode cX11_out 30 = .ok (.iload_n 2, 1) := by decide +kernel
theorem dX11_out_31 : decode cX11_out 31 = .ok (.ireturn, 1) := by decide +kernel
abbrev mX11_out : zq_M := (cX11_out, RX11, "out", (some .int), 3)
theorem dX11_whisper_0 : decode cX11_whisper 0 = .ok (.iload_n 1, 1) := by decide +kernel
theorem dX11_whisper_1 : decode cX11_whisper 1 = .ok (.invokestatic 147, 3) := by decide +kernel
theorem dX11_whisper_4 : decode cX11_whisper 4 = .ok (.ifCond .eq 14, 3) := by decide +kernel
theorem dX11_whisper_7 : decode cX11_whisper 7 = .ok (.aload_n 0, 1) := by decide +kernel
theorem dX11_whisper_8 : decode cX11_whisper 8 = .ok (.getfield 12, 3) := by decide +kernel
theorem dX11_whisper_11 : decode cX11_whisper 11 = .ok (.iload_n 1, 1) := by decide +kernel
theorem dX11_whisper_12 : decode cX11_whisper 12 = .ok (.invokevirtual 324, 3) := by decide +kernel
theorem dX11_whisper_15 : decode cX11_whisper 15 = .ok (.goto 4, 3) := by decide +kernel
theorem dX11_whisper_18 : decode cX11_whisper 18 = .ok (.iconst (-1), 1) := by decide +kernel
theorem dX11_whisper_19 : decode cX11_whisper 19 = .ok (.ireturn, 1) := by decide +kernel
abbrev mX11_whisper : zq_M := (cX11_whisper, RX11, "whisper", (some .int), 2)
theorem dX11_drawn_0 : decode cX11_drawn 0 = .ok (.aload_n 0, 1) := by decide +kernel
theorem dX11_drawn_1 : decode cX11_drawn 1 = .ok (.getfield 23, 3) := by decide +kernel
theorem dX11_drawn_4 : decode cX11_drawn 4 = .ok (.iload_n 1, 1) := by decide +kernel
theorem dX11_drawn_5 : decode cX11_drawn 5 = .ok (.invokevirtual 120, 3) := by decide +kernel
theorem dX11_drawn_8 : decode cX11_drawn 8 = .ok (.ifCond .ne 5, 3) := by decide +kernel
theorem dX11_drawn_11 : decode cX11_drawn 11 = .ok (.iconst (-1), 1) := by decide +kernel
theorem dX11_drawn_12 : decode cX11_drawn 12 = .ok (.ireturn, 1) := by decide +kernel
theorem dX11_drawn_13 : decode cX11_drawn 13 = .ok (.iload_n 2, 1) := by decide +kernel
theorem dX11_drawn_14 : decode cX11_drawn 14 = .ok (.ifCond .ne 13, 3) := by decide +kernel
theorem dX11_drawn_17 : decode cX11_drawn 17 = .ok (.aload_n 0, 1) := by decide +kernel
theorem dX11_drawn_18 : decode cX11_drawn 18 = .ok (.getfield 23, 3) := by decide +kernel
theorem dX11_drawn_21 : decode cX11_drawn 21 = .ok (.getfield 123, 3) := by decide +kernel
theorem dX11_drawn_24 : decode cX11_drawn 24 = .ok (.iload_n 1, 1) := by decide +kernel
theorem dX11_drawn_25 : decode cX11_drawn 25 = .ok (.iaload, 1) := by decide +kernel
theorem dX11_drawn_26 : decode cX11_drawn 26 = .ok (.ireturn, 1) := by decide +kernel
theorem dX11_drawn_27 : decode cX11_drawn 27 = .ok (.iload_n 2, 1) := by decide +kernel
theorem dX11_drawn_28 : decode cX11_drawn 28 = .ok (.iconst 1, 1) := by decide +kernel
theorem dX11_drawn_29 : decode cX11_drawn 29 = .ok (.if_icmp .ne 15, 3) := by decide +kernel
theorem dX11_drawn_32 : decode cX11_drawn 32 = .ok (.aload_n 0, 1) := by decide +kernel
theorem dX11_drawn_33 : decode cX11_drawn 33 = .ok (.getfield 23, 3) := by decide +kernel
theorem dX11_drawn_36 : decode cX11_drawn 36 = .ok (.getfield 126, 3) := by decide +kernel
theorem dX11_drawn_39 : decode cX11_drawn 39 = .ok (.iload_n 1, 1) := by decide +kernel
theorem dX11_drawn_40 : decode cX11_drawn 40 = .ok (.iaload, 1) := by decide +kernel
theorem dX11_drawn_41 : decode cX11_drawn 41 = .ok (.goto 4, 3) := by decide +kernel
theorem dX11_drawn_44 : decode cX11_drawn 44 = .ok (.iconst (-1), 1) := by decide +kernel
theorem dX11_drawn_45 : decode cX11_drawn 45 = .ok (.ireturn, 1) := by decide +kernel
abbrev mX11_drawn : zq_M := (cX11_drawn, RX11, "drawn", (some .int), 3)
theorem dX11_of_0 : decode cX11_of 0 = .ok (.aload_n 0, 1) := by decide +kernel
theorem dX11_of_1 : decode cX11_of 1 = .ok (.getfield 12, 3) := by decide +kernel
theorem dX11_of_4 : decode cX11_of 4 = .ok (.iload_n 1, 1) := by decide +kernel
theorem dX11_of_5 : decode cX11_of 5 = .ok (.invokevirtual 120, 3) := by decide +kernel
theorem dX11_of_8 : decode cX11_of 8 = .ok (.ifCond .ne 5, 3) := by decide +kernel
theorem dX11_of_11 : decode cX11_of 11 = .ok (.iconst (-1), 1) := by decide +kernel
theorem dX11_of_12 : decode cX11_of 12 = .ok (.ireturn, 1) := by decide +kernel
theorem dX11_of_13 : decode cX11_of 13 = .ok (.iload_n 2, 1) := by decide +kernel
theorem dX11_of_14 : decode cX11_of 14 = .ok (.tableswitch 98 0 3 #[30, 40, 50, 70], 30) := by decide +kernel
theorem dX11_of_44 : decode cX11_of 44 = .ok (.aload_n 0, 1) := by decide +kernel
theorem dX11_of_45 : decode cX11_of 45 = .ok (.getfield 12, 3) := by decide +kernel
theorem dX11_of_48 : decode cX11_of 48 = .ok (.getfield 123, 3) := by decide +kernel
theorem dX11_of_51 : decode cX11_of 51 = .ok (.iload_n 1, 1) := by decide +kernel
theorem dX11_of_52 : decode cX11_of 52 = .ok (.iaload, 1) := by decide +kernel
theorem dX11_of_53 : decode cX11_of 53 = .ok (.ireturn, 1) := by decide +kernel
theorem dX11_of_54 : decode cX11_of 54 = .ok (.aload_n 0, 1) := by decide +kernel
theorem dX11_of_55 : decode cX11_of 55 = .ok (.getfield 12, 3) := by decide +kernel
theorem dX11_of_58 : decode cX11_of 58 = .ok (.getfield 126, 3) := by decide +kernel
theorem dX11_of_61 : decode cX11_of 61 = .ok (.iload_n 1, 1) := by decide +kernel
theorem dX11_of_62 : decode cX11_of 62 = .ok (.iaload, 1) := by decide +kernel
theorem dX11_of_63 : decode cX11_of 63 = .ok (.ireturn, 1) := by decide +kernel
theorem dX11_of_64 : decode cX11_of 64 = .ok (.aload_n 0, 1) := by decide +kernel
theorem dX11_of_65 : decode cX11_of 65 = .ok (.getfield 54, 3) := by decide +kernel
theorem dX11_of_68 : decode cX11_of 68 = .ok (.aload_n 0, 1) := by decide +kernel
theorem dX11_of_69 : decode cX11_of 69 = .ok (.getfield 12, 3) := by decide +kernel
theorem dX11_of_72 : decode cX11_of 72 = .ok (.aload_n 0, 1) := by decide +kernel
theorem dX11_of_73 : decode cX11_of 73 = .ok (.getfield 12, 3) := by decide +kernel
theorem dX11_of_76 : decode cX11_of 76 = .ok (.invokevirtual 129, 3) := by decide +kernel
theorem dX11_of_79 : decode cX11_of 79 = .ok (.iload_n 1, 1) := by decide +kernel
theorem dX11_of_80 : decode cX11_of 80 = .ok (.invokevirtual 133, 3) := by decide +kernel
theorem dX11_of_83 : decode cX11_of 83 = .ok (.ireturn, 1) := by decide +kernel
theorem dX11_of_84 : decode cX11_of 84 = .ok (.aload_n 0, 1) := by decide +kernel
theorem dX11_of_85 : decode cX11_of 85 = .ok (.getfield 54, 3) := by decide +kernel
theorem dX11_of_88 : decode cX11_of 88 = .ok (.aload_n 0, 1) := by decide +kernel
theorem dX11_of_89 : decode cX11_of 89 = .ok (.getfield 12, 3) := by decide +kernel
theorem dX11_of_92 : decode cX11_of 92 = .ok (.aload_n 0, 1) := by decide +kernel
theorem dX11_of_93 : decode cX11_of 93 = .ok (.getfield 12, 3) := by decide +kernel
theorem dX11_of_96 : decode cX11_of 96 = .ok (.invokevirtual 129, 3) := by decide +kernel
theorem dX11_of_99 : decode cX11_of 99 = .ok (.iload_n 1, 1) := by decide +kernel
theorem dX11_of_100 : decode cX11_of 100 = .ok (.invokevirtual 137, 3) := by decide +kernel
theorem dX11_of_103 : decode cX11_of 103 = .ok (.ifCond .eq 7, 3) := by decide +kernel
theorem dX11_of_106 : decode cX11_of 106 = .ok (.iconst 1, 1) := by decide +kernel
theorem dX11_of_107 : decode cX11_of 107 = .ok (.goto 4, 3) := by decide +kernel
theorem dX11_of_110 : decode cX11_of 110 = .ok (.iconst 0, 1) := by decide +kernel
theorem dX11_of_111 : decode cX11_of 111 = .ok (.ireturn, 1) := by decide +kernel
theorem dX11_of_112 : decode cX11_of 112 = .ok (.iconst (-1), 1) := by decide +kernel
theorem dX11_of_113 : decode cX11_of 113 = .ok (.ireturn, 1) := by decide +kernel
abbrev mX11_of : zq_M := (cX11_of, RX11, "of", (some .int), 3)
theorem dX11_asks_0 : decode cX11_asks 0 = .ok (.aload_n 0, 1) := by decide +kernel
theorem dX11_asks_1 : decode cX11_asks 1 = .ok (.getfield 12, 3) := by decide +kernel
theorem dX11_asks_4 : decode cX11_asks 4 = .ok (.iload_n 1, 1) := by decide +kernel
theorem dX11_asks_5 : decode cX11_asks 5 = .ok (.invokevirtual 120, 3) := by decide +kernel
theorem dX11_asks_8 : decode cX11_asks 8 = .ok (.ifCond .eq 17, 3) := by decide +kernel
theorem dX11_asks_11 : decode cX11_asks 11 = .ok (.iload_n 2, 1) := by decide +kernel
theorem dX11_asks_12 : decode cX11_asks 12 = .ok (.invokestatic 144, 3) := by decide +kernel
theorem dX11_asks_15 : decode cX11_asks 15 = .ok (.ifCond .eq 10, 3) := by decide +kernel
theorem dX11_asks_18 : decode cX11_asks 18 = .ok (.iload_n 3, 1) := by decide +kernel
theorem dX11_asks_19 : decode cX11_asks 19 = .ok (.invokestatic 147, 3) := by decide +kernel
theorem dX11_asks_22 : decode cX11_asks 22 = .ok (.ifCond .ne 5, 3) := by decide +kernel
theorem dX11_asks_25 : decode cX11_asks 25 = .ok (.iconst (-1), 1) := by decide +kernel
theorem dX11_asks_26 : decode cX11_asks 26 = .ok (.ireturn, 1) := by decide +kernel
theorem dX11_asks_27 : decode cX11_asks 27 = .ok (.aload_n 0, 1) := by decide +kernel
theorem dX11_asks_28 : decode cX11_asks 28 = .ok (.getfield 12, 3) := by decide +kernel
theorem dX11_asks_31 : decode cX11_asks 31 = .ok (.getfield 123, 3) := by decide +kernel
theorem dX11_asks_34 : decode cX11_asks 34 = .ok (.iload_n 1, 1) := by decide +kernel
theorem dX11_asks_35 : decode cX11_asks 35 = .ok (.iaload, 1) := by decide +kernel
theorem dX11_asks_36 : decode cX11_asks 36 = .ok (.iload_n 2, 1) := by decide +kernel
theorem dX11_asks_37 : decode cX11_asks 37 = .ok (.invokestatic 150, 3) := by decide +kernel
theorem dX11_asks_40 : decode cX11_asks 40 = .ok (.istore 4, 2) := by decide +kernel
theorem dX11_asks_42 : decode cX11_asks 42 = .ok (.iload 4, 2) := by decide +kernel
theorem dX11_asks_44 : decode cX11_asks 44 = .ok (.ifCond .eq 9, 3) := by decide +kernel
theorem dX11_asks_47 : decode cX11_asks 47 = .ok (.iload 4, 2) := by decide +kernel
theorem dX11_asks_49 : decode cX11_asks 49 = .ok (.iload_n 3, 1) := by decide +kernel
theorem dX11_asks_50 : decode cX11_asks 50 = .ok (.if_icmp .ne 5, 3) := by decide +kernel
theorem dX11_asks_53 : decode cX11_asks 53 = .ok (.iconst (-1), 1) := by decide +kernel
theorem dX11_asks_54 : decode cX11_asks 54 = .ok (.ireturn, 1) := by decide +kernel
theorem dX11_asks_55 : decode cX11_asks 55 = .ok (.aload_n 0, 1) := by decide +kernel
theorem dX11_asks_56 : decode cX11_asks 56 = .ok (.getfield 54, 3) := by decide +kernel
theorem dX11_asks_59 : decode cX11_asks 59 = .ok (.aload_n 0, 1) := by decide +kernel
theorem dX11_asks_60 : decode cX11_asks 60 = .ok (.getfield 12, 3) := by decide +kernel
theorem dX11_asks_63 : decode cX11_asks 63 = .ok (.aload_n 0, 1) := by decide +kernel
theorem dX11_asks_64 : decode cX11_asks 64 = .ok (.getfield 12, 3) := by decide +kernel
theorem dX11_asks_67 : decode cX11_asks 67 = .ok (.invokevirtual 129, 3) := by decide +kernel
theorem dX11_asks_70 : decode cX11_asks 70 = .ok (.iload_n 1, 1) := by decide +kernel
theorem dX11_asks_71 : decode cX11_asks 71 = .ok (.iload_n 2, 1) := by decide +kernel
theorem dX11_asks_72 : decode cX11_asks 72 = .ok (.iload_n 3, 1) := by decide +kernel
theorem dX11_asks_73 : decode cX11_asks 73 = .ok (.invokevirtual 154, 3) := by decide +kernel
theorem dX11_asks_76 : decode cX11_asks 76 = .ok (.ireturn, 1) := by decide +kernel
abbrev mX11_asks : zq_M := (cX11_asks, RX11, "asks", (some .int), 5)
theorem dX11_ahead_0 : decode cX11_ahead 0 = .ok (.aload_n 0, 1) := by decide +kernel
theorem dX11_ahead_1 : decode cX11_ahead 1 = .ok (.getfield 12, 3) := by decide +kernel
theorem dX11_ahead_4 : decode cX11_ahead 4 = .ok (.iload_n 1, 1) := by decide +kernel
theorem dX11_ahead_5 : decode cX11_ahead 5 = .ok (.invokevirtual 120, 3) := by decide +kernel
theorem dX11_ahead_8 : decode cX11_ahead 8 = .ok (.ifCond .eq 14, 3) := by decide +kernel
theorem dX11_ahead_11 : decode cX11_ahead 11 = .ok (.aload_n 0, 1) := by decide +kernel
theorem dX11_ahead_12 : decode cX11_ahead 12 = .ok (.getfield 12, 3) := by decide +kernel
theorem dX11_ahead_15 : decode cX11_ahead 15 = .ok (.iload_n 2, 1) := by decide +kernel
theorem dX11_ahead_16 : decode cX11_ahead 16 = .ok (.invokevirtual 120, 3) := by decide +kernel
theorem dX11_ahead_19 : decode cX11_ahead 19 = .ok (.ifCond .ne 5, 3) := by decide +kernel
theorem dX11_ahead_22 : decode cX11_ahead 22 = .ok (.iconst (-1), 1) := by decide +kernel
theorem dX11_ahead_23 : decode cX11_ahead 23 = .ok (.ireturn, 1) := by decide +kernel
theorem dX11_ahead_24 : decode cX11_ahead 24 = .ok (.aload_n 0, 1) := by decide +kernel
theorem dX11_ahead_25 : decode cX11_ahead 25 = .ok (.getfield 12, 3) := by decide +kernel
theorem dX11_ahead_28 : decode cX11_ahead 28 = .ok (.getfield 123, 3) := by decide +kernel
theorem dX11_ahead_31 : decode cX11_ahead 31 = .ok (.iload_n 1, 1) := by decide +kernel
theorem dX11_ahead_32 : decode cX11_ahead 32 = .ok (.iaload, 1) := by decide +kernel
theorem dX11_ahead_33 : decode cX11_ahead 33 = .ok (.aload_n 0, 1) := by decide +kernel
theorem dX11_ahead_34 : decode cX11_ahead 34 = .ok (.getfield 12, 3) := by decide +kernel
theorem dX11_ahead_37 : decode cX11_ahead 37 = .ok (.getfield 123, 3) := by decide +kernel
theorem dX11_ahead_40 : decode cX11_ahead 40 = .ok (.iload_n 2, 1) := by decide +kernel
theorem dX11_ahead_41 : decode cX11_ahead 41 = .ok (.iaload, 1) := by decide +kernel
theorem dX11_ahead_42 : decode cX11_ahead 42 = .ok (.invokestatic 263, 3) := by decide +kernel
theorem dX11_ahead_45 : decode cX11_ahead 45 = .ok (.istore_n 3, 1) := by decide +kernel
theorem dX11_ahead_46 : decode cX11_ahead 46 = .ok (.iload_n 3, 1) := by decide +kernel
theorem dX11_ahead_47 : decode cX11_ahead 47 = .ok (.ifCond .ne 5, 3) := by decide +kernel
theorem dX11_ahead_50 : decode cX11_ahead 50 = .ok (.iconst 0, 1) := by decide +kernel
theorem dX11_ahead_51 : decode cX11_ahead 51 = .ok (.ireturn, 1) := by decide +kernel
theorem dX11_ahead_52 : decode cX11_ahead 52 = .ok (.iload_n 3, 1) := by decide +kernel
theorem dX11_ahead_53 : decode cX11_ahead 53 = .ok (.aload_n 0, 1) := by decide +kernel
theorem dX11_ahead_54 : decode cX11_ahead 54 = .ok (.getfield 12, 3) := by decide +kernel
theorem dX11_ahead_57 : decode cX11_ahead 57 = .ok (.getfield 266, 3) := by decide +kernel
theorem dX11_ahead_60 : decode cX11_ahead 60 = .ok (.invokestatic 269, 3) := by decide +kernel
theorem dX11_ahead_63 : decode cX11_ahead 63 = .ok (.ifCond .eq 7, 3) := by decide +kernel
theorem dX11_ahead_66 : decode cX11_ahead 66 = .ok (.iconst 1, 1) := by decide +kernel
theorem dX11_ahead_67 : decode cX11_ahead 67 = .ok (.goto 4, 3) := by decide +kernel
theorem dX11_ahead_70 : decode cX11_ahead 70 = .ok (.iconst 2, 1) := by decide +kernel
theorem dX11_ahead_71 : decode cX11_ahead 71 = .ok (.ireturn, 1) := by decide +kernel
abbrev mX11_ahead : zq_M := (cX11_ahead, RX11, "ahead", (some .int), 4)
theorem dX11_count_0 : decode cX11_count 0 = .ok (.iload_n 1, 1) := by decide +kernel
theorem dX11_count_1 : decode cX11_count 1 = .ok (.tableswitch 152 0 14 #[75, 83, 92, 100, 108, 116, 121, 121, 121, 121, 121, 131, 139, 139, 139], 75) := by decide +kernel
theorem dX11_count_76 : decode cX11_count 76 = .ok (.aload_n 0, 1) := by decide +kernel
theorem dX11_count_77 : decode cX11_count 77 = .ok (.getfield 12, 3) := by decide +kernel
theorem dX11_count_80 : decode cX11_count 80 = .ok (.getfield 288, 3) := by decide +kernel
theorem dX11_count_83 : decode cX11_count 83 = .ok (.ireturn, 1) := by decide +kernel
theorem dX11_count_84 : decode cX11_count 84 = .ok (.aload_n 0, 1) := by decide +kernel
theorem dX11_count_85 : decode cX11_count 85 = .ok (.getfield 12, 3) := by decide +kernel
theorem dX11_count_88 : decode cX11_count 88 = .ok (.iconst (-1), 1) := by decide +kernel
theorem dX11_count_89 : decode cX11_count 89 = .ok (.invokevirtual 273, 3) := by decide +kernel
theorem dX11_count_92 : decode cX11_count 92 = .ok (.ireturn, 1) := by decide +kernel
theorem dX11_count_93 : decode cX11_count 93 = .ok (.aload_n 0, 1) := by decide +kernel
theorem dX11_count_94 : decode cX11_count 94 = .ok (.getfield 12, 3) := by decide +kernel
theorem dX11_count_97 : decode cX11_count 97 = .ok (.getfield 300, 3) := by decide +kernel
theorem dX11_count_100 : decode cX11_count 100 = .ok (.ireturn, 1) := by decide +kernel
theorem dX11_count_101 : decode cX11_count 101 = .ok (.aload_n 0, 1) := by decide +kernel
theorem dX11_count_102 : decode cX11_count 102 = .ok (.getfield 12, 3) := by decide +kernel
theorem dX11_count_105 : decode cX11_count 105 = .ok (.getfield 182, 3) := by decide +kernel
theorem dX11_count_108 : decode cX11_count 108 = .ok (.ireturn, 1) := by decide +kernel
theorem dX11_count_109 : decode cX11_count 109 = .ok (.aload_n 0, 1) := by decide +kernel
theorem dX11_count_110 : decode cX11_count 110 = .ok (.getfield 29, 3) := by decide +kernel
theorem dX11_count_113 : decode cX11_count 113 = .ok (.getfield 238, 3) := by decide +kernel
theorem dX11_count_116 : decode cX11_count 116 = .ok (.ireturn, 1) := by decide +kernel
theorem dX11_count_117 : decode cX11_count 117 = .ok (.aload_n 0, 1) := by decide +kernel
theorem dX11_count_118 : decode cX11_count 118 = .ok (.getfield 40, 3) := by decide +kernel
theorem dX11_count_121 : decode cX11_count 121 = .ok (.ireturn, 1) := by decide +kernel
theorem dX11_count_122 : decode cX11_count 122 = .ok (.aload_n 0, 1) := by decide +kernel
theorem dX11_count_123 : decode cX11_count 123 = .ok (.getfield 82, 3) := by decide +kernel
theorem dX11_count_126 : decode cX11_count 126 = .ok (.iload_n 1, 1) := by decide +kernel
theorem dX11_count_127 : decode cX11_count 127 = .ok (.bipush 6, 2) := by decide +kernel
theorem dX11_count_129 : decode cX11_count 129 = .ok (.isub, 1) := by decide +kernel
theorem dX11_count_130 : decode cX11_count 130 = .ok (.iaload, 1) := by decide +kernel
theorem dX11_count_131 : decode cX11_count 131 = .ok (.ireturn, 1) := by decide +kernel
theorem dX11_count_132 : decode cX11_count 132 = .ok (.aload_n 0, 1) := by decide +kernel
theorem dX11_count_133 : decode cX11_count 133 = .ok (.getfield 12, 3) := by decide +kernel
theorem dX11_count_136 : decode cX11_count 136 = .ok (.getfield 219, 3) := by decide +kernel
theorem dX11_count_139 : decode cX11_count 139 = .ok (.ireturn, 1) := by decide +kernel
theorem dX11_count_140 : decode cX11_count 140 = .ok (.aload_n 0, 1) := by decide +kernel
theorem dX11_count_141 : decode cX11_count 141 = .ok (.getfield 12, 3) := by decide +kernel
theorem dX11_count_144 : decode cX11_count 144 = .ok (.getfield 172, 3) := by decide +kernel
theorem dX11_count_147 : decode cX11_count 147 = .ok (.iload_n 1, 1) := by decide +kernel
theorem dX11_count_148 : decode cX11_count 148 = .ok (.bipush 12, 2) := by decide +kernel
theorem dX11_count_150 : decode cX11_count 150 = .ok (.isub, 1) := by decide +kernel
theorem dX11_count_151 : decode cX11_count 151 = .ok (.iaload, 1) := by decide +kernel
theorem dX11_count_152 : decode cX11_count 152 = .ok (.ireturn, 1) := by decide +kernel
theorem dX11_count_153 : decode cX11_count 153 = .ok (.iconst (-1), 1) := by decide +kernel
theorem dX11_count_154 : decode cX11_count 154 = .ok (.ireturn, 1) := by decide +kernel
abbrev mX11_count : zq_M := (cX11_count, RX11, "count", (some .int), 2)
theorem dX11_from_0 : decode cX11_from 0 = .ok (.iload_n 1, 1) := by decide +kernel
theorem dX11_from_1 : decode cX11_from 1 = .ok (.invokestatic 147, 3) := by decide +kernel
theorem dX11_from_4 : decode cX11_from 4 = .ok (.ifCond .ne 5, 3) := by decide +kernel
theorem dX11_from_7 : decode cX11_from 7 = .ok (.iconst (-1), 1) := by decide +kernel
theorem dX11_from_8 : decode cX11_from 8 = .ok (.ireturn, 1) := by decide +kernel
theorem dX11_from_9 : decode cX11_from 9 = .ok (.iconst 0, 1) := by decide +kernel
theorem dX11_from_10 : decode cX11_from 10 = .ok (.istore_n 2, 1) := by decide +kernel
theorem dX11_from_11 : decode cX11_from 11 = .ok (.iconst 1, 1) := by decide +kernel
theorem dX11_from_12 : decode cX11_from 12 = .ok (.istore_n 3, 1) := by decide +kernel
theorem dX11_from_13 : decode cX11_from 13 = .ok (.iload_n 3, 1) := by decide +kernel
theorem dX11_from_14 : decode cX11_from 14 = .ok (.iconst 5, 1) := by decide +kernel
theorem dX11_from_15 : decode cX11_from 15 = .ok (.if_icmp .gt 29, 3) := by decide +kernel
theorem dX11_from_18 : decode cX11_from 18 = .ok (.aload_n 0, 1) := by decide +kernel
theorem dX11_from_19 : decode cX11_from 19 = .ok (.getfield 12, 3) := by decide +kernel
theorem dX11_from_22 : decode cX11_from 22 = .ok (.iload_n 3, 1) := by decide +kernel
theorem dX11_from_23 : decode cX11_from 23 = .ok (.invokevirtual 324, 3) := by decide +kernel
theorem dX11_from_26 : decode cX11_from 26 = .ok (.iload_n 1, 1) := by decide +kernel
theorem dX11_from_27 : decode cX11_from 27 = .ok (.if_icmp .ne 11, 3) := by decide +kernel
theorem dX11_from_30 : decode cX11_from 30 = .ok (.iload_n 2, 1) := by decide +kernel
theorem dX11_from_31 : decode cX11_from 31 = .ok (.iconst 1, 1) := by decide +kernel
theorem dX11_from_32 : decode cX11_from 32 = .ok (.iload_n 3, 1) := by decide +kernel
theorem dX11_from_33 : decode cX11_from 33 = .ok (.iconst 1, 1) := by decide +kernel
theorem dX11_from_34 : decode cX11_from 34 = .ok (.isub, 1) := by decide +kernel
theorem dX11_from_35 : decode cX11_from 35 = .ok (.ishl, 1) := by decide +kernel
theorem dX11_from_36 : decode cX11_from 36 = .ok (.ior, 1) := by decide +kernel
theorem dX11_from_37 : decode cX11_from 37 = .ok (.istore_n 2, 1) := by decide +kernel
theorem dX11_from_38 : decode cX11_from 38 = .ok (.iinc 3 1, 3) := by decide +kernel
theorem dX11_from_41 : decode cX11_from 41 = .ok (.goto (-28), 3) := by decide +kernel
theorem dX11_from_44 : decode cX11_from 44 = .ok (.iload_n 2, 1) := by decide +kernel
theorem dX11_from_45 : decode cX11_from 45 = .ok (.ireturn, 1) := by decide +kernel
abbrev mX11_from : zq_M := (cX11_from, RX11, "from", (some .int), 4)
theorem zfind_m {B : Nat → Bool} {i : Int32} (hi : i < -1) : ∀ k p c, c + k < 1000 → zfind B i k p c = -1
  | 0, _, _, _ => if_neg (fun e => by rw [e] at hi; exact absurd hi (by decide))
  | k + 1, p, c, h => by
    unfold zfind
    rw [zfind_m hi k (p + 1) (c + 1) (by omega), zfind_m hi k (p + 1) c (by omega)]
    have : ¬ nI c = i := fun e => by
      rw [← e, Int32.lt_iff_toInt_lt, nI_toInt (by omega)] at hi
      have e1 : (-1 : Int32).toInt = -1 := by decide
      omega
    rw [if_neg this]
    split <;> rfl
theorem zdfF_sw {a b : Nat} : ∀ f k, zdfF b a f k = 10 * (zdfF a b f k % 10) + zdfF a b f k / 10 ∧ (zdfF a b f k ≠ 0 → zdfF a b f k / 10 ≠ zdfF a b f k % 10)
  | 0, _ => ⟨(by unfold zdfF; rfl), fun h => absurd (by unfold zdfF; rfl) h⟩
  | f + 1, k => by
    have h1 := zdg4_lt a k
    have h2 := zdg4_lt b k
    unfold zdfF
    by_cases e : zdg4 a k = zdg4 b k
    · rw [if_pos e, if_pos e.symm]
      exact zdfF_sw f (k + 1)
    · rw [if_neg e, if_neg (Ne.symm e)]
      constructor
      · omega
      · omega
theorem zahA_df {rk : Nat → Nat} {a b : Nat} (hr : zri rk) (ha : zvn a) (hb : zvn b) : zahA rk a b = if zdf a b = 0 then nI 0 else if zmt rk (zdf a b) = true then nI 1 else nI 2 := by
  unfold zahA
  rw [← zmt_df hr ha hb, ← zmt_df hr hb ha]
  obtain ⟨s1, s2⟩ := zdfF_sw (a := a) (b := b) 4 0
  have s1 : zdf b a = 10 * (zdf a b % 10) + zdf a b / 10 := s1
  have s2 : zdf a b ≠ 0 → zdf a b / 10 ≠ zdf a b % 10 := s2
  obtain ⟨g1, g2⟩ := zdf_5 ha hb
  by_cases h0 : zdf a b = 0
  · rw [s1, h0, if_pos rfl]
    have : zmt rk 0 = false := by unfold zmt; exact decide_eq_false (Nat.lt_irrefl _)
    rw [this]
    rfl
  · rw [if_neg h0]
    have h2 := s2 h0
    by_cases h1 : zmt rk (zdf a b) = true
    · rw [if_pos h1, if_pos h1]; rfl
    · rw [if_neg h1, if_neg h1]
      have : zmt rk (zdf b a) = true := by
        unfold zmt at h1 ⊢
        rw [decide_eq_true_eq] at h1 ⊢
        rw [s1, show (10 * (zdf a b % 10) + zdf a b / 10) / 10 = zdf a b % 10 by omega, show (10 * (zdf a b % 10) + zdf a b / 10) % 10 = zdf a b / 10 by omega]
        unfold zr0 at h1 ⊢
        generalize zdf a b / 10 = p at *
        generalize zdf a b % 10 = q at *
        by_cases ep : p = 0
        · rw [if_pos ep] at h1
          rw [if_neg (by omega)] at h1
          omega
        · by_cases eq : q = 0
          · rw [if_pos eq, if_neg ep]; omega
          · rw [if_neg ep, if_neg eq] at h1
            rw [if_neg ep, if_neg eq]
            have := hr p q (by omega) (by omega) (by omega) (by omega)
            omega
      rw [if_pos this]; rfl
section ZK1
variable {l : Launch} {G : zq_G} {D n : Nat} {κ : zl_S} {σ : zm_S} {ρ : Nat → zq_E} {K : Nat → Int32} {m hn t z : Nat} {Ls : Nat → List zLC} {Λ : List Nat}
theorem zfin (h : zIV n κ σ ρ K m hn t z Ls Λ) : zIVx n κ σ ρ := ⟨_, _, _, _, _, _, _, h⟩
theorem zk_status (h : zIV n κ σ ρ K m hn t z Ls Λ) : zCase l G D 0 0 yX11_status yX12_status [] n κ σ ρ := by
  intro P1 h1
  have hp := h1 (.int (κ.1 8 18)) n (zl_h κ (zm_h σ ρ)) (by exact ⟨rfl, _, rfl⟩) (fun P2 h2 => by
    rw [zlm]
    refine zm_status ?_
    rw [← zlm, ← h.2.2.2.2.2.1.1]
    exact h2 _ _ _ _ (zfin h))
  refine zq_enter (cc := cX11_status) (nL := 1) (ret := (some .int)) cw_X11_status (by decide) rfl (Nat.le_of_ble_eq_true rfl) ?_
  refine at_aload_n dX11_status_0 rfl ?_
  refine at_get dX11_status_1 fl_X11_94 (zl_o rfl) rfl ?_
  refine at_iret dX11_status_4 rfl (by omega) (by omega) ?_
  exact hp
theorem zk_misprints (h : zIV n κ σ ρ K m hn t z Ls Λ) : zCase l G D 0 0 yX11_misprints yX12_misprints [] n κ σ ρ := by
  intro P1 h1
  have hp := h1 (.int (κ.1 8 17)) n (zl_h κ (zm_h σ ρ)) (by exact ⟨rfl, _, rfl⟩) (fun P2 h2 => by
    rw [zlm]
    refine zm_misprints ?_
    rw [← zlm, ← h.2.2.2.2.2.1.2.2.2.1]
    exact h2 _ _ _ _ (zfin h))
  refine zq_enter (cc := cX11_misprints) (nL := 1) (ret := (some .int)) cw_X11_misprints (by decide) rfl (Nat.le_of_ble_eq_true rfl) ?_
  refine at_aload_n dX11_misprints_0 rfl ?_
  refine at_get dX11_misprints_1 fl_X11_91 (zl_o rfl) rfl ?_
  refine at_iret dX11_misprints_4 rfl (by omega) (by omega) ?_
  exact hp
theorem zk_fault (h : zIV n κ σ ρ K m hn t z Ls Λ) : zCase l G D 0 0 yX11_fault yX12_fault [] n κ σ ρ := by
  intro P1 h1
  have hp := h1 (.int (κ.1 8 15)) n (zl_h κ (zm_h σ ρ)) (by exact ⟨rfl, _, rfl⟩) (fun P2 h2 => by
    rw [zlm]
    refine zm_fault ?_
    rw [← zlm, ← h.2.2.2.2.2.1.2.1]
    exact h2 _ _ _ _ (zfin h))
  refine zq_enter (cc := cX11_fault) (nL := 1) (ret := (some .int)) cw_X11_fault (by decide) rfl (Nat.le_of_ble_eq_true rfl) ?_
  refine at_aload_n dX11_fault_0 rfl ?_
  refine at_get dX11_fault_1 fl_X11_85 (zl_o rfl) rfl ?_
  refine at_iret dX11_fault_4 rfl (by omega) (by omega) ?_
  exact hp
theorem zk_stopped (h : zIV n κ σ ρ K m hn t z Ls Λ) : zCase l G D 0 0 yX11_stopped yX12_stopped [] n κ σ ρ := by
  intro P1 h1
  have hp := h1 (.int (κ.1 8 16)) n (zl_h κ (zm_h σ ρ)) (by exact ⟨rfl, _, rfl⟩) (fun P2 h2 => by
    rw [zlm]
    refine zm_stopped ?_
    rw [← zlm, ← h.2.2.2.2.2.1.2.2.1]
    exact h2 _ _ _ _ (zfin h))
  refine zq_enter (cc := cX11_stopped) (nL := 1) (ret := (some .int)) cw_X11_stopped (by decide) rfl (Nat.le_of_ble_eq_true rfl) ?_
  refine at_aload_n dX11_stopped_0 rfl ?_
  refine at_get dX11_stopped_1 fl_X11_88 (zl_o rfl) rfl ?_
  refine at_iret dX11_stopped_4 rfl (by omega) (by omega) ?_
  exact hp
theorem zk_alphabet (hD : 88 ≤ D) (h : zIV n κ σ ρ K m hn t z Ls Λ) : zCase l G D 0 0 yX11_alphabet yX12_alphabet [] n κ σ ρ := by
  intro P1 h1
  have hp := h1 (.int (nI (zaln (alK K) 5))) n (zl_h κ (zm_h σ ρ)) (by exact ⟨rfl, _, rfl⟩) (fun P2 h2 => by
    rw [zlm]
    refine zm_alphabet (zIV_al h).1 ?_
    rw [← zlm]
    exact h2 _ _ _ _ (zfin h))
  refine zq_enter (cc := cX11_alphabet) (nL := 1) (ret := (some .int)) cw_X11_alphabet (by decide) rfl (Nat.le_of_ble_eq_true rfl) ?_
  refine at_aload_n dX11_alphabet_0 rfl ?_
  refine at_get dX11_alphabet_1 fl_X11_12 (zl_o rfl) rfl ?_
  refine at_callV0 (d := D - 1) dX11_alphabet_4 mv_X11_165 (zl_q zQ9) (Nat.le_of_ble_eq_true rfl) (zq_r0 (by omega) (by omega) (by omega)) ?_
  refine zc_alphabetNumber zQ9 (fun k hk => (zQc_L h.2.2.1 h.2.1 k hk).1) ?_
  refine at_iret dX11_alphabet_7 rfl (by omega) (by omega) ?_
  exact hp
theorem zk_at {v : Int32} (hD : 88 ≤ D) (h : zIV n κ σ ρ K m hn t z Ls Λ) : zCase l G D 0 0 yX11_at yX12_at [.int v] n κ σ ρ := by
  intro P1 h1
  have hm7 := h.2.1.1.2.1
  have hp := h1 (.int (if zix m v = true then K (7 + v.toNatClampNeg) else -1)) n (zl_h κ (zm_h σ ρ)) (by exact ⟨rfl, _, rfl⟩) (fun P2 h2 => by
    rw [zlm]
    refine zm_at (by omega) (by rw [h.1.2.2.1]; exact h.2.1.1.1) hm7 ?_
    rw [← zlm, h.1.2.2.1]
    exact h2 _ _ _ _ (zfin h))
  cases e : zix m v with
  | false =>
    rw [e, if_neg (by decide)] at hp
    refine zq_enter (cc := cX11_at) (nL := 2) (ret := (some .int)) cw_X11_at (by decide) rfl (Nat.le_of_ble_eq_true rfl) ?_
    refine at_aload_n dX11_at_0 rfl ?_
    refine at_get dX11_at_1 fl_X11_12 (zl_o rfl) rfl ?_
    refine at_iload_n dX11_at_4 rfl ?_
    refine at_callV1 (d := D - 1) dX11_at_5 mv_X11_120 (zl_q zQ9) (Nat.le_of_ble_eq_true rfl) (zq_r0 (by omega) (by omega) (by omega)) ?_
    refine zc_has zQ9 h.2.2.1.1.1 hm7 ?_
    rw [e]
    refine at_if_eqB (tgt := 23) dX11_at_8 (by decide) (fun c8 => ?_) (fun c8 => ?_)
    · refine at_iconst dX11_at_23 (v := -1) rfl ?_
      refine at_iret dX11_at_24 rfl (by omega) (by omega) ?_
      exact hp
    · cases c8
  | true =>
    obtain ⟨j, hj, rfl⟩ := zix_t e
    rw [e, if_pos rfl, nI_clamp (by omega), ← h.2.2.1.2.2.1 j hj] at hp
    refine zq_enter (cc := cX11_at) (nL := 2) (ret := (some .int)) cw_X11_at (by decide) rfl (Nat.le_of_ble_eq_true rfl) ?_
    refine at_aload_n dX11_at_0 rfl ?_
    refine at_get dX11_at_1 fl_X11_12 (zl_o rfl) rfl ?_
    refine at_iload_n dX11_at_4 rfl ?_
    refine at_callV1 (d := D - 1) dX11_at_5 mv_X11_120 (zl_q zQ9) (Nat.le_of_ble_eq_true rfl) (zq_r0 (by omega) (by omega) (by omega)) ?_
    refine zc_has zQ9 h.2.2.1.1.1 hm7 ?_
    rw [e]
    refine at_if_eqB (tgt := 23) dX11_at_8 (by decide) (fun c8 => ?_) (fun c8 => ?_)
    · cases c8
    · refine at_aload_n dX11_at_11 rfl ?_
      refine at_get dX11_at_12 fl_X11_12 (zl_o rfl) rfl ?_
      refine at_get dX11_at_15 fl_X11_141 (zl_q zQ9) rfl ?_
      refine at_iload_n dX11_at_18 rfl ?_
      refine at_uld (b := 9) (c := 2) dX11_at_19 zQ9 (by decide) (by decide) rfl (by show _ < 7; omega) ?_
      refine at_goto (tgt := 24) dX11_at_20 (by decide) ?_
      refine at_iret dX11_at_24 rfl (by omega) (by omega) ?_
      exact hp
theorem zk_breaks {v : Int32} (hD : 88 ≤ D) (h : zIV n κ σ ρ K m hn t z Ls Λ) : zCase l G D 0 0 yX11_breaks yX12_breaks [.int v] n κ σ ρ := by
  intro P1 h1
  have hm7 := h.2.1.1.2.1
  have hp := h1 (.int (zfind (zbk (zrkK K) (zX1 K) (zW1 K)) v (m - 1) 0 0)) n (zl_h κ (zm_h σ ρ)) (by exact ⟨rfl, _, rfl⟩) (fun P2 h2 => by
    rw [zlm]
    refine zm_breaks (by omega) (zIV_C h) ?_
    have e : (if v < -1 then (-1 : Int32) else zfind (zbk (zrkK K) (zX1 K) (zW1 K)) v (m - 1) 0 0) = zfind (zbk (zrkK K) (zX1 K) (zW1 K)) v (m - 1) 0 0 := by
      by_cases g : v < -1
      · rw [if_pos g, zfind_m g _ _ _ (by omega)]
      · rw [if_neg g]
    rw [e, ← zlm]
    exact h2 _ _ _ _ (zfin h))
  refine zq_enter (cc := cX11_breaks) (nL := 2) (ret := (some .int)) cw_X11_breaks (by decide) rfl (Nat.le_of_ble_eq_true rfl) ?_
  refine at_aload_n dX11_breaks_0 rfl ?_
  refine at_get dX11_breaks_1 fl_X11_12 (zl_o rfl) rfl ?_
  refine at_iload_n dX11_breaks_4 rfl ?_
  refine at_callV1 (d := D - 1) dX11_breaks_5 mv_X11_273 (zl_q zQ9) (Nat.le_of_ble_eq_true rfl) (zq_r0 (by omega) (by omega) (by omega)) ?_
  refine zc_breakAt (by omega) zQ9 (zQc_N h.2.2.1 h.2.1) (zQc_O h.2.2.1 h.2.1) ?_
  refine at_iret dX11_breaks_8 rfl (by omega) (by omega) ?_
  exact hp
theorem zk_swaps (hD : 88 ≤ D) (h : zIV n κ σ ρ K m hn t z Ls Λ) : zCase l G D 0 0 yX11_swaps yX12_swaps [] n κ σ ρ := by
  intro P1 h1
  have hp := h1 (.int (nI (zswO (zrkK K) (zX1 K) (zW1 K) m m 0 0))) n (zl_h κ (zm_h σ ρ)) (by exact ⟨rfl, _, rfl⟩) (fun P2 h2 => by
    rw [zlm]
    refine zm_swaps (by omega) (zIV_C h) ?_
    rw [← zlm]
    exact h2 _ _ _ _ (zfin h))
  refine zq_enter (cc := cX11_swaps) (nL := 1) (ret := (some .int)) cw_X11_swaps (by decide) rfl (Nat.le_of_ble_eq_true rfl) ?_
  refine at_aload_n dX11_swaps_0 rfl ?_
  refine at_get dX11_swaps_1 fl_X11_12 (zl_o rfl) rfl ?_
  refine at_callV0 (d := D - 1) dX11_swaps_4 mv_X11_276 (zl_q zQ9) (Nat.le_of_ble_eq_true rfl) (zq_r0 (by omega) (by omega) (by omega)) ?_
  refine zc_inversions (by omega) zQ9 (zQc_N h.2.2.1 h.2.1) (zQc_O h.2.2.1 h.2.1) ?_
  refine at_iret dX11_swaps_7 rfl (by omega) (by omega) ?_
  exact hp
end ZK1
theorem zout_lt (rk x w : Nat → Nat) {m : Nat} (hm : m ≤ 7) : zout rk x w m < 128 := by
  have h := zbest_le (fun s => zrwF rk x w s m 0 0) (2 ^ m) 0 0 (Nat.le_refl _)
  have h2 : 2 ^ m ≤ 2 ^ 7 := Nat.pow_le_pow_right (by decide) hm
  unfold zout
  omega
section ZK2
variable {l : Launch} {G : zq_G} {D n : Nat} {κ : zl_S} {σ : zm_S} {ρ : Nat → zq_E} {K : Nat → Int32} {m hn t z : Nat} {Ls : Nat → List zLC} {Λ : List Nat}
theorem zk_out {v : Int32} (hD : 88 ≤ D) (h : zIV n κ σ ρ K m hn t z Ls Λ) : zCase l G D 0 0 yX11_out yX12_out [.int v] n κ σ ρ := by
  intro P1 h1
  have hm7 := h.2.1.1.2.1
  have hN := zQc_N h.2.2.1 h.2.1
  have hO := zQc_O h.2.2.1 h.2.1
  have hlt := zout_lt (zrkK K) (zX1 K) (zW1 K) hm7
  by_cases v0 : v = nI 0
  · subst v0
    have hp := h1 (.int (nI (zpop (zout (zrkK K) (zX1 K) (zW1 K) m) 7))) n (zl_h κ (zm_h σ ρ)) (by exact ⟨rfl, _, rfl⟩) (fun P2 h2 => by
      rw [zlm]
      refine zm_out (by omega) (zIV_C h) (fun e => absurd e (by decide)) (fun _ => ?_) (fun e => absurd e (by decide))
      rw [← zlm]
      exact h2 _ _ _ _ (zfin h))
    refine zq_enter (cc := cX11_out) (nL := 3) (ret := (some .int)) cw_X11_out (by decide) rfl (Nat.le_of_ble_eq_true rfl) ?_
    refine at_iload_n dX11_out_0 rfl ?_
    refine at_if_eqN (tgt := 11) dX11_out_1 (by decide) (by omega) (fun c1 => ?_) (fun c1 => ?_)
    · refine at_aload_n dX11_out_11 rfl ?_
      refine at_get dX11_out_12 fl_X11_12 (zl_o rfl) rfl ?_
      refine at_callV0 (d := D - 1) dX11_out_15 mv_X11_279 (zl_q zQ9) (Nat.le_of_ble_eq_true rfl) (zq_r0 (by omega) (by omega) (by omega)) ?_
      refine zc_fewestOut (by omega) zQ9 hN hO ?_
      refine at_istore_n dX11_out_18 rfl (by decide) ?_
      refine at_iload_n dX11_out_19 rfl ?_
      refine at_if_neN (tgt := 30) dX11_out_20 (by decide) (by omega) (fun c20 => ?_) (fun c20 => ?_)
      · exact absurd rfl c20
      · refine at_iload_n dX11_out_23 rfl ?_
        refine at_callS1 (d := D - 1) dX11_out_24 ms_X11_282 (Nat.le_of_ble_eq_true rfl) (zq_r0 (by omega) (by omega) (by omega)) ?_
        refine zc_bitCount hlt ?_
        refine at_goto (tgt := 31) dX11_out_27 (by decide) ?_
        refine at_iret dX11_out_31 rfl (by omega) (by omega) ?_
        exact hp
    · exact absurd rfl c1
  · by_cases v1 : v = nI 1
    · subst v1
      have hp := h1 (.int (nI (zout (zrkK K) (zX1 K) (zW1 K) m))) n (zl_h κ (zm_h σ ρ)) (by exact ⟨rfl, _, rfl⟩) (fun P2 h2 => by
        rw [zlm]
        refine zm_out (by omega) (zIV_C h) (fun e => absurd e (by decide)) (fun e => absurd e (by decide)) (fun _ => ?_)
        rw [← zlm]
        exact h2 _ _ _ _ (zfin h))
      refine zq_enter (cc := cX11_out) (nL := 3) (ret := (some .int)) cw_X11_out (by decide) rfl (Nat.le_of_ble_eq_true rfl) ?_
      refine at_iload_n dX11_out_0 rfl ?_
      refine at_if_eqN (tgt := 11) dX11_out_1 (by decide) (by omega) (fun c1 => ?_) (fun c1 => ?_)
      · omega
      · refine at_iload_n dX11_out_4 rfl ?_
        refine at_iconst dX11_out_5 (v := nI 1) (by decide) ?_
        refine at_eqN (tgt := 11) dX11_out_6 (by decide) (by omega) (by omega) (fun c6 => ?_) (fun c6 => ?_)
        · refine at_aload_n dX11_out_11 rfl ?_
          refine at_get dX11_out_12 fl_X11_12 (zl_o rfl) rfl ?_
          refine at_callV0 (d := D - 1) dX11_out_15 mv_X11_279 (zl_q zQ9) (Nat.le_of_ble_eq_true rfl) (zq_r0 (by omega) (by omega) (by omega)) ?_
          refine zc_fewestOut (by omega) zQ9 hN hO ?_
          refine at_istore_n dX11_out_18 rfl (by decide) ?_
          refine at_iload_n dX11_out_19 rfl ?_
          refine at_if_neN (tgt := 30) dX11_out_20 (by decide) (by omega) (fun c20 => ?_) (fun c20 => ?_)
          · refine at_iload_n dX11_out_30 rfl ?_
            refine at_iret dX11_out_31 rfl (by omega) (by omega) ?_
            exact hp
          · omega
        · exact absurd rfl c6
    · have hl : (decide (nI 0 ≤ v) && decide (v ≤ nI 1)) = false := by
        cases e : (decide (nI 0 ≤ v) && decide (v ≤ nI 1)) with
        | false => rfl
        | true =>
          obtain ⟨x, x1, x2, rfl⟩ := zlies_n (by decide) (by decide) e
          rcases (show x = 0 ∨ x = 1 by omega) with rfl | rfl
          · exact absurd rfl v0
          · exact absurd rfl v1
      have hp := h1 (.int (-1)) n (zl_h κ (zm_h σ ρ)) (by exact ⟨rfl, _, rfl⟩) (fun P2 h2 => by
        rw [zlm]
        refine zm_out (by omega) (zIV_C h) (fun _ => ?_) (fun e => absurd e v0) (fun e => absurd e v1)
        rw [← zlm]
        exact h2 _ _ _ _ (zfin h))
      refine zq_enter (cc := cX11_out) (nL := 3) (ret := (some .int)) cw_X11_out (by decide) rfl (Nat.le_of_ble_eq_true rfl) ?_
      refine at_iload_n dX11_out_0 rfl ?_
      refine at_if_eq (tgt := 11) dX11_out_1 (by decide) (fun c1 => ?_) (fun c1 => ?_)
      · exact absurd c1 v0
      · refine at_iload_n dX11_out_4 rfl ?_
        refine at_iconst dX11_out_5 (v := nI 1) (by decide) ?_
        refine at_icmp_eq (tgt := 11) dX11_out_6 (by decide) (fun c6 => ?_) (fun c6 => ?_)
        · exact absurd c6 v1
        · refine at_iconst dX11_out_9 (v := -1) rfl ?_
          refine at_iret dX11_out_10 rfl (by omega) (by omega) ?_
          exact hp
theorem zk_whisper {v : Int32} (hD : 88 ≤ D) (h : zIV n κ σ ρ K m hn t z Ls Λ) : zCase l G D 0 0 yX11_whisper yX12_whisper [.int v] n κ σ ρ := by
  intro P1 h1
  cases e : zlies 1 5 v with
  | false =>
    have hp := h1 (.int (-1)) n (zl_h κ (zm_h σ ρ)) (by exact ⟨rfl, _, rfl⟩) (fun P2 h2 => by
      rw [zlm]
      refine zm_whisper (by omega) (zIV_C h) (zIV_Sd h) (fun _ => ?_) (fun y y1 y5 ey => ?_)
      · rw [← zlm]
        exact h2 _ _ _ _ (zfin h)
      · rw [ey, zlies_i (by decide) (by decide) y1 y5] at e; cases e)
    refine zq_enter (cc := cX11_whisper) (nL := 2) (ret := (some .int)) cw_X11_whisper (by decide) rfl (Nat.le_of_ble_eq_true rfl) ?_
    refine at_iload_n dX11_whisper_0 rfl ?_
    refine at_callS1 (d := D - 1) dX11_whisper_1 ms_X11_147 (Nat.le_of_ble_eq_true rfl) (zq_r0 (by omega) (by omega) (by omega)) ?_
    refine zc_isLetter ?_
    rw [e]
    refine at_if_eqB (tgt := 18) dX11_whisper_4 (by decide) (fun c4 => ?_) (fun c4 => ?_)
    · refine at_iconst dX11_whisper_18 (v := -1) rfl ?_
      refine at_iret dX11_whisper_19 rfl (by omega) (by omega) ?_
      exact hp
    · cases c4
  | true =>
    obtain ⟨y, y1, y5, rfl⟩ := zlies_t (by decide) (by decide) e
    have hp := h1 (.int (nI (zwh (zW1 K) (sdK K) m 0 y))) n (zl_h κ (zm_h σ ρ)) (by exact ⟨rfl, _, rfl⟩) (fun P2 h2 => by
      rw [zlm]
      refine zm_whisper (by omega) (zIV_C h) (zIV_Sd h) (fun f => ?_) (fun y' a1 a5 ey => ?_)
      · rw [show (decide (nI 1 ≤ nI y) && decide (nI y ≤ nI 5)) = true from e] at f; cases f
      · rw [show y' = y from ((nI_eq (by omega) (by omega)).mp ey).symm, ← zlm]
        exact h2 _ _ _ _ (zfin h))
    refine zq_enter (cc := cX11_whisper) (nL := 2) (ret := (some .int)) cw_X11_whisper (by decide) rfl (Nat.le_of_ble_eq_true rfl) ?_
    refine at_iload_n dX11_whisper_0 rfl ?_
    refine at_callS1 (d := D - 1) dX11_whisper_1 ms_X11_147 (Nat.le_of_ble_eq_true rfl) (zq_r0 (by omega) (by omega) (by omega)) ?_
    refine zc_isLetter ?_
    rw [e]
    refine at_if_eqB (tgt := 18) dX11_whisper_4 (by decide) (fun c4 => ?_) (fun c4 => ?_)
    · cases c4
    · refine at_aload_n dX11_whisper_7 rfl ?_
      refine at_get dX11_whisper_8 fl_X11_12 (zl_o rfl) rfl ?_
      refine at_iload_n dX11_whisper_11 rfl ?_
      refine at_callV1 (d := D - 1) dX11_whisper_12 mv_X11_324 (zl_q zQ9) (Nat.le_of_ble_eq_true rfl) (zq_r0 (by omega) (by omega) (by omega)) ?_
      refine zc_toldAlong (by omega) zQ9 (zQc_N h.2.2.1 h.2.1) (zQc_S h.2.2.1 h.2.1) y1 y5 ?_
      refine at_goto (tgt := 19) dX11_whisper_15 (by decide) ?_
      refine at_iret dX11_whisper_19 rfl (by omega) (by omega) ?_
      exact hp
theorem zk_ahead {p q : Int32} (hD : 88 ≤ D) (h : zIV n κ σ ρ K m hn t z Ls Λ) : zCase l G D 0 0 yX11_ahead yX12_ahead [.int p, .int q] n κ σ ρ := by
  intro P1 h1
  have hm7 := h.2.1.1.2.1
  have hN := zQc_N h.2.2.1 h.2.1
  cases e : zix m p && zix m q with
  | false =>
    have hp := h1 (.int (-1)) n (zl_h κ (zm_h σ ρ)) (by exact ⟨rfl, _, rfl⟩) (fun P2 h2 => by
      rw [zlm]
      refine zm_ahead (by omega) (zIV_C h) (fun _ => ?_) (fun i j hi hj ei ej => ?_)
      · rw [← zlm]
        exact h2 _ _ _ _ (zfin h)
      · rw [ei, ej, zix_n (by omega), zix_n (by omega), decide_eq_true hi, decide_eq_true hj] at e; cases e)
    refine zq_enter (cc := cX11_ahead) (nL := 4) (ret := (some .int)) cw_X11_ahead (by decide) rfl (Nat.le_of_ble_eq_true rfl) ?_
    refine at_aload_n dX11_ahead_0 rfl ?_
    refine at_get dX11_ahead_1 fl_X11_12 (zl_o rfl) rfl ?_
    refine at_iload_n dX11_ahead_4 rfl ?_
    refine at_callV1 (d := D - 1) dX11_ahead_5 mv_X11_120 (zl_q zQ9) (Nat.le_of_ble_eq_true rfl) (zq_r0 (by omega) (by omega) (by omega)) ?_
    refine zc_has zQ9 h.2.2.1.1.1 hm7 ?_
    refine at_if_eqB (tgt := 22) dX11_ahead_8 (by decide) (fun c8 => ?_) (fun c8 => ?_)
    · refine at_iconst dX11_ahead_22 (v := -1) rfl ?_
      refine at_iret dX11_ahead_23 rfl (by omega) (by omega) ?_
      exact hp
    · refine at_aload_n dX11_ahead_11 rfl ?_
      refine at_get dX11_ahead_12 fl_X11_12 (zl_o rfl) rfl ?_
      refine at_iload_n dX11_ahead_15 rfl ?_
      refine at_callV1 (d := D - 1) dX11_ahead_16 mv_X11_120 (zl_q zQ9) (Nat.le_of_ble_eq_true rfl) (zq_r0 (by omega) (by omega) (by omega)) ?_
      refine zc_has zQ9 h.2.2.1.1.1 hm7 ?_
      refine at_if_neB (tgt := 24) dX11_ahead_19 (by decide) (fun c19 => ?_) (fun c19 => ?_)
      · exact absurd e (by rw [c8, c19]; decide)
      · refine at_iconst dX11_ahead_22 (v := -1) rfl ?_
        refine at_iret dX11_ahead_23 rfl (by omega) (by omega) ?_
        exact hp
  | true =>
    rw [Bool.and_eq_true] at e
    obtain ⟨i, hi, rfl⟩ := zix_t e.1
    obtain ⟨j, hj, rfl⟩ := zix_t e.2
    have vi := (h.2.1.1.2.2.1 i hi).2
    have vj := (h.2.1.1.2.2.1 j hj).2
    have vi5 := vi.2.1
    have vj5 := vj.2.1
    have hdl := zdfF_lt (zX1 K i) (zX1 K j) 4 0
    have hdl : zdf (zX1 K i) (zX1 K j) < 100 := hdl
    have hp := h1 (.int (zahA (zrkK K) (zX1 K i) (zX1 K j))) n (zl_h κ (zm_h σ ρ)) (by exact ⟨rfl, _, rfl⟩) (fun P2 h2 => by
      rw [zlm]
      refine zm_ahead (by omega) (zIV_C h) (fun f => ?_) (fun i' j' hi' hj' ei ej => ?_)
      · rw [e.1, e.2] at f; cases f
      · rw [show i' = i from ((nI_eq (by omega) (by omega)).mp ei).symm, show j' = j from ((nI_eq (by omega) (by omega)).mp ej).symm, ← zlm]
        exact h2 _ _ _ _ (zfin h))
    rw [zahA_df (zrkK_ri h.2.1.2.1) vi vj] at hp
    refine zq_enter (cc := cX11_ahead) (nL := 4) (ret := (some .int)) cw_X11_ahead (by decide) rfl (Nat.le_of_ble_eq_true rfl) ?_
    refine at_aload_n dX11_ahead_0 rfl ?_
    refine at_get dX11_ahead_1 fl_X11_12 (zl_o rfl) rfl ?_
    refine at_iload_n dX11_ahead_4 rfl ?_
    refine at_callV1 (d := D - 1) dX11_ahead_5 mv_X11_120 (zl_q zQ9) (Nat.le_of_ble_eq_true rfl) (zq_r0 (by omega) (by omega) (by omega)) ?_
    refine zc_has zQ9 h.2.2.1.1.1 hm7 ?_
    rw [e.1]
    refine at_if_eqB (tgt := 22) dX11_ahead_8 (by decide) (fun c8 => ?_) (fun c8 => ?_)
    · cases c8
    · refine at_aload_n dX11_ahead_11 rfl ?_
      refine at_get dX11_ahead_12 fl_X11_12 (zl_o rfl) rfl ?_
      refine at_iload_n dX11_ahead_15 rfl ?_
      refine at_callV1 (d := D - 1) dX11_ahead_16 mv_X11_120 (zl_q zQ9) (Nat.le_of_ble_eq_true rfl) (zq_r0 (by omega) (by omega) (by omega)) ?_
      refine zc_has zQ9 h.2.2.1.1.1 hm7 ?_
      rw [e.2]
      refine at_if_neB (tgt := 24) dX11_ahead_19 (by decide) (fun c19 => ?_) (fun c19 => ?_)
      · refine at_aload_n dX11_ahead_24 rfl ?_
        refine at_get dX11_ahead_25 fl_X11_12 (zl_o rfl) rfl ?_
        refine at_get dX11_ahead_28 fl_X11_123 (zl_q zQ9) rfl ?_
        refine at_iload_n dX11_ahead_31 rfl ?_
        refine at_uld (b := 9) (c := 1) dX11_ahead_32 zQ9 (by decide) (by decide) rfl (by show _ < 7; omega) ?_
        rw [show κ.2.1 (9 + 1) i = nI (zX1 K i) from (hN.2.2.1 i hi).1]
        refine at_aload_n dX11_ahead_33 rfl ?_
        refine at_get dX11_ahead_34 fl_X11_12 (zl_o rfl) rfl ?_
        refine at_get dX11_ahead_37 fl_X11_123 (zl_q zQ9) rfl ?_
        refine at_iload_n dX11_ahead_40 rfl ?_
        refine at_uld (b := 9) (c := 1) dX11_ahead_41 zQ9 (by decide) (by decide) rfl (by show _ < 7; omega) ?_
        rw [show κ.2.1 (9 + 1) j = nI (zX1 K j) from (hN.2.2.1 j hj).1]
        refine at_callS2 (d := D - 1) dX11_ahead_42 ms_X11_263 (Nat.le_of_ble_eq_true rfl) (zq_r0 (by omega) (by omega) (by omega)) ?_
        refine zc_differ (by omega) vi.1 (by omega) vj.1 (by omega) ?_
        refine at_istore_n dX11_ahead_45 rfl (by decide) ?_
        refine at_iload_n dX11_ahead_46 rfl ?_
        refine at_if_neN (tgt := 52) dX11_ahead_47 (by decide) (by omega) (fun c47 => ?_) (fun c47 => ?_)
        · rw [if_neg c47] at hp
          refine at_iload_n dX11_ahead_52 rfl ?_
          refine at_aload_n dX11_ahead_53 rfl ?_
          refine at_get dX11_ahead_54 fl_X11_12 (zl_o rfl) rfl ?_
          refine at_get dX11_ahead_57 fl_X11_266 (zl_q zQ9) rfl ?_
          refine at_callS2 (d := D - 1) dX11_ahead_60 ms_X11_269 (Nat.le_of_ble_eq_true rfl) (zq_r0 (by omega) (by omega) (by omega)) ?_
          refine zc_isMet rfl rfl (zQc_O h.2.2.1 h.2.1).1 (zQc_O h.2.2.1 h.2.1).2.1 (zdf_5 vi vj).1 (zdf_5 vi vj).2 ?_
          refine at_if_eqB (tgt := 70) dX11_ahead_63 (by decide) (fun c63 => ?_) (fun c63 => ?_)
          · rw [if_neg (by rw [c63]; decide)] at hp
            refine at_iconst dX11_ahead_70 (v := nI 2) (by decide) ?_
            refine at_iret dX11_ahead_71 rfl (by omega) (by omega) ?_
            exact hp
          · rw [if_pos c63] at hp
            refine at_iconst dX11_ahead_66 (v := nI 1) (by decide) ?_
            refine at_goto (tgt := 71) dX11_ahead_67 (by decide) ?_
            refine at_iret dX11_ahead_71 rfl (by omega) (by omega) ?_
            exact hp
        · rw [if_pos c47] at hp
          refine at_iconst dX11_ahead_50 (v := nI 0) (by decide) ?_
          refine at_iret dX11_ahead_51 rfl (by omega) (by omega) ?_
          exact hp
      · cases c19
end ZK2

