/-! ===== the Model: what was heard ===== -/
/-- what was heard: hn times that one of a is ahead of one of b -/
def zH (σ : zm_S) (m hn : Nat) (ha hb : Nat → Nat) : Prop := σ.2.1 72 74 = nI hn ∧ hn ≤ 8 ∧ ∀ i, i < hn → σ.2.1 72 (55 + 2 * i) = nI (ha i) ∧ σ.2.1 72 (55 + 2 * i + 1) = nI (hb i) ∧ ha i < m ∧ hb i < m
def zasF (rk x ha hb : Nat → Nat) : Nat → Nat → Bool
  | 0, _ => true
  | k + 1, i => zah rk (x (ha i)) (x (hb i)) && zasF rk x ha hb k (i + 1)
theorem dX12_laysAheadBy_0 : decode cX12_laysAheadBy 0 = .ok (.iconst 0, 1) := by decide +kernel
theorem dX12_laysAheadBy_1 : decode cX12_laysAheadBy 1 = .ok (.istore_n 1, 1) := by decide +kernel
theorem dX12_laysAheadBy_2 : decode cX12_laysAheadBy 2 = .ok (.iload_n 1, 1) := by decide +kernel
theorem dX12_laysAheadBy_3 : decode cX12_laysAheadBy 3 = .ok (.bipush 49, 2) := by decide +kernel
theorem dX12_laysAheadBy_5 : decode cX12_laysAheadBy 5 = .ok (.if_icmp .ge 16, 3) := by decide +kernel
theorem dX12_laysAheadBy_8 : decode cX12_laysAheadBy 8 = .ok (.aload_n 0, 1) := by decide +kernel
theorem dX12_laysAheadBy_9 : decode cX12_laysAheadBy 9 = .ok (.getfield 86, 3) := by decide +kernel
theorem dX12_laysAheadBy_12 : decode cX12_laysAheadBy 12 = .ok (.iload_n 1, 1) := by decide +kernel
theorem dX12_laysAheadBy_13 : decode cX12_laysAheadBy 13 = .ok (.iconst 0, 1) := by decide +kernel
theorem dX12_laysAheadBy_14 : decode cX12_laysAheadBy 14 = .ok (.iastore, 1) := by decide +kernel
theorem dX12_laysAheadBy_15 : decode cX12_laysAheadBy 15 = .ok (.iinc 1 1, 3) := by decide +kernel
theorem dX12_laysAheadBy_18 : decode cX12_laysAheadBy 18 = .ok (.goto (-16), 3) := by decide +kernel
theorem dX12_laysAheadBy_21 : decode cX12_laysAheadBy 21 = .ok (.iconst 0, 1) := by decide +kernel
theorem dX12_laysAheadBy_22 : decode cX12_laysAheadBy 22 = .ok (.istore_n 1, 1) := by decide +kernel
theorem dX12_laysAheadBy_23 : decode cX12_laysAheadBy 23 = .ok (.iconst 0, 1) := by decide +kernel
theorem dX12_laysAheadBy_24 : decode cX12_laysAheadBy 24 = .ok (.istore_n 2, 1) := by decide +kernel
theorem dX12_laysAheadBy_25 : decode cX12_laysAheadBy 25 = .ok (.iload_n 2, 1) := by decide +kernel
theorem dX12_laysAheadBy_26 : decode cX12_laysAheadBy 26 = .ok (.bipush 120, 2) := by decide +kernel
theorem dX12_laysAheadBy_28 : decode cX12_laysAheadBy 28 = .ok (.if_icmp .ge 93, 3) := by decide +kernel
theorem dX12_laysAheadBy_31 : decode cX12_laysAheadBy 31 = .ok (.aload_n 0, 1) := by decide +kernel
theorem dX12_laysAheadBy_32 : decode cX12_laysAheadBy 32 = .ok (.iload_n 2, 1) := by decide +kernel
theorem dX12_laysAheadBy_33 : decode cX12_laysAheadBy 33 = .ok (.invokevirtual 386, 3) := by decide +kernel
theorem dX12_laysAheadBy_36 : decode cX12_laysAheadBy 36 = .ok (.aload_n 0, 1) := by decide +kernel
theorem dX12_laysAheadBy_37 : decode cX12_laysAheadBy 37 = .ok (.invokevirtual 395, 3) := by decide +kernel
theorem dX12_laysAheadBy_40 : decode cX12_laysAheadBy 40 = .ok (.ifCond .ne 6, 3) := by decide +kernel
theorem dX12_laysAheadBy_43 : decode cX12_laysAheadBy 43 = .ok (.goto 72, 3) := by decide +kernel
theorem dX12_laysAheadBy_46 : decode cX12_laysAheadBy 46 = .ok (.iinc 1 1, 3) := by decide +kernel
theorem dX12_laysAheadBy_49 : decode cX12_laysAheadBy 49 = .ok (.iconst 0, 1) := by decide +kernel
theorem dX12_laysAheadBy_50 : decode cX12_laysAheadBy 50 = .ok (.istore_n 3, 1) := by decide +kernel
theorem dX12_laysAheadBy_51 : decode cX12_laysAheadBy 51 = .ok (.iload_n 3, 1) := by decide +kernel
theorem dX12_laysAheadBy_52 : decode cX12_laysAheadBy 52 = .ok (.aload_n 0, 1) := by decide +kernel
theorem dX12_laysAheadBy_53 : decode cX12_laysAheadBy 53 = .ok (.invokevirtual 141, 3) := by decide +kernel
theorem dX12_laysAheadBy_56 : decode cX12_laysAheadBy 56 = .ok (.if_icmp .ge 59, 3) := by decide +kernel
theorem dX12_laysAheadBy_59 : decode cX12_laysAheadBy 59 = .ok (.iload_n 3, 1) := by decide +kernel
theorem dX12_laysAheadBy_60 : decode cX12_laysAheadBy 60 = .ok (.iconst 1, 1) := by decide +kernel
theorem dX12_laysAheadBy_61 : decode cX12_laysAheadBy 61 = .ok (.iadd, 1) := by decide +kernel
theorem dX12_laysAheadBy_62 : decode cX12_laysAheadBy 62 = .ok (.istore 4, 2) := by decide +kernel
theorem dX12_laysAheadBy_64 : decode cX12_laysAheadBy 64 = .ok (.iload 4, 2) := by decide +kernel
theorem dX12_laysAheadBy_66 : decode cX12_laysAheadBy 66 = .ok (.aload_n 0, 1) := by decide +kernel
theorem dX12_laysAheadBy_67 : decode cX12_laysAheadBy 67 = .ok (.invokevirtual 141, 3) := by decide +kernel
theorem dX12_laysAheadBy_70 : decode cX12_laysAheadBy 70 = .ok (.if_icmp .ge 39, 3) := by decide +kernel
theorem dX12_laysAheadBy_73 : decode cX12_laysAheadBy 73 = .ok (.aload_n 0, 1) := by decide +kernel
theorem dX12_laysAheadBy_74 : decode cX12_laysAheadBy 74 = .ok (.getfield 86, 3) := by decide +kernel
theorem dX12_laysAheadBy_77 : decode cX12_laysAheadBy 77 = .ok (.bipush 7, 2) := by decide +kernel
theorem dX12_laysAheadBy_79 : decode cX12_laysAheadBy 79 = .ok (.iload_n 3, 1) := by decide +kernel
theorem dX12_laysAheadBy_80 : decode cX12_laysAheadBy 80 = .ok (.imul, 1) := by decide +kernel
theorem dX12_laysAheadBy_81 : decode cX12_laysAheadBy 81 = .ok (.iload 4, 2) := by decide +kernel
theorem dX12_laysAheadBy_83 : decode cX12_laysAheadBy 83 = .ok (.iadd, 1) := by decide +kernel
theorem dX12_laysAheadBy_84 : decode cX12_laysAheadBy 84 = .ok (.dup2, 1) := by decide +kernel
theorem dX12_laysAheadBy_85 : decode cX12_laysAheadBy 85 = .ok (.iaload, 1) := by decide +kernel
theorem dX12_laysAheadBy_86 : decode cX12_laysAheadBy 86 = .ok (.aload_n 0, 1) := by decide +kernel
theorem dX12_laysAheadBy_87 : decode cX12_laysAheadBy 87 = .ok (.iload_n 3, 1) := by decide +kernel
theorem dX12_laysAheadBy_88 : decode cX12_laysAheadBy 88 = .ok (.iload 4, 2) := by decide +kernel
theorem dX12_laysAheadBy_90 : decode cX12_laysAheadBy 90 = .ok (.invokevirtual 368, 3) := by decide +kernel
theorem dX12_laysAheadBy_93 : decode cX12_laysAheadBy 93 = .ok (.ifCond .ge 7, 3) := by decide +kernel
theorem dX12_laysAheadBy_96 : decode cX12_laysAheadBy 96 = .ok (.iconst 1, 1) := by decide +kernel
theorem dX12_laysAheadBy_97 : decode cX12_laysAheadBy 97 = .ok (.goto 4, 3) := by decide +kernel
theorem dX12_laysAheadBy_100 : decode cX12_laysAheadBy 100 = .ok (.iconst 0, 1) := by decide +kernel
theorem dX12_laysAheadBy_101 : decode cX12_laysAheadBy 101 = .ok (.iadd, 1) := by decide +kernel
theorem dX12_laysAheadBy_102 : decode cX12_laysAheadBy 102 = .ok (.iastore, 1) := by decide +kernel
theorem dX12_laysAheadBy_103 : decode cX12_laysAheadBy 103 = .ok (.iinc 4 1, 3) := by decide +kernel
theorem dX12_laysAheadBy_106 : decode cX12_laysAheadBy 106 = .ok (.goto (-42), 3) := by decide +kernel
theorem dX12_laysAheadBy_109 : decode cX12_laysAheadBy 109 = .ok (.iinc 3 1, 3) := by decide +kernel
theorem dX12_laysAheadBy_112 : decode cX12_laysAheadBy 112 = .ok (.goto (-61), 3) := by decide +kernel
theorem dX12_laysAheadBy_115 : decode cX12_laysAheadBy 115 = .ok (.iinc 2 1, 3) := by decide +kernel
theorem dX12_laysAheadBy_118 : decode cX12_laysAheadBy 118 = .ok (.goto (-93), 3) := by decide +kernel
theorem dX12_laysAheadBy_121 : decode cX12_laysAheadBy 121 = .ok (.aload_n 0, 1) := by decide +kernel
theorem dX12_laysAheadBy_122 : decode cX12_laysAheadBy 122 = .ok (.invokevirtual 132, 3) := by decide +kernel
theorem dX12_laysAheadBy_125 : decode cX12_laysAheadBy 125 = .ok (.iload_n 1, 1) := by decide +kernel
theorem dX12_laysAheadBy_126 : decode cX12_laysAheadBy 126 = .ok (.ireturn, 1) := by decide +kernel
abbrev mX12_laysAheadBy : zq_M := (cX12_laysAheadBy, RX12, "laysAheadBy", (some .int), 5)
theorem dX12_ask_0 : decode cX12_ask 0 = .ok (.iload_n 1, 1) := by decide +kernel
theorem dX12_ask_1 : decode cX12_ask 1 = .ok (.iconst 0, 1) := by decide +kernel
theorem dX12_ask_2 : decode cX12_ask 2 = .ok (.iconst 1, 1) := by decide +kernel
theorem dX12_ask_3 : decode cX12_ask 3 = .ok (.invokestatic 18, 3) := by decide +kernel
theorem dX12_ask_6 : decode cX12_ask 6 = .ok (.ifCond .ne 5, 3) := by decide +kernel
theorem dX12_ask_9 : decode cX12_ask 9 = .ok (.iconst (-1), 1) := by decide +kernel
theorem dX12_ask_10 : decode cX12_ask 10 = .ok (.ireturn, 1) := by decide +kernel
theorem dX12_ask_11 : decode cX12_ask 11 = .ok (.aload_n 0, 1) := by decide +kernel
theorem dX12_ask_12 : decode cX12_ask 12 = .ok (.invokevirtual 398, 3) := by decide +kernel
theorem dX12_ask_15 : decode cX12_ask 15 = .ok (.istore_n 2, 1) := by decide +kernel
theorem dX12_ask_16 : decode cX12_ask 16 = .ok (.iconst (-1), 1) := by decide +kernel
theorem dX12_ask_17 : decode cX12_ask 17 = .ok (.istore_n 3, 1) := by decide +kernel
theorem dX12_ask_18 : decode cX12_ask 18 = .ok (.ldc 196, 2) := by decide +kernel
theorem dX12_ask_20 : decode cX12_ask 20 = .ok (.istore 4, 2) := by decide +kernel
theorem dX12_ask_22 : decode cX12_ask 22 = .ok (.iconst 0, 1) := by decide +kernel
theorem dX12_ask_23 : decode cX12_ask 23 = .ok (.istore 5, 2) := by decide +kernel
theorem dX12_ask_25 : decode cX12_ask 25 = .ok (.iload 5, 2) := by decide +kernel
theorem dX12_ask_27 : decode cX12_ask 27 = .ok (.aload_n 0, 1) := by decide +kernel
theorem dX12_ask_28 : decode cX12_ask 28 = .ok (.invokevirtual 141, 3) := by decide +kernel
theorem dX12_ask_31 : decode cX12_ask 31 = .ok (.if_icmp .ge 104, 3) := by decide +kernel
theorem dX12_ask_34 : decode cX12_ask 34 = .ok (.iload_n 2, 1) := by decide +kernel
theorem dX12_ask_35 : decode cX12_ask 35 = .ok (.ifCond .le 100, 3) := by decide +kernel
theorem dX12_ask_38 : decode cX12_ask 38 = .ok (.iload 5, 2) := by decide +kernel
theorem dX12_ask_40 : decode cX12_ask 40 = .ok (.iconst 1, 1) := by decide +kernel
theorem dX12_ask_41 : decode cX12_ask 41 = .ok (.iadd, 1) := by decide +kernel
theorem dX12_ask_42 : decode cX12_ask 42 = .ok (.istore 6, 2) := by decide +kernel
theorem dX12_ask_44 : decode cX12_ask 44 = .ok (.iload 6, 2) := by decide +kernel
theorem dX12_ask_46 : decode cX12_ask 46 = .ok (.aload_n 0, 1) := by decide +kernel
theorem dX12_ask_47 : decode cX12_ask 47 = .ok (.invokevirtual 141, 3) := by decide +kernel
theorem dX12_ask_50 : decode cX12_ask 50 = .ok (.if_icmp .ge 79, 3) := by decide +kernel
theorem dX12_ask_53 : decode cX12_ask 53 = .ok (.aload_n 0, 1) := by decide +kernel
theorem dX12_ask_54 : decode cX12_ask 54 = .ok (.getfield 86, 3) := by decide +kernel
theorem dX12_ask_57 : decode cX12_ask 57 = .ok (.bipush 7, 2) := by decide +kernel
theorem dX12_ask_59 : decode cX12_ask 59 = .ok (.iload 5, 2) := by decide +kernel
theorem dX12_ask_61 : decode cX12_ask 61 = .ok (.imul, 1) := by decide +kernel
theorem dX12_ask_62 : decode cX12_ask 62 = .ok (.iload 6, 2) := by decide +kernel
theorem dX12_ask_64 : decode cX12_ask 64 = .ok (.iadd, 1) := by decide +kernel
theorem dX12_ask_65 : decode cX12_ask 65 = .ok (.iaload, 1) := by decide +kernel
theorem dX12_ask_66 : decode cX12_ask 66 = .ok (.istore 7, 2) := by decide +kernel
theorem dX12_ask_68 : decode cX12_ask 68 = .ok (.iload 7, 2) := by decide +kernel
theorem dX12_ask_70 : decode cX12_ask 70 = .ok (.iload_n 2, 1) := by decide +kernel
theorem dX12_ask_71 : decode cX12_ask 71 = .ok (.iload 7, 2) := by decide +kernel
theorem dX12_ask_73 : decode cX12_ask 73 = .ok (.isub, 1) := by decide +kernel
theorem dX12_ask_74 : decode cX12_ask 74 = .ok (.invokestatic 401, 3) := by decide +kernel
theorem dX12_ask_77 : decode cX12_ask 77 = .ok (.istore 8, 2) := by decide +kernel
theorem dX12_ask_79 : decode cX12_ask 79 = .ok (.aload_n 0, 1) := by decide +kernel
theorem dX12_ask_80 : decode cX12_ask 80 = .ok (.getfield 42, 3) := by decide +kernel
theorem dX12_ask_83 : decode cX12_ask 83 = .ok (.iconst 0, 1) := by decide +kernel
theorem dX12_ask_84 : decode cX12_ask 84 = .ok (.iload 5, 2) := by decide +kernel
theorem dX12_ask_86 : decode cX12_ask 86 = .ok (.iadd, 1) := by decide +kernel
theorem dX12_ask_87 : decode cX12_ask 87 = .ok (.iaload, 1) := by decide +kernel
theorem dX12_ask_88 : decode cX12_ask 88 = .ok (.aload_n 0, 1) := by decide +kernel
theorem dX12_ask_89 : decode cX12_ask 89 = .ok (.getfield 42, 3) := by decide +kernel
theorem dX12_ask_92 : decode cX12_ask 92 = .ok (.iconst 0, 1) := by decide +kernel
theorem dX12_ask_93 : decode cX12_ask 93 = .ok (.iload 6, 2) := by decide +kernel
theorem dX12_ask_95 : decode cX12_ask 95 = .ok (.iadd, 1) := by decide +kernel
theorem dX12_ask_96 : decode cX12_ask 96 = .ok (.iaload, 1) := by decide +kernel
theorem dX12_ask_97 : decode cX12_ask 97 = .ok (.if_icmp .eq 26, 3) := by decide +kernel
theorem dX12_ask_100 : decode cX12_ask 100 = .ok (.iload 8, 2) := by decide +kernel
theorem dX12_ask_102 : decode cX12_ask 102 = .ok (.iload 4, 2) := by decide +kernel
theorem dX12_ask_104 : decode cX12_ask 104 = .ok (.if_icmp .lt 6, 3) := by decide +kernel
theorem dX12_ask_107 : decode cX12_ask 107 = .ok (.goto 16, 3) := by decide +kernel
theorem dX12_ask_110 : decode cX12_ask 110 = .ok (.iload 8, 2) := by decide +kernel
theorem dX12_ask_112 : decode cX12_ask 112 = .ok (.istore 4, 2) := by decide +kernel
theorem dX12_ask_114 : decode cX12_ask 114 = .ok (.bipush 10, 2) := by decide +kernel
theorem dX12_ask_116 : decode cX12_ask 116 = .ok (.iload 5, 2) := by decide +kernel
theorem dX12_ask_118 : decode cX12_ask 118 = .ok (.imul, 1) := by decide +kernel
theorem dX12_ask_119 : decode cX12_ask 119 = .ok (.iload 6, 2) := by decide +kernel
theorem dX12_ask_121 : decode cX12_ask 121 = .ok (.iadd, 1) := by decide +kernel
theorem dX12_ask_122 : decode cX12_ask 122 = .ok (.istore_n 3, 1) := by decide +kernel
theorem dX12_ask_123 : decode cX12_ask 123 = .ok (.iinc 6 1, 3) := by decide +kernel
theorem dX12_ask_126 : decode cX12_ask 126 = .ok (.goto (-82), 3) := by decide +kernel
theorem dX12_ask_129 : decode cX12_ask 129 = .ok (.iinc 5 1, 3) := by decide +kernel
theorem dX12_ask_132 : decode cX12_ask 132 = .ok (.goto (-107), 3) := by decide +kernel
theorem dX12_ask_135 : decode cX12_ask 135 = .ok (.iload_n 3, 1) := by decide +kernel
theorem dX12_ask_136 : decode cX12_ask 136 = .ok (.iconst (-1), 1) := by decide +kernel
theorem dX12_ask_137 : decode cX12_ask 137 = .ok (.if_icmp .eq 7, 3) := by decide +kernel
theorem dX12_ask_140 : decode cX12_ask 140 = .ok (.iload_n 1, 1) := by decide +kernel
theorem dX12_ask_141 : decode cX12_ask 141 = .ok (.ifCond .ne 7, 3) := by decide +kernel
theorem dX12_ask_144 : decode cX12_ask 144 = .ok (.iload_n 3, 1) := by decide +kernel
theorem dX12_ask_145 : decode cX12_ask 145 = .ok (.goto 5, 3) := by decide +kernel
theorem dX12_ask_148 : decode cX12_ask 148 = .ok (.iload 4, 2) := by decide +kernel
theorem dX12_ask_150 : decode cX12_ask 150 = .ok (.ireturn, 1) := by decide +kernel
abbrev mX12_ask : zq_M := (cX12_ask, RX12, "ask", (some .int), 9)
theorem dX12_heard_0 : decode cX12_heard 0 = .ok (.iload_n 1, 1) := by decide +kernel
theorem dX12_heard_1 : decode cX12_heard 1 = .ok (.iload_n 2, 1) := by decide +kernel
theorem dX12_heard_2 : decode cX12_heard 2 = .ok (.if_icmp .ne 9, 3) := by decide +kernel
theorem dX12_heard_5 : decode cX12_heard 5 = .ok (.aload_n 0, 1) := by decide +kernel
theorem dX12_heard_6 : decode cX12_heard 6 = .ok (.iconst (-1), 1) := by decide +kernel
theorem dX12_heard_7 : decode cX12_heard 7 = .ok (.invokevirtual 135, 3) := by decide +kernel
theorem dX12_heard_10 : decode cX12_heard 10 = .ok (.ireturn, 1) := by decide +kernel
theorem dX12_heard_11 : decode cX12_heard 11 = .ok (.aload_n 0, 1) := by decide +kernel
theorem dX12_heard_12 : decode cX12_heard 12 = .ok (.iload_n 1, 1) := by decide +kernel
theorem dX12_heard_13 : decode cX12_heard 13 = .ok (.invokevirtual 152, 3) := by decide +kernel
theorem dX12_heard_16 : decode cX12_heard 16 = .ok (.ifCond .eq 11, 3) := by decide +kernel
theorem dX12_heard_19 : decode cX12_heard 19 = .ok (.aload_n 0, 1) := by decide +kernel
theorem dX12_heard_20 : decode cX12_heard 20 = .ok (.iload_n 2, 1) := by decide +kernel
theorem dX12_heard_21 : decode cX12_heard 21 = .ok (.invokevirtual 152, 3) := by decide +kernel
theorem dX12_heard_24 : decode cX12_heard 24 = .ok (.ifCond .ne 10, 3) := by decide +kernel
theorem dX12_heard_27 : decode cX12_heard 27 = .ok (.aload_n 0, 1) := by decide +kernel
theorem dX12_heard_28 : decode cX12_heard 28 = .ok (.bipush (-2), 2) := by decide +kernel
theorem dX12_heard_30 : decode cX12_heard 30 = .ok (.invokevirtual 135, 3) := by decide +kernel
theorem dX12_heard_33 : decode cX12_heard 33 = .ok (.ireturn, 1) := by decide +kernel
theorem dX12_heard_34 : decode cX12_heard 34 = .ok (.aload_n 0, 1) := by decide +kernel
theorem dX12_heard_35 : decode cX12_heard 35 = .ok (.getfield 42, 3) := by decide +kernel
theorem dX12_heard_38 : decode cX12_heard 38 = .ok (.bipush 74, 2) := by decide +kernel
theorem dX12_heard_40 : decode cX12_heard 40 = .ok (.iaload, 1) := by decide +kernel
theorem dX12_heard_41 : decode cX12_heard 41 = .ok (.istore_n 3, 1) := by decide +kernel
theorem dX12_heard_42 : decode cX12_heard 42 = .ok (.iload_n 3, 1) := by decide +kernel
theorem dX12_heard_43 : decode cX12_heard 43 = .ok (.bipush 8, 2) := by decide +kernel
theorem dX12_heard_45 : decode cX12_heard 45 = .ok (.if_icmp .ne 10, 3) := by decide +kernel
theorem dX12_heard_48 : decode cX12_heard 48 = .ok (.aload_n 0, 1) := by decide +kernel
theorem dX12_heard_49 : decode cX12_heard 49 = .ok (.bipush (-5), 2) := by decide +kernel
theorem dX12_heard_51 : decode cX12_heard 51 = .ok (.invokevirtual 135, 3) := by decide +kernel
theorem dX12_heard_54 : decode cX12_heard 54 = .ok (.ireturn, 1) := by decide +kernel
theorem dX12_heard_55 : decode cX12_heard 55 = .ok (.aload_n 0, 1) := by decide +kernel
theorem dX12_heard_56 : decode cX12_heard 56 = .ok (.getfield 42, 3) := by decide +kernel
theorem dX12_heard_59 : decode cX12_heard 59 = .ok (.bipush 55, 2) := by decide +kernel
theorem dX12_heard_61 : decode cX12_heard 61 = .ok (.iconst 2, 1) := by decide +kernel
theorem dX12_heard_62 : decode cX12_heard 62 = .ok (.iload_n 3, 1) := by decide +kernel
theorem dX12_heard_63 : decode cX12_heard 63 = .ok (.imul, 1) := by decide +kernel
theorem dX12_heard_64 : decode cX12_heard 64 = .ok (.iadd, 1) := by decide +kernel
theorem dX12_heard_65 : decode cX12_heard 65 = .ok (.iload_n 1, 1) := by decide +kernel
theorem dX12_heard_66 : decode cX12_heard 66 = .ok (.iastore, 1) := by decide +kernel
theorem dX12_heard_67 : decode cX12_heard 67 = .ok (.aload_n 0, 1) := by decide +kernel
theorem dX12_heard_68 : decode cX12_heard 68 = .ok (.getfield 42, 3) := by decide +kernel
theorem dX12_heard_71 : decode cX12_heard 71 = .ok (.bipush 55, 2) := by decide +kernel
theorem dX12_heard_73 : decode cX12_heard 73 = .ok (.iconst 2, 1) := by decide +kernel
theorem dX12_heard_74 : decode cX12_heard 74 = .ok (.iload_n 3, 1) := by decide +kernel
theorem dX12_heard_75 : decode cX12_heard 75 = .ok (.imul, 1) := by decide +kernel
theorem dX12_heard_76 : decode cX12_heard 76 = .ok (.iadd, 1) := by decide +kernel
theorem dX12_heard_77 : decode cX12_heard 77 = .ok (.iconst 1, 1) := by decide +kernel
theorem dX12_heard_78 : decode cX12_heard 78 = .ok (.iadd, 1) := by decide +kernel
theorem dX12_heard_79 : decode cX12_heard 79 = .ok (.iload_n 2, 1) := by decide +kernel
theorem dX12_heard_80 : decode cX12_heard 80 = .ok (.iastore, 1) := by decide +kernel
theorem dX12_heard_81 : decode cX12_heard 81 = .ok (.aload_n 0, 1) := by decide +kernel
theorem dX12_heard_82 : decode cX12_heard 82 = .ok (.getfield 42, 3) := by decide +kernel
theorem dX12_heard_85 : decode cX12_heard 85 = .ok (.bipush 74, 2) := by decide +kernel
theorem dX12_heard_87 : decode cX12_heard 87 = .ok (.dup2, 1) := by decide +kernel
theorem dX12_heard_88 : decode cX12_heard 88 = .ok (.iaload, 1) := by decide +kernel
theorem dX12_heard_89 : decode cX12_heard 89 = .ok (.iconst 1, 1) := by decide +kernel
theorem dX12_heard_90 : decode cX12_heard 90 = .ok (.iadd, 1) := by decide +kernel
theorem dX12_heard_91 : decode cX12_heard 91 = .ok (.iastore, 1) := by decide +kernel
theorem dX12_heard_92 : decode cX12_heard 92 = .ok (.aload_n 0, 1) := by decide +kernel
theorem dX12_heard_93 : decode cX12_heard 93 = .ok (.iload_n 3, 1) := by decide +kernel
theorem dX12_heard_94 : decode cX12_heard 94 = .ok (.iconst 1, 1) := by decide +kernel
theorem dX12_heard_95 : decode cX12_heard 95 = .ok (.iadd, 1) := by decide +kernel
theorem dX12_heard_96 : decode cX12_heard 96 = .ok (.invokevirtual 14, 3) := by decide +kernel
theorem dX12_heard_99 : decode cX12_heard 99 = .ok (.ireturn, 1) := by decide +kernel
abbrev mX12_heard : zq_M := (cX12_heard, RX12, "heard", (some .int), 4)
theorem dX12_forget_0 : decode cX12_forget 0 = .ok (.aload_n 0, 1) := by decide +kernel
theorem dX12_forget_1 : decode cX12_forget 1 = .ok (.getfield 42, 3) := by decide +kernel
theorem dX12_forget_4 : decode cX12_forget 4 = .ok (.bipush 74, 2) := by decide +kernel
theorem dX12_forget_6 : decode cX12_forget 6 = .ok (.iaload, 1) := by decide +kernel
theorem dX12_forget_7 : decode cX12_forget 7 = .ok (.istore_n 1, 1) := by decide +kernel
theorem dX12_forget_8 : decode cX12_forget 8 = .ok (.aload_n 0, 1) := by decide +kernel
theorem dX12_forget_9 : decode cX12_forget 9 = .ok (.getfield 42, 3) := by decide +kernel
theorem dX12_forget_12 : decode cX12_forget 12 = .ok (.bipush 74, 2) := by decide +kernel
theorem dX12_forget_14 : decode cX12_forget 14 = .ok (.iconst 0, 1) := by decide +kernel
theorem dX12_forget_15 : decode cX12_forget 15 = .ok (.iastore, 1) := by decide +kernel
theorem dX12_forget_16 : decode cX12_forget 16 = .ok (.iload_n 1, 1) := by decide +kernel
theorem dX12_forget_17 : decode cX12_forget 17 = .ok (.ireturn, 1) := by decide +kernel
abbrev mX12_forget : zq_M := (cX12_forget, RX12, "forget", (some .int), 2)
section ZL6
variable {l : Launch} {G : zq_G} {D n m hn : Nat} {σ : zm_S} {ρ : Nat → zq_E} {post : Option Value → Nat → (Nat → zq_E) → Prop} {x w rk al ha hb : Nat → Nat}
theorem zm_isAllSo_loop (hD : 5 ≤ D) (hC : zC σ m x w rk) (hH : zH σ m hn ha hb) : ∀ (k i : Nat) (b : Bool), i + k = hn → post (some (.int (zb (b && zasF rk x ha hb k i)))) n (zm_h σ ρ) → zq_At l G (zq_rm D 0 0) mX12_isAllSo (zq_QF G post 0 0) 4 [(0, .ref 70), (1, .int (zb b)), (2, .int (nI i))] [] n (zm_h σ ρ) 0 0 := by
  have hm7 := hC.2.1
  have h8 := hH.2.1
  intro k
  induction k with
  | zero =>
    intro i b hi hp
    obtain rfl : i = hn := hi
    unfold zasF at hp
    rw [Bool.and_true] at hp
    refine at_iload_n dX12_isAllSo_4 rfl ?_
    refine at_aload_n dX12_isAllSo_5 rfl ?_
    refine at_get dX12_isAllSo_6 fl_X12_42 rfl rfl ?_
    refine at_bipush dX12_isAllSo_9 (v := nI 74) (by decide) ?_
    refine at_mald (a := 72) dX12_isAllSo_11 (by decide) (by decide) (by decide) (by decide) rfl rfl (by show _ < 5684; omega) (by decide) ?_
    rw [hH.1]
    refine at_geN (tgt := 62) dX12_isAllSo_12 (by decide) (by omega) (by omega) (fun c12 => ?_) (fun c12 => ?_)
    · refine at_iload_n dX12_isAllSo_62 rfl ?_
      refine at_zret dX12_isAllSo_63 rfl (by omega) (by omega) (zb_01 _) ?_
      exact hp
    · omega
  | succ k ih =>
    intro i b hi hp
    obtain ⟨e1, e2, l1, l2⟩ := hH.2.2 i (by omega)
    unfold zasF at hp
    refine at_iload_n dX12_isAllSo_4 rfl ?_
    refine at_aload_n dX12_isAllSo_5 rfl ?_
    refine at_get dX12_isAllSo_6 fl_X12_42 rfl rfl ?_
    refine at_bipush dX12_isAllSo_9 (v := nI 74) (by decide) ?_
    refine at_mald (a := 72) dX12_isAllSo_11 (by decide) (by decide) (by decide) (by decide) rfl rfl (by show _ < 5684; omega) (by decide) ?_
    rw [hH.1]
    refine at_geN (tgt := 62) dX12_isAllSo_12 (by decide) (by omega) (by omega) (fun c12 => ?_) (fun c12 => ?_)
    · omega
    · refine at_iload_n dX12_isAllSo_15 rfl ?_
      refine at_if_eqB (tgt := 62) dX12_isAllSo_16 (by decide) (fun c16 => ?_) (fun c16 => ?_)
      · rw [c16, Bool.false_and] at hp
        refine at_iload_n dX12_isAllSo_62 rfl ?_
        rw [c16]
        refine at_zret dX12_isAllSo_63 rfl (by omega) (by omega) (by first | exact Or.inl rfl | exact Or.inr rfl | assumption) ?_
        exact hp
      · rw [c16, Bool.true_and] at hp
        refine at_aload_n dX12_isAllSo_19 rfl ?_
        refine at_aload_n dX12_isAllSo_20 rfl ?_
        refine at_get dX12_isAllSo_21 fl_X12_42 rfl rfl ?_
        refine at_bipush dX12_isAllSo_24 (v := nI 55) (by decide) ?_
        refine at_iconst dX12_isAllSo_26 (v := nI 2) (by decide) ?_
        refine at_iload_n dX12_isAllSo_27 rfl ?_
        refine at_imulN dX12_isAllSo_28 ?_
        refine at_iaddN dX12_isAllSo_29 ?_
        refine at_mald (a := 72) dX12_isAllSo_30 (by decide) (by decide) (by decide) (by decide) rfl rfl (by show _ < 5684; omega) (by decide) ?_
        rw [e1]
        refine at_aload_n dX12_isAllSo_31 rfl ?_
        refine at_get dX12_isAllSo_32 fl_X12_42 rfl rfl ?_
        refine at_bipush dX12_isAllSo_35 (v := nI 55) (by decide) ?_
        refine at_iconst dX12_isAllSo_37 (v := nI 2) (by decide) ?_
        refine at_iload_n dX12_isAllSo_38 rfl ?_
        refine at_imulN dX12_isAllSo_39 ?_
        refine at_iaddN dX12_isAllSo_40 ?_
        refine at_iconst dX12_isAllSo_41 (v := nI 1) (by decide) ?_
        refine at_iaddN dX12_isAllSo_42 ?_
        refine at_mald (a := 72) dX12_isAllSo_43 (by decide) (by decide) (by decide) (by decide) rfl rfl (by show _ < 5684; omega) (by decide) ?_
        rw [e2]
        refine at_callV2 (d := D - 1) dX12_isAllSo_44 mv_X12_368 rfl (Nat.le_of_ble_eq_true rfl) (zq_r0 (by omega) (by omega) (by omega)) ?_
        refine zm_comparesTwo (by omega) hC l1 l2 (fun r hr1 hr2 => ?_)
        refine at_if_ge (tgt := 54) dX12_isAllSo_47 (by decide) (fun c47 => ?_) (fun c47 => ?_)
        · rw [← hr1, decide_eq_false (Int32.not_lt.mpr c47)] at hp
          refine at_iconst dX12_isAllSo_54 (v := nI 0) (by decide) ?_
          refine at_istore_n dX12_isAllSo_55 rfl (by decide) ?_
          refine at_iincN dX12_isAllSo_56 rfl (by decide) ?_
          refine at_goto (tgt := 4) dX12_isAllSo_59 (by decide) ?_
          first | exact ih (i + 1) true (by omega) hp | exact ih (i + 1) false (by omega) hp
        · rw [← hr1, decide_eq_true (Int32.not_le.mp c47)] at hp
          refine at_iconst dX12_isAllSo_50 (v := nI 1) (by decide) ?_
          refine at_goto (tgt := 55) dX12_isAllSo_51 (by decide) ?_
          refine at_istore_n dX12_isAllSo_55 rfl (by decide) ?_
          refine at_iincN dX12_isAllSo_56 rfl (by decide) ?_
          refine at_goto (tgt := 4) dX12_isAllSo_59 (by decide) ?_
          first | exact ih (i + 1) true (by omega) hp | exact ih (i + 1) false (by omega) hp
theorem zm_isAllSo (hD : 6 ≤ D) (hC : zC σ m x w rk) (hH : zH σ m hn ha hb) (hp : post (some (.int (zb (zasF rk x ha hb hn 0)))) n (zm_h σ ρ)) : zq_Runs l G D 0 0 yX12_isAllSo [.ref 70] n (zm_h σ ρ) post := by
  refine zq_enter (cc := cX12_isAllSo) (nL := 3) (ret := (some .boolean)) cw_X12_isAllSo (by decide) rfl (Nat.le_of_ble_eq_true rfl) ?_
  refine at_iconst dX12_isAllSo_0 (v := nI 1) (by decide) ?_
  refine at_istore_n dX12_isAllSo_1 rfl (by decide) ?_
  refine at_iconst dX12_isAllSo_2 (v := nI 0) (by decide) ?_
  refine at_istore_n dX12_isAllSo_3 rfl (by decide) ?_
  exact zm_isAllSo_loop (by omega) hC hH hn 0 true (Nat.zero_add _) (by rw [Bool.true_and]; exact hp)
theorem zH_alph (hH : zH σ m hn ha hb) {g h : Nat → Int32} : zH (zsA (zsA σ 84 g) 76 h) m hn ha hb := by
  unfold zH
  rw [zsA_o _ (by decide), zsA_o _ (by decide)]
  exact hH
theorem zm_fits_loop {i : Int32} (hD : 8 ≤ D) (hC : zC σ m x w rk) (hH : zH σ m hn ha hb) (hal : ∀ k, k < 5 → σ.2.1 72 (14 + k) = nI (al k) ∧ al k < 6) (hpm : zpm al) (V : Nat × Int32) (hp : ∀ g h : Nat → Int32, (∀ y, 1 ≤ y → y ≤ 5 → h y = nI (zrkN al y)) → post (some (.int (if i = -1 then nI V.1 else V.2))) n (zm_h (zsA (zsA σ 84 g) 76 h) ρ)) :
    ∀ (k p c : Nat) (fd : Int32) (g h : Nat → Int32), p + k = 120 → zrtF (fun p => zasF (zrkN (zal p)) x ha hb hn 0) (fun p => nI (zaln (zal p) 5)) i k p c fd = V → zq_At l G (zq_rm D 0 0) mX12_fits (zq_QF G post 0 0) 14 [(0, .ref 70), (1, .int i), (2, .int (nI c)), (3, .int fd), (4, .int (nI p))] [] n (zm_h (zsA (zsA σ 84 g) 76 h) ρ) 0 0 := by
  intro k
  induction k with
  | zero =>
    intro p c fd g h hi hv
    obtain rfl : p = 120 := hi
    unfold zrtF at hv
    subst hv
    have hp2 := hp g (zrk h al 5) (fun y h1 h5 => zrk_at hpm h h1 h5)
    refine at_iload dX12_fits_14 rfl ?_
    refine at_bipush dX12_fits_16 (v := nI 120) (by decide) ?_
    refine at_geN (tgt := 56) dX12_fits_18 (by decide) (by omega) (by omega) (fun c18 => ?_) (fun c18 => ?_)
    · refine at_aload_n dX12_fits_56 rfl ?_
      refine at_callV0 (d := D - 1) dX12_fits_57 mv_X12_132 rfl (Nat.le_of_ble_eq_true rfl) (zq_r0 (by omega) (by omega) (by omega)) ?_
      refine zm_laysRank (al := al) (fun k hk => by rw [zsA_o _ (by decide), zsA_o _ (by decide)]; exact hal k hk) ?_
      rw [show zsR (zsA (zsA σ 84 g) 76 h) (zrk ((zsA (zsA σ 84 g) 76 h).2.1 76) al 5) = zsA (zsA σ 84 g) 76 (zrk h al 5) by rw [zsA_s]; exact zsA_A _ _ _ _]
      refine at_iload_n dX12_fits_60 rfl ?_
      refine at_iconst dX12_fits_61 (v := -1) rfl ?_
      refine at_icmp_ne (tgt := 69) dX12_fits_62 (by decide) (fun c62 => ?_) (fun c62 => ?_)
      · rw [if_neg c62] at hp2
        refine at_iload_n dX12_fits_69 rfl ?_
        refine at_iret dX12_fits_70 rfl (by omega) (by omega) ?_
        exact hp2
      · rw [if_pos c62] at hp2
        refine at_iload_n dX12_fits_65 rfl ?_
        refine at_goto (tgt := 70) dX12_fits_66 (by decide) ?_
        refine at_iret dX12_fits_70 rfl (by omega) (by omega) ?_
        exact hp2
    · omega
  | succ k ih =>
    intro p c fd g h hi hv
    unfold zrtF at hv
    have hC2 := zC_alph (σ := σ) (g := zod g (zal p) 5) (h := zrk h (zal p) 5) hC (k := p) (by omega) (fun y h1 h5 => zrk_at (zal_pm (by omega)) h h1 h5)
    refine at_iload dX12_fits_14 rfl ?_
    refine at_bipush dX12_fits_16 (v := nI 120) (by decide) ?_
    refine at_geN (tgt := 56) dX12_fits_18 (by decide) (by omega) (by omega) (fun c18 => ?_) (fun c18 => ?_)
    · omega
    · refine at_aload_n dX12_fits_21 rfl ?_
      refine at_iload dX12_fits_22 rfl ?_
      refine at_callV1 (d := D - 1) dX12_fits_24 mv_X12_386 rfl (Nat.le_of_ble_eq_true rfl) (zq_r0 (by omega) (by omega) (by omega)) ?_
      refine zm_laysAlphabet (by omega) (by omega) ?_
      rw [show (zsA (zsA σ 84 g) 76 h).2.1 84 = g by rw [zsA_o _ (by decide), zsA_s], zsA_s, zsAA]
      refine at_aload_n dX12_fits_27 rfl ?_
      refine at_callV0 (d := D - 1) dX12_fits_28 mv_X12_395 rfl (Nat.le_of_ble_eq_true rfl) (zq_r0 (by omega) (by omega) (by omega)) ?_
      refine zm_isAllSo (by omega) hC2 (zH_alph hH) ?_
      refine at_if_neB (tgt := 37) dX12_fits_31 (by decide) (fun c31 => ?_) (fun c31 => ?_)
      · rw [if_pos c31] at hv
        refine at_iload_n dX12_fits_37 rfl ?_
        refine at_iload_n dX12_fits_38 rfl ?_
        refine at_icmp_ne (tgt := 47) dX12_fits_39 (by decide) (fun c39 => ?_) (fun c39 => ?_)
        · rw [if_neg c39] at hv
          refine at_iincN dX12_fits_47 rfl (by decide) ?_
          refine at_iincN dX12_fits_50 rfl (by decide) ?_
          refine at_goto (tgt := 14) dX12_fits_53 (by decide) ?_
          exact ih (p + 1) _ _ _ _ (by omega) hv
        · rw [if_pos c39] at hv
          refine at_aload_n dX12_fits_42 rfl ?_
          refine at_callV0 (d := D - 1) dX12_fits_43 mv_X12_392 rfl (Nat.le_of_ble_eq_true rfl) (zq_r0 (by omega) (by omega) (by omega)) ?_
          refine zm_laidAlphabet (al := zal p) (fun k hk => by rw [zsA_o _ (by decide), zsA_s]; exact zod_at _ _ hk) ?_
          refine at_istore_n dX12_fits_46 rfl (by decide) ?_
          refine at_iincN dX12_fits_47 rfl (by decide) ?_
          refine at_iincN dX12_fits_50 rfl (by decide) ?_
          refine at_goto (tgt := 14) dX12_fits_53 (by decide) ?_
          exact ih (p + 1) _ _ _ _ (by omega) hv
      · rw [if_neg (by rw [c31]; decide)] at hv
        refine at_goto (tgt := 50) dX12_fits_34 (by decide) ?_
        refine at_iincN dX12_fits_50 rfl (by decide) ?_
        refine at_goto (tgt := 14) dX12_fits_53 (by decide) ?_
        exact ih (p + 1) _ _ _ _ (by omega) hv
theorem zm_fits {i : Int32} (hD : 9 ≤ D) (hC : zC σ m x w rk) (hH : zH σ m hn ha hb) (hal : ∀ k, k < 5 → σ.2.1 72 (14 + k) = nI (al k) ∧ al k < 6) (hpm : zpm al) (hrk : ∀ y, 1 ≤ y → y ≤ 5 → rk y = zrkN al y) (hp : ∀ g h : Nat → Int32, (∀ y, 1 ≤ y → y ≤ 5 → h y = nI (zrkN al y)) → post (some (.int (zrtR (fun p => zasF (zrkN (zal p)) x ha hb hn 0) i))) n (zm_h (zsA (zsA σ 84 g) 76 h) ρ)) : zq_Runs l G D 0 0 yX12_fits [.ref 70, .int i] n (zm_h σ ρ) post := by
  have h0 := hp (σ.2.1 84) (σ.2.1 76) (fun y h1 h5 => by rw [(hC.2.2.2.2 y h1 h5).1, hrk y h1 h5])
  rw [zsA_0, zsA_0] at h0
  unfold zrtR at h0 hp
  refine zq_enter (cc := cX12_fits) (nL := 5) (ret := (some .int)) cw_X12_fits (by decide) rfl (Nat.le_of_ble_eq_true rfl) ?_
  refine at_iload_n dX12_fits_0 rfl ?_
  refine at_iconst dX12_fits_1 (v := -1) rfl ?_
  refine at_icmp_ge (tgt := 7) dX12_fits_2 (by decide) (fun c2 => ?_) (fun c2 => ?_)
  · refine at_iconst dX12_fits_7 (v := nI 0) (by decide) ?_
    refine at_istore_n dX12_fits_8 rfl (by decide) ?_
    refine at_iconst dX12_fits_9 (v := -1) rfl ?_
    refine at_istore_n dX12_fits_10 rfl (by decide) ?_
    refine at_iconst dX12_fits_11 (v := nI 0) (by decide) ?_
    refine at_istore dX12_fits_12 (by decide) ?_
    have h1 := zm_fits_loop (D := D) (l := l) (G := G) (i := i) (by omega) hC hH hal hpm _ (fun g h hh => by have := hp g h hh; rw [if_neg (Int32.not_lt.mpr c2)] at this; exact this) 120 0 0 (-1) (σ.2.1 84) (σ.2.1 76) rfl rfl
    rw [zsA_0, zsA_0] at h1
    exact h1
  · rw [if_pos (Int32.not_le.mp c2)] at h0
    refine at_iconst dX12_fits_5 (v := -1) rfl ?_
    refine at_iret dX12_fits_6 rfl (by omega) (by omega) ?_
    exact h0
theorem zm_forget (hp : post (some (.int (σ.2.1 72 74))) n (zm_h (zsK σ (upd (σ.2.1 72) 74 (nI 0))) ρ)) : zq_Runs l G D 0 0 yX12_forget [.ref 70] n (zm_h σ ρ) post := by
  refine zq_enter (cc := cX12_forget) (nL := 2) (ret := (some .int)) cw_X12_forget (by decide) rfl (Nat.le_of_ble_eq_true rfl) ?_
  refine at_aload_n dX12_forget_0 rfl ?_
  refine at_get dX12_forget_1 fl_X12_42 rfl rfl ?_
  refine at_bipush dX12_forget_4 (v := nI 74) (by decide) ?_
  refine at_mald (a := 72) dX12_forget_6 (by decide) (by decide) (by decide) (by decide) rfl rfl (by show _ < 5684; omega) (by decide) ?_
  refine at_istore_n dX12_forget_7 rfl (by decide) ?_
  refine at_aload_n dX12_forget_8 rfl ?_
  refine at_get dX12_forget_9 fl_X12_42 rfl rfl ?_
  refine at_bipush dX12_forget_12 (v := nI 74) (by decide) ?_
  refine at_iconst dX12_forget_14 (v := nI 0) (by decide) ?_
  refine at_mast (a := 72) dX12_forget_15 (by decide) (by decide) (by decide) (by decide) rfl rfl (by show _ < 5684; omega) (by decide) ?_
  refine at_iload_n dX12_forget_16 rfl ?_
  refine at_iret dX12_forget_17 rfl (by omega) (by omega) ?_
  exact hp
theorem zm_heard {p q : Int32} (hD : 2 ≤ D) (hm : σ.2.1 72 73 = nI m) (hm7 : m ≤ 7) (hh : σ.2.1 72 74 = nI hn) (h8 : hn ≤ 8)
    (hf1 : p = q → post (some (.int (-(nI 1)))) n (zm_h (zref σ 1) ρ)) (hf2 : p ≠ q → (zix m p && zix m q) = false → post (some (.int (-(nI 2)))) n (zm_h (zref σ 2) ρ)) (hf3 : p ≠ q → (zix m p && zix m q) = true → hn = 8 → post (some (.int (-(nI 5)))) n (zm_h (zref σ 5) ρ))
    (ht : ∀ a b, a < m → b < m → a ≠ b → p = nI a → q = nI b → hn < 8 → post (some (.int (nI (hn + 1)))) n (zm_h (zm_si (zsK σ (upd (upd (upd (σ.2.1 72) (55 + 2 * hn) p) (55 + 2 * hn + 1) q) 74 (nI (hn + 1)))) 0 0) ρ)) : zq_Runs l G D 0 0 yX12_heard [.ref 70, .int p, .int q] n (zm_h σ ρ) post := by
  refine zq_enter (cc := cX12_heard) (nL := 4) (ret := (some .int)) cw_X12_heard (by decide) rfl (Nat.le_of_ble_eq_true rfl) ?_
  refine at_iload_n dX12_heard_0 rfl ?_
  refine at_iload_n dX12_heard_1 rfl ?_
  refine at_icmp_ne (tgt := 11) dX12_heard_2 (by decide) (fun c2 => ?_) (fun c2 => ?_)
  · refine at_aload_n dX12_heard_11 rfl ?_
    refine at_iload_n dX12_heard_12 rfl ?_
    refine at_callV1 (d := D - 1) dX12_heard_13 mv_X12_152 rfl (Nat.le_of_ble_eq_true rfl) (zq_r0 (by omega) (by omega) (by omega)) ?_
    refine zm_isPerson (by omega) hm hm7 ?_
    refine at_if_eqB (tgt := 27) dX12_heard_16 (by decide) (fun c16 => ?_) (fun c16 => ?_)
    · have hp := hf2 c2 (by rw [c16]; rfl)
      refine at_aload_n dX12_heard_27 rfl ?_
      refine at_bipush dX12_heard_28 (v := -2) (by decide) ?_
      refine at_callV1 (d := D - 1) dX12_heard_30 mv_X12_135 rfl (Nat.le_of_ble_eq_true rfl) (zq_r0 (by omega) (by omega) (by omega)) ?_
      refine zm_ref (j := 2) (by decide) ?_
      refine at_iret dX12_heard_33 rfl (by omega) (by omega) ?_
      exact hp
    · refine at_aload_n dX12_heard_19 rfl ?_
      refine at_iload_n dX12_heard_20 rfl ?_
      refine at_callV1 (d := D - 1) dX12_heard_21 mv_X12_152 rfl (Nat.le_of_ble_eq_true rfl) (zq_r0 (by omega) (by omega) (by omega)) ?_
      refine zm_isPerson (by omega) hm hm7 ?_
      refine at_if_neB (tgt := 34) dX12_heard_24 (by decide) (fun c24 => ?_) (fun c24 => ?_)
      · refine at_aload_n dX12_heard_34 rfl ?_
        refine at_get dX12_heard_35 fl_X12_42 rfl rfl ?_
        refine at_bipush dX12_heard_38 (v := nI 74) (by decide) ?_
        refine at_mald (a := 72) dX12_heard_40 (by decide) (by decide) (by decide) (by decide) rfl rfl (by show _ < 5684; omega) (by decide) ?_
        rw [hh]
        refine at_istore_n dX12_heard_41 rfl (by decide) ?_
        refine at_iload_n dX12_heard_42 rfl ?_
        refine at_bipush dX12_heard_43 (v := nI 8) (by decide) ?_
        refine at_neN (tgt := 55) dX12_heard_45 (by decide) (by omega) (by omega) (fun c45 => ?_) (fun c45 => ?_)
        · obtain ⟨a, ha, rfl⟩ := zix_t c16
          obtain ⟨b, hb, rfl⟩ := zix_t c24
          have hp := ht a b ha hb (fun e => c2 (by rw [e])) rfl rfl (by omega)
          refine at_aload_n dX12_heard_55 rfl ?_
          refine at_get dX12_heard_56 fl_X12_42 rfl rfl ?_
          refine at_bipush dX12_heard_59 (v := nI 55) (by decide) ?_
          refine at_iconst dX12_heard_61 (v := nI 2) (by decide) ?_
          refine at_iload_n dX12_heard_62 rfl ?_
          refine at_imulN dX12_heard_63 ?_
          refine at_iaddN dX12_heard_64 ?_
          refine at_iload_n dX12_heard_65 rfl ?_
          refine at_mast (a := 72) dX12_heard_66 (by decide) (by decide) (by decide) (by decide) rfl rfl (by show _ < 5684; omega) (by decide) ?_
          rw [zsK_s]
          refine at_aload_n dX12_heard_67 rfl ?_
          refine at_get dX12_heard_68 fl_X12_42 rfl rfl ?_
          refine at_bipush dX12_heard_71 (v := nI 55) (by decide) ?_
          refine at_iconst dX12_heard_73 (v := nI 2) (by decide) ?_
          refine at_iload_n dX12_heard_74 rfl ?_
          refine at_imulN dX12_heard_75 ?_
          refine at_iaddN dX12_heard_76 ?_
          refine at_iconst dX12_heard_77 (v := nI 1) (by decide) ?_
          refine at_iaddN dX12_heard_78 ?_
          refine at_iload_n dX12_heard_79 rfl ?_
          refine at_mast (a := 72) dX12_heard_80 (by decide) (by decide) (by decide) (by decide) rfl rfl (by show _ < 5684; omega) (by decide) ?_
          rw [zsK_a]
          refine at_aload_n dX12_heard_81 rfl ?_
          refine at_get dX12_heard_82 fl_X12_42 rfl rfl ?_
          refine at_bipush dX12_heard_85 (v := nI 74) (by decide) ?_
          refine at_dup2 dX12_heard_87 rfl rfl ?_
          refine at_mald (a := 72) dX12_heard_88 (by decide) (by decide) (by decide) (by decide) rfl rfl (by show _ < 5684; omega) (by decide) ?_
          rw [zsK_k, upd_o _ (by omega), upd_o _ (by omega), hh]
          refine at_iconst dX12_heard_89 (v := nI 1) (by decide) ?_
          refine at_iaddN dX12_heard_90 ?_
          refine at_mast (a := 72) dX12_heard_91 (by decide) (by decide) (by decide) (by decide) rfl rfl (by show _ < 5684; omega) (by decide) ?_
          rw [zsK_a]
          refine at_aload_n dX12_heard_92 rfl ?_
          refine at_iload_n dX12_heard_93 rfl ?_
          refine at_iconst dX12_heard_94 (v := nI 1) (by decide) ?_
          refine at_iaddN dX12_heard_95 ?_
          refine at_callV1 (d := D - 1) dX12_heard_96 mv_X12_14 rfl (Nat.le_of_ble_eq_true rfl) (zq_r0 (by omega) (by omega) (by omega)) ?_
          refine zm_good ?_
          refine at_iret dX12_heard_99 rfl (by omega) (by omega) ?_
          exact hp
        · have hp := hf3 c2 (by rw [c16, c24]; rfl) c45
          refine at_aload_n dX12_heard_48 rfl ?_
          refine at_bipush dX12_heard_49 (v := -5) (by decide) ?_
          refine at_callV1 (d := D - 1) dX12_heard_51 mv_X12_135 rfl (Nat.le_of_ble_eq_true rfl) (zq_r0 (by omega) (by omega) (by omega)) ?_
          refine zm_ref (j := 5) (by decide) ?_
          refine at_iret dX12_heard_54 rfl (by omega) (by omega) ?_
          exact hp
      · have hp := hf2 c2 (by rw [c24, Bool.and_false])
        refine at_aload_n dX12_heard_27 rfl ?_
        refine at_bipush dX12_heard_28 (v := -2) (by decide) ?_
        refine at_callV1 (d := D - 1) dX12_heard_30 mv_X12_135 rfl (Nat.le_of_ble_eq_true rfl) (zq_r0 (by omega) (by omega) (by omega)) ?_
        refine zm_ref (j := 2) (by decide) ?_
        refine at_iret dX12_heard_33 rfl (by omega) (by omega) ?_
        exact hp
  · have hp := hf1 c2
    refine at_aload_n dX12_heard_5 rfl ?_
    refine at_iconst dX12_heard_6 (v := -1) rfl ?_
    refine at_callV1 (d := D - 1) dX12_heard_7 mv_X12_135 rfl (Nat.le_of_ble_eq_true rfl) (zq_r0 (by omega) (by omega) (by omega)) ?_
    refine zm_ref (j := 1) (by decide) ?_
    refine at_iret dX12_heard_10 rfl (by omega) (by omega) ?_
    exact hp
end ZL6

