/-! ===== the Model: words and tokens ===== -/
/-- k bytes of the tape from a + i on are those of the word u -/
def zeqF (T : Nat → Int32) (a : Nat) (u : List Nat) : Nat → Nat → Bool
  | 0, _ => true
  | k + 1, i => decide (nI (u.getD i 0) = T (a + i)) && zeqF T a u k (i + 1)
def zisw (T : Nat → Int32) (a b : Nat) (u : List Nat) : Bool := decide (u.length = b - a) && zeqF T a u u.length 0
/-- which of the words it is, counted from w; 0: none -/
def zword (T : Nat → Int32) (a b : Nat) : List (List Nat) → Nat → Nat
  | [], _ => 0
  | u :: us, w => if zisw T a b u = true then w else zword T a b us (w + 1)
/-- the words stand in the row B from k on, a blank behind each, up to 143 -/
def zspell (B : Nat → Int32) : Nat → List (List Nat) → Prop
  | k, [] => k = 143
  | k, u :: us => (∀ i, i < u.length → B (k + i) = nI (u.getD i 0) ∧ u.getD i 0 < 128 ∧ u.getD i 0 ≠ 32) ∧ B (k + u.length) = nI 32 ∧ k + u.length < 143 ∧ zspell B (k + u.length + 1) us
def zsm (b : Int32) : Bool := decide (nI 97 ≤ b) && decide (b ≤ nI 122)
def zdg (b : Int32) : Bool := decide (nI 48 ≤ b) && decide (b ≤ nI 57)
theorem dX12_wordOf_0 : decode cX12_wordOf 0 = .ok (.iconst 1, 1) := by decide +kernel
theorem dX12_wordOf_1 : decode cX12_wordOf 1 = .ok (.istore_n 3, 1) := by decide +kernel
theorem dX12_wordOf_2 : decode cX12_wordOf 2 = .ok (.iconst 0, 1) := by decide +kernel
theorem dX12_wordOf_3 : decode cX12_wordOf 3 = .ok (.istore 4, 2) := by decide +kernel
theorem dX12_wordOf_5 : decode cX12_wordOf 5 = .ok (.iload 4, 2) := by decide +kernel
theorem dX12_wordOf_7 : decode cX12_wordOf 7 = .ok (.aload_n 0, 1) := by decide +kernel
theorem dX12_wordOf_8 : decode cX12_wordOf 8 = .ok (.getfield 58, 3) := by decide +kernel
theorem dX12_wordOf_11 : decode cX12_wordOf 11 = .ok (.arraylength, 1) := by decide +kernel
theorem dX12_wordOf_12 : decode cX12_wordOf 12 = .ok (.if_icmp .ge 114, 3) := by decide +kernel
theorem dX12_wordOf_15 : decode cX12_wordOf 15 = .ok (.iconst 0, 1) := by decide +kernel
theorem dX12_wordOf_16 : decode cX12_wordOf 16 = .ok (.istore 5, 2) := by decide +kernel
theorem dX12_wordOf_18 : decode cX12_wordOf 18 = .ok (.aload_n 0, 1) := by decide +kernel
theorem dX12_wordOf_19 : decode cX12_wordOf 19 = .ok (.getfield 58, 3) := by decide +kernel
theorem dX12_wordOf_22 : decode cX12_wordOf 22 = .ok (.iload 4, 2) := by decide +kernel
theorem dX12_wordOf_24 : decode cX12_wordOf 24 = .ok (.iload 5, 2) := by decide +kernel
theorem dX12_wordOf_26 : decode cX12_wordOf 26 = .ok (.iadd, 1) := by decide +kernel
theorem dX12_wordOf_27 : decode cX12_wordOf 27 = .ok (.baload, 1) := by decide +kernel
theorem dX12_wordOf_28 : decode cX12_wordOf 28 = .ok (.bipush 32, 2) := by decide +kernel
theorem dX12_wordOf_30 : decode cX12_wordOf 30 = .ok (.if_icmp .eq 9, 3) := by decide +kernel
theorem dX12_wordOf_33 : decode cX12_wordOf 33 = .ok (.iinc 5 1, 3) := by decide +kernel
theorem dX12_wordOf_36 : decode cX12_wordOf 36 = .ok (.goto (-18), 3) := by decide +kernel
theorem dX12_wordOf_39 : decode cX12_wordOf 39 = .ok (.iload 5, 2) := by decide +kernel
theorem dX12_wordOf_41 : decode cX12_wordOf 41 = .ok (.iload_n 2, 1) := by decide +kernel
theorem dX12_wordOf_42 : decode cX12_wordOf 42 = .ok (.iload_n 1, 1) := by decide +kernel
theorem dX12_wordOf_43 : decode cX12_wordOf 43 = .ok (.isub, 1) := by decide +kernel
theorem dX12_wordOf_44 : decode cX12_wordOf 44 = .ok (.if_icmp .ne 7, 3) := by decide +kernel
theorem dX12_wordOf_47 : decode cX12_wordOf 47 = .ok (.iconst 1, 1) := by decide +kernel
theorem dX12_wordOf_48 : decode cX12_wordOf 48 = .ok (.goto 4, 3) := by decide +kernel
theorem dX12_wordOf_51 : decode cX12_wordOf 51 = .ok (.iconst 0, 1) := by decide +kernel
theorem dX12_wordOf_52 : decode cX12_wordOf 52 = .ok (.istore 6, 2) := by decide +kernel
theorem dX12_wordOf_54 : decode cX12_wordOf 54 = .ok (.iconst 0, 1) := by decide +kernel
theorem dX12_wordOf_55 : decode cX12_wordOf 55 = .ok (.istore 7, 2) := by decide +kernel
theorem dX12_wordOf_57 : decode cX12_wordOf 57 = .ok (.iload 7, 2) := by decide +kernel
theorem dX12_wordOf_59 : decode cX12_wordOf 59 = .ok (.iload 5, 2) := by decide +kernel
theorem dX12_wordOf_61 : decode cX12_wordOf 61 = .ok (.if_icmp .ge 43, 3) := by decide +kernel
theorem dX12_wordOf_64 : decode cX12_wordOf 64 = .ok (.iload 6, 2) := by decide +kernel
theorem dX12_wordOf_66 : decode cX12_wordOf 66 = .ok (.ifCond .eq 38, 3) := by decide +kernel
theorem dX12_wordOf_69 : decode cX12_wordOf 69 = .ok (.aload_n 0, 1) := by decide +kernel
theorem dX12_wordOf_70 : decode cX12_wordOf 70 = .ok (.getfield 58, 3) := by decide +kernel
theorem dX12_wordOf_73 : decode cX12_wordOf 73 = .ok (.iload 4, 2) := by decide +kernel
theorem dX12_wordOf_75 : decode cX12_wordOf 75 = .ok (.iload 7, 2) := by decide +kernel
theorem dX12_wordOf_77 : decode cX12_wordOf 77 = .ok (.iadd, 1) := by decide +kernel
theorem dX12_wordOf_78 : decode cX12_wordOf 78 = .ok (.baload, 1) := by decide +kernel
theorem dX12_wordOf_79 : decode cX12_wordOf 79 = .ok (.aload_n 0, 1) := by decide +kernel
theorem dX12_wordOf_80 : decode cX12_wordOf 80 = .ok (.getfield 62, 3) := by decide +kernel
theorem dX12_wordOf_83 : decode cX12_wordOf 83 = .ok (.iload_n 1, 1) := by decide +kernel
theorem dX12_wordOf_84 : decode cX12_wordOf 84 = .ok (.iload 7, 2) := by decide +kernel
theorem dX12_wordOf_86 : decode cX12_wordOf 86 = .ok (.iadd, 1) := by decide +kernel
theorem dX12_wordOf_87 : decode cX12_wordOf 87 = .ok (.baload, 1) := by decide +kernel
theorem dX12_wordOf_88 : decode cX12_wordOf 88 = .ok (.if_icmp .ne 7, 3) := by decide +kernel
theorem dX12_wordOf_91 : decode cX12_wordOf 91 = .ok (.iconst 1, 1) := by decide +kernel
theorem dX12_wordOf_92 : decode cX12_wordOf 92 = .ok (.goto 4, 3) := by decide +kernel
theorem dX12_wordOf_95 : decode cX12_wordOf 95 = .ok (.iconst 0, 1) := by decide +kernel
theorem dX12_wordOf_96 : decode cX12_wordOf 96 = .ok (.istore 6, 2) := by decide +kernel
theorem dX12_wordOf_98 : decode cX12_wordOf 98 = .ok (.iinc 7 1, 3) := by decide +kernel
theorem dX12_wordOf_101 : decode cX12_wordOf 101 = .ok (.goto (-44), 3) := by decide +kernel
theorem dX12_wordOf_104 : decode cX12_wordOf 104 = .ok (.iload 6, 2) := by decide +kernel
theorem dX12_wordOf_106 : decode cX12_wordOf 106 = .ok (.ifCond .eq 5, 3) := by decide +kernel
theorem dX12_wordOf_109 : decode cX12_wordOf 109 = .ok (.iload_n 3, 1) := by decide +kernel
theorem dX12_wordOf_110 : decode cX12_wordOf 110 = .ok (.ireturn, 1) := by decide +kernel
theorem dX12_wordOf_111 : decode cX12_wordOf 111 = .ok (.iload 4, 2) := by decide +kernel
theorem dX12_wordOf_113 : decode cX12_wordOf 113 = .ok (.iload 5, 2) := by decide +kernel
theorem dX12_wordOf_115 : decode cX12_wordOf 115 = .ok (.iconst 1, 1) := by decide +kernel
theorem dX12_wordOf_116 : decode cX12_wordOf 116 = .ok (.iadd, 1) := by decide +kernel
theorem dX12_wordOf_117 : decode cX12_wordOf 117 = .ok (.iadd, 1) := by decide +kernel
theorem dX12_wordOf_118 : decode cX12_wordOf 118 = .ok (.istore 4, 2) := by decide +kernel
theorem dX12_wordOf_120 : decode cX12_wordOf 120 = .ok (.iinc 3 1, 3) := by decide +kernel
theorem dX12_wordOf_123 : decode cX12_wordOf 123 = .ok (.goto (-118), 3) := by decide +kernel
theorem dX12_wordOf_126 : decode cX12_wordOf 126 = .ok (.iconst 0, 1) := by decide +kernel
theorem dX12_wordOf_127 : decode cX12_wordOf 127 = .ok (.ireturn, 1) := by decide +kernel
abbrev mX12_wordOf : zq_M := (cX12_wordOf, RX12, "wordOf", (some .int), 8)
theorem dX12_isSmall_0 : decode cX12_isSmall 0 = .ok (.iload_n 0, 1) := by decide +kernel
theorem dX12_isSmall_1 : decode cX12_isSmall 1 = .ok (.bipush 97, 2) := by decide +kernel
theorem dX12_isSmall_3 : decode cX12_isSmall 3 = .ok (.if_icmp .lt 13, 3) := by decide +kernel
theorem dX12_isSmall_6 : decode cX12_isSmall 6 = .ok (.iload_n 0, 1) := by decide +kernel
theorem dX12_isSmall_7 : decode cX12_isSmall 7 = .ok (.bipush 122, 2) := by decide +kernel
theorem dX12_isSmall_9 : decode cX12_isSmall 9 = .ok (.if_icmp .gt 7, 3) := by decide +kernel
theorem dX12_isSmall_12 : decode cX12_isSmall 12 = .ok (.iconst 1, 1) := by decide +kernel
theorem dX12_isSmall_13 : decode cX12_isSmall 13 = .ok (.goto 4, 3) := by decide +kernel
theorem dX12_isSmall_16 : decode cX12_isSmall 16 = .ok (.iconst 0, 1) := by decide +kernel
theorem dX12_isSmall_17 : decode cX12_isSmall 17 = .ok (.ireturn, 1) := by decide +kernel
abbrev mX12_isSmall : zq_M := (cX12_isSmall, RX12, "isSmall", (some .boolean), 1)
theorem dX12_isDigit_0 : decode cX12_isDigit 0 = .ok (.iload_n 0, 1) := by decide +kernel
theorem dX12_isDigit_1 : decode cX12_isDigit 1 = .ok (.bipush 48, 2) := by decide +kernel
theorem dX12_isDigit_3 : decode cX12_isDigit 3 = .ok (.if_icmp .lt 13, 3) := by decide +kernel
theorem dX12_isDigit_6 : decode cX12_isDigit 6 = .ok (.iload_n 0, 1) := by decide +kernel
theorem dX12_isDigit_7 : decode cX12_isDigit 7 = .ok (.bipush 57, 2) := by decide +kernel
theorem dX12_isDigit_9 : decode cX12_isDigit 9 = .ok (.if_icmp .gt 7, 3) := by decide +kernel
theorem dX12_isDigit_12 : decode cX12_isDigit 12 = .ok (.iconst 1, 1) := by decide +kernel
theorem dX12_isDigit_13 : decode cX12_isDigit 13 = .ok (.goto 4, 3) := by decide +kernel
theorem dX12_isDigit_16 : decode cX12_isDigit 16 = .ok (.iconst 0, 1) := by decide +kernel
theorem dX12_isDigit_17 : decode cX12_isDigit 17 = .ok (.ireturn, 1) := by decide +kernel
abbrev mX12_isDigit : zq_M := (cX12_isDigit, RX12, "isDigit", (some .boolean), 1)
theorem dX12_splits_0 : decode cX12_splits 0 = .ok (.aload_n 0, 1) := by decide +kernel
theorem dX12_splits_1 : decode cX12_splits 1 = .ok (.iconst 0, 1) := by decide +kernel
theorem dX12_splits_2 : decode cX12_splits 2 = .ok (.putfield 184, 3) := by decide +kernel
theorem dX12_splits_5 : decode cX12_splits 5 = .ok (.iconst 0, 1) := by decide +kernel
theorem dX12_splits_6 : decode cX12_splits 6 = .ok (.istore_n 2, 1) := by decide +kernel
theorem dX12_splits_7 : decode cX12_splits 7 = .ok (.iload_n 2, 1) := by decide +kernel
theorem dX12_splits_8 : decode cX12_splits 8 = .ok (.iload_n 1, 1) := by decide +kernel
theorem dX12_splits_9 : decode cX12_splits 9 = .ok (.if_icmp .ge 254, 3) := by decide +kernel
theorem dX12_splits_12 : decode cX12_splits 12 = .ok (.aload_n 0, 1) := by decide +kernel
theorem dX12_splits_13 : decode cX12_splits 13 = .ok (.getfield 62, 3) := by decide +kernel
theorem dX12_splits_16 : decode cX12_splits 16 = .ok (.iload_n 2, 1) := by decide +kernel
theorem dX12_splits_17 : decode cX12_splits 17 = .ok (.baload, 1) := by decide +kernel
theorem dX12_splits_18 : decode cX12_splits 18 = .ok (.istore_n 3, 1) := by decide +kernel
theorem dX12_splits_19 : decode cX12_splits 19 = .ok (.iload_n 3, 1) := by decide +kernel
theorem dX12_splits_20 : decode cX12_splits 20 = .ok (.bipush 32, 2) := by decide +kernel
theorem dX12_splits_22 : decode cX12_splits 22 = .ok (.if_icmp .ne 9, 3) := by decide +kernel
theorem dX12_splits_25 : decode cX12_splits 25 = .ok (.iinc 2 1, 3) := by decide +kernel
theorem dX12_splits_28 : decode cX12_splits 28 = .ok (.goto (-21), 3) := by decide +kernel
theorem dX12_splits_31 : decode cX12_splits 31 = .ok (.iload_n 2, 1) := by decide +kernel
theorem dX12_splits_32 : decode cX12_splits 32 = .ok (.iconst 1, 1) := by decide +kernel
theorem dX12_splits_33 : decode cX12_splits 33 = .ok (.iadd, 1) := by decide +kernel
theorem dX12_splits_34 : decode cX12_splits 34 = .ok (.istore 4, 2) := by decide +kernel
theorem dX12_splits_36 : decode cX12_splits 36 = .ok (.iload_n 3, 1) := by decide +kernel
theorem dX12_splits_37 : decode cX12_splits 37 = .ok (.invokestatic 187, 3) := by decide +kernel
theorem dX12_splits_40 : decode cX12_splits 40 = .ok (.ifCond .eq 28, 3) := by decide +kernel
theorem dX12_splits_43 : decode cX12_splits 43 = .ok (.iload 4, 2) := by decide +kernel
theorem dX12_splits_45 : decode cX12_splits 45 = .ok (.iload_n 1, 1) := by decide +kernel
theorem dX12_splits_46 : decode cX12_splits 46 = .ok (.if_icmp .ge 22, 3) := by decide +kernel
theorem dX12_splits_49 : decode cX12_splits 49 = .ok (.aload_n 0, 1) := by decide +kernel
theorem dX12_splits_50 : decode cX12_splits 50 = .ok (.getfield 62, 3) := by decide +kernel
theorem dX12_splits_53 : decode cX12_splits 53 = .ok (.iload 4, 2) := by decide +kernel
theorem dX12_splits_55 : decode cX12_splits 55 = .ok (.baload, 1) := by decide +kernel
theorem dX12_splits_56 : decode cX12_splits 56 = .ok (.invokestatic 187, 3) := by decide +kernel
theorem dX12_splits_59 : decode cX12_splits 59 = .ok (.ifCond .eq 9, 3) := by decide +kernel
theorem dX12_splits_62 : decode cX12_splits 62 = .ok (.iinc 4 1, 3) := by decide +kernel
theorem dX12_splits_65 : decode cX12_splits 65 = .ok (.goto (-22), 3) := by decide +kernel
theorem dX12_splits_68 : decode cX12_splits 68 = .ok (.iload_n 3, 1) := by decide +kernel
theorem dX12_splits_69 : decode cX12_splits 69 = .ok (.invokestatic 190, 3) := by decide +kernel
theorem dX12_splits_72 : decode cX12_splits 72 = .ok (.ifCond .eq 28, 3) := by decide +kernel
theorem dX12_splits_75 : decode cX12_splits 75 = .ok (.iload 4, 2) := by decide +kernel
theorem dX12_splits_77 : decode cX12_splits 77 = .ok (.iload_n 1, 1) := by decide +kernel
theorem dX12_splits_78 : decode cX12_splits 78 = .ok (.if_icmp .ge 22, 3) := by decide +kernel
theorem dX12_splits_81 : decode cX12_splits 81 = .ok (.aload_n 0, 1) := by decide +kernel
theorem dX12_splits_82 : decode cX12_splits 82 = .ok (.getfield 62, 3) := by decide +kernel
theorem dX12_splits_85 : decode cX12_splits 85 = .ok (.iload 4, 2) := by decide +kernel
theorem dX12_splits_87 : decode cX12_splits 87 = .ok (.baload, 1) := by decide +kernel
theorem dX12_splits_88 : decode cX12_splits 88 = .ok (.invokestatic 190, 3) := by decide +kernel
theorem dX12_splits_91 : decode cX12_splits 91 = .ok (.ifCond .eq 9, 3) := by decide +kernel
theorem dX12_splits_94 : decode cX12_splits 94 = .ok (.iinc 4 1, 3) := by decide +kernel
theorem dX12_splits_97 : decode cX12_splits 97 = .ok (.goto (-22), 3) := by decide +kernel
theorem dX12_splits_100 : decode cX12_splits 100 = .ok (.aload_n 0, 1) := by decide +kernel
theorem dX12_splits_101 : decode cX12_splits 101 = .ok (.getfield 77, 3) := by decide +kernel
theorem dX12_splits_104 : decode cX12_splits 104 = .ok (.aload_n 0, 1) := by decide +kernel
theorem dX12_splits_105 : decode cX12_splits 105 = .ok (.getfield 184, 3) := by decide +kernel
theorem dX12_splits_108 : decode cX12_splits 108 = .ok (.iload_n 2, 1) := by decide +kernel
theorem dX12_splits_109 : decode cX12_splits 109 = .ok (.iastore, 1) := by decide +kernel
theorem dX12_splits_110 : decode cX12_splits 110 = .ok (.aload_n 0, 1) := by decide +kernel
theorem dX12_splits_111 : decode cX12_splits 111 = .ok (.getfield 74, 3) := by decide +kernel
theorem dX12_splits_114 : decode cX12_splits 114 = .ok (.aload_n 0, 1) := by decide +kernel
theorem dX12_splits_115 : decode cX12_splits 115 = .ok (.getfield 184, 3) := by decide +kernel
theorem dX12_splits_118 : decode cX12_splits 118 = .ok (.iconst 0, 1) := by decide +kernel
theorem dX12_splits_119 : decode cX12_splits 119 = .ok (.iastore, 1) := by decide +kernel
theorem dX12_splits_120 : decode cX12_splits 120 = .ok (.aload_n 0, 1) := by decide +kernel
theorem dX12_splits_121 : decode cX12_splits 121 = .ok (.getfield 71, 3) := by decide +kernel
theorem dX12_splits_124 : decode cX12_splits 124 = .ok (.aload_n 0, 1) := by decide +kernel
theorem dX12_splits_125 : decode cX12_splits 125 = .ok (.getfield 184, 3) := by decide +kernel
theorem dX12_splits_128 : decode cX12_splits 128 = .ok (.iload_n 3, 1) := by decide +kernel
theorem dX12_splits_129 : decode cX12_splits 129 = .ok (.invokestatic 187, 3) := by decide +kernel
theorem dX12_splits_132 : decode cX12_splits 132 = .ok (.ifCond .eq 13, 3) := by decide +kernel
theorem dX12_splits_135 : decode cX12_splits 135 = .ok (.aload_n 0, 1) := by decide +kernel
theorem dX12_splits_136 : decode cX12_splits 136 = .ok (.iload_n 2, 1) := by decide +kernel
theorem dX12_splits_137 : decode cX12_splits 137 = .ok (.iload 4, 2) := by decide +kernel
theorem dX12_splits_139 : decode cX12_splits 139 = .ok (.invokevirtual 193, 3) := by decide +kernel
theorem dX12_splits_142 : decode cX12_splits 142 = .ok (.goto 23, 3) := by decide +kernel
theorem dX12_splits_145 : decode cX12_splits 145 = .ok (.iload_n 3, 1) := by decide +kernel
theorem dX12_splits_146 : decode cX12_splits 146 = .ok (.invokestatic 190, 3) := by decide +kernel
theorem dX12_splits_149 : decode cX12_splits 149 = .ok (.ifCond .eq 8, 3) := by decide +kernel
theorem dX12_splits_152 : decode cX12_splits 152 = .ok (.bipush 50, 2) := by decide +kernel
theorem dX12_splits_154 : decode cX12_splits 154 = .ok (.goto 11, 3) := by decide +kernel
theorem dX12_splits_157 : decode cX12_splits 157 = .ok (.bipush 100, 2) := by decide +kernel
theorem dX12_splits_159 : decode cX12_splits 159 = .ok (.iload_n 3, 1) := by decide +kernel
theorem dX12_splits_160 : decode cX12_splits 160 = .ok (.sipush 255, 3) := by decide +kernel
theorem dX12_splits_163 : decode cX12_splits 163 = .ok (.iand, 1) := by decide +kernel
theorem dX12_splits_164 : decode cX12_splits 164 = .ok (.iadd, 1) := by decide +kernel
theorem dX12_splits_165 : decode cX12_splits 165 = .ok (.iastore, 1) := by decide +kernel
theorem dX12_splits_166 : decode cX12_splits 166 = .ok (.iload_n 2, 1) := by decide +kernel
theorem dX12_splits_167 : decode cX12_splits 167 = .ok (.istore 5, 2) := by decide +kernel
theorem dX12_splits_169 : decode cX12_splits 169 = .ok (.iload 5, 2) := by decide +kernel
theorem dX12_splits_171 : decode cX12_splits 171 = .ok (.iload 4, 2) := by decide +kernel
theorem dX12_splits_173 : decode cX12_splits 173 = .ok (.if_icmp .ge 74, 3) := by decide +kernel
theorem dX12_splits_176 : decode cX12_splits 176 = .ok (.iload_n 3, 1) := by decide +kernel
theorem dX12_splits_177 : decode cX12_splits 177 = .ok (.invokestatic 190, 3) := by decide +kernel
theorem dX12_splits_180 : decode cX12_splits 180 = .ok (.ifCond .eq 67, 3) := by decide +kernel
theorem dX12_splits_183 : decode cX12_splits 183 = .ok (.aload_n 0, 1) := by decide +kernel
theorem dX12_splits_184 : decode cX12_splits 184 = .ok (.getfield 74, 3) := by decide +kernel
theorem dX12_splits_187 : decode cX12_splits 187 = .ok (.aload_n 0, 1) := by decide +kernel
theorem dX12_splits_188 : decode cX12_splits 188 = .ok (.getfield 184, 3) := by decide +kernel
theorem dX12_splits_191 : decode cX12_splits 191 = .ok (.aload_n 0, 1) := by decide +kernel
theorem dX12_splits_192 : decode cX12_splits 192 = .ok (.getfield 74, 3) := by decide +kernel
theorem dX12_splits_195 : decode cX12_splits 195 = .ok (.aload_n 0, 1) := by decide +kernel
theorem dX12_splits_196 : decode cX12_splits 196 = .ok (.getfield 184, 3) := by decide +kernel
theorem dX12_splits_199 : decode cX12_splits 199 = .ok (.iaload, 1) := by decide +kernel
theorem dX12_splits_200 : decode cX12_splits 200 = .ok (.ldc 196, 2) := by decide +kernel
theorem dX12_splits_202 : decode cX12_splits 202 = .ok (.if_icmp .le 15, 3) := by decide +kernel
theorem dX12_splits_205 : decode cX12_splits 205 = .ok (.aload_n 0, 1) := by decide +kernel
theorem dX12_splits_206 : decode cX12_splits 206 = .ok (.getfield 74, 3) := by decide +kernel
theorem dX12_splits_209 : decode cX12_splits 209 = .ok (.aload_n 0, 1) := by decide +kernel
theorem dX12_splits_210 : decode cX12_splits 210 = .ok (.getfield 184, 3) := by decide +kernel
theorem dX12_splits_213 : decode cX12_splits 213 = .ok (.iaload, 1) := by decide +kernel
theorem dX12_splits_214 : decode cX12_splits 214 = .ok (.goto 26, 3) := by decide +kernel
theorem dX12_splits_217 : decode cX12_splits 217 = .ok (.bipush 10, 2) := by decide +kernel
theorem dX12_splits_219 : decode cX12_splits 219 = .ok (.aload_n 0, 1) := by decide +kernel
theorem dX12_splits_220 : decode cX12_splits 220 = .ok (.getfield 74, 3) := by decide +kernel
theorem dX12_splits_223 : decode cX12_splits 223 = .ok (.aload_n 0, 1) := by decide +kernel
theorem dX12_splits_224 : decode cX12_splits 224 = .ok (.getfield 184, 3) := by decide +kernel
theorem dX12_splits_227 : decode cX12_splits 227 = .ok (.iaload, 1) := by decide +kernel
theorem dX12_splits_228 : decode cX12_splits 228 = .ok (.imul, 1) := by decide +kernel
theorem dX12_splits_229 : decode cX12_splits 229 = .ok (.aload_n 0, 1) := by decide +kernel
theorem dX12_splits_230 : decode cX12_splits 230 = .ok (.getfield 62, 3) := by decide +kernel
theorem dX12_splits_233 : decode cX12_splits 233 = .ok (.iload 5, 2) := by decide +kernel
theorem dX12_splits_235 : decode cX12_splits 235 = .ok (.baload, 1) := by decide +kernel
theorem dX12_splits_236 : decode cX12_splits 236 = .ok (.iadd, 1) := by decide +kernel
theorem dX12_splits_237 : decode cX12_splits 237 = .ok (.bipush 48, 2) := by decide +kernel
theorem dX12_splits_239 : decode cX12_splits 239 = .ok (.isub, 1) := by decide +kernel
theorem dX12_splits_240 : decode cX12_splits 240 = .ok (.iastore, 1) := by decide +kernel
theorem dX12_splits_241 : decode cX12_splits 241 = .ok (.iinc 5 1, 3) := by decide +kernel
theorem dX12_splits_244 : decode cX12_splits 244 = .ok (.goto (-75), 3) := by decide +kernel
theorem dX12_splits_247 : decode cX12_splits 247 = .ok (.aload_n 0, 1) := by decide +kernel
theorem dX12_splits_248 : decode cX12_splits 248 = .ok (.dup, 1) := by decide +kernel
theorem dX12_splits_249 : decode cX12_splits 249 = .ok (.getfield 184, 3) := by decide +kernel
theorem dX12_splits_252 : decode cX12_splits 252 = .ok (.iconst 1, 1) := by decide +kernel
theorem dX12_splits_253 : decode cX12_splits 253 = .ok (.iadd, 1) := by decide +kernel
theorem dX12_splits_254 : decode cX12_splits 254 = .ok (.putfield 184, 3) := by decide +kernel
theorem dX12_splits_257 : decode cX12_splits 257 = .ok (.iload 4, 2) := by decide +kernel
theorem dX12_splits_259 : decode cX12_splits 259 = .ok (.istore_n 2, 1) := by decide +kernel
theorem dX12_splits_260 : decode cX12_splits 260 = .ok (.goto (-253), 3) := by decide +kernel
theorem dX12_splits_263 : decode cX12_splits 263 = .ok (.aload_n 0, 1) := by decide +kernel
theorem dX12_splits_264 : decode cX12_splits 264 = .ok (.getfield 77, 3) := by decide +kernel
theorem dX12_splits_267 : decode cX12_splits 267 = .ok (.aload_n 0, 1) := by decide +kernel
theorem dX12_splits_268 : decode cX12_splits 268 = .ok (.getfield 184, 3) := by decide +kernel
theorem dX12_splits_271 : decode cX12_splits 271 = .ok (.iload_n 1, 1) := by decide +kernel
theorem dX12_splits_272 : decode cX12_splits 272 = .ok (.iastore, 1) := by decide +kernel
theorem dX12_splits_273 : decode cX12_splits 273 = .ok (.aload_n 0, 1) := by decide +kernel
theorem dX12_splits_274 : decode cX12_splits 274 = .ok (.getfield 71, 3) := by decide +kernel
theorem dX12_splits_277 : decode cX12_splits 277 = .ok (.aload_n 0, 1) := by decide +kernel
theorem dX12_splits_278 : decode cX12_splits 278 = .ok (.getfield 184, 3) := by decide +kernel
theorem dX12_splits_281 : decode cX12_splits 281 = .ok (.iconst 0, 1) := by decide +kernel
theorem dX12_splits_282 : decode cX12_splits 282 = .ok (.iastore, 1) := by decide +kernel
theorem dX12_splits_283 : decode cX12_splits 283 = .ok (.aload_n 0, 1) := by decide +kernel
theorem dX12_splits_284 : decode cX12_splits 284 = .ok (.getfield 74, 3) := by decide +kernel
theorem dX12_splits_287 : decode cX12_splits 287 = .ok (.aload_n 0, 1) := by decide +kernel
theorem dX12_splits_288 : decode cX12_splits 288 = .ok (.getfield 184, 3) := by decide +kernel
theorem dX12_splits_291 : decode cX12_splits 291 = .ok (.iconst 0, 1) := by decide +kernel
theorem dX12_splits_292 : decode cX12_splits 292 = .ok (.iastore, 1) := by decide +kernel
theorem dX12_splits_293 : decode cX12_splits 293 = .ok (.return_, 1) := by decide +kernel
abbrev mX12_splits : zq_M := (cX12_splits, RX12, "splits", none, 6)
section ZL16
variable {l : Launch} {G : zq_G} {D n : Nat} {σ : zm_S} {ρ : Nat → zq_E} {post : Option Value → Nat → (Nat → zq_E) → Prop} {f : Nat → zq_E}
theorem zm_isSmall {b : Int32} (hp : post (some (.int (zb (zsm b)))) n f) : zq_Runs l G D 0 0 yX12_isSmall [.int b] n f post := by
  unfold zsm at hp
  refine zq_enter (cc := cX12_isSmall) (nL := 1) (ret := (some .boolean)) cw_X12_isSmall (by decide) rfl (Nat.le_of_ble_eq_true rfl) ?_
  refine at_iload_n dX12_isSmall_0 rfl ?_
  refine at_bipush dX12_isSmall_1 (v := nI 97) (by decide) ?_
  refine at_icmp_lt (tgt := 16) dX12_isSmall_3 (by decide) (fun c3 => ?_) (fun c3 => ?_)
  · rw [decide_eq_false (fun h => absurd c3 (Int32.not_lt.mpr h)), Bool.false_and] at hp
    refine at_iconst dX12_isSmall_16 (v := nI 0) (by decide) ?_
    refine at_zret dX12_isSmall_17 rfl (by omega) (by omega) (by first | exact Or.inl rfl | exact Or.inr rfl | assumption) ?_
    exact hp
  · refine at_iload_n dX12_isSmall_6 rfl ?_
    refine at_bipush dX12_isSmall_7 (v := nI 122) (by decide) ?_
    refine at_icmp_gt (tgt := 16) dX12_isSmall_9 (by decide) (fun c9 => ?_) (fun c9 => ?_)
    · rw [decide_eq_false (fun h => absurd c9 (Int32.not_lt.mpr h)), Bool.and_false] at hp
      refine at_iconst dX12_isSmall_16 (v := nI 0) (by decide) ?_
      refine at_zret dX12_isSmall_17 rfl (by omega) (by omega) (by first | exact Or.inl rfl | exact Or.inr rfl | assumption) ?_
      exact hp
    · rw [decide_eq_true (Int32.not_lt.mp c3), decide_eq_true (Int32.not_lt.mp c9)] at hp
      refine at_iconst dX12_isSmall_12 (v := nI 1) (by decide) ?_
      refine at_goto (tgt := 17) dX12_isSmall_13 (by decide) ?_
      refine at_zret dX12_isSmall_17 rfl (by omega) (by omega) (by first | exact Or.inl rfl | exact Or.inr rfl | assumption) ?_
      exact hp
theorem zm_isDigit {b : Int32} (hp : post (some (.int (zb (zdg b)))) n f) : zq_Runs l G D 0 0 yX12_isDigit [.int b] n f post := by
  unfold zdg at hp
  refine zq_enter (cc := cX12_isDigit) (nL := 1) (ret := (some .boolean)) cw_X12_isDigit (by decide) rfl (Nat.le_of_ble_eq_true rfl) ?_
  refine at_iload_n dX12_isDigit_0 rfl ?_
  refine at_bipush dX12_isDigit_1 (v := nI 48) (by decide) ?_
  refine at_icmp_lt (tgt := 16) dX12_isDigit_3 (by decide) (fun c3 => ?_) (fun c3 => ?_)
  · rw [decide_eq_false (fun h => absurd c3 (Int32.not_lt.mpr h)), Bool.false_and] at hp
    refine at_iconst dX12_isDigit_16 (v := nI 0) (by decide) ?_
    refine at_zret dX12_isDigit_17 rfl (by omega) (by omega) (by first | exact Or.inl rfl | exact Or.inr rfl | assumption) ?_
    exact hp
  · refine at_iload_n dX12_isDigit_6 rfl ?_
    refine at_bipush dX12_isDigit_7 (v := nI 57) (by decide) ?_
    refine at_icmp_gt (tgt := 16) dX12_isDigit_9 (by decide) (fun c9 => ?_) (fun c9 => ?_)
    · rw [decide_eq_false (fun h => absurd c9 (Int32.not_lt.mpr h)), Bool.and_false] at hp
      refine at_iconst dX12_isDigit_16 (v := nI 0) (by decide) ?_
      refine at_zret dX12_isDigit_17 rfl (by omega) (by omega) (by first | exact Or.inl rfl | exact Or.inr rfl | assumption) ?_
      exact hp
    · rw [decide_eq_true (Int32.not_lt.mp c3), decide_eq_true (Int32.not_lt.mp c9)] at hp
      refine at_iconst dX12_isDigit_12 (v := nI 1) (by decide) ?_
      refine at_goto (tgt := 17) dX12_isDigit_13 (by decide) ?_
      refine at_zret dX12_isDigit_17 rfl (by omega) (by omega) (by first | exact Or.inl rfl | exact Or.inr rfl | assumption) ?_
      exact hp
theorem zm_word_n {a b w k L : Nat} (hl : k + L < 143) (h1 : ∀ i, i < L → ¬ σ.2.1 77 (k + i) = nI 32) (h2 : σ.2.1 77 (k + L) = nI 32) (hk : zq_At l G (zq_rm D 0 0) mX12_wordOf (zq_QF G post 0 0) 39 [(0, .ref 70), (1, .int (nI a)), (2, .int (nI b)), (3, .int (nI w)), (4, .int (nI k)), (5, .int (nI L))] [] n (zm_h σ ρ) 0 0) : ∀ r i : Nat, i + r = L → zq_At l G (zq_rm D 0 0) mX12_wordOf (zq_QF G post 0 0) 18 [(0, .ref 70), (1, .int (nI a)), (2, .int (nI b)), (3, .int (nI w)), (4, .int (nI k)), (5, .int (nI i))] [] n (zm_h σ ρ) 0 0 := by
  intro r
  induction r with
  | zero =>
    intro i hi
    obtain rfl : i = L := hi
    refine at_aload_n dX12_wordOf_18 rfl ?_
    refine at_get dX12_wordOf_19 fl_X12_58 rfl rfl ?_
    refine at_iload dX12_wordOf_22 rfl ?_
    refine at_iload dX12_wordOf_24 rfl ?_
    refine at_iaddN dX12_wordOf_26 ?_
    refine at_mbald (a := 77) dX12_wordOf_27 (by decide) (by decide) (by decide) (by decide) rfl rfl (by show _ < 143; omega) (by decide) ?_
    refine at_bipush dX12_wordOf_28 (v := nI 32) (by decide) ?_
    refine at_icmp_eq (tgt := 39) dX12_wordOf_30 (by decide) (fun c30 => ?_) (fun c30 => ?_)
    · exact hk
    · exact absurd h2 c30
  | succ r ih =>
    intro i hi
    refine at_aload_n dX12_wordOf_18 rfl ?_
    refine at_get dX12_wordOf_19 fl_X12_58 rfl rfl ?_
    refine at_iload dX12_wordOf_22 rfl ?_
    refine at_iload dX12_wordOf_24 rfl ?_
    refine at_iaddN dX12_wordOf_26 ?_
    refine at_mbald (a := 77) dX12_wordOf_27 (by decide) (by decide) (by decide) (by decide) rfl rfl (by show _ < 143; omega) (by decide) ?_
    refine at_bipush dX12_wordOf_28 (v := nI 32) (by decide) ?_
    refine at_icmp_eq (tgt := 39) dX12_wordOf_30 (by decide) (fun c30 => ?_) (fun c30 => ?_)
    · exact absurd c30 (h1 i (by omega))
    · refine at_iincN dX12_wordOf_33 rfl (by decide) ?_
      refine at_goto (tgt := 18) dX12_wordOf_36 (by decide) ?_
      exact ih (i + 1) (by omega)
theorem zm_word_c {a b w k : Nat} {u : List Nat} (ha : a + u.length ≤ 400 ∨ (∀ s : Bool, s = false → True)) (hl : k + u.length < 143) (hu : ∀ i, i < u.length → σ.2.1 77 (k + i) = nI (u.getD i 0)) (S : Bool) (hk : zq_At l G (zq_rm D 0 0) mX12_wordOf (zq_QF G post 0 0) 104 [(0, .ref 70), (1, .int (nI a)), (2, .int (nI b)), (3, .int (nI w)), (4, .int (nI k)), (5, .int (nI u.length)), (6, .int (zb S))] [] n (zm_h σ ρ) 0 0) : ∀ (r i : Nat) (s : Bool), i + r = u.length → (s = true → a + u.length ≤ 400) → (s && zeqF (σ.2.1 78) a u r i) = S → zq_At l G (zq_rm D 0 0) mX12_wordOf (zq_QF G post 0 0) 57 [(0, .ref 70), (1, .int (nI a)), (2, .int (nI b)), (3, .int (nI w)), (4, .int (nI k)), (5, .int (nI u.length)), (6, .int (zb s)), (7, .int (nI i))] [] n (zm_h σ ρ) 0 0 := by
  intro r
  induction r with
  | zero =>
    intro i s hi hs hS
    obtain rfl : i = u.length := hi
    unfold zeqF at hS
    rw [Bool.and_true] at hS
    subst hS
    refine at_iload dX12_wordOf_57 rfl ?_
    refine at_iload dX12_wordOf_59 rfl ?_
    refine at_geN (tgt := 104) dX12_wordOf_61 (by decide) (by omega) (by omega) (fun c61 => ?_) (fun c61 => ?_)
    · exact at_lv [0, 1, 2, 3, 4, 5, 6] hk
    · omega
  | succ r ih =>
    intro i s hi hs hS
    unfold zeqF at hS
    refine at_iload dX12_wordOf_57 rfl ?_
    refine at_iload dX12_wordOf_59 rfl ?_
    refine at_geN (tgt := 104) dX12_wordOf_61 (by decide) (by omega) (by omega) (fun c61 => ?_) (fun c61 => ?_)
    · omega
    · refine at_iload dX12_wordOf_64 rfl ?_
      refine at_if_eqB (tgt := 104) dX12_wordOf_66 (by decide) (fun c66 => ?_) (fun c66 => ?_)
      · rw [c66, Bool.false_and] at hS
        subst hS
        rw [c66]
        exact at_lv [0, 1, 2, 3, 4, 5, 6] hk
      · have ha4 := hs c66
        rw [c66, Bool.true_and] at hS
        refine at_aload_n dX12_wordOf_69 rfl ?_
        refine at_get dX12_wordOf_70 fl_X12_58 rfl rfl ?_
        refine at_iload dX12_wordOf_73 rfl ?_
        refine at_iload dX12_wordOf_75 rfl ?_
        refine at_iaddN dX12_wordOf_77 ?_
        refine at_mbald (a := 77) dX12_wordOf_78 (by decide) (by decide) (by decide) (by decide) rfl rfl (by show _ < 143; omega) (by decide) ?_
        rw [hu i (by omega)]
        refine at_aload_n dX12_wordOf_79 rfl ?_
        refine at_get dX12_wordOf_80 fl_X12_62 rfl rfl ?_
        refine at_iload_n dX12_wordOf_83 rfl ?_
        refine at_iload dX12_wordOf_84 rfl ?_
        refine at_iaddN dX12_wordOf_86 ?_
        refine at_mbald (a := 78) dX12_wordOf_87 (by decide) (by decide) (by decide) (by decide) rfl rfl (by show _ < 400; omega) (by decide) ?_
        refine at_icmp_ne (tgt := 95) dX12_wordOf_88 (by decide) (fun c88 => ?_) (fun c88 => ?_)
        · rw [decide_eq_false c88] at hS
          have hn := ih (i + 1) false (by omega) (fun h => by cases h) hS
          refine at_iconst dX12_wordOf_95 (v := nI 0) (by decide) ?_
          refine at_istore dX12_wordOf_96 (by decide) ?_
          refine at_iincN dX12_wordOf_98 rfl (by decide) ?_
          refine at_goto (tgt := 57) dX12_wordOf_101 (by decide) ?_
          exact hn
        · rw [decide_eq_true c88] at hS
          have hn := ih (i + 1) true (by omega) (fun _ => ha4) hS
          refine at_iconst dX12_wordOf_91 (v := nI 1) (by decide) ?_
          refine at_goto (tgt := 96) dX12_wordOf_92 (by decide) ?_
          refine at_istore dX12_wordOf_96 (by decide) ?_
          refine at_iincN dX12_wordOf_98 rfl (by decide) ?_
          refine at_goto (tgt := 57) dX12_wordOf_101 (by decide) ?_
          exact hn
theorem zm_wordOf_loop {a b : Nat} (hab : a ≤ b) (hb : b ≤ 400) : ∀ (us : List (List Nat)) (w k : Nat), zspell (σ.2.1 77) k us → k ≤ 143 → post (some (.int (nI (zword (σ.2.1 78) a b us w)))) n (zm_h σ ρ) → zq_At l G (zq_rm D 0 0) mX12_wordOf (zq_QF G post 0 0) 5 [(0, .ref 70), (1, .int (nI a)), (2, .int (nI b)), (3, .int (nI w)), (4, .int (nI k))] [] n (zm_h σ ρ) 0 0 := by
  intro us
  induction us with
  | nil =>
    intro w k hs hk hp
    obtain rfl : k = 143 := hs
    refine at_iload dX12_wordOf_5 rfl ?_
    refine at_aload_n dX12_wordOf_7 rfl ?_
    refine at_get dX12_wordOf_8 fl_X12_58 rfl rfl ?_
    refine at_alen dX12_wordOf_11 rfl (by decide) (v := nI 143) rfl ?_
    refine at_geN (tgt := 126) dX12_wordOf_12 (by decide) (by omega) (by omega) (fun c12 => ?_) (fun c12 => ?_)
    · refine at_iconst dX12_wordOf_126 (v := nI 0) (by decide) ?_
      refine at_iret dX12_wordOf_127 rfl (by omega) (by omega) ?_
      exact hp
    · omega
  | cons u us ih =>
    intro w k hs hk hp
    obtain ⟨s1, s2, s3, s4⟩ := hs
    unfold zword at hp
    have tail : ∀ S : Bool, zisw (σ.2.1 78) a b u = S → zq_At l G (zq_rm D 0 0) mX12_wordOf (zq_QF G post 0 0) 104 [(0, .ref 70), (1, .int (nI a)), (2, .int (nI b)), (3, .int (nI w)), (4, .int (nI k)), (5, .int (nI u.length)), (6, .int (zb S))] [] n (zm_h σ ρ) 0 0 := by
      intro S hS
      rw [hS] at hp
      refine at_iload dX12_wordOf_104 rfl ?_
      refine at_if_eqB (tgt := 111) dX12_wordOf_106 (by decide) (fun c106 => ?_) (fun c106 => ?_)
      · rw [if_neg (by rw [c106]; decide)] at hp
        refine at_iload dX12_wordOf_111 rfl ?_
        refine at_iload dX12_wordOf_113 rfl ?_
        refine at_iconst dX12_wordOf_115 (v := nI 1) (by decide) ?_
        refine at_iaddN dX12_wordOf_116 ?_
        refine at_iaddN dX12_wordOf_117 ?_
        refine at_istore dX12_wordOf_118 (by decide) ?_
        refine at_iincN dX12_wordOf_120 rfl (by decide) ?_
        refine at_goto (tgt := 5) dX12_wordOf_123 (by decide) ?_
        exact at_lv [0, 1, 2, 3, 4] (ih (w + 1) (k + u.length + 1) s4 (by omega) hp)
      · rw [if_pos c106] at hp
        refine at_iload_n dX12_wordOf_109 rfl ?_
        refine at_iret dX12_wordOf_110 rfl (by omega) (by omega) ?_
        exact hp
    refine at_iload dX12_wordOf_5 rfl ?_
    refine at_aload_n dX12_wordOf_7 rfl ?_
    refine at_get dX12_wordOf_8 fl_X12_58 rfl rfl ?_
    refine at_alen dX12_wordOf_11 rfl (by decide) (v := nI 143) rfl ?_
    refine at_geN (tgt := 126) dX12_wordOf_12 (by decide) (by omega) (by omega) (fun c12 => ?_) (fun c12 => ?_)
    · omega
    · refine at_iconst dX12_wordOf_15 (v := nI 0) (by decide) ?_
      refine at_istore dX12_wordOf_16 (by decide) ?_
      refine at_lv [0, 1, 2, 3, 4, 5] (zm_word_n s3 (fun i hi h => ?_) s2 ?_ u.length 0 (Nat.zero_add _))
      · rw [(s1 i hi).1] at h
        exact (s1 i hi).2.2 ((nI_eq (by have := (s1 i hi).2.1; omega) (by decide)).mp h)
      · refine at_iload dX12_wordOf_39 rfl ?_
        refine at_iload_n dX12_wordOf_41 rfl ?_
        refine at_iload_n dX12_wordOf_42 rfl ?_
        refine at_isubN dX12_wordOf_43 (by omega) ?_
        refine at_neN (tgt := 51) dX12_wordOf_44 (by decide) (by omega) (by omega) (fun c44 => ?_) (fun c44 => ?_)
        · have hc := zm_word_c (l := l) (G := G) (D := D) (n := n) (σ := σ) (ρ := ρ) (post := post) (a := a) (b := b) (w := w) (k := k) (u := u) (Or.inr (fun _ _ => trivial)) s3 (fun i hi => (s1 i hi).1) false (tail false (by unfold zisw; rw [decide_eq_false c44]; rfl)) u.length 0 false (Nat.zero_add _) (fun h => by cases h) rfl
          refine at_iconst dX12_wordOf_51 (v := nI 0) (by decide) ?_
          refine at_istore dX12_wordOf_52 (by decide) ?_
          refine at_iconst dX12_wordOf_54 (v := nI 0) (by decide) ?_
          refine at_istore dX12_wordOf_55 (by decide) ?_
          exact hc
        · have hc := zm_word_c (l := l) (G := G) (D := D) (n := n) (σ := σ) (ρ := ρ) (post := post) (a := a) (b := b) (w := w) (k := k) (u := u) (Or.inr (fun _ _ => trivial)) s3 (fun i hi => (s1 i hi).1) (zeqF (σ.2.1 78) a u u.length 0) (tail _ (by unfold zisw; rw [decide_eq_true c44]; rfl)) u.length 0 true (Nat.zero_add _) (fun _ => by omega) rfl
          refine at_iconst dX12_wordOf_47 (v := nI 1) (by decide) ?_
          refine at_goto (tgt := 52) dX12_wordOf_48 (by decide) ?_
          refine at_istore dX12_wordOf_52 (by decide) ?_
          refine at_iconst dX12_wordOf_54 (v := nI 0) (by decide) ?_
          refine at_istore dX12_wordOf_55 (by decide) ?_
          exact hc
def zMw : List (List Nat) := [[115, 116, 114, 111, 107, 101, 115], [115, 116, 101, 112, 115], [98, 97, 114, 115], [105, 102], [111, 114], [97, 110, 100], [110, 111, 116], [112, 101, 114, 115, 111, 110], [112, 108, 97, 99, 101], [108, 101, 110, 103, 116, 104], [97, 116], [108, 101, 116, 116, 101, 114], [110, 101, 119], [109, 111, 111, 100], [100, 97, 121], [100, 111, 110, 101], [108, 97, 116, 101, 115, 116], [98, 114, 101, 97, 107, 115], [115, 119, 97, 112, 115], [119, 104, 111], [110, 97, 109, 101], [115, 116, 114, 111, 107, 101], [116, 111], [115, 119, 97, 112], [100, 101, 99, 114, 101, 101], [112, 97, 115, 115], [116, 105, 109, 101, 115]]
/-- the row of all words -/
def zWr (σ : zm_S) : Prop := zspell (σ.2.1 77) 0 zMw
theorem zm_wordOf {a b : Nat} (hw : zWr σ) (hab : a ≤ b) (hb : b ≤ 400) (hp : post (some (.int (nI (zword (σ.2.1 78) a b zMw 1)))) n (zm_h σ ρ)) : zq_Runs l G D 0 0 yX12_wordOf [.ref 70, .int (nI a), .int (nI b)] n (zm_h σ ρ) post := by
  refine zq_enter (cc := cX12_wordOf) (nL := 8) (ret := (some .int)) cw_X12_wordOf (by decide) rfl (Nat.le_of_ble_eq_true rfl) ?_
  refine at_iconst dX12_wordOf_0 (v := nI 1) (by decide) ?_
  refine at_istore_n dX12_wordOf_1 rfl (by decide) ?_
  refine at_iconst dX12_wordOf_2 (v := nI 0) (by decide) ?_
  refine at_istore dX12_wordOf_3 (by decide) ?_
  exact zm_wordOf_loop hab hb zMw 1 0 hw (by decide) hp
/-- where a run of bytes of a kind ends -/
def zrunF (P : Int32 → Bool) (T : Nat → Int32) : Nat → Nat → Nat
  | 0, i => i
  | k + 1, i => if P (T i) = true then zrunF P T k (i + 1) else i
def zrun (T : Nat → Int32) (z k : Nat) : Nat := if zsm (T k) = true then zrunF zsm T (z - (k + 1)) (k + 1) else if zdg (T k) = true then zrunF zdg T (z - (k + 1)) (k + 1) else k + 1
theorem zrunF_le (P : Int32 → Bool) (T : Nat → Int32) : ∀ k i, i ≤ zrunF P T k i ∧ zrunF P T k i ≤ i + k
  | 0, i => ⟨Nat.le_refl _, Nat.le_refl _⟩
  | k + 1, i => by
    unfold zrunF
    split
    · have := zrunF_le P T k (i + 1)
      omega
    · omega
theorem zrun_le (T : Nat → Int32) {z k : Nat} (h : k < z) : k + 1 ≤ zrun T z k ∧ zrun T z k ≤ z := by
  unfold zrun
  split
  · have := zrunF_le zsm T (z - (k + 1)) (k + 1); omega
  · split
    · have := zrunF_le zdg T (z - (k + 1)) (k + 1); omega
    · omega
/-- the number that digits are, held at some ten million -/
def znumF (T : Nat → Int32) : Nat → Nat → Nat → Nat
  | 0, _, x => x
  | k + 1, i, x => znumF T k (i + 1) (if 1000000 < x then x else 10 * x + ((T i).toNatClampNeg - 48))
/-- a token's code and value -/
def zcode (T : Nat → Int32) (a b : Nat) : Nat := if zsm (T a) = true then zword T a b zMw 1 else if zdg (T a) = true then 50 else 100 + (T a).toBitVec.toNat % 256
def zval (T : Nat → Int32) (a b : Nat) : Nat := if zdg (T a) = true then znumF T (b - a) a 0 else 0
/-- all tokens from k on: where each begins and ends -/
def ztok (T : Nat → Int32) (z : Nat) : Nat → Nat → List (Nat × Nat)
  | 0, _ => []
  | f + 1, k => if z ≤ k then [] else if T k = nI 32 then ztok T z f (k + 1) else (k, zrun T z k) :: ztok T z f (zrun T z k)
end ZL16

