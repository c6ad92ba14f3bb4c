/-! ===== the class: the cheapest names, by rank ===== -/
theorem zq_spans_n {k : Nat} (h : k < 4) : zq_span k = nI (zbz (3 - k)) := by
  rcases (show k = 0 ∨ k = 1 ∨ k = 2 ∨ k = 3 by omega) with rfl | rfl | rfl | rfl <;> rfl
theorem zbz_le {h : Nat} (hh : h ≤ 3) : zbz h ≤ 156 := by
  rcases (show h = 0 ∨ h = 1 ∨ h = 2 ∨ h = 3 by omega) with rfl | rfl | rfl | rfl <;> decide
theorem zpad_vn {x k : Nat} (hl : zlen x = k + 1) (hk : k ≤ 3) : zpad x = x * 10 ^ (3 - k) := by
  unfold zpad
  rw [hl, show 4 - (k + 1) = 3 - k by omega]
theorem zpad_lt' {x : Nat} (h : zvn x) : zpad x < 10000 := zpad_lt (by have := h.2.1; omega)
theorem dX5_nameOfRank_0 : decode cX5_nameOfRank 0 = .ok (.iconst 0, 1) := by decide +kernel
theorem dX5_nameOfRank_1 : decode cX5_nameOfRank 1 = .ok (.istore_n 2, 1) := by decide +kernel
theorem dX5_nameOfRank_2 : decode cX5_nameOfRank 2 = .ok (.iload_n 0, 1) := by decide +kernel
theorem dX5_nameOfRank_3 : decode cX5_nameOfRank 3 = .ok (.istore_n 3, 1) := by decide +kernel
theorem dX5_nameOfRank_4 : decode cX5_nameOfRank 4 = .ok (.iconst 0, 1) := by decide +kernel
theorem dX5_nameOfRank_5 : decode cX5_nameOfRank 5 = .ok (.istore 4, 2) := by decide +kernel
theorem dX5_nameOfRank_7 : decode cX5_nameOfRank 7 = .ok (.iload 4, 2) := by decide +kernel
theorem dX5_nameOfRank_9 : decode cX5_nameOfRank 9 = .ok (.iconst 4, 1) := by decide +kernel
theorem dX5_nameOfRank_10 : decode cX5_nameOfRank 10 = .ok (.if_icmp .ge 65, 3) := by decide +kernel
theorem dX5_nameOfRank_13 : decode cX5_nameOfRank 13 = .ok (.iload_n 3, 1) := by decide +kernel
theorem dX5_nameOfRank_14 : decode cX5_nameOfRank 14 = .ok (.getstatic 75, 3) := by decide +kernel
theorem dX5_nameOfRank_17 : decode cX5_nameOfRank 17 = .ok (.iload 4, 2) := by decide +kernel
theorem dX5_nameOfRank_19 : decode cX5_nameOfRank 19 = .ok (.iaload, 1) := by decide +kernel
theorem dX5_nameOfRank_20 : decode cX5_nameOfRank 20 = .ok (.idiv, 1) := by decide +kernel
theorem dX5_nameOfRank_21 : decode cX5_nameOfRank 21 = .ok (.istore 5, 2) := by decide +kernel
theorem dX5_nameOfRank_23 : decode cX5_nameOfRank 23 = .ok (.iload 5, 2) := by decide +kernel
theorem dX5_nameOfRank_25 : decode cX5_nameOfRank 25 = .ok (.ifCond .lt 10, 3) := by decide +kernel
theorem dX5_nameOfRank_28 : decode cX5_nameOfRank 28 = .ok (.iload 5, 2) := by decide +kernel
theorem dX5_nameOfRank_30 : decode cX5_nameOfRank 30 = .ok (.aload_n 1, 1) := by decide +kernel
theorem dX5_nameOfRank_31 : decode cX5_nameOfRank 31 = .ok (.arraylength, 1) := by decide +kernel
theorem dX5_nameOfRank_32 : decode cX5_nameOfRank 32 = .ok (.if_icmp .lt 5, 3) := by decide +kernel
theorem dX5_nameOfRank_35 : decode cX5_nameOfRank 35 = .ok (.iload_n 2, 1) := by decide +kernel
theorem dX5_nameOfRank_36 : decode cX5_nameOfRank 36 = .ok (.ireturn, 1) := by decide +kernel
theorem dX5_nameOfRank_37 : decode cX5_nameOfRank 37 = .ok (.iload_n 2, 1) := by decide +kernel
theorem dX5_nameOfRank_38 : decode cX5_nameOfRank 38 = .ok (.aload_n 1, 1) := by decide +kernel
theorem dX5_nameOfRank_39 : decode cX5_nameOfRank 39 = .ok (.iload 5, 2) := by decide +kernel
theorem dX5_nameOfRank_41 : decode cX5_nameOfRank 41 = .ok (.iaload, 1) := by decide +kernel
theorem dX5_nameOfRank_42 : decode cX5_nameOfRank 42 = .ok (.getstatic 78, 3) := by decide +kernel
theorem dX5_nameOfRank_45 : decode cX5_nameOfRank 45 = .ok (.iload 4, 2) := by decide +kernel
theorem dX5_nameOfRank_47 : decode cX5_nameOfRank 47 = .ok (.iaload, 1) := by decide +kernel
theorem dX5_nameOfRank_48 : decode cX5_nameOfRank 48 = .ok (.imul, 1) := by decide +kernel
theorem dX5_nameOfRank_49 : decode cX5_nameOfRank 49 = .ok (.iadd, 1) := by decide +kernel
theorem dX5_nameOfRank_50 : decode cX5_nameOfRank 50 = .ok (.istore_n 2, 1) := by decide +kernel
theorem dX5_nameOfRank_51 : decode cX5_nameOfRank 51 = .ok (.iload_n 3, 1) := by decide +kernel
theorem dX5_nameOfRank_52 : decode cX5_nameOfRank 52 = .ok (.getstatic 75, 3) := by decide +kernel
theorem dX5_nameOfRank_55 : decode cX5_nameOfRank 55 = .ok (.iload 4, 2) := by decide +kernel
theorem dX5_nameOfRank_57 : decode cX5_nameOfRank 57 = .ok (.iaload, 1) := by decide +kernel
theorem dX5_nameOfRank_58 : decode cX5_nameOfRank 58 = .ok (.irem, 1) := by decide +kernel
theorem dX5_nameOfRank_59 : decode cX5_nameOfRank 59 = .ok (.istore_n 3, 1) := by decide +kernel
theorem dX5_nameOfRank_60 : decode cX5_nameOfRank 60 = .ok (.iload_n 3, 1) := by decide +kernel
theorem dX5_nameOfRank_61 : decode cX5_nameOfRank 61 = .ok (.ifCond .ne 5, 3) := by decide +kernel
theorem dX5_nameOfRank_64 : decode cX5_nameOfRank 64 = .ok (.iload_n 2, 1) := by decide +kernel
theorem dX5_nameOfRank_65 : decode cX5_nameOfRank 65 = .ok (.ireturn, 1) := by decide +kernel
theorem dX5_nameOfRank_66 : decode cX5_nameOfRank 66 = .ok (.iinc 3 (-1), 3) := by decide +kernel
theorem dX5_nameOfRank_69 : decode cX5_nameOfRank 69 = .ok (.iinc 4 1, 3) := by decide +kernel
theorem dX5_nameOfRank_72 : decode cX5_nameOfRank 72 = .ok (.goto (-65), 3) := by decide +kernel
theorem dX5_nameOfRank_75 : decode cX5_nameOfRank 75 = .ok (.iload_n 2, 1) := by decide +kernel
theorem dX5_nameOfRank_76 : decode cX5_nameOfRank 76 = .ok (.ireturn, 1) := by decide +kernel
abbrev mX5_nameOfRank : zq_M := (cX5_nameOfRank, RX5, "nameOfRank", (some .int), 6)
theorem dX5_withoutZeros_0 : decode cX5_withoutZeros 0 = .ok (.iload_n 0, 1) := by decide +kernel
theorem dX5_withoutZeros_1 : decode cX5_withoutZeros 1 = .ok (.istore_n 1, 1) := by decide +kernel
theorem dX5_withoutZeros_2 : decode cX5_withoutZeros 2 = .ok (.iconst 1, 1) := by decide +kernel
theorem dX5_withoutZeros_3 : decode cX5_withoutZeros 3 = .ok (.istore_n 2, 1) := by decide +kernel
theorem dX5_withoutZeros_4 : decode cX5_withoutZeros 4 = .ok (.iload_n 2, 1) := by decide +kernel
theorem dX5_withoutZeros_5 : decode cX5_withoutZeros 5 = .ok (.iconst 4, 1) := by decide +kernel
theorem dX5_withoutZeros_6 : decode cX5_withoutZeros 6 = .ok (.if_icmp .ge 21, 3) := by decide +kernel
theorem dX5_withoutZeros_9 : decode cX5_withoutZeros 9 = .ok (.iload_n 1, 1) := by decide +kernel
theorem dX5_withoutZeros_10 : decode cX5_withoutZeros 10 = .ok (.bipush 10, 2) := by decide +kernel
theorem dX5_withoutZeros_12 : decode cX5_withoutZeros 12 = .ok (.irem, 1) := by decide +kernel
theorem dX5_withoutZeros_13 : decode cX5_withoutZeros 13 = .ok (.ifCond .ne 14, 3) := by decide +kernel
theorem dX5_withoutZeros_16 : decode cX5_withoutZeros 16 = .ok (.iload_n 1, 1) := by decide +kernel
theorem dX5_withoutZeros_17 : decode cX5_withoutZeros 17 = .ok (.bipush 10, 2) := by decide +kernel
theorem dX5_withoutZeros_19 : decode cX5_withoutZeros 19 = .ok (.idiv, 1) := by decide +kernel
theorem dX5_withoutZeros_20 : decode cX5_withoutZeros 20 = .ok (.istore_n 1, 1) := by decide +kernel
theorem dX5_withoutZeros_21 : decode cX5_withoutZeros 21 = .ok (.iinc 2 1, 3) := by decide +kernel
theorem dX5_withoutZeros_24 : decode cX5_withoutZeros 24 = .ok (.goto (-20), 3) := by decide +kernel
theorem dX5_withoutZeros_27 : decode cX5_withoutZeros 27 = .ok (.iload_n 1, 1) := by decide +kernel
theorem dX5_withoutZeros_28 : decode cX5_withoutZeros 28 = .ok (.ireturn, 1) := by decide +kernel
abbrev mX5_withoutZeros : zq_M := (cX5_withoutZeros, RX5, "withoutZeros", (some .int), 3)
theorem dX5_price_0 : decode cX5_price 0 = .ok (.iload_n 1, 1) := by decide +kernel
theorem dX5_price_1 : decode cX5_price 1 = .ok (.bipush 24, 2) := by decide +kernel
theorem dX5_price_3 : decode cX5_price 3 = .ok (.imul, 1) := by decide +kernel
theorem dX5_price_4 : decode cX5_price 4 = .ok (.istore_n 3, 1) := by decide +kernel
theorem dX5_price_5 : decode cX5_price 5 = .ok (.aload_n 0, 1) := by decide +kernel
theorem dX5_price_6 : decode cX5_price 6 = .ok (.getfield 15, 3) := by decide +kernel
theorem dX5_price_9 : decode cX5_price 9 = .ok (.iload_n 3, 1) := by decide +kernel
theorem dX5_price_10 : decode cX5_price 10 = .ok (.iload_n 2, 1) := by decide +kernel
theorem dX5_price_11 : decode cX5_price 11 = .ok (.sipush 1000, 3) := by decide +kernel
theorem dX5_price_14 : decode cX5_price 14 = .ok (.idiv, 1) := by decide +kernel
theorem dX5_price_15 : decode cX5_price 15 = .ok (.iadd, 1) := by decide +kernel
theorem dX5_price_16 : decode cX5_price 16 = .ok (.iaload, 1) := by decide +kernel
theorem dX5_price_17 : decode cX5_price 17 = .ok (.aload_n 0, 1) := by decide +kernel
theorem dX5_price_18 : decode cX5_price 18 = .ok (.getfield 15, 3) := by decide +kernel
theorem dX5_price_21 : decode cX5_price 21 = .ok (.iload_n 3, 1) := by decide +kernel
theorem dX5_price_22 : decode cX5_price 22 = .ok (.iconst 5, 1) := by decide +kernel
theorem dX5_price_23 : decode cX5_price 23 = .ok (.iadd, 1) := by decide +kernel
theorem dX5_price_24 : decode cX5_price 24 = .ok (.iconst 1, 1) := by decide +kernel
theorem dX5_price_25 : decode cX5_price 25 = .ok (.iadd, 1) := by decide +kernel
theorem dX5_price_26 : decode cX5_price 26 = .ok (.iload_n 2, 1) := by decide +kernel
theorem dX5_price_27 : decode cX5_price 27 = .ok (.bipush 100, 2) := by decide +kernel
theorem dX5_price_29 : decode cX5_price 29 = .ok (.idiv, 1) := by decide +kernel
theorem dX5_price_30 : decode cX5_price 30 = .ok (.bipush 10, 2) := by decide +kernel
theorem dX5_price_32 : decode cX5_price 32 = .ok (.irem, 1) := by decide +kernel
theorem dX5_price_33 : decode cX5_price 33 = .ok (.iadd, 1) := by decide +kernel
theorem dX5_price_34 : decode cX5_price 34 = .ok (.iaload, 1) := by decide +kernel
theorem dX5_price_35 : decode cX5_price 35 = .ok (.iadd, 1) := by decide +kernel
theorem dX5_price_36 : decode cX5_price 36 = .ok (.aload_n 0, 1) := by decide +kernel
theorem dX5_price_37 : decode cX5_price 37 = .ok (.getfield 15, 3) := by decide +kernel
theorem dX5_price_40 : decode cX5_price 40 = .ok (.iload_n 3, 1) := by decide +kernel
theorem dX5_price_41 : decode cX5_price 41 = .ok (.bipush 12, 2) := by decide +kernel
theorem dX5_price_43 : decode cX5_price 43 = .ok (.iadd, 1) := by decide +kernel
theorem dX5_price_44 : decode cX5_price 44 = .ok (.iload_n 2, 1) := by decide +kernel
theorem dX5_price_45 : decode cX5_price 45 = .ok (.bipush 10, 2) := by decide +kernel
theorem dX5_price_47 : decode cX5_price 47 = .ok (.idiv, 1) := by decide +kernel
theorem dX5_price_48 : decode cX5_price 48 = .ok (.bipush 10, 2) := by decide +kernel
theorem dX5_price_50 : decode cX5_price 50 = .ok (.irem, 1) := by decide +kernel
theorem dX5_price_51 : decode cX5_price 51 = .ok (.iadd, 1) := by decide +kernel
theorem dX5_price_52 : decode cX5_price 52 = .ok (.iaload, 1) := by decide +kernel
theorem dX5_price_53 : decode cX5_price 53 = .ok (.iadd, 1) := by decide +kernel
theorem dX5_price_54 : decode cX5_price 54 = .ok (.aload_n 0, 1) := by decide +kernel
theorem dX5_price_55 : decode cX5_price 55 = .ok (.getfield 15, 3) := by decide +kernel
theorem dX5_price_58 : decode cX5_price 58 = .ok (.iload_n 3, 1) := by decide +kernel
theorem dX5_price_59 : decode cX5_price 59 = .ok (.bipush 18, 2) := by decide +kernel
theorem dX5_price_61 : decode cX5_price 61 = .ok (.iadd, 1) := by decide +kernel
theorem dX5_price_62 : decode cX5_price 62 = .ok (.iload_n 2, 1) := by decide +kernel
theorem dX5_price_63 : decode cX5_price 63 = .ok (.bipush 10, 2) := by decide +kernel
theorem dX5_price_65 : decode cX5_price 65 = .ok (.irem, 1) := by decide +kernel
theorem dX5_price_66 : decode cX5_price 66 = .ok (.iadd, 1) := by decide +kernel
theorem dX5_price_67 : decode cX5_price 67 = .ok (.iaload, 1) := by decide +kernel
theorem dX5_price_68 : decode cX5_price 68 = .ok (.iadd, 1) := by decide +kernel
theorem dX5_price_69 : decode cX5_price 69 = .ok (.ireturn, 1) := by decide +kernel
abbrev mX5_price : zq_M := (cX5_price, RX5, "price", (some .int), 4)
theorem dX5_setLeast_0 : decode cX5_setLeast 0 = .ok (.iload_n 2, 1) := by decide +kernel
theorem dX5_setLeast_1 : decode cX5_setLeast 1 = .ok (.aload_n 1, 1) := by decide +kernel
theorem dX5_setLeast_2 : decode cX5_setLeast 2 = .ok (.getfield 60, 3) := by decide +kernel
theorem dX5_setLeast_5 : decode cX5_setLeast 5 = .ok (.invokestatic 63, 3) := by decide +kernel
theorem dX5_setLeast_8 : decode cX5_setLeast 8 = .ok (.istore_n 3, 1) := by decide +kernel
theorem dX5_setLeast_9 : decode cX5_setLeast 9 = .ok (.aload_n 1, 1) := by decide +kernel
theorem dX5_setLeast_10 : decode cX5_setLeast 10 = .ok (.getfield 18, 3) := by decide +kernel
theorem dX5_setLeast_13 : decode cX5_setLeast 13 = .ok (.bipush 7, 2) := by decide +kernel
theorem dX5_setLeast_15 : decode cX5_setLeast 15 = .ok (.if_icmp .gt 19, 3) := by decide +kernel
theorem dX5_setLeast_18 : decode cX5_setLeast 18 = .ok (.aload_n 0, 1) := by decide +kernel
theorem dX5_setLeast_19 : decode cX5_setLeast 19 = .ok (.getfield 11, 3) := by decide +kernel
theorem dX5_setLeast_22 : decode cX5_setLeast 22 = .ok (.aload_n 1, 1) := by decide +kernel
theorem dX5_setLeast_23 : decode cX5_setLeast 23 = .ok (.getfield 18, 3) := by decide +kernel
theorem dX5_setLeast_26 : decode cX5_setLeast 26 = .ok (.sipush 781, 3) := by decide +kernel
theorem dX5_setLeast_29 : decode cX5_setLeast 29 = .ok (.imul, 1) := by decide +kernel
theorem dX5_setLeast_30 : decode cX5_setLeast 30 = .ok (.iload_n 2, 1) := by decide +kernel
theorem dX5_setLeast_31 : decode cX5_setLeast 31 = .ok (.iadd, 1) := by decide +kernel
theorem dX5_setLeast_32 : decode cX5_setLeast 32 = .ok (.iconst 0, 1) := by decide +kernel
theorem dX5_setLeast_33 : decode cX5_setLeast 33 = .ok (.iastore, 1) := by decide +kernel
theorem dX5_setLeast_34 : decode cX5_setLeast 34 = .ok (.aload_n 1, 1) := by decide +kernel
theorem dX5_setLeast_35 : decode cX5_setLeast 35 = .ok (.getfield 18, 3) := by decide +kernel
theorem dX5_setLeast_38 : decode cX5_setLeast 38 = .ok (.bipush 7, 2) := by decide +kernel
theorem dX5_setLeast_40 : decode cX5_setLeast 40 = .ok (.invokestatic 67, 3) := by decide +kernel
theorem dX5_setLeast_43 : decode cX5_setLeast 43 = .ok (.iconst 1, 1) := by decide +kernel
theorem dX5_setLeast_44 : decode cX5_setLeast 44 = .ok (.isub, 1) := by decide +kernel
theorem dX5_setLeast_45 : decode cX5_setLeast 45 = .ok (.istore 4, 2) := by decide +kernel
theorem dX5_setLeast_47 : decode cX5_setLeast 47 = .ok (.iload 4, 2) := by decide +kernel
theorem dX5_setLeast_49 : decode cX5_setLeast 49 = .ok (.ifCond .lt 61, 3) := by decide +kernel
theorem dX5_setLeast_52 : decode cX5_setLeast 52 = .ok (.iload 4, 2) := by decide +kernel
theorem dX5_setLeast_54 : decode cX5_setLeast 54 = .ok (.sipush 781, 3) := by decide +kernel
theorem dX5_setLeast_57 : decode cX5_setLeast 57 = .ok (.imul, 1) := by decide +kernel
theorem dX5_setLeast_58 : decode cX5_setLeast 58 = .ok (.iload_n 2, 1) := by decide +kernel
theorem dX5_setLeast_59 : decode cX5_setLeast 59 = .ok (.iadd, 1) := by decide +kernel
theorem dX5_setLeast_60 : decode cX5_setLeast 60 = .ok (.istore 5, 2) := by decide +kernel
theorem dX5_setLeast_62 : decode cX5_setLeast 62 = .ok (.aload_n 0, 1) := by decide +kernel
theorem dX5_setLeast_63 : decode cX5_setLeast 63 = .ok (.iload 4, 2) := by decide +kernel
theorem dX5_setLeast_65 : decode cX5_setLeast 65 = .ok (.iload_n 3, 1) := by decide +kernel
theorem dX5_setLeast_66 : decode cX5_setLeast 66 = .ok (.invokevirtual 72, 3) := by decide +kernel
theorem dX5_setLeast_69 : decode cX5_setLeast 69 = .ok (.aload_n 0, 1) := by decide +kernel
theorem dX5_setLeast_70 : decode cX5_setLeast 70 = .ok (.getfield 11, 3) := by decide +kernel
theorem dX5_setLeast_73 : decode cX5_setLeast 73 = .ok (.iload 5, 2) := by decide +kernel
theorem dX5_setLeast_75 : decode cX5_setLeast 75 = .ok (.sipush 781, 3) := by decide +kernel
theorem dX5_setLeast_78 : decode cX5_setLeast 78 = .ok (.iadd, 1) := by decide +kernel
theorem dX5_setLeast_79 : decode cX5_setLeast 79 = .ok (.iaload, 1) := by decide +kernel
theorem dX5_setLeast_80 : decode cX5_setLeast 80 = .ok (.iadd, 1) := by decide +kernel
theorem dX5_setLeast_81 : decode cX5_setLeast 81 = .ok (.istore 6, 2) := by decide +kernel
theorem dX5_setLeast_83 : decode cX5_setLeast 83 = .ok (.aload_n 0, 1) := by decide +kernel
theorem dX5_setLeast_84 : decode cX5_setLeast 84 = .ok (.getfield 11, 3) := by decide +kernel
theorem dX5_setLeast_87 : decode cX5_setLeast 87 = .ok (.iload 5, 2) := by decide +kernel
theorem dX5_setLeast_89 : decode cX5_setLeast 89 = .ok (.iload 6, 2) := by decide +kernel
theorem dX5_setLeast_91 : decode cX5_setLeast 91 = .ok (.aload_n 0, 1) := by decide +kernel
theorem dX5_setLeast_92 : decode cX5_setLeast 92 = .ok (.getfield 11, 3) := by decide +kernel
theorem dX5_setLeast_95 : decode cX5_setLeast 95 = .ok (.iload 5, 2) := by decide +kernel
theorem dX5_setLeast_97 : decode cX5_setLeast 97 = .ok (.iconst 1, 1) := by decide +kernel
theorem dX5_setLeast_98 : decode cX5_setLeast 98 = .ok (.iadd, 1) := by decide +kernel
theorem dX5_setLeast_99 : decode cX5_setLeast 99 = .ok (.iaload, 1) := by decide +kernel
theorem dX5_setLeast_100 : decode cX5_setLeast 100 = .ok (.invokestatic 67, 3) := by decide +kernel
theorem dX5_setLeast_103 : decode cX5_setLeast 103 = .ok (.iastore, 1) := by decide +kernel
theorem dX5_setLeast_104 : decode cX5_setLeast 104 = .ok (.iinc 4 (-1), 3) := by decide +kernel
theorem dX5_setLeast_107 : decode cX5_setLeast 107 = .ok (.goto (-60), 3) := by decide +kernel
theorem dX5_setLeast_110 : decode cX5_setLeast 110 = .ok (.return_, 1) := by decide +kernel
abbrev mX5_setLeast : zq_M := (cX5_setLeast, RX5, "setLeast", none, 7)
theorem dX5_nameFor_0 : decode cX5_nameFor 0 = .ok (.iconst 0, 1) := by decide +kernel
theorem dX5_nameFor_1 : decode cX5_nameFor 1 = .ok (.istore_n 3, 1) := by decide +kernel
theorem dX5_nameFor_2 : decode cX5_nameFor 2 = .ok (.iconst 0, 1) := by decide +kernel
theorem dX5_nameFor_3 : decode cX5_nameFor 3 = .ok (.istore 4, 2) := by decide +kernel
theorem dX5_nameFor_5 : decode cX5_nameFor 5 = .ok (.iload 4, 2) := by decide +kernel
theorem dX5_nameFor_7 : decode cX5_nameFor 7 = .ok (.aload_n 1, 1) := by decide +kernel
theorem dX5_nameFor_8 : decode cX5_nameFor 8 = .ok (.getfield 18, 3) := by decide +kernel
theorem dX5_nameFor_11 : decode cX5_nameFor 11 = .ok (.if_icmp .ge 105, 3) := by decide +kernel
theorem dX5_nameFor_14 : decode cX5_nameFor 14 = .ok (.iload 4, 2) := by decide +kernel
theorem dX5_nameFor_16 : decode cX5_nameFor 16 = .ok (.bipush 7, 2) := by decide +kernel
theorem dX5_nameFor_18 : decode cX5_nameFor 18 = .ok (.if_icmp .ge 98, 3) := by decide +kernel
theorem dX5_nameFor_21 : decode cX5_nameFor 21 = .ok (.aload_n 0, 1) := by decide +kernel
theorem dX5_nameFor_22 : decode cX5_nameFor 22 = .ok (.getfield 11, 3) := by decide +kernel
theorem dX5_nameFor_25 : decode cX5_nameFor 25 = .ok (.iload 4, 2) := by decide +kernel
theorem dX5_nameFor_27 : decode cX5_nameFor 27 = .ok (.sipush 781, 3) := by decide +kernel
theorem dX5_nameFor_30 : decode cX5_nameFor 30 = .ok (.imul, 1) := by decide +kernel
theorem dX5_nameFor_31 : decode cX5_nameFor 31 = .ok (.iload_n 3, 1) := by decide +kernel
theorem dX5_nameFor_32 : decode cX5_nameFor 32 = .ok (.iadd, 1) := by decide +kernel
theorem dX5_nameFor_33 : decode cX5_nameFor 33 = .ok (.iaload, 1) := by decide +kernel
theorem dX5_nameFor_34 : decode cX5_nameFor 34 = .ok (.istore 5, 2) := by decide +kernel
theorem dX5_nameFor_36 : decode cX5_nameFor 36 = .ok (.iload_n 3, 1) := by decide +kernel
theorem dX5_nameFor_37 : decode cX5_nameFor 37 = .ok (.aload_n 1, 1) := by decide +kernel
theorem dX5_nameFor_38 : decode cX5_nameFor 38 = .ok (.getfield 60, 3) := by decide +kernel
theorem dX5_nameFor_41 : decode cX5_nameFor 41 = .ok (.invokestatic 63, 3) := by decide +kernel
theorem dX5_nameFor_44 : decode cX5_nameFor 44 = .ok (.istore 6, 2) := by decide +kernel
theorem dX5_nameFor_46 : decode cX5_nameFor 46 = .ok (.iload_n 3, 1) := by decide +kernel
theorem dX5_nameFor_47 : decode cX5_nameFor 47 = .ok (.sipush 779, 3) := by decide +kernel
theorem dX5_nameFor_50 : decode cX5_nameFor 50 = .ok (.if_icmp .ge 48, 3) := by decide +kernel
theorem dX5_nameFor_53 : decode cX5_nameFor 53 = .ok (.aload_n 0, 1) := by decide +kernel
theorem dX5_nameFor_54 : decode cX5_nameFor 54 = .ok (.iload 4, 2) := by decide +kernel
theorem dX5_nameFor_56 : decode cX5_nameFor 56 = .ok (.iload 6, 2) := by decide +kernel
theorem dX5_nameFor_58 : decode cX5_nameFor 58 = .ok (.invokevirtual 72, 3) := by decide +kernel
theorem dX5_nameFor_61 : decode cX5_nameFor 61 = .ok (.aload_n 0, 1) := by decide +kernel
theorem dX5_nameFor_62 : decode cX5_nameFor 62 = .ok (.getfield 11, 3) := by decide +kernel
theorem dX5_nameFor_65 : decode cX5_nameFor 65 = .ok (.iload 4, 2) := by decide +kernel
theorem dX5_nameFor_67 : decode cX5_nameFor 67 = .ok (.iconst 1, 1) := by decide +kernel
theorem dX5_nameFor_68 : decode cX5_nameFor 68 = .ok (.iadd, 1) := by decide +kernel
theorem dX5_nameFor_69 : decode cX5_nameFor 69 = .ok (.sipush 781, 3) := by decide +kernel
theorem dX5_nameFor_72 : decode cX5_nameFor 72 = .ok (.imul, 1) := by decide +kernel
theorem dX5_nameFor_73 : decode cX5_nameFor 73 = .ok (.iload_n 3, 1) := by decide +kernel
theorem dX5_nameFor_74 : decode cX5_nameFor 74 = .ok (.iadd, 1) := by decide +kernel
theorem dX5_nameFor_75 : decode cX5_nameFor 75 = .ok (.iaload, 1) := by decide +kernel
theorem dX5_nameFor_76 : decode cX5_nameFor 76 = .ok (.iadd, 1) := by decide +kernel
theorem dX5_nameFor_77 : decode cX5_nameFor 77 = .ok (.iload 5, 2) := by decide +kernel
theorem dX5_nameFor_79 : decode cX5_nameFor 79 = .ok (.if_icmp .eq 19, 3) := by decide +kernel
theorem dX5_nameFor_82 : decode cX5_nameFor 82 = .ok (.iinc 3 1, 3) := by decide +kernel
theorem dX5_nameFor_85 : decode cX5_nameFor 85 = .ok (.iload_n 3, 1) := by decide +kernel
theorem dX5_nameFor_86 : decode cX5_nameFor 86 = .ok (.aload_n 1, 1) := by decide +kernel
theorem dX5_nameFor_87 : decode cX5_nameFor 87 = .ok (.getfield 60, 3) := by decide +kernel
theorem dX5_nameFor_90 : decode cX5_nameFor 90 = .ok (.invokestatic 63, 3) := by decide +kernel
theorem dX5_nameFor_93 : decode cX5_nameFor 93 = .ok (.istore 6, 2) := by decide +kernel
theorem dX5_nameFor_95 : decode cX5_nameFor 95 = .ok (.goto (-49), 3) := by decide +kernel
theorem dX5_nameFor_98 : decode cX5_nameFor 98 = .ok (.iload 4, 2) := by decide +kernel
theorem dX5_nameFor_100 : decode cX5_nameFor 100 = .ok (.iload_n 2, 1) := by decide +kernel
theorem dX5_nameFor_101 : decode cX5_nameFor 101 = .ok (.if_icmp .ne 9, 3) := by decide +kernel
theorem dX5_nameFor_104 : decode cX5_nameFor 104 = .ok (.iload 6, 2) := by decide +kernel
theorem dX5_nameFor_106 : decode cX5_nameFor 106 = .ok (.invokestatic 81, 3) := by decide +kernel
theorem dX5_nameFor_109 : decode cX5_nameFor 109 = .ok (.ireturn, 1) := by decide +kernel
theorem dX5_nameFor_110 : decode cX5_nameFor 110 = .ok (.iinc 4 1, 3) := by decide +kernel
theorem dX5_nameFor_113 : decode cX5_nameFor 113 = .ok (.goto (-108), 3) := by decide +kernel
theorem dX5_nameFor_116 : decode cX5_nameFor 116 = .ok (.iconst (-1), 1) := by decide +kernel
theorem dX5_nameFor_117 : decode cX5_nameFor 117 = .ok (.ireturn, 1) := by decide +kernel
abbrev mX5_nameFor : zq_M := (cX5_nameFor, RX5, "nameFor", (some .int), 7)
theorem dX5_setPrices_0 : decode cX5_setPrices 0 = .ok (.aload_n 1, 1) := by decide +kernel
theorem dX5_setPrices_1 : decode cX5_setPrices 1 = .ok (.iload 4, 2) := by decide +kernel
theorem dX5_setPrices_3 : decode cX5_setPrices 3 = .ok (.invokevirtual 33, 3) := by decide +kernel
theorem dX5_setPrices_6 : decode cX5_setPrices 6 = .ok (.ifCond .ne 4, 3) := by decide +kernel
theorem dX5_setPrices_9 : decode cX5_setPrices 9 = .ok (.return_, 1) := by decide +kernel
theorem dX5_setPrices_10 : decode cX5_setPrices 10 = .ok (.aload_n 1, 1) := by decide +kernel
theorem dX5_setPrices_11 : decode cX5_setPrices 11 = .ok (.getfield 37, 3) := by decide +kernel
theorem dX5_setPrices_14 : decode cX5_setPrices 14 = .ok (.iload 4, 2) := by decide +kernel
theorem dX5_setPrices_16 : decode cX5_setPrices 16 = .ok (.iaload, 1) := by decide +kernel
theorem dX5_setPrices_17 : decode cX5_setPrices 17 = .ok (.istore 5, 2) := by decide +kernel
theorem dX5_setPrices_19 : decode cX5_setPrices 19 = .ok (.aload_n 3, 1) := by decide +kernel
theorem dX5_setPrices_20 : decode cX5_setPrices 20 = .ok (.aload_n 1, 1) := by decide +kernel
theorem dX5_setPrices_21 : decode cX5_setPrices 21 = .ok (.aload_n 2, 1) := by decide +kernel
theorem dX5_setPrices_22 : decode cX5_setPrices 22 = .ok (.iload 5, 2) := by decide +kernel
theorem dX5_setPrices_24 : decode cX5_setPrices 24 = .ok (.invokevirtual 40, 3) := by decide +kernel
theorem dX5_setPrices_27 : decode cX5_setPrices 27 = .ok (.istore 6, 2) := by decide +kernel
theorem dX5_setPrices_29 : decode cX5_setPrices 29 = .ok (.iconst 0, 1) := by decide +kernel
theorem dX5_setPrices_30 : decode cX5_setPrices 30 = .ok (.istore 7, 2) := by decide +kernel
theorem dX5_setPrices_32 : decode cX5_setPrices 32 = .ok (.iload 7, 2) := by decide +kernel
theorem dX5_setPrices_34 : decode cX5_setPrices 34 = .ok (.iconst 4, 1) := by decide +kernel
theorem dX5_setPrices_35 : decode cX5_setPrices 35 = .ok (.if_icmp .ge 108, 3) := by decide +kernel
theorem dX5_setPrices_38 : decode cX5_setPrices 38 = .ok (.aload_n 1, 1) := by decide +kernel
theorem dX5_setPrices_39 : decode cX5_setPrices 39 = .ok (.iload 5, 2) := by decide +kernel
theorem dX5_setPrices_41 : decode cX5_setPrices 41 = .ok (.invokevirtual 46, 3) := by decide +kernel
theorem dX5_setPrices_44 : decode cX5_setPrices 44 = .ok (.iload 7, 2) := by decide +kernel
theorem dX5_setPrices_46 : decode cX5_setPrices 46 = .ok (.invokestatic 50, 3) := by decide +kernel
theorem dX5_setPrices_49 : decode cX5_setPrices 49 = .ok (.istore 8, 2) := by decide +kernel
theorem dX5_setPrices_51 : decode cX5_setPrices 51 = .ok (.iload 4, 2) := by decide +kernel
theorem dX5_setPrices_53 : decode cX5_setPrices 53 = .ok (.bipush 24, 2) := by decide +kernel
theorem dX5_setPrices_55 : decode cX5_setPrices 55 = .ok (.imul, 1) := by decide +kernel
theorem dX5_setPrices_56 : decode cX5_setPrices 56 = .ok (.iload 7, 2) := by decide +kernel
theorem dX5_setPrices_58 : decode cX5_setPrices 58 = .ok (.bipush 6, 2) := by decide +kernel
theorem dX5_setPrices_60 : decode cX5_setPrices 60 = .ok (.imul, 1) := by decide +kernel
theorem dX5_setPrices_61 : decode cX5_setPrices 61 = .ok (.iadd, 1) := by decide +kernel
theorem dX5_setPrices_62 : decode cX5_setPrices 62 = .ok (.istore 9, 2) := by decide +kernel
theorem dX5_setPrices_64 : decode cX5_setPrices 64 = .ok (.iconst 0, 1) := by decide +kernel
theorem dX5_setPrices_65 : decode cX5_setPrices 65 = .ok (.istore 10, 2) := by decide +kernel
theorem dX5_setPrices_67 : decode cX5_setPrices 67 = .ok (.iload 10, 2) := by decide +kernel
theorem dX5_setPrices_69 : decode cX5_setPrices 69 = .ok (.iconst 5, 1) := by decide +kernel
theorem dX5_setPrices_70 : decode cX5_setPrices 70 = .ok (.if_icmp .gt 67, 3) := by decide +kernel
theorem dX5_setPrices_73 : decode cX5_setPrices 73 = .ok (.ldc 28, 2) := by decide +kernel
theorem dX5_setPrices_75 : decode cX5_setPrices 75 = .ok (.istore 11, 2) := by decide +kernel
theorem dX5_setPrices_77 : decode cX5_setPrices 77 = .ok (.iload 10, 2) := by decide +kernel
theorem dX5_setPrices_79 : decode cX5_setPrices 79 = .ok (.iload 8, 2) := by decide +kernel
theorem dX5_setPrices_81 : decode cX5_setPrices 81 = .ok (.if_icmp .ne 9, 3) := by decide +kernel
theorem dX5_setPrices_84 : decode cX5_setPrices 84 = .ok (.iconst 0, 1) := by decide +kernel
theorem dX5_setPrices_85 : decode cX5_setPrices 85 = .ok (.istore 11, 2) := by decide +kernel
theorem dX5_setPrices_87 : decode cX5_setPrices 87 = .ok (.goto 32, 3) := by decide +kernel
theorem dX5_setPrices_90 : decode cX5_setPrices 90 = .ok (.iload 10, 2) := by decide +kernel
theorem dX5_setPrices_92 : decode cX5_setPrices 92 = .ok (.ifCond .eq 27, 3) := by decide +kernel
theorem dX5_setPrices_95 : decode cX5_setPrices 95 = .ok (.iload 8, 2) := by decide +kernel
theorem dX5_setPrices_97 : decode cX5_setPrices 97 = .ok (.ifCond .eq 22, 3) := by decide +kernel
theorem dX5_setPrices_100 : decode cX5_setPrices 100 = .ok (.iload 6, 2) := by decide +kernel
theorem dX5_setPrices_102 : decode cX5_setPrices 102 = .ok (.ifCond .ne 17, 3) := by decide +kernel
theorem dX5_setPrices_105 : decode cX5_setPrices 105 = .ok (.aload_n 3, 1) := by decide +kernel
theorem dX5_setPrices_106 : decode cX5_setPrices 106 = .ok (.aload_n 1, 1) := by decide +kernel
theorem dX5_setPrices_107 : decode cX5_setPrices 107 = .ok (.aload_n 2, 1) := by decide +kernel
theorem dX5_setPrices_108 : decode cX5_setPrices 108 = .ok (.iload 5, 2) := by decide +kernel
theorem dX5_setPrices_110 : decode cX5_setPrices 110 = .ok (.iload 7, 2) := by decide +kernel
theorem dX5_setPrices_112 : decode cX5_setPrices 112 = .ok (.iload 10, 2) := by decide +kernel
theorem dX5_setPrices_114 : decode cX5_setPrices 114 = .ok (.invokevirtual 56, 3) := by decide +kernel
theorem dX5_setPrices_117 : decode cX5_setPrices 117 = .ok (.istore 11, 2) := by decide +kernel
theorem dX5_setPrices_119 : decode cX5_setPrices 119 = .ok (.aload_n 0, 1) := by decide +kernel
theorem dX5_setPrices_120 : decode cX5_setPrices 120 = .ok (.getfield 15, 3) := by decide +kernel
theorem dX5_setPrices_123 : decode cX5_setPrices 123 = .ok (.iload 9, 2) := by decide +kernel
theorem dX5_setPrices_125 : decode cX5_setPrices 125 = .ok (.iload 10, 2) := by decide +kernel
theorem dX5_setPrices_127 : decode cX5_setPrices 127 = .ok (.iadd, 1) := by decide +kernel
theorem dX5_setPrices_128 : decode cX5_setPrices 128 = .ok (.iload 11, 2) := by decide +kernel
theorem dX5_setPrices_130 : decode cX5_setPrices 130 = .ok (.iastore, 1) := by decide +kernel
theorem dX5_setPrices_131 : decode cX5_setPrices 131 = .ok (.iinc 10 1, 3) := by decide +kernel
theorem dX5_setPrices_134 : decode cX5_setPrices 134 = .ok (.goto (-67), 3) := by decide +kernel
theorem dX5_setPrices_137 : decode cX5_setPrices 137 = .ok (.iinc 7 1, 3) := by decide +kernel
theorem dX5_setPrices_140 : decode cX5_setPrices 140 = .ok (.goto (-108), 3) := by decide +kernel
theorem dX5_setPrices_143 : decode cX5_setPrices 143 = .ok (.return_, 1) := by decide +kernel
abbrev mX5_setPrices : zq_M := (cX5_setPrices, RX5, "setPrices", none, 12)
theorem dX5_leastCost_0 : decode cX5_leastCost 0 = .ok (.iconst 0, 1) := by decide +kernel
theorem dX5_leastCost_1 : decode cX5_leastCost 1 = .ok (.istore 4, 2) := by decide +kernel
theorem dX5_leastCost_3 : decode cX5_leastCost 3 = .ok (.iload 4, 2) := by decide +kernel
theorem dX5_leastCost_5 : decode cX5_leastCost 5 = .ok (.aload_n 1, 1) := by decide +kernel
theorem dX5_leastCost_6 : decode cX5_leastCost 6 = .ok (.getfield 18, 3) := by decide +kernel
theorem dX5_leastCost_9 : decode cX5_leastCost 9 = .ok (.if_icmp .ge 18, 3) := by decide +kernel
theorem dX5_leastCost_12 : decode cX5_leastCost 12 = .ok (.aload_n 0, 1) := by decide +kernel
theorem dX5_leastCost_13 : decode cX5_leastCost 13 = .ok (.aload_n 1, 1) := by decide +kernel
theorem dX5_leastCost_14 : decode cX5_leastCost 14 = .ok (.aload_n 2, 1) := by decide +kernel
theorem dX5_leastCost_15 : decode cX5_leastCost 15 = .ok (.aload_n 3, 1) := by decide +kernel
theorem dX5_leastCost_16 : decode cX5_leastCost 16 = .ok (.iload 4, 2) := by decide +kernel
theorem dX5_leastCost_18 : decode cX5_leastCost 18 = .ok (.invokevirtual 24, 3) := by decide +kernel
theorem dX5_leastCost_21 : decode cX5_leastCost 21 = .ok (.iinc 4 1, 3) := by decide +kernel
theorem dX5_leastCost_24 : decode cX5_leastCost 24 = .ok (.goto (-21), 3) := by decide +kernel
theorem dX5_leastCost_27 : decode cX5_leastCost 27 = .ok (.iconst 0, 1) := by decide +kernel
theorem dX5_leastCost_28 : decode cX5_leastCost 28 = .ok (.istore 4, 2) := by decide +kernel
theorem dX5_leastCost_30 : decode cX5_leastCost 30 = .ok (.iload 4, 2) := by decide +kernel
theorem dX5_leastCost_32 : decode cX5_leastCost 32 = .ok (.aload_n 1, 1) := by decide +kernel
theorem dX5_leastCost_33 : decode cX5_leastCost 33 = .ok (.getfield 18, 3) := by decide +kernel
theorem dX5_leastCost_36 : decode cX5_leastCost 36 = .ok (.if_icmp .gt 46, 3) := by decide +kernel
theorem dX5_leastCost_39 : decode cX5_leastCost 39 = .ok (.iload 4, 2) := by decide +kernel
theorem dX5_leastCost_41 : decode cX5_leastCost 41 = .ok (.bipush 7, 2) := by decide +kernel
theorem dX5_leastCost_43 : decode cX5_leastCost 43 = .ok (.if_icmp .gt 39, 3) := by decide +kernel
theorem dX5_leastCost_46 : decode cX5_leastCost 46 = .ok (.aload_n 0, 1) := by decide +kernel
theorem dX5_leastCost_47 : decode cX5_leastCost 47 = .ok (.getfield 11, 3) := by decide +kernel
theorem dX5_leastCost_50 : decode cX5_leastCost 50 = .ok (.iload 4, 2) := by decide +kernel
theorem dX5_leastCost_52 : decode cX5_leastCost 52 = .ok (.sipush 781, 3) := by decide +kernel
theorem dX5_leastCost_55 : decode cX5_leastCost 55 = .ok (.imul, 1) := by decide +kernel
theorem dX5_leastCost_56 : decode cX5_leastCost 56 = .ok (.sipush 780, 3) := by decide +kernel
theorem dX5_leastCost_59 : decode cX5_leastCost 59 = .ok (.iadd, 1) := by decide +kernel
theorem dX5_leastCost_60 : decode cX5_leastCost 60 = .ok (.iload 4, 2) := by decide +kernel
theorem dX5_leastCost_62 : decode cX5_leastCost 62 = .ok (.aload_n 1, 1) := by decide +kernel
theorem dX5_leastCost_63 : decode cX5_leastCost 63 = .ok (.getfield 18, 3) := by decide +kernel
theorem dX5_leastCost_66 : decode cX5_leastCost 66 = .ok (.if_icmp .ne 7, 3) := by decide +kernel
theorem dX5_leastCost_69 : decode cX5_leastCost 69 = .ok (.iconst 0, 1) := by decide +kernel
theorem dX5_leastCost_70 : decode cX5_leastCost 70 = .ok (.goto 5, 3) := by decide +kernel
theorem dX5_leastCost_73 : decode cX5_leastCost 73 = .ok (.ldc 28, 2) := by decide +kernel
theorem dX5_leastCost_75 : decode cX5_leastCost 75 = .ok (.iastore, 1) := by decide +kernel
theorem dX5_leastCost_76 : decode cX5_leastCost 76 = .ok (.iinc 4 1, 3) := by decide +kernel
theorem dX5_leastCost_79 : decode cX5_leastCost 79 = .ok (.goto (-49), 3) := by decide +kernel
theorem dX5_leastCost_82 : decode cX5_leastCost 82 = .ok (.sipush 779, 3) := by decide +kernel
theorem dX5_leastCost_85 : decode cX5_leastCost 85 = .ok (.istore 4, 2) := by decide +kernel
theorem dX5_leastCost_87 : decode cX5_leastCost 87 = .ok (.iload 4, 2) := by decide +kernel
theorem dX5_leastCost_89 : decode cX5_leastCost 89 = .ok (.ifCond .lt 16, 3) := by decide +kernel
theorem dX5_leastCost_92 : decode cX5_leastCost 92 = .ok (.aload_n 0, 1) := by decide +kernel
theorem dX5_leastCost_93 : decode cX5_leastCost 93 = .ok (.aload_n 1, 1) := by decide +kernel
theorem dX5_leastCost_94 : decode cX5_leastCost 94 = .ok (.iload 4, 2) := by decide +kernel
theorem dX5_leastCost_96 : decode cX5_leastCost 96 = .ok (.invokevirtual 29, 3) := by decide +kernel
theorem dX5_leastCost_99 : decode cX5_leastCost 99 = .ok (.iinc 4 (-1), 3) := by decide +kernel
theorem dX5_leastCost_102 : decode cX5_leastCost 102 = .ok (.goto (-15), 3) := by decide +kernel
theorem dX5_leastCost_105 : decode cX5_leastCost 105 = .ok (.aload_n 0, 1) := by decide +kernel
theorem dX5_leastCost_106 : decode cX5_leastCost 106 = .ok (.getfield 11, 3) := by decide +kernel
theorem dX5_leastCost_109 : decode cX5_leastCost 109 = .ok (.iconst 0, 1) := by decide +kernel
theorem dX5_leastCost_110 : decode cX5_leastCost 110 = .ok (.iaload, 1) := by decide +kernel
theorem dX5_leastCost_111 : decode cX5_leastCost 111 = .ok (.istore 4, 2) := by decide +kernel
theorem dX5_leastCost_113 : decode cX5_leastCost 113 = .ok (.iload 4, 2) := by decide +kernel
theorem dX5_leastCost_115 : decode cX5_leastCost 115 = .ok (.ldc 28, 2) := by decide +kernel
theorem dX5_leastCost_117 : decode cX5_leastCost 117 = .ok (.if_icmp .ge 8, 3) := by decide +kernel
theorem dX5_leastCost_120 : decode cX5_leastCost 120 = .ok (.iload 4, 2) := by decide +kernel
theorem dX5_leastCost_122 : decode cX5_leastCost 122 = .ok (.goto 4, 3) := by decide +kernel
theorem dX5_leastCost_125 : decode cX5_leastCost 125 = .ok (.iconst (-1), 1) := by decide +kernel
theorem dX5_leastCost_126 : decode cX5_leastCost 126 = .ok (.ireturn, 1) := by decide +kernel
abbrev mX5_leastCost : zq_M := (cX5_leastCost, RX5, "leastCost", (some .int), 5)
section ZC14
variable {l : Launch} {G : zq_G} {D n b m : Nat} {κ : zl_S} {ρ : Nat → zq_E} {post : Option Value → Nat → (Nat → zq_E) → Prop} {al : Nat → Nat} {a : Nat}
/-- y: the letters before, and the next -/
theorem zc_nor_loop {r : Nat} (ha : zl_isA a = true) (hl : zl_len a = 5) (hal : ∀ k, k < 5 → κ.2.1 a k = nI (al k) ∧ 1 ≤ al k ∧ al k ≤ 5) :
    ∀ h x i k, h + k = 3 → i < 5 * zbz h → ((k = 0 ∧ x = 0) ∨ (zvn x ∧ zlen x = k)) → post (some (.int (nI (zpad (zbn al h (10 * x + al (i / zbz h)) (i % zbz h)))))) n (zl_h κ ρ) → zq_At l G (zq_rm D 0 0) mX5_nameOfRank (zq_QF G post 0 0) 7 [(0, .int (nI r)), (1, .ref a), (2, .int (nI (x * 10 ^ (4 - k)))), (3, .int (nI i)), (4, .int (nI k))] [] n (zl_h κ ρ) 0 0 := by
  intro h
  induction h with
  | zero =>
    intro x i k hk hi hx hp
    obtain rfl : k = 3 := by omega
    have hi : i < 5 := hi
    obtain ⟨a1, a2, a3⟩ := hal i hi
    have e1 : i / zbz 0 = i := Nat.div_one i
    have e2 : i % zbz 0 = 0 := Nat.mod_one i
    rw [e1, e2] at hp
    have hv : zvn (10 * x + al i) ∧ zlen (10 * x + al i) = 3 + 1 := by
      rcases hx with ⟨h, -⟩ | ⟨h1, h2⟩
      · omega
      · have := zvn_10 h1 (by omega) a2 a3
        exact ⟨this.1, by rw [this.2, h2]⟩
    have hp : post (some (.int (nI (zpad (10 * x + al i))))) n (zl_h κ ρ) := hp
    rw [zpad_vn hv.2 (by decide)] at hp
    have hb1 := hv.1.2.1
    refine at_iload dX5_nameOfRank_7 rfl ?_
    refine at_iconst dX5_nameOfRank_9 (v := nI 4) (by decide) ?_
    refine at_geN (tgt := 75) dX5_nameOfRank_10 (by decide) (by omega) (by omega) (fun c10 => ?_) (fun c10 => ?_)
    · omega
    · refine at_iload_n dX5_nameOfRank_13 rfl ?_
      refine at_gets dX5_nameOfRank_14 sl_X5_75 ?_
      refine at_iload dX5_nameOfRank_17 rfl ?_
      refine at_tldN dX5_nameOfRank_19 rfl (by decide) (by decide) rfl (by omega) ?_
      rw [zq_spans_n (k := 3) (by decide)]
      refine at_idivN dX5_nameOfRank_20 (by omega) (by decide) (by decide) ?_
      rw [show i / zbz (3 - 3) = i from e1]
      refine at_istore dX5_nameOfRank_21 (by decide) ?_
      refine at_iload dX5_nameOfRank_23 rfl ?_
      refine at_if_ltN (tgt := 35) dX5_nameOfRank_25 (by decide) (by omega) (fun c25 => ?_) (fun c25 => ?_)
      · exact c25.elim
      · refine at_iload dX5_nameOfRank_28 rfl ?_
        refine at_aload_n dX5_nameOfRank_30 rfl ?_
        refine at_alen dX5_nameOfRank_31 (zl_a ha) (by decide) (v := nI 5) (by rw [hl]; rfl) ?_
        refine at_ltN (tgt := 37) dX5_nameOfRank_32 (by decide) (by omega) (by omega) (fun c32 => ?_) (fun c32 => ?_)
        · refine at_iload_n dX5_nameOfRank_37 rfl ?_
          refine at_aload_n dX5_nameOfRank_38 rfl ?_
          refine at_iload dX5_nameOfRank_39 rfl ?_
          refine at_lald2 dX5_nameOfRank_41 ha rfl (by rw [hl]; omega) (by rw [hl]; first | decide | omega) ?_
          rw [a1]
          refine at_gets dX5_nameOfRank_42 sl_X5_78 ?_
          refine at_iload dX5_nameOfRank_45 rfl ?_
          refine at_tldN dX5_nameOfRank_47 rfl (by decide) (by decide) rfl (by omega) ?_
          rw [zq_tens_n (k := 3) (by decide)]
          refine at_imulN dX5_nameOfRank_48 ?_
          refine at_iaddN dX5_nameOfRank_49 ?_
          refine at_istore_n dX5_nameOfRank_50 rfl (by decide) ?_
          refine at_iload_n dX5_nameOfRank_51 rfl ?_
          refine at_gets dX5_nameOfRank_52 sl_X5_75 ?_
          refine at_iload dX5_nameOfRank_55 rfl ?_
          refine at_tldN dX5_nameOfRank_57 rfl (by decide) (by decide) rfl (by omega) ?_
          rw [zq_spans_n (k := 3) (by decide)]
          refine at_iremN dX5_nameOfRank_58 (by omega) (by decide) (by decide) ?_
          rw [show i % zbz (3 - 3) = 0 from e2]
          refine at_istore_n dX5_nameOfRank_59 rfl (by decide) ?_
          refine at_iload_n dX5_nameOfRank_60 rfl ?_
          refine at_if_neN (tgt := 66) dX5_nameOfRank_61 (by decide) (by omega) (fun c61 => ?_) (fun c61 => ?_)
          · omega
          · refine at_iload_n dX5_nameOfRank_64 rfl ?_
            refine at_iret dX5_nameOfRank_65 rfl (by omega) (by omega) ?_
            have e : x * 10 ^ (4 - 3) + al i * 10 ^ (3 - 3) = (10 * x + al i) * 10 ^ (3 - 3) := (by
              show x * 10 + al i * 1 = (10 * x + al i) * 1
              omega)
            rw [e]
            exact hp
        · omega
  | succ h ih =>
    intro x i k hk hi hx hp
    have hz := zbz_pos (h + 1)
    have hzl := zbz_le (h := h + 1) (by omega)
    have hsp : i / zbz (h + 1) < 5 := by rw [Nat.div_lt_iff_lt_mul hz]; omega
    have hm := Nat.mod_lt i hz
    obtain ⟨a1, a2, a3⟩ := hal _ hsp
    have e3 : 3 - k = h + 1 := by omega
    generalize hS : zbz (h + 1) = S at *
    have hspk : zq_span k = nI S := by rw [zq_spans_n (by omega), e3, hS]
    generalize hsv : i / S = sp at *
    generalize hmv : i % S = md at *
    have hv : zvn (10 * x + al sp) ∧ zlen (10 * x + al sp) = k + 1 := by
      rcases hx with ⟨rfl, rfl⟩ | ⟨h1, h2⟩
      · rw [Nat.mul_zero, Nat.zero_add]
        exact zvn_1 a2 a3
      · have := zvn_10 h1 (by omega) a2 a3
        exact ⟨this.1, by rw [this.2, h2]⟩
    have eT : x * 10 ^ (4 - k) + al sp * 10 ^ (3 - k) = (10 * x + al sp) * 10 ^ (3 - k) := by
      rw [show 4 - k = (3 - k) + 1 by omega, Nat.pow_succ, Nat.add_mul, Nat.mul_comm (10 ^ (3 - k)) 10, ← Nat.mul_assoc, Nat.mul_comm x 10]
    have hb1 := hv.1.2.1
    have hnx : md ≠ 0 → zq_At l G (zq_rm D 0 0) mX5_nameOfRank (zq_QF G post 0 0) 7 [(0, .int (nI r)), (1, .ref a), (2, .int (nI ((10 * x + al sp) * 10 ^ (3 - k)))), (3, .int (nI (md - 1))), (4, .int (nI (k + 1)))] [] n (zl_h κ ρ) 0 0 := by
      intro h0
      have := ih (10 * x + al sp) (md - 1) (k + 1) (by omega) (by have : 1 + 5 * zbz h = S := hS; omega) (Or.inr hv) (by
        unfold zbn at hp
        rw [if_neg h0] at hp
        exact hp)
      rw [show 4 - (k + 1) = 3 - k by omega] at this
      exact this
    refine at_iload dX5_nameOfRank_7 rfl ?_
    refine at_iconst dX5_nameOfRank_9 (v := nI 4) (by decide) ?_
    refine at_geN (tgt := 75) dX5_nameOfRank_10 (by decide) (by omega) (by omega) (fun c10 => ?_) (fun c10 => ?_)
    · omega
    · refine at_iload_n dX5_nameOfRank_13 rfl ?_
      refine at_gets dX5_nameOfRank_14 sl_X5_75 ?_
      refine at_iload dX5_nameOfRank_17 rfl ?_
      refine at_tldN dX5_nameOfRank_19 rfl (by decide) (by decide) rfl (by omega) ?_
      rw [hspk]
      refine at_idivN dX5_nameOfRank_20 (by omega) hz (by omega) ?_
      rw [hsv]
      refine at_istore dX5_nameOfRank_21 (by decide) ?_
      refine at_iload dX5_nameOfRank_23 rfl ?_
      refine at_if_ltN (tgt := 35) dX5_nameOfRank_25 (by decide) (by omega) (fun c25 => ?_) (fun c25 => ?_)
      · exact c25.elim
      · refine at_iload dX5_nameOfRank_28 rfl ?_
        refine at_aload_n dX5_nameOfRank_30 rfl ?_
        refine at_alen dX5_nameOfRank_31 (zl_a ha) (by decide) (v := nI 5) (by rw [hl]; rfl) ?_
        refine at_ltN (tgt := 37) dX5_nameOfRank_32 (by decide) (by omega) (by omega) (fun c32 => ?_) (fun c32 => ?_)
        · refine at_iload_n dX5_nameOfRank_37 rfl ?_
          refine at_aload_n dX5_nameOfRank_38 rfl ?_
          refine at_iload dX5_nameOfRank_39 rfl ?_
          refine at_lald2 dX5_nameOfRank_41 ha rfl (by rw [hl]; omega) (by rw [hl]; first | decide | omega) ?_
          rw [a1]
          refine at_gets dX5_nameOfRank_42 sl_X5_78 ?_
          refine at_iload dX5_nameOfRank_45 rfl ?_
          refine at_tldN dX5_nameOfRank_47 rfl (by decide) (by decide) rfl (by omega) ?_
          rw [zq_tens_n (by omega)]
          refine at_imulN dX5_nameOfRank_48 ?_
          refine at_iaddN dX5_nameOfRank_49 ?_
          rw [eT]
          refine at_istore_n dX5_nameOfRank_50 rfl (by decide) ?_
          refine at_iload_n dX5_nameOfRank_51 rfl ?_
          refine at_gets dX5_nameOfRank_52 sl_X5_75 ?_
          refine at_iload dX5_nameOfRank_55 rfl ?_
          refine at_tldN dX5_nameOfRank_57 rfl (by decide) (by decide) rfl (by omega) ?_
          rw [hspk]
          refine at_iremN dX5_nameOfRank_58 (by omega) hz (by omega) ?_
          rw [hmv]
          refine at_istore_n dX5_nameOfRank_59 rfl (by decide) ?_
          refine at_iload_n dX5_nameOfRank_60 rfl ?_
          refine at_if_neN (tgt := 66) dX5_nameOfRank_61 (by decide) (by omega) (fun c61 => ?_) (fun c61 => ?_)
          · refine at_iinc dX5_nameOfRank_66 rfl rfl (by decide) ?_
            rw [show nI md + Int32.ofInt (-1) = nI (md - 1) from (by rw [show md = (md - 1) + 1 by omega, Nat.add_sub_cancel, ← nI_pred (md - 1), Int32.sub_eq_add_neg]; rfl)]
            refine at_iincN dX5_nameOfRank_69 rfl (by decide) ?_
            refine at_goto (tgt := 7) dX5_nameOfRank_72 (by decide) ?_
            exact at_lv [0, 1, 2, 3, 4] (hnx c61)
          · refine at_iload_n dX5_nameOfRank_64 rfl ?_
            refine at_iret dX5_nameOfRank_65 rfl (by omega) (by omega) ?_
            rw [← zpad_vn hv.2 (by omega)]
            unfold zbn at hp
            rw [if_pos c61] at hp
            exact hp
        · omega
theorem zc_nameOfRank {r : Nat} (hr : r < 780) (ha : zl_isA a = true) (hl : zl_len a = 5) (hal : ∀ k, k < 5 → κ.2.1 a k = nI (al k) ∧ 1 ≤ al k ∧ al k ≤ 5) (hp : post (some (.int (nI (zpad (znm al r))))) n (zl_h κ ρ)) : zq_Runs l G D 0 0 yX5_nameOfRank [.int (nI r), .ref a] n (zl_h κ ρ) post := by
  have hn := zc_nor_loop (l := l) (G := G) (D := D) (n := n) (ρ := ρ) (r := r) (post := post) ha hl hal 3 0 r 0 rfl (by show r < 5 * 156; omega) (Or.inl ⟨rfl, rfl⟩) (by
    rw [Nat.mul_zero, Nat.zero_add]
    exact hp)
  rw [Nat.zero_mul] at hn
  refine zq_enter (cc := cX5_nameOfRank) (nL := 6) (ret := (some .int)) cw_X5_nameOfRank (by decide) rfl (Nat.le_of_ble_eq_true rfl) ?_
  refine at_iconst dX5_nameOfRank_0 (v := nI 0) (by decide) ?_
  refine at_istore_n dX5_nameOfRank_1 rfl (by decide) ?_
  refine at_iload_n dX5_nameOfRank_2 rfl ?_
  refine at_istore_n dX5_nameOfRank_3 rfl (by decide) ?_
  refine at_iconst dX5_nameOfRank_4 (v := nI 0) (by decide) ?_
  refine at_istore dX5_nameOfRank_5 (by decide) ?_
  exact hn
end ZC14

