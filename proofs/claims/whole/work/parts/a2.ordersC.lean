/-! ===== the class: orders are run ===== -/
theorem dX11_fillOrderWords_0 : decode cX11_fillOrderWords 0 = .ok (.aload_n 0, 1) := by decide +kernel
theorem dX11_fillOrderWords_1 : decode cX11_fillOrderWords 1 = .ok (.getfield 79, 3) := by decide +kernel
theorem dX11_fillOrderWords_4 : decode cX11_fillOrderWords 4 = .ok (.iconst 0, 1) := by decide +kernel
theorem dX11_fillOrderWords_5 : decode cX11_fillOrderWords 5 = .ok (.aload_n 0, 1) := by decide +kernel
theorem dX11_fillOrderWords_6 : decode cX11_fillOrderWords 6 = .ok (.getfield 12, 3) := by decide +kernel
theorem dX11_fillOrderWords_9 : decode cX11_fillOrderWords 9 = .ok (.getfield 172, 3) := by decide +kernel
theorem dX11_fillOrderWords_12 : decode cX11_fillOrderWords 12 = .ok (.iconst 0, 1) := by decide +kernel
theorem dX11_fillOrderWords_13 : decode cX11_fillOrderWords 13 = .ok (.iaload, 1) := by decide +kernel
theorem dX11_fillOrderWords_14 : decode cX11_fillOrderWords 14 = .ok (.iastore, 1) := by decide +kernel
theorem dX11_fillOrderWords_15 : decode cX11_fillOrderWords 15 = .ok (.aload_n 0, 1) := by decide +kernel
theorem dX11_fillOrderWords_16 : decode cX11_fillOrderWords 16 = .ok (.getfield 79, 3) := by decide +kernel
theorem dX11_fillOrderWords_19 : decode cX11_fillOrderWords 19 = .ok (.iconst 3, 1) := by decide +kernel
theorem dX11_fillOrderWords_20 : decode cX11_fillOrderWords 20 = .ok (.aload_n 0, 1) := by decide +kernel
theorem dX11_fillOrderWords_21 : decode cX11_fillOrderWords 21 = .ok (.getfield 12, 3) := by decide +kernel
theorem dX11_fillOrderWords_24 : decode cX11_fillOrderWords 24 = .ok (.iconst (-1), 1) := by decide +kernel
theorem dX11_fillOrderWords_25 : decode cX11_fillOrderWords 25 = .ok (.invokevirtual 273, 3) := by decide +kernel
theorem dX11_fillOrderWords_28 : decode cX11_fillOrderWords 28 = .ok (.iastore, 1) := by decide +kernel
theorem dX11_fillOrderWords_29 : decode cX11_fillOrderWords 29 = .ok (.aload_n 0, 1) := by decide +kernel
theorem dX11_fillOrderWords_30 : decode cX11_fillOrderWords 30 = .ok (.getfield 79, 3) := by decide +kernel
theorem dX11_fillOrderWords_33 : decode cX11_fillOrderWords 33 = .ok (.iconst 4, 1) := by decide +kernel
theorem dX11_fillOrderWords_34 : decode cX11_fillOrderWords 34 = .ok (.aload_n 0, 1) := by decide +kernel
theorem dX11_fillOrderWords_35 : decode cX11_fillOrderWords 35 = .ok (.getfield 12, 3) := by decide +kernel
theorem dX11_fillOrderWords_38 : decode cX11_fillOrderWords 38 = .ok (.invokevirtual 276, 3) := by decide +kernel
theorem dX11_fillOrderWords_41 : decode cX11_fillOrderWords 41 = .ok (.iastore, 1) := by decide +kernel
theorem dX11_fillOrderWords_42 : decode cX11_fillOrderWords 42 = .ok (.iconst 0, 1) := by decide +kernel
theorem dX11_fillOrderWords_43 : decode cX11_fillOrderWords 43 = .ok (.istore_n 1, 1) := by decide +kernel
theorem dX11_fillOrderWords_44 : decode cX11_fillOrderWords 44 = .ok (.iload_n 1, 1) := by decide +kernel
theorem dX11_fillOrderWords_45 : decode cX11_fillOrderWords 45 = .ok (.bipush 7, 2) := by decide +kernel
theorem dX11_fillOrderWords_47 : decode cX11_fillOrderWords 47 = .ok (.if_icmp .ge 69, 3) := by decide +kernel
theorem dX11_fillOrderWords_50 : decode cX11_fillOrderWords 50 = .ok (.aload_n 0, 1) := by decide +kernel
theorem dX11_fillOrderWords_51 : decode cX11_fillOrderWords 51 = .ok (.getfield 12, 3) := by decide +kernel
theorem dX11_fillOrderWords_54 : decode cX11_fillOrderWords 54 = .ok (.iload_n 1, 1) := by decide +kernel
theorem dX11_fillOrderWords_55 : decode cX11_fillOrderWords 55 = .ok (.invokevirtual 120, 3) := by decide +kernel
theorem dX11_fillOrderWords_58 : decode cX11_fillOrderWords 58 = .ok (.istore_n 2, 1) := by decide +kernel
theorem dX11_fillOrderWords_59 : decode cX11_fillOrderWords 59 = .ok (.aload_n 0, 1) := by decide +kernel
theorem dX11_fillOrderWords_60 : decode cX11_fillOrderWords 60 = .ok (.getfield 79, 3) := by decide +kernel
theorem dX11_fillOrderWords_63 : decode cX11_fillOrderWords 63 = .ok (.iconst 5, 1) := by decide +kernel
theorem dX11_fillOrderWords_64 : decode cX11_fillOrderWords 64 = .ok (.iload_n 1, 1) := by decide +kernel
theorem dX11_fillOrderWords_65 : decode cX11_fillOrderWords 65 = .ok (.iadd, 1) := by decide +kernel
theorem dX11_fillOrderWords_66 : decode cX11_fillOrderWords 66 = .ok (.iload_n 2, 1) := by decide +kernel
theorem dX11_fillOrderWords_67 : decode cX11_fillOrderWords 67 = .ok (.ifCond .eq 15, 3) := by decide +kernel
theorem dX11_fillOrderWords_70 : decode cX11_fillOrderWords 70 = .ok (.aload_n 0, 1) := by decide +kernel
theorem dX11_fillOrderWords_71 : decode cX11_fillOrderWords 71 = .ok (.getfield 12, 3) := by decide +kernel
theorem dX11_fillOrderWords_74 : decode cX11_fillOrderWords 74 = .ok (.getfield 141, 3) := by decide +kernel
theorem dX11_fillOrderWords_77 : decode cX11_fillOrderWords 77 = .ok (.iload_n 1, 1) := by decide +kernel
theorem dX11_fillOrderWords_78 : decode cX11_fillOrderWords 78 = .ok (.iaload, 1) := by decide +kernel
theorem dX11_fillOrderWords_79 : decode cX11_fillOrderWords 79 = .ok (.goto 4, 3) := by decide +kernel
theorem dX11_fillOrderWords_82 : decode cX11_fillOrderWords 82 = .ok (.iconst (-1), 1) := by decide +kernel
theorem dX11_fillOrderWords_83 : decode cX11_fillOrderWords 83 = .ok (.iastore, 1) := by decide +kernel
theorem dX11_fillOrderWords_84 : decode cX11_fillOrderWords 84 = .ok (.aload_n 0, 1) := by decide +kernel
theorem dX11_fillOrderWords_85 : decode cX11_fillOrderWords 85 = .ok (.getfield 79, 3) := by decide +kernel
theorem dX11_fillOrderWords_88 : decode cX11_fillOrderWords 88 = .ok (.bipush 12, 2) := by decide +kernel
theorem dX11_fillOrderWords_90 : decode cX11_fillOrderWords 90 = .ok (.iload_n 1, 1) := by decide +kernel
theorem dX11_fillOrderWords_91 : decode cX11_fillOrderWords 91 = .ok (.iadd, 1) := by decide +kernel
theorem dX11_fillOrderWords_92 : decode cX11_fillOrderWords 92 = .ok (.iload_n 2, 1) := by decide +kernel
theorem dX11_fillOrderWords_93 : decode cX11_fillOrderWords 93 = .ok (.ifCond .eq 15, 3) := by decide +kernel
theorem dX11_fillOrderWords_96 : decode cX11_fillOrderWords 96 = .ok (.aload_n 0, 1) := by decide +kernel
theorem dX11_fillOrderWords_97 : decode cX11_fillOrderWords 97 = .ok (.getfield 12, 3) := by decide +kernel
theorem dX11_fillOrderWords_100 : decode cX11_fillOrderWords 100 = .ok (.getfield 123, 3) := by decide +kernel
theorem dX11_fillOrderWords_103 : decode cX11_fillOrderWords 103 = .ok (.iload_n 1, 1) := by decide +kernel
theorem dX11_fillOrderWords_104 : decode cX11_fillOrderWords 104 = .ok (.iaload, 1) := by decide +kernel
theorem dX11_fillOrderWords_105 : decode cX11_fillOrderWords 105 = .ok (.goto 4, 3) := by decide +kernel
theorem dX11_fillOrderWords_108 : decode cX11_fillOrderWords 108 = .ok (.iconst (-1), 1) := by decide +kernel
theorem dX11_fillOrderWords_109 : decode cX11_fillOrderWords 109 = .ok (.iastore, 1) := by decide +kernel
theorem dX11_fillOrderWords_110 : decode cX11_fillOrderWords 110 = .ok (.iinc 1 1, 3) := by decide +kernel
theorem dX11_fillOrderWords_113 : decode cX11_fillOrderWords 113 = .ok (.goto (-69), 3) := by decide +kernel
theorem dX11_fillOrderWords_116 : decode cX11_fillOrderWords 116 = .ok (.return_, 1) := by decide +kernel
abbrev mX11_fillOrderWords : zq_M := (cX11_fillOrderWords, RX11, "fillOrderWords", none, 3)
theorem dX11_runDeed_0 : decode cX11_runDeed 0 = .ok (.aload_n 0, 1) := by decide +kernel
theorem dX11_runDeed_1 : decode cX11_runDeed 1 = .ok (.getfield 54, 3) := by decide +kernel
theorem dX11_runDeed_4 : decode cX11_runDeed 4 = .ok (.getfield 360, 3) := by decide +kernel
theorem dX11_runDeed_7 : decode cX11_runDeed 7 = .ok (.astore_n 3, 1) := by decide +kernel
theorem dX11_runDeed_8 : decode cX11_runDeed 8 = .ok (.aload_n 3, 1) := by decide +kernel
theorem dX11_runDeed_9 : decode cX11_runDeed 9 = .ok (.aload_n 1, 1) := by decide +kernel
theorem dX11_runDeed_10 : decode cX11_runDeed 10 = .ok (.aload_n 2, 1) := by decide +kernel
theorem dX11_runDeed_11 : decode cX11_runDeed 11 = .ok (.getfield 377, 3) := by decide +kernel
theorem dX11_runDeed_14 : decode cX11_runDeed 14 = .ok (.aload_n 0, 1) := by decide +kernel
theorem dX11_runDeed_15 : decode cX11_runDeed 15 = .ok (.getfield 79, 3) := by decide +kernel
theorem dX11_runDeed_18 : decode cX11_runDeed 18 = .ok (.iconst 0, 1) := by decide +kernel
theorem dX11_runDeed_19 : decode cX11_runDeed 19 = .ok (.invokevirtual 367, 3) := by decide +kernel
theorem dX11_runDeed_22 : decode cX11_runDeed 22 = .ok (.istore 4, 2) := by decide +kernel
theorem dX11_runDeed_24 : decode cX11_runDeed 24 = .ok (.aload_n 3, 1) := by decide +kernel
theorem dX11_runDeed_25 : decode cX11_runDeed 25 = .ok (.aload_n 1, 1) := by decide +kernel
theorem dX11_runDeed_26 : decode cX11_runDeed 26 = .ok (.aload_n 2, 1) := by decide +kernel
theorem dX11_runDeed_27 : decode cX11_runDeed 27 = .ok (.getfield 380, 3) := by decide +kernel
theorem dX11_runDeed_30 : decode cX11_runDeed 30 = .ok (.aload_n 0, 1) := by decide +kernel
theorem dX11_runDeed_31 : decode cX11_runDeed 31 = .ok (.getfield 79, 3) := by decide +kernel
theorem dX11_runDeed_34 : decode cX11_runDeed 34 = .ok (.iconst 0, 1) := by decide +kernel
theorem dX11_runDeed_35 : decode cX11_runDeed 35 = .ok (.invokevirtual 367, 3) := by decide +kernel
theorem dX11_runDeed_38 : decode cX11_runDeed 38 = .ok (.istore 5, 2) := by decide +kernel
theorem dX11_runDeed_40 : decode cX11_runDeed 40 = .ok (.aload_n 3, 1) := by decide +kernel
theorem dX11_runDeed_41 : decode cX11_runDeed 41 = .ok (.aload_n 1, 1) := by decide +kernel
theorem dX11_runDeed_42 : decode cX11_runDeed 42 = .ok (.aload_n 2, 1) := by decide +kernel
theorem dX11_runDeed_43 : decode cX11_runDeed 43 = .ok (.getfield 383, 3) := by decide +kernel
theorem dX11_runDeed_46 : decode cX11_runDeed 46 = .ok (.aload_n 0, 1) := by decide +kernel
theorem dX11_runDeed_47 : decode cX11_runDeed 47 = .ok (.getfield 79, 3) := by decide +kernel
theorem dX11_runDeed_50 : decode cX11_runDeed 50 = .ok (.iconst 0, 1) := by decide +kernel
theorem dX11_runDeed_51 : decode cX11_runDeed 51 = .ok (.invokevirtual 367, 3) := by decide +kernel
theorem dX11_runDeed_54 : decode cX11_runDeed 54 = .ok (.istore 6, 2) := by decide +kernel
theorem dX11_runDeed_56 : decode cX11_runDeed 56 = .ok (.iload 4, 2) := by decide +kernel
theorem dX11_runDeed_58 : decode cX11_runDeed 58 = .ok (.ldc_w 386, 3) := by decide +kernel
theorem dX11_runDeed_61 : decode cX11_runDeed 61 = .ok (.if_icmp .eq 19, 3) := by decide +kernel
theorem dX11_runDeed_64 : decode cX11_runDeed 64 = .ok (.iload 5, 2) := by decide +kernel
theorem dX11_runDeed_66 : decode cX11_runDeed 66 = .ok (.ldc_w 386, 3) := by decide +kernel
theorem dX11_runDeed_69 : decode cX11_runDeed 69 = .ok (.if_icmp .eq 11, 3) := by decide +kernel
theorem dX11_runDeed_72 : decode cX11_runDeed 72 = .ok (.iload 6, 2) := by decide +kernel
theorem dX11_runDeed_74 : decode cX11_runDeed 74 = .ok (.ldc_w 386, 3) := by decide +kernel
theorem dX11_runDeed_77 : decode cX11_runDeed 77 = .ok (.if_icmp .ne 6, 3) := by decide +kernel
theorem dX11_runDeed_80 : decode cX11_runDeed 80 = .ok (.bipush (-3), 2) := by decide +kernel
theorem dX11_runDeed_82 : decode cX11_runDeed 82 = .ok (.ireturn, 1) := by decide +kernel
theorem dX11_runDeed_83 : decode cX11_runDeed 83 = .ok (.aload_n 2, 1) := by decide +kernel
theorem dX11_runDeed_84 : decode cX11_runDeed 84 = .ok (.getfield 387, 3) := by decide +kernel
theorem dX11_runDeed_87 : decode cX11_runDeed 87 = .ok (.tableswitch 62 0 2 #[25, 48, 55], 25) := by decide +kernel
theorem dX11_runDeed_112 : decode cX11_runDeed 112 = .ok (.aload_n 0, 1) := by decide +kernel
theorem dX11_runDeed_113 : decode cX11_runDeed 113 = .ok (.iload 4, 2) := by decide +kernel
theorem dX11_runDeed_115 : decode cX11_runDeed 115 = .ok (.iload 5, 2) := by decide +kernel
theorem dX11_runDeed_117 : decode cX11_runDeed 117 = .ok (.iload 6, 2) := by decide +kernel
theorem dX11_runDeed_119 : decode cX11_runDeed 119 = .ok (.invokevirtual 222, 3) := by decide +kernel
theorem dX11_runDeed_122 : decode cX11_runDeed 122 = .ok (.istore 7, 2) := by decide +kernel
theorem dX11_runDeed_124 : decode cX11_runDeed 124 = .ok (.aload_n 0, 1) := by decide +kernel
theorem dX11_runDeed_125 : decode cX11_runDeed 125 = .ok (.getfield 79, 3) := by decide +kernel
theorem dX11_runDeed_128 : decode cX11_runDeed 128 = .ok (.iconst 2, 1) := by decide +kernel
theorem dX11_runDeed_129 : decode cX11_runDeed 129 = .ok (.iload 7, 2) := by decide +kernel
theorem dX11_runDeed_131 : decode cX11_runDeed 131 = .ok (.iastore, 1) := by decide +kernel
theorem dX11_runDeed_132 : decode cX11_runDeed 132 = .ok (.iload 7, 2) := by decide +kernel
theorem dX11_runDeed_134 : decode cX11_runDeed 134 = .ok (.ireturn, 1) := by decide +kernel
theorem dX11_runDeed_135 : decode cX11_runDeed 135 = .ok (.aload_n 0, 1) := by decide +kernel
theorem dX11_runDeed_136 : decode cX11_runDeed 136 = .ok (.iload 4, 2) := by decide +kernel
theorem dX11_runDeed_138 : decode cX11_runDeed 138 = .ok (.invokevirtual 229, 3) := by decide +kernel
theorem dX11_runDeed_141 : decode cX11_runDeed 141 = .ok (.ireturn, 1) := by decide +kernel
theorem dX11_runDeed_142 : decode cX11_runDeed 142 = .ok (.aload_n 0, 1) := by decide +kernel
theorem dX11_runDeed_143 : decode cX11_runDeed 143 = .ok (.iload 4, 2) := by decide +kernel
theorem dX11_runDeed_145 : decode cX11_runDeed 145 = .ok (.invokevirtual 232, 3) := by decide +kernel
theorem dX11_runDeed_148 : decode cX11_runDeed 148 = .ok (.ireturn, 1) := by decide +kernel
theorem dX11_runDeed_149 : decode cX11_runDeed 149 = .ok (.aload_n 0, 1) := by decide +kernel
theorem dX11_runDeed_150 : decode cX11_runDeed 150 = .ok (.invokevirtual 235, 3) := by decide +kernel
theorem dX11_runDeed_153 : decode cX11_runDeed 153 = .ok (.ireturn, 1) := by decide +kernel
abbrev mX11_runDeed : zq_M := (cX11_runDeed, RX11, "runDeed", (some .int), 8)
theorem dX11_runClause_0 : decode cX11_runClause 0 = .ok (.aload_n 2, 1) := by decide +kernel
theorem dX11_runClause_1 : decode cX11_runClause 1 = .ok (.ifnonnull 5, 3) := by decide +kernel
theorem dX11_runClause_4 : decode cX11_runClause 4 = .ok (.iconst 0, 1) := by decide +kernel
theorem dX11_runClause_5 : decode cX11_runClause 5 = .ok (.ireturn, 1) := by decide +kernel
theorem dX11_runClause_6 : decode cX11_runClause 6 = .ok (.iconst 0, 1) := by decide +kernel
theorem dX11_runClause_7 : decode cX11_runClause 7 = .ok (.istore_n 3, 1) := by decide +kernel
theorem dX11_runClause_8 : decode cX11_runClause 8 = .ok (.iload_n 3, 1) := by decide +kernel
theorem dX11_runClause_9 : decode cX11_runClause 9 = .ok (.aload_n 2, 1) := by decide +kernel
theorem dX11_runClause_10 : decode cX11_runClause 10 = .ok (.getfield 352, 3) := by decide +kernel
theorem dX11_runClause_13 : decode cX11_runClause 13 = .ok (.if_icmp .ge 58, 3) := by decide +kernel
theorem dX11_runClause_16 : decode cX11_runClause 16 = .ok (.aload_n 0, 1) := by decide +kernel
theorem dX11_runClause_17 : decode cX11_runClause 17 = .ok (.invokevirtual 357, 3) := by decide +kernel
theorem dX11_runClause_20 : decode cX11_runClause 20 = .ok (.aload_n 0, 1) := by decide +kernel
theorem dX11_runClause_21 : decode cX11_runClause 21 = .ok (.getfield 54, 3) := by decide +kernel
theorem dX11_runClause_24 : decode cX11_runClause 24 = .ok (.getfield 360, 3) := by decide +kernel
theorem dX11_runClause_27 : decode cX11_runClause 27 = .ok (.aload_n 1, 1) := by decide +kernel
theorem dX11_runClause_28 : decode cX11_runClause 28 = .ok (.aload_n 2, 1) := by decide +kernel
theorem dX11_runClause_29 : decode cX11_runClause 29 = .ok (.getfield 364, 3) := by decide +kernel
theorem dX11_runClause_32 : decode cX11_runClause 32 = .ok (.aload_n 0, 1) := by decide +kernel
theorem dX11_runClause_33 : decode cX11_runClause 33 = .ok (.getfield 79, 3) := by decide +kernel
theorem dX11_runClause_36 : decode cX11_runClause 36 = .ok (.iconst 1, 1) := by decide +kernel
theorem dX11_runClause_37 : decode cX11_runClause 37 = .ok (.invokevirtual 367, 3) := by decide +kernel
theorem dX11_runClause_40 : decode cX11_runClause 40 = .ok (.iconst 1, 1) := by decide +kernel
theorem dX11_runClause_41 : decode cX11_runClause 41 = .ok (.if_icmp .ne 24, 3) := by decide +kernel
theorem dX11_runClause_44 : decode cX11_runClause 44 = .ok (.aload_n 0, 1) := by decide +kernel
theorem dX11_runClause_45 : decode cX11_runClause 45 = .ok (.aload_n 1, 1) := by decide +kernel
theorem dX11_runClause_46 : decode cX11_runClause 46 = .ok (.aload_n 2, 1) := by decide +kernel
theorem dX11_runClause_47 : decode cX11_runClause 47 = .ok (.invokevirtual 373, 3) := by decide +kernel
theorem dX11_runClause_50 : decode cX11_runClause 50 = .ok (.ifCond .ge 5, 3) := by decide +kernel
theorem dX11_runClause_53 : decode cX11_runClause 53 = .ok (.iconst 0, 1) := by decide +kernel
theorem dX11_runClause_54 : decode cX11_runClause 54 = .ok (.ireturn, 1) := by decide +kernel
theorem dX11_runClause_55 : decode cX11_runClause 55 = .ok (.aload_n 0, 1) := by decide +kernel
theorem dX11_runClause_56 : decode cX11_runClause 56 = .ok (.getfield 79, 3) := by decide +kernel
theorem dX11_runClause_59 : decode cX11_runClause 59 = .ok (.iconst 1, 1) := by decide +kernel
theorem dX11_runClause_60 : decode cX11_runClause 60 = .ok (.dup2, 1) := by decide +kernel
theorem dX11_runClause_61 : decode cX11_runClause 61 = .ok (.iaload, 1) := by decide +kernel
theorem dX11_runClause_62 : decode cX11_runClause 62 = .ok (.iconst 1, 1) := by decide +kernel
theorem dX11_runClause_63 : decode cX11_runClause 63 = .ok (.iadd, 1) := by decide +kernel
theorem dX11_runClause_64 : decode cX11_runClause 64 = .ok (.iastore, 1) := by decide +kernel
theorem dX11_runClause_65 : decode cX11_runClause 65 = .ok (.iinc 3 1, 3) := by decide +kernel
theorem dX11_runClause_68 : decode cX11_runClause 68 = .ok (.goto (-60), 3) := by decide +kernel
theorem dX11_runClause_71 : decode cX11_runClause 71 = .ok (.iconst 1, 1) := by decide +kernel
theorem dX11_runClause_72 : decode cX11_runClause 72 = .ok (.ireturn, 1) := by decide +kernel
abbrev mX11_runClause : zq_M := (cX11_runClause, RX11, "runClause", (some .boolean), 4)
/-- alike but for what orders change -/
def zOf (κ' κ : zl_S) : Prop := (∀ o, o ≠ 9 → o ≠ 43 → κ'.1 o = κ.1 o) ∧ (∀ a, ¬ (10 ≤ a ∧ a ≤ 18) → a ≠ 44 → a ≠ 54 → a ≠ 55 → a ≠ 68 → κ'.2.1 a = κ.2.1 a) ∧ κ'.2.2 = κ.2.2
theorem zOf_r (κ : zl_S) : zOf κ κ := ⟨fun _ _ _ => rfl, fun _ _ _ _ _ _ => rfl, rfl⟩
theorem zOf_t {κ1 κ2 κ : zl_S} (h : zOf κ1 κ2) (g : zOf κ2 κ) : zOf κ1 κ := ⟨fun o h1 h2 => (h.1 o h1 h2).trans (g.1 o h1 h2), fun a h1 h2 h3 h4 h5 => (h.2.1 a h1 h2 h3 h4 h5).trans (g.2.1 a h1 h2 h3 h4 h5), h.2.2.trans g.2.2⟩
theorem zOf_d {κ' κ : zl_S} (h : zDf κ' κ) : zOf κ' κ := ⟨h.1, fun a h1 h2 h3 h4 _ => h.2.1 a h1 h2 h3 h4, h.2.2⟩
theorem zOf_8 {κ' κ : zl_S} {g : Nat → Int32} (h : zOf κ' κ) : zOf (zl_sA κ' 68 g) κ := ⟨h.1, fun a h1 h2 h3 h4 h5 => (zlA_o _ h5 _).trans (h.2.1 a h1 h2 h3 h4 h5), h.2.2⟩
theorem zOf_4 {κ' κ : zl_S} {g : Nat → Int32} (h : zOf κ' κ) : zOf (zl_sA κ' 54 g) κ := ⟨h.1, fun a h1 h2 h3 h4 h5 => (zlA_o _ h3 _).trans (h.2.1 a h1 h2 h3 h4 h5), h.2.2⟩
section ZK27
variable {l : Launch} {G : zq_G} {D n n' b : Nat} {κ κ' : zl_S} {σ τ : zm_S} {ρ ρ' : Nat → zq_E} {K K' : Nat → Int32} {m hn t z : Nat} {Ls : Nat → List zLC} {Λ Λ' : List Nat} {post : Option Value → Nat → (Nat → zq_E) → Prop}
theorem zCI_8 {g : Nat → Int32} (h : zCI κ ρ n K m hn t Ls Λ) : zCI (zl_sA κ 68 g) ρ n K m hn t Ls Λ := ⟨h.1, zQc_f h.2.1 rfl (fun c h1 h9 => zlA_o _ (by omega) _) rfl, h.2.2.1, h.2.2.2.1, by rw [zlA_o _ (by decide)]; exact h.2.2.2.2⟩
theorem zCI_4 {g : Nat → Int32} (h : zCI κ ρ n K m hn t Ls Λ) : zCI (zl_sA κ 54 g) ρ n K m hn t Ls Λ := ⟨h.1, zQc_f h.2.1 rfl (fun c h1 h9 => zlA_o _ (by omega) _) rfl, h.2.2.1, h.2.2.2.1, by rw [zlA_o _ (by decide)]; exact h.2.2.2.2⟩
/-- the words of orders so far: i people of seven -/
def zWo (κ : zl_S) (K : Nat → Int32) (m i : Nat) (g : Nat → Int32) : Prop := g 0 = K 19 ∧ g 1 = κ.2.1 68 1 ∧ g 2 = κ.2.1 68 2 ∧ g 3 = zfind (zbk (zrkK K) (zX1 K) (zW1 K)) (-1) (m - 1) 0 0 ∧ g 4 = nI (zswO (zrkK K) (zX1 K) (zW1 K) m m 0 0) ∧ ∀ k, k < i → g (5 + k) = (if k < m then nI (zW1 K k) else -1) ∧ g (12 + k) = (if k < m then nI (zX1 K k) else -1)
theorem zc_fw_loop (hD : 2 ≤ D) (h : zCI κ ρ n K m hn t Ls Λ) (hp : ∀ g, zWo κ K m 7 g → post none n (zl_h (zl_sA κ 68 g) ρ')) :
    ∀ f i g, i + f = 7 → zWo κ K m i g → zq_At l G (zq_rm D 0 0) mX11_fillOrderWords (zq_QF G post 0 0) 44 [(0, .ref 8), (1, .int (nI i))] [] n (zl_h (zl_sA κ 68 g) ρ') 0 0 := by
  intro f
  induction f with
  | zero =>
    intro i g hi hg
    obtain rfl : i = 7 := hi
    have hp := hp g hg
    refine at_iload_n dX11_fillOrderWords_44 rfl ?_
    refine at_bipush dX11_fillOrderWords_45 (v := nI 7) (by decide) ?_
    refine at_geN (tgt := 116) dX11_fillOrderWords_47 (by decide) (by omega) (by omega) (fun c47 => ?_) (fun c47 => ?_)
    · refine at_vret dX11_fillOrderWords_116 rfl (by omega) (by omega) ?_
      exact hp
    · omega
  | succ f ih =>
    intro i g hi hg
    have hCI := zCI_8 (g := g) h
    have hm7 := h.1.1.2.1
    have hN := zQc_N hCI.2.1 h.1
    obtain ⟨a0, a1, a2, a3, a4, a5⟩ := hg
    have hn := fun (x y : Int32) (hx : x = if i < m then nI (zW1 K i) else -1) (hy : y = if i < m then nI (zX1 K i) else -1) => ih (i + 1) (upd (upd g (5 + i) x) (12 + i) y) (by omega) ⟨by rw [upd_o _ (by omega), upd_o _ (by omega)]; exact a0, by rw [upd_o _ (by omega), upd_o _ (by omega)]; exact a1, by rw [upd_o _ (by omega), upd_o _ (by omega)]; exact a2, by rw [upd_o _ (by omega), upd_o _ (by omega)]; exact a3, by rw [upd_o _ (by omega), upd_o _ (by omega)]; exact a4, fun k hk => by
      by_cases e : k = i
      · rw [e]
        exact ⟨by rw [upd_o _ (by omega), upd_s]; exact hx, by rw [upd_s]; exact hy⟩
      · rw [upd_o _ (by omega), upd_o _ (by omega), upd_o _ (by omega), upd_o _ (by omega)]
        exact a5 k (by omega)⟩
    by_cases him : i < m
    · have hn := hn (nI (zW1 K i)) (nI (zX1 K i)) (if_pos him).symm (if_pos him).symm
      refine at_iload_n dX11_fillOrderWords_44 rfl ?_
      refine at_bipush dX11_fillOrderWords_45 (v := nI 7) (by decide) ?_
      refine at_geN (tgt := 116) dX11_fillOrderWords_47 (by decide) (by omega) (by omega) (fun c47 => ?_) (fun c47 => ?_)
      · omega
      · refine at_aload_n dX11_fillOrderWords_50 rfl ?_
        refine at_get dX11_fillOrderWords_51 fl_X11_12 (zl_o rfl) rfl ?_
        refine at_iload_n dX11_fillOrderWords_54 rfl ?_
        refine at_callV1 (d := D - 1) dX11_fillOrderWords_55 mv_X11_120 (zl_q zQ9) (Nat.le_of_ble_eq_true rfl) (zq_r0 (by omega) (by omega) (by omega)) ?_
        refine zc_has zQ9 hCI.2.1.1.1 hm7 ?_
        rw [zix_n (by omega), decide_eq_true him]
        refine at_istore_n dX11_fillOrderWords_58 rfl (by decide) ?_
        refine at_aload_n dX11_fillOrderWords_59 rfl ?_
        refine at_get dX11_fillOrderWords_60 fl_X11_79 (zl_o rfl) rfl ?_
        refine at_iconst dX11_fillOrderWords_63 (v := nI 5) (by decide) ?_
        refine at_iload_n dX11_fillOrderWords_64 rfl ?_
        refine at_iaddN dX11_fillOrderWords_65 ?_
        refine at_iload_n dX11_fillOrderWords_66 rfl ?_
        refine at_if_eqB (tgt := 82) dX11_fillOrderWords_67 (by decide) (fun c67 => ?_) (fun c67 => ?_)
        · cases c67
        · refine at_aload_n dX11_fillOrderWords_70 rfl ?_
          refine at_get dX11_fillOrderWords_71 fl_X11_12 (zl_o rfl) rfl ?_
          refine at_get dX11_fillOrderWords_74 fl_X11_141 (zl_q zQ9) rfl ?_
          refine at_iload_n dX11_fillOrderWords_77 rfl ?_
          refine at_uld (b := 9) (c := 2) dX11_fillOrderWords_78 zQ9 (by decide) (by decide) rfl (by show _ < 7; omega) ?_
          refine at_goto (tgt := 83) dX11_fillOrderWords_79 (by decide) ?_
          rw [show (zl_sA κ 68 g).2.1 (9 + 2) i = nI (zW1 K i) from (hN.2.2.2 i him).1]
          refine at_last2 (a := 68) dX11_fillOrderWords_83 rfl rfl (by show _ < 19; omega) (by decide) ?_
          rw [zlA_a]
          refine at_aload_n dX11_fillOrderWords_84 rfl ?_
          refine at_get dX11_fillOrderWords_85 fl_X11_79 (zl_o rfl) rfl ?_
          refine at_bipush dX11_fillOrderWords_88 (v := nI 12) (by decide) ?_
          refine at_iload_n dX11_fillOrderWords_90 rfl ?_
          refine at_iaddN dX11_fillOrderWords_91 ?_
          refine at_iload_n dX11_fillOrderWords_92 rfl ?_
          refine at_if_eqB (tgt := 108) dX11_fillOrderWords_93 (by decide) (fun c93 => ?_) (fun c93 => ?_)
          · cases c93
          · refine at_aload_n dX11_fillOrderWords_96 rfl ?_
            refine at_get dX11_fillOrderWords_97 fl_X11_12 (zl_o rfl) rfl ?_
            refine at_get dX11_fillOrderWords_100 fl_X11_123 (zl_q zQ9) rfl ?_
            refine at_iload_n dX11_fillOrderWords_103 rfl ?_
            refine at_uld (b := 9) (c := 1) dX11_fillOrderWords_104 zQ9 (by decide) (by decide) rfl (by show _ < 7; omega) ?_
            refine at_goto (tgt := 109) dX11_fillOrderWords_105 (by decide) ?_
            rw [show (zl_sA κ 68 (upd g (5 + i) (nI (zW1 K i)))).2.1 (9 + 1) i = nI (zX1 K i) from (hN.2.2.1 i him).1]
            refine at_last2 (a := 68) dX11_fillOrderWords_109 rfl rfl (by show _ < 19; omega) (by decide) ?_
            rw [zlA_a]
            refine at_iincN dX11_fillOrderWords_110 rfl (by decide) ?_
            refine at_goto (tgt := 44) dX11_fillOrderWords_113 (by decide) ?_
            exact at_lv [0, 1] hn
    · have hn := hn (-1) (-1) (if_neg him).symm (if_neg him).symm
      refine at_iload_n dX11_fillOrderWords_44 rfl ?_
      refine at_bipush dX11_fillOrderWords_45 (v := nI 7) (by decide) ?_
      refine at_geN (tgt := 116) dX11_fillOrderWords_47 (by decide) (by omega) (by omega) (fun c47 => ?_) (fun c47 => ?_)
      · omega
      · refine at_aload_n dX11_fillOrderWords_50 rfl ?_
        refine at_get dX11_fillOrderWords_51 fl_X11_12 (zl_o rfl) rfl ?_
        refine at_iload_n dX11_fillOrderWords_54 rfl ?_
        refine at_callV1 (d := D - 1) dX11_fillOrderWords_55 mv_X11_120 (zl_q zQ9) (Nat.le_of_ble_eq_true rfl) (zq_r0 (by omega) (by omega) (by omega)) ?_
        refine zc_has zQ9 hCI.2.1.1.1 hm7 ?_
        rw [zix_n (by omega), decide_eq_false him]
        refine at_istore_n dX11_fillOrderWords_58 rfl (by decide) ?_
        refine at_aload_n dX11_fillOrderWords_59 rfl ?_
        refine at_get dX11_fillOrderWords_60 fl_X11_79 (zl_o rfl) rfl ?_
        refine at_iconst dX11_fillOrderWords_63 (v := nI 5) (by decide) ?_
        refine at_iload_n dX11_fillOrderWords_64 rfl ?_
        refine at_iaddN dX11_fillOrderWords_65 ?_
        refine at_iload_n dX11_fillOrderWords_66 rfl ?_
        refine at_if_eqB (tgt := 82) dX11_fillOrderWords_67 (by decide) (fun c67 => ?_) (fun c67 => ?_)
        · refine at_iconst dX11_fillOrderWords_82 (v := -1) rfl ?_
          refine at_last2 (a := 68) dX11_fillOrderWords_83 rfl rfl (by show _ < 19; omega) (by decide) ?_
          rw [zlA_a]
          refine at_aload_n dX11_fillOrderWords_84 rfl ?_
          refine at_get dX11_fillOrderWords_85 fl_X11_79 (zl_o rfl) rfl ?_
          refine at_bipush dX11_fillOrderWords_88 (v := nI 12) (by decide) ?_
          refine at_iload_n dX11_fillOrderWords_90 rfl ?_
          refine at_iaddN dX11_fillOrderWords_91 ?_
          refine at_iload_n dX11_fillOrderWords_92 rfl ?_
          refine at_if_eqB (tgt := 108) dX11_fillOrderWords_93 (by decide) (fun c93 => ?_) (fun c93 => ?_)
          · refine at_iconst dX11_fillOrderWords_108 (v := -1) rfl ?_
            refine at_last2 (a := 68) dX11_fillOrderWords_109 rfl rfl (by show _ < 19; omega) (by decide) ?_
            rw [zlA_a]
            refine at_iincN dX11_fillOrderWords_110 rfl (by decide) ?_
            refine at_goto (tgt := 44) dX11_fillOrderWords_113 (by decide) ?_
            exact at_lv [0, 1] hn
          · cases c93
        · cases c67
theorem zc_fillOrderWords (hD : 6 ≤ D) (h : zCI κ ρ n K m hn t Ls Λ) (hp : ∀ g, zWo κ K m 7 g → post none n (zl_h (zl_sA κ 68 g) ρ')) : zq_Runs l G D 0 0 yX11_fillOrderWords [.ref 8] n (zl_h κ ρ') post := by
  have hl := zc_fw_loop (l := l) (G := G) (D := D) (n := n) (ρ' := ρ') (post := post) (by omega) h hp 7 0
  have e0 : κ.2.1 (9 + 7) 0 = K 19 := h.2.1.2.2.2.2.2.2.2.1.1
  have q1 : ∀ g, zQc (zl_sA κ 68 g) ρ n 9 K m hn t Ls := fun g => (zCI_8 h).2.1
  refine zq_enter (cc := cX11_fillOrderWords) (nL := 3) (ret := none) cw_X11_fillOrderWords (by decide) rfl (Nat.le_of_ble_eq_true rfl) ?_
  rw [← zlA_0 κ 68]
  refine at_aload_n dX11_fillOrderWords_0 rfl ?_
  refine at_get dX11_fillOrderWords_1 fl_X11_79 (zl_o rfl) rfl ?_
  refine at_iconst dX11_fillOrderWords_4 (v := nI 0) (by decide) ?_
  refine at_aload_n dX11_fillOrderWords_5 rfl ?_
  refine at_get dX11_fillOrderWords_6 fl_X11_12 (zl_o rfl) rfl ?_
  refine at_get dX11_fillOrderWords_9 fl_X11_172 (zl_q zQ9) rfl ?_
  refine at_iconst dX11_fillOrderWords_12 (v := nI 0) (by decide) ?_
  refine at_uld (b := 9) (c := 7) dX11_fillOrderWords_13 zQ9 (by decide) (by decide) rfl (by show _ < 3; omega) ?_
  rw [show (zl_sA κ 68 (κ.2.1 68)).2.1 (9 + 7) 0 = K 19 by rw [zlA_0]; exact e0]
  refine at_last2 (a := 68) dX11_fillOrderWords_14 rfl rfl (by show _ < 19; omega) (by decide) ?_
  rw [zlA_a]
  refine at_aload_n dX11_fillOrderWords_15 rfl ?_
  refine at_get dX11_fillOrderWords_16 fl_X11_79 (zl_o rfl) rfl ?_
  refine at_iconst dX11_fillOrderWords_19 (v := nI 3) (by decide) ?_
  refine at_aload_n dX11_fillOrderWords_20 rfl ?_
  refine at_get dX11_fillOrderWords_21 fl_X11_12 (zl_o rfl) rfl ?_
  refine at_iconst dX11_fillOrderWords_24 (v := -1) rfl ?_
  refine at_callV1 (d := D - 1) dX11_fillOrderWords_25 mv_X11_273 (zl_q zQ9) (Nat.le_of_ble_eq_true rfl) (zq_r0 (by omega) (by omega) (by omega)) ?_
  refine zc_breakAt (by omega) zQ9 (zQc_N (q1 _) h.1) (zQc_O (q1 _) h.1) ?_
  refine at_last2 (a := 68) dX11_fillOrderWords_28 rfl rfl (by show _ < 19; omega) (by decide) ?_
  rw [zlA_a]
  refine at_aload_n dX11_fillOrderWords_29 rfl ?_
  refine at_get dX11_fillOrderWords_30 fl_X11_79 (zl_o rfl) rfl ?_
  refine at_iconst dX11_fillOrderWords_33 (v := nI 4) (by decide) ?_
  refine at_aload_n dX11_fillOrderWords_34 rfl ?_
  refine at_get dX11_fillOrderWords_35 fl_X11_12 (zl_o rfl) rfl ?_
  refine at_callV0 (d := D - 1) dX11_fillOrderWords_38 mv_X11_276 (zl_q zQ9) (Nat.le_of_ble_eq_true rfl) (zq_r0 (by omega) (by omega) (by omega)) ?_
  refine zc_inversions (by omega) zQ9 (zQc_N (q1 _) h.1) (zQc_O (q1 _) h.1) ?_
  refine at_last2 (a := 68) dX11_fillOrderWords_41 rfl rfl (by show _ < 19; omega) (by decide) ?_
  rw [zlA_a]
  refine at_iconst dX11_fillOrderWords_42 (v := nI 0) (by decide) ?_
  refine at_istore_n dX11_fillOrderWords_43 rfl (by decide) ?_
  refine at_lv [0, 1] (hl _ rfl ⟨?_, ?_, ?_, ?_, ?_, fun k hk => absurd hk (Nat.not_lt_zero _)⟩)
  · rw [upd_o _ (by decide), upd_o _ (by decide), upd_s]
  · rw [upd_o _ (by decide), upd_o _ (by decide), upd_o _ (by decide)]
  · rw [upd_o _ (by decide), upd_o _ (by decide), upd_o _ (by decide)]
  · rw [upd_o _ (by decide), upd_s]
  · rw [upd_s]
end ZK27
/-- the class while orders run -/
def zRC (κ : zl_S) (ρ : Nat → zq_E) (n m hn t : Nat) (Ls : Nat → List zLC) (S : zRS) : Prop := zCI κ ρ n S.1 m hn t Ls S.2.1 ∧ κ.2.1 68 1 = nI S.2.2.1 ∧ κ.2.1 68 2 = zI S.2.2.2 ∧ S.2.2.1 ≤ 100000 ∧ -1 ≤ S.2.2.2 ∧ S.2.2.2 ≤ 99

