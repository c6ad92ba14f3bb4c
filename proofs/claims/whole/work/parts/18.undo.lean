/-! ===== the Model: what is kept to be undone; back ===== -/
theorem zsi_sa (σ : zm_S) (k : Nat) (v : Int32) (a i : Nat) (z : Int32) : zm_sa (zm_si σ k v) a i z = zm_si (zm_sa σ a i z) k v := rfl
theorem zsi_sA (σ : zm_S) (k : Nat) (v : Int32) (a : Nat) (g : Nat → Int32) : zsA (zm_si σ k v) a g = zm_si (zsA σ a g) k v := rfl
theorem zsi_s (σ : zm_S) (k : Nat) (v : Int32) : (zm_si σ k v).1 k = v := by simp [zm_si, upd]
theorem zsi_o (σ : zm_S) {k j : Nat} (h : j ≠ k) (v : Int32) : (zm_si σ k v).1 j = σ.1 j := by simp [zm_si, upd, h]
theorem zsi_si (σ : zm_S) (k : Nat) (v v' : Int32) : zm_si (zm_si σ k v) k v' = zm_si σ k v' := by
  show (upd (upd σ.1 k v) k v', σ.2) = (upd σ.1 k v', σ.2)
  congr 1
  funext j
  by_cases h : j = k <;> simp [upd, h]
theorem zsi_2 (σ : zm_S) (k : Nat) (v : Int32) : (zm_si σ k v).2 = σ.2 := rfl
theorem dX12_swapsNow_0 : decode cX12_swapsNow 0 = .ok (.aload_n 0, 1) := by decide +kernel
theorem dX12_swapsNow_1 : decode cX12_swapsNow 1 = .ok (.getfield 42, 3) := by decide +kernel
theorem dX12_swapsNow_4 : decode cX12_swapsNow 4 = .ok (.bipush 7, 2) := by decide +kernel
theorem dX12_swapsNow_6 : decode cX12_swapsNow 6 = .ok (.iload_n 1, 1) := by decide +kernel
theorem dX12_swapsNow_7 : decode cX12_swapsNow 7 = .ok (.iadd, 1) := by decide +kernel
theorem dX12_swapsNow_8 : decode cX12_swapsNow 8 = .ok (.iaload, 1) := by decide +kernel
theorem dX12_swapsNow_9 : decode cX12_swapsNow 9 = .ok (.istore_n 2, 1) := by decide +kernel
theorem dX12_swapsNow_10 : decode cX12_swapsNow 10 = .ok (.aload_n 0, 1) := by decide +kernel
theorem dX12_swapsNow_11 : decode cX12_swapsNow 11 = .ok (.getfield 42, 3) := by decide +kernel
theorem dX12_swapsNow_14 : decode cX12_swapsNow 14 = .ok (.bipush 7, 2) := by decide +kernel
theorem dX12_swapsNow_16 : decode cX12_swapsNow 16 = .ok (.iload_n 1, 1) := by decide +kernel
theorem dX12_swapsNow_17 : decode cX12_swapsNow 17 = .ok (.iadd, 1) := by decide +kernel
theorem dX12_swapsNow_18 : decode cX12_swapsNow 18 = .ok (.aload_n 0, 1) := by decide +kernel
theorem dX12_swapsNow_19 : decode cX12_swapsNow 19 = .ok (.getfield 42, 3) := by decide +kernel
theorem dX12_swapsNow_22 : decode cX12_swapsNow 22 = .ok (.bipush 7, 2) := by decide +kernel
theorem dX12_swapsNow_24 : decode cX12_swapsNow 24 = .ok (.iload_n 1, 1) := by decide +kernel
theorem dX12_swapsNow_25 : decode cX12_swapsNow 25 = .ok (.iadd, 1) := by decide +kernel
theorem dX12_swapsNow_26 : decode cX12_swapsNow 26 = .ok (.iconst 1, 1) := by decide +kernel
theorem dX12_swapsNow_27 : decode cX12_swapsNow 27 = .ok (.iadd, 1) := by decide +kernel
theorem dX12_swapsNow_28 : decode cX12_swapsNow 28 = .ok (.iaload, 1) := by decide +kernel
theorem dX12_swapsNow_29 : decode cX12_swapsNow 29 = .ok (.iastore, 1) := by decide +kernel
theorem dX12_swapsNow_30 : decode cX12_swapsNow 30 = .ok (.aload_n 0, 1) := by decide +kernel
theorem dX12_swapsNow_31 : decode cX12_swapsNow 31 = .ok (.getfield 42, 3) := by decide +kernel
theorem dX12_swapsNow_34 : decode cX12_swapsNow 34 = .ok (.bipush 7, 2) := by decide +kernel
theorem dX12_swapsNow_36 : decode cX12_swapsNow 36 = .ok (.iload_n 1, 1) := by decide +kernel
theorem dX12_swapsNow_37 : decode cX12_swapsNow 37 = .ok (.iadd, 1) := by decide +kernel
theorem dX12_swapsNow_38 : decode cX12_swapsNow 38 = .ok (.iconst 1, 1) := by decide +kernel
theorem dX12_swapsNow_39 : decode cX12_swapsNow 39 = .ok (.iadd, 1) := by decide +kernel
theorem dX12_swapsNow_40 : decode cX12_swapsNow 40 = .ok (.iload_n 2, 1) := by decide +kernel
theorem dX12_swapsNow_41 : decode cX12_swapsNow 41 = .ok (.iastore, 1) := by decide +kernel
theorem dX12_swapsNow_42 : decode cX12_swapsNow 42 = .ok (.return_, 1) := by decide +kernel
abbrev mX12_swapsNow : zq_M := (cX12_swapsNow, RX12, "swapsNow", none, 3)
theorem dX12_keeps_0 : decode cX12_keeps 0 = .ok (.bipush 21, 2) := by decide +kernel
theorem dX12_keeps_2 : decode cX12_keeps 2 = .ok (.istore_n 2, 1) := by decide +kernel
theorem dX12_keeps_3 : decode cX12_keeps 3 = .ok (.aload_n 0, 1) := by decide +kernel
theorem dX12_keeps_4 : decode cX12_keeps 4 = .ok (.getfield 11, 3) := by decide +kernel
theorem dX12_keeps_7 : decode cX12_keeps 7 = .ok (.bipush 16, 2) := by decide +kernel
theorem dX12_keeps_9 : decode cX12_keeps 9 = .ok (.if_icmp .ne 43, 3) := by decide +kernel
theorem dX12_keeps_12 : decode cX12_keeps 12 = .ok (.iconst 0, 1) := by decide +kernel
theorem dX12_keeps_13 : decode cX12_keeps 13 = .ok (.istore_n 3, 1) := by decide +kernel
theorem dX12_keeps_14 : decode cX12_keeps 14 = .ok (.iload_n 3, 1) := by decide +kernel
theorem dX12_keeps_15 : decode cX12_keeps 15 = .ok (.bipush 15, 2) := by decide +kernel
theorem dX12_keeps_17 : decode cX12_keeps 17 = .ok (.iload_n 2, 1) := by decide +kernel
theorem dX12_keeps_18 : decode cX12_keeps 18 = .ok (.imul, 1) := by decide +kernel
theorem dX12_keeps_19 : decode cX12_keeps 19 = .ok (.if_icmp .ge 23, 3) := by decide +kernel
theorem dX12_keeps_22 : decode cX12_keeps 22 = .ok (.aload_n 0, 1) := by decide +kernel
theorem dX12_keeps_23 : decode cX12_keeps 23 = .ok (.getfield 114, 3) := by decide +kernel
theorem dX12_keeps_26 : decode cX12_keeps 26 = .ok (.iload_n 3, 1) := by decide +kernel
theorem dX12_keeps_27 : decode cX12_keeps 27 = .ok (.aload_n 0, 1) := by decide +kernel
theorem dX12_keeps_28 : decode cX12_keeps 28 = .ok (.getfield 114, 3) := by decide +kernel
theorem dX12_keeps_31 : decode cX12_keeps 31 = .ok (.iload_n 3, 1) := by decide +kernel
theorem dX12_keeps_32 : decode cX12_keeps 32 = .ok (.iload_n 2, 1) := by decide +kernel
theorem dX12_keeps_33 : decode cX12_keeps 33 = .ok (.iadd, 1) := by decide +kernel
theorem dX12_keeps_34 : decode cX12_keeps 34 = .ok (.iaload, 1) := by decide +kernel
theorem dX12_keeps_35 : decode cX12_keeps 35 = .ok (.iastore, 1) := by decide +kernel
theorem dX12_keeps_36 : decode cX12_keeps 36 = .ok (.iinc 3 1, 3) := by decide +kernel
theorem dX12_keeps_39 : decode cX12_keeps 39 = .ok (.goto (-25), 3) := by decide +kernel
theorem dX12_keeps_42 : decode cX12_keeps 42 = .ok (.aload_n 0, 1) := by decide +kernel
theorem dX12_keeps_43 : decode cX12_keeps 43 = .ok (.dup, 1) := by decide +kernel
theorem dX12_keeps_44 : decode cX12_keeps 44 = .ok (.getfield 11, 3) := by decide +kernel
theorem dX12_keeps_47 : decode cX12_keeps 47 = .ok (.iconst 1, 1) := by decide +kernel
theorem dX12_keeps_48 : decode cX12_keeps 48 = .ok (.isub, 1) := by decide +kernel
theorem dX12_keeps_49 : decode cX12_keeps 49 = .ok (.putfield 11, 3) := by decide +kernel
theorem dX12_keeps_52 : decode cX12_keeps 52 = .ok (.iconst 0, 1) := by decide +kernel
theorem dX12_keeps_53 : decode cX12_keeps 53 = .ok (.istore_n 3, 1) := by decide +kernel
theorem dX12_keeps_54 : decode cX12_keeps 54 = .ok (.iload_n 3, 1) := by decide +kernel
theorem dX12_keeps_55 : decode cX12_keeps 55 = .ok (.bipush 20, 2) := by decide +kernel
theorem dX12_keeps_57 : decode cX12_keeps 57 = .ok (.if_icmp .ge 28, 3) := by decide +kernel
theorem dX12_keeps_60 : decode cX12_keeps 60 = .ok (.aload_n 0, 1) := by decide +kernel
theorem dX12_keeps_61 : decode cX12_keeps 61 = .ok (.getfield 114, 3) := by decide +kernel
theorem dX12_keeps_64 : decode cX12_keeps 64 = .ok (.iload_n 2, 1) := by decide +kernel
theorem dX12_keeps_65 : decode cX12_keeps 65 = .ok (.aload_n 0, 1) := by decide +kernel
theorem dX12_keeps_66 : decode cX12_keeps 66 = .ok (.getfield 11, 3) := by decide +kernel
theorem dX12_keeps_69 : decode cX12_keeps 69 = .ok (.imul, 1) := by decide +kernel
theorem dX12_keeps_70 : decode cX12_keeps 70 = .ok (.iload_n 3, 1) := by decide +kernel
theorem dX12_keeps_71 : decode cX12_keeps 71 = .ok (.iadd, 1) := by decide +kernel
theorem dX12_keeps_72 : decode cX12_keeps 72 = .ok (.aload_n 0, 1) := by decide +kernel
theorem dX12_keeps_73 : decode cX12_keeps 73 = .ok (.getfield 42, 3) := by decide +kernel
theorem dX12_keeps_76 : decode cX12_keeps 76 = .ok (.iload_n 3, 1) := by decide +kernel
theorem dX12_keeps_77 : decode cX12_keeps 77 = .ok (.iaload, 1) := by decide +kernel
theorem dX12_keeps_78 : decode cX12_keeps 78 = .ok (.iastore, 1) := by decide +kernel
theorem dX12_keeps_79 : decode cX12_keeps 79 = .ok (.iinc 3 1, 3) := by decide +kernel
theorem dX12_keeps_82 : decode cX12_keeps 82 = .ok (.goto (-28), 3) := by decide +kernel
theorem dX12_keeps_85 : decode cX12_keeps 85 = .ok (.aload_n 0, 1) := by decide +kernel
theorem dX12_keeps_86 : decode cX12_keeps 86 = .ok (.getfield 114, 3) := by decide +kernel
theorem dX12_keeps_89 : decode cX12_keeps 89 = .ok (.iload_n 2, 1) := by decide +kernel
theorem dX12_keeps_90 : decode cX12_keeps 90 = .ok (.aload_n 0, 1) := by decide +kernel
theorem dX12_keeps_91 : decode cX12_keeps 91 = .ok (.getfield 11, 3) := by decide +kernel
theorem dX12_keeps_94 : decode cX12_keeps 94 = .ok (.imul, 1) := by decide +kernel
theorem dX12_keeps_95 : decode cX12_keeps 95 = .ok (.bipush 20, 2) := by decide +kernel
theorem dX12_keeps_97 : decode cX12_keeps 97 = .ok (.iadd, 1) := by decide +kernel
theorem dX12_keeps_98 : decode cX12_keeps 98 = .ok (.iload_n 1, 1) := by decide +kernel
theorem dX12_keeps_99 : decode cX12_keeps 99 = .ok (.iastore, 1) := by decide +kernel
theorem dX12_keeps_100 : decode cX12_keeps 100 = .ok (.aload_n 0, 1) := by decide +kernel
theorem dX12_keeps_101 : decode cX12_keeps 101 = .ok (.dup, 1) := by decide +kernel
theorem dX12_keeps_102 : decode cX12_keeps 102 = .ok (.getfield 11, 3) := by decide +kernel
theorem dX12_keeps_105 : decode cX12_keeps 105 = .ok (.iconst 1, 1) := by decide +kernel
theorem dX12_keeps_106 : decode cX12_keeps 106 = .ok (.iadd, 1) := by decide +kernel
theorem dX12_keeps_107 : decode cX12_keeps 107 = .ok (.putfield 11, 3) := by decide +kernel
theorem dX12_keeps_110 : decode cX12_keeps 110 = .ok (.return_, 1) := by decide +kernel
abbrev mX12_keeps : zq_M := (cX12_keeps, RX12, "keeps", none, 4)
theorem dX12_undo_0 : decode cX12_undo 0 = .ok (.aload_n 0, 1) := by decide +kernel
theorem dX12_undo_1 : decode cX12_undo 1 = .ok (.getfield 11, 3) := by decide +kernel
theorem dX12_undo_4 : decode cX12_undo 4 = .ok (.ifCond .ne 10, 3) := by decide +kernel
theorem dX12_undo_7 : decode cX12_undo 7 = .ok (.aload_n 0, 1) := by decide +kernel
theorem dX12_undo_8 : decode cX12_undo 8 = .ok (.bipush (-3), 2) := by decide +kernel
theorem dX12_undo_10 : decode cX12_undo 10 = .ok (.invokevirtual 135, 3) := by decide +kernel
theorem dX12_undo_13 : decode cX12_undo 13 = .ok (.ireturn, 1) := by decide +kernel
theorem dX12_undo_14 : decode cX12_undo 14 = .ok (.aload_n 0, 1) := by decide +kernel
theorem dX12_undo_15 : decode cX12_undo 15 = .ok (.dup, 1) := by decide +kernel
theorem dX12_undo_16 : decode cX12_undo 16 = .ok (.getfield 11, 3) := by decide +kernel
theorem dX12_undo_19 : decode cX12_undo 19 = .ok (.iconst 1, 1) := by decide +kernel
theorem dX12_undo_20 : decode cX12_undo 20 = .ok (.isub, 1) := by decide +kernel
theorem dX12_undo_21 : decode cX12_undo 21 = .ok (.putfield 11, 3) := by decide +kernel
theorem dX12_undo_24 : decode cX12_undo 24 = .ok (.bipush 21, 2) := by decide +kernel
theorem dX12_undo_26 : decode cX12_undo 26 = .ok (.aload_n 0, 1) := by decide +kernel
theorem dX12_undo_27 : decode cX12_undo 27 = .ok (.getfield 11, 3) := by decide +kernel
theorem dX12_undo_30 : decode cX12_undo 30 = .ok (.imul, 1) := by decide +kernel
theorem dX12_undo_31 : decode cX12_undo 31 = .ok (.istore_n 1, 1) := by decide +kernel
theorem dX12_undo_32 : decode cX12_undo 32 = .ok (.iconst 0, 1) := by decide +kernel
theorem dX12_undo_33 : decode cX12_undo 33 = .ok (.istore_n 2, 1) := by decide +kernel
theorem dX12_undo_34 : decode cX12_undo 34 = .ok (.iload_n 2, 1) := by decide +kernel
theorem dX12_undo_35 : decode cX12_undo 35 = .ok (.bipush 20, 2) := by decide +kernel
theorem dX12_undo_37 : decode cX12_undo 37 = .ok (.if_icmp .ge 23, 3) := by decide +kernel
theorem dX12_undo_40 : decode cX12_undo 40 = .ok (.aload_n 0, 1) := by decide +kernel
theorem dX12_undo_41 : decode cX12_undo 41 = .ok (.getfield 42, 3) := by decide +kernel
theorem dX12_undo_44 : decode cX12_undo 44 = .ok (.iload_n 2, 1) := by decide +kernel
theorem dX12_undo_45 : decode cX12_undo 45 = .ok (.aload_n 0, 1) := by decide +kernel
theorem dX12_undo_46 : decode cX12_undo 46 = .ok (.getfield 114, 3) := by decide +kernel
theorem dX12_undo_49 : decode cX12_undo 49 = .ok (.iload_n 1, 1) := by decide +kernel
theorem dX12_undo_50 : decode cX12_undo 50 = .ok (.iload_n 2, 1) := by decide +kernel
theorem dX12_undo_51 : decode cX12_undo 51 = .ok (.iadd, 1) := by decide +kernel
theorem dX12_undo_52 : decode cX12_undo 52 = .ok (.iaload, 1) := by decide +kernel
theorem dX12_undo_53 : decode cX12_undo 53 = .ok (.iastore, 1) := by decide +kernel
theorem dX12_undo_54 : decode cX12_undo 54 = .ok (.iinc 2 1, 3) := by decide +kernel
theorem dX12_undo_57 : decode cX12_undo 57 = .ok (.goto (-23), 3) := by decide +kernel
theorem dX12_undo_60 : decode cX12_undo 60 = .ok (.aload_n 0, 1) := by decide +kernel
theorem dX12_undo_61 : decode cX12_undo 61 = .ok (.invokevirtual 132, 3) := by decide +kernel
theorem dX12_undo_64 : decode cX12_undo 64 = .ok (.aload_n 0, 1) := by decide +kernel
theorem dX12_undo_65 : decode cX12_undo 65 = .ok (.aload_n 0, 1) := by decide +kernel
theorem dX12_undo_66 : decode cX12_undo 66 = .ok (.getfield 114, 3) := by decide +kernel
theorem dX12_undo_69 : decode cX12_undo 69 = .ok (.iload_n 1, 1) := by decide +kernel
theorem dX12_undo_70 : decode cX12_undo 70 = .ok (.bipush 20, 2) := by decide +kernel
theorem dX12_undo_72 : decode cX12_undo 72 = .ok (.iadd, 1) := by decide +kernel
theorem dX12_undo_73 : decode cX12_undo 73 = .ok (.iaload, 1) := by decide +kernel
theorem dX12_undo_74 : decode cX12_undo 74 = .ok (.invokevirtual 14, 3) := by decide +kernel
theorem dX12_undo_77 : decode cX12_undo 77 = .ok (.ireturn, 1) := by decide +kernel
abbrev mX12_undo : zq_M := (cX12_undo, RX12, "undo", (some .int), 3)
theorem dX12_goodOr_0 : decode cX12_goodOr 0 = .ok (.iload_n 1, 1) := by decide +kernel
theorem dX12_goodOr_1 : decode cX12_goodOr 1 = .ok (.ifCond .ge 11, 3) := by decide +kernel
theorem dX12_goodOr_4 : decode cX12_goodOr 4 = .ok (.aload_n 0, 1) := by decide +kernel
theorem dX12_goodOr_5 : decode cX12_goodOr 5 = .ok (.iload_n 1, 1) := by decide +kernel
theorem dX12_goodOr_6 : decode cX12_goodOr 6 = .ok (.invokevirtual 135, 3) := by decide +kernel
theorem dX12_goodOr_9 : decode cX12_goodOr 9 = .ok (.goto 8, 3) := by decide +kernel
theorem dX12_goodOr_12 : decode cX12_goodOr 12 = .ok (.aload_n 0, 1) := by decide +kernel
theorem dX12_goodOr_13 : decode cX12_goodOr 13 = .ok (.iload_n 1, 1) := by decide +kernel
theorem dX12_goodOr_14 : decode cX12_goodOr 14 = .ok (.invokevirtual 14, 3) := by decide +kernel
theorem dX12_goodOr_17 : decode cX12_goodOr 17 = .ok (.ireturn, 1) := by decide +kernel
abbrev mX12_goodOr : zq_M := (cX12_goodOr, RX12, "goodOr", (some .int), 2)
theorem dX12_passesKept_0 : decode cX12_passesKept 0 = .ok (.aload_n 0, 1) := by decide +kernel
theorem dX12_passesKept_1 : decode cX12_passesKept 1 = .ok (.getfield 42, 3) := by decide +kernel
theorem dX12_passesKept_4 : decode cX12_passesKept 4 = .ok (.bipush 19, 2) := by decide +kernel
theorem dX12_passesKept_6 : decode cX12_passesKept 6 = .ok (.iaload, 1) := by decide +kernel
theorem dX12_passesKept_7 : decode cX12_passesKept 7 = .ok (.sipush 999, 3) := by decide +kernel
theorem dX12_passesKept_10 : decode cX12_passesKept 10 = .ok (.if_icmp .ne 6, 3) := by decide +kernel
theorem dX12_passesKept_13 : decode cX12_passesKept 13 = .ok (.bipush (-3), 2) := by decide +kernel
theorem dX12_passesKept_15 : decode cX12_passesKept 15 = .ok (.ireturn, 1) := by decide +kernel
theorem dX12_passesKept_16 : decode cX12_passesKept 16 = .ok (.aload_n 0, 1) := by decide +kernel
theorem dX12_passesKept_17 : decode cX12_passesKept 17 = .ok (.iconst 3, 1) := by decide +kernel
theorem dX12_passesKept_18 : decode cX12_passesKept 18 = .ok (.invokevirtual 452, 3) := by decide +kernel
theorem dX12_passesKept_21 : decode cX12_passesKept 21 = .ok (.aload_n 0, 1) := by decide +kernel
theorem dX12_passesKept_22 : decode cX12_passesKept 22 = .ok (.getfield 42, 3) := by decide +kernel
theorem dX12_passesKept_25 : decode cX12_passesKept 25 = .ok (.bipush 19, 2) := by decide +kernel
theorem dX12_passesKept_27 : decode cX12_passesKept 27 = .ok (.dup2, 1) := by decide +kernel
theorem dX12_passesKept_28 : decode cX12_passesKept 28 = .ok (.iaload, 1) := by decide +kernel
theorem dX12_passesKept_29 : decode cX12_passesKept 29 = .ok (.iconst 1, 1) := by decide +kernel
theorem dX12_passesKept_30 : decode cX12_passesKept 30 = .ok (.iadd, 1) := by decide +kernel
theorem dX12_passesKept_31 : decode cX12_passesKept 31 = .ok (.iastore, 1) := by decide +kernel
theorem dX12_passesKept_32 : decode cX12_passesKept 32 = .ok (.aload_n 0, 1) := by decide +kernel
theorem dX12_passesKept_33 : decode cX12_passesKept 33 = .ok (.getfield 42, 3) := by decide +kernel
theorem dX12_passesKept_36 : decode cX12_passesKept 36 = .ok (.bipush 19, 2) := by decide +kernel
theorem dX12_passesKept_38 : decode cX12_passesKept 38 = .ok (.iaload, 1) := by decide +kernel
theorem dX12_passesKept_39 : decode cX12_passesKept 39 = .ok (.ireturn, 1) := by decide +kernel
abbrev mX12_passesKept : zq_M := (cX12_passesKept, RX12, "passesKept", (some .int), 1)
theorem dX12_decreesKept_0 : decode cX12_decreesKept 0 = .ok (.iload_n 1, 1) := by decide +kernel
theorem dX12_decreesKept_1 : decode cX12_decreesKept 1 = .ok (.iconst 0, 1) := by decide +kernel
theorem dX12_decreesKept_2 : decode cX12_decreesKept 2 = .ok (.iconst 3, 1) := by decide +kernel
theorem dX12_decreesKept_3 : decode cX12_decreesKept 3 = .ok (.invokestatic 18, 3) := by decide +kernel
theorem dX12_decreesKept_6 : decode cX12_decreesKept 6 = .ok (.ifCond .ne 5, 3) := by decide +kernel
theorem dX12_decreesKept_9 : decode cX12_decreesKept 9 = .ok (.iconst (-1), 1) := by decide +kernel
theorem dX12_decreesKept_10 : decode cX12_decreesKept 10 = .ok (.ireturn, 1) := by decide +kernel
theorem dX12_decreesKept_11 : decode cX12_decreesKept 11 = .ok (.aload_n 0, 1) := by decide +kernel
theorem dX12_decreesKept_12 : decode cX12_decreesKept 12 = .ok (.iconst 2, 1) := by decide +kernel
theorem dX12_decreesKept_13 : decode cX12_decreesKept 13 = .ok (.invokevirtual 452, 3) := by decide +kernel
theorem dX12_decreesKept_16 : decode cX12_decreesKept 16 = .ok (.aload_n 0, 1) := by decide +kernel
theorem dX12_decreesKept_17 : decode cX12_decreesKept 17 = .ok (.getfield 42, 3) := by decide +kernel
theorem dX12_decreesKept_20 : decode cX12_decreesKept 20 = .ok (.bipush 14, 2) := by decide +kernel
theorem dX12_decreesKept_22 : decode cX12_decreesKept 22 = .ok (.iload_n 1, 1) := by decide +kernel
theorem dX12_decreesKept_23 : decode cX12_decreesKept 23 = .ok (.iadd, 1) := by decide +kernel
theorem dX12_decreesKept_24 : decode cX12_decreesKept 24 = .ok (.iaload, 1) := by decide +kernel
theorem dX12_decreesKept_25 : decode cX12_decreesKept 25 = .ok (.istore_n 2, 1) := by decide +kernel
theorem dX12_decreesKept_26 : decode cX12_decreesKept 26 = .ok (.aload_n 0, 1) := by decide +kernel
theorem dX12_decreesKept_27 : decode cX12_decreesKept 27 = .ok (.getfield 42, 3) := by decide +kernel
theorem dX12_decreesKept_30 : decode cX12_decreesKept 30 = .ok (.bipush 14, 2) := by decide +kernel
theorem dX12_decreesKept_32 : decode cX12_decreesKept 32 = .ok (.iload_n 1, 1) := by decide +kernel
theorem dX12_decreesKept_33 : decode cX12_decreesKept 33 = .ok (.iadd, 1) := by decide +kernel
theorem dX12_decreesKept_34 : decode cX12_decreesKept 34 = .ok (.aload_n 0, 1) := by decide +kernel
theorem dX12_decreesKept_35 : decode cX12_decreesKept 35 = .ok (.getfield 42, 3) := by decide +kernel
theorem dX12_decreesKept_38 : decode cX12_decreesKept 38 = .ok (.bipush 14, 2) := by decide +kernel
theorem dX12_decreesKept_40 : decode cX12_decreesKept 40 = .ok (.iload_n 1, 1) := by decide +kernel
theorem dX12_decreesKept_41 : decode cX12_decreesKept 41 = .ok (.iadd, 1) := by decide +kernel
theorem dX12_decreesKept_42 : decode cX12_decreesKept 42 = .ok (.iconst 1, 1) := by decide +kernel
theorem dX12_decreesKept_43 : decode cX12_decreesKept 43 = .ok (.iadd, 1) := by decide +kernel
theorem dX12_decreesKept_44 : decode cX12_decreesKept 44 = .ok (.iaload, 1) := by decide +kernel
theorem dX12_decreesKept_45 : decode cX12_decreesKept 45 = .ok (.iastore, 1) := by decide +kernel
theorem dX12_decreesKept_46 : decode cX12_decreesKept 46 = .ok (.aload_n 0, 1) := by decide +kernel
theorem dX12_decreesKept_47 : decode cX12_decreesKept 47 = .ok (.getfield 42, 3) := by decide +kernel
theorem dX12_decreesKept_50 : decode cX12_decreesKept 50 = .ok (.bipush 14, 2) := by decide +kernel
theorem dX12_decreesKept_52 : decode cX12_decreesKept 52 = .ok (.iload_n 1, 1) := by decide +kernel
theorem dX12_decreesKept_53 : decode cX12_decreesKept 53 = .ok (.iadd, 1) := by decide +kernel
theorem dX12_decreesKept_54 : decode cX12_decreesKept 54 = .ok (.iconst 1, 1) := by decide +kernel
theorem dX12_decreesKept_55 : decode cX12_decreesKept 55 = .ok (.iadd, 1) := by decide +kernel
theorem dX12_decreesKept_56 : decode cX12_decreesKept 56 = .ok (.iload_n 2, 1) := by decide +kernel
theorem dX12_decreesKept_57 : decode cX12_decreesKept 57 = .ok (.iastore, 1) := by decide +kernel
theorem dX12_decreesKept_58 : decode cX12_decreesKept 58 = .ok (.aload_n 0, 1) := by decide +kernel
theorem dX12_decreesKept_59 : decode cX12_decreesKept 59 = .ok (.invokevirtual 132, 3) := by decide +kernel
theorem dX12_decreesKept_62 : decode cX12_decreesKept 62 = .ok (.aload_n 0, 1) := by decide +kernel
theorem dX12_decreesKept_63 : decode cX12_decreesKept 63 = .ok (.invokevirtual 461, 3) := by decide +kernel
theorem dX12_decreesKept_66 : decode cX12_decreesKept 66 = .ok (.ireturn, 1) := by decide +kernel
abbrev mX12_decreesKept : zq_M := (cX12_decreesKept, RX12, "decreesKept", (some .int), 3)
theorem dX12_misprints_0 : decode cX12_misprints 0 = .ok (.aload_n 0, 1) := by decide +kernel
theorem dX12_misprints_1 : decode cX12_misprints 1 = .ok (.getfield 178, 3) := by decide +kernel
theorem dX12_misprints_4 : decode cX12_misprints 4 = .ok (.ireturn, 1) := by decide +kernel
abbrev mX12_misprints : zq_M := (cX12_misprints, RX12, "misprints", (some .int), 1)
theorem dX12_fault_0 : decode cX12_fault 0 = .ok (.aload_n 0, 1) := by decide +kernel
theorem dX12_fault_1 : decode cX12_fault 1 = .ok (.getfield 68, 3) := by decide +kernel
theorem dX12_fault_4 : decode cX12_fault 4 = .ok (.ireturn, 1) := by decide +kernel
abbrev mX12_fault : zq_M := (cX12_fault, RX12, "fault", (some .int), 1)
theorem dX12_stopped_0 : decode cX12_stopped 0 = .ok (.aload_n 0, 1) := by decide +kernel
theorem dX12_stopped_1 : decode cX12_stopped 1 = .ok (.getfield 120, 3) := by decide +kernel
theorem dX12_stopped_4 : decode cX12_stopped 4 = .ok (.ireturn, 1) := by decide +kernel
abbrev mX12_stopped : zq_M := (cX12_stopped, RX12, "stopped", (some .int), 1)
theorem dX12_status_0 : decode cX12_status 0 = .ok (.aload_n 0, 1) := by decide +kernel
theorem dX12_status_1 : decode cX12_status 1 = .ok (.getfield 3, 3) := by decide +kernel
theorem dX12_status_4 : decode cX12_status 4 = .ok (.ireturn, 1) := by decide +kernel
abbrev mX12_status : zq_M := (cX12_status, RX12, "status", (some .int), 1)
theorem dX12_pass_0 : decode cX12_pass 0 = .ok (.aload_n 0, 1) := by decide +kernel
theorem dX12_pass_1 : decode cX12_pass 1 = .ok (.aload_n 0, 1) := by decide +kernel
theorem dX12_pass_2 : decode cX12_pass 2 = .ok (.invokevirtual 476, 3) := by decide +kernel
theorem dX12_pass_5 : decode cX12_pass 5 = .ok (.invokevirtual 467, 3) := by decide +kernel
theorem dX12_pass_8 : decode cX12_pass 8 = .ok (.ireturn, 1) := by decide +kernel
abbrev mX12_pass : zq_M := (cX12_pass, RX12, "pass", (some .int), 1)
theorem dX12_decree_0 : decode cX12_decree 0 = .ok (.aload_n 0, 1) := by decide +kernel
theorem dX12_decree_1 : decode cX12_decree 1 = .ok (.aload_n 0, 1) := by decide +kernel
theorem dX12_decree_2 : decode cX12_decree 2 = .ok (.iload_n 1, 1) := by decide +kernel
theorem dX12_decree_3 : decode cX12_decree 3 = .ok (.invokevirtual 473, 3) := by decide +kernel
theorem dX12_decree_6 : decode cX12_decree 6 = .ok (.invokevirtual 467, 3) := by decide +kernel
theorem dX12_decree_9 : decode cX12_decree 9 = .ok (.ireturn, 1) := by decide +kernel
abbrev mX12_decree : zq_M := (cX12_decree, RX12, "decree", (some .int), 2)
section ZL9
variable {l : Launch} {G : zq_G} {D n m : Nat} {σ : zm_S} {ρ : Nat → zq_E} {post : Option Value → Nat → (Nat → zq_E) → Prop} {al : Nat → Nat}
theorem zm_misprints (hp : post (some (.int (σ.1 7))) n (zm_h σ ρ)) : zq_Runs l G D 0 0 yX12_misprints [.ref 70] n (zm_h σ ρ) post := by
  refine zq_enter (cc := cX12_misprints) (nL := 1) (ret := (some .int)) cw_X12_misprints (by decide) rfl (Nat.le_of_ble_eq_true rfl) ?_
  refine at_aload_n dX12_misprints_0 rfl ?_
  refine at_get dX12_misprints_1 fl_X12_178 rfl rfl ?_
  refine at_iret dX12_misprints_4 rfl (by omega) (by omega) ?_
  exact hp
theorem zm_fault (hp : post (some (.int (σ.1 15))) n (zm_h σ ρ)) : zq_Runs l G D 0 0 yX12_fault [.ref 70] n (zm_h σ ρ) post := by
  refine zq_enter (cc := cX12_fault) (nL := 1) (ret := (some .int)) cw_X12_fault (by decide) rfl (Nat.le_of_ble_eq_true rfl) ?_
  refine at_aload_n dX12_fault_0 rfl ?_
  refine at_get dX12_fault_1 fl_X12_68 rfl rfl ?_
  refine at_iret dX12_fault_4 rfl (by omega) (by omega) ?_
  exact hp
theorem zm_stopped (hp : post (some (.int (σ.1 45))) n (zm_h σ ρ)) : zq_Runs l G D 0 0 yX12_stopped [.ref 70] n (zm_h σ ρ) post := by
  refine zq_enter (cc := cX12_stopped) (nL := 1) (ret := (some .int)) cw_X12_stopped (by decide) rfl (Nat.le_of_ble_eq_true rfl) ?_
  refine at_aload_n dX12_stopped_0 rfl ?_
  refine at_get dX12_stopped_1 fl_X12_120 rfl rfl ?_
  refine at_iret dX12_stopped_4 rfl (by omega) (by omega) ?_
  exact hp
theorem zm_status (hp : post (some (.int (σ.1 0))) n (zm_h σ ρ)) : zq_Runs l G D 0 0 yX12_status [.ref 70] n (zm_h σ ρ) post := by
  refine zq_enter (cc := cX12_status) (nL := 1) (ret := (some .int)) cw_X12_status (by decide) rfl (Nat.le_of_ble_eq_true rfl) ?_
  refine at_aload_n dX12_status_0 rfl ?_
  refine at_get dX12_status_1 fl_X12_3 rfl rfl ?_
  refine at_iret dX12_status_4 rfl (by omega) (by omega) ?_
  exact hp
theorem zm_swapsNow {k : Nat} (hk : k < 6) (hp : post none n (zm_h (zsK σ (upd (upd (σ.2.1 72) (7 + k) (σ.2.1 72 (7 + k + 1))) (7 + k + 1) (σ.2.1 72 (7 + k)))) ρ)) : zq_Runs l G D 0 0 yX12_swapsNow [.ref 70, .int (nI k)] n (zm_h σ ρ) post := by
  refine zq_enter (cc := cX12_swapsNow) (nL := 3) (ret := none) cw_X12_swapsNow (by decide) rfl (Nat.le_of_ble_eq_true rfl) ?_
  refine at_aload_n dX12_swapsNow_0 rfl ?_
  refine at_get dX12_swapsNow_1 fl_X12_42 rfl rfl ?_
  refine at_bipush dX12_swapsNow_4 (v := nI 7) (by decide) ?_
  refine at_iload_n dX12_swapsNow_6 rfl ?_
  refine at_iaddN dX12_swapsNow_7 ?_
  refine at_mald (a := 72) dX12_swapsNow_8 (by decide) (by decide) (by decide) (by decide) rfl rfl (by show _ < 5684; omega) (by decide) ?_
  refine at_istore_n dX12_swapsNow_9 rfl (by decide) ?_
  refine at_aload_n dX12_swapsNow_10 rfl ?_
  refine at_get dX12_swapsNow_11 fl_X12_42 rfl rfl ?_
  refine at_bipush dX12_swapsNow_14 (v := nI 7) (by decide) ?_
  refine at_iload_n dX12_swapsNow_16 rfl ?_
  refine at_iaddN dX12_swapsNow_17 ?_
  refine at_aload_n dX12_swapsNow_18 rfl ?_
  refine at_get dX12_swapsNow_19 fl_X12_42 rfl rfl ?_
  refine at_bipush dX12_swapsNow_22 (v := nI 7) (by decide) ?_
  refine at_iload_n dX12_swapsNow_24 rfl ?_
  refine at_iaddN dX12_swapsNow_25 ?_
  refine at_iconst dX12_swapsNow_26 (v := nI 1) (by decide) ?_
  refine at_iaddN dX12_swapsNow_27 ?_
  refine at_mald (a := 72) dX12_swapsNow_28 (by decide) (by decide) (by decide) (by decide) rfl rfl (by show _ < 5684; omega) (by decide) ?_
  refine at_mast (a := 72) dX12_swapsNow_29 (by decide) (by decide) (by decide) (by decide) rfl rfl (by show _ < 5684; omega) (by decide) ?_
  rw [zsK_s]
  refine at_aload_n dX12_swapsNow_30 rfl ?_
  refine at_get dX12_swapsNow_31 fl_X12_42 rfl rfl ?_
  refine at_bipush dX12_swapsNow_34 (v := nI 7) (by decide) ?_
  refine at_iload_n dX12_swapsNow_36 rfl ?_
  refine at_iaddN dX12_swapsNow_37 ?_
  refine at_iconst dX12_swapsNow_38 (v := nI 1) (by decide) ?_
  refine at_iaddN dX12_swapsNow_39 ?_
  refine at_iload_n dX12_swapsNow_40 rfl ?_
  refine at_mast (a := 72) dX12_swapsNow_41 (by decide) (by decide) (by decide) (by decide) rfl rfl (by show _ < 5684; omega) (by decide) ?_
  rw [zsK_a]
  refine at_vret dX12_swapsNow_42 rfl (by omega) (by omega) ?_
  exact hp
theorem zm_goodOr_n {j : Nat} (hD : 1 ≤ D) (h0 : 0 < j) (hj : j < 7) (hp : post (some (.int (-(nI j)))) n (zm_h (zref σ j) ρ)) : zq_Runs l G D 0 0 yX12_goodOr [.ref 70, .int (-(nI j))] n (zm_h σ ρ) post := by
  have hneg : ¬ (0 : Int32) ≤ -(nI j) := by
    rcases (show j = 1 ∨ j = 2 ∨ j = 3 ∨ j = 4 ∨ j = 5 ∨ j = 6 by omega) with rfl | rfl | rfl | rfl | rfl | rfl <;> decide
  refine zq_enter (cc := cX12_goodOr) (nL := 2) (ret := (some .int)) cw_X12_goodOr (by decide) rfl (Nat.le_of_ble_eq_true rfl) ?_
  refine at_iload_n dX12_goodOr_0 rfl ?_
  refine at_if_ge (tgt := 12) dX12_goodOr_1 (by decide) (fun c1 => ?_) (fun c1 => ?_)
  · exact absurd c1 hneg
  · refine at_aload_n dX12_goodOr_4 rfl ?_
    refine at_iload_n dX12_goodOr_5 rfl ?_
    refine at_callV1 (d := D - 1) dX12_goodOr_6 mv_X12_135 rfl (Nat.le_of_ble_eq_true rfl) (zq_r0 (by omega) (by omega) (by omega)) ?_
    refine zm_ref hj ?_
    refine at_goto (tgt := 17) dX12_goodOr_9 (by decide) ?_
    refine at_iret dX12_goodOr_17 rfl (by omega) (by omega) ?_
    exact hp
theorem zm_goodOr_p {v : Int32} (hD : 1 ≤ D) (h0 : 0 ≤ v) (hp : post (some (.int v)) n (zm_h (zm_si σ 0 0) ρ)) : zq_Runs l G D 0 0 yX12_goodOr [.ref 70, .int v] n (zm_h σ ρ) post := by
  refine zq_enter (cc := cX12_goodOr) (nL := 2) (ret := (some .int)) cw_X12_goodOr (by decide) rfl (Nat.le_of_ble_eq_true rfl) ?_
  refine at_iload_n dX12_goodOr_0 rfl ?_
  refine at_if_ge (tgt := 12) dX12_goodOr_1 (by decide) (fun c1 => ?_) (fun c1 => ?_)
  · refine at_aload_n dX12_goodOr_12 rfl ?_
    refine at_iload_n dX12_goodOr_13 rfl ?_
    refine at_callV1 (d := D - 1) dX12_goodOr_14 mv_X12_14 rfl (Nat.le_of_ble_eq_true rfl) (zq_r0 (by omega) (by omega) (by omega)) ?_
    refine zm_good ?_
    refine at_iret dX12_goodOr_17 rfl (by omega) (by omega) ?_
    exact hp
  · exact absurd h0 c1
/-- the rows that are kept: all move up by one when there are sixteen -/
theorem zm_keeps_1 {v : Int32} {L : Nat → Int32} (hk : ∀ L' : Nat → Int32, (∀ j, j < 315 → L' j = L (j + 21)) → zq_At l G (zq_rm D 0 0) mX12_keeps (zq_QF G post 0 0) 42 [(0, .ref 70), (1, .int v), (2, .int (nI 21)), (3, .int (nI 315))] [] n (zm_h (zsA σ 94 L') ρ) 0 0) : ∀ (k i : Nat) (A : Nat → Int32), i + k = 315 → (∀ j, j < i → A j = L (j + 21)) → (∀ j, i ≤ j → A j = L j) → zq_At l G (zq_rm D 0 0) mX12_keeps (zq_QF G post 0 0) 14 [(0, .ref 70), (1, .int v), (2, .int (nI 21)), (3, .int (nI i))] [] n (zm_h (zsA σ 94 A) ρ) 0 0 := by
  intro k
  induction k with
  | zero =>
    intro i A hi h1 h2
    obtain rfl : i = 315 := hi
    refine at_iload_n dX12_keeps_14 rfl ?_
    refine at_bipush dX12_keeps_15 (v := nI 15) (by decide) ?_
    refine at_iload_n dX12_keeps_17 rfl ?_
    refine at_imulN dX12_keeps_18 ?_
    refine at_geN (tgt := 42) dX12_keeps_19 (by decide) (by omega) (by omega) (fun c19 => ?_) (fun c19 => ?_)
    · exact hk A h1
    · omega
  | succ k ih =>
    intro i A hi h1 h2
    refine at_iload_n dX12_keeps_14 rfl ?_
    refine at_bipush dX12_keeps_15 (v := nI 15) (by decide) ?_
    refine at_iload_n dX12_keeps_17 rfl ?_
    refine at_imulN dX12_keeps_18 ?_
    refine at_geN (tgt := 42) dX12_keeps_19 (by decide) (by omega) (by omega) (fun c19 => ?_) (fun c19 => ?_)
    · omega
    · refine at_aload_n dX12_keeps_22 rfl ?_
      refine at_get dX12_keeps_23 fl_X12_114 rfl rfl ?_
      refine at_iload_n dX12_keeps_26 rfl ?_
      refine at_aload_n dX12_keeps_27 rfl ?_
      refine at_get dX12_keeps_28 fl_X12_114 rfl rfl ?_
      refine at_iload_n dX12_keeps_31 rfl ?_
      refine at_iload_n dX12_keeps_32 rfl ?_
      refine at_iaddN dX12_keeps_33 ?_
      refine at_mald (a := 94) dX12_keeps_34 (by decide) (by decide) (by decide) (by decide) rfl rfl (by show _ < 336; omega) (by decide) ?_
      rw [zsA_s]
      refine at_mast (a := 94) dX12_keeps_35 (by decide) (by decide) (by decide) (by decide) rfl rfl (by show _ < 336; omega) (by decide) ?_
      rw [zsA_a]
      refine at_iincN dX12_keeps_36 rfl (by decide) ?_
      refine at_goto (tgt := 14) dX12_keeps_39 (by decide) ?_
      refine ih (i + 1) _ (by omega) (fun j hj => ?_) (fun j hj => ?_)
      · by_cases e : j = i
        · subst e; rw [upd_s]; exact h2 _ (by omega)
        · rw [upd_o _ e]; exact h1 j (by omega)
      · rw [upd_o _ (by omega)]; exact h2 j (by omega)
theorem zm_keeps_2 {v : Int32} {u : Nat} (hu : u < 16) {L : Nat → Int32} (h44 : σ.1 44 = nI u) (hk : ∀ L' : Nat → Int32, (∀ j, j < 21 * u → L' j = L j) → (∀ j, j < 20 → L' (21 * u + j) = σ.2.1 72 j) → L' (21 * u + 20) = v → post none n (zm_h (zm_si (zsA σ 94 L') 44 (nI (u + 1))) ρ)) : ∀ (k i : Nat) (A : Nat → Int32), i + k = 20 → (∀ j, j < 21 * u → A j = L j) → (∀ j, j < i → A (21 * u + j) = σ.2.1 72 j) → zq_At l G (zq_rm D 0 0) mX12_keeps (zq_QF G post 0 0) 54 [(0, .ref 70), (1, .int v), (2, .int (nI 21)), (3, .int (nI i))] [] n (zm_h (zsA σ 94 A) ρ) 0 0 := by
  intro k
  have e44 : ∀ A, (zsA σ 94 A).1 44 = nI u := fun _ => h44
  induction k with
  | zero =>
    intro i A hi h1 h2
    obtain rfl : i = 20 := hi
    refine at_iload_n dX12_keeps_54 rfl ?_
    refine at_bipush dX12_keeps_55 (v := nI 20) (by decide) ?_
    refine at_geN (tgt := 85) dX12_keeps_57 (by decide) (by omega) (by omega) (fun c57 => ?_) (fun c57 => ?_)
    · refine at_aload_n dX12_keeps_85 rfl ?_
      refine at_get dX12_keeps_86 fl_X12_114 rfl rfl ?_
      refine at_iload_n dX12_keeps_89 rfl ?_
      refine at_aload_n dX12_keeps_90 rfl ?_
      refine at_get dX12_keeps_91 fl_X12_11 rfl rfl ?_
      rw [e44]
      refine at_imulN dX12_keeps_94 ?_
      refine at_bipush dX12_keeps_95 (v := nI 20) (by decide) ?_
      refine at_iaddN dX12_keeps_97 ?_
      refine at_iload_n dX12_keeps_98 rfl ?_
      refine at_mast (a := 94) dX12_keeps_99 (by decide) (by decide) (by decide) (by decide) rfl rfl (by show _ < 336; omega) (by decide) ?_
      rw [zsA_a]
      refine at_aload_n dX12_keeps_100 rfl ?_
      refine at_dup dX12_keeps_101 rfl ?_
      refine at_get dX12_keeps_102 fl_X12_11 rfl rfl ?_
      rw [e44]
      refine at_iconst dX12_keeps_105 (v := nI 1) (by decide) ?_
      refine at_iaddN dX12_keeps_106 ?_
      refine at_mput dX12_keeps_107 (pl_X12_11 _) (fun _ => ⟨_, rfl⟩) rfl rfl ?_
      refine at_vret dX12_keeps_110 rfl (by omega) (by omega) ?_
      refine hk _ (fun j hj => ?_) (fun j hj => ?_) ?_
      · rw [upd_o _ (by omega)]; exact h1 j hj
      · rw [upd_o _ (by omega)]; exact h2 j hj
      · exact upd_s _ _ _
    · omega
  | succ k ih =>
    intro i A hi h1 h2
    refine at_iload_n dX12_keeps_54 rfl ?_
    refine at_bipush dX12_keeps_55 (v := nI 20) (by decide) ?_
    refine at_geN (tgt := 85) dX12_keeps_57 (by decide) (by omega) (by omega) (fun c57 => ?_) (fun c57 => ?_)
    · omega
    · refine at_aload_n dX12_keeps_60 rfl ?_
      refine at_get dX12_keeps_61 fl_X12_114 rfl rfl ?_
      refine at_iload_n dX12_keeps_64 rfl ?_
      refine at_aload_n dX12_keeps_65 rfl ?_
      refine at_get dX12_keeps_66 fl_X12_11 rfl rfl ?_
      rw [e44]
      refine at_imulN dX12_keeps_69 ?_
      refine at_iload_n dX12_keeps_70 rfl ?_
      refine at_iaddN dX12_keeps_71 ?_
      refine at_aload_n dX12_keeps_72 rfl ?_
      refine at_get dX12_keeps_73 fl_X12_42 rfl rfl ?_
      refine at_iload_n dX12_keeps_76 rfl ?_
      refine at_mald (a := 72) dX12_keeps_77 (by decide) (by decide) (by decide) (by decide) rfl rfl (by show _ < 5684; omega) (by decide) ?_
      rw [zsA_o _ (by decide)]
      refine at_mast (a := 94) dX12_keeps_78 (by decide) (by decide) (by decide) (by decide) rfl rfl (by show _ < 336; omega) (by decide) ?_
      rw [zsA_a]
      refine at_iincN dX12_keeps_79 rfl (by decide) ?_
      refine at_goto (tgt := 54) dX12_keeps_82 (by decide) ?_
      refine ih (i + 1) _ (by omega) (fun j hj => ?_) (fun j hj => ?_)
      · rw [upd_o _ (by omega)]; exact h1 j hj
      · by_cases e : j = i
        · subst e; rw [upd_s]
        · rw [upd_o _ (by omega)]; exact h2 j (by omega)
/-- what is kept behind keeps(): from L by it, with K and the kind v on top; u rows were there -/
def zkp (L : Nat → Int32) (u : Nat) (K : Nat → Int32) (v : Int32) (L' : Nat → Int32) : Prop :=
  (∀ j, j < 21 * (if u = 16 then 15 else u) → L' j = L (if u = 16 then j + 21 else j)) ∧ (∀ j, j < 20 → L' (21 * (if u = 16 then 15 else u) + j) = K j) ∧ L' (21 * (if u = 16 then 15 else u) + 20) = v
theorem zm_keeps {v : Int32} {u : Nat} (hu : u ≤ 16) (h44 : σ.1 44 = nI u) (hp : ∀ L' : Nat → Int32, zkp (σ.2.1 94) u (σ.2.1 72) v L' → post none n (zm_h (zm_si (zsA σ 94 L') 44 (nI ((if u = 16 then 15 else u) + 1))) ρ)) : zq_Runs l G D 0 0 yX12_keeps [.ref 70, .int v] n (zm_h σ ρ) post := by
  refine zq_enter (cc := cX12_keeps) (nL := 4) (ret := none) cw_X12_keeps (by decide) rfl (Nat.le_of_ble_eq_true rfl) ?_
  by_cases h16 : u = 16
  · subst h16
    have h0 := zm_keeps_1 (l := l) (G := G) (D := D) (n := n) (σ := σ) (ρ := ρ) (post := post) (v := v) (L := σ.2.1 94) (fun L' hL' => by
      have h1 := zm_keeps_2 (l := l) (G := G) (D := D) (n := n) (σ := zm_si σ 44 (nI 15)) (ρ := ρ) (post := post) (v := v) (u := 15) (by decide) (L := L') (zsi_s _ _ _) (fun L2 g1 g2 g3 => by
        have := hp L2 ⟨fun j hj => by rw [if_pos rfl] at hj ⊢; rw [g1 j hj, hL' j (by omega)], fun j hj => by rw [if_pos rfl]; exact g2 j hj, by rw [if_pos rfl]; exact g3⟩
        rw [if_pos rfl] at this
        rw [zsi_sA, zsi_si]
        exact this) 20 0 L' rfl (fun _ _ => rfl) (fun j hj => absurd hj (Nat.not_lt_zero _))
      have e44 : (zsA σ 94 L').1 44 = nI 16 := h44
      refine at_aload_n dX12_keeps_42 rfl ?_
      refine at_dup dX12_keeps_43 rfl ?_
      refine at_get dX12_keeps_44 fl_X12_11 rfl rfl ?_
      rw [e44]
      refine at_iconst dX12_keeps_47 (v := nI 1) (by decide) ?_
      refine at_isubN dX12_keeps_48 (by omega) ?_
      refine at_mput dX12_keeps_49 (pl_X12_11 _) (fun _ => ⟨_, rfl⟩) rfl rfl ?_
      rw [← zsi_sA]
      refine at_iconst dX12_keeps_52 (v := nI 0) (by decide) ?_
      refine at_istore_n dX12_keeps_53 rfl (by decide) ?_
      exact h1
      ) 315 0 (σ.2.1 94) rfl (fun j hj => absurd hj (Nat.not_lt_zero _)) (fun _ _ => rfl)
    rw [zsA_0] at h0
    refine at_bipush dX12_keeps_0 (v := nI 21) (by decide) ?_
    refine at_istore_n dX12_keeps_2 rfl (by decide) ?_
    refine at_aload_n dX12_keeps_3 rfl ?_
    refine at_get dX12_keeps_4 fl_X12_11 rfl rfl ?_
    rw [h44]
    refine at_bipush dX12_keeps_7 (v := nI 16) (by decide) ?_
    refine at_neN (tgt := 52) dX12_keeps_9 (by decide) (by omega) (by omega) (fun c9 => ?_) (fun c9 => ?_)
    · omega
    · refine at_iconst dX12_keeps_12 (v := nI 0) (by decide) ?_
      refine at_istore_n dX12_keeps_13 rfl (by decide) ?_
      exact h0
  · have h1 := zm_keeps_2 (l := l) (G := G) (D := D) (n := n) (σ := σ) (ρ := ρ) (post := post) (v := v) (u := u) (by omega) (L := σ.2.1 94) h44 (fun L2 g1 g2 g3 => by
      have := hp L2 ⟨fun j hj => by rw [if_neg h16] at hj ⊢; exact g1 j hj, fun j hj => by rw [if_neg h16]; exact g2 j hj, by rw [if_neg h16]; exact g3⟩
      rw [if_neg h16] at this
      exact this) 20 0 (σ.2.1 94) rfl (fun _ _ => rfl) (fun j hj => absurd hj (Nat.not_lt_zero _))
    rw [zsA_0] at h1
    refine at_bipush dX12_keeps_0 (v := nI 21) (by decide) ?_
    refine at_istore_n dX12_keeps_2 rfl (by decide) ?_
    refine at_aload_n dX12_keeps_3 rfl ?_
    refine at_get dX12_keeps_4 fl_X12_11 rfl rfl ?_
    rw [h44]
    refine at_bipush dX12_keeps_7 (v := nI 16) (by decide) ?_
    refine at_neN (tgt := 52) dX12_keeps_9 (by decide) (by omega) (by omega) (fun c9 => ?_) (fun c9 => ?_)
    · refine at_iconst dX12_keeps_52 (v := nI 0) (by decide) ?_
      refine at_istore_n dX12_keeps_53 rfl (by decide) ?_
      exact h1
    · omega
theorem zm_undo_loop {u : Nat} (hu : u < 16) (hk : ∀ K' : Nat → Int32, (∀ j, j < 20 → K' j = σ.2.1 94 (21 * u + j)) → (∀ j, 20 ≤ j → K' j = σ.2.1 72 j) → zq_At l G (zq_rm D 0 0) mX12_undo (zq_QF G post 0 0) 60 [(0, .ref 70), (1, .int (nI (21 * u))), (2, .int (nI 20))] [] n (zm_h (zsA σ 72 K') ρ) 0 0) : ∀ (k i : Nat) (A : Nat → Int32), i + k = 20 → (∀ j, j < i → A j = σ.2.1 94 (21 * u + j)) → (∀ j, 20 ≤ j → A j = σ.2.1 72 j) → zq_At l G (zq_rm D 0 0) mX12_undo (zq_QF G post 0 0) 34 [(0, .ref 70), (1, .int (nI (21 * u))), (2, .int (nI i))] [] n (zm_h (zsA σ 72 A) ρ) 0 0 := by
  intro k
  induction k with
  | zero =>
    intro i A hi h1 h2
    obtain rfl : i = 20 := hi
    refine at_iload_n dX12_undo_34 rfl ?_
    refine at_bipush dX12_undo_35 (v := nI 20) (by decide) ?_
    refine at_geN (tgt := 60) dX12_undo_37 (by decide) (by omega) (by omega) (fun c37 => ?_) (fun c37 => ?_)
    · exact hk A h1 h2
    · omega
  | succ k ih =>
    intro i A hi h1 h2
    refine at_iload_n dX12_undo_34 rfl ?_
    refine at_bipush dX12_undo_35 (v := nI 20) (by decide) ?_
    refine at_geN (tgt := 60) dX12_undo_37 (by decide) (by omega) (by omega) (fun c37 => ?_) (fun c37 => ?_)
    · omega
    · refine at_aload_n dX12_undo_40 rfl ?_
      refine at_get dX12_undo_41 fl_X12_42 rfl rfl ?_
      refine at_iload_n dX12_undo_44 rfl ?_
      refine at_aload_n dX12_undo_45 rfl ?_
      refine at_get dX12_undo_46 fl_X12_114 rfl rfl ?_
      refine at_iload_n dX12_undo_49 rfl ?_
      refine at_iload_n dX12_undo_50 rfl ?_
      refine at_iaddN dX12_undo_51 ?_
      refine at_mald (a := 94) dX12_undo_52 (by decide) (by decide) (by decide) (by decide) rfl rfl (by show _ < 336; omega) (by decide) ?_
      rw [zsA_o _ (by decide)]
      refine at_mast (a := 72) dX12_undo_53 (by decide) (by decide) (by decide) (by decide) rfl rfl (by show _ < 5684; omega) (by decide) ?_
      rw [zsA_a]
      refine at_iincN dX12_undo_54 rfl (by decide) ?_
      refine at_goto (tgt := 34) dX12_undo_57 (by decide) ?_
      refine ih (i + 1) _ (by omega) (fun j hj => ?_) (fun j hj => ?_)
      · by_cases e : j = i
        · subst e; rw [upd_s]
        · rw [upd_o _ e]; exact h1 j (by omega)
      · rw [upd_o _ (by omega)]; exact h2 j hj
theorem zm_undo {u : Nat} (hD : 1 ≤ D) (hu : u ≤ 16) (h44 : σ.1 44 = nI u) (hf : u = 0 → post (some (.int (-(nI 3)))) n (zm_h (zref σ 3) ρ)) (hal : 0 < u → ∀ k, k < 5 → σ.2.1 94 (21 * (u - 1) + (14 + k)) = nI (al k) ∧ al k < 6)
    (ht : 0 < u → ∀ K' : Nat → Int32, (∀ j, j < 20 → K' j = σ.2.1 94 (21 * (u - 1) + j)) → (∀ j, 20 ≤ j → K' j = σ.2.1 72 j) → post (some (.int (σ.2.1 94 (21 * (u - 1) + 20)))) n (zm_h (zm_si (zsA (zsA (zm_si σ 44 (nI (u - 1))) 72 K') 76 (zrk (σ.2.1 76) al 5)) 0 0) ρ)) : zq_Runs l G D 0 0 yX12_undo [.ref 70] n (zm_h σ ρ) post := by
  refine zq_enter (cc := cX12_undo) (nL := 3) (ret := (some .int)) cw_X12_undo (by decide) rfl (Nat.le_of_ble_eq_true rfl) ?_
  refine at_aload_n dX12_undo_0 rfl ?_
  refine at_get dX12_undo_1 fl_X12_11 rfl rfl ?_
  rw [h44]
  refine at_if_neN (tgt := 14) dX12_undo_4 (by decide) (by omega) (fun c4 => ?_) (fun c4 => ?_)
  · refine at_aload_n dX12_undo_14 rfl ?_
    refine at_dup dX12_undo_15 rfl ?_
    refine at_get dX12_undo_16 fl_X12_11 rfl rfl ?_
    rw [h44]
    refine at_iconst dX12_undo_19 (v := nI 1) (by decide) ?_
    refine at_isubN dX12_undo_20 (by omega) ?_
    refine at_mput dX12_undo_21 (pl_X12_11 _) (fun _ => ⟨_, rfl⟩) rfl rfl ?_
    refine at_bipush dX12_undo_24 (v := nI 21) (by decide) ?_
    refine at_aload_n dX12_undo_26 rfl ?_
    refine at_get dX12_undo_27 fl_X12_11 rfl rfl ?_
    rw [zsi_s]
    refine at_imulN dX12_undo_30 ?_
    refine at_istore_n dX12_undo_31 rfl (by decide) ?_
    refine at_iconst dX12_undo_32 (v := nI 0) (by decide) ?_
    refine at_istore_n dX12_undo_33 rfl (by decide) ?_
    have h0 := zm_undo_loop (l := l) (G := G) (D := D) (n := n) (σ := zm_si σ 44 (nI (u - 1))) (ρ := ρ) (post := post) (u := u - 1) (by omega) (fun K' g1 g2 => by
      have hp := ht (by omega) K' g1 g2
      refine at_aload_n dX12_undo_60 rfl ?_
      refine at_callV0 (d := D - 1) dX12_undo_61 mv_X12_132 rfl (Nat.le_of_ble_eq_true rfl) (zq_r0 (by omega) (by omega) (by omega)) ?_
      refine zm_laysRank (al := al) (fun k hk => by rw [zsA_s, g1 (14 + k) (by omega)]; exact hal (by omega) k hk) ?_
      refine at_aload_n dX12_undo_64 rfl ?_
      refine at_aload_n dX12_undo_65 rfl ?_
      refine at_get dX12_undo_66 fl_X12_114 rfl rfl ?_
      refine at_iload_n dX12_undo_69 rfl ?_
      refine at_bipush dX12_undo_70 (v := nI 20) (by decide) ?_
      refine at_iaddN dX12_undo_72 ?_
      refine at_mald (a := 94) dX12_undo_73 (by decide) (by decide) (by decide) (by decide) rfl rfl (by show _ < 336; omega) (by decide) ?_
      rw [show (zsR (zsA (zm_si σ 44 (nI (u - 1))) 72 K') (zrk ((zsA (zm_si σ 44 (nI (u - 1))) 72 K').2.1 76) al 5)).2.1 94 = σ.2.1 94 by simp [zsR, zsA, zm_si, va_up]]
      refine at_callV1 (d := D - 1) dX12_undo_74 mv_X12_14 rfl (Nat.le_of_ble_eq_true rfl) (zq_r0 (by omega) (by omega) (by omega)) ?_
      refine zm_good ?_
      refine at_iret dX12_undo_77 rfl (by omega) (by omega) ?_
      rw [show (zsA (zm_si σ 44 (nI (u - 1))) 72 K').2.1 76 = σ.2.1 76 by simp [zsA, zm_si, va_up]]; exact hp
      ) 20 0 (σ.2.1 72) rfl (fun j hj => absurd hj (Nat.not_lt_zero _)) (fun _ _ => rfl)
    rw [show zsA (zm_si σ 44 (nI (u - 1))) 72 (σ.2.1 72) = zm_si σ 44 (nI (u - 1)) from zsA_0 (zm_si σ 44 (nI (u - 1))) 72] at h0
    exact h0
  · have hp := hf c4
    refine at_aload_n dX12_undo_7 rfl ?_
    refine at_bipush dX12_undo_8 (v := -3) (by decide) ?_
    refine at_callV1 (d := D - 1) dX12_undo_10 mv_X12_135 rfl (Nat.le_of_ble_eq_true rfl) (zq_r0 (by omega) (by omega) (by omega)) ?_
    refine zm_ref (j := 3) (by decide) ?_
    refine at_iret dX12_undo_13 rfl (by omega) (by omega) ?_
    exact hp
theorem zm_passesKept {u d : Nat} (hD : 1 ≤ D) (hu : u ≤ 16) (h44 : σ.1 44 = nI u) (hd : σ.2.1 72 19 = nI d) (h9 : d ≤ 999) (hf : d = 999 → post (some (.int (-(nI 3)))) n (zm_h σ ρ))
    (ht : d < 999 → ∀ L' : Nat → Int32, zkp (σ.2.1 94) u (σ.2.1 72) (nI 3) L' → post (some (.int (nI (d + 1)))) n (zm_h (zsK (zm_si (zsA σ 94 L') 44 (nI ((if u = 16 then 15 else u) + 1))) (upd (σ.2.1 72) 19 (nI (d + 1)))) ρ)) : zq_Runs l G D 0 0 yX12_passesKept [.ref 70] n (zm_h σ ρ) post := by
  refine zq_enter (cc := cX12_passesKept) (nL := 1) (ret := (some .int)) cw_X12_passesKept (by decide) rfl (Nat.le_of_ble_eq_true rfl) ?_
  refine at_aload_n dX12_passesKept_0 rfl ?_
  refine at_get dX12_passesKept_1 fl_X12_42 rfl rfl ?_
  refine at_bipush dX12_passesKept_4 (v := nI 19) (by decide) ?_
  refine at_mald (a := 72) dX12_passesKept_6 (by decide) (by decide) (by decide) (by decide) rfl rfl (by show _ < 5684; omega) (by decide) ?_
  rw [hd]
  refine at_sipush dX12_passesKept_7 (v := nI 999) (by decide) ?_
  refine at_neN (tgt := 16) dX12_passesKept_10 (by decide) (by omega) (by omega) (fun c10 => ?_) (fun c10 => ?_)
  · refine at_aload_n dX12_passesKept_16 rfl ?_
    refine at_iconst dX12_passesKept_17 (v := nI 3) (by decide) ?_
    refine at_callV1 (d := D - 1) dX12_passesKept_18 mv_X12_452 rfl (Nat.le_of_ble_eq_true rfl) (zq_r0 (by omega) (by omega) (by omega)) ?_
    refine zm_keeps hu h44 (fun L' hL' => ?_)
    have hp := ht (by omega) L' hL'
    refine at_aload_n dX12_passesKept_21 rfl ?_
    refine at_get dX12_passesKept_22 fl_X12_42 rfl rfl ?_
    refine at_bipush dX12_passesKept_25 (v := nI 19) (by decide) ?_
    refine at_dup2 dX12_passesKept_27 rfl rfl ?_
    refine at_mald (a := 72) dX12_passesKept_28 (by decide) (by decide) (by decide) (by decide) rfl rfl (by show _ < 5684; omega) (by decide) ?_
    rw [show (zm_si (zsA σ 94 L') 44 (nI ((if u = 16 then 15 else u) + 1))).2.1 72 = σ.2.1 72 from zsA_o _ (by decide) _, hd]
    refine at_iconst dX12_passesKept_29 (v := nI 1) (by decide) ?_
    refine at_iaddN dX12_passesKept_30 ?_
    refine at_mast (a := 72) dX12_passesKept_31 (by decide) (by decide) (by decide) (by decide) rfl rfl (by show _ < 5684; omega) (by decide) ?_
    rw [zsK_s, show (zm_si (zsA σ 94 L') 44 (nI ((if u = 16 then 15 else u) + 1))).2.1 72 = σ.2.1 72 from zsA_o _ (by decide) _]
    refine at_aload_n dX12_passesKept_32 rfl ?_
    refine at_get dX12_passesKept_33 fl_X12_42 rfl rfl ?_
    refine at_bipush dX12_passesKept_36 (v := nI 19) (by decide) ?_
    refine at_mald (a := 72) dX12_passesKept_38 (by decide) (by decide) (by decide) (by decide) rfl rfl (by show _ < 5684; omega) (by decide) ?_
    rw [zsK_k, upd_s]
    refine at_iret dX12_passesKept_39 rfl (by omega) (by omega) ?_
    exact hp
  · have hp := hf c10
    refine at_bipush dX12_passesKept_13 (v := -3) (by decide) ?_
    refine at_iret dX12_passesKept_15 rfl (by omega) (by omega) ?_
    exact hp
theorem zm_pass {u d : Nat} (hD : 2 ≤ D) (hu : u ≤ 16) (h44 : σ.1 44 = nI u) (hd : σ.2.1 72 19 = nI d) (h9 : d ≤ 999) (hf : d = 999 → post (some (.int (-(nI 3)))) n (zm_h (zref σ 3) ρ))
    (ht : d < 999 → ∀ L' : Nat → Int32, zkp (σ.2.1 94) u (σ.2.1 72) (nI 3) L' → post (some (.int (nI (d + 1)))) n (zm_h (zm_si (zsK (zm_si (zsA σ 94 L') 44 (nI ((if u = 16 then 15 else u) + 1))) (upd (σ.2.1 72) 19 (nI (d + 1)))) 0 0) ρ)) : zq_Runs l G D 0 0 yX12_pass [.ref 70] n (zm_h σ ρ) post := by
  refine zq_enter (cc := cX12_pass) (nL := 1) (ret := (some .int)) cw_X12_pass (by decide) rfl (Nat.le_of_ble_eq_true rfl) ?_
  refine at_aload_n dX12_pass_0 rfl ?_
  refine at_aload_n dX12_pass_1 rfl ?_
  refine at_callV0 (d := D - 1) dX12_pass_2 mv_X12_476 rfl (Nat.le_of_ble_eq_true rfl) (zq_r0 (by omega) (by omega) (by omega)) ?_
  refine zm_passesKept (by omega) hu h44 hd h9 (fun e => ?_) (fun e L' hL' => ?_)
  · have hp := hf e
    refine at_callV1 (d := D - 1) dX12_pass_5 mv_X12_467 rfl (Nat.le_of_ble_eq_true rfl) (zq_r0 (by omega) (by omega) (by omega)) ?_
    refine zm_goodOr_n (j := 3) (by omega) (by decide) (by decide) ?_
    refine at_iret dX12_pass_8 rfl (by omega) (by omega) ?_
    exact hp
  · have hp := ht e L' hL'
    refine at_callV1 (d := D - 1) dX12_pass_5 mv_X12_467 rfl (Nat.le_of_ble_eq_true rfl) (zq_r0 (by omega) (by omega) (by omega)) ?_
    refine zm_goodOr_p (by omega) (nI_pos' (by omega)) ?_
    refine at_iret dX12_pass_8 rfl (by omega) (by omega) ?_
    exact hp
/-- the row of letters with those at k and k + 1 exchanged -/
def zdec (K : Nat → Int32) (k : Nat) : Nat → Int32 := upd (upd K (14 + k) (K (14 + k + 1))) (14 + k + 1) (K (14 + k))
theorem zm_decreesKept {u : Nat} {v : Int32} (hD : 1 ≤ D) (hu : u ≤ 16) (h44 : σ.1 44 = nI u) (hf : (decide (nI 0 ≤ v) && decide (v ≤ nI 3)) = false → post (some (.int (-(nI 1)))) n (zm_h σ ρ)) (hal : ∀ k, k ≤ 3 → v = nI k → ∀ j, j < 5 → zdec (σ.2.1 72) k (14 + j) = nI (al j) ∧ al j < 6)
    (ht : ∀ k, k ≤ 3 → v = nI k → ∀ L' : Nat → Int32, zkp (σ.2.1 94) u (σ.2.1 72) (nI 2) L' → post (some (.int (nI (zaln al 5)))) n (zm_h (zsA (zsK (zm_si (zsA σ 94 L') 44 (nI ((if u = 16 then 15 else u) + 1))) (zdec (σ.2.1 72) k)) 76 (zrk (σ.2.1 76) al 5)) ρ)) : zq_Runs l G D 0 0 yX12_decreesKept [.ref 70, .int v] n (zm_h σ ρ) post := by
  refine zq_enter (cc := cX12_decreesKept) (nL := 3) (ret := (some .int)) cw_X12_decreesKept (by decide) rfl (Nat.le_of_ble_eq_true rfl) ?_
  refine at_iload_n dX12_decreesKept_0 rfl ?_
  refine at_iconst dX12_decreesKept_1 (v := nI 0) (by decide) ?_
  refine at_iconst dX12_decreesKept_2 (v := nI 3) (by decide) ?_
  refine at_callS3 (d := D - 1) dX12_decreesKept_3 ms_X12_18 (Nat.le_of_ble_eq_true rfl) (zq_r0 (by omega) (by omega) (by omega)) ?_
  refine zm_lies ?_
  refine at_if_neB (tgt := 11) dX12_decreesKept_6 (by decide) (fun c6 => ?_) (fun c6 => ?_)
  · obtain ⟨k, -, hk, rfl⟩ := zlies_n (by decide) (by decide) c6
    refine at_aload_n dX12_decreesKept_11 rfl ?_
    refine at_iconst dX12_decreesKept_12 (v := nI 2) (by decide) ?_
    refine at_callV1 (d := D - 1) dX12_decreesKept_13 mv_X12_452 rfl (Nat.le_of_ble_eq_true rfl) (zq_r0 (by omega) (by omega) (by omega)) ?_
    refine zm_keeps hu h44 (fun L' hL' => ?_)
    have e72 : (zm_si (zsA σ 94 L') 44 (nI ((if u = 16 then 15 else u) + 1))).2.1 72 = σ.2.1 72 := zsA_o _ (by decide) _
    refine at_aload_n dX12_decreesKept_16 rfl ?_
    refine at_get dX12_decreesKept_17 fl_X12_42 rfl rfl ?_
    refine at_bipush dX12_decreesKept_20 (v := nI 14) (by decide) ?_
    refine at_iload_n dX12_decreesKept_22 rfl ?_
    refine at_iaddN dX12_decreesKept_23 ?_
    refine at_mald (a := 72) dX12_decreesKept_24 (by decide) (by decide) (by decide) (by decide) rfl rfl (by show _ < 5684; omega) (by decide) ?_
    refine at_istore_n dX12_decreesKept_25 rfl (by decide) ?_
    refine at_aload_n dX12_decreesKept_26 rfl ?_
    refine at_get dX12_decreesKept_27 fl_X12_42 rfl rfl ?_
    refine at_bipush dX12_decreesKept_30 (v := nI 14) (by decide) ?_
    refine at_iload_n dX12_decreesKept_32 rfl ?_
    refine at_iaddN dX12_decreesKept_33 ?_
    refine at_aload_n dX12_decreesKept_34 rfl ?_
    refine at_get dX12_decreesKept_35 fl_X12_42 rfl rfl ?_
    refine at_bipush dX12_decreesKept_38 (v := nI 14) (by decide) ?_
    refine at_iload_n dX12_decreesKept_40 rfl ?_
    refine at_iaddN dX12_decreesKept_41 ?_
    refine at_iconst dX12_decreesKept_42 (v := nI 1) (by decide) ?_
    refine at_iaddN dX12_decreesKept_43 ?_
    refine at_mald (a := 72) dX12_decreesKept_44 (by decide) (by decide) (by decide) (by decide) rfl rfl (by show _ < 5684; omega) (by decide) ?_
    refine at_mast (a := 72) dX12_decreesKept_45 (by decide) (by decide) (by decide) (by decide) rfl rfl (by show _ < 5684; omega) (by decide) ?_
    rw [zsK_s, e72]
    refine at_aload_n dX12_decreesKept_46 rfl ?_
    refine at_get dX12_decreesKept_47 fl_X12_42 rfl rfl ?_
    refine at_bipush dX12_decreesKept_50 (v := nI 14) (by decide) ?_
    refine at_iload_n dX12_decreesKept_52 rfl ?_
    refine at_iaddN dX12_decreesKept_53 ?_
    refine at_iconst dX12_decreesKept_54 (v := nI 1) (by decide) ?_
    refine at_iaddN dX12_decreesKept_55 ?_
    refine at_iload_n dX12_decreesKept_56 rfl ?_
    refine at_mast (a := 72) dX12_decreesKept_57 (by decide) (by decide) (by decide) (by decide) rfl rfl (by show _ < 5684; omega) (by decide) ?_
    rw [zsK_a]
    refine at_aload_n dX12_decreesKept_58 rfl ?_
    refine at_callV0 (d := D - 1) dX12_decreesKept_59 mv_X12_132 rfl (Nat.le_of_ble_eq_true rfl) (zq_r0 (by omega) (by omega) (by omega)) ?_
    refine zm_laysRank (al := al) (fun j hj => by rw [zsK_k]; exact hal k hk rfl j hj) ?_
    refine at_aload_n dX12_decreesKept_62 rfl ?_
    refine at_callV0 (d := D - 1) dX12_decreesKept_63 mv_X12_461 rfl (Nat.le_of_ble_eq_true rfl) (zq_r0 (by omega) (by omega) (by omega)) ?_
    refine zm_alphabet (al := al) (fun j hj => by rw [show ∀ (s : zm_S) (g : Nat → Int32), (zsR s g).2.1 72 = s.2.1 72 from fun s g => zsA_o s (by decide) g, zsK_k]; exact hal k hk rfl j hj) ?_
    rw [show (zsK (zm_si (zsA σ 94 L') 44 (nI ((if u = 16 then 15 else u) + 1))) (upd (upd (σ.2.1 72) (14 + k) (σ.2.1 72 (14 + k + 1))) (14 + k + 1) (σ.2.1 72 (14 + k)))).2.1 76 = σ.2.1 76 by simp [zsK, zsA, zm_si, va_up]]
    refine at_iret dX12_decreesKept_66 rfl (by omega) (by omega) ?_
    exact ht k hk rfl L' hL'
  · have hp := hf c6
    refine at_iconst dX12_decreesKept_9 (v := -1) rfl ?_
    refine at_iret dX12_decreesKept_10 rfl (by omega) (by omega) ?_
    exact hp
theorem zm_decree {u : Nat} {v : Int32} (hD : 2 ≤ D) (hu : u ≤ 16) (h44 : σ.1 44 = nI u) (hf : (decide (nI 0 ≤ v) && decide (v ≤ nI 3)) = false → post (some (.int (-(nI 1)))) n (zm_h (zref σ 1) ρ)) (hal : ∀ k, k ≤ 3 → v = nI k → ∀ j, j < 5 → zdec (σ.2.1 72) k (14 + j) = nI (al j) ∧ al j < 6) (hl5 : zaln al 5 < 2147483648)
    (ht : ∀ k, k ≤ 3 → v = nI k → ∀ L' : Nat → Int32, zkp (σ.2.1 94) u (σ.2.1 72) (nI 2) L' → post (some (.int (nI (zaln al 5)))) n (zm_h (zm_si (zsA (zsK (zm_si (zsA σ 94 L') 44 (nI ((if u = 16 then 15 else u) + 1))) (zdec (σ.2.1 72) k)) 76 (zrk (σ.2.1 76) al 5)) 0 0) ρ)) : zq_Runs l G D 0 0 yX12_decree [.ref 70, .int v] n (zm_h σ ρ) post := by
  refine zq_enter (cc := cX12_decree) (nL := 2) (ret := (some .int)) cw_X12_decree (by decide) rfl (Nat.le_of_ble_eq_true rfl) ?_
  refine at_aload_n dX12_decree_0 rfl ?_
  refine at_aload_n dX12_decree_1 rfl ?_
  refine at_iload_n dX12_decree_2 rfl ?_
  refine at_callV1 (d := D - 1) dX12_decree_3 mv_X12_473 rfl (Nat.le_of_ble_eq_true rfl) (zq_r0 (by omega) (by omega) (by omega)) ?_
  refine zm_decreesKept (by omega) hu h44 (fun e => ?_) hal (fun k hk e L' hL' => ?_)
  · have hp := hf e
    refine at_callV1 (d := D - 1) dX12_decree_6 mv_X12_467 rfl (Nat.le_of_ble_eq_true rfl) (zq_r0 (by omega) (by omega) (by omega)) ?_
    refine zm_goodOr_n (j := 1) (by omega) (by decide) (by decide) ?_
    refine at_iret dX12_decree_9 rfl (by omega) (by omega) ?_
    exact hp
  · have hp := ht k hk e L' hL'
    refine at_callV1 (d := D - 1) dX12_decree_6 mv_X12_467 rfl (Nat.le_of_ble_eq_true rfl) (zq_r0 (by omega) (by omega) (by omega)) ?_
    refine zm_goodOr_p (by omega) (nI_pos' hl5) ?_
    refine at_iret dX12_decree_9 rfl (by omega) (by omega) ?_
    exact hp
theorem zm_back_loop {b : Nat} (hb : b < 2) (hk : ∀ K' : Nat → Int32, (∀ j, j < 5684 → K' j = σ.2.1 73 (5684 * b + j)) → zq_At l G (zq_rm D 0 0) mX12_back (zq_QF G post 0 0) 64 [(0, .ref 70), (1, .int (nI b)), (2, .int (nI 5684))] [] n (zm_h (zsA σ 72 K') ρ) 0 0) : ∀ (k i : Nat) (A : Nat → Int32), i + k = 5684 → (∀ j, j < i → A j = σ.2.1 73 (5684 * b + j)) → zq_At l G (zq_rm D 0 0) mX12_back (zq_QF G post 0 0) 33 [(0, .ref 70), (1, .int (nI b)), (2, .int (nI i))] [] n (zm_h (zsA σ 72 A) ρ) 0 0 := by
  intro k
  induction k with
  | zero =>
    intro i A hi h1
    obtain rfl : i = 5684 := hi
    refine at_iload_n dX12_back_33 rfl ?_
    refine at_sipush dX12_back_34 (v := nI 5684) (by decide) ?_
    refine at_geN (tgt := 64) dX12_back_37 (by decide) (by omega) (by omega) (fun c37 => ?_) (fun c37 => ?_)
    · exact hk A h1
    · omega
  | succ k ih =>
    intro i A hi h1
    refine at_iload_n dX12_back_33 rfl ?_
    refine at_sipush dX12_back_34 (v := nI 5684) (by decide) ?_
    refine at_geN (tgt := 64) dX12_back_37 (by decide) (by omega) (by omega) (fun c37 => ?_) (fun c37 => ?_)
    · omega
    · refine at_aload_n dX12_back_40 rfl ?_
      refine at_get dX12_back_41 fl_X12_42 rfl rfl ?_
      refine at_iload_n dX12_back_44 rfl ?_
      refine at_aload_n dX12_back_45 rfl ?_
      refine at_get dX12_back_46 fl_X12_45 rfl rfl ?_
      refine at_sipush dX12_back_49 (v := nI 5684) (by decide) ?_
      refine at_iload_n dX12_back_52 rfl ?_
      refine at_imulN dX12_back_53 ?_
      refine at_iload_n dX12_back_54 rfl ?_
      refine at_iaddN dX12_back_55 ?_
      refine at_mald (a := 73) dX12_back_56 (by decide) (by decide) (by decide) (by decide) rfl rfl (by show _ < 11368; omega) (by decide) ?_
      rw [zsA_o _ (by decide)]
      refine at_mast (a := 72) dX12_back_57 (by decide) (by decide) (by decide) (by decide) rfl rfl (by show _ < 5684; omega) (by decide) ?_
      rw [zsA_a]
      refine at_iincN dX12_back_58 rfl (by decide) ?_
      refine at_goto (tgt := 33) dX12_back_61 (by decide) ?_
      refine ih (i + 1) _ (by omega) (fun j hj => ?_)
      by_cases e : j = i
      · subst e; rw [upd_s]
      · rw [upd_o _ e]; exact h1 j (by omega)
theorem zm_back {v : Int32} (hD : 2 ≤ D) (hf1 : (decide (nI 0 ≤ v) && decide (v ≤ nI 1)) = false → post (some (.int (-(nI 1)))) n (zm_h (zref σ 1) ρ)) (hf2 : ∀ b, b < 2 → v = nI b → σ.2.1 74 b = 0 → post (some (.int (-(nI 2)))) n (zm_h (zref σ 2) ρ))
    (hal : ∀ b, b < 2 → v = nI b → ¬ σ.2.1 74 b = 0 → ∀ k, k < 5 → σ.2.1 73 (5684 * b + (14 + k)) = nI (al k) ∧ al k < 6)
    (ht : ∀ b, b < 2 → v = nI b → ¬ σ.2.1 74 b = 0 → ∀ K' : Nat → Int32, (∀ j, j < 5684 → K' j = σ.2.1 73 (5684 * b + j)) → post (some (.int (nI 0))) n (zm_h (zm_si (zm_si (zsA (zsA σ 72 K') 76 (zrk (σ.2.1 76) al 5)) 44 0) 0 0) ρ)) : zq_Runs l G D 0 0 yX12_back [.ref 70, .int v] n (zm_h σ ρ) post := by
  refine zq_enter (cc := cX12_back) (nL := 3) (ret := (some .int)) cw_X12_back (by decide) rfl (Nat.le_of_ble_eq_true rfl) ?_
  refine at_iload_n dX12_back_0 rfl ?_
  refine at_iconst dX12_back_1 (v := nI 0) (by decide) ?_
  refine at_iconst dX12_back_2 (v := nI 1) (by decide) ?_
  refine at_callS3 (d := D - 1) dX12_back_3 ms_X12_18 (Nat.le_of_ble_eq_true rfl) (zq_r0 (by omega) (by omega) (by omega)) ?_
  refine zm_lies ?_
  refine at_if_neB (tgt := 15) dX12_back_6 (by decide) (fun c6 => ?_) (fun c6 => ?_)
  · obtain ⟨b, -, hb, rfl⟩ := zlies_n (by decide) (by decide) c6
    refine at_aload_n dX12_back_15 rfl ?_
    refine at_get dX12_back_16 fl_X12_48 rfl rfl ?_
    refine at_iload_n dX12_back_19 rfl ?_
    refine at_mzald (a := 74) dX12_back_20 (by decide) (by decide) (by decide) (by decide) rfl rfl (by show _ < 2; omega) (by decide) ?_
    refine at_if_ne (tgt := 31) dX12_back_21 (by decide) (fun c21 => ?_) (fun c21 => ?_)
    · refine at_iconst dX12_back_31 (v := nI 0) (by decide) ?_
      refine at_istore_n dX12_back_32 rfl (by decide) ?_
      have h0 := zm_back_loop (l := l) (G := G) (D := D) (n := n) (σ := σ) (ρ := ρ) (post := post) (b := b) (by omega) (fun K' hK' => by
        have hp := ht b (by omega) rfl c21 K' hK'
        refine at_aload_n dX12_back_64 rfl ?_
        refine at_callV0 (d := D - 1) dX12_back_65 mv_X12_132 rfl (Nat.le_of_ble_eq_true rfl) (zq_r0 (by omega) (by omega) (by omega)) ?_
        refine zm_laysRank (al := al) (fun k hk => by rw [zsA_s, hK' (14 + k) (by omega)]; exact hal b (by omega) rfl c21 k hk) ?_
        rw [show (zsA σ 72 K').2.1 76 = σ.2.1 76 from zsA_o _ (by decide) _]
        refine at_aload_n dX12_back_68 rfl ?_
        refine at_iconst dX12_back_69 (v := nI 0) (by decide) ?_
        refine at_callV1 (d := D - 1) dX12_back_70 mv_X12_138 rfl (Nat.le_of_ble_eq_true rfl) (zq_r0 (by omega) (by omega) (by omega)) ?_
        refine zm_settled (by omega) ?_
        refine at_iret dX12_back_73 rfl (by omega) (by omega) ?_
        exact hp
        ) 5684 0 (σ.2.1 72) rfl (fun j hj => absurd hj (Nat.not_lt_zero _))
      rw [zsA_0] at h0
      exact h0
    · have hp := hf2 b (by omega) rfl c21
      refine at_aload_n dX12_back_24 rfl ?_
      refine at_bipush dX12_back_25 (v := -2) (by decide) ?_
      refine at_callV1 (d := D - 1) dX12_back_27 mv_X12_135 rfl (Nat.le_of_ble_eq_true rfl) (zq_r0 (by omega) (by omega) (by omega)) ?_
      refine zm_ref (j := 2) (by decide) ?_
      refine at_iret dX12_back_30 rfl (by omega) (by omega) ?_
      exact hp
  · have hp := hf1 c6
    refine at_aload_n dX12_back_9 rfl ?_
    refine at_iconst dX12_back_10 (v := -1) rfl ?_
    refine at_callV1 (d := D - 1) dX12_back_11 mv_X12_135 rfl (Nat.le_of_ble_eq_true rfl) (zq_r0 (by omega) (by omega) (by omega)) ?_
    refine zm_ref (j := 1) (by decide) ?_
    refine at_iret dX12_back_14 rfl (by omega) (by omega) ?_
    exact hp
end ZL9

