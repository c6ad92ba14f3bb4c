/-! ===== the Model: strokes, exchanges, drawn weeks, counts ===== -/
theorem zTe_cA {σ τ : zm_S} (a : Nat) (g : Nat → Int32) (h : zTe σ τ) : zTe (zsA σ a g) (zsA τ a g) := ⟨h.1, fun b hb => by
  by_cases e : b = a
  · subst e; rw [zsA_s, zsA_s]
  · rw [zsA_o _ e, zsA_o _ e]; exact h.2.1 b hb, h.2.2⟩
theorem zTe_cK {σ τ : zm_S} (g : Nat → Int32) (h : zTe σ τ) : zTe (zsK σ g) (zsK τ g) := zTe_cA 72 g h
theorem zTe_ci {σ τ : zm_S} (k : Nat) (v : Int32) (h : zTe σ τ) : zTe (zm_si σ k v) (zm_si τ k v) := ⟨fun j hj => by
  by_cases e : j = k
  · subst e; rw [zsi_s, zsi_s]
  · rw [zsi_o _ e, zsi_o _ e]; exact h.1 j hj, h.2⟩
/-- what keeps() leaves -/
def zkS2 (σ : zm_S) (u : Nat) (L' : Nat → Int32) : zm_S := zm_si (zsA σ 94 L') 44 (nI ((if u = 16 then 15 else u) + 1))
theorem zkS2_72 (σ : zm_S) (u : Nat) (L' : Nat → Int32) : (zkS2 σ u L').2.1 72 = σ.2.1 72 := zsA_o _ (by decide) _
theorem zkS2_76 (σ : zm_S) (u : Nat) (L' : Nat → Int32) : (zkS2 σ u L').2.1 76 = σ.2.1 76 := zsA_o _ (by decide) _
theorem zTe_k {σ τ : zm_S} (u : Nat) (L' : Nat → Int32) (h : zTe σ τ) : zTe (zkS2 σ u L') (zkS2 τ u L') := zTe_ci _ _ (zTe_cA _ _ h)
/-- the row with those at k and k + 1 exchanged -/
def zswp (K : Nat → Int32) (k : Nat) : Nat → Int32 := upd (upd K (7 + k) (K (7 + k + 1))) (7 + k + 1) (K (7 + k))
theorem zix_lies2 {m : Nat} {p : Int32} (hm : m < 1073741824) : (decide (nI 0 ≤ p) && decide (p ≤ nI m - nI 2)) = zix (m - 1) p := by
  have h1 : (nI m - nI 2).toInt = (m : Int) - 2 := pk_sub_toInt hm (by decide)
  have h0 : (nI 0).toInt = 0 := rfl
  unfold zix
  rw [Bool.eq_iff_iff]
  simp only [Bool.and_eq_true, decide_eq_true_eq, Int32.le_iff_toInt_le, h1, h0]
  omega
theorem zI_add (x y : Int) : zI x + zI y = zI (x + y) := (Int32.ofInt_add x y).symm
theorem dX12_strokesKept_0 : decode cX12_strokesKept 0 = .ok (.iload_n 2, 1) := by decide +kernel
theorem dX12_strokesKept_1 : decode cX12_strokesKept 1 = .ok (.iconst 0, 1) := by decide +kernel
theorem dX12_strokesKept_2 : decode cX12_strokesKept 2 = .ok (.iconst 3, 1) := by decide +kernel
theorem dX12_strokesKept_3 : decode cX12_strokesKept 3 = .ok (.invokestatic 18, 3) := by decide +kernel
theorem dX12_strokesKept_6 : decode cX12_strokesKept 6 = .ok (.ifCond .eq 10, 3) := by decide +kernel
theorem dX12_strokesKept_9 : decode cX12_strokesKept 9 = .ok (.iload_n 3, 1) := by decide +kernel
theorem dX12_strokesKept_10 : decode cX12_strokesKept 10 = .ok (.invokestatic 32, 3) := by decide +kernel
theorem dX12_strokesKept_13 : decode cX12_strokesKept 13 = .ok (.ifCond .ne 5, 3) := by decide +kernel
theorem dX12_strokesKept_16 : decode cX12_strokesKept 16 = .ok (.iconst (-1), 1) := by decide +kernel
theorem dX12_strokesKept_17 : decode cX12_strokesKept 17 = .ok (.ireturn, 1) := by decide +kernel
theorem dX12_strokesKept_18 : decode cX12_strokesKept 18 = .ok (.aload_n 0, 1) := by decide +kernel
theorem dX12_strokesKept_19 : decode cX12_strokesKept 19 = .ok (.iload_n 1, 1) := by decide +kernel
theorem dX12_strokesKept_20 : decode cX12_strokesKept 20 = .ok (.invokevirtual 152, 3) := by decide +kernel
theorem dX12_strokesKept_23 : decode cX12_strokesKept 23 = .ok (.ifCond .ne 6, 3) := by decide +kernel
theorem dX12_strokesKept_26 : decode cX12_strokesKept 26 = .ok (.bipush (-2), 2) := by decide +kernel
theorem dX12_strokesKept_28 : decode cX12_strokesKept 28 = .ok (.ireturn, 1) := by decide +kernel
theorem dX12_strokesKept_29 : decode cX12_strokesKept 29 = .ok (.aload_n 0, 1) := by decide +kernel
theorem dX12_strokesKept_30 : decode cX12_strokesKept 30 = .ok (.getfield 42, 3) := by decide +kernel
theorem dX12_strokesKept_33 : decode cX12_strokesKept 33 = .ok (.iconst 0, 1) := by decide +kernel
theorem dX12_strokesKept_34 : decode cX12_strokesKept 34 = .ok (.iload_n 1, 1) := by decide +kernel
theorem dX12_strokesKept_35 : decode cX12_strokesKept 35 = .ok (.iadd, 1) := by decide +kernel
theorem dX12_strokesKept_36 : decode cX12_strokesKept 36 = .ok (.iaload, 1) := by decide +kernel
theorem dX12_strokesKept_37 : decode cX12_strokesKept 37 = .ok (.istore 4, 2) := by decide +kernel
theorem dX12_strokesKept_39 : decode cX12_strokesKept 39 = .ok (.iload_n 2, 1) := by decide +kernel
theorem dX12_strokesKept_40 : decode cX12_strokesKept 40 = .ok (.iload 4, 2) := by decide +kernel
theorem dX12_strokesKept_42 : decode cX12_strokesKept 42 = .ok (.invokestatic 22, 3) := by decide +kernel
theorem dX12_strokesKept_45 : decode cX12_strokesKept 45 = .ok (.if_icmp .ge 21, 3) := by decide +kernel
theorem dX12_strokesKept_48 : decode cX12_strokesKept 48 = .ok (.iload 4, 2) := by decide +kernel
theorem dX12_strokesKept_50 : decode cX12_strokesKept 50 = .ok (.iload_n 2, 1) := by decide +kernel
theorem dX12_strokesKept_51 : decode cX12_strokesKept 51 = .ok (.invokestatic 28, 3) := by decide +kernel
theorem dX12_strokesKept_54 : decode cX12_strokesKept 54 = .ok (.iload_n 3, 1) := by decide +kernel
theorem dX12_strokesKept_55 : decode cX12_strokesKept 55 = .ok (.if_icmp .eq 11, 3) := by decide +kernel
theorem dX12_strokesKept_58 : decode cX12_strokesKept 58 = .ok (.aload_n 0, 1) := by decide +kernel
theorem dX12_strokesKept_59 : decode cX12_strokesKept 59 = .ok (.iload_n 1, 1) := by decide +kernel
theorem dX12_strokesKept_60 : decode cX12_strokesKept 60 = .ok (.invokevirtual 161, 3) := by decide +kernel
theorem dX12_strokesKept_63 : decode cX12_strokesKept 63 = .ok (.ifCond .eq 6, 3) := by decide +kernel
theorem dX12_strokesKept_66 : decode cX12_strokesKept 66 = .ok (.bipush (-3), 2) := by decide +kernel
theorem dX12_strokesKept_68 : decode cX12_strokesKept 68 = .ok (.ireturn, 1) := by decide +kernel
theorem dX12_strokesKept_69 : decode cX12_strokesKept 69 = .ok (.aload_n 0, 1) := by decide +kernel
theorem dX12_strokesKept_70 : decode cX12_strokesKept 70 = .ok (.iconst 0, 1) := by decide +kernel
theorem dX12_strokesKept_71 : decode cX12_strokesKept 71 = .ok (.invokevirtual 452, 3) := by decide +kernel
theorem dX12_strokesKept_74 : decode cX12_strokesKept 74 = .ok (.aload_n 0, 1) := by decide +kernel
theorem dX12_strokesKept_75 : decode cX12_strokesKept 75 = .ok (.iload_n 1, 1) := by decide +kernel
theorem dX12_strokesKept_76 : decode cX12_strokesKept 76 = .ok (.iload_n 2, 1) := by decide +kernel
theorem dX12_strokesKept_77 : decode cX12_strokesKept 77 = .ok (.iload_n 3, 1) := by decide +kernel
theorem dX12_strokesKept_78 : decode cX12_strokesKept 78 = .ok (.invokevirtual 164, 3) := by decide +kernel
theorem dX12_strokesKept_81 : decode cX12_strokesKept 81 = .ok (.istore 5, 2) := by decide +kernel
theorem dX12_strokesKept_83 : decode cX12_strokesKept 83 = .ok (.aload_n 0, 1) := by decide +kernel
theorem dX12_strokesKept_84 : decode cX12_strokesKept 84 = .ok (.getfield 42, 3) := by decide +kernel
theorem dX12_strokesKept_87 : decode cX12_strokesKept 87 = .ok (.iconst 0, 1) := by decide +kernel
theorem dX12_strokesKept_88 : decode cX12_strokesKept 88 = .ok (.iload_n 1, 1) := by decide +kernel
theorem dX12_strokesKept_89 : decode cX12_strokesKept 89 = .ok (.iadd, 1) := by decide +kernel
theorem dX12_strokesKept_90 : decode cX12_strokesKept 90 = .ok (.iload 4, 2) := by decide +kernel
theorem dX12_strokesKept_92 : decode cX12_strokesKept 92 = .ok (.iload_n 2, 1) := by decide +kernel
theorem dX12_strokesKept_93 : decode cX12_strokesKept 93 = .ok (.iload_n 3, 1) := by decide +kernel
theorem dX12_strokesKept_94 : decode cX12_strokesKept 94 = .ok (.invokestatic 455, 3) := by decide +kernel
theorem dX12_strokesKept_97 : decode cX12_strokesKept 97 = .ok (.iastore, 1) := by decide +kernel
theorem dX12_strokesKept_98 : decode cX12_strokesKept 98 = .ok (.iload 5, 2) := by decide +kernel
theorem dX12_strokesKept_100 : decode cX12_strokesKept 100 = .ok (.ireturn, 1) := by decide +kernel
abbrev mX12_strokesKept : zq_M := (cX12_strokesKept, RX12, "strokesKept", (some .int), 6)
theorem dX12_swapsKept_0 : decode cX12_swapsKept 0 = .ok (.iload_n 1, 1) := by decide +kernel
theorem dX12_swapsKept_1 : decode cX12_swapsKept 1 = .ok (.iconst 0, 1) := by decide +kernel
theorem dX12_swapsKept_2 : decode cX12_swapsKept 2 = .ok (.aload_n 0, 1) := by decide +kernel
theorem dX12_swapsKept_3 : decode cX12_swapsKept 3 = .ok (.invokevirtual 141, 3) := by decide +kernel
theorem dX12_swapsKept_6 : decode cX12_swapsKept 6 = .ok (.iconst 2, 1) := by decide +kernel
theorem dX12_swapsKept_7 : decode cX12_swapsKept 7 = .ok (.isub, 1) := by decide +kernel
theorem dX12_swapsKept_8 : decode cX12_swapsKept 8 = .ok (.invokestatic 18, 3) := by decide +kernel
theorem dX12_swapsKept_11 : decode cX12_swapsKept 11 = .ok (.ifCond .ne 6, 3) := by decide +kernel
theorem dX12_swapsKept_14 : decode cX12_swapsKept 14 = .ok (.bipush (-2), 2) := by decide +kernel
theorem dX12_swapsKept_16 : decode cX12_swapsKept 16 = .ok (.ireturn, 1) := by decide +kernel
theorem dX12_swapsKept_17 : decode cX12_swapsKept 17 = .ok (.aload_n 0, 1) := by decide +kernel
theorem dX12_swapsKept_18 : decode cX12_swapsKept 18 = .ok (.iconst 1, 1) := by decide +kernel
theorem dX12_swapsKept_19 : decode cX12_swapsKept 19 = .ok (.invokevirtual 452, 3) := by decide +kernel
theorem dX12_swapsKept_22 : decode cX12_swapsKept 22 = .ok (.aload_n 0, 1) := by decide +kernel
theorem dX12_swapsKept_23 : decode cX12_swapsKept 23 = .ok (.aload_n 0, 1) := by decide +kernel
theorem dX12_swapsKept_24 : decode cX12_swapsKept 24 = .ok (.getfield 42, 3) := by decide +kernel
theorem dX12_swapsKept_27 : decode cX12_swapsKept 27 = .ok (.bipush 7, 2) := by decide +kernel
theorem dX12_swapsKept_29 : decode cX12_swapsKept 29 = .ok (.iload_n 1, 1) := by decide +kernel
theorem dX12_swapsKept_30 : decode cX12_swapsKept 30 = .ok (.iadd, 1) := by decide +kernel
theorem dX12_swapsKept_31 : decode cX12_swapsKept 31 = .ok (.iaload, 1) := by decide +kernel
theorem dX12_swapsKept_32 : decode cX12_swapsKept 32 = .ok (.invokevirtual 158, 3) := by decide +kernel
theorem dX12_swapsKept_35 : decode cX12_swapsKept 35 = .ok (.aload_n 0, 1) := by decide +kernel
theorem dX12_swapsKept_36 : decode cX12_swapsKept 36 = .ok (.aload_n 0, 1) := by decide +kernel
theorem dX12_swapsKept_37 : decode cX12_swapsKept 37 = .ok (.getfield 42, 3) := by decide +kernel
theorem dX12_swapsKept_40 : decode cX12_swapsKept 40 = .ok (.bipush 7, 2) := by decide +kernel
theorem dX12_swapsKept_42 : decode cX12_swapsKept 42 = .ok (.iload_n 1, 1) := by decide +kernel
theorem dX12_swapsKept_43 : decode cX12_swapsKept 43 = .ok (.iadd, 1) := by decide +kernel
theorem dX12_swapsKept_44 : decode cX12_swapsKept 44 = .ok (.iconst 1, 1) := by decide +kernel
theorem dX12_swapsKept_45 : decode cX12_swapsKept 45 = .ok (.iadd, 1) := by decide +kernel
theorem dX12_swapsKept_46 : decode cX12_swapsKept 46 = .ok (.iaload, 1) := by decide +kernel
theorem dX12_swapsKept_47 : decode cX12_swapsKept 47 = .ok (.invokevirtual 158, 3) := by decide +kernel
theorem dX12_swapsKept_50 : decode cX12_swapsKept 50 = .ok (.iadd, 1) := by decide +kernel
theorem dX12_swapsKept_51 : decode cX12_swapsKept 51 = .ok (.istore_n 2, 1) := by decide +kernel
theorem dX12_swapsKept_52 : decode cX12_swapsKept 52 = .ok (.aload_n 0, 1) := by decide +kernel
theorem dX12_swapsKept_53 : decode cX12_swapsKept 53 = .ok (.iload_n 1, 1) := by decide +kernel
theorem dX12_swapsKept_54 : decode cX12_swapsKept 54 = .ok (.invokevirtual 458, 3) := by decide +kernel
theorem dX12_swapsKept_57 : decode cX12_swapsKept 57 = .ok (.iload_n 2, 1) := by decide +kernel
theorem dX12_swapsKept_58 : decode cX12_swapsKept 58 = .ok (.ireturn, 1) := by decide +kernel
abbrev mX12_swapsKept : zq_M := (cX12_swapsKept, RX12, "swapsKept", (some .int), 3)
theorem dX12_stroke_0 : decode cX12_stroke 0 = .ok (.aload_n 0, 1) := by decide +kernel
theorem dX12_stroke_1 : decode cX12_stroke 1 = .ok (.aload_n 0, 1) := by decide +kernel
theorem dX12_stroke_2 : decode cX12_stroke 2 = .ok (.iload_n 1, 1) := by decide +kernel
theorem dX12_stroke_3 : decode cX12_stroke 3 = .ok (.iload_n 2, 1) := by decide +kernel
theorem dX12_stroke_4 : decode cX12_stroke 4 = .ok (.iload_n 3, 1) := by decide +kernel
theorem dX12_stroke_5 : decode cX12_stroke 5 = .ok (.invokevirtual 464, 3) := by decide +kernel
theorem dX12_stroke_8 : decode cX12_stroke 8 = .ok (.invokevirtual 467, 3) := by decide +kernel
theorem dX12_stroke_11 : decode cX12_stroke 11 = .ok (.ireturn, 1) := by decide +kernel
abbrev mX12_stroke : zq_M := (cX12_stroke, RX12, "stroke", (some .int), 4)
theorem dX12_swap_0 : decode cX12_swap 0 = .ok (.aload_n 0, 1) := by decide +kernel
theorem dX12_swap_1 : decode cX12_swap 1 = .ok (.aload_n 0, 1) := by decide +kernel
theorem dX12_swap_2 : decode cX12_swap 2 = .ok (.iload_n 1, 1) := by decide +kernel
theorem dX12_swap_3 : decode cX12_swap 3 = .ok (.invokevirtual 470, 3) := by decide +kernel
theorem dX12_swap_6 : decode cX12_swap 6 = .ok (.invokevirtual 467, 3) := by decide +kernel
theorem dX12_swap_9 : decode cX12_swap 9 = .ok (.ireturn, 1) := by decide +kernel
abbrev mX12_swap : zq_M := (cX12_swap, RX12, "swap", (some .int), 2)
theorem dX12_draws_0 : decode cX12_draws 0 = .ok (.aload_n 0, 1) := by decide +kernel
theorem dX12_draws_1 : decode cX12_draws 1 = .ok (.ldc2_w 516, 3) := by decide +kernel
theorem dX12_draws_4 : decode cX12_draws 4 = .ok (.aload_n 0, 1) := by decide +kernel
theorem dX12_draws_5 : decode cX12_draws 5 = .ok (.getfield 518, 3) := by decide +kernel
theorem dX12_draws_8 : decode cX12_draws 8 = .ok (.i2l, 1) := by decide +kernel
theorem dX12_draws_9 : decode cX12_draws 9 = .ok (.lmul, 1) := by decide +kernel
theorem dX12_draws_10 : decode cX12_draws 10 = .ok (.ldc2_w 521, 3) := by decide +kernel
theorem dX12_draws_13 : decode cX12_draws 13 = .ok (.ladd, 1) := by decide +kernel
theorem dX12_draws_14 : decode cX12_draws 14 = .ok (.ldc2_w 523, 3) := by decide +kernel
theorem dX12_draws_17 : decode cX12_draws 17 = .ok (.lrem, 1) := by decide +kernel
theorem dX12_draws_18 : decode cX12_draws 18 = .ok (.l2i, 1) := by decide +kernel
theorem dX12_draws_19 : decode cX12_draws 19 = .ok (.putfield 518, 3) := by decide +kernel
theorem dX12_draws_22 : decode cX12_draws 22 = .ok (.aload_n 0, 1) := by decide +kernel
theorem dX12_draws_23 : decode cX12_draws 23 = .ok (.getfield 518, 3) := by decide +kernel
theorem dX12_draws_26 : decode cX12_draws 26 = .ok (.iload_n 1, 1) := by decide +kernel
theorem dX12_draws_27 : decode cX12_draws 27 = .ok (.irem, 1) := by decide +kernel
theorem dX12_draws_28 : decode cX12_draws 28 = .ok (.ireturn, 1) := by decide +kernel
abbrev mX12_draws : zq_M := (cX12_draws, RX12, "draws", (some .int), 2)
theorem dX12_dayIsDrawn_0 : decode cX12_dayIsDrawn 0 = .ok (.aload_n 0, 1) := by decide +kernel
theorem dX12_dayIsDrawn_1 : decode cX12_dayIsDrawn 1 = .ok (.aload_n 0, 1) := by decide +kernel
theorem dX12_dayIsDrawn_2 : decode cX12_dayIsDrawn 2 = .ok (.invokevirtual 141, 3) := by decide +kernel
theorem dX12_dayIsDrawn_5 : decode cX12_dayIsDrawn 5 = .ok (.invokevirtual 525, 3) := by decide +kernel
theorem dX12_dayIsDrawn_8 : decode cX12_dayIsDrawn 8 = .ok (.istore_n 1, 1) := by decide +kernel
theorem dX12_dayIsDrawn_9 : decode cX12_dayIsDrawn 9 = .ok (.aload_n 0, 1) := by decide +kernel
theorem dX12_dayIsDrawn_10 : decode cX12_dayIsDrawn 10 = .ok (.iconst 4, 1) := by decide +kernel
theorem dX12_dayIsDrawn_11 : decode cX12_dayIsDrawn 11 = .ok (.invokevirtual 525, 3) := by decide +kernel
theorem dX12_dayIsDrawn_14 : decode cX12_dayIsDrawn 14 = .ok (.istore_n 2, 1) := by decide +kernel
theorem dX12_dayIsDrawn_15 : decode cX12_dayIsDrawn 15 = .ok (.aload_n 0, 1) := by decide +kernel
theorem dX12_dayIsDrawn_16 : decode cX12_dayIsDrawn 16 = .ok (.iconst 5, 1) := by decide +kernel
theorem dX12_dayIsDrawn_17 : decode cX12_dayIsDrawn 17 = .ok (.invokevirtual 525, 3) := by decide +kernel
theorem dX12_dayIsDrawn_20 : decode cX12_dayIsDrawn 20 = .ok (.iconst 1, 1) := by decide +kernel
theorem dX12_dayIsDrawn_21 : decode cX12_dayIsDrawn 21 = .ok (.iadd, 1) := by decide +kernel
theorem dX12_dayIsDrawn_22 : decode cX12_dayIsDrawn 22 = .ok (.istore_n 3, 1) := by decide +kernel
theorem dX12_dayIsDrawn_23 : decode cX12_dayIsDrawn 23 = .ok (.iload_n 2, 1) := by decide +kernel
theorem dX12_dayIsDrawn_24 : decode cX12_dayIsDrawn 24 = .ok (.iconst 2, 1) := by decide +kernel
theorem dX12_dayIsDrawn_25 : decode cX12_dayIsDrawn 25 = .ok (.if_icmp .ge 18, 3) := by decide +kernel
theorem dX12_dayIsDrawn_28 : decode cX12_dayIsDrawn 28 = .ok (.iload_n 1, 1) := by decide +kernel
theorem dX12_dayIsDrawn_29 : decode cX12_dayIsDrawn 29 = .ok (.aload_n 0, 1) := by decide +kernel
theorem dX12_dayIsDrawn_30 : decode cX12_dayIsDrawn 30 = .ok (.invokevirtual 141, 3) := by decide +kernel
theorem dX12_dayIsDrawn_33 : decode cX12_dayIsDrawn 33 = .ok (.iconst 1, 1) := by decide +kernel
theorem dX12_dayIsDrawn_34 : decode cX12_dayIsDrawn 34 = .ok (.isub, 1) := by decide +kernel
theorem dX12_dayIsDrawn_35 : decode cX12_dayIsDrawn 35 = .ok (.if_icmp .ge 8, 3) := by decide +kernel
theorem dX12_dayIsDrawn_38 : decode cX12_dayIsDrawn 38 = .ok (.aload_n 0, 1) := by decide +kernel
theorem dX12_dayIsDrawn_39 : decode cX12_dayIsDrawn 39 = .ok (.iload_n 1, 1) := by decide +kernel
theorem dX12_dayIsDrawn_40 : decode cX12_dayIsDrawn 40 = .ok (.invokevirtual 458, 3) := by decide +kernel
theorem dX12_dayIsDrawn_43 : decode cX12_dayIsDrawn 43 = .ok (.iload_n 2, 1) := by decide +kernel
theorem dX12_dayIsDrawn_44 : decode cX12_dayIsDrawn 44 = .ok (.iconst 2, 1) := by decide +kernel
theorem dX12_dayIsDrawn_45 : decode cX12_dayIsDrawn 45 = .ok (.if_icmp .ne 48, 3) := by decide +kernel
theorem dX12_dayIsDrawn_48 : decode cX12_dayIsDrawn 48 = .ok (.aload_n 0, 1) := by decide +kernel
theorem dX12_dayIsDrawn_49 : decode cX12_dayIsDrawn 49 = .ok (.getfield 42, 3) := by decide +kernel
theorem dX12_dayIsDrawn_52 : decode cX12_dayIsDrawn 52 = .ok (.iconst 0, 1) := by decide +kernel
theorem dX12_dayIsDrawn_53 : decode cX12_dayIsDrawn 53 = .ok (.iload_n 1, 1) := by decide +kernel
theorem dX12_dayIsDrawn_54 : decode cX12_dayIsDrawn 54 = .ok (.iadd, 1) := by decide +kernel
theorem dX12_dayIsDrawn_55 : decode cX12_dayIsDrawn 55 = .ok (.iaload, 1) := by decide +kernel
theorem dX12_dayIsDrawn_56 : decode cX12_dayIsDrawn 56 = .ok (.iconst 0, 1) := by decide +kernel
theorem dX12_dayIsDrawn_57 : decode cX12_dayIsDrawn 57 = .ok (.invokestatic 28, 3) := by decide +kernel
theorem dX12_dayIsDrawn_60 : decode cX12_dayIsDrawn 60 = .ok (.iload_n 3, 1) := by decide +kernel
theorem dX12_dayIsDrawn_61 : decode cX12_dayIsDrawn 61 = .ok (.if_icmp .eq 32, 3) := by decide +kernel
theorem dX12_dayIsDrawn_64 : decode cX12_dayIsDrawn 64 = .ok (.aload_n 0, 1) := by decide +kernel
theorem dX12_dayIsDrawn_65 : decode cX12_dayIsDrawn 65 = .ok (.iload_n 1, 1) := by decide +kernel
theorem dX12_dayIsDrawn_66 : decode cX12_dayIsDrawn 66 = .ok (.invokevirtual 161, 3) := by decide +kernel
theorem dX12_dayIsDrawn_69 : decode cX12_dayIsDrawn 69 = .ok (.ifCond .ne 24, 3) := by decide +kernel
theorem dX12_dayIsDrawn_72 : decode cX12_dayIsDrawn 72 = .ok (.aload_n 0, 1) := by decide +kernel
theorem dX12_dayIsDrawn_73 : decode cX12_dayIsDrawn 73 = .ok (.getfield 42, 3) := by decide +kernel
theorem dX12_dayIsDrawn_76 : decode cX12_dayIsDrawn 76 = .ok (.iconst 0, 1) := by decide +kernel
theorem dX12_dayIsDrawn_77 : decode cX12_dayIsDrawn 77 = .ok (.iload_n 1, 1) := by decide +kernel
theorem dX12_dayIsDrawn_78 : decode cX12_dayIsDrawn 78 = .ok (.iadd, 1) := by decide +kernel
theorem dX12_dayIsDrawn_79 : decode cX12_dayIsDrawn 79 = .ok (.aload_n 0, 1) := by decide +kernel
theorem dX12_dayIsDrawn_80 : decode cX12_dayIsDrawn 80 = .ok (.getfield 42, 3) := by decide +kernel
theorem dX12_dayIsDrawn_83 : decode cX12_dayIsDrawn 83 = .ok (.iconst 0, 1) := by decide +kernel
theorem dX12_dayIsDrawn_84 : decode cX12_dayIsDrawn 84 = .ok (.iload_n 1, 1) := by decide +kernel
theorem dX12_dayIsDrawn_85 : decode cX12_dayIsDrawn 85 = .ok (.iadd, 1) := by decide +kernel
theorem dX12_dayIsDrawn_86 : decode cX12_dayIsDrawn 86 = .ok (.iaload, 1) := by decide +kernel
theorem dX12_dayIsDrawn_87 : decode cX12_dayIsDrawn 87 = .ok (.iconst 0, 1) := by decide +kernel
theorem dX12_dayIsDrawn_88 : decode cX12_dayIsDrawn 88 = .ok (.iload_n 3, 1) := by decide +kernel
theorem dX12_dayIsDrawn_89 : decode cX12_dayIsDrawn 89 = .ok (.invokestatic 455, 3) := by decide +kernel
theorem dX12_dayIsDrawn_92 : decode cX12_dayIsDrawn 92 = .ok (.iastore, 1) := by decide +kernel
theorem dX12_dayIsDrawn_93 : decode cX12_dayIsDrawn 93 = .ok (.aload_n 0, 1) := by decide +kernel
theorem dX12_dayIsDrawn_94 : decode cX12_dayIsDrawn 94 = .ok (.getfield 42, 3) := by decide +kernel
theorem dX12_dayIsDrawn_97 : decode cX12_dayIsDrawn 97 = .ok (.bipush 19, 2) := by decide +kernel
theorem dX12_dayIsDrawn_99 : decode cX12_dayIsDrawn 99 = .ok (.dup2, 1) := by decide +kernel
theorem dX12_dayIsDrawn_100 : decode cX12_dayIsDrawn 100 = .ok (.iaload, 1) := by decide +kernel
theorem dX12_dayIsDrawn_101 : decode cX12_dayIsDrawn 101 = .ok (.iconst 1, 1) := by decide +kernel
theorem dX12_dayIsDrawn_102 : decode cX12_dayIsDrawn 102 = .ok (.iadd, 1) := by decide +kernel
theorem dX12_dayIsDrawn_103 : decode cX12_dayIsDrawn 103 = .ok (.iastore, 1) := by decide +kernel
theorem dX12_dayIsDrawn_104 : decode cX12_dayIsDrawn 104 = .ok (.return_, 1) := by decide +kernel
abbrev mX12_dayIsDrawn : zq_M := (cX12_dayIsDrawn, RX12, "dayIsDrawn", none, 4)
theorem dX12_weeks_0 : decode cX12_weeks 0 = .ok (.iload_n 1, 1) := by decide +kernel
theorem dX12_weeks_1 : decode cX12_weeks 1 = .ok (.iconst 0, 1) := by decide +kernel
theorem dX12_weeks_2 : decode cX12_weeks 2 = .ok (.ldc 196, 2) := by decide +kernel
theorem dX12_weeks_4 : decode cX12_weeks 4 = .ok (.invokestatic 18, 3) := by decide +kernel
theorem dX12_weeks_7 : decode cX12_weeks 7 = .ok (.ifCond .eq 13, 3) := by decide +kernel
theorem dX12_weeks_10 : decode cX12_weeks 10 = .ok (.iload_n 2, 1) := by decide +kernel
theorem dX12_weeks_11 : decode cX12_weeks 11 = .ok (.iconst 1, 1) := by decide +kernel
theorem dX12_weeks_12 : decode cX12_weeks 12 = .ok (.bipush 60, 2) := by decide +kernel
theorem dX12_weeks_14 : decode cX12_weeks 14 = .ok (.invokestatic 18, 3) := by decide +kernel
theorem dX12_weeks_17 : decode cX12_weeks 17 = .ok (.ifCond .ne 9, 3) := by decide +kernel
theorem dX12_weeks_20 : decode cX12_weeks 20 = .ok (.aload_n 0, 1) := by decide +kernel
theorem dX12_weeks_21 : decode cX12_weeks 21 = .ok (.iconst (-1), 1) := by decide +kernel
theorem dX12_weeks_22 : decode cX12_weeks 22 = .ok (.invokevirtual 135, 3) := by decide +kernel
theorem dX12_weeks_25 : decode cX12_weeks 25 = .ok (.ireturn, 1) := by decide +kernel
theorem dX12_weeks_26 : decode cX12_weeks 26 = .ok (.aload_n 0, 1) := by decide +kernel
theorem dX12_weeks_27 : decode cX12_weeks 27 = .ok (.invokevirtual 141, 3) := by decide +kernel
theorem dX12_weeks_30 : decode cX12_weeks 30 = .ok (.ifCond .ne 10, 3) := by decide +kernel
theorem dX12_weeks_33 : decode cX12_weeks 33 = .ok (.aload_n 0, 1) := by decide +kernel
theorem dX12_weeks_34 : decode cX12_weeks 34 = .ok (.bipush (-3), 2) := by decide +kernel
theorem dX12_weeks_36 : decode cX12_weeks 36 = .ok (.invokevirtual 135, 3) := by decide +kernel
theorem dX12_weeks_39 : decode cX12_weeks 39 = .ok (.ireturn, 1) := by decide +kernel
theorem dX12_weeks_40 : decode cX12_weeks 40 = .ok (.aload_n 0, 1) := by decide +kernel
theorem dX12_weeks_41 : decode cX12_weeks 41 = .ok (.iload_n 1, 1) := by decide +kernel
theorem dX12_weeks_42 : decode cX12_weeks 42 = .ok (.putfield 518, 3) := by decide +kernel
theorem dX12_weeks_45 : decode cX12_weeks 45 = .ok (.aload_n 0, 1) := by decide +kernel
theorem dX12_weeks_46 : decode cX12_weeks 46 = .ok (.aload_n 0, 1) := by decide +kernel
theorem dX12_weeks_47 : decode cX12_weeks 47 = .ok (.invokevirtual 141, 3) := by decide +kernel
theorem dX12_weeks_50 : decode cX12_weeks 50 = .ok (.putfield 129, 3) := by decide +kernel
theorem dX12_weeks_53 : decode cX12_weeks 53 = .ok (.aload_n 0, 1) := by decide +kernel
theorem dX12_weeks_54 : decode cX12_weeks 54 = .ok (.iconst 0, 1) := by decide +kernel
theorem dX12_weeks_55 : decode cX12_weeks 55 = .ok (.invokevirtual 479, 3) := by decide +kernel
theorem dX12_weeks_58 : decode cX12_weeks 58 = .ok (.iconst 0, 1) := by decide +kernel
theorem dX12_weeks_59 : decode cX12_weeks 59 = .ok (.istore_n 3, 1) := by decide +kernel
theorem dX12_weeks_60 : decode cX12_weeks 60 = .ok (.iconst 0, 1) := by decide +kernel
theorem dX12_weeks_61 : decode cX12_weeks 61 = .ok (.istore 4, 2) := by decide +kernel
theorem dX12_weeks_63 : decode cX12_weeks 63 = .ok (.iload 4, 2) := by decide +kernel
theorem dX12_weeks_65 : decode cX12_weeks 65 = .ok (.iload_n 2, 1) := by decide +kernel
theorem dX12_weeks_66 : decode cX12_weeks 66 = .ok (.if_icmp .ge 41, 3) := by decide +kernel
theorem dX12_weeks_69 : decode cX12_weeks 69 = .ok (.aload_n 0, 1) := by decide +kernel
theorem dX12_weeks_70 : decode cX12_weeks 70 = .ok (.getfield 42, 3) := by decide +kernel
theorem dX12_weeks_73 : decode cX12_weeks 73 = .ok (.bipush 19, 2) := by decide +kernel
theorem dX12_weeks_75 : decode cX12_weeks 75 = .ok (.iaload, 1) := by decide +kernel
theorem dX12_weeks_76 : decode cX12_weeks 76 = .ok (.sipush 999, 3) := by decide +kernel
theorem dX12_weeks_79 : decode cX12_weeks 79 = .ok (.if_icmp .ge 28, 3) := by decide +kernel
theorem dX12_weeks_82 : decode cX12_weeks 82 = .ok (.aload_n 0, 1) := by decide +kernel
theorem dX12_weeks_83 : decode cX12_weeks 83 = .ok (.invokevirtual 528, 3) := by decide +kernel
theorem dX12_weeks_86 : decode cX12_weeks 86 = .ok (.iload_n 3, 1) := by decide +kernel
theorem dX12_weeks_87 : decode cX12_weeks 87 = .ok (.aload_n 0, 1) := by decide +kernel
theorem dX12_weeks_88 : decode cX12_weeks 88 = .ok (.invokevirtual 389, 3) := by decide +kernel
theorem dX12_weeks_91 : decode cX12_weeks 91 = .ok (.ifCond .eq 7, 3) := by decide +kernel
theorem dX12_weeks_94 : decode cX12_weeks 94 = .ok (.iconst 1, 1) := by decide +kernel
theorem dX12_weeks_95 : decode cX12_weeks 95 = .ok (.goto 4, 3) := by decide +kernel
theorem dX12_weeks_98 : decode cX12_weeks 98 = .ok (.iconst 0, 1) := by decide +kernel
theorem dX12_weeks_99 : decode cX12_weeks 99 = .ok (.iadd, 1) := by decide +kernel
theorem dX12_weeks_100 : decode cX12_weeks 100 = .ok (.istore_n 3, 1) := by decide +kernel
theorem dX12_weeks_101 : decode cX12_weeks 101 = .ok (.iinc 4 1, 3) := by decide +kernel
theorem dX12_weeks_104 : decode cX12_weeks 104 = .ok (.goto (-41), 3) := by decide +kernel
theorem dX12_weeks_107 : decode cX12_weeks 107 = .ok (.iconst 0, 1) := by decide +kernel
theorem dX12_weeks_108 : decode cX12_weeks 108 = .ok (.istore 4, 2) := by decide +kernel
theorem dX12_weeks_110 : decode cX12_weeks 110 = .ok (.iload 4, 2) := by decide +kernel
theorem dX12_weeks_112 : decode cX12_weeks 112 = .ok (.bipush 20, 2) := by decide +kernel
theorem dX12_weeks_114 : decode cX12_weeks 114 = .ok (.if_icmp .ge 23, 3) := by decide +kernel
theorem dX12_weeks_117 : decode cX12_weeks 117 = .ok (.aload_n 0, 1) := by decide +kernel
theorem dX12_weeks_118 : decode cX12_weeks 118 = .ok (.getfield 126, 3) := by decide +kernel
theorem dX12_weeks_121 : decode cX12_weeks 121 = .ok (.iload 4, 2) := by decide +kernel
theorem dX12_weeks_123 : decode cX12_weeks 123 = .ok (.aload_n 0, 1) := by decide +kernel
theorem dX12_weeks_124 : decode cX12_weeks 124 = .ok (.getfield 42, 3) := by decide +kernel
theorem dX12_weeks_127 : decode cX12_weeks 127 = .ok (.iload 4, 2) := by decide +kernel
theorem dX12_weeks_129 : decode cX12_weeks 129 = .ok (.iaload, 1) := by decide +kernel
theorem dX12_weeks_130 : decode cX12_weeks 130 = .ok (.iastore, 1) := by decide +kernel
theorem dX12_weeks_131 : decode cX12_weeks 131 = .ok (.iinc 4 1, 3) := by decide +kernel
theorem dX12_weeks_134 : decode cX12_weeks 134 = .ok (.goto (-24), 3) := by decide +kernel
theorem dX12_weeks_137 : decode cX12_weeks 137 = .ok (.aload_n 0, 1) := by decide +kernel
theorem dX12_weeks_138 : decode cX12_weeks 138 = .ok (.iconst 0, 1) := by decide +kernel
theorem dX12_weeks_139 : decode cX12_weeks 139 = .ok (.invokevirtual 488, 3) := by decide +kernel
theorem dX12_weeks_142 : decode cX12_weeks 142 = .ok (.aload_n 0, 1) := by decide +kernel
theorem dX12_weeks_143 : decode cX12_weeks 143 = .ok (.iload_n 3, 1) := by decide +kernel
theorem dX12_weeks_144 : decode cX12_weeks 144 = .ok (.invokevirtual 14, 3) := by decide +kernel
theorem dX12_weeks_147 : decode cX12_weeks 147 = .ok (.ireturn, 1) := by decide +kernel
abbrev mX12_weeks : zq_M := (cX12_weeks, RX12, "weeks", (some .int), 5)
theorem dX12_drawn_0 : decode cX12_drawn 0 = .ok (.iload_n 1, 1) := by decide +kernel
theorem dX12_drawn_1 : decode cX12_drawn 1 = .ok (.iconst 0, 1) := by decide +kernel
theorem dX12_drawn_2 : decode cX12_drawn 2 = .ok (.aload_n 0, 1) := by decide +kernel
theorem dX12_drawn_3 : decode cX12_drawn 3 = .ok (.getfield 129, 3) := by decide +kernel
theorem dX12_drawn_6 : decode cX12_drawn 6 = .ok (.iconst 1, 1) := by decide +kernel
theorem dX12_drawn_7 : decode cX12_drawn 7 = .ok (.isub, 1) := by decide +kernel
theorem dX12_drawn_8 : decode cX12_drawn 8 = .ok (.invokestatic 18, 3) := by decide +kernel
theorem dX12_drawn_11 : decode cX12_drawn 11 = .ok (.ifCond .eq 12, 3) := by decide +kernel
theorem dX12_drawn_14 : decode cX12_drawn 14 = .ok (.iload_n 2, 1) := by decide +kernel
theorem dX12_drawn_15 : decode cX12_drawn 15 = .ok (.iconst 0, 1) := by decide +kernel
theorem dX12_drawn_16 : decode cX12_drawn 16 = .ok (.iconst 1, 1) := by decide +kernel
theorem dX12_drawn_17 : decode cX12_drawn 17 = .ok (.invokestatic 18, 3) := by decide +kernel
theorem dX12_drawn_20 : decode cX12_drawn 20 = .ok (.ifCond .ne 5, 3) := by decide +kernel
theorem dX12_drawn_23 : decode cX12_drawn 23 = .ok (.iconst (-1), 1) := by decide +kernel
theorem dX12_drawn_24 : decode cX12_drawn 24 = .ok (.ireturn, 1) := by decide +kernel
theorem dX12_drawn_25 : decode cX12_drawn 25 = .ok (.iload_n 2, 1) := by decide +kernel
theorem dX12_drawn_26 : decode cX12_drawn 26 = .ok (.ifCond .ne 12, 3) := by decide +kernel
theorem dX12_drawn_29 : decode cX12_drawn 29 = .ok (.aload_n 0, 1) := by decide +kernel
theorem dX12_drawn_30 : decode cX12_drawn 30 = .ok (.getfield 126, 3) := by decide +kernel
theorem dX12_drawn_33 : decode cX12_drawn 33 = .ok (.iconst 0, 1) := by decide +kernel
theorem dX12_drawn_34 : decode cX12_drawn 34 = .ok (.iload_n 1, 1) := by decide +kernel
theorem dX12_drawn_35 : decode cX12_drawn 35 = .ok (.iadd, 1) := by decide +kernel
theorem dX12_drawn_36 : decode cX12_drawn 36 = .ok (.iaload, 1) := by decide +kernel
theorem dX12_drawn_37 : decode cX12_drawn 37 = .ok (.ireturn, 1) := by decide +kernel
theorem dX12_drawn_38 : decode cX12_drawn 38 = .ok (.iconst (-1), 1) := by decide +kernel
theorem dX12_drawn_39 : decode cX12_drawn 39 = .ok (.istore_n 3, 1) := by decide +kernel
theorem dX12_drawn_40 : decode cX12_drawn 40 = .ok (.iconst 0, 1) := by decide +kernel
theorem dX12_drawn_41 : decode cX12_drawn 41 = .ok (.istore 4, 2) := by decide +kernel
theorem dX12_drawn_43 : decode cX12_drawn 43 = .ok (.iload 4, 2) := by decide +kernel
theorem dX12_drawn_45 : decode cX12_drawn 45 = .ok (.aload_n 0, 1) := by decide +kernel
theorem dX12_drawn_46 : decode cX12_drawn 46 = .ok (.getfield 129, 3) := by decide +kernel
theorem dX12_drawn_49 : decode cX12_drawn 49 = .ok (.if_icmp .ge 30, 3) := by decide +kernel
theorem dX12_drawn_52 : decode cX12_drawn 52 = .ok (.aload_n 0, 1) := by decide +kernel
theorem dX12_drawn_53 : decode cX12_drawn 53 = .ok (.getfield 126, 3) := by decide +kernel
theorem dX12_drawn_56 : decode cX12_drawn 56 = .ok (.bipush 7, 2) := by decide +kernel
theorem dX12_drawn_58 : decode cX12_drawn 58 = .ok (.iload 4, 2) := by decide +kernel
theorem dX12_drawn_60 : decode cX12_drawn 60 = .ok (.iadd, 1) := by decide +kernel
theorem dX12_drawn_61 : decode cX12_drawn 61 = .ok (.iaload, 1) := by decide +kernel
theorem dX12_drawn_62 : decode cX12_drawn 62 = .ok (.iload_n 1, 1) := by decide +kernel
theorem dX12_drawn_63 : decode cX12_drawn 63 = .ok (.if_icmp .ne 8, 3) := by decide +kernel
theorem dX12_drawn_66 : decode cX12_drawn 66 = .ok (.iload 4, 2) := by decide +kernel
theorem dX12_drawn_68 : decode cX12_drawn 68 = .ok (.goto 4, 3) := by decide +kernel
theorem dX12_drawn_71 : decode cX12_drawn 71 = .ok (.iload_n 3, 1) := by decide +kernel
theorem dX12_drawn_72 : decode cX12_drawn 72 = .ok (.istore_n 3, 1) := by decide +kernel
theorem dX12_drawn_73 : decode cX12_drawn 73 = .ok (.iinc 4 1, 3) := by decide +kernel
theorem dX12_drawn_76 : decode cX12_drawn 76 = .ok (.goto (-33), 3) := by decide +kernel
theorem dX12_drawn_79 : decode cX12_drawn 79 = .ok (.iload_n 3, 1) := by decide +kernel
theorem dX12_drawn_80 : decode cX12_drawn 80 = .ok (.ireturn, 1) := by decide +kernel
abbrev mX12_drawn : zq_M := (cX12_drawn, RX12, "drawn", (some .int), 5)
theorem dX12_count_0 : decode cX12_count 0 = .ok (.iload_n 1, 1) := by decide +kernel
theorem dX12_count_1 : decode cX12_count 1 = .ok (.tableswitch 157 0 14 #[75, 80, 86, 94, 102, 107, 112, 112, 112, 121, 128, 136, 144, 144, 144], 75) := by decide +kernel
theorem dX12_count_76 : decode cX12_count 76 = .ok (.aload_n 0, 1) := by decide +kernel
theorem dX12_count_77 : decode cX12_count 77 = .ok (.invokevirtual 141, 3) := by decide +kernel
theorem dX12_count_80 : decode cX12_count 80 = .ok (.ireturn, 1) := by decide +kernel
theorem dX12_count_81 : decode cX12_count 81 = .ok (.aload_n 0, 1) := by decide +kernel
theorem dX12_count_82 : decode cX12_count 82 = .ok (.iconst (-1), 1) := by decide +kernel
theorem dX12_count_83 : decode cX12_count 83 = .ok (.invokevirtual 334, 3) := by decide +kernel
theorem dX12_count_86 : decode cX12_count 86 = .ok (.ireturn, 1) := by decide +kernel
theorem dX12_count_87 : decode cX12_count 87 = .ok (.aload_n 0, 1) := by decide +kernel
theorem dX12_count_88 : decode cX12_count 88 = .ok (.getfield 42, 3) := by decide +kernel
theorem dX12_count_91 : decode cX12_count 91 = .ok (.bipush 74, 2) := by decide +kernel
theorem dX12_count_93 : decode cX12_count 93 = .ok (.iaload, 1) := by decide +kernel
theorem dX12_count_94 : decode cX12_count 94 = .ok (.ireturn, 1) := by decide +kernel
theorem dX12_count_95 : decode cX12_count 95 = .ok (.aload_n 0, 1) := by decide +kernel
theorem dX12_count_96 : decode cX12_count 96 = .ok (.getfield 42, 3) := by decide +kernel
theorem dX12_count_99 : decode cX12_count 99 = .ok (.bipush 75, 2) := by decide +kernel
theorem dX12_count_101 : decode cX12_count 101 = .ok (.iaload, 1) := by decide +kernel
theorem dX12_count_102 : decode cX12_count 102 = .ok (.ireturn, 1) := by decide +kernel
theorem dX12_count_103 : decode cX12_count 103 = .ok (.aload_n 0, 1) := by decide +kernel
theorem dX12_count_104 : decode cX12_count 104 = .ok (.getfield 11, 3) := by decide +kernel
theorem dX12_count_107 : decode cX12_count 107 = .ok (.ireturn, 1) := by decide +kernel
theorem dX12_count_108 : decode cX12_count 108 = .ok (.aload_n 0, 1) := by decide +kernel
theorem dX12_count_109 : decode cX12_count 109 = .ok (.getfield 175, 3) := by decide +kernel
theorem dX12_count_112 : decode cX12_count 112 = .ok (.ireturn, 1) := by decide +kernel
theorem dX12_count_113 : decode cX12_count 113 = .ok (.aload_n 0, 1) := by decide +kernel
theorem dX12_count_114 : decode cX12_count 114 = .ok (.getfield 7, 3) := by decide +kernel
theorem dX12_count_117 : decode cX12_count 117 = .ok (.iload_n 1, 1) := by decide +kernel
theorem dX12_count_118 : decode cX12_count 118 = .ok (.iconst 5, 1) := by decide +kernel
theorem dX12_count_119 : decode cX12_count 119 = .ok (.isub, 1) := by decide +kernel
theorem dX12_count_120 : decode cX12_count 120 = .ok (.iaload, 1) := by decide +kernel
theorem dX12_count_121 : decode cX12_count 121 = .ok (.ireturn, 1) := by decide +kernel
theorem dX12_count_122 : decode cX12_count 122 = .ok (.aload_n 0, 1) := by decide +kernel
theorem dX12_count_123 : decode cX12_count 123 = .ok (.getfield 7, 3) := by decide +kernel
theorem dX12_count_126 : decode cX12_count 126 = .ok (.iconst 5, 1) := by decide +kernel
theorem dX12_count_127 : decode cX12_count 127 = .ok (.iaload, 1) := by decide +kernel
theorem dX12_count_128 : decode cX12_count 128 = .ok (.ireturn, 1) := by decide +kernel
theorem dX12_count_129 : decode cX12_count 129 = .ok (.aload_n 0, 1) := by decide +kernel
theorem dX12_count_130 : decode cX12_count 130 = .ok (.getfield 7, 3) := by decide +kernel
theorem dX12_count_133 : decode cX12_count 133 = .ok (.bipush 6, 2) := by decide +kernel
theorem dX12_count_135 : decode cX12_count 135 = .ok (.iaload, 1) := by decide +kernel
theorem dX12_count_136 : decode cX12_count 136 = .ok (.ireturn, 1) := by decide +kernel
theorem dX12_count_137 : decode cX12_count 137 = .ok (.aload_n 0, 1) := by decide +kernel
theorem dX12_count_138 : decode cX12_count 138 = .ok (.getfield 42, 3) := by decide +kernel
theorem dX12_count_141 : decode cX12_count 141 = .ok (.bipush 76, 2) := by decide +kernel
theorem dX12_count_143 : decode cX12_count 143 = .ok (.iaload, 1) := by decide +kernel
theorem dX12_count_144 : decode cX12_count 144 = .ok (.ireturn, 1) := by decide +kernel
theorem dX12_count_145 : decode cX12_count 145 = .ok (.aload_n 0, 1) := by decide +kernel
theorem dX12_count_146 : decode cX12_count 146 = .ok (.getfield 42, 3) := by decide +kernel
theorem dX12_count_149 : decode cX12_count 149 = .ok (.iload_n 1, 1) := by decide +kernel
theorem dX12_count_150 : decode cX12_count 150 = .ok (.bipush 12, 2) := by decide +kernel
theorem dX12_count_152 : decode cX12_count 152 = .ok (.isub, 1) := by decide +kernel
theorem dX12_count_153 : decode cX12_count 153 = .ok (.invokestatic 172, 3) := by decide +kernel
theorem dX12_count_156 : decode cX12_count 156 = .ok (.iaload, 1) := by decide +kernel
theorem dX12_count_157 : decode cX12_count 157 = .ok (.ireturn, 1) := by decide +kernel
theorem dX12_count_158 : decode cX12_count 158 = .ok (.iconst (-1), 1) := by decide +kernel
theorem dX12_count_159 : decode cX12_count 159 = .ok (.ireturn, 1) := by decide +kernel
abbrev mX12_count : zq_M := (cX12_count, RX12, "count", (some .int), 2)
section ZL32
variable {l : Launch} {G : zq_G} {D n m : Nat} {σ : zm_S} {ρ : Nat → zq_E} {post : Option Value → Nat → (Nat → zq_E) → Prop} {x w rk al : Nat → Nat} {Lo : Option (List zLC)}
theorem zm_strokesKept {p k y : Int32} {u : Nat} (hD : 75 ≤ D) (hC : zC σ m x w rk) (h72 : zSm (σ.2.1 72 72)) (h19 : zSm (σ.2.1 72 19)) (hF : zForce (σ.2.1 72) Lo) (hu : u ≤ 16) (h44 : σ.1 44 = nI u)
    (hf1 : ((decide (nI 0 ≤ k) && decide (k ≤ nI 3)) && (decide (nI 1 ≤ y) && decide (y ≤ nI 5))) = false → post (some (.int (-(nI 1)))) n (zm_h σ ρ))
    (hf2 : ((decide (nI 0 ≤ k) && decide (k ≤ nI 3)) && (decide (nI 1 ≤ y) && decide (y ≤ nI 5))) = true → zix m p = false → post (some (.int (-(nI 2)))) n (zm_h σ ρ))
    (hf3 : ∀ j a b τ, j < m → a ≤ 3 → 1 ≤ b → b ≤ 5 → p = nI j → k = nI a → y = nI b → (zlen (x j) ≤ a ∨ zlt (x j) a = b ∨ zbar (σ.2.1 72) m j (x j) Lo = true) → zTe τ σ → post (some (.int (-(nI 3)))) n (zm_h τ ρ))
    (ht : ∀ j a b τ L', j < m → a < zlen (x j) → 1 ≤ b → b ≤ 5 → p = nI j → k = nI a → y = nI b → zlt (x j) a ≠ b → zbar (σ.2.1 72) m j (x j) Lo = false → zkp (σ.2.1 94) u (σ.2.1 72) (nI 0) L' → zTe τ (zsK (zkS2 σ u L') (upd (σ.2.1 72) j (nI (zwl (x j) a b)))) → post (some (.int (zI (ztell (zlwV (σ.2.1 72) m j (x j) k y) 1 1 Lo)))) n (zm_h τ ρ)) : zq_Runs l G D 0 0 yX12_strokesKept [.ref 70, .int p, .int k, .int y] n (zm_h σ ρ) post := by
  have hm := hC.1
  have hm7 := hC.2.1
  refine zq_enter (cc := cX12_strokesKept) (nL := 6) (ret := (some .int)) cw_X12_strokesKept (by decide) rfl (Nat.le_of_ble_eq_true rfl) ?_
  refine at_iload_n dX12_strokesKept_0 rfl ?_
  refine at_iconst dX12_strokesKept_1 (v := nI 0) (by decide) ?_
  refine at_iconst dX12_strokesKept_2 (v := nI 3) (by decide) ?_
  refine at_callS3 (d := D - 1) dX12_strokesKept_3 ms_X12_18 (Nat.le_of_ble_eq_true rfl) (zq_r0 (by omega) (by omega) (by omega)) ?_
  refine zm_lies ?_
  refine at_if_eqB (tgt := 16) dX12_strokesKept_6 (by decide) (fun c6 => ?_) (fun c6 => ?_)
  · have hp := hf1 (by rw [c6]; rfl)
    refine at_iconst dX12_strokesKept_16 (v := -1) rfl ?_
    refine at_iret dX12_strokesKept_17 rfl (by omega) (by omega) ?_
    exact hp
  · refine at_iload_n dX12_strokesKept_9 rfl ?_
    refine at_callS1 (d := D - 1) dX12_strokesKept_10 ms_X12_32 (Nat.le_of_ble_eq_true rfl) (zq_r0 (by omega) (by omega) (by omega)) ?_
    refine zm_isLetter (by omega) ?_
    refine at_if_neB (tgt := 18) dX12_strokesKept_13 (by decide) (fun c13 => ?_) (fun c13 => ?_)
    · refine at_aload_n dX12_strokesKept_18 rfl ?_
      refine at_iload_n dX12_strokesKept_19 rfl ?_
      refine at_callV1 (d := D - 1) dX12_strokesKept_20 mv_X12_152 rfl (Nat.le_of_ble_eq_true rfl) (zq_r0 (by omega) (by omega) (by omega)) ?_
      refine zm_isPerson (by omega) hm hm7 ?_
      refine at_if_neB (tgt := 29) dX12_strokesKept_23 (by decide) (fun c23 => ?_) (fun c23 => ?_)
      · obtain ⟨j, hj, rfl⟩ := zix_t c23
        obtain ⟨a, -, ha, rfl⟩ := zlies_n (by decide) (by decide) c6
        obtain ⟨b, hb1, hb5, rfl⟩ := zlies_n (by decide) (by decide) c13
        obtain ⟨g1, g2⟩ := hC.2.2.1 j hj
        have hx5 := g2.2.1
        have hl4 := zlen_le (x j)
        have hlt := zlt_lt (x j) a
        refine at_aload_n dX12_strokesKept_29 rfl ?_
        refine at_get dX12_strokesKept_30 fl_X12_42 rfl rfl ?_
        refine at_iconst dX12_strokesKept_33 (v := nI 0) (by decide) ?_
        refine at_iload_n dX12_strokesKept_34 rfl ?_
        refine at_iaddN dX12_strokesKept_35 ?_
        refine at_mald (a := 72) dX12_strokesKept_36 (by decide) (by decide) (by decide) (by decide) rfl rfl (by show _ < 5684; omega) (by decide) ?_
        rw [Nat.zero_add j, g1]
        refine at_istore dX12_strokesKept_37 (by decide) ?_
        refine at_iload_n dX12_strokesKept_39 rfl ?_
        refine at_iload dX12_strokesKept_40 rfl ?_
        refine at_callS1 (d := D - 1) dX12_strokesKept_42 ms_X12_22 (Nat.le_of_ble_eq_true rfl) (zq_r0 (by omega) (by omega) (by omega)) ?_
        refine zm_lengthOf (by omega) ?_
        refine at_geN (tgt := 66) dX12_strokesKept_45 (by decide) (by omega) (by omega) (fun c45 => ?_) (fun c45 => ?_)
        · have hp := hf3 j a b σ hj ha hb1 hb5 rfl rfl rfl (Or.inl c45) (zTe_r σ)
          refine at_bipush dX12_strokesKept_66 (v := -3) (by decide) ?_
          refine at_iret dX12_strokesKept_68 rfl (by omega) (by omega) ?_
          exact hp
        · refine at_iload dX12_strokesKept_48 rfl ?_
          refine at_iload_n dX12_strokesKept_50 rfl ?_
          refine at_callS2 (d := D - 1) dX12_strokesKept_51 ms_X12_28 (Nat.le_of_ble_eq_true rfl) (zq_r0 (by omega) (by omega) (by omega)) ?_
          refine zm_letterAt (by omega) (by omega) (by omega) ?_
          refine at_iload_n dX12_strokesKept_54 rfl ?_
          refine at_eqN (tgt := 66) dX12_strokesKept_55 (by decide) (by omega) (by omega) (fun c55 => ?_) (fun c55 => ?_)
          · have hp := hf3 j a b σ hj ha hb1 hb5 rfl rfl rfl (Or.inr (Or.inl c55)) (zTe_r σ)
            refine at_bipush dX12_strokesKept_66 (v := -3) (by decide) ?_
            refine at_iret dX12_strokesKept_68 rfl (by omega) (by omega) ?_
            exact hp
          · refine at_aload_n dX12_strokesKept_58 rfl ?_
            refine at_iload_n dX12_strokesKept_59 rfl ?_
            refine at_callV1 (d := D - 1) dX12_strokesKept_60 mv_X12_161 rfl (Nat.le_of_ble_eq_true rfl) (zq_r0 (by omega) (by omega) (by omega)) ?_
            refine zm_isBarred (by omega) hC hj h72 h19 hF (fun τ t1 => ?_)
            refine at_if_eqB (tgt := 69) dX12_strokesKept_63 (by decide) (fun c63 => ?_) (fun c63 => ?_)
            · refine at_aload_n dX12_strokesKept_69 rfl ?_
              refine at_iconst dX12_strokesKept_70 (v := nI 0) (by decide) ?_
              refine at_callV1 (d := D - 1) dX12_strokesKept_71 mv_X12_452 rfl (Nat.le_of_ble_eq_true rfl) (zq_r0 (by omega) (by omega) (by omega)) ?_
              refine zm_keeps (u := u) hu (by rw [t1.1 44 (by omega)]; exact h44) (fun L' hL' => ?_)
              rw [t1.2.1 94 (by decide), t1.2.1 72 (by decide)] at hL'
              have e72 : (zkS2 τ u L').2.1 72 = σ.2.1 72 := (zkS2_72 τ u L').trans (t1.2.1 72 (by decide))
              have hCk : zC (zkS2 τ u L') m x w rk := zC_congr hC e72 ((zkS2_76 τ u L').trans (t1.2.1 76 (by decide)))
              refine at_aload_n dX12_strokesKept_74 rfl ?_
              refine at_iload_n dX12_strokesKept_75 rfl ?_
              refine at_iload_n dX12_strokesKept_76 rfl ?_
              refine at_iload_n dX12_strokesKept_77 rfl ?_
              refine at_callV3 (d := D - 1) dX12_strokesKept_78 mv_X12_164 rfl (Nat.le_of_ble_eq_true rfl) (zq_r0 (by omega) (by omega) (by omega)) ?_
              refine zm_strokeOf (σ := zkS2 τ u L') (by omega) hCk hj (Or.inr ⟨a, by omega, rfl⟩) (zSm_n (by omega)) (by rw [e72]; exact h72) (by rw [e72]; exact h19) (by rw [e72]; exact hF) (fun υ t2 => ?_)
              rw [e72]
              have f72 := (t2.2.1 72 (by decide)).trans e72
              have hp := ht j a b (zsK υ (upd (σ.2.1 72) j (nI (zwl (x j) a b)))) L' hj (by omega) hb1 hb5 rfl rfl rfl c55 c63 hL' (zTe_cK _ (zTe_t t2 (zTe_k u L' t1)))
              refine at_istore dX12_strokesKept_81 (by decide) ?_
              refine at_aload_n dX12_strokesKept_83 rfl ?_
              refine at_get dX12_strokesKept_84 fl_X12_42 rfl rfl ?_
              refine at_iconst dX12_strokesKept_87 (v := nI 0) (by decide) ?_
              refine at_iload_n dX12_strokesKept_88 rfl ?_
              refine at_iaddN dX12_strokesKept_89 ?_
              refine at_iload dX12_strokesKept_90 rfl ?_
              refine at_iload_n dX12_strokesKept_92 rfl ?_
              refine at_iload_n dX12_strokesKept_93 rfl ?_
              refine at_callS3 (d := D - 1) dX12_strokesKept_94 ms_X12_455 (Nat.le_of_ble_eq_true rfl) (zq_r0 (by omega) (by omega) (by omega)) ?_
              refine zm_withLetter (by omega) (by omega) (by omega) ?_
              refine at_mast (a := 72) dX12_strokesKept_97 (by decide) (by decide) (by decide) (by decide) rfl (by rw [Nat.zero_add j]) (by show _ < 5684; omega) (by decide) ?_
              rw [zsK_s, f72]
              refine at_iload dX12_strokesKept_98 rfl ?_
              refine at_iret dX12_strokesKept_100 rfl (by omega) (by omega) ?_
              exact hp
            · have hp := hf3 j a b τ hj ha hb1 hb5 rfl rfl rfl (Or.inr (Or.inr c63)) t1
              refine at_bipush dX12_strokesKept_66 (v := -3) (by decide) ?_
              refine at_iret dX12_strokesKept_68 rfl (by omega) (by omega) ?_
              exact hp
      · have hp := hf2 (by rw [c6, c13]; rfl) c23
        refine at_bipush dX12_strokesKept_26 (v := -2) (by decide) ?_
        refine at_iret dX12_strokesKept_28 rfl (by omega) (by omega) ?_
        exact hp
    · have hp := hf1 (by rw [c13, Bool.and_false])
      refine at_iconst dX12_strokesKept_16 (v := -1) rfl ?_
      refine at_iret dX12_strokesKept_17 rfl (by omega) (by omega) ?_
      exact hp
theorem zm_swapsKept {v : Int32} {u : Nat} (hD : 75 ≤ D) (hC : zC σ m x w rk) (h72 : zSm (σ.2.1 72 72)) (h19 : zSm (σ.2.1 72 19)) (hF : zForce (σ.2.1 72) Lo) (hu : u ≤ 16) (h44 : σ.1 44 = nI u)
    (hf : zix (m - 1) v = false → post (some (.int (-(nI 2)))) n (zm_h σ ρ))
    (ht : ∀ k τ L', k + 1 < m → v = nI k → zkp (σ.2.1 94) u (σ.2.1 72) (nI 1) L' → zTe τ (zsK (zkS2 σ u L') (zswp (σ.2.1 72) k)) → post (some (.int (zI (ztell (zlwV (σ.2.1 72) m (w k) (x (w k)) (-1) (-1)) 2 1 Lo + ztell (zlwV (σ.2.1 72) m (w (k + 1)) (x (w (k + 1))) (-1) (-1)) 2 1 Lo)))) n (zm_h τ ρ)) : zq_Runs l G D 0 0 yX12_swapsKept [.ref 70, .int v] n (zm_h σ ρ) post := by
  have hm := hC.1
  have hm7 := hC.2.1
  refine zq_enter (cc := cX12_swapsKept) (nL := 3) (ret := (some .int)) cw_X12_swapsKept (by decide) rfl (Nat.le_of_ble_eq_true rfl) ?_
  refine at_iload_n dX12_swapsKept_0 rfl ?_
  refine at_iconst dX12_swapsKept_1 (v := nI 0) (by decide) ?_
  refine at_aload_n dX12_swapsKept_2 rfl ?_
  refine at_callV0 (d := D - 1) dX12_swapsKept_3 mv_X12_141 rfl (Nat.le_of_ble_eq_true rfl) (zq_r0 (by omega) (by omega) (by omega)) ?_
  refine zm_many hm ?_
  refine at_iconst dX12_swapsKept_6 (v := nI 2) (by decide) ?_
  refine at_isub dX12_swapsKept_7 ?_
  refine at_callS3 (d := D - 1) dX12_swapsKept_8 ms_X12_18 (Nat.le_of_ble_eq_true rfl) (zq_r0 (by omega) (by omega) (by omega)) ?_
  refine zm_lies ?_
  rw [zix_lies2 (by omega)]
  refine at_if_neB (tgt := 17) dX12_swapsKept_11 (by decide) (fun c11 => ?_) (fun c11 => ?_)
  · obtain ⟨k, hk, rfl⟩ := zix_t c11
    obtain ⟨a1, a2⟩ := hC.2.2.2.1 k (by omega)
    obtain ⟨b1, b2⟩ := hC.2.2.2.1 (k + 1) (by omega)
    refine at_aload_n dX12_swapsKept_17 rfl ?_
    refine at_iconst dX12_swapsKept_18 (v := nI 1) (by decide) ?_
    refine at_callV1 (d := D - 1) dX12_swapsKept_19 mv_X12_452 rfl (Nat.le_of_ble_eq_true rfl) (zq_r0 (by omega) (by omega) (by omega)) ?_
    refine zm_keeps (u := u) hu h44 (fun L' hL' => ?_)
    have e72 : (zkS2 σ u L').2.1 72 = σ.2.1 72 := zkS2_72 σ u L'
    have hCk : zC (zkS2 σ u L') m x w rk := zC_congr hC e72 (zkS2_76 σ u L')
    refine at_aload_n dX12_swapsKept_22 rfl ?_
    refine at_aload_n dX12_swapsKept_23 rfl ?_
    refine at_get dX12_swapsKept_24 fl_X12_42 rfl rfl ?_
    refine at_bipush dX12_swapsKept_27 (v := nI 7) (by decide) ?_
    refine at_iload_n dX12_swapsKept_29 rfl ?_
    refine at_iaddN dX12_swapsKept_30 ?_
    refine at_mald (a := 72) dX12_swapsKept_31 (by decide) (by decide) (by decide) (by decide) rfl rfl (by show _ < 5684; omega) (by decide) ?_
    rw [show (zm_si (zsA σ 94 L') 44 (nI ((if u = 16 then 15 else u) + 1))).2.1 72 = σ.2.1 72 from e72, a1]
    refine at_callV1 (d := D - 1) dX12_swapsKept_32 mv_X12_158 rfl (Nat.le_of_ble_eq_true rfl) (zq_r0 (by omega) (by omega) (by omega)) ?_
    refine zm_stepOf (σ := zkS2 σ u L') (by omega) hCk a2 (by rw [e72]; exact h72) (by rw [e72]; exact h19) (by rw [e72]; exact hF) (fun τ t1 => ?_)
    rw [e72]
    have f72 := (t1.2.1 72 (by decide)).trans e72
    have hCt : zC τ m x w rk := zC_congr hC f72 ((t1.2.1 76 (by decide)).trans (zkS2_76 σ u L'))
    refine at_aload_n dX12_swapsKept_35 rfl ?_
    refine at_aload_n dX12_swapsKept_36 rfl ?_
    refine at_get dX12_swapsKept_37 fl_X12_42 rfl rfl ?_
    refine at_bipush dX12_swapsKept_40 (v := nI 7) (by decide) ?_
    refine at_iload_n dX12_swapsKept_42 rfl ?_
    refine at_iaddN dX12_swapsKept_43 ?_
    refine at_iconst dX12_swapsKept_44 (v := nI 1) (by decide) ?_
    refine at_iaddN dX12_swapsKept_45 ?_
    refine at_mald (a := 72) dX12_swapsKept_46 (by decide) (by decide) (by decide) (by decide) rfl rfl (by show _ < 5684; omega) (by decide) ?_
    rw [f72, show σ.2.1 72 (7 + k + 1) = nI (w (k + 1)) from b1]
    refine at_callV1 (d := D - 1) dX12_swapsKept_47 mv_X12_158 rfl (Nat.le_of_ble_eq_true rfl) (zq_r0 (by omega) (by omega) (by omega)) ?_
    refine zm_stepOf (by omega) hCt b2 (by rw [f72]; exact h72) (by rw [f72]; exact h19) (by rw [f72]; exact hF) (fun υ t2 => ?_)
    rw [f72]
    have g72 := (t2.2.1 72 (by decide)).trans f72
    have hp := ht k (zsK υ (zswp (σ.2.1 72) k)) L' (by omega) rfl hL' (zTe_cK _ (zTe_t t2 t1))
    refine at_iadd dX12_swapsKept_50 ?_
    rw [zI_add]
    refine at_istore_n dX12_swapsKept_51 rfl (by decide) ?_
    refine at_aload_n dX12_swapsKept_52 rfl ?_
    refine at_iload_n dX12_swapsKept_53 rfl ?_
    refine at_callV1 (d := D - 1) dX12_swapsKept_54 mv_X12_458 rfl (Nat.le_of_ble_eq_true rfl) (zq_r0 (by omega) (by omega) (by omega)) ?_
    refine zm_swapsNow (by omega) ?_
    rw [g72]
    refine at_iload_n dX12_swapsKept_57 rfl ?_
    refine at_iret dX12_swapsKept_58 rfl (by omega) (by omega) ?_
    exact hp
  · have hp := hf c11
    refine at_bipush dX12_swapsKept_14 (v := -2) (by decide) ?_
    refine at_iret dX12_swapsKept_16 rfl (by omega) (by omega) ?_
    exact hp
theorem zref_Te {σ τ : zm_S} (j : Nat) (h : zTe σ τ) : zTe (zref σ j) (zref τ j) := by
  unfold zref
  rw [show σ.2.1 71 = τ.2.1 71 from h.2.1 71 (by decide)]
  have := zTe_cA 71 (upd (τ.2.1 71) j (τ.2.1 71 j + nI 1)) (zTe_ci 0 (-(nI j)) h)
  rw [zsA_m, zsA_m]
  show zTe (zsA _ 71 (upd (σ.2.1 71) j _)) (zsA _ 71 (upd (τ.2.1 71) j _))
  rw [show σ.2.1 71 = τ.2.1 71 from h.2.1 71 (by decide)]
  exact this
theorem zI_ge {x : Int} (h : 0 ≤ x) (h2 : x < 2147483648) : 0 ≤ zI x := by
  rw [Int32.le_iff_toInt_le, zI_toInt (by omega) h2]
  exact h
theorem zm_stroke {p k y : Int32} {u : Nat} (hD : 77 ≤ D) (hC : zC σ m x w rk) (h72 : zSm (σ.2.1 72 72)) (h19 : zSm (σ.2.1 72 19)) (hF : zForce (σ.2.1 72) Lo) (hu : u ≤ 16) (h44 : σ.1 44 = nI u)
    (hf1 : ((decide (nI 0 ≤ k) && decide (k ≤ nI 3)) && (decide (nI 1 ≤ y) && decide (y ≤ nI 5))) = false → post (some (.int (-(nI 1)))) n (zm_h (zref σ 1) ρ))
    (hf2 : ((decide (nI 0 ≤ k) && decide (k ≤ nI 3)) && (decide (nI 1 ≤ y) && decide (y ≤ nI 5))) = true → zix m p = false → post (some (.int (-(nI 2)))) n (zm_h (zref σ 2) ρ))
    (hf3 : ∀ j a b τ, j < m → a ≤ 3 → 1 ≤ b → b ≤ 5 → p = nI j → k = nI a → y = nI b → (zlen (x j) ≤ a ∨ zlt (x j) a = b ∨ zbar (σ.2.1 72) m j (x j) Lo = true) → zTe τ (zref σ 3) → post (some (.int (-(nI 3)))) n (zm_h τ ρ))
    (ht : ∀ j a b τ L', j < m → a < zlen (x j) → 1 ≤ b → b ≤ 5 → p = nI j → k = nI a → y = nI b → zlt (x j) a ≠ b → zbar (σ.2.1 72) m j (x j) Lo = false → zkp (σ.2.1 94) u (σ.2.1 72) (nI 0) L' → zTe τ (zm_si (zsK (zkS2 σ u L') (upd (σ.2.1 72) j (nI (zwl (x j) a b)))) 0 0) → post (some (.int (zI (ztell (zlwV (σ.2.1 72) m j (x j) k y) 1 1 Lo)))) n (zm_h τ ρ)) : zq_Runs l G D 0 0 yX12_stroke [.ref 70, .int p, .int k, .int y] n (zm_h σ ρ) post := by
  refine zq_enter (cc := cX12_stroke) (nL := 4) (ret := (some .int)) cw_X12_stroke (by decide) rfl (Nat.le_of_ble_eq_true rfl) ?_
  refine at_aload_n dX12_stroke_0 rfl ?_
  refine at_aload_n dX12_stroke_1 rfl ?_
  refine at_iload_n dX12_stroke_2 rfl ?_
  refine at_iload_n dX12_stroke_3 rfl ?_
  refine at_iload_n dX12_stroke_4 rfl ?_
  refine at_callV3 (d := D - 1) dX12_stroke_5 mv_X12_464 rfl (Nat.le_of_ble_eq_true rfl) (zq_r0 (by omega) (by omega) (by omega)) ?_
  refine zm_strokesKept (by omega) hC h72 h19 hF hu h44 (fun e => ?_) (fun e1 e2 => ?_) (fun j a b τ e1 e2 e3 e4 e5 e6 e7 e8 t1 => ?_) (fun j a b τ L' e1 e2 e3 e4 e5 e6 e7 e8 e9 e10 t1 => ?_)
  · have hp := hf1 e
    refine at_callV1 (d := D - 1) dX12_stroke_8 mv_X12_467 rfl (Nat.le_of_ble_eq_true rfl) (zq_r0 (by omega) (by omega) (by omega)) ?_
    refine zm_goodOr_n (j := 1) (by omega) (by decide) (by decide) ?_
    refine at_iret dX12_stroke_11 rfl (by omega) (by omega) ?_
    exact hp
  · have hp := hf2 e1 e2
    refine at_callV1 (d := D - 1) dX12_stroke_8 mv_X12_467 rfl (Nat.le_of_ble_eq_true rfl) (zq_r0 (by omega) (by omega) (by omega)) ?_
    refine zm_goodOr_n (j := 2) (by omega) (by decide) (by decide) ?_
    refine at_iret dX12_stroke_11 rfl (by omega) (by omega) ?_
    exact hp
  · have hp := hf3 j a b _ e1 e2 e3 e4 e5 e6 e7 e8 (zref_Te 3 t1)
    refine at_callV1 (d := D - 1) dX12_stroke_8 mv_X12_467 rfl (Nat.le_of_ble_eq_true rfl) (zq_r0 (by omega) (by omega) (by omega)) ?_
    refine zm_goodOr_n (j := 3) (by omega) (by decide) (by decide) ?_
    refine at_iret dX12_stroke_11 rfl (by omega) (by omega) ?_
    exact hp
  · have hp := ht j a b _ L' e1 e2 e3 e4 e5 e6 e7 e8 e9 e10 (zTe_ci 0 0 t1)
    have hb := ztell_b (W := zlwV (σ.2.1 72) m j (x j) k y) (h := 1) (t := 1) Lo (by omega)
    refine at_callV1 (d := D - 1) dX12_stroke_8 mv_X12_467 rfl (Nat.le_of_ble_eq_true rfl) (zq_r0 (by omega) (by omega) (by omega)) ?_
    refine zm_goodOr_p (by omega) (zI_ge (by omega) (by omega)) ?_
    refine at_iret dX12_stroke_11 rfl (by omega) (by omega) ?_
    exact hp
theorem zm_swap {v : Int32} {u : Nat} (hD : 77 ≤ D) (hC : zC σ m x w rk) (h72 : zSm (σ.2.1 72 72)) (h19 : zSm (σ.2.1 72 19)) (hF : zForce (σ.2.1 72) Lo) (hu : u ≤ 16) (h44 : σ.1 44 = nI u)
    (hf : zix (m - 1) v = false → post (some (.int (-(nI 2)))) n (zm_h (zref σ 2) ρ))
    (ht : ∀ k τ L', k + 1 < m → v = nI k → zkp (σ.2.1 94) u (σ.2.1 72) (nI 1) L' → zTe τ (zm_si (zsK (zkS2 σ u L') (zswp (σ.2.1 72) k)) 0 0) → post (some (.int (zI (ztell (zlwV (σ.2.1 72) m (w k) (x (w k)) (-1) (-1)) 2 1 Lo + ztell (zlwV (σ.2.1 72) m (w (k + 1)) (x (w (k + 1))) (-1) (-1)) 2 1 Lo)))) n (zm_h τ ρ)) : zq_Runs l G D 0 0 yX12_swap [.ref 70, .int v] n (zm_h σ ρ) post := by
  refine zq_enter (cc := cX12_swap) (nL := 2) (ret := (some .int)) cw_X12_swap (by decide) rfl (Nat.le_of_ble_eq_true rfl) ?_
  refine at_aload_n dX12_swap_0 rfl ?_
  refine at_aload_n dX12_swap_1 rfl ?_
  refine at_iload_n dX12_swap_2 rfl ?_
  refine at_callV1 (d := D - 1) dX12_swap_3 mv_X12_470 rfl (Nat.le_of_ble_eq_true rfl) (zq_r0 (by omega) (by omega) (by omega)) ?_
  refine zm_swapsKept (by omega) hC h72 h19 hF hu h44 (fun e => ?_) (fun k τ L' e1 e2 e3 t1 => ?_)
  · have hp := hf e
    refine at_callV1 (d := D - 1) dX12_swap_6 mv_X12_467 rfl (Nat.le_of_ble_eq_true rfl) (zq_r0 (by omega) (by omega) (by omega)) ?_
    refine zm_goodOr_n (j := 2) (by omega) (by decide) (by decide) ?_
    refine at_iret dX12_swap_9 rfl (by omega) (by omega) ?_
    exact hp
  · have hp := ht k _ L' e1 e2 e3 (zTe_ci 0 0 t1)
    have hb := ztell_b (W := zlwV (σ.2.1 72) m (w k) (x (w k)) (-1) (-1)) (h := 2) (t := 1) Lo (by omega)
    have hb2 := ztell_b (W := zlwV (σ.2.1 72) m (w (k + 1)) (x (w (k + 1))) (-1) (-1)) (h := 2) (t := 1) Lo (by omega)
    refine at_callV1 (d := D - 1) dX12_swap_6 mv_X12_467 rfl (Nat.le_of_ble_eq_true rfl) (zq_r0 (by omega) (by omega) (by omega)) ?_
    refine zm_goodOr_p (by omega) (zI_ge (by omega) (by omega)) ?_
    refine at_iret dX12_swap_9 rfl (by omega) (by omega) ?_
    exact hp
theorem zix_d {M : Nat} {v p : Int32} (h : (v = -1 ∧ M = 0) ∨ (v = nI M ∧ M ≤ 7)) : (decide (nI 0 ≤ p) && decide (p ≤ v - nI 1)) = zix M p := by
  rcases h with ⟨rfl, rfl⟩ | ⟨rfl, h⟩
  · unfold zix
    rw [Bool.eq_iff_iff]
    have h1 : ((-1 : Int32) - nI 1).toInt = -2 := by decide
    have h0 : (nI 0).toInt = 0 := rfl
    simp only [Bool.and_eq_true, decide_eq_true_eq, Int32.le_iff_toInt_le, h1, h0]
    omega
  · exact zix_lies (by omega)
theorem zm_drawn_loop {p v : Int32} {M : Nat} (h53 : σ.1 53 = nI M) (hM : M ≤ 7) (hp : post (some (.int (zplace (σ.2.1 97) p M))) n (zm_h σ ρ)) : ∀ k i : Nat, i + k = M → zq_At l G (zq_rm D 0 0) mX12_drawn (zq_QF G post 0 0) 43 [(0, .ref 70), (1, .int p), (2, .int v), (3, .int (zplace (σ.2.1 97) p i)), (4, .int (nI i))] [] n (zm_h σ ρ) 0 0 := by
  intro k
  induction k with
  | zero =>
    intro i hi
    obtain rfl : i = M := hi
    refine at_iload dX12_drawn_43 rfl ?_
    refine at_aload_n dX12_drawn_45 rfl ?_
    refine at_get dX12_drawn_46 fl_X12_129 rfl rfl ?_
    rw [h53]
    refine at_geN (tgt := 79) dX12_drawn_49 (by decide) (by omega) (by omega) (fun c49 => ?_) (fun c49 => ?_)
    · refine at_iload_n dX12_drawn_79 rfl ?_
      refine at_iret dX12_drawn_80 rfl (by omega) (by omega) ?_
      exact hp
    · omega
  | succ k ih =>
    intro i hi
    have hn := ih (i + 1) (by omega)
    unfold zplace at hn
    refine at_iload dX12_drawn_43 rfl ?_
    refine at_aload_n dX12_drawn_45 rfl ?_
    refine at_get dX12_drawn_46 fl_X12_129 rfl rfl ?_
    rw [h53]
    refine at_geN (tgt := 79) dX12_drawn_49 (by decide) (by omega) (by omega) (fun c49 => ?_) (fun c49 => ?_)
    · omega
    · refine at_aload_n dX12_drawn_52 rfl ?_
      refine at_get dX12_drawn_53 fl_X12_126 rfl rfl ?_
      refine at_bipush dX12_drawn_56 (v := nI 7) (by decide) ?_
      refine at_iload dX12_drawn_58 rfl ?_
      refine at_iaddN dX12_drawn_60 ?_
      refine at_mald (a := 97) dX12_drawn_61 (by decide) (by decide) (by decide) (by decide) rfl rfl (by show _ < 20; omega) (by decide) ?_
      refine at_iload_n dX12_drawn_62 rfl ?_
      refine at_icmp_ne (tgt := 71) dX12_drawn_63 (by decide) (fun c63 => ?_) (fun c63 => ?_)
      · rw [if_neg c63] at hn
        refine at_iload_n dX12_drawn_71 rfl ?_
        refine at_istore_n dX12_drawn_72 rfl (by decide) ?_
        refine at_iincN dX12_drawn_73 rfl (by decide) ?_
        refine at_goto (tgt := 43) dX12_drawn_76 (by decide) ?_
        exact hn
      · rw [if_pos c63] at hn
        refine at_iload dX12_drawn_66 rfl ?_
        refine at_goto (tgt := 72) dX12_drawn_68 (by decide) ?_
        refine at_istore_n dX12_drawn_72 rfl (by decide) ?_
        refine at_iincN dX12_drawn_73 rfl (by decide) ?_
        refine at_goto (tgt := 43) dX12_drawn_76 (by decide) ?_
        exact hn
theorem zm_drawn {p v : Int32} {M : Nat} (hD : 1 ≤ D) (h53 : (σ.1 53 = -1 ∧ M = 0) ∨ (σ.1 53 = nI M ∧ M ≤ 7)) (hf : (zix M p && (decide (nI 0 ≤ v) && decide (v ≤ nI 1))) = false → post (some (.int (-1))) n (zm_h σ ρ)) (h0 : ∀ j, j < M → p = nI j → v = nI 0 → post (some (.int (σ.2.1 97 j))) n (zm_h σ ρ)) (h1 : ∀ j, j < M → p = nI j → v = nI 1 → post (some (.int (zplace (σ.2.1 97) p M))) n (zm_h σ ρ)) : zq_Runs l G D 0 0 yX12_drawn [.ref 70, .int p, .int v] n (zm_h σ ρ) post := by
  refine zq_enter (cc := cX12_drawn) (nL := 5) (ret := (some .int)) cw_X12_drawn (by decide) rfl (Nat.le_of_ble_eq_true rfl) ?_
  refine at_iload_n dX12_drawn_0 rfl ?_
  refine at_iconst dX12_drawn_1 (v := nI 0) (by decide) ?_
  refine at_aload_n dX12_drawn_2 rfl ?_
  refine at_get dX12_drawn_3 fl_X12_129 rfl rfl ?_
  refine at_iconst dX12_drawn_6 (v := nI 1) (by decide) ?_
  refine at_isub dX12_drawn_7 ?_
  refine at_callS3 (d := D - 1) dX12_drawn_8 ms_X12_18 (Nat.le_of_ble_eq_true rfl) (zq_r0 (by omega) (by omega) (by omega)) ?_
  refine zm_lies ?_
  rw [zix_d h53]
  refine at_if_eqB (tgt := 23) dX12_drawn_11 (by decide) (fun c11 => ?_) (fun c11 => ?_)
  · have hp := hf (by rw [c11]; rfl)
    refine at_iconst dX12_drawn_23 (v := -1) rfl ?_
    refine at_iret dX12_drawn_24 rfl (by omega) (by omega) ?_
    exact hp
  · obtain ⟨j, hj, rfl⟩ := zix_t c11
    obtain ⟨g53, hM⟩ := h53.resolve_left (fun e => by omega)
    refine at_iload_n dX12_drawn_14 rfl ?_
    refine at_iconst dX12_drawn_15 (v := nI 0) (by decide) ?_
    refine at_iconst dX12_drawn_16 (v := nI 1) (by decide) ?_
    refine at_callS3 (d := D - 1) dX12_drawn_17 ms_X12_18 (Nat.le_of_ble_eq_true rfl) (zq_r0 (by omega) (by omega) (by omega)) ?_
    refine zm_lies ?_
    refine at_if_neB (tgt := 25) dX12_drawn_20 (by decide) (fun c20 => ?_) (fun c20 => ?_)
    · obtain ⟨b, -, hb, rfl⟩ := zlies_n (by decide) (by decide) c20
      refine at_iload_n dX12_drawn_25 rfl ?_
      refine at_if_neN (tgt := 38) dX12_drawn_26 (by decide) (by omega) (fun c26 => ?_) (fun c26 => ?_)
      · refine at_iconst dX12_drawn_38 (v := -1) rfl ?_
        refine at_istore_n dX12_drawn_39 rfl (by decide) ?_
        refine at_iconst dX12_drawn_40 (v := nI 0) (by decide) ?_
        refine at_istore dX12_drawn_41 (by decide) ?_
        obtain rfl : b = 1 := by omega
        exact zm_drawn_loop g53 hM (h1 j hj rfl rfl) M 0 (Nat.zero_add _)
      · subst c26
        have hp := h0 j hj rfl rfl
        refine at_aload_n dX12_drawn_29 rfl ?_
        refine at_get dX12_drawn_30 fl_X12_126 rfl rfl ?_
        refine at_iconst dX12_drawn_33 (v := nI 0) (by decide) ?_
        refine at_iload_n dX12_drawn_34 rfl ?_
        refine at_iaddN dX12_drawn_35 ?_
        refine at_mald (a := 97) dX12_drawn_36 (by decide) (by decide) (by decide) (by decide) rfl rfl (by show _ < 20; omega) (by decide) ?_
        rw [Nat.zero_add j]
        refine at_iret dX12_drawn_37 rfl (by omega) (by omega) ?_
        exact hp
    · have hp := hf (by rw [c20, Bool.and_false])
      refine at_iconst dX12_drawn_23 (v := -1) rfl ?_
      refine at_iret dX12_drawn_24 rfl (by omega) (by omega) ?_
      exact hp
end ZL32

