/-! ===== the class: alphabets ===== -/
/-- whether all demands from i on (k of them) are met -/
def zmA (rk : Nat → Nat) (dm : Nat → Nat) : Nat → Nat → Bool
  | 0, _ => true
  | k + 1, i => if zmt rk (dm i) = true then zmA rk dm k (i + 1) else false
theorem zq_rest_n {i : Nat} (h : i < 5) : zq_rest i = nI (zsz i) := by
  rcases (show i = 0 ∨ i = 1 ∨ i = 2 ∨ i = 3 ∨ i = 4 by omega) with rfl | rfl | rfl | rfl | rfl <;> rfl
theorem zrk_0 {al : Nat → Nat} (h : ∀ k, k < 5 → 1 ≤ al k) (R : Nat → Int32) : zrk R al 5 0 = R 0 := by
  have h0 := h 0 (by decide)
  have h1 := h 1 (by decide)
  have h2 := h 2 (by decide)
  have h3 := h 3 (by decide)
  have h4 := h 4 (by decide)
  show upd (upd (upd (upd (upd R (al 0) (nI 0)) (al 1) (nI 1)) (al 2) (nI 2)) (al 3) (nI 3)) (al 4) (nI 4) 0 = _
  rw [upd_o _ (by omega), upd_o _ (by omega), upd_o _ (by omega), upd_o _ (by omega), upd_o _ (by omega)]
theorem zrk_ord {al : Nat → Nat} (h : zpm al) {R : Nat → Int32} (h0 : R 0 = -1) : zOrd (zrk R al 5) (zrkN al) := by
  intro y hy
  unfold zr0
  by_cases e : y = 0
  · subst e; rw [if_pos rfl, zrk_0 (fun k hk => (h.1 k hk).1), h0]; rfl
  · rw [if_neg e, zrk_at h R (by omega) hy]; rfl
theorem zrtF_st (ok : Nat → Bool) (val : Nat → Int32) (i : Int32) : ∀ k p c fd, (∀ c', c ≤ c' → c' < c + k → nI c' ≠ i) → (zrtF ok val i k p c fd).2 = fd
  | 0, _, _, _, _ => rfl
  | k + 1, p, c, fd, h => by
    unfold zrtF
    split
    · rw [if_neg (h c (Nat.le_refl _) (by omega))]
      exact zrtF_st ok val i k (p + 1) (c + 1) fd (fun c' h1 h2 => h c' (by omega) (by omega))
    · exact zrtF_st ok val i k (p + 1) c fd (fun c' h1 h2 => h c' h1 (by omega))
theorem dX0_clear_0 : decode cX0_clear 0 = .ok (.aload_n 0, 1) := by decide +kernel
theorem dX0_clear_1 : decode cX0_clear 1 = .ok (.iconst 0, 1) := by decide +kernel
theorem dX0_clear_2 : decode cX0_clear 2 = .ok (.putfield 18, 3) := by decide +kernel
theorem dX0_clear_5 : decode cX0_clear 5 = .ok (.return_, 1) := by decide +kernel
abbrev mX0_clear : zq_M := (cX0_clear, RX0, "clear", none, 1)
theorem dX0_demand_0 : decode cX0_demand 0 = .ok (.aload_n 0, 1) := by decide +kernel
theorem dX0_demand_1 : decode cX0_demand 1 = .ok (.getfield 18, 3) := by decide +kernel
theorem dX0_demand_4 : decode cX0_demand 4 = .ok (.ifCond .lt 35, 3) := by decide +kernel
theorem dX0_demand_7 : decode cX0_demand 7 = .ok (.aload_n 0, 1) := by decide +kernel
theorem dX0_demand_8 : decode cX0_demand 8 = .ok (.getfield 18, 3) := by decide +kernel
theorem dX0_demand_11 : decode cX0_demand 11 = .ok (.aload_n 0, 1) := by decide +kernel
theorem dX0_demand_12 : decode cX0_demand 12 = .ok (.getfield 15, 3) := by decide +kernel
theorem dX0_demand_15 : decode cX0_demand 15 = .ok (.arraylength, 1) := by decide +kernel
theorem dX0_demand_16 : decode cX0_demand 16 = .ok (.if_icmp .ge 23, 3) := by decide +kernel
theorem dX0_demand_19 : decode cX0_demand 19 = .ok (.aload_n 0, 1) := by decide +kernel
theorem dX0_demand_20 : decode cX0_demand 20 = .ok (.getfield 15, 3) := by decide +kernel
theorem dX0_demand_23 : decode cX0_demand 23 = .ok (.aload_n 0, 1) := by decide +kernel
theorem dX0_demand_24 : decode cX0_demand 24 = .ok (.getfield 18, 3) := by decide +kernel
theorem dX0_demand_27 : decode cX0_demand 27 = .ok (.iload_n 1, 1) := by decide +kernel
theorem dX0_demand_28 : decode cX0_demand 28 = .ok (.iastore, 1) := by decide +kernel
theorem dX0_demand_29 : decode cX0_demand 29 = .ok (.aload_n 0, 1) := by decide +kernel
theorem dX0_demand_30 : decode cX0_demand 30 = .ok (.dup, 1) := by decide +kernel
theorem dX0_demand_31 : decode cX0_demand 31 = .ok (.getfield 18, 3) := by decide +kernel
theorem dX0_demand_34 : decode cX0_demand 34 = .ok (.iconst 1, 1) := by decide +kernel
theorem dX0_demand_35 : decode cX0_demand 35 = .ok (.iadd, 1) := by decide +kernel
theorem dX0_demand_36 : decode cX0_demand 36 = .ok (.putfield 18, 3) := by decide +kernel
theorem dX0_demand_39 : decode cX0_demand 39 = .ok (.return_, 1) := by decide +kernel
abbrev mX0_demand : zq_M := (cX0_demand, RX0, "demand", none, 2)
theorem dX0_found_0 : decode cX0_found 0 = .ok (.iconst 0, 1) := by decide +kernel
theorem dX0_found_1 : decode cX0_found 1 = .ok (.istore_n 2, 1) := by decide +kernel
theorem dX0_found_2 : decode cX0_found 2 = .ok (.iconst 0, 1) := by decide +kernel
theorem dX0_found_3 : decode cX0_found 3 = .ok (.istore_n 3, 1) := by decide +kernel
theorem dX0_found_4 : decode cX0_found 4 = .ok (.iload_n 3, 1) := by decide +kernel
theorem dX0_found_5 : decode cX0_found 5 = .ok (.bipush 120, 2) := by decide +kernel
theorem dX0_found_7 : decode cX0_found 7 = .ok (.if_icmp .ge 34, 3) := by decide +kernel
theorem dX0_found_10 : decode cX0_found 10 = .ok (.aload_n 0, 1) := by decide +kernel
theorem dX0_found_11 : decode cX0_found 11 = .ok (.iload_n 3, 1) := by decide +kernel
theorem dX0_found_12 : decode cX0_found 12 = .ok (.invokevirtual 28, 3) := by decide +kernel
theorem dX0_found_15 : decode cX0_found 15 = .ok (.istore 4, 2) := by decide +kernel
theorem dX0_found_17 : decode cX0_found 17 = .ok (.aload_n 0, 1) := by decide +kernel
theorem dX0_found_18 : decode cX0_found 18 = .ok (.invokevirtual 32, 3) := by decide +kernel
theorem dX0_found_21 : decode cX0_found 21 = .ok (.ifCond .eq 14, 3) := by decide +kernel
theorem dX0_found_24 : decode cX0_found 24 = .ok (.iload_n 2, 1) := by decide +kernel
theorem dX0_found_25 : decode cX0_found 25 = .ok (.iload_n 1, 1) := by decide +kernel
theorem dX0_found_26 : decode cX0_found 26 = .ok (.if_icmp .ne 6, 3) := by decide +kernel
theorem dX0_found_29 : decode cX0_found 29 = .ok (.iload 4, 2) := by decide +kernel
theorem dX0_found_31 : decode cX0_found 31 = .ok (.ireturn, 1) := by decide +kernel
theorem dX0_found_32 : decode cX0_found 32 = .ok (.iinc 2 1, 3) := by decide +kernel
theorem dX0_found_35 : decode cX0_found 35 = .ok (.iinc 3 1, 3) := by decide +kernel
theorem dX0_found_38 : decode cX0_found 38 = .ok (.goto (-34), 3) := by decide +kernel
theorem dX0_found_41 : decode cX0_found 41 = .ok (.iload_n 1, 1) := by decide +kernel
theorem dX0_found_42 : decode cX0_found 42 = .ok (.iconst (-1), 1) := by decide +kernel
theorem dX0_found_43 : decode cX0_found 43 = .ok (.if_icmp .ne 7, 3) := by decide +kernel
theorem dX0_found_46 : decode cX0_found 46 = .ok (.iload_n 2, 1) := by decide +kernel
theorem dX0_found_47 : decode cX0_found 47 = .ok (.goto 4, 3) := by decide +kernel
theorem dX0_found_50 : decode cX0_found 50 = .ok (.iconst (-1), 1) := by decide +kernel
theorem dX0_found_51 : decode cX0_found 51 = .ok (.ireturn, 1) := by decide +kernel
abbrev mX0_found : zq_M := (cX0_found, RX0, "found", (some .int), 5)
theorem dX0_take_0 : decode cX0_take 0 = .ok (.iconst 0, 1) := by decide +kernel
theorem dX0_take_1 : decode cX0_take 1 = .ok (.istore_n 2, 1) := by decide +kernel
theorem dX0_take_2 : decode cX0_take 2 = .ok (.iconst 0, 1) := by decide +kernel
theorem dX0_take_3 : decode cX0_take 3 = .ok (.istore_n 3, 1) := by decide +kernel
theorem dX0_take_4 : decode cX0_take 4 = .ok (.iload_n 1, 1) := by decide +kernel
theorem dX0_take_5 : decode cX0_take 5 = .ok (.istore 4, 2) := by decide +kernel
theorem dX0_take_7 : decode cX0_take 7 = .ok (.iconst 0, 1) := by decide +kernel
theorem dX0_take_8 : decode cX0_take 8 = .ok (.istore 5, 2) := by decide +kernel
theorem dX0_take_10 : decode cX0_take 10 = .ok (.iload 5, 2) := by decide +kernel
theorem dX0_take_12 : decode cX0_take 12 = .ok (.iconst 5, 1) := by decide +kernel
theorem dX0_take_13 : decode cX0_take 13 = .ok (.if_icmp .ge 105, 3) := by decide +kernel
theorem dX0_take_16 : decode cX0_take 16 = .ok (.iload 4, 2) := by decide +kernel
theorem dX0_take_18 : decode cX0_take 18 = .ok (.getstatic 36, 3) := by decide +kernel
theorem dX0_take_21 : decode cX0_take 21 = .ok (.iload 5, 2) := by decide +kernel
theorem dX0_take_23 : decode cX0_take 23 = .ok (.iaload, 1) := by decide +kernel
theorem dX0_take_24 : decode cX0_take 24 = .ok (.idiv, 1) := by decide +kernel
theorem dX0_take_25 : decode cX0_take 25 = .ok (.istore 6, 2) := by decide +kernel
theorem dX0_take_27 : decode cX0_take 27 = .ok (.iload 4, 2) := by decide +kernel
theorem dX0_take_29 : decode cX0_take 29 = .ok (.getstatic 36, 3) := by decide +kernel
theorem dX0_take_32 : decode cX0_take 32 = .ok (.iload 5, 2) := by decide +kernel
theorem dX0_take_34 : decode cX0_take 34 = .ok (.iaload, 1) := by decide +kernel
theorem dX0_take_35 : decode cX0_take 35 = .ok (.irem, 1) := by decide +kernel
theorem dX0_take_36 : decode cX0_take 36 = .ok (.istore 4, 2) := by decide +kernel
theorem dX0_take_38 : decode cX0_take 38 = .ok (.iconst 1, 1) := by decide +kernel
theorem dX0_take_39 : decode cX0_take 39 = .ok (.istore 7, 2) := by decide +kernel
theorem dX0_take_41 : decode cX0_take 41 = .ok (.iload 7, 2) := by decide +kernel
theorem dX0_take_43 : decode cX0_take 43 = .ok (.iconst 5, 1) := by decide +kernel
theorem dX0_take_44 : decode cX0_take 44 = .ok (.if_icmp .ge 44, 3) := by decide +kernel
theorem dX0_take_47 : decode cX0_take 47 = .ok (.iload 6, 2) := by decide +kernel
theorem dX0_take_49 : decode cX0_take 49 = .ok (.ifCond .gt 13, 3) := by decide +kernel
theorem dX0_take_52 : decode cX0_take 52 = .ok (.iload_n 3, 1) := by decide +kernel
theorem dX0_take_53 : decode cX0_take 53 = .ok (.iload 7, 2) := by decide +kernel
theorem dX0_take_55 : decode cX0_take 55 = .ok (.ishr, 1) := by decide +kernel
theorem dX0_take_56 : decode cX0_take 56 = .ok (.iconst 1, 1) := by decide +kernel
theorem dX0_take_57 : decode cX0_take 57 = .ok (.iand, 1) := by decide +kernel
theorem dX0_take_58 : decode cX0_take 58 = .ok (.iconst 1, 1) := by decide +kernel
theorem dX0_take_59 : decode cX0_take 59 = .ok (.if_icmp .ne 29, 3) := by decide +kernel
theorem dX0_take_62 : decode cX0_take 62 = .ok (.iload 6, 2) := by decide +kernel
theorem dX0_take_64 : decode cX0_take 64 = .ok (.iload_n 3, 1) := by decide +kernel
theorem dX0_take_65 : decode cX0_take 65 = .ok (.iload 7, 2) := by decide +kernel
theorem dX0_take_67 : decode cX0_take 67 = .ok (.ishr, 1) := by decide +kernel
theorem dX0_take_68 : decode cX0_take 68 = .ok (.iconst 1, 1) := by decide +kernel
theorem dX0_take_69 : decode cX0_take 69 = .ok (.iand, 1) := by decide +kernel
theorem dX0_take_70 : decode cX0_take 70 = .ok (.iconst 1, 1) := by decide +kernel
theorem dX0_take_71 : decode cX0_take 71 = .ok (.if_icmp .ne 7, 3) := by decide +kernel
theorem dX0_take_74 : decode cX0_take 74 = .ok (.iconst 0, 1) := by decide +kernel
theorem dX0_take_75 : decode cX0_take 75 = .ok (.goto 4, 3) := by decide +kernel
theorem dX0_take_78 : decode cX0_take 78 = .ok (.iconst 1, 1) := by decide +kernel
theorem dX0_take_79 : decode cX0_take 79 = .ok (.isub, 1) := by decide +kernel
theorem dX0_take_80 : decode cX0_take 80 = .ok (.istore 6, 2) := by decide +kernel
theorem dX0_take_82 : decode cX0_take 82 = .ok (.iinc 7 1, 3) := by decide +kernel
theorem dX0_take_85 : decode cX0_take 85 = .ok (.goto (-44), 3) := by decide +kernel
theorem dX0_take_88 : decode cX0_take 88 = .ok (.iload_n 3, 1) := by decide +kernel
theorem dX0_take_89 : decode cX0_take 89 = .ok (.iconst 1, 1) := by decide +kernel
theorem dX0_take_90 : decode cX0_take 90 = .ok (.iload 7, 2) := by decide +kernel
theorem dX0_take_92 : decode cX0_take 92 = .ok (.ishl, 1) := by decide +kernel
theorem dX0_take_93 : decode cX0_take 93 = .ok (.ior, 1) := by decide +kernel
theorem dX0_take_94 : decode cX0_take 94 = .ok (.istore_n 3, 1) := by decide +kernel
theorem dX0_take_95 : decode cX0_take 95 = .ok (.aload_n 0, 1) := by decide +kernel
theorem dX0_take_96 : decode cX0_take 96 = .ok (.getfield 9, 3) := by decide +kernel
theorem dX0_take_99 : decode cX0_take 99 = .ok (.iload 7, 2) := by decide +kernel
theorem dX0_take_101 : decode cX0_take 101 = .ok (.iload 5, 2) := by decide +kernel
theorem dX0_take_103 : decode cX0_take 103 = .ok (.iastore, 1) := by decide +kernel
theorem dX0_take_104 : decode cX0_take 104 = .ok (.iload_n 2, 1) := by decide +kernel
theorem dX0_take_105 : decode cX0_take 105 = .ok (.bipush 10, 2) := by decide +kernel
theorem dX0_take_107 : decode cX0_take 107 = .ok (.imul, 1) := by decide +kernel
theorem dX0_take_108 : decode cX0_take 108 = .ok (.iload 7, 2) := by decide +kernel
theorem dX0_take_110 : decode cX0_take 110 = .ok (.iadd, 1) := by decide +kernel
theorem dX0_take_111 : decode cX0_take 111 = .ok (.istore_n 2, 1) := by decide +kernel
theorem dX0_take_112 : decode cX0_take 112 = .ok (.iinc 5 1, 3) := by decide +kernel
theorem dX0_take_115 : decode cX0_take 115 = .ok (.goto (-105), 3) := by decide +kernel
theorem dX0_take_118 : decode cX0_take 118 = .ok (.iload_n 2, 1) := by decide +kernel
theorem dX0_take_119 : decode cX0_take 119 = .ok (.ireturn, 1) := by decide +kernel
abbrev mX0_take : zq_M := (cX0_take, RX0, "take", (some .int), 8)
theorem dX0_meetsAll_0 : decode cX0_meetsAll 0 = .ok (.iconst 0, 1) := by decide +kernel
theorem dX0_meetsAll_1 : decode cX0_meetsAll 1 = .ok (.istore_n 1, 1) := by decide +kernel
theorem dX0_meetsAll_2 : decode cX0_meetsAll 2 = .ok (.iload_n 1, 1) := by decide +kernel
theorem dX0_meetsAll_3 : decode cX0_meetsAll 3 = .ok (.aload_n 0, 1) := by decide +kernel
theorem dX0_meetsAll_4 : decode cX0_meetsAll 4 = .ok (.getfield 18, 3) := by decide +kernel
theorem dX0_meetsAll_7 : decode cX0_meetsAll 7 = .ok (.if_icmp .ge 36, 3) := by decide +kernel
theorem dX0_meetsAll_10 : decode cX0_meetsAll 10 = .ok (.iload_n 1, 1) := by decide +kernel
theorem dX0_meetsAll_11 : decode cX0_meetsAll 11 = .ok (.aload_n 0, 1) := by decide +kernel
theorem dX0_meetsAll_12 : decode cX0_meetsAll 12 = .ok (.getfield 15, 3) := by decide +kernel
theorem dX0_meetsAll_15 : decode cX0_meetsAll 15 = .ok (.arraylength, 1) := by decide +kernel
theorem dX0_meetsAll_16 : decode cX0_meetsAll 16 = .ok (.if_icmp .ge 27, 3) := by decide +kernel
theorem dX0_meetsAll_19 : decode cX0_meetsAll 19 = .ok (.aload_n 0, 1) := by decide +kernel
theorem dX0_meetsAll_20 : decode cX0_meetsAll 20 = .ok (.getfield 15, 3) := by decide +kernel
theorem dX0_meetsAll_23 : decode cX0_meetsAll 23 = .ok (.iload_n 1, 1) := by decide +kernel
theorem dX0_meetsAll_24 : decode cX0_meetsAll 24 = .ok (.iaload, 1) := by decide +kernel
theorem dX0_meetsAll_25 : decode cX0_meetsAll 25 = .ok (.aload_n 0, 1) := by decide +kernel
theorem dX0_meetsAll_26 : decode cX0_meetsAll 26 = .ok (.getfield 9, 3) := by decide +kernel
theorem dX0_meetsAll_29 : decode cX0_meetsAll 29 = .ok (.invokestatic 39, 3) := by decide +kernel
theorem dX0_meetsAll_32 : decode cX0_meetsAll 32 = .ok (.ifCond .ne 5, 3) := by decide +kernel
theorem dX0_meetsAll_35 : decode cX0_meetsAll 35 = .ok (.iconst 0, 1) := by decide +kernel
theorem dX0_meetsAll_36 : decode cX0_meetsAll 36 = .ok (.ireturn, 1) := by decide +kernel
theorem dX0_meetsAll_37 : decode cX0_meetsAll 37 = .ok (.iinc 1 1, 3) := by decide +kernel
theorem dX0_meetsAll_40 : decode cX0_meetsAll 40 = .ok (.goto (-38), 3) := by decide +kernel
theorem dX0_meetsAll_43 : decode cX0_meetsAll 43 = .ok (.iconst 1, 1) := by decide +kernel
theorem dX0_meetsAll_44 : decode cX0_meetsAll 44 = .ok (.ireturn, 1) := by decide +kernel
abbrev mX0_meetsAll : zq_M := (cX0_meetsAll, RX0, "meetsAll", (some .boolean), 2)
theorem dX0_bestTwo_0 : decode cX0_bestTwo 0 = .ok (.aload_n 0, 1) := by decide +kernel
theorem dX0_bestTwo_1 : decode cX0_bestTwo 1 = .ok (.aload_n 1, 1) := by decide +kernel
theorem dX0_bestTwo_2 : decode cX0_bestTwo 2 = .ok (.invokevirtual 45, 3) := by decide +kernel
theorem dX0_bestTwo_5 : decode cX0_bestTwo 5 = .ok (.istore_n 3, 1) := by decide +kernel
theorem dX0_bestTwo_6 : decode cX0_bestTwo 6 = .ok (.iload_n 3, 1) := by decide +kernel
theorem dX0_bestTwo_7 : decode cX0_bestTwo 7 = .ok (.iconst 1, 1) := by decide +kernel
theorem dX0_bestTwo_8 : decode cX0_bestTwo 8 = .ok (.iadd, 1) := by decide +kernel
theorem dX0_bestTwo_9 : decode cX0_bestTwo 9 = .ok (.istore 4, 2) := by decide +kernel
theorem dX0_bestTwo_11 : decode cX0_bestTwo 11 = .ok (.iconst (-1), 1) := by decide +kernel
theorem dX0_bestTwo_12 : decode cX0_bestTwo 12 = .ok (.istore 5, 2) := by decide +kernel
theorem dX0_bestTwo_14 : decode cX0_bestTwo 14 = .ok (.iconst 0, 1) := by decide +kernel
theorem dX0_bestTwo_15 : decode cX0_bestTwo 15 = .ok (.istore 6, 2) := by decide +kernel
theorem dX0_bestTwo_17 : decode cX0_bestTwo 17 = .ok (.iload 6, 2) := by decide +kernel
theorem dX0_bestTwo_19 : decode cX0_bestTwo 19 = .ok (.aload_n 1, 1) := by decide +kernel
theorem dX0_bestTwo_20 : decode cX0_bestTwo 20 = .ok (.getfield 49, 3) := by decide +kernel
theorem dX0_bestTwo_23 : decode cX0_bestTwo 23 = .ok (.if_icmp .ge 106, 3) := by decide +kernel
theorem dX0_bestTwo_26 : decode cX0_bestTwo 26 = .ok (.iload 6, 2) := by decide +kernel
theorem dX0_bestTwo_28 : decode cX0_bestTwo 28 = .ok (.bipush 7, 2) := by decide +kernel
theorem dX0_bestTwo_30 : decode cX0_bestTwo 30 = .ok (.if_icmp .ge 99, 3) := by decide +kernel
theorem dX0_bestTwo_33 : decode cX0_bestTwo 33 = .ok (.iload 6, 2) := by decide +kernel
theorem dX0_bestTwo_35 : decode cX0_bestTwo 35 = .ok (.iconst 1, 1) := by decide +kernel
theorem dX0_bestTwo_36 : decode cX0_bestTwo 36 = .ok (.iadd, 1) := by decide +kernel
theorem dX0_bestTwo_37 : decode cX0_bestTwo 37 = .ok (.istore 7, 2) := by decide +kernel
theorem dX0_bestTwo_39 : decode cX0_bestTwo 39 = .ok (.iload 7, 2) := by decide +kernel
theorem dX0_bestTwo_41 : decode cX0_bestTwo 41 = .ok (.aload_n 1, 1) := by decide +kernel
theorem dX0_bestTwo_42 : decode cX0_bestTwo 42 = .ok (.getfield 49, 3) := by decide +kernel
theorem dX0_bestTwo_45 : decode cX0_bestTwo 45 = .ok (.if_icmp .ge 78, 3) := by decide +kernel
theorem dX0_bestTwo_48 : decode cX0_bestTwo 48 = .ok (.iload 7, 2) := by decide +kernel
theorem dX0_bestTwo_50 : decode cX0_bestTwo 50 = .ok (.bipush 7, 2) := by decide +kernel
theorem dX0_bestTwo_52 : decode cX0_bestTwo 52 = .ok (.if_icmp .ge 71, 3) := by decide +kernel
theorem dX0_bestTwo_55 : decode cX0_bestTwo 55 = .ok (.bipush 7, 2) := by decide +kernel
theorem dX0_bestTwo_57 : decode cX0_bestTwo 57 = .ok (.iload 6, 2) := by decide +kernel
theorem dX0_bestTwo_59 : decode cX0_bestTwo 59 = .ok (.imul, 1) := by decide +kernel
theorem dX0_bestTwo_60 : decode cX0_bestTwo 60 = .ok (.iload 7, 2) := by decide +kernel
theorem dX0_bestTwo_62 : decode cX0_bestTwo 62 = .ok (.iadd, 1) := by decide +kernel
theorem dX0_bestTwo_63 : decode cX0_bestTwo 63 = .ok (.istore 8, 2) := by decide +kernel
theorem dX0_bestTwo_65 : decode cX0_bestTwo 65 = .ok (.aload_n 0, 1) := by decide +kernel
theorem dX0_bestTwo_66 : decode cX0_bestTwo 66 = .ok (.getfield 25, 3) := by decide +kernel
theorem dX0_bestTwo_69 : decode cX0_bestTwo 69 = .ok (.iload 8, 2) := by decide +kernel
theorem dX0_bestTwo_71 : decode cX0_bestTwo 71 = .ok (.iaload, 1) := by decide +kernel
theorem dX0_bestTwo_72 : decode cX0_bestTwo 72 = .ok (.iload_n 3, 1) := by decide +kernel
theorem dX0_bestTwo_73 : decode cX0_bestTwo 73 = .ok (.aload_n 0, 1) := by decide +kernel
theorem dX0_bestTwo_74 : decode cX0_bestTwo 74 = .ok (.getfield 25, 3) := by decide +kernel
theorem dX0_bestTwo_77 : decode cX0_bestTwo 77 = .ok (.iload 8, 2) := by decide +kernel
theorem dX0_bestTwo_79 : decode cX0_bestTwo 79 = .ok (.iaload, 1) := by decide +kernel
theorem dX0_bestTwo_80 : decode cX0_bestTwo 80 = .ok (.isub, 1) := by decide +kernel
theorem dX0_bestTwo_81 : decode cX0_bestTwo 81 = .ok (.invokestatic 54, 3) := by decide +kernel
theorem dX0_bestTwo_84 : decode cX0_bestTwo 84 = .ok (.istore 9, 2) := by decide +kernel
theorem dX0_bestTwo_86 : decode cX0_bestTwo 86 = .ok (.aload_n 0, 1) := by decide +kernel
theorem dX0_bestTwo_87 : decode cX0_bestTwo 87 = .ok (.getfield 22, 3) := by decide +kernel
theorem dX0_bestTwo_90 : decode cX0_bestTwo 90 = .ok (.iload 8, 2) := by decide +kernel
theorem dX0_bestTwo_92 : decode cX0_bestTwo 92 = .ok (.iaload, 1) := by decide +kernel
theorem dX0_bestTwo_93 : decode cX0_bestTwo 93 = .ok (.ifCond .eq 24, 3) := by decide +kernel
theorem dX0_bestTwo_96 : decode cX0_bestTwo 96 = .ok (.iload 9, 2) := by decide +kernel
theorem dX0_bestTwo_98 : decode cX0_bestTwo 98 = .ok (.iload 4, 2) := by decide +kernel
theorem dX0_bestTwo_100 : decode cX0_bestTwo 100 = .ok (.if_icmp .ge 17, 3) := by decide +kernel
theorem dX0_bestTwo_103 : decode cX0_bestTwo 103 = .ok (.iload 9, 2) := by decide +kernel
theorem dX0_bestTwo_105 : decode cX0_bestTwo 105 = .ok (.istore 4, 2) := by decide +kernel
theorem dX0_bestTwo_107 : decode cX0_bestTwo 107 = .ok (.bipush 10, 2) := by decide +kernel
theorem dX0_bestTwo_109 : decode cX0_bestTwo 109 = .ok (.iload 6, 2) := by decide +kernel
theorem dX0_bestTwo_111 : decode cX0_bestTwo 111 = .ok (.imul, 1) := by decide +kernel
theorem dX0_bestTwo_112 : decode cX0_bestTwo 112 = .ok (.iload 7, 2) := by decide +kernel
theorem dX0_bestTwo_114 : decode cX0_bestTwo 114 = .ok (.iadd, 1) := by decide +kernel
theorem dX0_bestTwo_115 : decode cX0_bestTwo 115 = .ok (.istore 5, 2) := by decide +kernel
theorem dX0_bestTwo_117 : decode cX0_bestTwo 117 = .ok (.iinc 7 1, 3) := by decide +kernel
theorem dX0_bestTwo_120 : decode cX0_bestTwo 120 = .ok (.goto (-81), 3) := by decide +kernel
theorem dX0_bestTwo_123 : decode cX0_bestTwo 123 = .ok (.iinc 6 1, 3) := by decide +kernel
theorem dX0_bestTwo_126 : decode cX0_bestTwo 126 = .ok (.goto (-109), 3) := by decide +kernel
theorem dX0_bestTwo_129 : decode cX0_bestTwo 129 = .ok (.iload_n 3, 1) := by decide +kernel
theorem dX0_bestTwo_130 : decode cX0_bestTwo 130 = .ok (.ifCond .eq 9, 3) := by decide +kernel
theorem dX0_bestTwo_133 : decode cX0_bestTwo 133 = .ok (.iload 5, 2) := by decide +kernel
theorem dX0_bestTwo_135 : decode cX0_bestTwo 135 = .ok (.iconst (-1), 1) := by decide +kernel
theorem dX0_bestTwo_136 : decode cX0_bestTwo 136 = .ok (.if_icmp .ne 5, 3) := by decide +kernel
theorem dX0_bestTwo_139 : decode cX0_bestTwo 139 = .ok (.iconst (-1), 1) := by decide +kernel
theorem dX0_bestTwo_140 : decode cX0_bestTwo 140 = .ok (.ireturn, 1) := by decide +kernel
theorem dX0_bestTwo_141 : decode cX0_bestTwo 141 = .ok (.iload_n 2, 1) := by decide +kernel
theorem dX0_bestTwo_142 : decode cX0_bestTwo 142 = .ok (.ifCond .ne 8, 3) := by decide +kernel
theorem dX0_bestTwo_145 : decode cX0_bestTwo 145 = .ok (.iload 5, 2) := by decide +kernel
theorem dX0_bestTwo_147 : decode cX0_bestTwo 147 = .ok (.goto 5, 3) := by decide +kernel
theorem dX0_bestTwo_150 : decode cX0_bestTwo 150 = .ok (.iload 4, 2) := by decide +kernel
theorem dX0_bestTwo_152 : decode cX0_bestTwo 152 = .ok (.ireturn, 1) := by decide +kernel
abbrev mX0_bestTwo : zq_M := (cX0_bestTwo, RX0, "bestTwo", (some .int), 10)
theorem dX0_tally_0 : decode cX0_tally 0 = .ok (.iconst 0, 1) := by decide +kernel
theorem dX0_tally_1 : decode cX0_tally 1 = .ok (.istore_n 2, 1) := by decide +kernel
theorem dX0_tally_2 : decode cX0_tally 2 = .ok (.iload_n 2, 1) := by decide +kernel
theorem dX0_tally_3 : decode cX0_tally 3 = .ok (.aload_n 0, 1) := by decide +kernel
theorem dX0_tally_4 : decode cX0_tally 4 = .ok (.getfield 25, 3) := by decide +kernel
theorem dX0_tally_7 : decode cX0_tally 7 = .ok (.arraylength, 1) := by decide +kernel
theorem dX0_tally_8 : decode cX0_tally 8 = .ok (.if_icmp .ge 78, 3) := by decide +kernel
theorem dX0_tally_11 : decode cX0_tally 11 = .ok (.aload_n 0, 1) := by decide +kernel
theorem dX0_tally_12 : decode cX0_tally 12 = .ok (.getfield 25, 3) := by decide +kernel
theorem dX0_tally_15 : decode cX0_tally 15 = .ok (.iload_n 2, 1) := by decide +kernel
theorem dX0_tally_16 : decode cX0_tally 16 = .ok (.iconst 0, 1) := by decide +kernel
theorem dX0_tally_17 : decode cX0_tally 17 = .ok (.iastore, 1) := by decide +kernel
theorem dX0_tally_18 : decode cX0_tally 18 = .ok (.iload_n 2, 1) := by decide +kernel
theorem dX0_tally_19 : decode cX0_tally 19 = .ok (.bipush 7, 2) := by decide +kernel
theorem dX0_tally_21 : decode cX0_tally 21 = .ok (.idiv, 1) := by decide +kernel
theorem dX0_tally_22 : decode cX0_tally 22 = .ok (.istore_n 3, 1) := by decide +kernel
theorem dX0_tally_23 : decode cX0_tally 23 = .ok (.iload_n 2, 1) := by decide +kernel
theorem dX0_tally_24 : decode cX0_tally 24 = .ok (.bipush 7, 2) := by decide +kernel
theorem dX0_tally_26 : decode cX0_tally 26 = .ok (.irem, 1) := by decide +kernel
theorem dX0_tally_27 : decode cX0_tally 27 = .ok (.istore 4, 2) := by decide +kernel
theorem dX0_tally_29 : decode cX0_tally 29 = .ok (.iload_n 3, 1) := by decide +kernel
theorem dX0_tally_30 : decode cX0_tally 30 = .ok (.iload 4, 2) := by decide +kernel
theorem dX0_tally_32 : decode cX0_tally 32 = .ok (.if_icmp .ge 16, 3) := by decide +kernel
theorem dX0_tally_35 : decode cX0_tally 35 = .ok (.aload_n 1, 1) := by decide +kernel
theorem dX0_tally_36 : decode cX0_tally 36 = .ok (.iload 4, 2) := by decide +kernel
theorem dX0_tally_38 : decode cX0_tally 38 = .ok (.invokevirtual 60, 3) := by decide +kernel
theorem dX0_tally_41 : decode cX0_tally 41 = .ok (.ifCond .eq 7, 3) := by decide +kernel
theorem dX0_tally_44 : decode cX0_tally 44 = .ok (.iconst 1, 1) := by decide +kernel
theorem dX0_tally_45 : decode cX0_tally 45 = .ok (.goto 4, 3) := by decide +kernel
theorem dX0_tally_48 : decode cX0_tally 48 = .ok (.iconst 0, 1) := by decide +kernel
theorem dX0_tally_49 : decode cX0_tally 49 = .ok (.istore 5, 2) := by decide +kernel
theorem dX0_tally_51 : decode cX0_tally 51 = .ok (.aload_n 0, 1) := by decide +kernel
theorem dX0_tally_52 : decode cX0_tally 52 = .ok (.getfield 22, 3) := by decide +kernel
theorem dX0_tally_55 : decode cX0_tally 55 = .ok (.iload_n 2, 1) := by decide +kernel
theorem dX0_tally_56 : decode cX0_tally 56 = .ok (.iload 5, 2) := by decide +kernel
theorem dX0_tally_58 : decode cX0_tally 58 = .ok (.ifCond .eq 20, 3) := by decide +kernel
theorem dX0_tally_61 : decode cX0_tally 61 = .ok (.aload_n 1, 1) := by decide +kernel
theorem dX0_tally_62 : decode cX0_tally 62 = .ok (.iload_n 3, 1) := by decide +kernel
theorem dX0_tally_63 : decode cX0_tally 63 = .ok (.invokevirtual 64, 3) := by decide +kernel
theorem dX0_tally_66 : decode cX0_tally 66 = .ok (.aload_n 1, 1) := by decide +kernel
theorem dX0_tally_67 : decode cX0_tally 67 = .ok (.iload 4, 2) := by decide +kernel
theorem dX0_tally_69 : decode cX0_tally 69 = .ok (.invokevirtual 64, 3) := by decide +kernel
theorem dX0_tally_72 : decode cX0_tally 72 = .ok (.invokestatic 67, 3) := by decide +kernel
theorem dX0_tally_75 : decode cX0_tally 75 = .ok (.goto 4, 3) := by decide +kernel
theorem dX0_tally_78 : decode cX0_tally 78 = .ok (.iconst 0, 1) := by decide +kernel
theorem dX0_tally_79 : decode cX0_tally 79 = .ok (.iastore, 1) := by decide +kernel
theorem dX0_tally_80 : decode cX0_tally 80 = .ok (.iinc 2 1, 3) := by decide +kernel
theorem dX0_tally_83 : decode cX0_tally 83 = .ok (.goto (-81), 3) := by decide +kernel
theorem dX0_tally_86 : decode cX0_tally 86 = .ok (.iconst 0, 1) := by decide +kernel
theorem dX0_tally_87 : decode cX0_tally 87 = .ok (.istore_n 2, 1) := by decide +kernel
theorem dX0_tally_88 : decode cX0_tally 88 = .ok (.iconst 0, 1) := by decide +kernel
theorem dX0_tally_89 : decode cX0_tally 89 = .ok (.istore_n 3, 1) := by decide +kernel
theorem dX0_tally_90 : decode cX0_tally 90 = .ok (.iload_n 3, 1) := by decide +kernel
theorem dX0_tally_91 : decode cX0_tally 91 = .ok (.bipush 120, 2) := by decide +kernel
theorem dX0_tally_93 : decode cX0_tally 93 = .ok (.if_icmp .ge 82, 3) := by decide +kernel
theorem dX0_tally_96 : decode cX0_tally 96 = .ok (.aload_n 0, 1) := by decide +kernel
theorem dX0_tally_97 : decode cX0_tally 97 = .ok (.iload_n 3, 1) := by decide +kernel
theorem dX0_tally_98 : decode cX0_tally 98 = .ok (.invokevirtual 28, 3) := by decide +kernel
theorem dX0_tally_101 : decode cX0_tally 101 = .ok (.pop, 1) := by decide +kernel
theorem dX0_tally_102 : decode cX0_tally 102 = .ok (.aload_n 0, 1) := by decide +kernel
theorem dX0_tally_103 : decode cX0_tally 103 = .ok (.invokevirtual 32, 3) := by decide +kernel
theorem dX0_tally_106 : decode cX0_tally 106 = .ok (.ifCond .eq 63, 3) := by decide +kernel
theorem dX0_tally_109 : decode cX0_tally 109 = .ok (.iinc 2 1, 3) := by decide +kernel
theorem dX0_tally_112 : decode cX0_tally 112 = .ok (.iconst 0, 1) := by decide +kernel
theorem dX0_tally_113 : decode cX0_tally 113 = .ok (.istore 4, 2) := by decide +kernel
theorem dX0_tally_115 : decode cX0_tally 115 = .ok (.iload 4, 2) := by decide +kernel
theorem dX0_tally_117 : decode cX0_tally 117 = .ok (.aload_n 0, 1) := by decide +kernel
theorem dX0_tally_118 : decode cX0_tally 118 = .ok (.getfield 25, 3) := by decide +kernel
theorem dX0_tally_121 : decode cX0_tally 121 = .ok (.arraylength, 1) := by decide +kernel
theorem dX0_tally_122 : decode cX0_tally 122 = .ok (.if_icmp .ge 47, 3) := by decide +kernel
theorem dX0_tally_125 : decode cX0_tally 125 = .ok (.aload_n 0, 1) := by decide +kernel
theorem dX0_tally_126 : decode cX0_tally 126 = .ok (.getfield 22, 3) := by decide +kernel
theorem dX0_tally_129 : decode cX0_tally 129 = .ok (.iload 4, 2) := by decide +kernel
theorem dX0_tally_131 : decode cX0_tally 131 = .ok (.iaload, 1) := by decide +kernel
theorem dX0_tally_132 : decode cX0_tally 132 = .ok (.ifCond .eq 31, 3) := by decide +kernel
theorem dX0_tally_135 : decode cX0_tally 135 = .ok (.aload_n 0, 1) := by decide +kernel
theorem dX0_tally_136 : decode cX0_tally 136 = .ok (.getfield 22, 3) := by decide +kernel
theorem dX0_tally_139 : decode cX0_tally 139 = .ok (.iload 4, 2) := by decide +kernel
theorem dX0_tally_141 : decode cX0_tally 141 = .ok (.iaload, 1) := by decide +kernel
theorem dX0_tally_142 : decode cX0_tally 142 = .ok (.aload_n 0, 1) := by decide +kernel
theorem dX0_tally_143 : decode cX0_tally 143 = .ok (.getfield 9, 3) := by decide +kernel
theorem dX0_tally_146 : decode cX0_tally 146 = .ok (.invokestatic 39, 3) := by decide +kernel
theorem dX0_tally_149 : decode cX0_tally 149 = .ok (.ifCond .eq 14, 3) := by decide +kernel
theorem dX0_tally_152 : decode cX0_tally 152 = .ok (.aload_n 0, 1) := by decide +kernel
theorem dX0_tally_153 : decode cX0_tally 153 = .ok (.getfield 25, 3) := by decide +kernel
theorem dX0_tally_156 : decode cX0_tally 156 = .ok (.iload 4, 2) := by decide +kernel
theorem dX0_tally_158 : decode cX0_tally 158 = .ok (.dup2, 1) := by decide +kernel
theorem dX0_tally_159 : decode cX0_tally 159 = .ok (.iaload, 1) := by decide +kernel
theorem dX0_tally_160 : decode cX0_tally 160 = .ok (.iconst 1, 1) := by decide +kernel
theorem dX0_tally_161 : decode cX0_tally 161 = .ok (.iadd, 1) := by decide +kernel
theorem dX0_tally_162 : decode cX0_tally 162 = .ok (.iastore, 1) := by decide +kernel
theorem dX0_tally_163 : decode cX0_tally 163 = .ok (.iinc 4 1, 3) := by decide +kernel
theorem dX0_tally_166 : decode cX0_tally 166 = .ok (.goto (-51), 3) := by decide +kernel
theorem dX0_tally_169 : decode cX0_tally 169 = .ok (.iinc 3 1, 3) := by decide +kernel
theorem dX0_tally_172 : decode cX0_tally 172 = .ok (.goto (-82), 3) := by decide +kernel
theorem dX0_tally_175 : decode cX0_tally 175 = .ok (.iload_n 2, 1) := by decide +kernel
theorem dX0_tally_176 : decode cX0_tally 176 = .ok (.ireturn, 1) := by decide +kernel
abbrev mX0_tally : zq_M := (cX0_tally, RX0, "tally", (some .int), 6)
section ZC7
variable {l : Launch} {G : zq_G} {D n b m : Nat} {κ : zl_S} {ρ : Nat → zq_E} {post : Option Value → Nat → (Nat → zq_E) → Prop} {x w rk dm : Nat → Nat}
theorem zc_aClear (hp : post none n (zl_h (zl_si κ 56 2 (nI 0)) ρ)) : zq_Runs l G D 0 0 yX0_clear [.ref 56] n (zl_h κ ρ) post := by
  refine zq_enter (cc := cX0_clear) (nL := 1) (ret := none) cw_X0_clear (by decide) rfl (Nat.le_of_ble_eq_true rfl) ?_
  refine at_aload_n dX0_clear_0 rfl ?_
  refine at_iconst dX0_clear_1 (v := nI 0) (by decide) ?_
  refine at_lput dX0_clear_2 (pl_X0_18 _) (fun i => ⟨_, rfl, Nat.le_of_ble_eq_true rfl, fun v => rfl⟩) rfl rfl ?_
  refine at_vret dX0_clear_5 rfl (by omega) (by omega) ?_
  exact hp
theorem zc_demand {z : Nat} {v : Int32} (hz : κ.1 56 2 = nI z) (h8 : z < 8) (hp : post none n (zl_h (zl_si (zl_sa κ 58 z v) 56 2 (nI (z + 1))) ρ)) : zq_Runs l G D 0 0 yX0_demand [.ref 56, .int v] n (zl_h κ ρ) post := by
  refine zq_enter (cc := cX0_demand) (nL := 2) (ret := none) cw_X0_demand (by decide) rfl (Nat.le_of_ble_eq_true rfl) ?_
  refine at_aload_n dX0_demand_0 rfl ?_
  refine at_get dX0_demand_1 fl_X0_18 (zl_o rfl) rfl ?_
  rw [hz]
  refine at_if_ltN (tgt := 39) dX0_demand_4 (by decide) (by omega) (fun c4 => ?_) (fun c4 => ?_)
  · exact c4.elim
  · refine at_aload_n dX0_demand_7 rfl ?_
    refine at_get dX0_demand_8 fl_X0_18 (zl_o rfl) rfl ?_
    rw [hz]
    refine at_aload_n dX0_demand_11 rfl ?_
    refine at_get dX0_demand_12 fl_X0_15 (zl_o rfl) rfl ?_
    refine at_alen dX0_demand_15 (zl_a (a := 58) rfl) (by decide) (v := nI 8) rfl ?_
    refine at_geN (tgt := 39) dX0_demand_16 (by decide) (by omega) (by omega) (fun c16 => ?_) (fun c16 => ?_)
    · omega
    · refine at_aload_n dX0_demand_19 rfl ?_
      refine at_get dX0_demand_20 fl_X0_15 (zl_o rfl) rfl ?_
      refine at_aload_n dX0_demand_23 rfl ?_
      refine at_get dX0_demand_24 fl_X0_18 (zl_o rfl) rfl ?_
      refine at_iload_n dX0_demand_27 rfl ?_
      refine at_last2 (a := 58) dX0_demand_28 rfl hz (by show _ < 8; omega) (by decide) ?_
      refine at_aload_n dX0_demand_29 rfl ?_
      refine at_dup dX0_demand_30 rfl ?_
      refine at_get dX0_demand_31 fl_X0_18 (zl_o rfl) rfl ?_
      rw [show (zl_sa κ 58 z v).1 56 2 = nI z from hz]
      refine at_iconst dX0_demand_34 (v := nI 1) (by decide) ?_
      refine at_iaddN dX0_demand_35 ?_
      refine at_lput dX0_demand_36 (pl_X0_18 _) (fun i => ⟨_, rfl, Nat.le_of_ble_eq_true rfl, fun v => rfl⟩) rfl rfl ?_
      refine at_vret dX0_demand_39 rfl (by omega) (by omega) ?_
      exact hp
theorem zc_take_in {i u k r : Nat} {v2 : Int32} (hu : u < 64) : ∀ f skip y s2 y2 : Nat, y + f < 32 → skip < 1000 → 1 ≤ y → y2 ≤ 5 → zinO u f skip y = some (s2, y2) → zq_At l G (zq_rm D 0 0) mX0_take (zq_QF G post 0 0) 88 [(0, .ref 56), (1, .int (nI k)), (2, .int v2), (3, .int (nI u)), (4, .int (nI r)), (5, .int (nI i)), (7, .int (nI y2))] [] n (zl_h κ ρ) 0 0 → zq_At l G (zq_rm D 0 0) mX0_take (zq_QF G post 0 0) 41 [(0, .ref 56), (1, .int (nI k)), (2, .int v2), (3, .int (nI u)), (4, .int (nI r)), (5, .int (nI i)), (6, .int (nI skip)), (7, .int (nI y))] [] n (zl_h κ ρ) 0 0 := by
  intro f
  induction f with
  | zero => intro skip y s2 y2 _ _ _ _ h; cases h
  | succ f ih =>
    intro skip y s2 y2 hy hs h1 h5 h hk
    have hge : ∀ f skip y s2 y2, zinO u f skip y = some (s2, y2) → y ≤ y2 := by
      intro f
      induction f with
      | zero => intro skip y s2 y2 h; cases h
      | succ f ih2 =>
        intro skip y s2 y2 h
        unfold zinO at h
        split at h
        · have := ih2 _ _ _ _ h; omega
        · split at h
          · have := ih2 _ _ _ _ h; omega
          · cases h; exact Nat.le_refl _
    have hyy := hge _ _ _ _ _ h
    unfold zinO at h
    refine at_iload dX0_take_41 rfl ?_
    refine at_iconst dX0_take_43 (v := nI 5) (by decide) ?_
    refine at_geN (tgt := 88) dX0_take_44 (by decide) (by omega) (by omega) (fun c44 => ?_) (fun c44 => ?_)
    · obtain rfl : y = y2 := by omega
      have hk := hk
      exact at_lv [0, 1, 2, 3, 4, 5, 7] hk
    · refine at_iload dX0_take_47 rfl ?_
      refine at_if_gtN (tgt := 62) dX0_take_49 (by decide) (by omega) (fun c49 => ?_) (fun c49 => ?_)
      · refine at_iload dX0_take_62 rfl ?_
        refine at_iload_n dX0_take_64 rfl ?_
        refine at_iload dX0_take_65 rfl ?_
        refine at_ishr dX0_take_67 ?_
        refine at_iconst dX0_take_68 (v := nI 1) (by decide) ?_
        refine at_iand dX0_take_69 ?_
        rw [zbit (by omega) (by omega)]
        refine at_iconst dX0_take_70 (v := nI 1) (by decide) ?_
        refine at_neN (tgt := 78) dX0_take_71 (by decide) (by omega) (by omega) (fun c71 => ?_) (fun c71 => ?_)
        · rw [if_neg c71, if_pos (by omega)] at h
          have hn := ih (skip - 1) (y + 1) s2 y2 (by omega) (by omega) (by omega) h5 h hk
          refine at_iconst dX0_take_78 (v := nI 1) (by decide) ?_
          refine at_isubN dX0_take_79 (by omega) ?_
          refine at_istore dX0_take_80 (by decide) ?_
          refine at_iincN dX0_take_82 rfl (by decide) ?_
          refine at_goto (tgt := 41) dX0_take_85 (by decide) ?_
          exact hn
        · rw [if_pos c71] at h
          have hn := ih skip (y + 1) s2 y2 (by omega) hs (by omega) h5 h hk
          refine at_iconst dX0_take_74 (v := nI 0) (by decide) ?_
          refine at_goto (tgt := 79) dX0_take_75 (by decide) ?_
          refine at_isubN dX0_take_79 (by omega) ?_
          refine at_istore dX0_take_80 (by decide) ?_
          refine at_iincN dX0_take_82 rfl (by decide) ?_
          refine at_goto (tgt := 41) dX0_take_85 (by decide) ?_
          exact hn
      · refine at_iload_n dX0_take_52 rfl ?_
        refine at_iload dX0_take_53 rfl ?_
        refine at_ishr dX0_take_55 ?_
        refine at_iconst dX0_take_56 (v := nI 1) (by decide) ?_
        refine at_iand dX0_take_57 ?_
        rw [zbit (by omega) (by omega)]
        refine at_iconst dX0_take_58 (v := nI 1) (by decide) ?_
        refine at_neN (tgt := 88) dX0_take_59 (by decide) (by omega) (by omega) (fun c59 => ?_) (fun c59 => ?_)
        · rw [if_neg c59, if_neg (by omega)] at h
          cases h
          exact at_lv [0, 1, 2, 3, 4, 5, 7] hk
        · refine at_iload dX0_take_62 rfl ?_
          refine at_iload_n dX0_take_64 rfl ?_
          refine at_iload dX0_take_65 rfl ?_
          refine at_ishr dX0_take_67 ?_
          refine at_iconst dX0_take_68 (v := nI 1) (by decide) ?_
          refine at_iand dX0_take_69 ?_
          rw [zbit (by omega) (by omega)]
          refine at_iconst dX0_take_70 (v := nI 1) (by decide) ?_
          refine at_neN (tgt := 78) dX0_take_71 (by decide) (by omega) (by omega) (fun c71 => ?_) (fun c71 => ?_)
          · omega
          · rw [if_pos c71] at h
            have hn := ih skip (y + 1) s2 y2 (by omega) hs (by omega) h5 h hk
            refine at_iconst dX0_take_74 (v := nI 0) (by decide) ?_
            refine at_goto (tgt := 79) dX0_take_75 (by decide) ?_
            refine at_isubN dX0_take_79 (by omega) ?_
            refine at_istore dX0_take_80 (by decide) ?_
            refine at_iincN dX0_take_82 rfl (by decide) ?_
            refine at_goto (tgt := 41) dX0_take_85 (by decide) ?_
            exact hn
theorem zc_take {k : Nat} (hk : k < 120) (hp : post (some (.int (nI (zaln (zal k) 5)))) n (zl_h (zl_sA κ 57 (zrk (κ.2.1 57) (zal k) 5)) ρ)) : zq_Runs l G D 0 0 yX0_take [.ref 56, .int (nI k)] n (zl_h κ ρ) post := by
  have loop : ∀ c i, i + c = 5 → zq_At l G (zq_rm D 0 0) mX0_take (zq_QF G post 0 0) 10 [(0, .ref 56), (1, .int (nI k)), (2, .int (nI (zaln (zal k) i))), (3, .int (nI (zA k i).2)), (4, .int (nI (zA k i).1)), (5, .int (nI i))] [] n (zl_h (zl_sA κ 57 (zrk (κ.2.1 57) (zal k) i)) ρ) 0 0 := by
    intro c
    induction c with
    | zero =>
      intro i hi
      obtain rfl : i = 5 := hi
      refine at_iload dX0_take_10 rfl ?_
      refine at_iconst dX0_take_12 (v := nI 5) (by decide) ?_
      refine at_geN (tgt := 118) dX0_take_13 (by decide) (by omega) (by omega) (fun c13 => ?_) (fun c13 => ?_)
      · refine at_iload_n dX0_take_118 rfl ?_
        refine at_iret dX0_take_119 rfl (by omega) (by omega) ?_
        exact hp
      · omega
    | succ c ih =>
      intro i hi
      have hn := ih (i + 1) (by omega)
      obtain ⟨⟨s2, hz⟩, z1, z5, z64, -⟩ := zal_ok hk (show i < 5 by omega)
      obtain ⟨-, -, hs0, hs24⟩ := zsb_div (show i < 5 by omega)
      have hle := zA_le hk i
      have hdv := Nat.div_le_self (zA k i).1 (zsz i)
      have hA1 : zA k (i + 1) = ((zA k i).1 % zsz i, (zA k i).2 ||| 2 ^ zal k i) := rfl
      rw [hA1] at hn
      unfold zaln zrk at hn
      rw [Nat.mul_comm] at hn
      refine at_iload dX0_take_10 rfl ?_
      refine at_iconst dX0_take_12 (v := nI 5) (by decide) ?_
      refine at_geN (tgt := 118) dX0_take_13 (by decide) (by omega) (by omega) (fun c13 => ?_) (fun c13 => ?_)
      · omega
      · refine at_iload dX0_take_16 rfl ?_
        refine at_gets dX0_take_18 sl_X0_36 ?_
        refine at_iload dX0_take_21 rfl ?_
        refine at_tldN dX0_take_23 rfl (by decide) (by decide) rfl (by omega) ?_
        rw [zq_rest_n (by omega)]
        refine at_idivN dX0_take_24 (by omega) (by omega) (by omega) ?_
        refine at_istore dX0_take_25 (by decide) ?_
        refine at_iload dX0_take_27 rfl ?_
        refine at_gets dX0_take_29 sl_X0_36 ?_
        refine at_iload dX0_take_32 rfl ?_
        refine at_tldN dX0_take_34 rfl (by decide) (by decide) rfl (by omega) ?_
        rw [zq_rest_n (by omega)]
        refine at_iremN dX0_take_35 (by omega) (by omega) (by omega) ?_
        refine at_istore dX0_take_36 (by decide) ?_
        refine at_iconst dX0_take_38 (v := nI 1) (by decide) ?_
        refine at_istore dX0_take_39 (by decide) ?_
        refine zc_take_in z64 6 _ 1 s2 (zal k i) (by omega) (by omega) (by omega) z5 hz ?_
        refine at_iload_n dX0_take_88 rfl ?_
        refine at_iconst dX0_take_89 (v := nI 1) (by decide) ?_
        refine at_iload dX0_take_90 rfl ?_
        refine at_ishl dX0_take_92 ?_
        rw [zshl1 (by omega)]
        refine at_ior dX0_take_93 ?_
        rw [zor]
        refine at_istore_n dX0_take_94 rfl (by decide) ?_
        refine at_aload_n dX0_take_95 rfl ?_
        refine at_get dX0_take_96 fl_X0_9 (zl_o rfl) rfl ?_
        refine at_iload dX0_take_99 rfl ?_
        refine at_iload dX0_take_101 rfl ?_
        refine at_last2 (a := 57) dX0_take_103 rfl rfl (by show _ < 6; omega) (by decide) ?_
        rw [zlA_a]
        refine at_iload_n dX0_take_104 rfl ?_
        refine at_bipush dX0_take_105 (v := nI 10) (by decide) ?_
        refine at_imulN dX0_take_107 ?_
        refine at_iload dX0_take_108 rfl ?_
        refine at_iaddN dX0_take_110 ?_
        refine at_istore_n dX0_take_111 rfl (by decide) ?_
        refine at_iincN dX0_take_112 rfl (by decide) ?_
        refine at_goto (tgt := 10) dX0_take_115 (by decide) ?_
        exact at_lv [0, 1, 2, 3, 4, 5] hn
  have h0 := loop 5 0 rfl
  rw [show zrk (κ.2.1 57) (zal k) 0 = κ.2.1 57 from rfl, zlA_0] at h0
  refine zq_enter (cc := cX0_take) (nL := 8) (ret := (some .int)) cw_X0_take (by decide) rfl (Nat.le_of_ble_eq_true rfl) ?_
  refine at_iconst dX0_take_0 (v := nI 0) (by decide) ?_
  refine at_istore_n dX0_take_1 rfl (by decide) ?_
  refine at_iconst dX0_take_2 (v := nI 0) (by decide) ?_
  refine at_istore_n dX0_take_3 rfl (by decide) ?_
  refine at_iload_n dX0_take_4 rfl ?_
  refine at_istore dX0_take_5 (by decide) ?_
  refine at_iconst dX0_take_7 (v := nI 0) (by decide) ?_
  refine at_istore dX0_take_8 (by decide) ?_
  exact h0
/-- what is demanded -/
def zDm (κ : zl_S) (N : Nat) (dm : Nat → Nat) : Prop := κ.1 56 2 = nI N ∧ N ≤ 8 ∧ ∀ i, i < N → κ.2.1 58 i = nI (dm i) ∧ dm i / 10 ≤ 5 ∧ dm i % 10 ≤ 5
theorem zc_meetsAll {N : Nat} (hD : 1 ≤ D) (hM : zDm κ N dm) (hO : zOrd (κ.2.1 57) rk) (hr : ∀ y, 1 ≤ y → y ≤ 5 → rk y < 5) (hp : post (some (.int (zb (zmA rk dm N 0)))) n (zl_h κ ρ)) : zq_Runs l G D 0 0 yX0_meetsAll [.ref 56] n (zl_h κ ρ) post := by
  have h8 := hM.2.1
  have loop : ∀ k i, i + k = N → post (some (.int (zb (zmA rk dm k i)))) n (zl_h κ ρ) → zq_At l G (zq_rm D 0 0) mX0_meetsAll (zq_QF G post 0 0) 2 [(0, .ref 56), (1, .int (nI i))] [] n (zl_h κ ρ) 0 0 := by
    intro k
    induction k with
    | zero =>
      intro i hi hp2
      obtain rfl : i = N := hi
      have hp := hp2
      refine at_iload_n dX0_meetsAll_2 rfl ?_
      refine at_aload_n dX0_meetsAll_3 rfl ?_
      refine at_get dX0_meetsAll_4 fl_X0_18 (zl_o rfl) rfl ?_
      rw [hM.1]
      refine at_geN (tgt := 43) dX0_meetsAll_7 (by decide) (by omega) (by omega) (fun c7 => ?_) (fun c7 => ?_)
      · refine at_iconst dX0_meetsAll_43 (v := nI 1) (by decide) ?_
        refine at_zret dX0_meetsAll_44 rfl (by omega) (by omega) (by first | exact Or.inl rfl | exact Or.inr rfl | assumption) ?_
        exact hp
      · omega
    | succ k ih =>
      intro i hi hp
      unfold zmA at hp
      obtain ⟨g1, g2, g3⟩ := hM.2.2 i (by omega)
      refine at_iload_n dX0_meetsAll_2 rfl ?_
      refine at_aload_n dX0_meetsAll_3 rfl ?_
      refine at_get dX0_meetsAll_4 fl_X0_18 (zl_o rfl) rfl ?_
      rw [hM.1]
      refine at_geN (tgt := 43) dX0_meetsAll_7 (by decide) (by omega) (by omega) (fun c7 => ?_) (fun c7 => ?_)
      · omega
      · refine at_iload_n dX0_meetsAll_10 rfl ?_
        refine at_aload_n dX0_meetsAll_11 rfl ?_
        refine at_get dX0_meetsAll_12 fl_X0_15 (zl_o rfl) rfl ?_
        refine at_alen dX0_meetsAll_15 (zl_a (a := 58) rfl) (by decide) (v := nI 8) rfl ?_
        refine at_geN (tgt := 43) dX0_meetsAll_16 (by decide) (by omega) (by omega) (fun c16 => ?_) (fun c16 => ?_)
        · omega
        · refine at_aload_n dX0_meetsAll_19 rfl ?_
          refine at_get dX0_meetsAll_20 fl_X0_15 (zl_o rfl) rfl ?_
          refine at_iload_n dX0_meetsAll_23 rfl ?_
          refine at_lald2 (a := 58) dX0_meetsAll_24 rfl rfl (by show _ < 8; omega) (by decide) ?_
          refine at_aload_n dX0_meetsAll_25 rfl ?_
          refine at_get dX0_meetsAll_26 fl_X0_9 (zl_o rfl) rfl ?_
          rw [g1]
          refine at_callS2 (d := D - 1) dX0_meetsAll_29 ms_X0_39 (Nat.le_of_ble_eq_true rfl) (zq_r0 (by omega) (by omega) (by omega)) ?_
          refine zc_isMet rfl rfl hO hr g2 g3 ?_
          refine at_if_neB (tgt := 37) dX0_meetsAll_32 (by decide) (fun c32 => ?_) (fun c32 => ?_)
          · rw [if_pos c32] at hp
            have hn := ih (i + 1) (by omega) hp
            refine at_iincN dX0_meetsAll_37 rfl (by decide) ?_
            refine at_goto (tgt := 2) dX0_meetsAll_40 (by decide) ?_
            exact hn
          · rw [if_neg (by rw [c32]; decide)] at hp
            refine at_iconst dX0_meetsAll_35 (v := nI 0) (by decide) ?_
            refine at_zret dX0_meetsAll_36 rfl (by omega) (by omega) (by first | exact Or.inl rfl | exact Or.inr rfl | assumption) ?_
            exact hp
  refine zq_enter (cc := cX0_meetsAll) (nL := 2) (ret := (some .boolean)) cw_X0_meetsAll (by decide) rfl (Nat.le_of_ble_eq_true rfl) ?_
  refine at_iconst dX0_meetsAll_0 (v := nI 0) (by decide) ?_
  refine at_istore_n dX0_meetsAll_1 rfl (by decide) ?_
  exact loop N 0 (Nat.zero_add _) hp
theorem zDm_A {N : Nat} (hM : zDm κ N dm) (g : Nat → Int32) : zDm (zl_sA κ 57 g) N dm := ⟨hM.1, hM.2.1, fun i hi => by rw [zlA_o _ (by decide)]; exact hM.2.2 i hi⟩
theorem zc_found {N : Nat} {i : Int32} (hD : 2 ≤ D) (hM : zDm κ N dm) (h0 : κ.2.1 57 0 = -1) (hp : ∀ g, g 0 = -1 → post (some (.int (zrtR (fun p => zmA (zrkN (zal p)) dm N 0) i))) n (zl_h (zl_sA κ 57 g) ρ)) : zq_Runs l G D 0 0 yX0_found [.ref 56, .int i] n (zl_h κ ρ) post := by
  have loop : ∀ (k p c : Nat) (g : Nat → Int32), p + k = 120 → c ≤ p → g 0 = -1 → (∀ c', c' < c → nI c' ≠ i) → (∀ g, g 0 = -1 → post (some (.int (if i = -1 then nI (zrtF (fun p => zmA (zrkN (zal p)) dm N 0) (fun p => nI (zaln (zal p) 5)) i k p c (-1)).1 else (zrtF (fun p => zmA (zrkN (zal p)) dm N 0) (fun p => nI (zaln (zal p) 5)) i k p c (-1)).2))) n (zl_h (zl_sA κ 57 g) ρ)) → zq_At l G (zq_rm D 0 0) mX0_found (zq_QF G post 0 0) 4 [(0, .ref 56), (1, .int i), (2, .int (nI c)), (3, .int (nI p))] [] n (zl_h (zl_sA κ 57 g) ρ) 0 0 := by
    intro k
    induction k with
    | zero =>
      intro p c g hpk hc hg hcc hp
      obtain rfl : p = 120 := hpk
      have hp := hp g hg
      unfold zrtF at hp
      refine at_iload_n dX0_found_4 rfl ?_
      refine at_bipush dX0_found_5 (v := nI 120) (by decide) ?_
      refine at_geN (tgt := 41) dX0_found_7 (by decide) (by omega) (by omega) (fun c7 => ?_) (fun c7 => ?_)
      · refine at_iload_n dX0_found_41 rfl ?_
        refine at_iconst dX0_found_42 (v := -1) rfl ?_
        refine at_icmp_ne (tgt := 50) dX0_found_43 (by decide) (fun c43 => ?_) (fun c43 => ?_)
        · rw [if_neg c43] at hp
          refine at_iconst dX0_found_50 (v := -1) rfl ?_
          refine at_iret dX0_found_51 rfl (by omega) (by omega) ?_
          exact hp
        · rw [if_pos c43] at hp
          refine at_iload_n dX0_found_46 rfl ?_
          refine at_goto (tgt := 51) dX0_found_47 (by decide) ?_
          refine at_iret dX0_found_51 rfl (by omega) (by omega) ?_
          exact hp
      · omega
    | succ k ih =>
      intro p c g hpk hc hg hcc hp
      unfold zrtF at hp
      have hpm := zal_pm (show p < 120 by omega)
      have hg2 : zrk g (zal p) 5 0 = -1 := (zrk_0 (fun k hk => (hpm.1 k hk).1) g).trans hg
      refine at_iload_n dX0_found_4 rfl ?_
      refine at_bipush dX0_found_5 (v := nI 120) (by decide) ?_
      refine at_geN (tgt := 41) dX0_found_7 (by decide) (by omega) (by omega) (fun c7 => ?_) (fun c7 => ?_)
      · omega
      · refine at_aload_n dX0_found_10 rfl ?_
        refine at_iload_n dX0_found_11 rfl ?_
        refine at_callV1 (d := D - 1) dX0_found_12 mv_X0_28 (zl_o rfl) (Nat.le_of_ble_eq_true rfl) (zq_r0 (by omega) (by omega) (by omega)) ?_
        refine zc_take (by omega) ?_
        rw [zlA_A, zlA_s]
        refine at_istore dX0_found_15 (by decide) ?_
        refine at_aload_n dX0_found_17 rfl ?_
        refine at_callV0 (d := D - 1) dX0_found_18 mv_X0_32 (zl_o rfl) (Nat.le_of_ble_eq_true rfl) (zq_r0 (by omega) (by omega) (by omega)) ?_
        refine zc_meetsAll (rk := zrkN (zal p)) (by omega) (zDm_A hM _) (by rw [zlA_s]; exact zrk_ord hpm hg) (fun y _ _ => zrkN_lt _ _) ?_
        refine at_if_eqB (tgt := 35) dX0_found_21 (by decide) (fun c21 => ?_) (fun c21 => ?_)
        · have hp : ∀ g, _ := fun g hg => by have := hp g hg; rw [if_neg (show ¬ zmA (zrkN (zal p)) dm N 0 = true by rw [c21]; decide)] at this; exact this
          have hn := ih (p + 1) c (zrk g (zal p) 5) (by omega) (by omega) hg2 hcc hp
          refine at_iincN dX0_found_35 rfl (by decide) ?_
          refine at_goto (tgt := 4) dX0_found_38 (by decide) ?_
          exact at_lv [0, 1, 2, 3] hn
        · rw [if_pos c21] at hp
          refine at_iload_n dX0_found_24 rfl ?_
          refine at_iload_n dX0_found_25 rfl ?_
          refine at_icmp_ne (tgt := 32) dX0_found_26 (by decide) (fun c26 => ?_) (fun c26 => ?_)
          · rw [if_neg c26] at hp
            have hn := ih (p + 1) (c + 1) (zrk g (zal p) 5) (by omega) (by omega) hg2 (fun c' hc' => by
              by_cases e : c' = c
              · subst e; exact c26
              · exact hcc c' (by omega)) hp
            refine at_iincN dX0_found_32 rfl (by decide) ?_
            refine at_iincN dX0_found_35 rfl (by decide) ?_
            refine at_goto (tgt := 4) dX0_found_38 (by decide) ?_
            exact at_lv [0, 1, 2, 3] hn
          · have hp := hp (zrk g (zal p) 5) hg2
            rw [if_pos c26, if_neg (fun e => by
              rw [e] at c26
              have := congrArg Int32.toInt c26
              rw [nI_toInt (by omega)] at this
              have e1 : (-1 : Int32).toInt = -1 := rfl
              omega), zrtF_st _ _ _ _ _ _ _ (fun c' h1 h2 e => by
              rw [← c26] at e
              have := (nI_eq (by omega) (by omega)).mp e
              omega)] at hp
            refine at_iload dX0_found_29 rfl ?_
            refine at_iret dX0_found_31 rfl (by omega) (by omega) ?_
            exact hp
  have hp' : ∀ g, g 0 = -1 → post (some (.int (if i = -1 then nI (zrtF (fun p => zmA (zrkN (zal p)) dm N 0) (fun p => nI (zaln (zal p) 5)) i 120 0 0 (-1)).1 else (zrtF (fun p => zmA (zrkN (zal p)) dm N 0) (fun p => nI (zaln (zal p) 5)) i 120 0 0 (-1)).2))) n (zl_h (zl_sA κ 57 g) ρ) := by
    intro g hg
    have := hp g hg
    unfold zrtR at this
    by_cases e : i < -1
    · rw [if_pos e] at this
      have e1 : i ≠ -1 := fun h => by rw [h] at e; exact absurd e (by decide)
      rw [if_neg e1, zrtF_st _ _ _ _ _ _ _ (fun c' h1 h2 h => by
        have h3 := Int32.lt_iff_toInt_lt.mp e
        rw [← h, nI_toInt (by omega)] at h3
        have e2 : (-1 : Int32).toInt = -1 := rfl
        omega)]
      exact this
    · rw [if_neg e] at this
      exact this
  have h := loop 120 0 0 (κ.2.1 57) rfl (Nat.le_refl _) h0 (fun c' hc' => absurd hc' (Nat.not_lt_zero _)) hp'
  rw [zlA_0] at h
  refine zq_enter (cc := cX0_found) (nL := 5) (ret := (some .int)) cw_X0_found (by decide) rfl (Nat.le_of_ble_eq_true rfl) ?_
  refine at_iconst dX0_found_0 (v := nI 0) (by decide) ?_
  refine at_istore_n dX0_found_1 rfl (by decide) ?_
  refine at_iconst dX0_found_2 (v := nI 0) (by decide) ?_
  refine at_istore_n dX0_found_3 rfl (by decide) ?_
  exact h
end ZC7

