/-! ===== the class: the reader's steps ===== -/
/-- within the tokens -/
def zqw (N : Nat) (q : zQ) : Prop := q.1 ≤ N ∧ q.2.2 ≤ 1000
theorem zqk_w {N : Nat} {q : zQ} (h : zqk N q) : zqw N q := ⟨h.1, h.2.1⟩
def zcu (cd : Nat → Nat × Nat) (i : Nat) (x : Nat × Nat) : Nat → Nat × Nat := fun k => if k = i then x else cd k
theorem zcu_s (cd : Nat → Nat × Nat) (i : Nat) (x : Nat × Nat) : zcu cd i x i = x := if_pos rfl
theorem zcu_o {cd : Nat → Nat × Nat} {i k : Nat} {x : Nat × Nat} (h : k ≠ i) : zcu cd i x k = cd k := if_neg h
theorem zshl10 {o a : Nat} (ho : o < 1000) (ha : a < 1024) : nI o <<< (nI 10 &&& 31) ||| nI a = nI (1024 * o + a) := by
  rw [pk_shlN _ 10 (by decide) (by omega), zor, Nat.mul_comm o (2 ^ 10), ← Nat.two_pow_add_eq_or_of_lt (i := 10) (by omega)]
theorem dX8_next_0 : decode cX8_next 0 = .ok (.aload_n 0, 1) := by decide +kernel
theorem dX8_next_1 : decode cX8_next 1 = .ok (.getfield 22, 3) := by decide +kernel
theorem dX8_next_4 : decode cX8_next 4 = .ok (.sipush 3001, 3) := by decide +kernel
theorem dX8_next_7 : decode cX8_next 7 = .ok (.if_icmp .eq 46, 3) := by decide +kernel
theorem dX8_next_10 : decode cX8_next 10 = .ok (.aload_n 0, 1) := by decide +kernel
theorem dX8_next_11 : decode cX8_next 11 = .ok (.getfield 22, 3) := by decide +kernel
theorem dX8_next_14 : decode cX8_next 14 = .ok (.sipush 3000, 3) := by decide +kernel
theorem dX8_next_17 : decode cX8_next 17 = .ok (.if_icmp .eq 36, 3) := by decide +kernel
theorem dX8_next_20 : decode cX8_next 20 = .ok (.aload_n 0, 1) := by decide +kernel
theorem dX8_next_21 : decode cX8_next 21 = .ok (.getfield 18, 3) := by decide +kernel
theorem dX8_next_24 : decode cX8_next 24 = .ok (.sipush 400, 3) := by decide +kernel
theorem dX8_next_27 : decode cX8_next 27 = .ok (.if_icmp .ge 26, 3) := by decide +kernel
theorem dX8_next_30 : decode cX8_next 30 = .ok (.aload_n 0, 1) := by decide +kernel
theorem dX8_next_31 : decode cX8_next 31 = .ok (.dup, 1) := by decide +kernel
theorem dX8_next_32 : decode cX8_next 32 = .ok (.getfield 18, 3) := by decide +kernel
theorem dX8_next_35 : decode cX8_next 35 = .ok (.iconst 1, 1) := by decide +kernel
theorem dX8_next_36 : decode cX8_next 36 = .ok (.iadd, 1) := by decide +kernel
theorem dX8_next_37 : decode cX8_next 37 = .ok (.putfield 18, 3) := by decide +kernel
theorem dX8_next_40 : decode cX8_next 40 = .ok (.aload_n 0, 1) := by decide +kernel
theorem dX8_next_41 : decode cX8_next 41 = .ok (.aload_n 0, 1) := by decide +kernel
theorem dX8_next_42 : decode cX8_next 42 = .ok (.getfield 11, 3) := by decide +kernel
theorem dX8_next_45 : decode cX8_next 45 = .ok (.aload_n 0, 1) := by decide +kernel
theorem dX8_next_46 : decode cX8_next 46 = .ok (.getfield 18, 3) := by decide +kernel
theorem dX8_next_49 : decode cX8_next 49 = .ok (.iaload, 1) := by decide +kernel
theorem dX8_next_50 : decode cX8_next 50 = .ok (.putfield 22, 3) := by decide +kernel
theorem dX8_next_53 : decode cX8_next 53 = .ok (.return_, 1) := by decide +kernel
abbrev mX8_next : zq_M := (cX8_next, RX8, "next", none, 1)
theorem dX8_fail_0 : decode cX8_fail 0 = .ok (.aload_n 0, 1) := by decide +kernel
theorem dX8_fail_1 : decode cX8_fail 1 = .ok (.getfield 34, 3) := by decide +kernel
theorem dX8_fail_4 : decode cX8_fail 4 = .ok (.iconst (-1), 1) := by decide +kernel
theorem dX8_fail_5 : decode cX8_fail 5 = .ok (.if_icmp .ne 35, 3) := by decide +kernel
theorem dX8_fail_8 : decode cX8_fail 8 = .ok (.aload_n 0, 1) := by decide +kernel
theorem dX8_fail_9 : decode cX8_fail 9 = .ok (.getfield 18, 3) := by decide +kernel
theorem dX8_fail_12 : decode cX8_fail 12 = .ok (.ifCond .lt 28, 3) := by decide +kernel
theorem dX8_fail_15 : decode cX8_fail 15 = .ok (.aload_n 0, 1) := by decide +kernel
theorem dX8_fail_16 : decode cX8_fail 16 = .ok (.getfield 18, 3) := by decide +kernel
theorem dX8_fail_19 : decode cX8_fail 19 = .ok (.aload_n 0, 1) := by decide +kernel
theorem dX8_fail_20 : decode cX8_fail 20 = .ok (.getfield 15, 3) := by decide +kernel
theorem dX8_fail_23 : decode cX8_fail 23 = .ok (.arraylength, 1) := by decide +kernel
theorem dX8_fail_24 : decode cX8_fail 24 = .ok (.if_icmp .ge 16, 3) := by decide +kernel
theorem dX8_fail_27 : decode cX8_fail 27 = .ok (.aload_n 0, 1) := by decide +kernel
theorem dX8_fail_28 : decode cX8_fail 28 = .ok (.aload_n 0, 1) := by decide +kernel
theorem dX8_fail_29 : decode cX8_fail 29 = .ok (.getfield 15, 3) := by decide +kernel
theorem dX8_fail_32 : decode cX8_fail 32 = .ok (.aload_n 0, 1) := by decide +kernel
theorem dX8_fail_33 : decode cX8_fail 33 = .ok (.getfield 18, 3) := by decide +kernel
theorem dX8_fail_36 : decode cX8_fail 36 = .ok (.iaload, 1) := by decide +kernel
theorem dX8_fail_37 : decode cX8_fail 37 = .ok (.putfield 34, 3) := by decide +kernel
theorem dX8_fail_40 : decode cX8_fail 40 = .ok (.aload_n 0, 1) := by decide +kernel
theorem dX8_fail_41 : decode cX8_fail 41 = .ok (.sipush 3001, 3) := by decide +kernel
theorem dX8_fail_44 : decode cX8_fail 44 = .ok (.putfield 22, 3) := by decide +kernel
theorem dX8_fail_47 : decode cX8_fail 47 = .ok (.return_, 1) := by decide +kernel
abbrev mX8_fail : zq_M := (cX8_fail, RX8, "fail", none, 1)
theorem dX8_expect_0 : decode cX8_expect 0 = .ok (.aload_n 0, 1) := by decide +kernel
theorem dX8_expect_1 : decode cX8_expect 1 = .ok (.getfield 22, 3) := by decide +kernel
theorem dX8_expect_4 : decode cX8_expect 4 = .ok (.iload_n 1, 1) := by decide +kernel
theorem dX8_expect_5 : decode cX8_expect 5 = .ok (.if_icmp .eq 7, 3) := by decide +kernel
theorem dX8_expect_8 : decode cX8_expect 8 = .ok (.aload_n 0, 1) := by decide +kernel
theorem dX8_expect_9 : decode cX8_expect 9 = .ok (.invokevirtual 61, 3) := by decide +kernel
theorem dX8_expect_12 : decode cX8_expect 12 = .ok (.aload_n 0, 1) := by decide +kernel
theorem dX8_expect_13 : decode cX8_expect 13 = .ok (.invokevirtual 58, 3) := by decide +kernel
theorem dX8_expect_16 : decode cX8_expect 16 = .ok (.return_, 1) := by decide +kernel
abbrev mX8_expect : zq_M := (cX8_expect, RX8, "expect", none, 2)
theorem dX8_numberWithin_0 : decode cX8_numberWithin 0 = .ok (.aload_n 0, 1) := by decide +kernel
theorem dX8_numberWithin_1 : decode cX8_numberWithin 1 = .ok (.getfield 22, 3) := by decide +kernel
theorem dX8_numberWithin_4 : decode cX8_numberWithin 4 = .ok (.sipush 1000, 3) := by decide +kernel
theorem dX8_numberWithin_7 : decode cX8_numberWithin 7 = .ok (.isub, 1) := by decide +kernel
theorem dX8_numberWithin_8 : decode cX8_numberWithin 8 = .ok (.istore_n 3, 1) := by decide +kernel
theorem dX8_numberWithin_9 : decode cX8_numberWithin 9 = .ok (.aload_n 0, 1) := by decide +kernel
theorem dX8_numberWithin_10 : decode cX8_numberWithin 10 = .ok (.getfield 22, 3) := by decide +kernel
theorem dX8_numberWithin_13 : decode cX8_numberWithin 13 = .ok (.sipush 3000, 3) := by decide +kernel
theorem dX8_numberWithin_16 : decode cX8_numberWithin 16 = .ok (.if_icmp .ge 13, 3) := by decide +kernel
theorem dX8_numberWithin_19 : decode cX8_numberWithin 19 = .ok (.iload_n 3, 1) := by decide +kernel
theorem dX8_numberWithin_20 : decode cX8_numberWithin 20 = .ok (.iload_n 1, 1) := by decide +kernel
theorem dX8_numberWithin_21 : decode cX8_numberWithin 21 = .ok (.if_icmp .lt 8, 3) := by decide +kernel
theorem dX8_numberWithin_24 : decode cX8_numberWithin 24 = .ok (.iload_n 3, 1) := by decide +kernel
theorem dX8_numberWithin_25 : decode cX8_numberWithin 25 = .ok (.iload_n 2, 1) := by decide +kernel
theorem dX8_numberWithin_26 : decode cX8_numberWithin 26 = .ok (.if_icmp .le 9, 3) := by decide +kernel
theorem dX8_numberWithin_29 : decode cX8_numberWithin 29 = .ok (.aload_n 0, 1) := by decide +kernel
theorem dX8_numberWithin_30 : decode cX8_numberWithin 30 = .ok (.invokevirtual 61, 3) := by decide +kernel
theorem dX8_numberWithin_33 : decode cX8_numberWithin 33 = .ok (.iload_n 1, 1) := by decide +kernel
theorem dX8_numberWithin_34 : decode cX8_numberWithin 34 = .ok (.ireturn, 1) := by decide +kernel
theorem dX8_numberWithin_35 : decode cX8_numberWithin 35 = .ok (.aload_n 0, 1) := by decide +kernel
theorem dX8_numberWithin_36 : decode cX8_numberWithin 36 = .ok (.invokevirtual 58, 3) := by decide +kernel
theorem dX8_numberWithin_39 : decode cX8_numberWithin 39 = .ok (.iload_n 3, 1) := by decide +kernel
theorem dX8_numberWithin_40 : decode cX8_numberWithin 40 = .ok (.ireturn, 1) := by decide +kernel
abbrev mX8_numberWithin : zq_M := (cX8_numberWithin, RX8, "numberWithin", (some .int), 4)
theorem dX8_emit_0 : decode cX8_emit 0 = .ok (.aload_n 0, 1) := by decide +kernel
theorem dX8_emit_1 : decode cX8_emit 1 = .ok (.getfield 28, 3) := by decide +kernel
theorem dX8_emit_4 : decode cX8_emit 4 = .ok (.aload_n 0, 1) := by decide +kernel
theorem dX8_emit_5 : decode cX8_emit 5 = .ok (.getfield 25, 3) := by decide +kernel
theorem dX8_emit_8 : decode cX8_emit 8 = .ok (.arraylength, 1) := by decide +kernel
theorem dX8_emit_9 : decode cX8_emit 9 = .ok (.if_icmp .ge 28, 3) := by decide +kernel
theorem dX8_emit_12 : decode cX8_emit 12 = .ok (.aload_n 0, 1) := by decide +kernel
theorem dX8_emit_13 : decode cX8_emit 13 = .ok (.getfield 25, 3) := by decide +kernel
theorem dX8_emit_16 : decode cX8_emit 16 = .ok (.aload_n 0, 1) := by decide +kernel
theorem dX8_emit_17 : decode cX8_emit 17 = .ok (.getfield 28, 3) := by decide +kernel
theorem dX8_emit_20 : decode cX8_emit 20 = .ok (.iload_n 1, 1) := by decide +kernel
theorem dX8_emit_21 : decode cX8_emit 21 = .ok (.bipush 10, 2) := by decide +kernel
theorem dX8_emit_23 : decode cX8_emit 23 = .ok (.ishl, 1) := by decide +kernel
theorem dX8_emit_24 : decode cX8_emit 24 = .ok (.iload_n 2, 1) := by decide +kernel
theorem dX8_emit_25 : decode cX8_emit 25 = .ok (.ior, 1) := by decide +kernel
theorem dX8_emit_26 : decode cX8_emit 26 = .ok (.iastore, 1) := by decide +kernel
theorem dX8_emit_27 : decode cX8_emit 27 = .ok (.aload_n 0, 1) := by decide +kernel
theorem dX8_emit_28 : decode cX8_emit 28 = .ok (.dup, 1) := by decide +kernel
theorem dX8_emit_29 : decode cX8_emit 29 = .ok (.getfield 28, 3) := by decide +kernel
theorem dX8_emit_32 : decode cX8_emit 32 = .ok (.iconst 1, 1) := by decide +kernel
theorem dX8_emit_33 : decode cX8_emit 33 = .ok (.iadd, 1) := by decide +kernel
theorem dX8_emit_34 : decode cX8_emit 34 = .ok (.putfield 28, 3) := by decide +kernel
theorem dX8_emit_37 : decode cX8_emit 37 = .ok (.return_, 1) := by decide +kernel
abbrev mX8_emit : zq_M := (cX8_emit, RX8, "emit", none, 3)
theorem dX8_land_0 : decode cX8_land 0 = .ok (.iload_n 1, 1) := by decide +kernel
theorem dX8_land_1 : decode cX8_land 1 = .ok (.ifCond .lt 26, 3) := by decide +kernel
theorem dX8_land_4 : decode cX8_land 4 = .ok (.iload_n 1, 1) := by decide +kernel
theorem dX8_land_5 : decode cX8_land 5 = .ok (.aload_n 0, 1) := by decide +kernel
theorem dX8_land_6 : decode cX8_land 6 = .ok (.getfield 28, 3) := by decide +kernel
theorem dX8_land_9 : decode cX8_land 9 = .ok (.if_icmp .ge 18, 3) := by decide +kernel
theorem dX8_land_12 : decode cX8_land 12 = .ok (.aload_n 0, 1) := by decide +kernel
theorem dX8_land_13 : decode cX8_land 13 = .ok (.getfield 25, 3) := by decide +kernel
theorem dX8_land_16 : decode cX8_land 16 = .ok (.iload_n 1, 1) := by decide +kernel
theorem dX8_land_17 : decode cX8_land 17 = .ok (.iload_n 2, 1) := by decide +kernel
theorem dX8_land_18 : decode cX8_land 18 = .ok (.bipush 10, 2) := by decide +kernel
theorem dX8_land_20 : decode cX8_land 20 = .ok (.ishl, 1) := by decide +kernel
theorem dX8_land_21 : decode cX8_land 21 = .ok (.aload_n 0, 1) := by decide +kernel
theorem dX8_land_22 : decode cX8_land 22 = .ok (.getfield 28, 3) := by decide +kernel
theorem dX8_land_25 : decode cX8_land 25 = .ok (.ior, 1) := by decide +kernel
theorem dX8_land_26 : decode cX8_land 26 = .ok (.iastore, 1) := by decide +kernel
theorem dX8_land_27 : decode cX8_land 27 = .ok (.return_, 1) := by decide +kernel
abbrev mX8_land : zq_M := (cX8_land, RX8, "land", none, 3)
theorem dX8_opens_0 : decode cX8_opens 0 = .ok (.iload_n 1, 1) := by decide +kernel
theorem dX8_opens_1 : decode cX8_opens 1 = .ok (.bipush 8, 2) := by decide +kernel
theorem dX8_opens_3 : decode cX8_opens 3 = .ok (.if_icmp .lt 9, 3) := by decide +kernel
theorem dX8_opens_6 : decode cX8_opens 6 = .ok (.aload_n 0, 1) := by decide +kernel
theorem dX8_opens_7 : decode cX8_opens 7 = .ok (.invokevirtual 61, 3) := by decide +kernel
theorem dX8_opens_10 : decode cX8_opens 10 = .ok (.iconst 0, 1) := by decide +kernel
theorem dX8_opens_11 : decode cX8_opens 11 = .ok (.ireturn, 1) := by decide +kernel
theorem dX8_opens_12 : decode cX8_opens 12 = .ok (.aload_n 0, 1) := by decide +kernel
theorem dX8_opens_13 : decode cX8_opens 13 = .ok (.invokevirtual 58, 3) := by decide +kernel
theorem dX8_opens_16 : decode cX8_opens 16 = .ok (.iconst 1, 1) := by decide +kernel
theorem dX8_opens_17 : decode cX8_opens 17 = .ok (.ireturn, 1) := by decide +kernel
abbrev mX8_opens : zq_M := (cX8_opens, RX8, "opens", (some .boolean), 2)
theorem dX8_lawWord_0 : decode cX8_lawWord 0 = .ok (.iload_n 0, 1) := by decide +kernel
theorem dX8_lawWord_1 : decode cX8_lawWord 1 = .ok (.sipush 257, 3) := by decide +kernel
theorem dX8_lawWord_4 : decode cX8_lawWord 4 = .ok (.if_icmp .lt 18, 3) := by decide +kernel
theorem dX8_lawWord_7 : decode cX8_lawWord 7 = .ok (.iload_n 0, 1) := by decide +kernel
theorem dX8_lawWord_8 : decode cX8_lawWord 8 = .ok (.sipush 265, 3) := by decide +kernel
theorem dX8_lawWord_11 : decode cX8_lawWord 11 = .ok (.if_icmp .ge 11, 3) := by decide +kernel
theorem dX8_lawWord_14 : decode cX8_lawWord 14 = .ok (.iload_n 0, 1) := by decide +kernel
theorem dX8_lawWord_15 : decode cX8_lawWord 15 = .ok (.sipush 257, 3) := by decide +kernel
theorem dX8_lawWord_18 : decode cX8_lawWord 18 = .ok (.isub, 1) := by decide +kernel
theorem dX8_lawWord_19 : decode cX8_lawWord 19 = .ok (.goto 4, 3) := by decide +kernel
theorem dX8_lawWord_22 : decode cX8_lawWord 22 = .ok (.iconst (-1), 1) := by decide +kernel
theorem dX8_lawWord_23 : decode cX8_lawWord 23 = .ok (.ireturn, 1) := by decide +kernel
abbrev mX8_lawWord : zq_M := (cX8_lawWord, RX8, "lawWord", (some .int), 1)
theorem dX8_orderWord_0 : decode cX8_orderWord 0 = .ok (.iload_n 0, 1) := by decide +kernel
theorem dX8_orderWord_1 : decode cX8_orderWord 1 = .ok (.tableswitch 62 263 270 #[47, 62, 49, 51, 53, 55, 57, 59], 47) := by decide +kernel
theorem dX8_orderWord_48 : decode cX8_orderWord 48 = .ok (.iconst 0, 1) := by decide +kernel
theorem dX8_orderWord_49 : decode cX8_orderWord 49 = .ok (.ireturn, 1) := by decide +kernel
theorem dX8_orderWord_50 : decode cX8_orderWord 50 = .ok (.iconst 1, 1) := by decide +kernel
theorem dX8_orderWord_51 : decode cX8_orderWord 51 = .ok (.ireturn, 1) := by decide +kernel
theorem dX8_orderWord_52 : decode cX8_orderWord 52 = .ok (.iconst 2, 1) := by decide +kernel
theorem dX8_orderWord_53 : decode cX8_orderWord 53 = .ok (.ireturn, 1) := by decide +kernel
theorem dX8_orderWord_54 : decode cX8_orderWord 54 = .ok (.iconst 3, 1) := by decide +kernel
theorem dX8_orderWord_55 : decode cX8_orderWord 55 = .ok (.ireturn, 1) := by decide +kernel
theorem dX8_orderWord_56 : decode cX8_orderWord 56 = .ok (.iconst 4, 1) := by decide +kernel
theorem dX8_orderWord_57 : decode cX8_orderWord 57 = .ok (.ireturn, 1) := by decide +kernel
theorem dX8_orderWord_58 : decode cX8_orderWord 58 = .ok (.iconst 5, 1) := by decide +kernel
theorem dX8_orderWord_59 : decode cX8_orderWord 59 = .ok (.ireturn, 1) := by decide +kernel
theorem dX8_orderWord_60 : decode cX8_orderWord 60 = .ok (.bipush 12, 2) := by decide +kernel
theorem dX8_orderWord_62 : decode cX8_orderWord 62 = .ok (.ireturn, 1) := by decide +kernel
theorem dX8_orderWord_63 : decode cX8_orderWord 63 = .ok (.iconst (-1), 1) := by decide +kernel
theorem dX8_orderWord_64 : decode cX8_orderWord 64 = .ok (.ireturn, 1) := by decide +kernel
abbrev mX8_orderWord : zq_M := (cX8_orderWord, RX8, "orderWord", (some .int), 1)
theorem dX8_kindOf_0 : decode cX8_kindOf 0 = .ok (.iload_n 0, 1) := by decide +kernel
theorem dX8_kindOf_1 : decode cX8_kindOf 1 = .ok (.bipush 97, 2) := by decide +kernel
theorem dX8_kindOf_3 : decode cX8_kindOf 3 = .ok (.if_icmp .lt 11, 3) := by decide +kernel
theorem dX8_kindOf_6 : decode cX8_kindOf 6 = .ok (.iload_n 0, 1) := by decide +kernel
theorem dX8_kindOf_7 : decode cX8_kindOf 7 = .ok (.bipush 122, 2) := by decide +kernel
theorem dX8_kindOf_9 : decode cX8_kindOf 9 = .ok (.if_icmp .gt 5, 3) := by decide +kernel
theorem dX8_kindOf_12 : decode cX8_kindOf 12 = .ok (.iconst 1, 1) := by decide +kernel
theorem dX8_kindOf_13 : decode cX8_kindOf 13 = .ok (.ireturn, 1) := by decide +kernel
theorem dX8_kindOf_14 : decode cX8_kindOf 14 = .ok (.iload_n 0, 1) := by decide +kernel
theorem dX8_kindOf_15 : decode cX8_kindOf 15 = .ok (.bipush 48, 2) := by decide +kernel
theorem dX8_kindOf_17 : decode cX8_kindOf 17 = .ok (.if_icmp .lt 13, 3) := by decide +kernel
theorem dX8_kindOf_20 : decode cX8_kindOf 20 = .ok (.iload_n 0, 1) := by decide +kernel
theorem dX8_kindOf_21 : decode cX8_kindOf 21 = .ok (.bipush 57, 2) := by decide +kernel
theorem dX8_kindOf_23 : decode cX8_kindOf 23 = .ok (.if_icmp .gt 7, 3) := by decide +kernel
theorem dX8_kindOf_26 : decode cX8_kindOf 26 = .ok (.iconst 2, 1) := by decide +kernel
theorem dX8_kindOf_27 : decode cX8_kindOf 27 = .ok (.goto 4, 3) := by decide +kernel
theorem dX8_kindOf_30 : decode cX8_kindOf 30 = .ok (.iconst 0, 1) := by decide +kernel
theorem dX8_kindOf_31 : decode cX8_kindOf 31 = .ok (.ireturn, 1) := by decide +kernel
abbrev mX8_kindOf : zq_M := (cX8_kindOf, RX8, "kindOf", (some .int), 1)
theorem dX8_readPart_0 : decode cX8_readPart 0 = .ok (.aload_n 0, 1) := by decide +kernel
theorem dX8_readPart_1 : decode cX8_readPart 1 = .ok (.getfield 22, 3) := by decide +kernel
theorem dX8_readPart_4 : decode cX8_readPart 4 = .ok (.bipush 91, 2) := by decide +kernel
theorem dX8_readPart_6 : decode cX8_readPart 6 = .ok (.if_icmp .ne 25, 3) := by decide +kernel
theorem dX8_readPart_9 : decode cX8_readPart 9 = .ok (.aload_n 0, 1) := by decide +kernel
theorem dX8_readPart_10 : decode cX8_readPart 10 = .ok (.iload_n 1, 1) := by decide +kernel
theorem dX8_readPart_11 : decode cX8_readPart 11 = .ok (.invokevirtual 165, 3) := by decide +kernel
theorem dX8_readPart_14 : decode cX8_readPart 14 = .ok (.ifCond .eq 16, 3) := by decide +kernel
theorem dX8_readPart_17 : decode cX8_readPart 17 = .ok (.aload_n 0, 1) := by decide +kernel
theorem dX8_readPart_18 : decode cX8_readPart 18 = .ok (.iload_n 1, 1) := by decide +kernel
theorem dX8_readPart_19 : decode cX8_readPart 19 = .ok (.iconst 1, 1) := by decide +kernel
theorem dX8_readPart_20 : decode cX8_readPart 20 = .ok (.iadd, 1) := by decide +kernel
theorem dX8_readPart_21 : decode cX8_readPart 21 = .ok (.invokevirtual 150, 3) := by decide +kernel
theorem dX8_readPart_24 : decode cX8_readPart 24 = .ok (.aload_n 0, 1) := by decide +kernel
theorem dX8_readPart_25 : decode cX8_readPart 25 = .ok (.bipush 93, 2) := by decide +kernel
theorem dX8_readPart_27 : decode cX8_readPart 27 = .ok (.invokevirtual 135, 3) := by decide +kernel
theorem dX8_readPart_30 : decode cX8_readPart 30 = .ok (.return_, 1) := by decide +kernel
theorem dX8_readPart_31 : decode cX8_readPart 31 = .ok (.aload_n 0, 1) := by decide +kernel
theorem dX8_readPart_32 : decode cX8_readPart 32 = .ok (.dup, 1) := by decide +kernel
theorem dX8_readPart_33 : decode cX8_readPart 33 = .ok (.getfield 31, 3) := by decide +kernel
theorem dX8_readPart_36 : decode cX8_readPart 36 = .ok (.iconst 1, 1) := by decide +kernel
theorem dX8_readPart_37 : decode cX8_readPart 37 = .ok (.iadd, 1) := by decide +kernel
theorem dX8_readPart_38 : decode cX8_readPart 38 = .ok (.putfield 31, 3) := by decide +kernel
theorem dX8_readPart_41 : decode cX8_readPart 41 = .ok (.aload_n 0, 1) := by decide +kernel
theorem dX8_readPart_42 : decode cX8_readPart 42 = .ok (.getfield 37, 3) := by decide +kernel
theorem dX8_readPart_45 : decode cX8_readPart 45 = .ok (.ifCond .eq 13, 3) := by decide +kernel
theorem dX8_readPart_48 : decode cX8_readPart 48 = .ok (.aload_n 0, 1) := by decide +kernel
theorem dX8_readPart_49 : decode cX8_readPart 49 = .ok (.getfield 22, 3) := by decide +kernel
theorem dX8_readPart_52 : decode cX8_readPart 52 = .ok (.invokestatic 175, 3) := by decide +kernel
theorem dX8_readPart_55 : decode cX8_readPart 55 = .ok (.goto 10, 3) := by decide +kernel
theorem dX8_readPart_58 : decode cX8_readPart 58 = .ok (.aload_n 0, 1) := by decide +kernel
theorem dX8_readPart_59 : decode cX8_readPart 59 = .ok (.getfield 22, 3) := by decide +kernel
theorem dX8_readPart_62 : decode cX8_readPart 62 = .ok (.invokestatic 178, 3) := by decide +kernel
theorem dX8_readPart_65 : decode cX8_readPart 65 = .ok (.istore_n 2, 1) := by decide +kernel
theorem dX8_readPart_66 : decode cX8_readPart 66 = .ok (.aload_n 0, 1) := by decide +kernel
theorem dX8_readPart_67 : decode cX8_readPart 67 = .ok (.getfield 31, 3) := by decide +kernel
theorem dX8_readPart_70 : decode cX8_readPart 70 = .ok (.bipush 50, 2) := by decide +kernel
theorem dX8_readPart_72 : decode cX8_readPart 72 = .ok (.if_icmp .gt 29, 3) := by decide +kernel
theorem dX8_readPart_75 : decode cX8_readPart 75 = .ok (.aload_n 0, 1) := by decide +kernel
theorem dX8_readPart_76 : decode cX8_readPart 76 = .ok (.getfield 22, 3) := by decide +kernel
theorem dX8_readPart_79 : decode cX8_readPart 79 = .ok (.sipush 1000, 3) := by decide +kernel
theorem dX8_readPart_82 : decode cX8_readPart 82 = .ok (.if_icmp .lt 19, 3) := by decide +kernel
theorem dX8_readPart_85 : decode cX8_readPart 85 = .ok (.aload_n 0, 1) := by decide +kernel
theorem dX8_readPart_86 : decode cX8_readPart 86 = .ok (.iconst 1, 1) := by decide +kernel
theorem dX8_readPart_87 : decode cX8_readPart 87 = .ok (.aload_n 0, 1) := by decide +kernel
theorem dX8_readPart_88 : decode cX8_readPart 88 = .ok (.iconst 0, 1) := by decide +kernel
theorem dX8_readPart_89 : decode cX8_readPart 89 = .ok (.sipush 1000, 3) := by decide +kernel
theorem dX8_readPart_92 : decode cX8_readPart 92 = .ok (.invokevirtual 144, 3) := by decide +kernel
theorem dX8_readPart_95 : decode cX8_readPart 95 = .ok (.invokevirtual 122, 3) := by decide +kernel
theorem dX8_readPart_98 : decode cX8_readPart 98 = .ok (.goto 68, 3) := by decide +kernel
theorem dX8_readPart_101 : decode cX8_readPart 101 = .ok (.aload_n 0, 1) := by decide +kernel
theorem dX8_readPart_102 : decode cX8_readPart 102 = .ok (.getfield 31, 3) := by decide +kernel
theorem dX8_readPart_105 : decode cX8_readPart 105 = .ok (.bipush 50, 2) := by decide +kernel
theorem dX8_readPart_107 : decode cX8_readPart 107 = .ok (.if_icmp .gt 55, 3) := by decide +kernel
theorem dX8_readPart_110 : decode cX8_readPart 110 = .ok (.iload_n 2, 1) := by decide +kernel
theorem dX8_readPart_111 : decode cX8_readPart 111 = .ok (.iconst (-1), 1) := by decide +kernel
theorem dX8_readPart_112 : decode cX8_readPart 112 = .ok (.if_icmp .eq 50, 3) := by decide +kernel
theorem dX8_readPart_115 : decode cX8_readPart 115 = .ok (.aload_n 0, 1) := by decide +kernel
theorem dX8_readPart_116 : decode cX8_readPart 116 = .ok (.invokevirtual 58, 3) := by decide +kernel
theorem dX8_readPart_119 : decode cX8_readPart 119 = .ok (.aload_n 0, 1) := by decide +kernel
theorem dX8_readPart_120 : decode cX8_readPart 120 = .ok (.getfield 37, 3) := by decide +kernel
theorem dX8_readPart_123 : decode cX8_readPart 123 = .ok (.ifCond .eq 12, 3) := by decide +kernel
theorem dX8_readPart_126 : decode cX8_readPart 126 = .ok (.iload_n 2, 1) := by decide +kernel
theorem dX8_readPart_127 : decode cX8_readPart 127 = .ok (.iconst 5, 1) := by decide +kernel
theorem dX8_readPart_128 : decode cX8_readPart 128 = .ok (.if_icmp .lt 7, 3) := by decide +kernel
theorem dX8_readPart_131 : decode cX8_readPart 131 = .ok (.iconst 1, 1) := by decide +kernel
theorem dX8_readPart_132 : decode cX8_readPart 132 = .ok (.goto 4, 3) := by decide +kernel
theorem dX8_readPart_135 : decode cX8_readPart 135 = .ok (.iconst 0, 1) := by decide +kernel
theorem dX8_readPart_136 : decode cX8_readPart 136 = .ok (.istore_n 3, 1) := by decide +kernel
theorem dX8_readPart_137 : decode cX8_readPart 137 = .ok (.aload_n 0, 1) := by decide +kernel
theorem dX8_readPart_138 : decode cX8_readPart 138 = .ok (.iconst 2, 1) := by decide +kernel
theorem dX8_readPart_139 : decode cX8_readPart 139 = .ok (.iload_n 3, 1) := by decide +kernel
theorem dX8_readPart_140 : decode cX8_readPart 140 = .ok (.ifCond .eq 15, 3) := by decide +kernel
theorem dX8_readPart_143 : decode cX8_readPart 143 = .ok (.iload_n 2, 1) := by decide +kernel
theorem dX8_readPart_144 : decode cX8_readPart 144 = .ok (.aload_n 0, 1) := by decide +kernel
theorem dX8_readPart_145 : decode cX8_readPart 145 = .ok (.iconst 0, 1) := by decide +kernel
theorem dX8_readPart_146 : decode cX8_readPart 146 = .ok (.bipush 6, 2) := by decide +kernel
theorem dX8_readPart_148 : decode cX8_readPart 148 = .ok (.invokevirtual 144, 3) := by decide +kernel
theorem dX8_readPart_151 : decode cX8_readPart 151 = .ok (.iadd, 1) := by decide +kernel
theorem dX8_readPart_152 : decode cX8_readPart 152 = .ok (.goto 4, 3) := by decide +kernel
theorem dX8_readPart_155 : decode cX8_readPart 155 = .ok (.iload_n 2, 1) := by decide +kernel
theorem dX8_readPart_156 : decode cX8_readPart 156 = .ok (.invokevirtual 122, 3) := by decide +kernel
theorem dX8_readPart_159 : decode cX8_readPart 159 = .ok (.goto 7, 3) := by decide +kernel
theorem dX8_readPart_162 : decode cX8_readPart 162 = .ok (.aload_n 0, 1) := by decide +kernel
theorem dX8_readPart_163 : decode cX8_readPart 163 = .ok (.invokevirtual 61, 3) := by decide +kernel
theorem dX8_readPart_166 : decode cX8_readPart 166 = .ok (.return_, 1) := by decide +kernel
abbrev mX8_readPart : zq_M := (cX8_readPart, RX8, "readPart", none, 4)
theorem dX8_readTerm_0 : decode cX8_readTerm 0 = .ok (.aload_n 0, 1) := by decide +kernel
theorem dX8_readTerm_1 : decode cX8_readTerm 1 = .ok (.iload_n 1, 1) := by decide +kernel
theorem dX8_readTerm_2 : decode cX8_readTerm 2 = .ok (.invokevirtual 172, 3) := by decide +kernel
theorem dX8_readTerm_5 : decode cX8_readTerm 5 = .ok (.iconst 0, 1) := by decide +kernel
theorem dX8_readTerm_6 : decode cX8_readTerm 6 = .ok (.istore_n 2, 1) := by decide +kernel
theorem dX8_readTerm_7 : decode cX8_readTerm 7 = .ok (.iload_n 2, 1) := by decide +kernel
theorem dX8_readTerm_8 : decode cX8_readTerm 8 = .ok (.sipush 400, 3) := by decide +kernel
theorem dX8_readTerm_11 : decode cX8_readTerm 11 = .ok (.if_icmp .ge 80, 3) := by decide +kernel
theorem dX8_readTerm_14 : decode cX8_readTerm 14 = .ok (.aload_n 0, 1) := by decide +kernel
theorem dX8_readTerm_15 : decode cX8_readTerm 15 = .ok (.getfield 22, 3) := by decide +kernel
theorem dX8_readTerm_18 : decode cX8_readTerm 18 = .ok (.bipush 42, 2) := by decide +kernel
theorem dX8_readTerm_20 : decode cX8_readTerm 20 = .ok (.if_icmp .eq 21, 3) := by decide +kernel
theorem dX8_readTerm_23 : decode cX8_readTerm 23 = .ok (.aload_n 0, 1) := by decide +kernel
theorem dX8_readTerm_24 : decode cX8_readTerm 24 = .ok (.getfield 22, 3) := by decide +kernel
theorem dX8_readTerm_27 : decode cX8_readTerm 27 = .ok (.bipush 47, 2) := by decide +kernel
theorem dX8_readTerm_29 : decode cX8_readTerm 29 = .ok (.if_icmp .eq 12, 3) := by decide +kernel
theorem dX8_readTerm_32 : decode cX8_readTerm 32 = .ok (.aload_n 0, 1) := by decide +kernel
theorem dX8_readTerm_33 : decode cX8_readTerm 33 = .ok (.getfield 22, 3) := by decide +kernel
theorem dX8_readTerm_36 : decode cX8_readTerm 36 = .ok (.bipush 37, 2) := by decide +kernel
theorem dX8_readTerm_38 : decode cX8_readTerm 38 = .ok (.if_icmp .ne 53, 3) := by decide +kernel
theorem dX8_readTerm_41 : decode cX8_readTerm 41 = .ok (.bipush 8, 2) := by decide +kernel
theorem dX8_readTerm_43 : decode cX8_readTerm 43 = .ok (.istore_n 3, 1) := by decide +kernel
theorem dX8_readTerm_44 : decode cX8_readTerm 44 = .ok (.aload_n 0, 1) := by decide +kernel
theorem dX8_readTerm_45 : decode cX8_readTerm 45 = .ok (.getfield 22, 3) := by decide +kernel
theorem dX8_readTerm_48 : decode cX8_readTerm 48 = .ok (.bipush 42, 2) := by decide +kernel
theorem dX8_readTerm_50 : decode cX8_readTerm 50 = .ok (.if_icmp .eq 20, 3) := by decide +kernel
theorem dX8_readTerm_53 : decode cX8_readTerm 53 = .ok (.aload_n 0, 1) := by decide +kernel
theorem dX8_readTerm_54 : decode cX8_readTerm 54 = .ok (.getfield 22, 3) := by decide +kernel
theorem dX8_readTerm_57 : decode cX8_readTerm 57 = .ok (.bipush 47, 2) := by decide +kernel
theorem dX8_readTerm_59 : decode cX8_readTerm 59 = .ok (.if_icmp .ne 8, 3) := by decide +kernel
theorem dX8_readTerm_62 : decode cX8_readTerm 62 = .ok (.bipush 9, 2) := by decide +kernel
theorem dX8_readTerm_64 : decode cX8_readTerm 64 = .ok (.goto 5, 3) := by decide +kernel
theorem dX8_readTerm_67 : decode cX8_readTerm 67 = .ok (.bipush 10, 2) := by decide +kernel
theorem dX8_readTerm_69 : decode cX8_readTerm 69 = .ok (.istore_n 3, 1) := by decide +kernel
theorem dX8_readTerm_70 : decode cX8_readTerm 70 = .ok (.aload_n 0, 1) := by decide +kernel
theorem dX8_readTerm_71 : decode cX8_readTerm 71 = .ok (.invokevirtual 58, 3) := by decide +kernel
theorem dX8_readTerm_74 : decode cX8_readTerm 74 = .ok (.aload_n 0, 1) := by decide +kernel
theorem dX8_readTerm_75 : decode cX8_readTerm 75 = .ok (.iload_n 1, 1) := by decide +kernel
theorem dX8_readTerm_76 : decode cX8_readTerm 76 = .ok (.invokevirtual 172, 3) := by decide +kernel
theorem dX8_readTerm_79 : decode cX8_readTerm 79 = .ok (.aload_n 0, 1) := by decide +kernel
theorem dX8_readTerm_80 : decode cX8_readTerm 80 = .ok (.iload_n 3, 1) := by decide +kernel
theorem dX8_readTerm_81 : decode cX8_readTerm 81 = .ok (.iconst 0, 1) := by decide +kernel
theorem dX8_readTerm_82 : decode cX8_readTerm 82 = .ok (.invokevirtual 122, 3) := by decide +kernel
theorem dX8_readTerm_85 : decode cX8_readTerm 85 = .ok (.iinc 2 1, 3) := by decide +kernel
theorem dX8_readTerm_88 : decode cX8_readTerm 88 = .ok (.goto (-81), 3) := by decide +kernel
theorem dX8_readTerm_91 : decode cX8_readTerm 91 = .ok (.return_, 1) := by decide +kernel
abbrev mX8_readTerm : zq_M := (cX8_readTerm, RX8, "readTerm", none, 4)
theorem dX8_readSum_0 : decode cX8_readSum 0 = .ok (.aload_n 0, 1) := by decide +kernel
theorem dX8_readSum_1 : decode cX8_readSum 1 = .ok (.iload_n 1, 1) := by decide +kernel
theorem dX8_readSum_2 : decode cX8_readSum 2 = .ok (.invokevirtual 169, 3) := by decide +kernel
theorem dX8_readSum_5 : decode cX8_readSum 5 = .ok (.iconst 0, 1) := by decide +kernel
theorem dX8_readSum_6 : decode cX8_readSum 6 = .ok (.istore_n 2, 1) := by decide +kernel
theorem dX8_readSum_7 : decode cX8_readSum 7 = .ok (.iload_n 2, 1) := by decide +kernel
theorem dX8_readSum_8 : decode cX8_readSum 8 = .ok (.sipush 400, 3) := by decide +kernel
theorem dX8_readSum_11 : decode cX8_readSum 11 = .ok (.if_icmp .ge 59, 3) := by decide +kernel
theorem dX8_readSum_14 : decode cX8_readSum 14 = .ok (.aload_n 0, 1) := by decide +kernel
theorem dX8_readSum_15 : decode cX8_readSum 15 = .ok (.getfield 22, 3) := by decide +kernel
theorem dX8_readSum_18 : decode cX8_readSum 18 = .ok (.bipush 43, 2) := by decide +kernel
theorem dX8_readSum_20 : decode cX8_readSum 20 = .ok (.if_icmp .eq 12, 3) := by decide +kernel
theorem dX8_readSum_23 : decode cX8_readSum 23 = .ok (.aload_n 0, 1) := by decide +kernel
theorem dX8_readSum_24 : decode cX8_readSum 24 = .ok (.getfield 22, 3) := by decide +kernel
theorem dX8_readSum_27 : decode cX8_readSum 27 = .ok (.bipush 45, 2) := by decide +kernel
theorem dX8_readSum_29 : decode cX8_readSum 29 = .ok (.if_icmp .ne 41, 3) := by decide +kernel
theorem dX8_readSum_32 : decode cX8_readSum 32 = .ok (.aload_n 0, 1) := by decide +kernel
theorem dX8_readSum_33 : decode cX8_readSum 33 = .ok (.getfield 22, 3) := by decide +kernel
theorem dX8_readSum_36 : decode cX8_readSum 36 = .ok (.bipush 43, 2) := by decide +kernel
theorem dX8_readSum_38 : decode cX8_readSum 38 = .ok (.if_icmp .ne 8, 3) := by decide +kernel
theorem dX8_readSum_41 : decode cX8_readSum 41 = .ok (.bipush 6, 2) := by decide +kernel
theorem dX8_readSum_43 : decode cX8_readSum 43 = .ok (.goto 5, 3) := by decide +kernel
theorem dX8_readSum_46 : decode cX8_readSum 46 = .ok (.bipush 7, 2) := by decide +kernel
theorem dX8_readSum_48 : decode cX8_readSum 48 = .ok (.istore_n 3, 1) := by decide +kernel
theorem dX8_readSum_49 : decode cX8_readSum 49 = .ok (.aload_n 0, 1) := by decide +kernel
theorem dX8_readSum_50 : decode cX8_readSum 50 = .ok (.invokevirtual 58, 3) := by decide +kernel
theorem dX8_readSum_53 : decode cX8_readSum 53 = .ok (.aload_n 0, 1) := by decide +kernel
theorem dX8_readSum_54 : decode cX8_readSum 54 = .ok (.iload_n 1, 1) := by decide +kernel
theorem dX8_readSum_55 : decode cX8_readSum 55 = .ok (.invokevirtual 169, 3) := by decide +kernel
theorem dX8_readSum_58 : decode cX8_readSum 58 = .ok (.aload_n 0, 1) := by decide +kernel
theorem dX8_readSum_59 : decode cX8_readSum 59 = .ok (.iload_n 3, 1) := by decide +kernel
theorem dX8_readSum_60 : decode cX8_readSum 60 = .ok (.iconst 0, 1) := by decide +kernel
theorem dX8_readSum_61 : decode cX8_readSum 61 = .ok (.invokevirtual 122, 3) := by decide +kernel
theorem dX8_readSum_64 : decode cX8_readSum 64 = .ok (.iinc 2 1, 3) := by decide +kernel
theorem dX8_readSum_67 : decode cX8_readSum 67 = .ok (.goto (-60), 3) := by decide +kernel
theorem dX8_readSum_70 : decode cX8_readSum 70 = .ok (.return_, 1) := by decide +kernel
abbrev mX8_readSum : zq_M := (cX8_readSum, RX8, "readSum", none, 4)
section ZC19
variable {l : Launch} {G : zq_G} {D n : Nat} {ρ : Nat → zq_E} {post : Option Value → Nat → (Nat → zq_E) → Prop}
variable {N : Nat} {c v pl : Nat → Nat} {tk : Nat → Int32} {κ : zl_S} {q : zQ} {cs : Nat} {cd : Nat → Nat × Nat} {o : Bool}
theorem zc_fail (hT : zTm N c v pl tk) (hR : zRw κ N pl tk o) (hq : zqw N q) (hS : zPs κ tk q cs cd) (hp : ∀ κ', zRf κ' κ → zPs κ' tk (zpf pl q) cs cd → post none n (zl_h κ' ρ)) : zq_Runs l G D 0 0 yX8_fail [.ref 48] n (zl_h κ ρ) post := by
  have hN := hT.1
  have hq1 := hq.1
  have hb := hq.2
  have hpl := hT.2.2.2.1 q.1 hq1
  obtain ⟨s1, s2, s3⟩ := hS
  have fin : ∀ κ2, zRf κ2 κ → κ2.1 48 5 = nI cs → κ2.1 48 7 = nI ((zpf pl q).2.2 - 1) → (zpf pl q).2.2 ≠ 0 → zq_At l G (zq_rm D 0 0) mX8_fail (zq_QF G post 0 0) 40 [(0, .ref 48)] [] n (zl_h κ2 ρ) 0 0 := by
    intro κ2 h1 h2 h3 h4
    have hp := hp (zl_si κ2 48 3 (nI 3001)) (zRf_i h1 (by decide)) ⟨by rw [zsi2_k _ _ (by decide)]; exact h2, s2, Or.inr ⟨h4, zsi2_s _ _ _ _, by rw [zsi2_k _ _ (by decide)]; exact h3⟩⟩
    refine at_aload_n dX8_fail_40 rfl ?_
    refine at_sipush dX8_fail_41 (v := nI 3001) (by decide) ?_
    refine at_lput dX8_fail_44 (pl_X8_22 _) (fun i => ⟨_, rfl, Nat.le_of_ble_eq_true rfl, fun v => rfl⟩) rfl rfl ?_
    refine at_vret dX8_fail_47 rfl (by omega) (by omega) ?_
    exact hp
  refine zq_enter (cc := cX8_fail) (nL := 1) (ret := none) cw_X8_fail (by decide) rfl (Nat.le_of_ble_eq_true rfl) ?_
  rcases s3 with ⟨a1, a2, a3, a4, a5, a6⟩ | ⟨a1, a2, a3⟩
  · have e : zpf pl q = (q.1, q.2.1, pl q.1 + 1) := if_pos a1
    refine at_aload_n dX8_fail_0 rfl ?_
    refine at_get dX8_fail_1 fl_X8_34 (zl_o rfl) rfl ?_
    rw [a5]
    refine at_iconst dX8_fail_4 (v := -1) rfl ?_
    refine at_icmp_ne (tgt := 40) dX8_fail_5 (by decide) (fun c5 => ?_) (fun c5 => ?_)
    · exact absurd rfl c5
    · refine at_aload_n dX8_fail_8 rfl ?_
      refine at_get dX8_fail_9 fl_X8_18 (zl_o rfl) rfl ?_
      rw [a2]
      refine at_if_ltN (tgt := 40) dX8_fail_12 (by decide) (by omega) (fun c12 => ?_) (fun c12 => ?_)
      · exact c12.elim
      · refine at_aload_n dX8_fail_15 rfl ?_
        refine at_get dX8_fail_16 fl_X8_18 (zl_o rfl) rfl ?_
        refine at_aload_n dX8_fail_19 rfl ?_
        refine at_get dX8_fail_20 fl_X8_15 (zl_o rfl) rfl ?_
        refine at_alen dX8_fail_23 (zl_a (a := 50) rfl) (by decide) (v := nI 401) rfl ?_
        rw [a2]
        refine at_geN (tgt := 40) dX8_fail_24 (by decide) (by omega) (by omega) (fun c24 => ?_) (fun c24 => ?_)
        · omega
        · refine at_aload_n dX8_fail_27 rfl ?_
          refine at_aload_n dX8_fail_28 rfl ?_
          refine at_get dX8_fail_29 fl_X8_15 (zl_o rfl) rfl ?_
          refine at_aload_n dX8_fail_32 rfl ?_
          refine at_get dX8_fail_33 fl_X8_18 (zl_o rfl) rfl ?_
          rw [a2]
          refine at_lald2 (a := 50) dX8_fail_36 rfl rfl (by show _ < 401; omega) (by decide) ?_
          rw [(hR.1 q.1 hq1).2]
          refine at_lput dX8_fail_37 (pl_X8_34 _) (fun i => ⟨_, rfl, Nat.le_of_ble_eq_true rfl, fun v => rfl⟩) rfl rfl ?_
          exact fin _ (zRf_i (zRf_r κ) (by decide)) (by rw [zsi2_k _ _ (by decide)]; exact s1) (by rw [zsi2_s, e, Nat.add_sub_cancel]) (by rw [e]; exact Nat.succ_ne_zero _)
  · have e : zpf pl q = q := if_neg a1
    refine at_aload_n dX8_fail_0 rfl ?_
    refine at_get dX8_fail_1 fl_X8_34 (zl_o rfl) rfl ?_
    rw [a3]
    refine at_iconst dX8_fail_4 (v := -1) rfl ?_
    refine at_icmp_ne (tgt := 40) dX8_fail_5 (by decide) (fun c5 => ?_) (fun c5 => ?_)
    · exact fin κ (zRf_r κ) s1 (by rw [e]; exact a3) (by rw [e]; exact a1)
    · exact absurd c5 (nI_ne_m1 (by omega))
theorem zc_next (hT : zTm N c v pl tk) (hR : zRw κ N pl tk o) (hq : zqw N q) (hS : zPs κ tk q cs cd) (hlt : q.2.2 = 0 → q.1 < N) (hp : ∀ κ', zRf κ' κ → zPs κ' tk (if q.2.2 = 0 then zpn q else q) cs cd → post none n (zl_h κ' ρ)) : zq_Runs l G D 0 0 yX8_next [.ref 48] n (zl_h κ ρ) post := by
  have hN := hT.1
  obtain ⟨s1, s2, s3⟩ := id hS
  refine zq_enter (cc := cX8_next) (nL := 1) (ret := none) cw_X8_next (by decide) rfl (Nat.le_of_ble_eq_true rfl) ?_
  rcases s3 with ⟨a1, a2, a3, a4, a5, a6⟩ | ⟨a1, a2, a3⟩
  · have hlt := hlt a1
    have ht := zT1_lo (hT.2.2.2.2 q.1 hlt)
    rw [if_pos a1] at hp
    have hp := hp (zl_si (zl_si κ 48 2 (nI (q.1 + 1))) 48 3 (tk (q.1 + 1))) (zRf_i (zRf_i (zRf_r κ) (by decide)) (by decide)) ⟨by rw [zsi2_k _ _ (by decide), zsi2_k _ _ (by decide)]; exact s1, s2, Or.inl ⟨a1, by rw [zsi2_k _ _ (by decide), zsi2_s]; rfl, zsi2_s _ _ _ _, by rw [zsi2_k _ _ (by decide), zsi2_k _ _ (by decide)]; exact a4, by rw [zsi2_k _ _ (by decide), zsi2_k _ _ (by decide)]; exact a5, a6⟩⟩
    have w1 : (zl_si κ 48 2 (nI (q.1 + 1))).2.1 49 (q.1 + 1) = tk (q.1 + 1) := (hR.1 (q.1 + 1) (by omega)).1
    refine at_aload_n dX8_next_0 rfl ?_
    refine at_get dX8_next_1 fl_X8_22 (zl_o rfl) rfl ?_
    rw [a3]
    refine at_sipush dX8_next_4 (v := nI 3001) (by decide) ?_
    refine at_icmp_eq (tgt := 53) dX8_next_7 (by decide) (fun c7 => ?_) (fun c7 => ?_)
    · (rw [c7, nI_toInt (by decide)] at ht; omega)
    · refine at_aload_n dX8_next_10 rfl ?_
      refine at_get dX8_next_11 fl_X8_22 (zl_o rfl) rfl ?_
      rw [a3]
      refine at_sipush dX8_next_14 (v := nI 3000) (by decide) ?_
      refine at_icmp_eq (tgt := 53) dX8_next_17 (by decide) (fun c17 => ?_) (fun c17 => ?_)
      · (rw [c17, nI_toInt (by decide)] at ht; omega)
      · refine at_aload_n dX8_next_20 rfl ?_
        refine at_get dX8_next_21 fl_X8_18 (zl_o rfl) rfl ?_
        rw [a2]
        refine at_sipush dX8_next_24 (v := nI 400) (by decide) ?_
        refine at_geN (tgt := 53) dX8_next_27 (by decide) (by omega) (by omega) (fun c27 => ?_) (fun c27 => ?_)
        · omega
        · refine at_aload_n dX8_next_30 rfl ?_
          refine at_dup dX8_next_31 rfl ?_
          refine at_get dX8_next_32 fl_X8_18 (zl_o rfl) rfl ?_
          rw [a2]
          refine at_iconst dX8_next_35 (v := nI 1) (by decide) ?_
          refine at_iaddN dX8_next_36 ?_
          refine at_lput dX8_next_37 (pl_X8_18 _) (fun i => ⟨_, rfl, Nat.le_of_ble_eq_true rfl, fun v => rfl⟩) rfl rfl ?_
          refine at_aload_n dX8_next_40 rfl ?_
          refine at_aload_n dX8_next_41 rfl ?_
          refine at_get dX8_next_42 fl_X8_11 (zl_o rfl) rfl ?_
          refine at_aload_n dX8_next_45 rfl ?_
          refine at_get dX8_next_46 fl_X8_18 (zl_o rfl) rfl ?_
          rw [zsi2_s]
          refine at_lald2 (a := 49) dX8_next_49 rfl rfl (by show _ < 401; omega) (by decide) ?_
          rw [w1]
          refine at_lput dX8_next_50 (pl_X8_22 _) (fun i => ⟨_, rfl, Nat.le_of_ble_eq_true rfl, fun v => rfl⟩) rfl rfl ?_
          refine at_vret dX8_next_53 rfl (by omega) (by omega) ?_
          exact hp
  · have hp := hp κ (zRf_r κ) (by rw [if_neg a1]; exact hS)
    refine at_aload_n dX8_next_0 rfl ?_
    refine at_get dX8_next_1 fl_X8_22 (zl_o rfl) rfl ?_
    rw [a2]
    refine at_sipush dX8_next_4 (v := nI 3001) (by decide) ?_
    refine at_icmp_eq (tgt := 53) dX8_next_7 (by decide) (fun c7 => ?_) (fun c7 => ?_)
    · refine at_vret dX8_next_53 rfl (by omega) (by omega) ?_
      exact hp
    · exact absurd rfl c7
theorem zqw_pf (hT : zTm N c v pl tk) (hq : zqw N q) : zqw N (zpf pl q) := by
  have hpl := hT.2.2.2.1 q.1 hq.1
  unfold zpf
  split
  · exact ⟨hq.1, by show pl q.1 + 1 ≤ 1000; omega⟩
  · exact hq
theorem zpt_c (hT : zTm N c v pl tk) (hq : zqw N q) {k : Nat} (hk : k ≠ 0) (h : zpt c q k = true) : q.2.2 = 0 ∧ q.1 < N ∧ c q.1 = k := by
  unfold zpt at h
  rw [Bool.and_eq_true, decide_eq_true_eq, decide_eq_true_eq] at h
  refine ⟨h.1, ?_, h.2⟩
  have := hq.1
  by_cases e : q.1 = N
  · rw [e, hT.2.1] at h; exact absurd h.2.symm hk
  · omega
theorem zpf_bad (h : (zpf pl q).2.2 = 0) : False := by
  unfold zpf at h
  split at h
  · exact Nat.succ_ne_zero _ h
  · next e => exact e h
theorem zc_expect {k : Nat} (hD : 1 ≤ D) (hk : zkt k) (hT : zTm N c v pl tk) (hR : zRw κ N pl tk o) (hq : zqw N q) (hS : zPs κ tk q cs cd) (hp : ∀ κ', zRf κ' κ → zPs κ' tk (zpmu c pl q k) cs cd → post none n (zl_h κ' ρ)) : zq_Runs l G D 0 0 yX8_expect [.ref 48, .int (nI (ztn2 k))] n (zl_h κ ρ) post := by
  have hi := zPs_iff hT hq.1 hk hS
  have hk0 : k ≠ 0 := by unfold zkt at hk; omega
  unfold zpmu at hp
  refine zq_enter (cc := cX8_expect) (nL := 2) (ret := none) cw_X8_expect (by decide) rfl (Nat.le_of_ble_eq_true rfl) ?_
  refine at_aload_n dX8_expect_0 rfl ?_
  refine at_get dX8_expect_1 fl_X8_22 (zl_o rfl) rfl ?_
  refine at_iload_n dX8_expect_4 rfl ?_
  refine at_icmp_eq (tgt := 12) dX8_expect_5 (by decide) (fun c5 => ?_) (fun c5 => ?_)
  · have hz := hi.mp c5
    have hc := zpt_c hT hq hk0 hz
    rw [if_pos hz] at hp
    refine at_aload_n dX8_expect_12 rfl ?_
    refine at_callV0 (d := D - 1) dX8_expect_13 mv_X8_58 (zl_o rfl) (Nat.le_of_ble_eq_true rfl) (zq_r0 (by omega) (by omega) (by omega)) ?_
    refine zc_next hT hR hq hS (fun _ => hc.2.1) (fun κ2 g1 g2 => ?_)
    rw [if_pos hc.1] at g2
    have hp := hp κ2 g1 g2
    refine at_vret dX8_expect_16 rfl (by omega) (by omega) ?_
    exact hp
  · have hz : ¬ zpt c q k = true := fun h => c5 (hi.mpr h)
    rw [if_neg hz] at hp
    refine at_aload_n dX8_expect_8 rfl ?_
    refine at_callV0 (d := D - 1) dX8_expect_9 mv_X8_61 (zl_o rfl) (Nat.le_of_ble_eq_true rfl) (zq_r0 (by omega) (by omega) (by omega)) ?_
    refine zc_fail hT hR hq hS (fun κ1 h1 h2 => ?_)
    refine at_aload_n dX8_expect_12 rfl ?_
    refine at_callV0 (d := D - 1) dX8_expect_13 mv_X8_58 (zl_o rfl) (Nat.le_of_ble_eq_true rfl) (zq_r0 (by omega) (by omega) (by omega)) ?_
    refine zc_next hT (zRw_f h1 hR) (zqw_pf hT hq) h2 (fun h => (zpf_bad h).elim) (fun κ2 g1 g2 => ?_)
    rw [if_neg (fun h => zpf_bad h)] at g2
    have hp := hp κ2 (zRf_t g1 h1) g2
    refine at_vret dX8_expect_16 rfl (by omega) (by omega) ?_
    exact hp
/-- the number that is read, or the lowest -/
def zrdn (c v : Nat → Nat) (q : zQ) (lo hi : Nat) : Nat := if q.2.2 = 0 ∧ c q.1 = 50 ∧ lo ≤ v q.1 ∧ v q.1 ≤ hi then v q.1 else lo
theorem zc_numberWithin {lo hi : Nat} (hD : 1 ≤ D) (h1000 : hi ≤ 1000) (hT : zTm N c v pl tk) (hR : zRw κ N pl tk o) (hq : zqw N q) (hS : zPs κ tk q cs cd) (hp : ∀ κ', zRf κ' κ → zPs κ' tk (zpnum c v pl q lo hi) cs cd → post (some (.int (nI (zrdn c v q lo hi)))) n (zl_h κ' ρ)) (hlo : lo ≤ 1000) : zq_Runs l G D 0 0 yX8_numberWithin [.ref 48, .int (nI lo), .int (nI hi)] n (zl_h κ ρ) post := by
  have key : (κ.1 48 3 = nI (1000 + v q.1) ∧ q.2.2 = 0 ∧ q.1 < N ∧ c q.1 = 50 ∧ lo ≤ v q.1 ∧ v q.1 ≤ hi) ∨ (((κ.1 48 3 = nI 3000 ∨ κ.1 48 3 = nI 3001) ∨ (-128 ≤ (κ.1 48 3).toInt ∧ (κ.1 48 3).toInt < 1000) ∨ ∃ u, κ.1 48 3 = nI (1000 + u) ∧ u ≤ 1001 ∧ (u < lo ∨ hi < u)) ∧ ¬ (q.2.2 = 0 ∧ c q.1 = 50 ∧ lo ≤ v q.1 ∧ v q.1 ≤ hi)) := by
    rcases hS.2.2 with ⟨a1, a2, a3, a4, a5, a6⟩ | ⟨a1, a2, a3⟩
    · rw [a3]
      by_cases e : q.1 = N
      · refine Or.inr ⟨Or.inl (Or.inl (by rw [e]; exact hT.2.2.1)), fun h => ?_⟩
        have := h.2.1
        rw [e, hT.2.1] at this
        omega
      · have hlt : q.1 < N := by have := hq.1; omega
        rcases hT.2.2.2.2 q.1 hlt with ⟨b1, b2⟩ | ⟨b1, b2, b3⟩ | ⟨b1, b2⟩ | ⟨b1, b2, b3, b4, b5⟩
        · by_cases ok : lo ≤ v q.1 ∧ v q.1 ≤ hi
          · refine Or.inl ⟨?_, a1, hlt, b1, ok⟩
            rw [b2, Nat.min_eq_left (by omega)]
          · refine Or.inr ⟨Or.inr (Or.inr ⟨min (v q.1) 1001, b2, Nat.min_le_right _ _, by omega⟩), fun h => ok h.2.2⟩
        · have := zwm_in b1 b2
          refine Or.inr ⟨Or.inr (Or.inl (by rw [b3, nI_toInt (by omega)]; omega)), fun h => by omega⟩
        · refine Or.inr ⟨Or.inr (Or.inl (by rw [b2, nI_toInt (by decide)]; omega)), fun h => by omega⟩
        · refine Or.inr ⟨Or.inr (Or.inl (by omega)), fun h => by omega⟩
    · exact Or.inr ⟨Or.inl (Or.inr a2), fun h => a1 h.1⟩
  unfold zpnum zrdn at hp
  refine zq_enter (cc := cX8_numberWithin) (nL := 4) (ret := (some .int)) cw_X8_numberWithin (by decide) rfl (Nat.le_of_ble_eq_true rfl) ?_
  rcases key with ⟨k1, k2, k3, k4, k5, k6⟩ | ⟨k1, k2⟩
  · rw [if_pos k2, if_pos ⟨k4, k5, k6⟩, if_pos ⟨k2, k4, k5, k6⟩] at hp
    refine at_aload_n dX8_numberWithin_0 rfl ?_
    refine at_get dX8_numberWithin_1 fl_X8_22 (zl_o rfl) rfl ?_
    rw [k1]
    refine at_sipush dX8_numberWithin_4 (v := nI 1000) (by decide) ?_
    refine at_isubN dX8_numberWithin_7 (by omega) ?_
    rw [show 1000 + v q.1 - 1000 = v q.1 by omega]
    refine at_istore_n dX8_numberWithin_8 rfl (by decide) ?_
    refine at_aload_n dX8_numberWithin_9 rfl ?_
    refine at_get dX8_numberWithin_10 fl_X8_22 (zl_o rfl) rfl ?_
    rw [k1]
    refine at_sipush dX8_numberWithin_13 (v := nI 3000) (by decide) ?_
    refine at_geN (tgt := 29) dX8_numberWithin_16 (by decide) (by omega) (by omega) (fun c16 => ?_) (fun c16 => ?_)
    · omega
    · refine at_iload_n dX8_numberWithin_19 rfl ?_
      refine at_iload_n dX8_numberWithin_20 rfl ?_
      refine at_ltN (tgt := 29) dX8_numberWithin_21 (by decide) (by omega) (by omega) (fun c21 => ?_) (fun c21 => ?_)
      · omega
      · refine at_iload_n dX8_numberWithin_24 rfl ?_
        refine at_iload_n dX8_numberWithin_25 rfl ?_
        refine at_leN (tgt := 35) dX8_numberWithin_26 (by decide) (by omega) (by omega) (fun c26 => ?_) (fun c26 => ?_)
        · refine at_aload_n dX8_numberWithin_35 rfl ?_
          refine at_callV0 (d := D - 1) dX8_numberWithin_36 mv_X8_58 (zl_o rfl) (Nat.le_of_ble_eq_true rfl) (zq_r0 (by omega) (by omega) (by omega)) ?_
          refine zc_next hT hR hq hS (fun _ => k3) (fun κ2 g1 g2 => ?_)
          rw [if_pos k2] at g2
          have hp := hp κ2 g1 g2
          refine at_iload_n dX8_numberWithin_39 rfl ?_
          refine at_iret dX8_numberWithin_40 rfl (by omega) (by omega) ?_
          exact hp
        · omega
  · have ez : (if q.2.2 = 0 then (if c q.1 = 50 ∧ lo ≤ v q.1 ∧ v q.1 ≤ hi then zpn q else zpf pl q) else q) = zpf pl q := by
      by_cases e : q.2.2 = 0
      · rw [if_pos e, if_neg (fun h => k2 ⟨e, h⟩)]
      · rw [if_neg e]; unfold zpf; rw [if_neg e]
    rw [ez, if_neg k2] at hp
    generalize hw : κ.1 48 3 = T at *
    have hx : nI 3000 ≤ T ∨ T - nI 1000 < nI lo ∨ nI hi < T - nI 1000 := by
      rcases k1 with (rfl | rfl) | h | ⟨u, rfl, h1, h2⟩
      · exact Or.inl (by decide)
      · exact Or.inl (by decide)
      · refine Or.inr (Or.inl ?_)
        have e : T - nI 1000 = zI (T.toInt - 1000) := by
          have e2 : zI (T.toInt - 1000) = zI T.toInt - zI 1000 := Int32.ofInt_sub _ _
          rw [e2, zI_of]; rfl
        rw [e, Int32.lt_iff_toInt_lt, nI_toInt (by omega), zI_toInt (by omega) (by omega)]
        omega
      · have e : nI (1000 + u) - nI 1000 = nI u := by rw [Nat.add_comm, ← nI_add, Int32.add_sub_cancel]
        rw [e]
        rcases h2 with h2 | h2
        · exact Or.inr (Or.inl ((zn_lt (by omega) (by omega)).mpr h2))
        · exact Or.inr (Or.inr ((zn_lt (by omega) (by omega)).mpr h2))
    refine at_aload_n dX8_numberWithin_0 rfl ?_
    refine at_get dX8_numberWithin_1 fl_X8_22 (zl_o rfl) rfl ?_
    rw [hw]
    refine at_sipush dX8_numberWithin_4 (v := nI 1000) (by decide) ?_
    refine at_isub dX8_numberWithin_7 ?_
    refine at_istore_n dX8_numberWithin_8 rfl (by decide) ?_
    refine at_aload_n dX8_numberWithin_9 rfl ?_
    refine at_get dX8_numberWithin_10 fl_X8_22 (zl_o rfl) rfl ?_
    rw [hw]
    refine at_sipush dX8_numberWithin_13 (v := nI 3000) (by decide) ?_
    refine at_icmp_ge (tgt := 29) dX8_numberWithin_16 (by decide) (fun c16 => ?_) (fun c16 => ?_)
    · refine at_aload_n dX8_numberWithin_29 rfl ?_
      refine at_callV0 (d := D - 1) dX8_numberWithin_30 mv_X8_61 (zl_o rfl) (Nat.le_of_ble_eq_true rfl) (zq_r0 (by omega) (by omega) (by omega)) ?_
      refine zc_fail hT hR hq hS (fun κ1 h1 h2 => ?_)
      have hp := hp κ1 h1 h2
      refine at_iload_n dX8_numberWithin_33 rfl ?_
      refine at_iret dX8_numberWithin_34 rfl (by omega) (by omega) ?_
      exact hp
    · refine at_iload_n dX8_numberWithin_19 rfl ?_
      refine at_iload_n dX8_numberWithin_20 rfl ?_
      refine at_icmp_lt (tgt := 29) dX8_numberWithin_21 (by decide) (fun c21 => ?_) (fun c21 => ?_)
      · refine at_aload_n dX8_numberWithin_29 rfl ?_
        refine at_callV0 (d := D - 1) dX8_numberWithin_30 mv_X8_61 (zl_o rfl) (Nat.le_of_ble_eq_true rfl) (zq_r0 (by omega) (by omega) (by omega)) ?_
        refine zc_fail hT hR hq hS (fun κ1 h1 h2 => ?_)
        have hp := hp κ1 h1 h2
        refine at_iload_n dX8_numberWithin_33 rfl ?_
        refine at_iret dX8_numberWithin_34 rfl (by omega) (by omega) ?_
        exact hp
      · refine at_iload_n dX8_numberWithin_24 rfl ?_
        refine at_iload_n dX8_numberWithin_25 rfl ?_
        refine at_icmp_le (tgt := 35) dX8_numberWithin_26 (by decide) (fun c26 => ?_) (fun c26 => ?_)
        · exact hx.elim (fun h => absurd h c16) (fun h => h.elim (fun h => absurd h c21) (fun h => absurd h (Int32.not_lt.mpr c26)))
        · refine at_aload_n dX8_numberWithin_29 rfl ?_
          refine at_callV0 (d := D - 1) dX8_numberWithin_30 mv_X8_61 (zl_o rfl) (Nat.le_of_ble_eq_true rfl) (zq_r0 (by omega) (by omega) (by omega)) ?_
          refine zc_fail hT hR hq hS (fun κ1 h1 h2 => ?_)
          have hp := hp κ1 h1 h2
          refine at_iload_n dX8_numberWithin_33 rfl ?_
          refine at_iret dX8_numberWithin_34 rfl (by omega) (by omega) ?_
          exact hp
theorem zc_emit {op ar : Nat} (hop : op < 14) (har : ar < 1024) (hS : zPs κ tk q cs cd) (hf : q.2.2 = 0 → cs < 800) (hp : ∀ κ', zRf κ' κ → zPs κ' tk q (if cs < 800 then cs + 1 else cs) (zcu cd cs (op, ar)) → post none n (zl_h κ' ρ)) : zq_Runs l G D 0 0 yX8_emit [.ref 48, .int (nI op), .int (nI ar)] n (zl_h κ ρ) post := by
  obtain ⟨s1, s2, s3⟩ := id hS
  refine zq_enter (cc := cX8_emit) (nL := 3) (ret := none) cw_X8_emit (by decide) rfl (Nat.le_of_ble_eq_true rfl) ?_
  refine at_aload_n dX8_emit_0 rfl ?_
  refine at_get dX8_emit_1 fl_X8_28 (zl_o rfl) rfl ?_
  rw [s1]
  refine at_aload_n dX8_emit_4 rfl ?_
  refine at_get dX8_emit_5 fl_X8_25 (zl_o rfl) rfl ?_
  refine at_alen dX8_emit_8 (zl_a (a := 51) rfl) (by decide) (v := nI 800) rfl ?_
  refine at_geN (tgt := 37) dX8_emit_9 (by decide) (by omega) (by omega) (fun c9 => ?_) (fun c9 => ?_)
  · rw [if_neg (by omega)] at hp
    have hp := hp κ (zRf_r κ) ⟨s1, s2, (by
      rcases s3 with ⟨a1, _⟩ | a
      · have := hf a1
        omega
      · exact Or.inr a)⟩
    refine at_vret dX8_emit_37 rfl (by omega) (by omega) ?_
    exact hp
  · rw [if_pos c9] at hp
    have s1' : (zl_sa κ 51 cs (nI (1024 * op + ar))).1 48 5 = nI cs := s1
    have hp := hp (zl_si (zl_sa κ 51 cs (nI (1024 * op + ar))) 48 5 (nI (cs + 1))) (zRf_i (zRf_a (zRf_r κ)) (by decide)) ⟨zsi2_s _ _ _ _, (by omega), (by
      rcases s3 with ⟨a1, a2, a3, a4, a5, a6⟩ | ⟨a1, a2, a3⟩
      · refine Or.inl ⟨a1, by rw [zsi2_k _ _ (by decide)]; exact a2, by rw [zsi2_k _ _ (by decide)]; exact a3, by rw [zsi2_k _ _ (by decide)]; exact a4, by rw [zsi2_k _ _ (by decide)]; exact a5, fun k hk => ?_⟩
        show (zl_sa κ 51 cs (nI (1024 * op + ar))).2.1 51 k = _ ∧ _
        rw [zla_s]
        by_cases e : k = cs
        · rw [e, upd_s, zcu_s]; exact ⟨rfl, hop, har⟩
        · rw [upd_o _ e, zcu_o e]; exact a6 k (by omega)
      · exact Or.inr ⟨a1, by rw [zsi2_k _ _ (by decide)]; exact a2, by rw [zsi2_k _ _ (by decide)]; exact a3⟩)⟩
    refine at_aload_n dX8_emit_12 rfl ?_
    refine at_get dX8_emit_13 fl_X8_25 (zl_o rfl) rfl ?_
    refine at_aload_n dX8_emit_16 rfl ?_
    refine at_get dX8_emit_17 fl_X8_28 (zl_o rfl) rfl ?_
    rw [s1]
    refine at_iload_n dX8_emit_20 rfl ?_
    refine at_bipush dX8_emit_21 (v := nI 10) (by decide) ?_
    refine at_ishl dX8_emit_23 ?_
    refine at_iload_n dX8_emit_24 rfl ?_
    refine at_ior dX8_emit_25 ?_
    rw [zshl10 (by omega) har]
    refine at_last2 (a := 51) dX8_emit_26 rfl rfl (by show _ < 800; omega) (by decide) ?_
    refine at_aload_n dX8_emit_27 rfl ?_
    refine at_dup dX8_emit_28 rfl ?_
    refine at_get dX8_emit_29 fl_X8_28 (zl_o rfl) rfl ?_
    rw [s1']
    refine at_iconst dX8_emit_32 (v := nI 1) (by decide) ?_
    refine at_iaddN dX8_emit_33 ?_
    refine at_lput dX8_emit_34 (pl_X8_28 _) (fun i => ⟨_, rfl, Nat.le_of_ble_eq_true rfl, fun v => rfl⟩) rfl rfl ?_
    refine at_vret dX8_emit_37 rfl (by omega) (by omega) ?_
    exact hp
theorem zc_land {op j : Nat} (hop : op < 14) (hj : j ≤ 800) (hS : zPs κ tk q cs cd) (hp : ∀ κ', zRf κ' κ → zPs κ' tk q cs (if j < cs then zcu cd j (op, cs) else cd) → post none n (zl_h κ' ρ)) : zq_Runs l G D 0 0 yX8_land [.ref 48, .int (nI j), .int (nI op)] n (zl_h κ ρ) post := by
  obtain ⟨s1, s2, s3⟩ := id hS
  refine zq_enter (cc := cX8_land) (nL := 3) (ret := none) cw_X8_land (by decide) rfl (Nat.le_of_ble_eq_true rfl) ?_
  refine at_iload_n dX8_land_0 rfl ?_
  refine at_if_ltN (tgt := 27) dX8_land_1 (by decide) (by omega) (fun c1 => ?_) (fun c1 => ?_)
  · exact c1.elim
  · refine at_iload_n dX8_land_4 rfl ?_
    refine at_aload_n dX8_land_5 rfl ?_
    refine at_get dX8_land_6 fl_X8_28 (zl_o rfl) rfl ?_
    rw [s1]
    refine at_geN (tgt := 27) dX8_land_9 (by decide) (by omega) (by omega) (fun c9 => ?_) (fun c9 => ?_)
    · rw [if_neg (by omega)] at hp
      have hp := hp κ (zRf_r κ) hS
      refine at_vret dX8_land_27 rfl (by omega) (by omega) ?_
      exact hp
    · rw [if_pos c9] at hp
      have hp := hp (zl_sa κ 51 j (nI (1024 * op + cs))) (zRf_a (zRf_r κ)) ⟨s1, s2, (by
        rcases s3 with ⟨a1, a2, a3, a4, a5, a6⟩ | ⟨a1, a2, a3⟩
        · refine Or.inl ⟨a1, a2, a3, a4, a5, fun k hk => ?_⟩
          rw [zla_s]
          by_cases e : k = j
          · rw [e, upd_s, zcu_s]; exact ⟨rfl, hop, by show cs < 1024; omega⟩
          · rw [upd_o _ e, zcu_o e]; exact a6 k hk
        · exact Or.inr ⟨a1, a2, a3⟩)⟩
      refine at_aload_n dX8_land_12 rfl ?_
      refine at_get dX8_land_13 fl_X8_25 (zl_o rfl) rfl ?_
      refine at_iload_n dX8_land_16 rfl ?_
      refine at_iload_n dX8_land_17 rfl ?_
      refine at_bipush dX8_land_18 (v := nI 10) (by decide) ?_
      refine at_ishl dX8_land_20 ?_
      refine at_aload_n dX8_land_21 rfl ?_
      refine at_get dX8_land_22 fl_X8_28 (zl_o rfl) rfl ?_
      rw [s1]
      refine at_ior dX8_land_25 ?_
      rw [zshl10 (by omega) (by omega)]
      refine at_last2 (a := 51) dX8_land_26 rfl rfl (by show _ < 800; omega) (by decide) ?_
      refine at_vret dX8_land_27 rfl (by omega) (by omega) ?_
      exact hp
theorem zc_opens {d : Nat} (hD : 1 ≤ D) (hd : d ≤ 8) (hT : zTm N c v pl tk) (hR : zRw κ N pl tk o) (hq : zqw N q) (hS : zPs κ tk q cs cd) (hlt : q.2.2 = 0 ∧ q.1 < N) (h8 : ∀ κ', d = 8 → zRf κ' κ → zPs κ' tk (zpf pl q) cs cd → post (some (.int (nI 0))) n (zl_h κ' ρ)) (h7 : ∀ κ', d < 8 → zRf κ' κ → zPs κ' tk (zpn q) cs cd → post (some (.int (nI 1))) n (zl_h κ' ρ)) : zq_Runs l G D 0 0 yX8_opens [.ref 48, .int (nI d)] n (zl_h κ ρ) post := by
  refine zq_enter (cc := cX8_opens) (nL := 2) (ret := (some .boolean)) cw_X8_opens (by decide) rfl (Nat.le_of_ble_eq_true rfl) ?_
  refine at_iload_n dX8_opens_0 rfl ?_
  refine at_bipush dX8_opens_1 (v := nI 8) (by decide) ?_
  refine at_ltN (tgt := 12) dX8_opens_3 (by decide) (by omega) (by omega) (fun c3 => ?_) (fun c3 => ?_)
  · refine at_aload_n dX8_opens_12 rfl ?_
    refine at_callV0 (d := D - 1) dX8_opens_13 mv_X8_58 (zl_o rfl) (Nat.le_of_ble_eq_true rfl) (zq_r0 (by omega) (by omega) (by omega)) ?_
    refine zc_next hT hR hq hS (fun _ => hlt.2) (fun κ2 g1 g2 => ?_)
    rw [if_pos hlt.1] at g2
    have hp := h7 κ2 c3 g1 g2
    refine at_iconst dX8_opens_16 (v := nI 1) (by decide) ?_
    refine at_zret dX8_opens_17 rfl (by omega) (by omega) (by first | exact Or.inl rfl | exact Or.inr rfl | assumption) ?_
    exact hp
  · refine at_aload_n dX8_opens_6 rfl ?_
    refine at_callV0 (d := D - 1) dX8_opens_7 mv_X8_61 (zl_o rfl) (Nat.le_of_ble_eq_true rfl) (zq_r0 (by omega) (by omega) (by omega)) ?_
    refine zc_fail hT hR hq hS (fun κ1 h1 h2 => ?_)
    have hp := h8 κ1 (by omega) h1 h2
    refine at_iconst dX8_opens_10 (v := nI 0) (by decide) ?_
    refine at_zret dX8_opens_11 rfl (by omega) (by omega) (by first | exact Or.inl rfl | exact Or.inr rfl | assumption) ?_
    exact hp
end ZC19

