/-! ===== the class: a quay's people ===== -/
/-- the places of letters, the end of a name ahead of all -/
def zOrd (g : Nat → Int32) (rk : Nat → Nat) : Prop := ∀ y, y ≤ 5 → g y = zlast (zr0 rk y)
theorem zlast_lt2 {a b : Nat} (ha : a < 1000) (hb : b < 1000) : zlast a < zlast b ↔ a < b := by
  cases b with
  | zero =>
    show zlast a < (-1 : Int32) ↔ a < 0
    cases a with
    | zero => show (-1 : Int32) < -1 ↔ 0 < 0; decide
    | succ a =>
      show nI a < (-1 : Int32) ↔ a + 1 < 0
      rw [Int32.lt_iff_toInt_lt, nI_toInt (by omega)]
      have : (-1 : Int32).toInt = -1 := rfl
      omega
  | succ b =>
    show zlast a < nI b ↔ a < b + 1
    exact zlast_lt ha (by omega)
/-- people, names, the row at the quay b -/
def zQN (κ : zl_S) (b m : Nat) (x w : Nat → Nat) : Prop := κ.1 b 0 = nI m ∧ m ≤ 7 ∧ (∀ p, p < m → κ.2.1 (b + 1) p = nI (x p) ∧ zvn (x p)) ∧ ∀ k, k < m → κ.2.1 (b + 2) k = nI (w k) ∧ w k < m
theorem zix_and {m : Nat} {v : Int32} (hm : m ≤ 7) (h0 : ¬ v < 0) (h1 : ¬ nI m ≤ v) : zix m v = true := by
  obtain ⟨j, hj, rfl⟩ := nI_of (x := v) h0
  rw [zix_n hj]
  exact decide_eq_true (Nat.not_le.mp (fun h => h1 ((nI_leI (by omega) hj).mpr h)))
theorem zix_lt0 {m : Nat} {v : Int32} (h : v < 0) : zix m v = false := by
  unfold zix
  rw [Bool.and_eq_false_iff, decide_eq_false_iff_not]
  have := Int32.lt_iff_toInt_lt.mp h
  have e : (0 : Int32).toInt = 0 := rfl
  exact Or.inl (by omega)
theorem zix_ge {m : Nat} {v : Int32} (hm : m < 2147483648) (h : nI m ≤ v) : zix m v = false := by
  unfold zix
  rw [Bool.and_eq_false_iff, decide_eq_false_iff_not, decide_eq_false_iff_not]
  have := Int32.le_iff_toInt_le.mp h
  rw [nI_toInt hm] at this
  exact Or.inr (by omega)
theorem dX7_has_0 : decode cX7_has 0 = .ok (.iload_n 1, 1) := by decide +kernel
theorem dX7_has_1 : decode cX7_has 1 = .ok (.ifCond .lt 21, 3) := by decide +kernel
theorem dX7_has_4 : decode cX7_has 4 = .ok (.iload_n 1, 1) := by decide +kernel
theorem dX7_has_5 : decode cX7_has 5 = .ok (.aload_n 0, 1) := by decide +kernel
theorem dX7_has_6 : decode cX7_has 6 = .ok (.getfield 9, 3) := by decide +kernel
theorem dX7_has_9 : decode cX7_has 9 = .ok (.if_icmp .ge 13, 3) := by decide +kernel
theorem dX7_has_12 : decode cX7_has 12 = .ok (.iload_n 1, 1) := by decide +kernel
theorem dX7_has_13 : decode cX7_has 13 = .ok (.bipush 7, 2) := by decide +kernel
theorem dX7_has_15 : decode cX7_has 15 = .ok (.if_icmp .ge 7, 3) := by decide +kernel
theorem dX7_has_18 : decode cX7_has 18 = .ok (.iconst 1, 1) := by decide +kernel
theorem dX7_has_19 : decode cX7_has 19 = .ok (.goto 4, 3) := by decide +kernel
theorem dX7_has_22 : decode cX7_has 22 = .ok (.iconst 0, 1) := by decide +kernel
theorem dX7_has_23 : decode cX7_has 23 = .ok (.ireturn, 1) := by decide +kernel
abbrev mX7_has : zq_M := (cX7_has, RX7, "has", (some .boolean), 2)
theorem dX7_hasRoom_0 : decode cX7_hasRoom 0 = .ok (.aload_n 0, 1) := by decide +kernel
theorem dX7_hasRoom_1 : decode cX7_hasRoom 1 = .ok (.getfield 9, 3) := by decide +kernel
theorem dX7_hasRoom_4 : decode cX7_hasRoom 4 = .ok (.ifCond .lt 16, 3) := by decide +kernel
theorem dX7_hasRoom_7 : decode cX7_hasRoom 7 = .ok (.aload_n 0, 1) := by decide +kernel
theorem dX7_hasRoom_8 : decode cX7_hasRoom 8 = .ok (.getfield 9, 3) := by decide +kernel
theorem dX7_hasRoom_11 : decode cX7_hasRoom 11 = .ok (.bipush 7, 2) := by decide +kernel
theorem dX7_hasRoom_13 : decode cX7_hasRoom 13 = .ok (.if_icmp .ge 7, 3) := by decide +kernel
theorem dX7_hasRoom_16 : decode cX7_hasRoom 16 = .ok (.iconst 1, 1) := by decide +kernel
theorem dX7_hasRoom_17 : decode cX7_hasRoom 17 = .ok (.goto 4, 3) := by decide +kernel
theorem dX7_hasRoom_20 : decode cX7_hasRoom 20 = .ok (.iconst 0, 1) := by decide +kernel
theorem dX7_hasRoom_21 : decode cX7_hasRoom 21 = .ok (.ireturn, 1) := by decide +kernel
abbrev mX7_hasRoom : zq_M := (cX7_hasRoom, RX7, "hasRoom", (some .boolean), 1)
theorem dX7_add_0 : decode cX7_add 0 = .ok (.aload_n 0, 1) := by decide +kernel
theorem dX7_add_1 : decode cX7_add 1 = .ok (.invokevirtual 67, 3) := by decide +kernel
theorem dX7_add_4 : decode cX7_add 4 = .ok (.ifCond .ne 5, 3) := by decide +kernel
theorem dX7_add_7 : decode cX7_add 7 = .ok (.iconst (-1), 1) := by decide +kernel
theorem dX7_add_8 : decode cX7_add 8 = .ok (.ireturn, 1) := by decide +kernel
theorem dX7_add_9 : decode cX7_add 9 = .ok (.aload_n 0, 1) := by decide +kernel
theorem dX7_add_10 : decode cX7_add 10 = .ok (.getfield 9, 3) := by decide +kernel
theorem dX7_add_13 : decode cX7_add 13 = .ok (.istore_n 2, 1) := by decide +kernel
theorem dX7_add_14 : decode cX7_add 14 = .ok (.aload_n 0, 1) := by decide +kernel
theorem dX7_add_15 : decode cX7_add 15 = .ok (.dup, 1) := by decide +kernel
theorem dX7_add_16 : decode cX7_add 16 = .ok (.getfield 9, 3) := by decide +kernel
theorem dX7_add_19 : decode cX7_add 19 = .ok (.iconst 1, 1) := by decide +kernel
theorem dX7_add_20 : decode cX7_add 20 = .ok (.iadd, 1) := by decide +kernel
theorem dX7_add_21 : decode cX7_add 21 = .ok (.putfield 9, 3) := by decide +kernel
theorem dX7_add_24 : decode cX7_add 24 = .ok (.aload_n 0, 1) := by decide +kernel
theorem dX7_add_25 : decode cX7_add 25 = .ok (.getfield 15, 3) := by decide +kernel
theorem dX7_add_28 : decode cX7_add 28 = .ok (.iload_n 2, 1) := by decide +kernel
theorem dX7_add_29 : decode cX7_add 29 = .ok (.iload_n 1, 1) := by decide +kernel
theorem dX7_add_30 : decode cX7_add 30 = .ok (.iastore, 1) := by decide +kernel
theorem dX7_add_31 : decode cX7_add 31 = .ok (.aload_n 0, 1) := by decide +kernel
theorem dX7_add_32 : decode cX7_add 32 = .ok (.getfield 19, 3) := by decide +kernel
theorem dX7_add_35 : decode cX7_add 35 = .ok (.iload_n 2, 1) := by decide +kernel
theorem dX7_add_36 : decode cX7_add 36 = .ok (.iload_n 2, 1) := by decide +kernel
theorem dX7_add_37 : decode cX7_add 37 = .ok (.iastore, 1) := by decide +kernel
theorem dX7_add_38 : decode cX7_add 38 = .ok (.aload_n 0, 1) := by decide +kernel
theorem dX7_add_39 : decode cX7_add 39 = .ok (.getfield 22, 3) := by decide +kernel
theorem dX7_add_42 : decode cX7_add 42 = .ok (.iload_n 2, 1) := by decide +kernel
theorem dX7_add_43 : decode cX7_add 43 = .ok (.iload_n 2, 1) := by decide +kernel
theorem dX7_add_44 : decode cX7_add 44 = .ok (.iastore, 1) := by decide +kernel
theorem dX7_add_45 : decode cX7_add 45 = .ok (.iconst 1, 1) := by decide +kernel
theorem dX7_add_46 : decode cX7_add 46 = .ok (.istore_n 3, 1) := by decide +kernel
theorem dX7_add_47 : decode cX7_add 47 = .ok (.iload_n 3, 1) := by decide +kernel
theorem dX7_add_48 : decode cX7_add 48 = .ok (.iconst 5, 1) := by decide +kernel
theorem dX7_add_49 : decode cX7_add 49 = .ok (.if_icmp .gt 16, 3) := by decide +kernel
theorem dX7_add_52 : decode cX7_add 52 = .ok (.aload_n 0, 1) := by decide +kernel
theorem dX7_add_53 : decode cX7_add 53 = .ok (.iload_n 2, 1) := by decide +kernel
theorem dX7_add_54 : decode cX7_add 54 = .ok (.iload_n 3, 1) := by decide +kernel
theorem dX7_add_55 : decode cX7_add 55 = .ok (.iload_n 3, 1) := by decide +kernel
theorem dX7_add_56 : decode cX7_add 56 = .ok (.invokevirtual 71, 3) := by decide +kernel
theorem dX7_add_59 : decode cX7_add 59 = .ok (.iinc 3 1, 3) := by decide +kernel
theorem dX7_add_62 : decode cX7_add 62 = .ok (.goto (-15), 3) := by decide +kernel
theorem dX7_add_65 : decode cX7_add 65 = .ok (.iload_n 2, 1) := by decide +kernel
theorem dX7_add_66 : decode cX7_add 66 = .ok (.ireturn, 1) := by decide +kernel
abbrev mX7_add : zq_M := (cX7_add, RX7, "add", (some .int), 4)
theorem dX7_said_0 : decode cX7_said 0 = .ok (.aload_n 0, 1) := by decide +kernel
theorem dX7_said_1 : decode cX7_said 1 = .ok (.iload_n 1, 1) := by decide +kernel
theorem dX7_said_2 : decode cX7_said 2 = .ok (.invokevirtual 75, 3) := by decide +kernel
theorem dX7_said_5 : decode cX7_said 5 = .ok (.ifCond .eq 25, 3) := by decide +kernel
theorem dX7_said_8 : decode cX7_said 8 = .ok (.iload_n 2, 1) := by decide +kernel
theorem dX7_said_9 : decode cX7_said 9 = .ok (.invokestatic 79, 3) := by decide +kernel
theorem dX7_said_12 : decode cX7_said 12 = .ok (.ifCond .eq 18, 3) := by decide +kernel
theorem dX7_said_15 : decode cX7_said 15 = .ok (.aload_n 0, 1) := by decide +kernel
theorem dX7_said_16 : decode cX7_said 16 = .ok (.getfield 25, 3) := by decide +kernel
theorem dX7_said_19 : decode cX7_said 19 = .ok (.iload_n 1, 1) := by decide +kernel
theorem dX7_said_20 : decode cX7_said 20 = .ok (.iconst 5, 1) := by decide +kernel
theorem dX7_said_21 : decode cX7_said 21 = .ok (.imul, 1) := by decide +kernel
theorem dX7_said_22 : decode cX7_said 22 = .ok (.iload_n 2, 1) := by decide +kernel
theorem dX7_said_23 : decode cX7_said 23 = .ok (.iadd, 1) := by decide +kernel
theorem dX7_said_24 : decode cX7_said 24 = .ok (.iconst 1, 1) := by decide +kernel
theorem dX7_said_25 : decode cX7_said 25 = .ok (.isub, 1) := by decide +kernel
theorem dX7_said_26 : decode cX7_said 26 = .ok (.iaload, 1) := by decide +kernel
theorem dX7_said_27 : decode cX7_said 27 = .ok (.goto 4, 3) := by decide +kernel
theorem dX7_said_30 : decode cX7_said 30 = .ok (.iload_n 2, 1) := by decide +kernel
theorem dX7_said_31 : decode cX7_said 31 = .ok (.ireturn, 1) := by decide +kernel
abbrev mX7_said : zq_M := (cX7_said, RX7, "said", (some .int), 3)
theorem dX7_teach_0 : decode cX7_teach 0 = .ok (.aload_n 0, 1) := by decide +kernel
theorem dX7_teach_1 : decode cX7_teach 1 = .ok (.iload_n 1, 1) := by decide +kernel
theorem dX7_teach_2 : decode cX7_teach 2 = .ok (.invokevirtual 75, 3) := by decide +kernel
theorem dX7_teach_5 : decode cX7_teach 5 = .ok (.ifCond .eq 23, 3) := by decide +kernel
theorem dX7_teach_8 : decode cX7_teach 8 = .ok (.iload_n 2, 1) := by decide +kernel
theorem dX7_teach_9 : decode cX7_teach 9 = .ok (.invokestatic 79, 3) := by decide +kernel
theorem dX7_teach_12 : decode cX7_teach 12 = .ok (.ifCond .eq 16, 3) := by decide +kernel
theorem dX7_teach_15 : decode cX7_teach 15 = .ok (.aload_n 0, 1) := by decide +kernel
theorem dX7_teach_16 : decode cX7_teach 16 = .ok (.getfield 25, 3) := by decide +kernel
theorem dX7_teach_19 : decode cX7_teach 19 = .ok (.iload_n 1, 1) := by decide +kernel
theorem dX7_teach_20 : decode cX7_teach 20 = .ok (.iconst 5, 1) := by decide +kernel
theorem dX7_teach_21 : decode cX7_teach 21 = .ok (.imul, 1) := by decide +kernel
theorem dX7_teach_22 : decode cX7_teach 22 = .ok (.iload_n 2, 1) := by decide +kernel
theorem dX7_teach_23 : decode cX7_teach 23 = .ok (.iadd, 1) := by decide +kernel
theorem dX7_teach_24 : decode cX7_teach 24 = .ok (.iconst 1, 1) := by decide +kernel
theorem dX7_teach_25 : decode cX7_teach 25 = .ok (.isub, 1) := by decide +kernel
theorem dX7_teach_26 : decode cX7_teach 26 = .ok (.iload_n 3, 1) := by decide +kernel
theorem dX7_teach_27 : decode cX7_teach 27 = .ok (.iastore, 1) := by decide +kernel
theorem dX7_teach_28 : decode cX7_teach 28 = .ok (.return_, 1) := by decide +kernel
abbrev mX7_teach : zq_M := (cX7_teach, RX7, "teach", none, 4)
theorem dX7_nameOf_0 : decode cX7_nameOf 0 = .ok (.aload_n 0, 1) := by decide +kernel
theorem dX7_nameOf_1 : decode cX7_nameOf 1 = .ok (.iload_n 1, 1) := by decide +kernel
theorem dX7_nameOf_2 : decode cX7_nameOf 2 = .ok (.invokevirtual 75, 3) := by decide +kernel
theorem dX7_nameOf_5 : decode cX7_nameOf 5 = .ok (.ifCond .eq 12, 3) := by decide +kernel
theorem dX7_nameOf_8 : decode cX7_nameOf 8 = .ok (.aload_n 0, 1) := by decide +kernel
theorem dX7_nameOf_9 : decode cX7_nameOf 9 = .ok (.getfield 15, 3) := by decide +kernel
theorem dX7_nameOf_12 : decode cX7_nameOf 12 = .ok (.iload_n 1, 1) := by decide +kernel
theorem dX7_nameOf_13 : decode cX7_nameOf 13 = .ok (.iaload, 1) := by decide +kernel
theorem dX7_nameOf_14 : decode cX7_nameOf 14 = .ok (.goto 4, 3) := by decide +kernel
theorem dX7_nameOf_17 : decode cX7_nameOf 17 = .ok (.iconst 0, 1) := by decide +kernel
theorem dX7_nameOf_18 : decode cX7_nameOf 18 = .ok (.ireturn, 1) := by decide +kernel
abbrev mX7_nameOf : zq_M := (cX7_nameOf, RX7, "nameOf", (some .int), 2)
theorem dX7_nameAt_0 : decode cX7_nameAt 0 = .ok (.aload_n 0, 1) := by decide +kernel
theorem dX7_nameAt_1 : decode cX7_nameAt 1 = .ok (.iload_n 1, 1) := by decide +kernel
theorem dX7_nameAt_2 : decode cX7_nameAt 2 = .ok (.invokevirtual 75, 3) := by decide +kernel
theorem dX7_nameAt_5 : decode cX7_nameAt 5 = .ok (.ifCond .eq 16, 3) := by decide +kernel
theorem dX7_nameAt_8 : decode cX7_nameAt 8 = .ok (.aload_n 0, 1) := by decide +kernel
theorem dX7_nameAt_9 : decode cX7_nameAt 9 = .ok (.aload_n 0, 1) := by decide +kernel
theorem dX7_nameAt_10 : decode cX7_nameAt 10 = .ok (.getfield 19, 3) := by decide +kernel
theorem dX7_nameAt_13 : decode cX7_nameAt 13 = .ok (.iload_n 1, 1) := by decide +kernel
theorem dX7_nameAt_14 : decode cX7_nameAt 14 = .ok (.iaload, 1) := by decide +kernel
theorem dX7_nameAt_15 : decode cX7_nameAt 15 = .ok (.invokevirtual 82, 3) := by decide +kernel
theorem dX7_nameAt_18 : decode cX7_nameAt 18 = .ok (.goto 4, 3) := by decide +kernel
theorem dX7_nameAt_21 : decode cX7_nameAt 21 = .ok (.iconst 0, 1) := by decide +kernel
theorem dX7_nameAt_22 : decode cX7_nameAt 22 = .ok (.ireturn, 1) := by decide +kernel
abbrev mX7_nameAt : zq_M := (cX7_nameAt, RX7, "nameAt", (some .int), 2)
theorem dX7_write_0 : decode cX7_write 0 = .ok (.aload_n 0, 1) := by decide +kernel
theorem dX7_write_1 : decode cX7_write 1 = .ok (.iload_n 1, 1) := by decide +kernel
theorem dX7_write_2 : decode cX7_write 2 = .ok (.invokevirtual 75, 3) := by decide +kernel
theorem dX7_write_5 : decode cX7_write 5 = .ok (.ifCond .eq 20, 3) := by decide +kernel
theorem dX7_write_8 : decode cX7_write 8 = .ok (.aload_n 0, 1) := by decide +kernel
theorem dX7_write_9 : decode cX7_write 9 = .ok (.getfield 15, 3) := by decide +kernel
theorem dX7_write_12 : decode cX7_write 12 = .ok (.iload_n 1, 1) := by decide +kernel
theorem dX7_write_13 : decode cX7_write 13 = .ok (.aload_n 0, 1) := by decide +kernel
theorem dX7_write_14 : decode cX7_write 14 = .ok (.getfield 15, 3) := by decide +kernel
theorem dX7_write_17 : decode cX7_write 17 = .ok (.iload_n 1, 1) := by decide +kernel
theorem dX7_write_18 : decode cX7_write 18 = .ok (.iaload, 1) := by decide +kernel
theorem dX7_write_19 : decode cX7_write 19 = .ok (.iload_n 2, 1) := by decide +kernel
theorem dX7_write_20 : decode cX7_write 20 = .ok (.iload_n 3, 1) := by decide +kernel
theorem dX7_write_21 : decode cX7_write 21 = .ok (.invokestatic 86, 3) := by decide +kernel
theorem dX7_write_24 : decode cX7_write 24 = .ok (.iastore, 1) := by decide +kernel
theorem dX7_write_25 : decode cX7_write 25 = .ok (.return_, 1) := by decide +kernel
abbrev mX7_write : zq_M := (cX7_write, RX7, "write", none, 4)
theorem dX7_exchange_0 : decode cX7_exchange 0 = .ok (.aload_n 0, 1) := by decide +kernel
theorem dX7_exchange_1 : decode cX7_exchange 1 = .ok (.iload_n 1, 1) := by decide +kernel
theorem dX7_exchange_2 : decode cX7_exchange 2 = .ok (.invokevirtual 75, 3) := by decide +kernel
theorem dX7_exchange_5 : decode cX7_exchange 5 = .ok (.ifCond .eq 13, 3) := by decide +kernel
theorem dX7_exchange_8 : decode cX7_exchange 8 = .ok (.aload_n 0, 1) := by decide +kernel
theorem dX7_exchange_9 : decode cX7_exchange 9 = .ok (.iload_n 1, 1) := by decide +kernel
theorem dX7_exchange_10 : decode cX7_exchange 10 = .ok (.iconst 1, 1) := by decide +kernel
theorem dX7_exchange_11 : decode cX7_exchange 11 = .ok (.iadd, 1) := by decide +kernel
theorem dX7_exchange_12 : decode cX7_exchange 12 = .ok (.invokevirtual 75, 3) := by decide +kernel
theorem dX7_exchange_15 : decode cX7_exchange 15 = .ok (.ifCond .ne 4, 3) := by decide +kernel
theorem dX7_exchange_18 : decode cX7_exchange 18 = .ok (.return_, 1) := by decide +kernel
theorem dX7_exchange_19 : decode cX7_exchange 19 = .ok (.aload_n 0, 1) := by decide +kernel
theorem dX7_exchange_20 : decode cX7_exchange 20 = .ok (.getfield 19, 3) := by decide +kernel
theorem dX7_exchange_23 : decode cX7_exchange 23 = .ok (.iload_n 1, 1) := by decide +kernel
theorem dX7_exchange_24 : decode cX7_exchange 24 = .ok (.iaload, 1) := by decide +kernel
theorem dX7_exchange_25 : decode cX7_exchange 25 = .ok (.istore_n 2, 1) := by decide +kernel
theorem dX7_exchange_26 : decode cX7_exchange 26 = .ok (.aload_n 0, 1) := by decide +kernel
theorem dX7_exchange_27 : decode cX7_exchange 27 = .ok (.getfield 19, 3) := by decide +kernel
theorem dX7_exchange_30 : decode cX7_exchange 30 = .ok (.iload_n 1, 1) := by decide +kernel
theorem dX7_exchange_31 : decode cX7_exchange 31 = .ok (.iconst 1, 1) := by decide +kernel
theorem dX7_exchange_32 : decode cX7_exchange 32 = .ok (.iadd, 1) := by decide +kernel
theorem dX7_exchange_33 : decode cX7_exchange 33 = .ok (.iaload, 1) := by decide +kernel
theorem dX7_exchange_34 : decode cX7_exchange 34 = .ok (.istore_n 3, 1) := by decide +kernel
theorem dX7_exchange_35 : decode cX7_exchange 35 = .ok (.aload_n 0, 1) := by decide +kernel
theorem dX7_exchange_36 : decode cX7_exchange 36 = .ok (.iload_n 2, 1) := by decide +kernel
theorem dX7_exchange_37 : decode cX7_exchange 37 = .ok (.invokevirtual 75, 3) := by decide +kernel
theorem dX7_exchange_40 : decode cX7_exchange 40 = .ok (.ifCond .eq 43, 3) := by decide +kernel
theorem dX7_exchange_43 : decode cX7_exchange 43 = .ok (.aload_n 0, 1) := by decide +kernel
theorem dX7_exchange_44 : decode cX7_exchange 44 = .ok (.iload_n 3, 1) := by decide +kernel
theorem dX7_exchange_45 : decode cX7_exchange 45 = .ok (.invokevirtual 75, 3) := by decide +kernel
theorem dX7_exchange_48 : decode cX7_exchange 48 = .ok (.ifCond .eq 35, 3) := by decide +kernel
theorem dX7_exchange_51 : decode cX7_exchange 51 = .ok (.aload_n 0, 1) := by decide +kernel
theorem dX7_exchange_52 : decode cX7_exchange 52 = .ok (.getfield 19, 3) := by decide +kernel
theorem dX7_exchange_55 : decode cX7_exchange 55 = .ok (.iload_n 1, 1) := by decide +kernel
theorem dX7_exchange_56 : decode cX7_exchange 56 = .ok (.iload_n 3, 1) := by decide +kernel
theorem dX7_exchange_57 : decode cX7_exchange 57 = .ok (.iastore, 1) := by decide +kernel
theorem dX7_exchange_58 : decode cX7_exchange 58 = .ok (.aload_n 0, 1) := by decide +kernel
theorem dX7_exchange_59 : decode cX7_exchange 59 = .ok (.getfield 19, 3) := by decide +kernel
theorem dX7_exchange_62 : decode cX7_exchange 62 = .ok (.iload_n 1, 1) := by decide +kernel
theorem dX7_exchange_63 : decode cX7_exchange 63 = .ok (.iconst 1, 1) := by decide +kernel
theorem dX7_exchange_64 : decode cX7_exchange 64 = .ok (.iadd, 1) := by decide +kernel
theorem dX7_exchange_65 : decode cX7_exchange 65 = .ok (.iload_n 2, 1) := by decide +kernel
theorem dX7_exchange_66 : decode cX7_exchange 66 = .ok (.iastore, 1) := by decide +kernel
theorem dX7_exchange_67 : decode cX7_exchange 67 = .ok (.aload_n 0, 1) := by decide +kernel
theorem dX7_exchange_68 : decode cX7_exchange 68 = .ok (.getfield 22, 3) := by decide +kernel
theorem dX7_exchange_71 : decode cX7_exchange 71 = .ok (.iload_n 3, 1) := by decide +kernel
theorem dX7_exchange_72 : decode cX7_exchange 72 = .ok (.iload_n 1, 1) := by decide +kernel
theorem dX7_exchange_73 : decode cX7_exchange 73 = .ok (.iastore, 1) := by decide +kernel
theorem dX7_exchange_74 : decode cX7_exchange 74 = .ok (.aload_n 0, 1) := by decide +kernel
theorem dX7_exchange_75 : decode cX7_exchange 75 = .ok (.getfield 22, 3) := by decide +kernel
theorem dX7_exchange_78 : decode cX7_exchange 78 = .ok (.iload_n 2, 1) := by decide +kernel
theorem dX7_exchange_79 : decode cX7_exchange 79 = .ok (.iload_n 1, 1) := by decide +kernel
theorem dX7_exchange_80 : decode cX7_exchange 80 = .ok (.iconst 1, 1) := by decide +kernel
theorem dX7_exchange_81 : decode cX7_exchange 81 = .ok (.iadd, 1) := by decide +kernel
theorem dX7_exchange_82 : decode cX7_exchange 82 = .ok (.iastore, 1) := by decide +kernel
theorem dX7_exchange_83 : decode cX7_exchange 83 = .ok (.return_, 1) := by decide +kernel
abbrev mX7_exchange : zq_M := (cX7_exchange, RX7, "exchange", none, 4)
theorem dX7_turn_0 : decode cX7_turn 0 = .ok (.iload_n 1, 1) := by decide +kernel
theorem dX7_turn_1 : decode cX7_turn 1 = .ok (.ifCond .lt 8, 3) := by decide +kernel
theorem dX7_turn_4 : decode cX7_turn 4 = .ok (.iload_n 1, 1) := by decide +kernel
theorem dX7_turn_5 : decode cX7_turn 5 = .ok (.iconst 3, 1) := by decide +kernel
theorem dX7_turn_6 : decode cX7_turn 6 = .ok (.if_icmp .le 4, 3) := by decide +kernel
theorem dX7_turn_9 : decode cX7_turn 9 = .ok (.return_, 1) := by decide +kernel
theorem dX7_turn_10 : decode cX7_turn 10 = .ok (.aload_n 0, 1) := by decide +kernel
theorem dX7_turn_11 : decode cX7_turn 11 = .ok (.getfield 28, 3) := by decide +kernel
theorem dX7_turn_14 : decode cX7_turn 14 = .ok (.iload_n 1, 1) := by decide +kernel
theorem dX7_turn_15 : decode cX7_turn 15 = .ok (.iaload, 1) := by decide +kernel
theorem dX7_turn_16 : decode cX7_turn 16 = .ok (.istore_n 2, 1) := by decide +kernel
theorem dX7_turn_17 : decode cX7_turn 17 = .ok (.aload_n 0, 1) := by decide +kernel
theorem dX7_turn_18 : decode cX7_turn 18 = .ok (.getfield 28, 3) := by decide +kernel
theorem dX7_turn_21 : decode cX7_turn 21 = .ok (.iload_n 1, 1) := by decide +kernel
theorem dX7_turn_22 : decode cX7_turn 22 = .ok (.iconst 1, 1) := by decide +kernel
theorem dX7_turn_23 : decode cX7_turn 23 = .ok (.iadd, 1) := by decide +kernel
theorem dX7_turn_24 : decode cX7_turn 24 = .ok (.iaload, 1) := by decide +kernel
theorem dX7_turn_25 : decode cX7_turn 25 = .ok (.istore_n 3, 1) := by decide +kernel
theorem dX7_turn_26 : decode cX7_turn 26 = .ok (.iload_n 2, 1) := by decide +kernel
theorem dX7_turn_27 : decode cX7_turn 27 = .ok (.invokestatic 79, 3) := by decide +kernel
theorem dX7_turn_30 : decode cX7_turn 30 = .ok (.ifCond .eq 42, 3) := by decide +kernel
theorem dX7_turn_33 : decode cX7_turn 33 = .ok (.iload_n 3, 1) := by decide +kernel
theorem dX7_turn_34 : decode cX7_turn 34 = .ok (.invokestatic 79, 3) := by decide +kernel
theorem dX7_turn_37 : decode cX7_turn 37 = .ok (.ifCond .eq 35, 3) := by decide +kernel
theorem dX7_turn_40 : decode cX7_turn 40 = .ok (.aload_n 0, 1) := by decide +kernel
theorem dX7_turn_41 : decode cX7_turn 41 = .ok (.getfield 28, 3) := by decide +kernel
theorem dX7_turn_44 : decode cX7_turn 44 = .ok (.iload_n 1, 1) := by decide +kernel
theorem dX7_turn_45 : decode cX7_turn 45 = .ok (.iload_n 3, 1) := by decide +kernel
theorem dX7_turn_46 : decode cX7_turn 46 = .ok (.iastore, 1) := by decide +kernel
theorem dX7_turn_47 : decode cX7_turn 47 = .ok (.aload_n 0, 1) := by decide +kernel
theorem dX7_turn_48 : decode cX7_turn 48 = .ok (.getfield 28, 3) := by decide +kernel
theorem dX7_turn_51 : decode cX7_turn 51 = .ok (.iload_n 1, 1) := by decide +kernel
theorem dX7_turn_52 : decode cX7_turn 52 = .ok (.iconst 1, 1) := by decide +kernel
theorem dX7_turn_53 : decode cX7_turn 53 = .ok (.iadd, 1) := by decide +kernel
theorem dX7_turn_54 : decode cX7_turn 54 = .ok (.iload_n 2, 1) := by decide +kernel
theorem dX7_turn_55 : decode cX7_turn 55 = .ok (.iastore, 1) := by decide +kernel
theorem dX7_turn_56 : decode cX7_turn 56 = .ok (.aload_n 0, 1) := by decide +kernel
theorem dX7_turn_57 : decode cX7_turn 57 = .ok (.getfield 31, 3) := by decide +kernel
theorem dX7_turn_60 : decode cX7_turn 60 = .ok (.iload_n 3, 1) := by decide +kernel
theorem dX7_turn_61 : decode cX7_turn 61 = .ok (.iload_n 1, 1) := by decide +kernel
theorem dX7_turn_62 : decode cX7_turn 62 = .ok (.iastore, 1) := by decide +kernel
theorem dX7_turn_63 : decode cX7_turn 63 = .ok (.aload_n 0, 1) := by decide +kernel
theorem dX7_turn_64 : decode cX7_turn 64 = .ok (.getfield 31, 3) := by decide +kernel
theorem dX7_turn_67 : decode cX7_turn 67 = .ok (.iload_n 2, 1) := by decide +kernel
theorem dX7_turn_68 : decode cX7_turn 68 = .ok (.iload_n 1, 1) := by decide +kernel
theorem dX7_turn_69 : decode cX7_turn 69 = .ok (.iconst 1, 1) := by decide +kernel
theorem dX7_turn_70 : decode cX7_turn 70 = .ok (.iadd, 1) := by decide +kernel
theorem dX7_turn_71 : decode cX7_turn 71 = .ok (.iastore, 1) := by decide +kernel
theorem dX7_turn_72 : decode cX7_turn 72 = .ok (.return_, 1) := by decide +kernel
abbrev mX7_turn : zq_M := (cX7_turn, RX7, "turn", none, 4)
theorem dX7_alphabetNumber_0 : decode cX7_alphabetNumber 0 = .ok (.iconst 0, 1) := by decide +kernel
theorem dX7_alphabetNumber_1 : decode cX7_alphabetNumber 1 = .ok (.istore_n 1, 1) := by decide +kernel
theorem dX7_alphabetNumber_2 : decode cX7_alphabetNumber 2 = .ok (.iconst 0, 1) := by decide +kernel
theorem dX7_alphabetNumber_3 : decode cX7_alphabetNumber 3 = .ok (.istore_n 2, 1) := by decide +kernel
theorem dX7_alphabetNumber_4 : decode cX7_alphabetNumber 4 = .ok (.iload_n 2, 1) := by decide +kernel
theorem dX7_alphabetNumber_5 : decode cX7_alphabetNumber 5 = .ok (.iconst 5, 1) := by decide +kernel
theorem dX7_alphabetNumber_6 : decode cX7_alphabetNumber 6 = .ok (.if_icmp .ge 21, 3) := by decide +kernel
theorem dX7_alphabetNumber_9 : decode cX7_alphabetNumber 9 = .ok (.iload_n 1, 1) := by decide +kernel
theorem dX7_alphabetNumber_10 : decode cX7_alphabetNumber 10 = .ok (.bipush 10, 2) := by decide +kernel
theorem dX7_alphabetNumber_12 : decode cX7_alphabetNumber 12 = .ok (.imul, 1) := by decide +kernel
theorem dX7_alphabetNumber_13 : decode cX7_alphabetNumber 13 = .ok (.aload_n 0, 1) := by decide +kernel
theorem dX7_alphabetNumber_14 : decode cX7_alphabetNumber 14 = .ok (.getfield 28, 3) := by decide +kernel
theorem dX7_alphabetNumber_17 : decode cX7_alphabetNumber 17 = .ok (.iload_n 2, 1) := by decide +kernel
theorem dX7_alphabetNumber_18 : decode cX7_alphabetNumber 18 = .ok (.iaload, 1) := by decide +kernel
theorem dX7_alphabetNumber_19 : decode cX7_alphabetNumber 19 = .ok (.iadd, 1) := by decide +kernel
theorem dX7_alphabetNumber_20 : decode cX7_alphabetNumber 20 = .ok (.istore_n 1, 1) := by decide +kernel
theorem dX7_alphabetNumber_21 : decode cX7_alphabetNumber 21 = .ok (.iinc 2 1, 3) := by decide +kernel
theorem dX7_alphabetNumber_24 : decode cX7_alphabetNumber 24 = .ok (.goto (-20), 3) := by decide +kernel
theorem dX7_alphabetNumber_27 : decode cX7_alphabetNumber 27 = .ok (.iload_n 1, 1) := by decide +kernel
theorem dX7_alphabetNumber_28 : decode cX7_alphabetNumber 28 = .ok (.ireturn, 1) := by decide +kernel
abbrev mX7_alphabetNumber : zq_M := (cX7_alphabetNumber, RX7, "alphabetNumber", (some .int), 3)
theorem dX7_hear_0 : decode cX7_hear 0 = .ok (.aload_n 0, 1) := by decide +kernel
theorem dX7_hear_1 : decode cX7_hear 1 = .ok (.getfield 37, 3) := by decide +kernel
theorem dX7_hear_4 : decode cX7_hear 4 = .ok (.ifCond .lt 42, 3) := by decide +kernel
theorem dX7_hear_7 : decode cX7_hear 7 = .ok (.aload_n 0, 1) := by decide +kernel
theorem dX7_hear_8 : decode cX7_hear 8 = .ok (.getfield 37, 3) := by decide +kernel
theorem dX7_hear_11 : decode cX7_hear 11 = .ok (.bipush 8, 2) := by decide +kernel
theorem dX7_hear_13 : decode cX7_hear 13 = .ok (.if_icmp .ge 33, 3) := by decide +kernel
theorem dX7_hear_16 : decode cX7_hear 16 = .ok (.aload_n 0, 1) := by decide +kernel
theorem dX7_hear_17 : decode cX7_hear 17 = .ok (.getfield 40, 3) := by decide +kernel
theorem dX7_hear_20 : decode cX7_hear 20 = .ok (.aload_n 0, 1) := by decide +kernel
theorem dX7_hear_21 : decode cX7_hear 21 = .ok (.getfield 37, 3) := by decide +kernel
theorem dX7_hear_24 : decode cX7_hear 24 = .ok (.iload_n 1, 1) := by decide +kernel
theorem dX7_hear_25 : decode cX7_hear 25 = .ok (.iastore, 1) := by decide +kernel
theorem dX7_hear_26 : decode cX7_hear 26 = .ok (.aload_n 0, 1) := by decide +kernel
theorem dX7_hear_27 : decode cX7_hear 27 = .ok (.getfield 43, 3) := by decide +kernel
theorem dX7_hear_30 : decode cX7_hear 30 = .ok (.aload_n 0, 1) := by decide +kernel
theorem dX7_hear_31 : decode cX7_hear 31 = .ok (.getfield 37, 3) := by decide +kernel
theorem dX7_hear_34 : decode cX7_hear 34 = .ok (.iload_n 2, 1) := by decide +kernel
theorem dX7_hear_35 : decode cX7_hear 35 = .ok (.iastore, 1) := by decide +kernel
theorem dX7_hear_36 : decode cX7_hear 36 = .ok (.aload_n 0, 1) := by decide +kernel
theorem dX7_hear_37 : decode cX7_hear 37 = .ok (.dup, 1) := by decide +kernel
theorem dX7_hear_38 : decode cX7_hear 38 = .ok (.getfield 37, 3) := by decide +kernel
theorem dX7_hear_41 : decode cX7_hear 41 = .ok (.iconst 1, 1) := by decide +kernel
theorem dX7_hear_42 : decode cX7_hear 42 = .ok (.iadd, 1) := by decide +kernel
theorem dX7_hear_43 : decode cX7_hear 43 = .ok (.putfield 37, 3) := by decide +kernel
theorem dX7_hear_46 : decode cX7_hear 46 = .ok (.aload_n 0, 1) := by decide +kernel
theorem dX7_hear_47 : decode cX7_hear 47 = .ok (.getfield 37, 3) := by decide +kernel
theorem dX7_hear_50 : decode cX7_hear 50 = .ok (.ireturn, 1) := by decide +kernel
abbrev mX7_hear : zq_M := (cX7_hear, RX7, "hear", (some .int), 3)
theorem dX7_hasLaw_0 : decode cX7_hasLaw 0 = .ok (.iload_n 1, 1) := by decide +kernel
theorem dX7_hasLaw_1 : decode cX7_hasLaw 1 = .ok (.ifCond .lt 21, 3) := by decide +kernel
theorem dX7_hasLaw_4 : decode cX7_hasLaw 4 = .ok (.iload_n 1, 1) := by decide +kernel
theorem dX7_hasLaw_5 : decode cX7_hasLaw 5 = .ok (.aload_n 0, 1) := by decide +kernel
theorem dX7_hasLaw_6 : decode cX7_hasLaw 6 = .ok (.getfield 46, 3) := by decide +kernel
theorem dX7_hasLaw_9 : decode cX7_hasLaw 9 = .ok (.if_icmp .ge 13, 3) := by decide +kernel
theorem dX7_hasLaw_12 : decode cX7_hasLaw 12 = .ok (.iload_n 1, 1) := by decide +kernel
theorem dX7_hasLaw_13 : decode cX7_hasLaw 13 = .ok (.bipush 6, 2) := by decide +kernel
theorem dX7_hasLaw_15 : decode cX7_hasLaw 15 = .ok (.if_icmp .ge 7, 3) := by decide +kernel
theorem dX7_hasLaw_18 : decode cX7_hasLaw 18 = .ok (.iconst 1, 1) := by decide +kernel
theorem dX7_hasLaw_19 : decode cX7_hasLaw 19 = .ok (.goto 4, 3) := by decide +kernel
theorem dX7_hasLaw_22 : decode cX7_hasLaw 22 = .ok (.iconst 0, 1) := by decide +kernel
theorem dX7_hasLaw_23 : decode cX7_hasLaw 23 = .ok (.ireturn, 1) := by decide +kernel
abbrev mX7_hasLaw : zq_M := (cX7_hasLaw, RX7, "hasLaw", (some .boolean), 2)
theorem dX7_lawOf_0 : decode cX7_lawOf 0 = .ok (.aload_n 0, 1) := by decide +kernel
theorem dX7_lawOf_1 : decode cX7_lawOf 1 = .ok (.iload_n 1, 1) := by decide +kernel
theorem dX7_lawOf_2 : decode cX7_lawOf 2 = .ok (.invokevirtual 92, 3) := by decide +kernel
theorem dX7_lawOf_5 : decode cX7_lawOf 5 = .ok (.ifCond .eq 12, 3) := by decide +kernel
theorem dX7_lawOf_8 : decode cX7_lawOf 8 = .ok (.aload_n 0, 1) := by decide +kernel
theorem dX7_lawOf_9 : decode cX7_lawOf 9 = .ok (.getfield 51, 3) := by decide +kernel
theorem dX7_lawOf_12 : decode cX7_lawOf 12 = .ok (.iload_n 1, 1) := by decide +kernel
theorem dX7_lawOf_13 : decode cX7_lawOf 13 = .ok (.aaload, 1) := by decide +kernel
theorem dX7_lawOf_14 : decode cX7_lawOf 14 = .ok (.goto 4, 3) := by decide +kernel
theorem dX7_lawOf_17 : decode cX7_lawOf 17 = .ok (.aconst_null, 1) := by decide +kernel
theorem dX7_lawOf_18 : decode cX7_lawOf 18 = .ok (.areturn, 1) := by decide +kernel
abbrev mX7_lawOf : zq_M := (cX7_lawOf, RX7, "lawOf", (some (.object "LetterQuay$Text")), 2)
theorem dX7_inForce_0 : decode cX7_inForce 0 = .ok (.aload_n 0, 1) := by decide +kernel
theorem dX7_inForce_1 : decode cX7_inForce 1 = .ok (.aload_n 0, 1) := by decide +kernel
theorem dX7_inForce_2 : decode cX7_inForce 2 = .ok (.getfield 55, 3) := by decide +kernel
theorem dX7_inForce_5 : decode cX7_inForce 5 = .ok (.invokevirtual 95, 3) := by decide +kernel
theorem dX7_inForce_8 : decode cX7_inForce 8 = .ok (.areturn, 1) := by decide +kernel
abbrev mX7_inForce : zq_M := (cX7_inForce, RX7, "inForce", (some (.object "LetterQuay$Text")), 1)
theorem dX7_addLaw_0 : decode cX7_addLaw 0 = .ok (.aload_n 0, 1) := by decide +kernel
theorem dX7_addLaw_1 : decode cX7_addLaw 1 = .ok (.getfield 46, 3) := by decide +kernel
theorem dX7_addLaw_4 : decode cX7_addLaw 4 = .ok (.istore_n 2, 1) := by decide +kernel
theorem dX7_addLaw_5 : decode cX7_addLaw 5 = .ok (.iload_n 2, 1) := by decide +kernel
theorem dX7_addLaw_6 : decode cX7_addLaw 6 = .ok (.ifCond .lt 26, 3) := by decide +kernel
theorem dX7_addLaw_9 : decode cX7_addLaw 9 = .ok (.iload_n 2, 1) := by decide +kernel
theorem dX7_addLaw_10 : decode cX7_addLaw 10 = .ok (.bipush 6, 2) := by decide +kernel
theorem dX7_addLaw_12 : decode cX7_addLaw 12 = .ok (.if_icmp .ge 20, 3) := by decide +kernel
theorem dX7_addLaw_15 : decode cX7_addLaw 15 = .ok (.aload_n 0, 1) := by decide +kernel
theorem dX7_addLaw_16 : decode cX7_addLaw 16 = .ok (.getfield 51, 3) := by decide +kernel
theorem dX7_addLaw_19 : decode cX7_addLaw 19 = .ok (.iload_n 2, 1) := by decide +kernel
theorem dX7_addLaw_20 : decode cX7_addLaw 20 = .ok (.aload_n 1, 1) := by decide +kernel
theorem dX7_addLaw_21 : decode cX7_addLaw 21 = .ok (.aastore, 1) := by decide +kernel
theorem dX7_addLaw_22 : decode cX7_addLaw 22 = .ok (.aload_n 0, 1) := by decide +kernel
theorem dX7_addLaw_23 : decode cX7_addLaw 23 = .ok (.dup, 1) := by decide +kernel
theorem dX7_addLaw_24 : decode cX7_addLaw 24 = .ok (.getfield 46, 3) := by decide +kernel
theorem dX7_addLaw_27 : decode cX7_addLaw 27 = .ok (.iconst 1, 1) := by decide +kernel
theorem dX7_addLaw_28 : decode cX7_addLaw 28 = .ok (.iadd, 1) := by decide +kernel
theorem dX7_addLaw_29 : decode cX7_addLaw 29 = .ok (.putfield 46, 3) := by decide +kernel
theorem dX7_addLaw_32 : decode cX7_addLaw 32 = .ok (.iload_n 2, 1) := by decide +kernel
theorem dX7_addLaw_33 : decode cX7_addLaw 33 = .ok (.ireturn, 1) := by decide +kernel
abbrev mX7_addLaw : zq_M := (cX7_addLaw, RX7, "addLaw", (some .int), 3)
theorem dX7_isAhead_0 : decode cX7_isAhead 0 = .ok (.iload_n 1, 1) := by decide +kernel
theorem dX7_isAhead_1 : decode cX7_isAhead 1 = .ok (.iload_n 2, 1) := by decide +kernel
theorem dX7_isAhead_2 : decode cX7_isAhead 2 = .ok (.invokestatic 99, 3) := by decide +kernel
theorem dX7_isAhead_5 : decode cX7_isAhead 5 = .ok (.aload_n 0, 1) := by decide +kernel
theorem dX7_isAhead_6 : decode cX7_isAhead 6 = .ok (.getfield 31, 3) := by decide +kernel
theorem dX7_isAhead_9 : decode cX7_isAhead 9 = .ok (.invokestatic 103, 3) := by decide +kernel
theorem dX7_isAhead_12 : decode cX7_isAhead 12 = .ok (.ireturn, 1) := by decide +kernel
abbrev mX7_isAhead : zq_M := (cX7_isAhead, RX7, "isAhead", (some .boolean), 3)
theorem dX7_breakAt_0 : decode cX7_breakAt 0 = .ok (.iconst 0, 1) := by decide +kernel
theorem dX7_breakAt_1 : decode cX7_breakAt 1 = .ok (.istore_n 2, 1) := by decide +kernel
theorem dX7_breakAt_2 : decode cX7_breakAt 2 = .ok (.iconst 0, 1) := by decide +kernel
theorem dX7_breakAt_3 : decode cX7_breakAt 3 = .ok (.istore_n 3, 1) := by decide +kernel
theorem dX7_breakAt_4 : decode cX7_breakAt 4 = .ok (.iload_n 3, 1) := by decide +kernel
theorem dX7_breakAt_5 : decode cX7_breakAt 5 = .ok (.iconst 1, 1) := by decide +kernel
theorem dX7_breakAt_6 : decode cX7_breakAt 6 = .ok (.iadd, 1) := by decide +kernel
theorem dX7_breakAt_7 : decode cX7_breakAt 7 = .ok (.aload_n 0, 1) := by decide +kernel
theorem dX7_breakAt_8 : decode cX7_breakAt 8 = .ok (.getfield 9, 3) := by decide +kernel
theorem dX7_breakAt_11 : decode cX7_breakAt 11 = .ok (.if_icmp .ge 38, 3) := by decide +kernel
theorem dX7_breakAt_14 : decode cX7_breakAt 14 = .ok (.aload_n 0, 1) := by decide +kernel
theorem dX7_breakAt_15 : decode cX7_breakAt 15 = .ok (.aload_n 0, 1) := by decide +kernel
theorem dX7_breakAt_16 : decode cX7_breakAt 16 = .ok (.iload_n 3, 1) := by decide +kernel
theorem dX7_breakAt_17 : decode cX7_breakAt 17 = .ok (.iconst 1, 1) := by decide +kernel
theorem dX7_breakAt_18 : decode cX7_breakAt 18 = .ok (.iadd, 1) := by decide +kernel
theorem dX7_breakAt_19 : decode cX7_breakAt 19 = .ok (.invokevirtual 107, 3) := by decide +kernel
theorem dX7_breakAt_22 : decode cX7_breakAt 22 = .ok (.aload_n 0, 1) := by decide +kernel
theorem dX7_breakAt_23 : decode cX7_breakAt 23 = .ok (.iload_n 3, 1) := by decide +kernel
theorem dX7_breakAt_24 : decode cX7_breakAt 24 = .ok (.invokevirtual 107, 3) := by decide +kernel
theorem dX7_breakAt_27 : decode cX7_breakAt 27 = .ok (.invokevirtual 110, 3) := by decide +kernel
theorem dX7_breakAt_30 : decode cX7_breakAt 30 = .ok (.ifCond .eq 13, 3) := by decide +kernel
theorem dX7_breakAt_33 : decode cX7_breakAt 33 = .ok (.iload_n 2, 1) := by decide +kernel
theorem dX7_breakAt_34 : decode cX7_breakAt 34 = .ok (.iload_n 1, 1) := by decide +kernel
theorem dX7_breakAt_35 : decode cX7_breakAt 35 = .ok (.if_icmp .ne 5, 3) := by decide +kernel
theorem dX7_breakAt_38 : decode cX7_breakAt 38 = .ok (.iload_n 3, 1) := by decide +kernel
theorem dX7_breakAt_39 : decode cX7_breakAt 39 = .ok (.ireturn, 1) := by decide +kernel
theorem dX7_breakAt_40 : decode cX7_breakAt 40 = .ok (.iinc 2 1, 3) := by decide +kernel
theorem dX7_breakAt_43 : decode cX7_breakAt 43 = .ok (.iinc 3 1, 3) := by decide +kernel
theorem dX7_breakAt_46 : decode cX7_breakAt 46 = .ok (.goto (-42), 3) := by decide +kernel
theorem dX7_breakAt_49 : decode cX7_breakAt 49 = .ok (.iload_n 1, 1) := by decide +kernel
theorem dX7_breakAt_50 : decode cX7_breakAt 50 = .ok (.iconst (-1), 1) := by decide +kernel
theorem dX7_breakAt_51 : decode cX7_breakAt 51 = .ok (.if_icmp .ne 7, 3) := by decide +kernel
theorem dX7_breakAt_54 : decode cX7_breakAt 54 = .ok (.iload_n 2, 1) := by decide +kernel
theorem dX7_breakAt_55 : decode cX7_breakAt 55 = .ok (.goto 4, 3) := by decide +kernel
theorem dX7_breakAt_58 : decode cX7_breakAt 58 = .ok (.iconst (-1), 1) := by decide +kernel
theorem dX7_breakAt_59 : decode cX7_breakAt 59 = .ok (.ireturn, 1) := by decide +kernel
abbrev mX7_breakAt : zq_M := (cX7_breakAt, RX7, "breakAt", (some .int), 4)
theorem dX7_inversions_0 : decode cX7_inversions 0 = .ok (.iconst 0, 1) := by decide +kernel
theorem dX7_inversions_1 : decode cX7_inversions 1 = .ok (.istore_n 1, 1) := by decide +kernel
theorem dX7_inversions_2 : decode cX7_inversions 2 = .ok (.iconst 0, 1) := by decide +kernel
theorem dX7_inversions_3 : decode cX7_inversions 3 = .ok (.istore_n 2, 1) := by decide +kernel
theorem dX7_inversions_4 : decode cX7_inversions 4 = .ok (.iload_n 2, 1) := by decide +kernel
theorem dX7_inversions_5 : decode cX7_inversions 5 = .ok (.aload_n 0, 1) := by decide +kernel
theorem dX7_inversions_6 : decode cX7_inversions 6 = .ok (.getfield 9, 3) := by decide +kernel
theorem dX7_inversions_9 : decode cX7_inversions 9 = .ok (.if_icmp .ge 52, 3) := by decide +kernel
theorem dX7_inversions_12 : decode cX7_inversions 12 = .ok (.aload_n 0, 1) := by decide +kernel
theorem dX7_inversions_13 : decode cX7_inversions 13 = .ok (.iload_n 2, 1) := by decide +kernel
theorem dX7_inversions_14 : decode cX7_inversions 14 = .ok (.invokevirtual 107, 3) := by decide +kernel
theorem dX7_inversions_17 : decode cX7_inversions 17 = .ok (.istore_n 3, 1) := by decide +kernel
theorem dX7_inversions_18 : decode cX7_inversions 18 = .ok (.iload_n 2, 1) := by decide +kernel
theorem dX7_inversions_19 : decode cX7_inversions 19 = .ok (.iconst 1, 1) := by decide +kernel
theorem dX7_inversions_20 : decode cX7_inversions 20 = .ok (.iadd, 1) := by decide +kernel
theorem dX7_inversions_21 : decode cX7_inversions 21 = .ok (.istore 4, 2) := by decide +kernel
theorem dX7_inversions_23 : decode cX7_inversions 23 = .ok (.iload 4, 2) := by decide +kernel
theorem dX7_inversions_25 : decode cX7_inversions 25 = .ok (.aload_n 0, 1) := by decide +kernel
theorem dX7_inversions_26 : decode cX7_inversions 26 = .ok (.getfield 9, 3) := by decide +kernel
theorem dX7_inversions_29 : decode cX7_inversions 29 = .ok (.if_icmp .ge 26, 3) := by decide +kernel
theorem dX7_inversions_32 : decode cX7_inversions 32 = .ok (.aload_n 0, 1) := by decide +kernel
theorem dX7_inversions_33 : decode cX7_inversions 33 = .ok (.aload_n 0, 1) := by decide +kernel
theorem dX7_inversions_34 : decode cX7_inversions 34 = .ok (.iload 4, 2) := by decide +kernel
theorem dX7_inversions_36 : decode cX7_inversions 36 = .ok (.invokevirtual 107, 3) := by decide +kernel
theorem dX7_inversions_39 : decode cX7_inversions 39 = .ok (.iload_n 3, 1) := by decide +kernel
theorem dX7_inversions_40 : decode cX7_inversions 40 = .ok (.invokevirtual 110, 3) := by decide +kernel
theorem dX7_inversions_43 : decode cX7_inversions 43 = .ok (.ifCond .eq 6, 3) := by decide +kernel
theorem dX7_inversions_46 : decode cX7_inversions 46 = .ok (.iinc 1 1, 3) := by decide +kernel
theorem dX7_inversions_49 : decode cX7_inversions 49 = .ok (.iinc 4 1, 3) := by decide +kernel
theorem dX7_inversions_52 : decode cX7_inversions 52 = .ok (.goto (-29), 3) := by decide +kernel
theorem dX7_inversions_55 : decode cX7_inversions 55 = .ok (.iinc 2 1, 3) := by decide +kernel
theorem dX7_inversions_58 : decode cX7_inversions 58 = .ok (.goto (-54), 3) := by decide +kernel
theorem dX7_inversions_61 : decode cX7_inversions 61 = .ok (.iload_n 1, 1) := by decide +kernel
theorem dX7_inversions_62 : decode cX7_inversions 62 = .ok (.ireturn, 1) := by decide +kernel
abbrev mX7_inversions : zq_M := (cX7_inversions, RX7, "inversions", (some .int), 5)
theorem dX7_fewestOut_0 : decode cX7_fewestOut 0 = .ok (.iconst 0, 1) := by decide +kernel
theorem dX7_fewestOut_1 : decode cX7_fewestOut 1 = .ok (.istore_n 1, 1) := by decide +kernel
theorem dX7_fewestOut_2 : decode cX7_fewestOut 2 = .ok (.bipush 8, 2) := by decide +kernel
theorem dX7_fewestOut_4 : decode cX7_fewestOut 4 = .ok (.istore_n 2, 1) := by decide +kernel
theorem dX7_fewestOut_5 : decode cX7_fewestOut 5 = .ok (.iconst 0, 1) := by decide +kernel
theorem dX7_fewestOut_6 : decode cX7_fewestOut 6 = .ok (.istore_n 3, 1) := by decide +kernel
theorem dX7_fewestOut_7 : decode cX7_fewestOut 7 = .ok (.iload_n 3, 1) := by decide +kernel
theorem dX7_fewestOut_8 : decode cX7_fewestOut 8 = .ok (.iconst 1, 1) := by decide +kernel
theorem dX7_fewestOut_9 : decode cX7_fewestOut 9 = .ok (.aload_n 0, 1) := by decide +kernel
theorem dX7_fewestOut_10 : decode cX7_fewestOut 10 = .ok (.getfield 9, 3) := by decide +kernel
theorem dX7_fewestOut_13 : decode cX7_fewestOut 13 = .ok (.ishl, 1) := by decide +kernel
theorem dX7_fewestOut_14 : decode cX7_fewestOut 14 = .ok (.if_icmp .ge 41, 3) := by decide +kernel
theorem dX7_fewestOut_17 : decode cX7_fewestOut 17 = .ok (.iload_n 3, 1) := by decide +kernel
theorem dX7_fewestOut_18 : decode cX7_fewestOut 18 = .ok (.sipush 128, 3) := by decide +kernel
theorem dX7_fewestOut_21 : decode cX7_fewestOut 21 = .ok (.if_icmp .ge 34, 3) := by decide +kernel
theorem dX7_fewestOut_24 : decode cX7_fewestOut 24 = .ok (.iload_n 3, 1) := by decide +kernel
theorem dX7_fewestOut_25 : decode cX7_fewestOut 25 = .ok (.invokestatic 114, 3) := by decide +kernel
theorem dX7_fewestOut_28 : decode cX7_fewestOut 28 = .ok (.istore 4, 2) := by decide +kernel
theorem dX7_fewestOut_30 : decode cX7_fewestOut 30 = .ok (.iload 4, 2) := by decide +kernel
theorem dX7_fewestOut_32 : decode cX7_fewestOut 32 = .ok (.iload_n 2, 1) := by decide +kernel
theorem dX7_fewestOut_33 : decode cX7_fewestOut 33 = .ok (.if_icmp .ge 16, 3) := by decide +kernel
theorem dX7_fewestOut_36 : decode cX7_fewestOut 36 = .ok (.aload_n 0, 1) := by decide +kernel
theorem dX7_fewestOut_37 : decode cX7_fewestOut 37 = .ok (.iload_n 3, 1) := by decide +kernel
theorem dX7_fewestOut_38 : decode cX7_fewestOut 38 = .ok (.invokevirtual 119, 3) := by decide +kernel
theorem dX7_fewestOut_41 : decode cX7_fewestOut 41 = .ok (.ifCond .eq 8, 3) := by decide +kernel
theorem dX7_fewestOut_44 : decode cX7_fewestOut 44 = .ok (.iload 4, 2) := by decide +kernel
theorem dX7_fewestOut_46 : decode cX7_fewestOut 46 = .ok (.istore_n 2, 1) := by decide +kernel
theorem dX7_fewestOut_47 : decode cX7_fewestOut 47 = .ok (.iload_n 3, 1) := by decide +kernel
theorem dX7_fewestOut_48 : decode cX7_fewestOut 48 = .ok (.istore_n 1, 1) := by decide +kernel
theorem dX7_fewestOut_49 : decode cX7_fewestOut 49 = .ok (.iinc 3 1, 3) := by decide +kernel
theorem dX7_fewestOut_52 : decode cX7_fewestOut 52 = .ok (.goto (-45), 3) := by decide +kernel
theorem dX7_fewestOut_55 : decode cX7_fewestOut 55 = .ok (.iload_n 1, 1) := by decide +kernel
theorem dX7_fewestOut_56 : decode cX7_fewestOut 56 = .ok (.ireturn, 1) := by decide +kernel
abbrev mX7_fewestOut : zq_M := (cX7_fewestOut, RX7, "fewestOut", (some .int), 5)
theorem dX7_isRightWithout_0 : decode cX7_isRightWithout 0 = .ok (.iconst 0, 1) := by decide +kernel
theorem dX7_isRightWithout_1 : decode cX7_isRightWithout 1 = .ok (.istore_n 2, 1) := by decide +kernel
theorem dX7_isRightWithout_2 : decode cX7_isRightWithout 2 = .ok (.iconst 0, 1) := by decide +kernel
theorem dX7_isRightWithout_3 : decode cX7_isRightWithout 3 = .ok (.istore_n 3, 1) := by decide +kernel
theorem dX7_isRightWithout_4 : decode cX7_isRightWithout 4 = .ok (.iload_n 3, 1) := by decide +kernel
theorem dX7_isRightWithout_5 : decode cX7_isRightWithout 5 = .ok (.aload_n 0, 1) := by decide +kernel
theorem dX7_isRightWithout_6 : decode cX7_isRightWithout 6 = .ok (.getfield 9, 3) := by decide +kernel
theorem dX7_isRightWithout_9 : decode cX7_isRightWithout 9 = .ok (.if_icmp .ge 43, 3) := by decide +kernel
theorem dX7_isRightWithout_12 : decode cX7_isRightWithout 12 = .ok (.iload_n 1, 1) := by decide +kernel
theorem dX7_isRightWithout_13 : decode cX7_isRightWithout 13 = .ok (.iload_n 3, 1) := by decide +kernel
theorem dX7_isRightWithout_14 : decode cX7_isRightWithout 14 = .ok (.ishr, 1) := by decide +kernel
theorem dX7_isRightWithout_15 : decode cX7_isRightWithout 15 = .ok (.iconst 1, 1) := by decide +kernel
theorem dX7_isRightWithout_16 : decode cX7_isRightWithout 16 = .ok (.iand, 1) := by decide +kernel
theorem dX7_isRightWithout_17 : decode cX7_isRightWithout 17 = .ok (.ifCond .ne 29, 3) := by decide +kernel
theorem dX7_isRightWithout_20 : decode cX7_isRightWithout 20 = .ok (.aload_n 0, 1) := by decide +kernel
theorem dX7_isRightWithout_21 : decode cX7_isRightWithout 21 = .ok (.iload_n 3, 1) := by decide +kernel
theorem dX7_isRightWithout_22 : decode cX7_isRightWithout 22 = .ok (.invokevirtual 107, 3) := by decide +kernel
theorem dX7_isRightWithout_25 : decode cX7_isRightWithout 25 = .ok (.istore 4, 2) := by decide +kernel
theorem dX7_isRightWithout_27 : decode cX7_isRightWithout 27 = .ok (.iload_n 2, 1) := by decide +kernel
theorem dX7_isRightWithout_28 : decode cX7_isRightWithout 28 = .ok (.ifCond .eq 15, 3) := by decide +kernel
theorem dX7_isRightWithout_31 : decode cX7_isRightWithout 31 = .ok (.aload_n 0, 1) := by decide +kernel
theorem dX7_isRightWithout_32 : decode cX7_isRightWithout 32 = .ok (.iload 4, 2) := by decide +kernel
theorem dX7_isRightWithout_34 : decode cX7_isRightWithout 34 = .ok (.iload_n 2, 1) := by decide +kernel
theorem dX7_isRightWithout_35 : decode cX7_isRightWithout 35 = .ok (.invokevirtual 110, 3) := by decide +kernel
theorem dX7_isRightWithout_38 : decode cX7_isRightWithout 38 = .ok (.ifCond .eq 5, 3) := by decide +kernel
theorem dX7_isRightWithout_41 : decode cX7_isRightWithout 41 = .ok (.iconst 0, 1) := by decide +kernel
theorem dX7_isRightWithout_42 : decode cX7_isRightWithout 42 = .ok (.ireturn, 1) := by decide +kernel
theorem dX7_isRightWithout_43 : decode cX7_isRightWithout 43 = .ok (.iload 4, 2) := by decide +kernel
theorem dX7_isRightWithout_45 : decode cX7_isRightWithout 45 = .ok (.istore_n 2, 1) := by decide +kernel
theorem dX7_isRightWithout_46 : decode cX7_isRightWithout 46 = .ok (.iinc 3 1, 3) := by decide +kernel
theorem dX7_isRightWithout_49 : decode cX7_isRightWithout 49 = .ok (.goto (-45), 3) := by decide +kernel
theorem dX7_isRightWithout_52 : decode cX7_isRightWithout 52 = .ok (.iconst 1, 1) := by decide +kernel
theorem dX7_isRightWithout_53 : decode cX7_isRightWithout 53 = .ok (.ireturn, 1) := by decide +kernel
abbrev mX7_isRightWithout : zq_M := (cX7_isRightWithout, RX7, "isRightWithout", (some .boolean), 5)
theorem dX7_toldAlong_0 : decode cX7_toldAlong 0 = .ok (.iload_n 1, 1) := by decide +kernel
theorem dX7_toldAlong_1 : decode cX7_toldAlong 1 = .ok (.istore_n 2, 1) := by decide +kernel
theorem dX7_toldAlong_2 : decode cX7_toldAlong 2 = .ok (.iconst 0, 1) := by decide +kernel
theorem dX7_toldAlong_3 : decode cX7_toldAlong 3 = .ok (.istore_n 3, 1) := by decide +kernel
theorem dX7_toldAlong_4 : decode cX7_toldAlong 4 = .ok (.iload_n 3, 1) := by decide +kernel
theorem dX7_toldAlong_5 : decode cX7_toldAlong 5 = .ok (.aload_n 0, 1) := by decide +kernel
theorem dX7_toldAlong_6 : decode cX7_toldAlong 6 = .ok (.getfield 9, 3) := by decide +kernel
theorem dX7_toldAlong_9 : decode cX7_toldAlong 9 = .ok (.if_icmp .ge 29, 3) := by decide +kernel
theorem dX7_toldAlong_12 : decode cX7_toldAlong 12 = .ok (.aload_n 0, 1) := by decide +kernel
theorem dX7_toldAlong_13 : decode cX7_toldAlong 13 = .ok (.iload_n 3, 1) := by decide +kernel
theorem dX7_toldAlong_14 : decode cX7_toldAlong 14 = .ok (.invokevirtual 75, 3) := by decide +kernel
theorem dX7_toldAlong_17 : decode cX7_toldAlong 17 = .ok (.ifCond .eq 21, 3) := by decide +kernel
theorem dX7_toldAlong_20 : decode cX7_toldAlong 20 = .ok (.aload_n 0, 1) := by decide +kernel
theorem dX7_toldAlong_21 : decode cX7_toldAlong 21 = .ok (.aload_n 0, 1) := by decide +kernel
theorem dX7_toldAlong_22 : decode cX7_toldAlong 22 = .ok (.getfield 19, 3) := by decide +kernel
theorem dX7_toldAlong_25 : decode cX7_toldAlong 25 = .ok (.iload_n 3, 1) := by decide +kernel
theorem dX7_toldAlong_26 : decode cX7_toldAlong 26 = .ok (.iaload, 1) := by decide +kernel
theorem dX7_toldAlong_27 : decode cX7_toldAlong 27 = .ok (.iload_n 2, 1) := by decide +kernel
theorem dX7_toldAlong_28 : decode cX7_toldAlong 28 = .ok (.invokevirtual 122, 3) := by decide +kernel
theorem dX7_toldAlong_31 : decode cX7_toldAlong 31 = .ok (.istore_n 2, 1) := by decide +kernel
theorem dX7_toldAlong_32 : decode cX7_toldAlong 32 = .ok (.iinc 3 1, 3) := by decide +kernel
theorem dX7_toldAlong_35 : decode cX7_toldAlong 35 = .ok (.goto (-31), 3) := by decide +kernel
theorem dX7_toldAlong_38 : decode cX7_toldAlong 38 = .ok (.iload_n 2, 1) := by decide +kernel
theorem dX7_toldAlong_39 : decode cX7_toldAlong 39 = .ok (.ireturn, 1) := by decide +kernel
abbrev mX7_toldAlong : zq_M := (cX7_toldAlong, RX7, "toldAlong", (some .int), 4)
section ZC2
variable {l : Launch} {G : zq_G} {D n b m t : Nat} {κ : zl_S} {ρ : Nat → zq_E} {post : Option Value → Nat → (Nat → zq_E) → Prop} {x w rk al : Nat → Nat}
theorem zc_isMet {a d : Nat} (ha : zl_isA a = true) (hl : zl_len a = 6) (ho : zOrd (κ.2.1 a) rk) (hr : ∀ y, 1 ≤ y → y ≤ 5 → rk y < 5) (h1 : d / 10 ≤ 5) (h2 : d % 10 ≤ 5) (hp : post (some (.int (zb (zmt rk d)))) n (zl_h κ ρ)) : zq_Runs l G D 0 0 yX6_isMet [.int (nI d), .ref a] n (zl_h κ ρ) post := by
  have r1 : zr0 rk (d / 10) < 10 := by
    unfold zr0
    split
    · decide
    · have := hr (d / 10) (by omega) h1; omega
  have r2 : zr0 rk (d % 10) < 10 := by
    unfold zr0
    split
    · decide
    · have := hr (d % 10) (by omega) h2; omega
  unfold zmt at hp
  refine zq_enter (cc := cX6_isMet) (nL := 4) (ret := (some .boolean)) cw_X6_isMet (by decide) rfl (Nat.le_of_ble_eq_true rfl) ?_
  refine at_iload_n dX6_isMet_0 rfl ?_
  refine at_bipush dX6_isMet_1 (v := nI 10) (by decide) ?_
  refine at_idivN dX6_isMet_3 (by omega) (by omega) (by omega) ?_
  refine at_istore_n dX6_isMet_4 rfl (by decide) ?_
  refine at_iload_n dX6_isMet_5 rfl ?_
  refine at_bipush dX6_isMet_6 (v := nI 10) (by decide) ?_
  refine at_iremN dX6_isMet_8 (by omega) (by omega) (by omega) ?_
  refine at_istore_n dX6_isMet_9 rfl (by decide) ?_
  refine at_iload_n dX6_isMet_10 rfl ?_
  refine at_if_ltN (tgt := 43) dX6_isMet_11 (by decide) (by omega) (fun c11 => ?_) (fun c11 => ?_)
  · exact c11.elim
  · refine at_iload_n dX6_isMet_14 rfl ?_
    refine at_aload_n dX6_isMet_15 rfl ?_
    refine at_alen dX6_isMet_16 (zl_a ha) (by decide) (v := nI 6) (by rw [hl]; rfl) ?_
    refine at_geN (tgt := 43) dX6_isMet_17 (by decide) (by omega) (by omega) (fun c17 => ?_) (fun c17 => ?_)
    · omega
    · refine at_iload_n dX6_isMet_20 rfl ?_
      refine at_if_ltN (tgt := 43) dX6_isMet_21 (by decide) (by omega) (fun c21 => ?_) (fun c21 => ?_)
      · exact c21.elim
      · refine at_iload_n dX6_isMet_24 rfl ?_
        refine at_aload_n dX6_isMet_25 rfl ?_
        refine at_alen dX6_isMet_26 (zl_a ha) (by decide) (v := nI 6) (by rw [hl]; rfl) ?_
        refine at_geN (tgt := 43) dX6_isMet_27 (by decide) (by omega) (by omega) (fun c27 => ?_) (fun c27 => ?_)
        · omega
        · refine at_aload_n dX6_isMet_30 rfl ?_
          refine at_iload_n dX6_isMet_31 rfl ?_
          refine at_lald2 dX6_isMet_32 ha rfl (by rw [hl]; omega) (by rw [hl]; decide) ?_
          rw [ho _ h1]
          refine at_aload_n dX6_isMet_33 rfl ?_
          refine at_iload_n dX6_isMet_34 rfl ?_
          refine at_lald2 dX6_isMet_35 ha rfl (by rw [hl]; omega) (by rw [hl]; decide) ?_
          rw [ho _ h2]
          refine at_icmp_ge (tgt := 43) dX6_isMet_36 (by decide) (fun c36 => ?_) (fun c36 => ?_)
          · rw [decide_eq_false (fun h => absurd c36 (Int32.not_le.mpr ((zlast_lt2 (by omega) (by omega)).mpr h)))] at hp
            refine at_iconst dX6_isMet_43 (v := nI 0) (by decide) ?_
            refine at_zret dX6_isMet_44 rfl (by omega) (by omega) (by first | exact Or.inl rfl | exact Or.inr rfl | assumption) ?_
            exact hp
          · rw [decide_eq_true ((zlast_lt2 (by omega) (by omega)).mp (Int32.not_le.mp c36))] at hp
            refine at_iconst dX6_isMet_39 (v := nI 1) (by decide) ?_
            refine at_goto (tgt := 44) dX6_isMet_40 (by decide) ?_
            refine at_zret dX6_isMet_44 rfl (by omega) (by omega) (by first | exact Or.inl rfl | exact Or.inr rfl | assumption) ?_
            exact hp
theorem zc_has {v : Int32} (hb : zQb b) (hm : κ.1 b 0 = nI m) (hm7 : m ≤ 7) (hp : post (some (.int (zb (zix m v)))) n (zl_h κ ρ)) : zq_Runs l G D 0 0 yX7_has [.ref b, .int v] n (zl_h κ ρ) post := by
  refine zq_enter (cc := cX7_has) (nL := 2) (ret := (some .boolean)) cw_X7_has (by decide) rfl (Nat.le_of_ble_eq_true rfl) ?_
  refine at_iload_n dX7_has_0 rfl ?_
  refine at_if_lt (tgt := 22) dX7_has_1 (by decide) (fun c1 => ?_) (fun c1 => ?_)
  · rw [zix_lt0 c1] at hp
    refine at_iconst dX7_has_22 (v := nI 0) (by decide) ?_
    refine at_zret dX7_has_23 rfl (by omega) (by omega) (by first | exact Or.inl rfl | exact Or.inr rfl | assumption) ?_
    exact hp
  · refine at_iload_n dX7_has_4 rfl ?_
    refine at_aload_n dX7_has_5 rfl ?_
    refine at_get dX7_has_6 fl_X7_9 (zl_q hb) rfl ?_
    rw [hm]
    refine at_icmp_ge (tgt := 22) dX7_has_9 (by decide) (fun c9 => ?_) (fun c9 => ?_)
    · rw [zix_ge (by omega) c9] at hp
      refine at_iconst dX7_has_22 (v := nI 0) (by decide) ?_
      refine at_zret dX7_has_23 rfl (by omega) (by omega) (by first | exact Or.inl rfl | exact Or.inr rfl | assumption) ?_
      exact hp
    · rw [zix_and hm7 c1 c9] at hp
      refine at_iload_n dX7_has_12 rfl ?_
      refine at_bipush dX7_has_13 (v := nI 7) (by decide) ?_
      refine at_icmp_ge (tgt := 22) dX7_has_15 (by decide) (fun c15 => ?_) (fun c15 => ?_)
      · exact absurd (Int32.le_trans ((nI_leI (by omega) (by decide)).mpr hm7) c15) c9
      · refine at_iconst dX7_has_18 (v := nI 1) (by decide) ?_
        refine at_goto (tgt := 23) dX7_has_19 (by decide) ?_
        refine at_zret dX7_has_23 rfl (by omega) (by omega) (by first | exact Or.inl rfl | exact Or.inr rfl | assumption) ?_
        exact hp
theorem zc_hasRoom (hb : zQb b) (hm : κ.1 b 0 = nI m) (hm7 : m ≤ 7) (hp : post (some (.int (zb (decide (m < 7))))) n (zl_h κ ρ)) : zq_Runs l G D 0 0 yX7_hasRoom [.ref b] n (zl_h κ ρ) post := by
  refine zq_enter (cc := cX7_hasRoom) (nL := 1) (ret := (some .boolean)) cw_X7_hasRoom (by decide) rfl (Nat.le_of_ble_eq_true rfl) ?_
  refine at_aload_n dX7_hasRoom_0 rfl ?_
  refine at_get dX7_hasRoom_1 fl_X7_9 (zl_q hb) rfl ?_
  rw [hm]
  refine at_if_ltN (tgt := 20) dX7_hasRoom_4 (by decide) (by omega) (fun c4 => ?_) (fun c4 => ?_)
  · exact c4.elim
  · refine at_aload_n dX7_hasRoom_7 rfl ?_
    refine at_get dX7_hasRoom_8 fl_X7_9 (zl_q hb) rfl ?_
    rw [hm]
    refine at_bipush dX7_hasRoom_11 (v := nI 7) (by decide) ?_
    refine at_geN (tgt := 20) dX7_hasRoom_13 (by decide) (by omega) (by omega) (fun c13 => ?_) (fun c13 => ?_)
    · rw [decide_eq_false (by omega)] at hp
      refine at_iconst dX7_hasRoom_20 (v := nI 0) (by decide) ?_
      refine at_zret dX7_hasRoom_21 rfl (by omega) (by omega) (by first | exact Or.inl rfl | exact Or.inr rfl | assumption) ?_
      exact hp
    · rw [decide_eq_true c13] at hp
      refine at_iconst dX7_hasRoom_16 (v := nI 1) (by decide) ?_
      refine at_goto (tgt := 21) dX7_hasRoom_17 (by decide) ?_
      refine at_zret dX7_hasRoom_21 rfl (by omega) (by omega) (by first | exact Or.inl rfl | exact Or.inr rfl | assumption) ?_
      exact hp
theorem zc_said {p y : Nat} (hD : 1 ≤ D) (hb : zQb b) (hm : κ.1 b 0 = nI m) (hm7 : m ≤ 7) (hpm : p < m) (h1 : 1 ≤ y) (h5 : y ≤ 5) (hp : post (some (.int (κ.2.1 (b + 4) (5 * p + y - 1)))) n (zl_h κ ρ)) : zq_Runs l G D 0 0 yX7_said [.ref b, .int (nI p), .int (nI y)] n (zl_h κ ρ) post := by
  rw [show 5 * p + y - 1 = p * 5 + y - 1 by omega] at hp
  refine zq_enter (cc := cX7_said) (nL := 3) (ret := (some .int)) cw_X7_said (by decide) rfl (Nat.le_of_ble_eq_true rfl) ?_
  refine at_aload_n dX7_said_0 rfl ?_
  refine at_iload_n dX7_said_1 rfl ?_
  refine at_callV1 (d := D - 1) dX7_said_2 mv_X7_75 (zl_q hb) (Nat.le_of_ble_eq_true rfl) (zq_r0 (by omega) (by omega) (by omega)) ?_
  refine zc_has hb hm hm7 ?_
  rw [zix_n (by omega), decide_eq_true hpm]
  refine at_if_eqB (tgt := 30) dX7_said_5 (by decide) (fun c5 => ?_) (fun c5 => ?_)
  · cases c5
  · refine at_iload_n dX7_said_8 rfl ?_
    refine at_callS1 (d := D - 1) dX7_said_9 ms_X7_79 (Nat.le_of_ble_eq_true rfl) (zq_r0 (by omega) (by omega) (by omega)) ?_
    refine zc_isLetter ?_
    rw [zlies_i (by decide) (by decide) h1 h5]
    refine at_if_eqB (tgt := 30) dX7_said_12 (by decide) (fun c12 => ?_) (fun c12 => ?_)
    · cases c12
    · refine at_aload_n dX7_said_15 rfl ?_
      refine at_get dX7_said_16 fl_X7_25 (zl_q hb) rfl ?_
      refine at_iload_n dX7_said_19 rfl ?_
      refine at_iconst dX7_said_20 (v := nI 5) (by decide) ?_
      refine at_imulN dX7_said_21 ?_
      refine at_iload_n dX7_said_22 rfl ?_
      refine at_iaddN dX7_said_23 ?_
      refine at_iconst dX7_said_24 (v := nI 1) (by decide) ?_
      refine at_isubN dX7_said_25 (by omega) ?_
      refine at_uld (b := b) (c := 4) dX7_said_26 hb (by decide) (by decide) rfl (by show _ < 35; omega) ?_
      refine at_goto (tgt := 31) dX7_said_27 (by decide) ?_
      refine at_iret dX7_said_31 rfl (by omega) (by omega) ?_
      exact hp
theorem zc_teach {p y : Nat} {v : Int32} (hD : 1 ≤ D) (hb : zQb b) (hm : κ.1 b 0 = nI m) (hm7 : m ≤ 7) (hpm : p < m) (h1 : 1 ≤ y) (h5 : y ≤ 5) (hp : post none n (zl_h (zl_sa κ (b + 4) (5 * p + y - 1) v) ρ)) : zq_Runs l G D 0 0 yX7_teach [.ref b, .int (nI p), .int (nI y), .int v] n (zl_h κ ρ) post := by
  rw [show 5 * p + y - 1 = p * 5 + y - 1 by omega] at hp
  refine zq_enter (cc := cX7_teach) (nL := 4) (ret := none) cw_X7_teach (by decide) rfl (Nat.le_of_ble_eq_true rfl) ?_
  refine at_aload_n dX7_teach_0 rfl ?_
  refine at_iload_n dX7_teach_1 rfl ?_
  refine at_callV1 (d := D - 1) dX7_teach_2 mv_X7_75 (zl_q hb) (Nat.le_of_ble_eq_true rfl) (zq_r0 (by omega) (by omega) (by omega)) ?_
  refine zc_has hb hm hm7 ?_
  rw [zix_n (by omega), decide_eq_true hpm]
  refine at_if_eqB (tgt := 28) dX7_teach_5 (by decide) (fun c5 => ?_) (fun c5 => ?_)
  · cases c5
  · refine at_iload_n dX7_teach_8 rfl ?_
    refine at_callS1 (d := D - 1) dX7_teach_9 ms_X7_79 (Nat.le_of_ble_eq_true rfl) (zq_r0 (by omega) (by omega) (by omega)) ?_
    refine zc_isLetter ?_
    rw [zlies_i (by decide) (by decide) h1 h5]
    refine at_if_eqB (tgt := 28) dX7_teach_12 (by decide) (fun c12 => ?_) (fun c12 => ?_)
    · cases c12
    · refine at_aload_n dX7_teach_15 rfl ?_
      refine at_get dX7_teach_16 fl_X7_25 (zl_q hb) rfl ?_
      refine at_iload_n dX7_teach_19 rfl ?_
      refine at_iconst dX7_teach_20 (v := nI 5) (by decide) ?_
      refine at_imulN dX7_teach_21 ?_
      refine at_iload_n dX7_teach_22 rfl ?_
      refine at_iaddN dX7_teach_23 ?_
      refine at_iconst dX7_teach_24 (v := nI 1) (by decide) ?_
      refine at_isubN dX7_teach_25 (by omega) ?_
      refine at_iload_n dX7_teach_26 rfl ?_
      refine at_ust (b := b) (c := 4) dX7_teach_27 hb (by decide) (by decide) rfl (by show _ < 35; omega) ?_
      refine at_vret dX7_teach_28 rfl (by omega) (by omega) ?_
      exact hp
theorem zc_nameOf {p : Nat} (hD : 1 ≤ D) (hb : zQb b) (hQ : zQN κ b m x w) (hpm : p < m) (hp : post (some (.int (nI (x p)))) n (zl_h κ ρ)) : zq_Runs l G D 0 0 yX7_nameOf [.ref b, .int (nI p)] n (zl_h κ ρ) post := by
  have hm7 := hQ.2.1
  have g := (hQ.2.2.1 p hpm).1
  refine zq_enter (cc := cX7_nameOf) (nL := 2) (ret := (some .int)) cw_X7_nameOf (by decide) rfl (Nat.le_of_ble_eq_true rfl) ?_
  refine at_aload_n dX7_nameOf_0 rfl ?_
  refine at_iload_n dX7_nameOf_1 rfl ?_
  refine at_callV1 (d := D - 1) dX7_nameOf_2 mv_X7_75 (zl_q hb) (Nat.le_of_ble_eq_true rfl) (zq_r0 (by omega) (by omega) (by omega)) ?_
  refine zc_has hb hQ.1 hm7 ?_
  rw [zix_n (by omega), decide_eq_true hpm]
  refine at_if_eqB (tgt := 17) dX7_nameOf_5 (by decide) (fun c5 => ?_) (fun c5 => ?_)
  · cases c5
  · refine at_aload_n dX7_nameOf_8 rfl ?_
    refine at_get dX7_nameOf_9 fl_X7_15 (zl_q hb) rfl ?_
    refine at_iload_n dX7_nameOf_12 rfl ?_
    refine at_uld (b := b) (c := 1) dX7_nameOf_13 hb (by decide) (by decide) rfl (by show _ < 7; omega) ?_
    rw [g]
    refine at_goto (tgt := 18) dX7_nameOf_14 (by decide) ?_
    refine at_iret dX7_nameOf_18 rfl (by omega) (by omega) ?_
    exact hp
theorem zc_nameAt {k : Nat} (hD : 2 ≤ D) (hb : zQb b) (hQ : zQN κ b m x w) (hk : k < m) (hp : post (some (.int (nI (x (w k))))) n (zl_h κ ρ)) : zq_Runs l G D 0 0 yX7_nameAt [.ref b, .int (nI k)] n (zl_h κ ρ) post := by
  have hm7 := hQ.2.1
  obtain ⟨g1, g2⟩ := hQ.2.2.2 k hk
  refine zq_enter (cc := cX7_nameAt) (nL := 2) (ret := (some .int)) cw_X7_nameAt (by decide) rfl (Nat.le_of_ble_eq_true rfl) ?_
  refine at_aload_n dX7_nameAt_0 rfl ?_
  refine at_iload_n dX7_nameAt_1 rfl ?_
  refine at_callV1 (d := D - 1) dX7_nameAt_2 mv_X7_75 (zl_q hb) (Nat.le_of_ble_eq_true rfl) (zq_r0 (by omega) (by omega) (by omega)) ?_
  refine zc_has hb hQ.1 hm7 ?_
  rw [zix_n (by omega), decide_eq_true hk]
  refine at_if_eqB (tgt := 21) dX7_nameAt_5 (by decide) (fun c5 => ?_) (fun c5 => ?_)
  · cases c5
  · refine at_aload_n dX7_nameAt_8 rfl ?_
    refine at_aload_n dX7_nameAt_9 rfl ?_
    refine at_get dX7_nameAt_10 fl_X7_19 (zl_q hb) rfl ?_
    refine at_iload_n dX7_nameAt_13 rfl ?_
    refine at_uld (b := b) (c := 2) dX7_nameAt_14 hb (by decide) (by decide) rfl (by show _ < 7; omega) ?_
    rw [g1]
    refine at_callV1 (d := D - 1) dX7_nameAt_15 mv_X7_82 (zl_q hb) (Nat.le_of_ble_eq_true rfl) (zq_r0 (by omega) (by omega) (by omega)) ?_
    refine zc_nameOf (by omega) hb hQ g2 ?_
    refine at_goto (tgt := 22) dX7_nameAt_18 (by decide) ?_
    refine at_iret dX7_nameAt_22 rfl (by omega) (by omega) ?_
    exact hp
theorem zc_write {p k y : Nat} (hD : 3 ≤ D) (hb : zQb b) (hQ : zQN κ b m x w) (hpm : p < m) (hk : k < zlen (x p)) (hp : post none n (zl_h (zl_sa κ (b + 1) p (nI (zwl (x p) k y))) ρ)) : zq_Runs l G D 0 0 yX7_write [.ref b, .int (nI p), .int (nI k), .int (nI y)] n (zl_h κ ρ) post := by
  have hm7 := hQ.2.1
  obtain ⟨g1, g2⟩ := hQ.2.2.1 p hpm
  have h1 := g2.1
  have h5 := g2.2.1
  refine zq_enter (cc := cX7_write) (nL := 4) (ret := none) cw_X7_write (by decide) rfl (Nat.le_of_ble_eq_true rfl) ?_
  refine at_aload_n dX7_write_0 rfl ?_
  refine at_iload_n dX7_write_1 rfl ?_
  refine at_callV1 (d := D - 1) dX7_write_2 mv_X7_75 (zl_q hb) (Nat.le_of_ble_eq_true rfl) (zq_r0 (by omega) (by omega) (by omega)) ?_
  refine zc_has hb hQ.1 hm7 ?_
  rw [zix_n (by omega), decide_eq_true hpm]
  refine at_if_eqB (tgt := 25) dX7_write_5 (by decide) (fun c5 => ?_) (fun c5 => ?_)
  · cases c5
  · refine at_aload_n dX7_write_8 rfl ?_
    refine at_get dX7_write_9 fl_X7_15 (zl_q hb) rfl ?_
    refine at_iload_n dX7_write_12 rfl ?_
    refine at_aload_n dX7_write_13 rfl ?_
    refine at_get dX7_write_14 fl_X7_15 (zl_q hb) rfl ?_
    refine at_iload_n dX7_write_17 rfl ?_
    refine at_uld (b := b) (c := 1) dX7_write_18 hb (by decide) (by decide) rfl (by show _ < 7; omega) ?_
    rw [g1]
    refine at_iload_n dX7_write_19 rfl ?_
    refine at_iload_n dX7_write_20 rfl ?_
    refine at_callS3 (d := D - 1) dX7_write_21 ms_X7_86 (Nat.le_of_ble_eq_true rfl) (zq_r0 (by omega) (by omega) (by omega)) ?_
    refine zc_withLetter (by omega) h1 (by omega) hk ?_
    refine at_ust (b := b) (c := 1) dX7_write_24 hb (by decide) (by decide) rfl (by show _ < 7; omega) ?_
    refine at_vret dX7_write_25 rfl (by omega) (by omega) ?_
    exact hp
/-- the row and the places with those at k and k + 1 exchanged -/
def zuX (κ : zl_S) (b k p q : Nat) : zl_S := zl_sa (zl_sa (zl_sa (zl_sa κ (b + 2) k (nI q)) (b + 2) (k + 1) (nI p)) (b + 3) q (nI k)) (b + 3) p (nI (k + 1))
theorem zc_exchange {k : Nat} (hD : 1 ≤ D) (hb : zQb b) (hQ : zQN κ b m x w) (hk : k + 1 < m) (hp : post none n (zl_h (zuX κ b k (w k) (w (k + 1))) ρ)) : zq_Runs l G D 0 0 yX7_exchange [.ref b, .int (nI k)] n (zl_h κ ρ) post := by
  have hm7 := hQ.2.1
  obtain ⟨g1, g2⟩ := hQ.2.2.2 k (by omega)
  obtain ⟨g3, g4⟩ := hQ.2.2.2 (k + 1) hk
  refine zq_enter (cc := cX7_exchange) (nL := 4) (ret := none) cw_X7_exchange (by decide) rfl (Nat.le_of_ble_eq_true rfl) ?_
  refine at_aload_n dX7_exchange_0 rfl ?_
  refine at_iload_n dX7_exchange_1 rfl ?_
  refine at_callV1 (d := D - 1) dX7_exchange_2 mv_X7_75 (zl_q hb) (Nat.le_of_ble_eq_true rfl) (zq_r0 (by omega) (by omega) (by omega)) ?_
  refine zc_has hb hQ.1 hm7 ?_
  rw [zix_n (by omega), decide_eq_true (by omega)]
  refine at_if_eqB (tgt := 18) dX7_exchange_5 (by decide) (fun c5 => ?_) (fun c5 => ?_)
  · cases c5
  · refine at_aload_n dX7_exchange_8 rfl ?_
    refine at_iload_n dX7_exchange_9 rfl ?_
    refine at_iconst dX7_exchange_10 (v := nI 1) (by decide) ?_
    refine at_iaddN dX7_exchange_11 ?_
    refine at_callV1 (d := D - 1) dX7_exchange_12 mv_X7_75 (zl_q hb) (Nat.le_of_ble_eq_true rfl) (zq_r0 (by omega) (by omega) (by omega)) ?_
    refine zc_has hb hQ.1 hm7 ?_
    rw [zix_n (by omega), decide_eq_true hk]
    refine at_if_neB (tgt := 19) dX7_exchange_15 (by decide) (fun c15 => ?_) (fun c15 => ?_)
    · refine at_aload_n dX7_exchange_19 rfl ?_
      refine at_get dX7_exchange_20 fl_X7_19 (zl_q hb) rfl ?_
      refine at_iload_n dX7_exchange_23 rfl ?_
      refine at_uld (b := b) (c := 2) dX7_exchange_24 hb (by decide) (by decide) rfl (by show _ < 7; omega) ?_
      rw [g1]
      refine at_istore_n dX7_exchange_25 rfl (by decide) ?_
      refine at_aload_n dX7_exchange_26 rfl ?_
      refine at_get dX7_exchange_27 fl_X7_19 (zl_q hb) rfl ?_
      refine at_iload_n dX7_exchange_30 rfl ?_
      refine at_iconst dX7_exchange_31 (v := nI 1) (by decide) ?_
      refine at_iaddN dX7_exchange_32 ?_
      refine at_uld (b := b) (c := 2) dX7_exchange_33 hb (by decide) (by decide) rfl (by show _ < 7; omega) ?_
      rw [g3]
      refine at_istore_n dX7_exchange_34 rfl (by decide) ?_
      refine at_aload_n dX7_exchange_35 rfl ?_
      refine at_iload_n dX7_exchange_36 rfl ?_
      refine at_callV1 (d := D - 1) dX7_exchange_37 mv_X7_75 (zl_q hb) (Nat.le_of_ble_eq_true rfl) (zq_r0 (by omega) (by omega) (by omega)) ?_
      refine zc_has hb hQ.1 hm7 ?_
      rw [zix_n (by omega), decide_eq_true g2]
      refine at_if_eqB (tgt := 83) dX7_exchange_40 (by decide) (fun c40 => ?_) (fun c40 => ?_)
      · cases c40
      · refine at_aload_n dX7_exchange_43 rfl ?_
        refine at_iload_n dX7_exchange_44 rfl ?_
        refine at_callV1 (d := D - 1) dX7_exchange_45 mv_X7_75 (zl_q hb) (Nat.le_of_ble_eq_true rfl) (zq_r0 (by omega) (by omega) (by omega)) ?_
        refine zc_has hb hQ.1 hm7 ?_
        rw [zix_n (by omega), decide_eq_true g4]
        refine at_if_eqB (tgt := 83) dX7_exchange_48 (by decide) (fun c48 => ?_) (fun c48 => ?_)
        · cases c48
        · refine at_aload_n dX7_exchange_51 rfl ?_
          refine at_get dX7_exchange_52 fl_X7_19 (zl_q hb) rfl ?_
          refine at_iload_n dX7_exchange_55 rfl ?_
          refine at_iload_n dX7_exchange_56 rfl ?_
          refine at_ust (b := b) (c := 2) dX7_exchange_57 hb (by decide) (by decide) rfl (by show _ < 7; omega) ?_
          refine at_aload_n dX7_exchange_58 rfl ?_
          refine at_get dX7_exchange_59 fl_X7_19 (zl_q hb) rfl ?_
          refine at_iload_n dX7_exchange_62 rfl ?_
          refine at_iconst dX7_exchange_63 (v := nI 1) (by decide) ?_
          refine at_iaddN dX7_exchange_64 ?_
          refine at_iload_n dX7_exchange_65 rfl ?_
          refine at_ust (b := b) (c := 2) dX7_exchange_66 hb (by decide) (by decide) rfl (by show _ < 7; omega) ?_
          refine at_aload_n dX7_exchange_67 rfl ?_
          refine at_get dX7_exchange_68 fl_X7_22 (zl_q hb) rfl ?_
          refine at_iload_n dX7_exchange_71 rfl ?_
          refine at_iload_n dX7_exchange_72 rfl ?_
          refine at_ust (b := b) (c := 3) dX7_exchange_73 hb (by decide) (by decide) rfl (by show _ < 7; omega) ?_
          refine at_aload_n dX7_exchange_74 rfl ?_
          refine at_get dX7_exchange_75 fl_X7_22 (zl_q hb) rfl ?_
          refine at_iload_n dX7_exchange_78 rfl ?_
          refine at_iload_n dX7_exchange_79 rfl ?_
          refine at_iconst dX7_exchange_80 (v := nI 1) (by decide) ?_
          refine at_iaddN dX7_exchange_81 ?_
          refine at_ust (b := b) (c := 3) dX7_exchange_82 hb (by decide) (by decide) rfl (by show _ < 7; omega) ?_
          refine at_vret dX7_exchange_83 rfl (by omega) (by omega) ?_
          exact hp
    · cases c15
/-- letters and their places with those at k and k + 1 exchanged -/
def zuT (κ : zl_S) (b k p q : Nat) : zl_S := zl_sa (zl_sa (zl_sa (zl_sa κ (b + 5) k (nI q)) (b + 5) (k + 1) (nI p)) (b + 6) q (nI k)) (b + 6) p (nI (k + 1))
theorem zc_turn {k : Nat} (hD : 1 ≤ D) (hb : zQb b) (hal : ∀ k, k < 5 → κ.2.1 (b + 5) k = nI (al k) ∧ 1 ≤ al k ∧ al k ≤ 5) (hk : k ≤ 3) (hp : post none n (zl_h (zuT κ b k (al k) (al (k + 1))) ρ)) : zq_Runs l G D 0 0 yX7_turn [.ref b, .int (nI k)] n (zl_h κ ρ) post := by
  obtain ⟨g1, g2, g2'⟩ := hal k (by omega)
  obtain ⟨g3, g4, g4'⟩ := hal (k + 1) (by omega)
  refine zq_enter (cc := cX7_turn) (nL := 4) (ret := none) cw_X7_turn (by decide) rfl (Nat.le_of_ble_eq_true rfl) ?_
  refine at_iload_n dX7_turn_0 rfl ?_
  refine at_if_ltN (tgt := 9) dX7_turn_1 (by decide) (by omega) (fun c1 => ?_) (fun c1 => ?_)
  · exact c1.elim
  · refine at_iload_n dX7_turn_4 rfl ?_
    refine at_iconst dX7_turn_5 (v := nI 3) (by decide) ?_
    refine at_leN (tgt := 10) dX7_turn_6 (by decide) (by omega) (by omega) (fun c6 => ?_) (fun c6 => ?_)
    · refine at_aload_n dX7_turn_10 rfl ?_
      refine at_get dX7_turn_11 fl_X7_28 (zl_q hb) rfl ?_
      refine at_iload_n dX7_turn_14 rfl ?_
      refine at_uld (b := b) (c := 5) dX7_turn_15 hb (by decide) (by decide) rfl (by show _ < 5; omega) ?_
      rw [g1]
      refine at_istore_n dX7_turn_16 rfl (by decide) ?_
      refine at_aload_n dX7_turn_17 rfl ?_
      refine at_get dX7_turn_18 fl_X7_28 (zl_q hb) rfl ?_
      refine at_iload_n dX7_turn_21 rfl ?_
      refine at_iconst dX7_turn_22 (v := nI 1) (by decide) ?_
      refine at_iaddN dX7_turn_23 ?_
      refine at_uld (b := b) (c := 5) dX7_turn_24 hb (by decide) (by decide) rfl (by show _ < 5; omega) ?_
      rw [g3]
      refine at_istore_n dX7_turn_25 rfl (by decide) ?_
      refine at_iload_n dX7_turn_26 rfl ?_
      refine at_callS1 (d := D - 1) dX7_turn_27 ms_X7_79 (Nat.le_of_ble_eq_true rfl) (zq_r0 (by omega) (by omega) (by omega)) ?_
      refine zc_isLetter ?_
      rw [zlies_i (by decide) (by decide) g2 g2']
      refine at_if_eqB (tgt := 72) dX7_turn_30 (by decide) (fun c30 => ?_) (fun c30 => ?_)
      · cases c30
      · refine at_iload_n dX7_turn_33 rfl ?_
        refine at_callS1 (d := D - 1) dX7_turn_34 ms_X7_79 (Nat.le_of_ble_eq_true rfl) (zq_r0 (by omega) (by omega) (by omega)) ?_
        refine zc_isLetter ?_
        rw [zlies_i (by decide) (by decide) g4 g4']
        refine at_if_eqB (tgt := 72) dX7_turn_37 (by decide) (fun c37 => ?_) (fun c37 => ?_)
        · cases c37
        · refine at_aload_n dX7_turn_40 rfl ?_
          refine at_get dX7_turn_41 fl_X7_28 (zl_q hb) rfl ?_
          refine at_iload_n dX7_turn_44 rfl ?_
          refine at_iload_n dX7_turn_45 rfl ?_
          refine at_ust (b := b) (c := 5) dX7_turn_46 hb (by decide) (by decide) rfl (by show _ < 5; omega) ?_
          refine at_aload_n dX7_turn_47 rfl ?_
          refine at_get dX7_turn_48 fl_X7_28 (zl_q hb) rfl ?_
          refine at_iload_n dX7_turn_51 rfl ?_
          refine at_iconst dX7_turn_52 (v := nI 1) (by decide) ?_
          refine at_iaddN dX7_turn_53 ?_
          refine at_iload_n dX7_turn_54 rfl ?_
          refine at_ust (b := b) (c := 5) dX7_turn_55 hb (by decide) (by decide) rfl (by show _ < 5; omega) ?_
          refine at_aload_n dX7_turn_56 rfl ?_
          refine at_get dX7_turn_57 fl_X7_31 (zl_q hb) rfl ?_
          refine at_iload_n dX7_turn_60 rfl ?_
          refine at_iload_n dX7_turn_61 rfl ?_
          refine at_ust (b := b) (c := 6) dX7_turn_62 hb (by decide) (by decide) rfl (by show _ < 6; omega) ?_
          refine at_aload_n dX7_turn_63 rfl ?_
          refine at_get dX7_turn_64 fl_X7_31 (zl_q hb) rfl ?_
          refine at_iload_n dX7_turn_67 rfl ?_
          refine at_iload_n dX7_turn_68 rfl ?_
          refine at_iconst dX7_turn_69 (v := nI 1) (by decide) ?_
          refine at_iaddN dX7_turn_70 ?_
          refine at_ust (b := b) (c := 6) dX7_turn_71 hb (by decide) (by decide) rfl (by show _ < 6; omega) ?_
          refine at_vret dX7_turn_72 rfl (by omega) (by omega) ?_
          exact hp
    · omega
theorem zc_alphabetNumber (hb : zQb b) (hal : ∀ k, k < 5 → κ.2.1 (b + 5) k = nI (al k)) (hp : post (some (.int (nI (zaln al 5)))) n (zl_h κ ρ)) : zq_Runs l G D 0 0 yX7_alphabetNumber [.ref b] n (zl_h κ ρ) post := by
  have loop : ∀ f k, k + f = 5 → zq_At l G (zq_rm D 0 0) mX7_alphabetNumber (zq_QF G post 0 0) 4 [(0, .ref b), (1, .int (nI (zaln al k))), (2, .int (nI k))] [] n (zl_h κ ρ) 0 0 := by
    intro f
    induction f with
    | zero =>
      intro k hk
      obtain rfl : k = 5 := hk
      refine at_iload_n dX7_alphabetNumber_4 rfl ?_
      refine at_iconst dX7_alphabetNumber_5 (v := nI 5) (by decide) ?_
      refine at_geN (tgt := 27) dX7_alphabetNumber_6 (by decide) (by omega) (by omega) (fun c6 => ?_) (fun c6 => ?_)
      · refine at_iload_n dX7_alphabetNumber_27 rfl ?_
        refine at_iret dX7_alphabetNumber_28 rfl (by omega) (by omega) ?_
        exact hp
      · omega
    | succ f ih =>
      intro k hk
      have hn := ih (k + 1) (by omega)
      unfold zaln at hn
      rw [Nat.mul_comm] at hn
      refine at_iload_n dX7_alphabetNumber_4 rfl ?_
      refine at_iconst dX7_alphabetNumber_5 (v := nI 5) (by decide) ?_
      refine at_geN (tgt := 27) dX7_alphabetNumber_6 (by decide) (by omega) (by omega) (fun c6 => ?_) (fun c6 => ?_)
      · omega
      · refine at_iload_n dX7_alphabetNumber_9 rfl ?_
        refine at_bipush dX7_alphabetNumber_10 (v := nI 10) (by decide) ?_
        refine at_imulN dX7_alphabetNumber_12 ?_
        refine at_aload_n dX7_alphabetNumber_13 rfl ?_
        refine at_get dX7_alphabetNumber_14 fl_X7_28 (zl_q hb) rfl ?_
        refine at_iload_n dX7_alphabetNumber_17 rfl ?_
        refine at_uld (b := b) (c := 5) dX7_alphabetNumber_18 hb (by decide) (by decide) rfl (by show _ < 5; omega) ?_
        rw [hal k (by omega)]
        refine at_iaddN dX7_alphabetNumber_19 ?_
        refine at_istore_n dX7_alphabetNumber_20 rfl (by decide) ?_
        refine at_iincN dX7_alphabetNumber_21 rfl (by decide) ?_
        refine at_goto (tgt := 4) dX7_alphabetNumber_24 (by decide) ?_
        exact hn
  refine zq_enter (cc := cX7_alphabetNumber) (nL := 3) (ret := (some .int)) cw_X7_alphabetNumber (by decide) rfl (Nat.le_of_ble_eq_true rfl) ?_
  refine at_iconst dX7_alphabetNumber_0 (v := nI 0) (by decide) ?_
  refine at_istore_n dX7_alphabetNumber_1 rfl (by decide) ?_
  refine at_iconst dX7_alphabetNumber_2 (v := nI 0) (by decide) ?_
  refine at_istore_n dX7_alphabetNumber_3 rfl (by decide) ?_
  exact loop 5 0 rfl
theorem zc_hear {h : Nat} {p q : Int32} (hb : zQb b) (hh : κ.1 b 8 = nI h) (h8 : h < 8) (hp : post (some (.int (nI (h + 1)))) n (zl_h (zl_si (zl_sa (zl_sa κ (b + 8) h p) (b + 9) h q) b 8 (nI (h + 1))) ρ)) : zq_Runs l G D 0 0 yX7_hear [.ref b, .int p, .int q] n (zl_h κ ρ) post := by
  refine zq_enter (cc := cX7_hear) (nL := 3) (ret := (some .int)) cw_X7_hear (by decide) rfl (Nat.le_of_ble_eq_true rfl) ?_
  refine at_aload_n dX7_hear_0 rfl ?_
  refine at_get dX7_hear_1 fl_X7_37 (zl_q hb) rfl ?_
  rw [hh]
  refine at_if_ltN (tgt := 46) dX7_hear_4 (by decide) (by omega) (fun c4 => ?_) (fun c4 => ?_)
  · exact c4.elim
  · refine at_aload_n dX7_hear_7 rfl ?_
    refine at_get dX7_hear_8 fl_X7_37 (zl_q hb) rfl ?_
    rw [hh]
    refine at_bipush dX7_hear_11 (v := nI 8) (by decide) ?_
    refine at_geN (tgt := 46) dX7_hear_13 (by decide) (by omega) (by omega) (fun c13 => ?_) (fun c13 => ?_)
    · omega
    · refine at_aload_n dX7_hear_16 rfl ?_
      refine at_get dX7_hear_17 fl_X7_40 (zl_q hb) rfl ?_
      refine at_aload_n dX7_hear_20 rfl ?_
      refine at_get dX7_hear_21 fl_X7_37 (zl_q hb) rfl ?_
      refine at_iload_n dX7_hear_24 rfl ?_
      refine at_ust (b := b) (c := 8) dX7_hear_25 hb (by decide) (by decide) hh (by show _ < 8; omega) ?_
      refine at_aload_n dX7_hear_26 rfl ?_
      refine at_get dX7_hear_27 fl_X7_43 (zl_q hb) rfl ?_
      refine at_aload_n dX7_hear_30 rfl ?_
      refine at_get dX7_hear_31 fl_X7_37 (zl_q hb) rfl ?_
      refine at_iload_n dX7_hear_34 rfl ?_
      refine at_ust (b := b) (c := 9) dX7_hear_35 hb (by decide) (by decide) hh (by show _ < 8; omega) ?_
      refine at_aload_n dX7_hear_36 rfl ?_
      refine at_dup dX7_hear_37 rfl ?_
      refine at_get dX7_hear_38 fl_X7_37 (zl_q hb) rfl ?_
      rw [show (zl_sa (zl_sa κ (b + 8) h p) (b + 9) h q).1 b 8 = nI h from hh]
      refine at_iconst dX7_hear_41 (v := nI 1) (by decide) ?_
      refine at_iaddN dX7_hear_42 ?_
      refine at_lput dX7_hear_43 (pl_X7_37 _) (zl_Iq hb (by decide)) rfl rfl ?_
      refine at_aload_n dX7_hear_46 rfl ?_
      refine at_get dX7_hear_47 fl_X7_37 (zl_q hb) rfl ?_
      rw [zsi2_s]
      refine at_iret dX7_hear_50 rfl (by omega) (by omega) ?_
      exact hp
theorem zc_hasLaw {v : Int32} (hb : zQb b) (ht : κ.1 b 11 = nI t) (ht6 : t ≤ 6) (hp : post (some (.int (zb (zix t v)))) n (zl_h κ ρ)) : zq_Runs l G D 0 0 yX7_hasLaw [.ref b, .int v] n (zl_h κ ρ) post := by
  refine zq_enter (cc := cX7_hasLaw) (nL := 2) (ret := (some .boolean)) cw_X7_hasLaw (by decide) rfl (Nat.le_of_ble_eq_true rfl) ?_
  refine at_iload_n dX7_hasLaw_0 rfl ?_
  refine at_if_lt (tgt := 22) dX7_hasLaw_1 (by decide) (fun c1 => ?_) (fun c1 => ?_)
  · rw [zix_lt0 c1] at hp
    refine at_iconst dX7_hasLaw_22 (v := nI 0) (by decide) ?_
    refine at_zret dX7_hasLaw_23 rfl (by omega) (by omega) (by first | exact Or.inl rfl | exact Or.inr rfl | assumption) ?_
    exact hp
  · refine at_iload_n dX7_hasLaw_4 rfl ?_
    refine at_aload_n dX7_hasLaw_5 rfl ?_
    refine at_get dX7_hasLaw_6 fl_X7_46 (zl_q hb) rfl ?_
    rw [ht]
    refine at_icmp_ge (tgt := 22) dX7_hasLaw_9 (by decide) (fun c9 => ?_) (fun c9 => ?_)
    · rw [zix_ge (by omega) c9] at hp
      refine at_iconst dX7_hasLaw_22 (v := nI 0) (by decide) ?_
      refine at_zret dX7_hasLaw_23 rfl (by omega) (by omega) (by first | exact Or.inl rfl | exact Or.inr rfl | assumption) ?_
      exact hp
    · rw [zix_and (by omega) c1 c9] at hp
      refine at_iload_n dX7_hasLaw_12 rfl ?_
      refine at_bipush dX7_hasLaw_13 (v := nI 6) (by decide) ?_
      refine at_icmp_ge (tgt := 22) dX7_hasLaw_15 (by decide) (fun c15 => ?_) (fun c15 => ?_)
      · exact absurd (Int32.le_trans ((nI_leI (by omega) (by decide)).mpr ht6) c15) c9
      · refine at_iconst dX7_hasLaw_18 (v := nI 1) (by decide) ?_
        refine at_goto (tgt := 23) dX7_hasLaw_19 (by decide) ?_
        refine at_zret dX7_hasLaw_23 rfl (by omega) (by omega) (by first | exact Or.inl rfl | exact Or.inr rfl | assumption) ?_
        exact hp
theorem zc_lawOf {v : Int32} (hD : 1 ≤ D) (hb : zQb b) (ht : κ.1 b 11 = nI t) (ht6 : t ≤ 6) (hp : post (some (va_rf (if zix t v = true then κ.2.2 (b + 10) v.toNatClampNeg else none))) n (zl_h κ ρ)) : zq_Runs l G D 0 0 yX7_lawOf [.ref b, .int v] n (zl_h κ ρ) post := by
  refine zq_enter (cc := cX7_lawOf) (nL := 2) (ret := (some (.object "LetterQuay$Text"))) cw_X7_lawOf (by decide) rfl (Nat.le_of_ble_eq_true rfl) ?_
  refine at_aload_n dX7_lawOf_0 rfl ?_
  refine at_iload_n dX7_lawOf_1 rfl ?_
  refine at_callV1 (d := D - 1) dX7_lawOf_2 mv_X7_92 (zl_q hb) (Nat.le_of_ble_eq_true rfl) (zq_r0 (by omega) (by omega) (by omega)) ?_
  refine zc_hasLaw hb ht ht6 ?_
  refine at_if_eqB (tgt := 17) dX7_lawOf_5 (by decide) (fun c5 => ?_) (fun c5 => ?_)
  · rw [if_neg (by rw [c5]; decide)] at hp
    refine at_null dX7_lawOf_17 ?_
    refine at_aret (r := none) dX7_lawOf_18 rfl (Or.inl ⟨_, rfl⟩) (by omega) (by omega) ?_
    exact hp
  · rw [if_pos c5] at hp
    obtain ⟨j, hj, rfl⟩ := zix_t c5
    rw [nI_clamp (by omega)] at hp
    refine at_aload_n dX7_lawOf_8 rfl ?_
    refine at_get dX7_lawOf_9 fl_X7_51 (zl_q hb) rfl ?_
    refine at_iload_n dX7_lawOf_12 rfl ?_
    refine at_aaldN dX7_lawOf_13 (zl_qt hb) (by decide) (fun _ => rfl) (by decide) rfl (by omega) ?_
    refine at_goto (tgt := 18) dX7_lawOf_14 (by decide) ?_
    refine at_aret dX7_lawOf_18 rfl (Or.inl ⟨_, rfl⟩) (by omega) (by omega) ?_
    exact hp
theorem zc_inForce (hD : 2 ≤ D) (hb : zQb b) (ht : κ.1 b 11 = nI t) (ht6 : t ≤ 6) (hp : post (some (va_rf (if zix t (κ.1 b 13) = true then κ.2.2 (b + 10) (κ.1 b 13).toNatClampNeg else none))) n (zl_h κ ρ)) : zq_Runs l G D 0 0 yX7_inForce [.ref b] n (zl_h κ ρ) post := by
  refine zq_enter (cc := cX7_inForce) (nL := 1) (ret := (some (.object "LetterQuay$Text"))) cw_X7_inForce (by decide) rfl (Nat.le_of_ble_eq_true rfl) ?_
  refine at_aload_n dX7_inForce_0 rfl ?_
  refine at_aload_n dX7_inForce_1 rfl ?_
  refine at_get dX7_inForce_2 fl_X7_55 (zl_q hb) rfl ?_
  refine at_callV1 (d := D - 1) dX7_inForce_5 mv_X7_95 (zl_q hb) (Nat.le_of_ble_eq_true rfl) (zq_r0 (by omega) (by omega) (by omega)) ?_
  refine zc_lawOf (by omega) hb ht ht6 ?_
  refine at_aret dX7_inForce_8 rfl (Or.inl ⟨_, rfl⟩) (by omega) (by omega) ?_
  exact hp
end ZC2

