/-! ===== the Model's people ===== -/
/-- a number that stands for one of m -/
def zix (m : Nat) (x : Int32) : Bool := decide (0 ≤ x.toInt) && decide (x.toInt < m)
theorem zix_t {m : Nat} {x : Int32} (h : zix m x = true) : ∃ j, j < m ∧ x = nI j := by
  unfold zix at h
  rw [Bool.and_eq_true, decide_eq_true_eq, decide_eq_true_eq] at h
  obtain ⟨j, hj, rfl⟩ := nI_of (x := x) (by rw [Int32.not_lt, Int32.le_iff_toInt_le]; exact h.1)
  refine ⟨j, ?_, rfl⟩
  have := h.2
  rw [nI_toInt hj] at this
  omega
theorem zix_n {m j : Nat} (hj : j < 2147483648) : zix m (nI j) = decide (j < m) := by
  unfold zix
  rw [nI_toInt hj]
  simp
theorem zix_lies {m : Nat} {p : Int32} (hm : m < 1073741824) : (decide (nI 0 ≤ p) && decide (p ≤ nI m - nI 1)) = zix m p := by
  have h1 : (nI m - nI 1).toInt = (m : Int) - 1 := pk_sub_toInt hm (by decide)
  have h0 : (nI 0).toInt = 0 := rfl
  unfold zix
  rw [Bool.eq_iff_iff]
  simp only [Bool.and_eq_true, decide_eq_true_eq, Int32.le_iff_toInt_le, h1, h0]
  omega
theorem zm_sa72 (σ : zm_S) (i : Nat) (v : Int32) : (zm_sa σ 72 i v).2.1 72 = upd (σ.2.1 72) i v := by simp [zm_sa, va_up]
theorem zm_sa_o (σ : zm_S) {a b : Nat} (h : b ≠ a) (i : Nat) (v : Int32) : (zm_sa σ a i v).2.1 b = σ.2.1 b := by simp [zm_sa, va_up, h]
theorem zm_sa_s (σ : zm_S) (a i : Nat) (v : Int32) : (zm_sa σ a i v).2.1 a = upd (σ.2.1 a) i v := by simp [zm_sa, va_up]
theorem upd_s (g : Nat → Int32) (i : Nat) (v : Int32) : upd g i v i = v := by simp [upd]
theorem upd_o (g : Nat → Int32) {i j : Nat} (h : j ≠ i) (v : Int32) : upd g i v j = g j := by simp [upd, h]
/-- zmd a g c k: the first k places of g, from c on, are laid into a (place by place) -/
theorem dX12_many_0 : decode cX12_many 0 = .ok (.aload_n 0, 1) := by decide +kernel
theorem dX12_many_1 : decode cX12_many 1 = .ok (.getfield 42, 3) := by decide +kernel
theorem dX12_many_4 : decode cX12_many 4 = .ok (.bipush 73, 2) := by decide +kernel
theorem dX12_many_6 : decode cX12_many 6 = .ok (.iaload, 1) := by decide +kernel
theorem dX12_many_7 : decode cX12_many 7 = .ok (.ireturn, 1) := by decide +kernel
abbrev mX12_many : zq_M := (cX12_many, RX12, "many", (some .int), 1)
theorem dX12_isPerson_0 : decode cX12_isPerson 0 = .ok (.iload_n 1, 1) := by decide +kernel
theorem dX12_isPerson_1 : decode cX12_isPerson 1 = .ok (.iconst 0, 1) := by decide +kernel
theorem dX12_isPerson_2 : decode cX12_isPerson 2 = .ok (.aload_n 0, 1) := by decide +kernel
theorem dX12_isPerson_3 : decode cX12_isPerson 3 = .ok (.invokevirtual 141, 3) := by decide +kernel
theorem dX12_isPerson_6 : decode cX12_isPerson 6 = .ok (.iconst 1, 1) := by decide +kernel
theorem dX12_isPerson_7 : decode cX12_isPerson 7 = .ok (.isub, 1) := by decide +kernel
theorem dX12_isPerson_8 : decode cX12_isPerson 8 = .ok (.invokestatic 18, 3) := by decide +kernel
theorem dX12_isPerson_11 : decode cX12_isPerson 11 = .ok (.ireturn, 1) := by decide +kernel
abbrev mX12_isPerson : zq_M := (cX12_isPerson, RX12, "isPerson", (some .boolean), 2)
theorem dX12_nameAt_0 : decode cX12_nameAt 0 = .ok (.aload_n 0, 1) := by decide +kernel
theorem dX12_nameAt_1 : decode cX12_nameAt 1 = .ok (.getfield 42, 3) := by decide +kernel
theorem dX12_nameAt_4 : decode cX12_nameAt 4 = .ok (.iconst 0, 1) := by decide +kernel
theorem dX12_nameAt_5 : decode cX12_nameAt 5 = .ok (.aload_n 0, 1) := by decide +kernel
theorem dX12_nameAt_6 : decode cX12_nameAt 6 = .ok (.getfield 42, 3) := by decide +kernel
theorem dX12_nameAt_9 : decode cX12_nameAt 9 = .ok (.bipush 7, 2) := by decide +kernel
theorem dX12_nameAt_11 : decode cX12_nameAt 11 = .ok (.iload_n 1, 1) := by decide +kernel
theorem dX12_nameAt_12 : decode cX12_nameAt 12 = .ok (.iadd, 1) := by decide +kernel
theorem dX12_nameAt_13 : decode cX12_nameAt 13 = .ok (.iaload, 1) := by decide +kernel
theorem dX12_nameAt_14 : decode cX12_nameAt 14 = .ok (.iadd, 1) := by decide +kernel
theorem dX12_nameAt_15 : decode cX12_nameAt 15 = .ok (.iaload, 1) := by decide +kernel
theorem dX12_nameAt_16 : decode cX12_nameAt 16 = .ok (.ireturn, 1) := by decide +kernel
abbrev mX12_nameAt : zq_M := (cX12_nameAt, RX12, "nameAt", (some .int), 2)
theorem dX12_placeOf_0 : decode cX12_placeOf 0 = .ok (.iconst (-1), 1) := by decide +kernel
theorem dX12_placeOf_1 : decode cX12_placeOf 1 = .ok (.istore_n 2, 1) := by decide +kernel
theorem dX12_placeOf_2 : decode cX12_placeOf 2 = .ok (.iconst 0, 1) := by decide +kernel
theorem dX12_placeOf_3 : decode cX12_placeOf 3 = .ok (.istore_n 3, 1) := by decide +kernel
theorem dX12_placeOf_4 : decode cX12_placeOf 4 = .ok (.iload_n 3, 1) := by decide +kernel
theorem dX12_placeOf_5 : decode cX12_placeOf 5 = .ok (.aload_n 0, 1) := by decide +kernel
theorem dX12_placeOf_6 : decode cX12_placeOf 6 = .ok (.invokevirtual 141, 3) := by decide +kernel
theorem dX12_placeOf_9 : decode cX12_placeOf 9 = .ok (.if_icmp .ge 28, 3) := by decide +kernel
theorem dX12_placeOf_12 : decode cX12_placeOf 12 = .ok (.aload_n 0, 1) := by decide +kernel
theorem dX12_placeOf_13 : decode cX12_placeOf 13 = .ok (.getfield 42, 3) := by decide +kernel
theorem dX12_placeOf_16 : decode cX12_placeOf 16 = .ok (.bipush 7, 2) := by decide +kernel
theorem dX12_placeOf_18 : decode cX12_placeOf 18 = .ok (.iload_n 3, 1) := by decide +kernel
theorem dX12_placeOf_19 : decode cX12_placeOf 19 = .ok (.iadd, 1) := by decide +kernel
theorem dX12_placeOf_20 : decode cX12_placeOf 20 = .ok (.iaload, 1) := by decide +kernel
theorem dX12_placeOf_21 : decode cX12_placeOf 21 = .ok (.iload_n 1, 1) := by decide +kernel
theorem dX12_placeOf_22 : decode cX12_placeOf 22 = .ok (.if_icmp .ne 7, 3) := by decide +kernel
theorem dX12_placeOf_25 : decode cX12_placeOf 25 = .ok (.iload_n 3, 1) := by decide +kernel
theorem dX12_placeOf_26 : decode cX12_placeOf 26 = .ok (.goto 4, 3) := by decide +kernel
theorem dX12_placeOf_29 : decode cX12_placeOf 29 = .ok (.iload_n 2, 1) := by decide +kernel
theorem dX12_placeOf_30 : decode cX12_placeOf 30 = .ok (.istore_n 2, 1) := by decide +kernel
theorem dX12_placeOf_31 : decode cX12_placeOf 31 = .ok (.iinc 3 1, 3) := by decide +kernel
theorem dX12_placeOf_34 : decode cX12_placeOf 34 = .ok (.goto (-30), 3) := by decide +kernel
theorem dX12_placeOf_37 : decode cX12_placeOf 37 = .ok (.iload_n 2, 1) := by decide +kernel
theorem dX12_placeOf_38 : decode cX12_placeOf 38 = .ok (.ireturn, 1) := by decide +kernel
abbrev mX12_placeOf : zq_M := (cX12_placeOf, RX12, "placeOf", (some .int), 4)
theorem dX12_adds_0 : decode cX12_adds 0 = .ok (.aload_n 0, 1) := by decide +kernel
theorem dX12_adds_1 : decode cX12_adds 1 = .ok (.invokevirtual 141, 3) := by decide +kernel
theorem dX12_adds_4 : decode cX12_adds 4 = .ok (.istore_n 2, 1) := by decide +kernel
theorem dX12_adds_5 : decode cX12_adds 5 = .ok (.aload_n 0, 1) := by decide +kernel
theorem dX12_adds_6 : decode cX12_adds 6 = .ok (.getfield 42, 3) := by decide +kernel
theorem dX12_adds_9 : decode cX12_adds 9 = .ok (.iconst 0, 1) := by decide +kernel
theorem dX12_adds_10 : decode cX12_adds 10 = .ok (.iload_n 2, 1) := by decide +kernel
theorem dX12_adds_11 : decode cX12_adds 11 = .ok (.iadd, 1) := by decide +kernel
theorem dX12_adds_12 : decode cX12_adds 12 = .ok (.iload_n 1, 1) := by decide +kernel
theorem dX12_adds_13 : decode cX12_adds 13 = .ok (.iastore, 1) := by decide +kernel
theorem dX12_adds_14 : decode cX12_adds 14 = .ok (.aload_n 0, 1) := by decide +kernel
theorem dX12_adds_15 : decode cX12_adds 15 = .ok (.getfield 42, 3) := by decide +kernel
theorem dX12_adds_18 : decode cX12_adds 18 = .ok (.bipush 7, 2) := by decide +kernel
theorem dX12_adds_20 : decode cX12_adds 20 = .ok (.iload_n 2, 1) := by decide +kernel
theorem dX12_adds_21 : decode cX12_adds 21 = .ok (.iadd, 1) := by decide +kernel
theorem dX12_adds_22 : decode cX12_adds 22 = .ok (.iload_n 2, 1) := by decide +kernel
theorem dX12_adds_23 : decode cX12_adds 23 = .ok (.iastore, 1) := by decide +kernel
theorem dX12_adds_24 : decode cX12_adds 24 = .ok (.iconst 0, 1) := by decide +kernel
theorem dX12_adds_25 : decode cX12_adds 25 = .ok (.istore_n 3, 1) := by decide +kernel
theorem dX12_adds_26 : decode cX12_adds 26 = .ok (.iload_n 3, 1) := by decide +kernel
theorem dX12_adds_27 : decode cX12_adds 27 = .ok (.iconst 5, 1) := by decide +kernel
theorem dX12_adds_28 : decode cX12_adds 28 = .ok (.if_icmp .ge 25, 3) := by decide +kernel
theorem dX12_adds_31 : decode cX12_adds 31 = .ok (.aload_n 0, 1) := by decide +kernel
theorem dX12_adds_32 : decode cX12_adds 32 = .ok (.getfield 42, 3) := by decide +kernel
theorem dX12_adds_35 : decode cX12_adds 35 = .ok (.bipush 20, 2) := by decide +kernel
theorem dX12_adds_37 : decode cX12_adds 37 = .ok (.iconst 5, 1) := by decide +kernel
theorem dX12_adds_38 : decode cX12_adds 38 = .ok (.iload_n 2, 1) := by decide +kernel
theorem dX12_adds_39 : decode cX12_adds 39 = .ok (.imul, 1) := by decide +kernel
theorem dX12_adds_40 : decode cX12_adds 40 = .ok (.iadd, 1) := by decide +kernel
theorem dX12_adds_41 : decode cX12_adds 41 = .ok (.iload_n 3, 1) := by decide +kernel
theorem dX12_adds_42 : decode cX12_adds 42 = .ok (.iadd, 1) := by decide +kernel
theorem dX12_adds_43 : decode cX12_adds 43 = .ok (.iload_n 3, 1) := by decide +kernel
theorem dX12_adds_44 : decode cX12_adds 44 = .ok (.iconst 1, 1) := by decide +kernel
theorem dX12_adds_45 : decode cX12_adds 45 = .ok (.iadd, 1) := by decide +kernel
theorem dX12_adds_46 : decode cX12_adds 46 = .ok (.iastore, 1) := by decide +kernel
theorem dX12_adds_47 : decode cX12_adds 47 = .ok (.iinc 3 1, 3) := by decide +kernel
theorem dX12_adds_50 : decode cX12_adds 50 = .ok (.goto (-24), 3) := by decide +kernel
theorem dX12_adds_53 : decode cX12_adds 53 = .ok (.aload_n 0, 1) := by decide +kernel
theorem dX12_adds_54 : decode cX12_adds 54 = .ok (.getfield 42, 3) := by decide +kernel
theorem dX12_adds_57 : decode cX12_adds 57 = .ok (.bipush 73, 2) := by decide +kernel
theorem dX12_adds_59 : decode cX12_adds 59 = .ok (.dup2, 1) := by decide +kernel
theorem dX12_adds_60 : decode cX12_adds 60 = .ok (.iaload, 1) := by decide +kernel
theorem dX12_adds_61 : decode cX12_adds 61 = .ok (.iconst 1, 1) := by decide +kernel
theorem dX12_adds_62 : decode cX12_adds 62 = .ok (.iadd, 1) := by decide +kernel
theorem dX12_adds_63 : decode cX12_adds 63 = .ok (.iastore, 1) := by decide +kernel
theorem dX12_adds_64 : decode cX12_adds 64 = .ok (.return_, 1) := by decide +kernel
abbrev mX12_adds : zq_M := (cX12_adds, RX12, "adds", none, 4)
theorem dX12_person_0 : decode cX12_person 0 = .ok (.iload_n 1, 1) := by decide +kernel
theorem dX12_person_1 : decode cX12_person 1 = .ok (.invokestatic 145, 3) := by decide +kernel
theorem dX12_person_4 : decode cX12_person 4 = .ok (.ifCond .ne 9, 3) := by decide +kernel
theorem dX12_person_7 : decode cX12_person 7 = .ok (.aload_n 0, 1) := by decide +kernel
theorem dX12_person_8 : decode cX12_person 8 = .ok (.iconst (-1), 1) := by decide +kernel
theorem dX12_person_9 : decode cX12_person 9 = .ok (.invokevirtual 135, 3) := by decide +kernel
theorem dX12_person_12 : decode cX12_person 12 = .ok (.ireturn, 1) := by decide +kernel
theorem dX12_person_13 : decode cX12_person 13 = .ok (.aload_n 0, 1) := by decide +kernel
theorem dX12_person_14 : decode cX12_person 14 = .ok (.invokevirtual 141, 3) := by decide +kernel
theorem dX12_person_17 : decode cX12_person 17 = .ok (.bipush 7, 2) := by decide +kernel
theorem dX12_person_19 : decode cX12_person 19 = .ok (.if_icmp .ne 10, 3) := by decide +kernel
theorem dX12_person_22 : decode cX12_person 22 = .ok (.aload_n 0, 1) := by decide +kernel
theorem dX12_person_23 : decode cX12_person 23 = .ok (.bipush (-5), 2) := by decide +kernel
theorem dX12_person_25 : decode cX12_person 25 = .ok (.invokevirtual 135, 3) := by decide +kernel
theorem dX12_person_28 : decode cX12_person 28 = .ok (.ireturn, 1) := by decide +kernel
theorem dX12_person_29 : decode cX12_person 29 = .ok (.aload_n 0, 1) := by decide +kernel
theorem dX12_person_30 : decode cX12_person 30 = .ok (.iload_n 1, 1) := by decide +kernel
theorem dX12_person_31 : decode cX12_person 31 = .ok (.invokevirtual 148, 3) := by decide +kernel
theorem dX12_person_34 : decode cX12_person 34 = .ok (.aload_n 0, 1) := by decide +kernel
theorem dX12_person_35 : decode cX12_person 35 = .ok (.aload_n 0, 1) := by decide +kernel
theorem dX12_person_36 : decode cX12_person 36 = .ok (.invokevirtual 141, 3) := by decide +kernel
theorem dX12_person_39 : decode cX12_person 39 = .ok (.iconst 1, 1) := by decide +kernel
theorem dX12_person_40 : decode cX12_person 40 = .ok (.isub, 1) := by decide +kernel
theorem dX12_person_41 : decode cX12_person 41 = .ok (.invokevirtual 138, 3) := by decide +kernel
theorem dX12_person_44 : decode cX12_person 44 = .ok (.ireturn, 1) := by decide +kernel
abbrev mX12_person : zq_M := (cX12_person, RX12, "person", (some .int), 2)
theorem dX12_at_0 : decode cX12_at 0 = .ok (.aload_n 0, 1) := by decide +kernel
theorem dX12_at_1 : decode cX12_at 1 = .ok (.iload_n 1, 1) := by decide +kernel
theorem dX12_at_2 : decode cX12_at 2 = .ok (.invokevirtual 152, 3) := by decide +kernel
theorem dX12_at_5 : decode cX12_at 5 = .ok (.ifCond .eq 15, 3) := by decide +kernel
theorem dX12_at_8 : decode cX12_at 8 = .ok (.aload_n 0, 1) := by decide +kernel
theorem dX12_at_9 : decode cX12_at 9 = .ok (.getfield 42, 3) := by decide +kernel
theorem dX12_at_12 : decode cX12_at 12 = .ok (.bipush 7, 2) := by decide +kernel
theorem dX12_at_14 : decode cX12_at 14 = .ok (.iload_n 1, 1) := by decide +kernel
theorem dX12_at_15 : decode cX12_at 15 = .ok (.iadd, 1) := by decide +kernel
theorem dX12_at_16 : decode cX12_at 16 = .ok (.iaload, 1) := by decide +kernel
theorem dX12_at_17 : decode cX12_at 17 = .ok (.goto 4, 3) := by decide +kernel
theorem dX12_at_20 : decode cX12_at 20 = .ok (.iconst (-1), 1) := by decide +kernel
theorem dX12_at_21 : decode cX12_at 21 = .ok (.ireturn, 1) := by decide +kernel
abbrev mX12_at : zq_M := (cX12_at, RX12, "at", (some .int), 2)
theorem dX12_says_0 : decode cX12_says 0 = .ok (.iload_n 2, 1) := by decide +kernel
theorem dX12_says_1 : decode cX12_says 1 = .ok (.invokestatic 32, 3) := by decide +kernel
theorem dX12_says_4 : decode cX12_says 4 = .ok (.ifCond .eq 10, 3) := by decide +kernel
theorem dX12_says_7 : decode cX12_says 7 = .ok (.iload_n 3, 1) := by decide +kernel
theorem dX12_says_8 : decode cX12_says 8 = .ok (.invokestatic 32, 3) := by decide +kernel
theorem dX12_says_11 : decode cX12_says 11 = .ok (.ifCond .ne 9, 3) := by decide +kernel
theorem dX12_says_14 : decode cX12_says 14 = .ok (.aload_n 0, 1) := by decide +kernel
theorem dX12_says_15 : decode cX12_says 15 = .ok (.iconst (-1), 1) := by decide +kernel
theorem dX12_says_16 : decode cX12_says 16 = .ok (.invokevirtual 135, 3) := by decide +kernel
theorem dX12_says_19 : decode cX12_says 19 = .ok (.ireturn, 1) := by decide +kernel
theorem dX12_says_20 : decode cX12_says 20 = .ok (.aload_n 0, 1) := by decide +kernel
theorem dX12_says_21 : decode cX12_says 21 = .ok (.iload_n 1, 1) := by decide +kernel
theorem dX12_says_22 : decode cX12_says 22 = .ok (.invokevirtual 152, 3) := by decide +kernel
theorem dX12_says_25 : decode cX12_says 25 = .ok (.ifCond .ne 10, 3) := by decide +kernel
theorem dX12_says_28 : decode cX12_says 28 = .ok (.aload_n 0, 1) := by decide +kernel
theorem dX12_says_29 : decode cX12_says 29 = .ok (.bipush (-2), 2) := by decide +kernel
theorem dX12_says_31 : decode cX12_says 31 = .ok (.invokevirtual 135, 3) := by decide +kernel
theorem dX12_says_34 : decode cX12_says 34 = .ok (.ireturn, 1) := by decide +kernel
theorem dX12_says_35 : decode cX12_says 35 = .ok (.bipush 20, 2) := by decide +kernel
theorem dX12_says_37 : decode cX12_says 37 = .ok (.iconst 5, 1) := by decide +kernel
theorem dX12_says_38 : decode cX12_says 38 = .ok (.iload_n 1, 1) := by decide +kernel
theorem dX12_says_39 : decode cX12_says 39 = .ok (.imul, 1) := by decide +kernel
theorem dX12_says_40 : decode cX12_says 40 = .ok (.iadd, 1) := by decide +kernel
theorem dX12_says_41 : decode cX12_says 41 = .ok (.iload_n 2, 1) := by decide +kernel
theorem dX12_says_42 : decode cX12_says 42 = .ok (.iadd, 1) := by decide +kernel
theorem dX12_says_43 : decode cX12_says 43 = .ok (.iconst 1, 1) := by decide +kernel
theorem dX12_says_44 : decode cX12_says 44 = .ok (.isub, 1) := by decide +kernel
theorem dX12_says_45 : decode cX12_says 45 = .ok (.istore 4, 2) := by decide +kernel
theorem dX12_says_47 : decode cX12_says 47 = .ok (.aload_n 0, 1) := by decide +kernel
theorem dX12_says_48 : decode cX12_says 48 = .ok (.getfield 42, 3) := by decide +kernel
theorem dX12_says_51 : decode cX12_says 51 = .ok (.iload 4, 2) := by decide +kernel
theorem dX12_says_53 : decode cX12_says 53 = .ok (.iaload, 1) := by decide +kernel
theorem dX12_says_54 : decode cX12_says 54 = .ok (.istore 5, 2) := by decide +kernel
theorem dX12_says_56 : decode cX12_says 56 = .ok (.aload_n 0, 1) := by decide +kernel
theorem dX12_says_57 : decode cX12_says 57 = .ok (.getfield 42, 3) := by decide +kernel
theorem dX12_says_60 : decode cX12_says 60 = .ok (.iload 4, 2) := by decide +kernel
theorem dX12_says_62 : decode cX12_says 62 = .ok (.iload_n 3, 1) := by decide +kernel
theorem dX12_says_63 : decode cX12_says 63 = .ok (.iastore, 1) := by decide +kernel
theorem dX12_says_64 : decode cX12_says 64 = .ok (.aload_n 0, 1) := by decide +kernel
theorem dX12_says_65 : decode cX12_says 65 = .ok (.iload 5, 2) := by decide +kernel
theorem dX12_says_67 : decode cX12_says 67 = .ok (.invokevirtual 14, 3) := by decide +kernel
theorem dX12_says_70 : decode cX12_says 70 = .ok (.ireturn, 1) := by decide +kernel
abbrev mX12_says : zq_M := (cX12_says, RX12, "says", (some .int), 6)
theorem dX12_alphabet_0 : decode cX12_alphabet 0 = .ok (.iconst 0, 1) := by decide +kernel
theorem dX12_alphabet_1 : decode cX12_alphabet 1 = .ok (.istore_n 1, 1) := by decide +kernel
theorem dX12_alphabet_2 : decode cX12_alphabet 2 = .ok (.iconst 0, 1) := by decide +kernel
theorem dX12_alphabet_3 : decode cX12_alphabet 3 = .ok (.istore_n 2, 1) := by decide +kernel
theorem dX12_alphabet_4 : decode cX12_alphabet 4 = .ok (.iload_n 2, 1) := by decide +kernel
theorem dX12_alphabet_5 : decode cX12_alphabet 5 = .ok (.iconst 5, 1) := by decide +kernel
theorem dX12_alphabet_6 : decode cX12_alphabet 6 = .ok (.if_icmp .ge 24, 3) := by decide +kernel
theorem dX12_alphabet_9 : decode cX12_alphabet 9 = .ok (.bipush 10, 2) := by decide +kernel
theorem dX12_alphabet_11 : decode cX12_alphabet 11 = .ok (.iload_n 1, 1) := by decide +kernel
theorem dX12_alphabet_12 : decode cX12_alphabet 12 = .ok (.imul, 1) := by decide +kernel
theorem dX12_alphabet_13 : decode cX12_alphabet 13 = .ok (.aload_n 0, 1) := by decide +kernel
theorem dX12_alphabet_14 : decode cX12_alphabet 14 = .ok (.getfield 42, 3) := by decide +kernel
theorem dX12_alphabet_17 : decode cX12_alphabet 17 = .ok (.bipush 14, 2) := by decide +kernel
theorem dX12_alphabet_19 : decode cX12_alphabet 19 = .ok (.iload_n 2, 1) := by decide +kernel
theorem dX12_alphabet_20 : decode cX12_alphabet 20 = .ok (.iadd, 1) := by decide +kernel
theorem dX12_alphabet_21 : decode cX12_alphabet 21 = .ok (.iaload, 1) := by decide +kernel
theorem dX12_alphabet_22 : decode cX12_alphabet 22 = .ok (.iadd, 1) := by decide +kernel
theorem dX12_alphabet_23 : decode cX12_alphabet 23 = .ok (.istore_n 1, 1) := by decide +kernel
theorem dX12_alphabet_24 : decode cX12_alphabet 24 = .ok (.iinc 2 1, 3) := by decide +kernel
theorem dX12_alphabet_27 : decode cX12_alphabet 27 = .ok (.goto (-23), 3) := by decide +kernel
theorem dX12_alphabet_30 : decode cX12_alphabet 30 = .ok (.iload_n 1, 1) := by decide +kernel
theorem dX12_alphabet_31 : decode cX12_alphabet 31 = .ok (.ireturn, 1) := by decide +kernel
abbrev mX12_alphabet : zq_M := (cX12_alphabet, RX12, "alphabet", (some .int), 3)
theorem dX12_terms_0 : decode cX12_terms 0 = .ok (.iload_n 1, 1) := by decide +kernel
theorem dX12_terms_1 : decode cX12_terms 1 = .ok (.iload_n 2, 1) := by decide +kernel
theorem dX12_terms_2 : decode cX12_terms 2 = .ok (.invokestatic 168, 3) := by decide +kernel
theorem dX12_terms_5 : decode cX12_terms 5 = .ok (.ifCond .ne 9, 3) := by decide +kernel
theorem dX12_terms_8 : decode cX12_terms 8 = .ok (.aload_n 0, 1) := by decide +kernel
theorem dX12_terms_9 : decode cX12_terms 9 = .ok (.iconst (-1), 1) := by decide +kernel
theorem dX12_terms_10 : decode cX12_terms 10 = .ok (.invokevirtual 135, 3) := by decide +kernel
theorem dX12_terms_13 : decode cX12_terms 13 = .ok (.ireturn, 1) := by decide +kernel
theorem dX12_terms_14 : decode cX12_terms 14 = .ok (.aload_n 0, 1) := by decide +kernel
theorem dX12_terms_15 : decode cX12_terms 15 = .ok (.getfield 42, 3) := by decide +kernel
theorem dX12_terms_18 : decode cX12_terms 18 = .ok (.iload_n 1, 1) := by decide +kernel
theorem dX12_terms_19 : decode cX12_terms 19 = .ok (.invokestatic 172, 3) := by decide +kernel
theorem dX12_terms_22 : decode cX12_terms 22 = .ok (.iaload, 1) := by decide +kernel
theorem dX12_terms_23 : decode cX12_terms 23 = .ok (.istore_n 3, 1) := by decide +kernel
theorem dX12_terms_24 : decode cX12_terms 24 = .ok (.aload_n 0, 1) := by decide +kernel
theorem dX12_terms_25 : decode cX12_terms 25 = .ok (.getfield 42, 3) := by decide +kernel
theorem dX12_terms_28 : decode cX12_terms 28 = .ok (.iload_n 1, 1) := by decide +kernel
theorem dX12_terms_29 : decode cX12_terms 29 = .ok (.invokestatic 172, 3) := by decide +kernel
theorem dX12_terms_32 : decode cX12_terms 32 = .ok (.iload_n 2, 1) := by decide +kernel
theorem dX12_terms_33 : decode cX12_terms 33 = .ok (.iastore, 1) := by decide +kernel
theorem dX12_terms_34 : decode cX12_terms 34 = .ok (.aload_n 0, 1) := by decide +kernel
theorem dX12_terms_35 : decode cX12_terms 35 = .ok (.iload_n 3, 1) := by decide +kernel
theorem dX12_terms_36 : decode cX12_terms 36 = .ok (.invokevirtual 138, 3) := by decide +kernel
theorem dX12_terms_39 : decode cX12_terms 39 = .ok (.ireturn, 1) := by decide +kernel
abbrev mX12_terms : zq_M := (cX12_terms, RX12, "terms", (some .int), 4)
theorem dX12_laysAside_0 : decode cX12_laysAside 0 = .ok (.iconst 0, 1) := by decide +kernel
theorem dX12_laysAside_1 : decode cX12_laysAside 1 = .ok (.istore_n 2, 1) := by decide +kernel
theorem dX12_laysAside_2 : decode cX12_laysAside 2 = .ok (.iload_n 2, 1) := by decide +kernel
theorem dX12_laysAside_3 : decode cX12_laysAside 3 = .ok (.bipush 20, 2) := by decide +kernel
theorem dX12_laysAside_5 : decode cX12_laysAside 5 = .ok (.if_icmp .ge 26, 3) := by decide +kernel
theorem dX12_laysAside_8 : decode cX12_laysAside 8 = .ok (.aload_n 0, 1) := by decide +kernel
theorem dX12_laysAside_9 : decode cX12_laysAside 9 = .ok (.getfield 52, 3) := by decide +kernel
theorem dX12_laysAside_12 : decode cX12_laysAside 12 = .ok (.bipush 20, 2) := by decide +kernel
theorem dX12_laysAside_14 : decode cX12_laysAside 14 = .ok (.iload_n 1, 1) := by decide +kernel
theorem dX12_laysAside_15 : decode cX12_laysAside 15 = .ok (.imul, 1) := by decide +kernel
theorem dX12_laysAside_16 : decode cX12_laysAside 16 = .ok (.iload_n 2, 1) := by decide +kernel
theorem dX12_laysAside_17 : decode cX12_laysAside 17 = .ok (.iadd, 1) := by decide +kernel
theorem dX12_laysAside_18 : decode cX12_laysAside 18 = .ok (.aload_n 0, 1) := by decide +kernel
theorem dX12_laysAside_19 : decode cX12_laysAside 19 = .ok (.getfield 42, 3) := by decide +kernel
theorem dX12_laysAside_22 : decode cX12_laysAside 22 = .ok (.iload_n 2, 1) := by decide +kernel
theorem dX12_laysAside_23 : decode cX12_laysAside 23 = .ok (.iaload, 1) := by decide +kernel
theorem dX12_laysAside_24 : decode cX12_laysAside 24 = .ok (.iastore, 1) := by decide +kernel
theorem dX12_laysAside_25 : decode cX12_laysAside 25 = .ok (.iinc 2 1, 3) := by decide +kernel
theorem dX12_laysAside_28 : decode cX12_laysAside 28 = .ok (.goto (-26), 3) := by decide +kernel
theorem dX12_laysAside_31 : decode cX12_laysAside 31 = .ok (.return_, 1) := by decide +kernel
abbrev mX12_laysAside : zq_M := (cX12_laysAside, RX12, "laysAside", none, 3)
theorem dX12_takesBack_0 : decode cX12_takesBack 0 = .ok (.iconst 0, 1) := by decide +kernel
theorem dX12_takesBack_1 : decode cX12_takesBack 1 = .ok (.istore_n 2, 1) := by decide +kernel
theorem dX12_takesBack_2 : decode cX12_takesBack 2 = .ok (.iload_n 2, 1) := by decide +kernel
theorem dX12_takesBack_3 : decode cX12_takesBack 3 = .ok (.bipush 20, 2) := by decide +kernel
theorem dX12_takesBack_5 : decode cX12_takesBack 5 = .ok (.if_icmp .ge 26, 3) := by decide +kernel
theorem dX12_takesBack_8 : decode cX12_takesBack 8 = .ok (.aload_n 0, 1) := by decide +kernel
theorem dX12_takesBack_9 : decode cX12_takesBack 9 = .ok (.getfield 42, 3) := by decide +kernel
theorem dX12_takesBack_12 : decode cX12_takesBack 12 = .ok (.iload_n 2, 1) := by decide +kernel
theorem dX12_takesBack_13 : decode cX12_takesBack 13 = .ok (.aload_n 0, 1) := by decide +kernel
theorem dX12_takesBack_14 : decode cX12_takesBack 14 = .ok (.getfield 52, 3) := by decide +kernel
theorem dX12_takesBack_17 : decode cX12_takesBack 17 = .ok (.bipush 20, 2) := by decide +kernel
theorem dX12_takesBack_19 : decode cX12_takesBack 19 = .ok (.iload_n 1, 1) := by decide +kernel
theorem dX12_takesBack_20 : decode cX12_takesBack 20 = .ok (.imul, 1) := by decide +kernel
theorem dX12_takesBack_21 : decode cX12_takesBack 21 = .ok (.iload_n 2, 1) := by decide +kernel
theorem dX12_takesBack_22 : decode cX12_takesBack 22 = .ok (.iadd, 1) := by decide +kernel
theorem dX12_takesBack_23 : decode cX12_takesBack 23 = .ok (.iaload, 1) := by decide +kernel
theorem dX12_takesBack_24 : decode cX12_takesBack 24 = .ok (.iastore, 1) := by decide +kernel
theorem dX12_takesBack_25 : decode cX12_takesBack 25 = .ok (.iinc 2 1, 3) := by decide +kernel
theorem dX12_takesBack_28 : decode cX12_takesBack 28 = .ok (.goto (-26), 3) := by decide +kernel
theorem dX12_takesBack_31 : decode cX12_takesBack 31 = .ok (.aload_n 0, 1) := by decide +kernel
theorem dX12_takesBack_32 : decode cX12_takesBack 32 = .ok (.invokevirtual 132, 3) := by decide +kernel
theorem dX12_takesBack_35 : decode cX12_takesBack 35 = .ok (.return_, 1) := by decide +kernel
abbrev mX12_takesBack : zq_M := (cX12_takesBack, RX12, "takesBack", none, 3)
theorem dX12_laysRank_0 : decode cX12_laysRank 0 = .ok (.iconst 0, 1) := by decide +kernel
theorem dX12_laysRank_1 : decode cX12_laysRank 1 = .ok (.istore_n 1, 1) := by decide +kernel
theorem dX12_laysRank_2 : decode cX12_laysRank 2 = .ok (.iload_n 1, 1) := by decide +kernel
theorem dX12_laysRank_3 : decode cX12_laysRank 3 = .ok (.iconst 5, 1) := by decide +kernel
theorem dX12_laysRank_4 : decode cX12_laysRank 4 = .ok (.if_icmp .ge 24, 3) := by decide +kernel
theorem dX12_laysRank_7 : decode cX12_laysRank 7 = .ok (.aload_n 0, 1) := by decide +kernel
theorem dX12_laysRank_8 : decode cX12_laysRank 8 = .ok (.getfield 55, 3) := by decide +kernel
theorem dX12_laysRank_11 : decode cX12_laysRank 11 = .ok (.aload_n 0, 1) := by decide +kernel
theorem dX12_laysRank_12 : decode cX12_laysRank 12 = .ok (.getfield 42, 3) := by decide +kernel
theorem dX12_laysRank_15 : decode cX12_laysRank 15 = .ok (.bipush 14, 2) := by decide +kernel
theorem dX12_laysRank_17 : decode cX12_laysRank 17 = .ok (.iload_n 1, 1) := by decide +kernel
theorem dX12_laysRank_18 : decode cX12_laysRank 18 = .ok (.iadd, 1) := by decide +kernel
theorem dX12_laysRank_19 : decode cX12_laysRank 19 = .ok (.iaload, 1) := by decide +kernel
theorem dX12_laysRank_20 : decode cX12_laysRank 20 = .ok (.iload_n 1, 1) := by decide +kernel
theorem dX12_laysRank_21 : decode cX12_laysRank 21 = .ok (.iastore, 1) := by decide +kernel
theorem dX12_laysRank_22 : decode cX12_laysRank 22 = .ok (.iinc 1 1, 3) := by decide +kernel
theorem dX12_laysRank_25 : decode cX12_laysRank 25 = .ok (.goto (-23), 3) := by decide +kernel
theorem dX12_laysRank_28 : decode cX12_laysRank 28 = .ok (.return_, 1) := by decide +kernel
abbrev mX12_laysRank : zq_M := (cX12_laysRank, RX12, "laysRank", none, 2)
theorem dX12_image_0 : decode cX12_image 0 = .ok (.iload_n 1, 1) := by decide +kernel
theorem dX12_image_1 : decode cX12_image 1 = .ok (.iconst 0, 1) := by decide +kernel
theorem dX12_image_2 : decode cX12_image 2 = .ok (.iconst 1, 1) := by decide +kernel
theorem dX12_image_3 : decode cX12_image 3 = .ok (.invokestatic 18, 3) := by decide +kernel
theorem dX12_image_6 : decode cX12_image 6 = .ok (.ifCond .ne 9, 3) := by decide +kernel
theorem dX12_image_9 : decode cX12_image 9 = .ok (.aload_n 0, 1) := by decide +kernel
theorem dX12_image_10 : decode cX12_image 10 = .ok (.iconst (-1), 1) := by decide +kernel
theorem dX12_image_11 : decode cX12_image 11 = .ok (.invokevirtual 135, 3) := by decide +kernel
theorem dX12_image_14 : decode cX12_image 14 = .ok (.ireturn, 1) := by decide +kernel
theorem dX12_image_15 : decode cX12_image 15 = .ok (.iconst 0, 1) := by decide +kernel
theorem dX12_image_16 : decode cX12_image 16 = .ok (.istore_n 2, 1) := by decide +kernel
theorem dX12_image_17 : decode cX12_image 17 = .ok (.iload_n 2, 1) := by decide +kernel
theorem dX12_image_18 : decode cX12_image 18 = .ok (.sipush 5684, 3) := by decide +kernel
theorem dX12_image_21 : decode cX12_image 21 = .ok (.if_icmp .ge 27, 3) := by decide +kernel
theorem dX12_image_24 : decode cX12_image 24 = .ok (.aload_n 0, 1) := by decide +kernel
theorem dX12_image_25 : decode cX12_image 25 = .ok (.getfield 45, 3) := by decide +kernel
theorem dX12_image_28 : decode cX12_image 28 = .ok (.sipush 5684, 3) := by decide +kernel
theorem dX12_image_31 : decode cX12_image 31 = .ok (.iload_n 1, 1) := by decide +kernel
theorem dX12_image_32 : decode cX12_image 32 = .ok (.imul, 1) := by decide +kernel
theorem dX12_image_33 : decode cX12_image 33 = .ok (.iload_n 2, 1) := by decide +kernel
theorem dX12_image_34 : decode cX12_image 34 = .ok (.iadd, 1) := by decide +kernel
theorem dX12_image_35 : decode cX12_image 35 = .ok (.aload_n 0, 1) := by decide +kernel
theorem dX12_image_36 : decode cX12_image 36 = .ok (.getfield 42, 3) := by decide +kernel
theorem dX12_image_39 : decode cX12_image 39 = .ok (.iload_n 2, 1) := by decide +kernel
theorem dX12_image_40 : decode cX12_image 40 = .ok (.iaload, 1) := by decide +kernel
theorem dX12_image_41 : decode cX12_image 41 = .ok (.iastore, 1) := by decide +kernel
theorem dX12_image_42 : decode cX12_image 42 = .ok (.iinc 2 1, 3) := by decide +kernel
theorem dX12_image_45 : decode cX12_image 45 = .ok (.goto (-28), 3) := by decide +kernel
theorem dX12_image_48 : decode cX12_image 48 = .ok (.aload_n 0, 1) := by decide +kernel
theorem dX12_image_49 : decode cX12_image 49 = .ok (.getfield 48, 3) := by decide +kernel
theorem dX12_image_52 : decode cX12_image 52 = .ok (.iload_n 1, 1) := by decide +kernel
theorem dX12_image_53 : decode cX12_image 53 = .ok (.iconst 1, 1) := by decide +kernel
theorem dX12_image_54 : decode cX12_image 54 = .ok (.bastore, 1) := by decide +kernel
theorem dX12_image_55 : decode cX12_image 55 = .ok (.aload_n 0, 1) := by decide +kernel
theorem dX12_image_56 : decode cX12_image 56 = .ok (.iconst 0, 1) := by decide +kernel
theorem dX12_image_57 : decode cX12_image 57 = .ok (.invokevirtual 14, 3) := by decide +kernel
theorem dX12_image_60 : decode cX12_image 60 = .ok (.ireturn, 1) := by decide +kernel
abbrev mX12_image : zq_M := (cX12_image, RX12, "image", (some .int), 3)
theorem dX12_back_0 : decode cX12_back 0 = .ok (.iload_n 1, 1) := by decide +kernel
theorem dX12_back_1 : decode cX12_back 1 = .ok (.iconst 0, 1) := by decide +kernel
theorem dX12_back_2 : decode cX12_back 2 = .ok (.iconst 1, 1) := by decide +kernel
theorem dX12_back_3 : decode cX12_back 3 = .ok (.invokestatic 18, 3) := by decide +kernel
theorem dX12_back_6 : decode cX12_back 6 = .ok (.ifCond .ne 9, 3) := by decide +kernel
theorem dX12_back_9 : decode cX12_back 9 = .ok (.aload_n 0, 1) := by decide +kernel
theorem dX12_back_10 : decode cX12_back 10 = .ok (.iconst (-1), 1) := by decide +kernel
theorem dX12_back_11 : decode cX12_back 11 = .ok (.invokevirtual 135, 3) := by decide +kernel
theorem dX12_back_14 : decode cX12_back 14 = .ok (.ireturn, 1) := by decide +kernel
theorem dX12_back_15 : decode cX12_back 15 = .ok (.aload_n 0, 1) := by decide +kernel
theorem dX12_back_16 : decode cX12_back 16 = .ok (.getfield 48, 3) := by decide +kernel
theorem dX12_back_19 : decode cX12_back 19 = .ok (.iload_n 1, 1) := by decide +kernel
theorem dX12_back_20 : decode cX12_back 20 = .ok (.baload, 1) := by decide +kernel
theorem dX12_back_21 : decode cX12_back 21 = .ok (.ifCond .ne 10, 3) := by decide +kernel
theorem dX12_back_24 : decode cX12_back 24 = .ok (.aload_n 0, 1) := by decide +kernel
theorem dX12_back_25 : decode cX12_back 25 = .ok (.bipush (-2), 2) := by decide +kernel
theorem dX12_back_27 : decode cX12_back 27 = .ok (.invokevirtual 135, 3) := by decide +kernel
theorem dX12_back_30 : decode cX12_back 30 = .ok (.ireturn, 1) := by decide +kernel
theorem dX12_back_31 : decode cX12_back 31 = .ok (.iconst 0, 1) := by decide +kernel
theorem dX12_back_32 : decode cX12_back 32 = .ok (.istore_n 2, 1) := by decide +kernel
theorem dX12_back_33 : decode cX12_back 33 = .ok (.iload_n 2, 1) := by decide +kernel
theorem dX12_back_34 : decode cX12_back 34 = .ok (.sipush 5684, 3) := by decide +kernel
theorem dX12_back_37 : decode cX12_back 37 = .ok (.if_icmp .ge 27, 3) := by decide +kernel
theorem dX12_back_40 : decode cX12_back 40 = .ok (.aload_n 0, 1) := by decide +kernel
theorem dX12_back_41 : decode cX12_back 41 = .ok (.getfield 42, 3) := by decide +kernel
theorem dX12_back_44 : decode cX12_back 44 = .ok (.iload_n 2, 1) := by decide +kernel
theorem dX12_back_45 : decode cX12_back 45 = .ok (.aload_n 0, 1) := by decide +kernel
theorem dX12_back_46 : decode cX12_back 46 = .ok (.getfield 45, 3) := by decide +kernel
theorem dX12_back_49 : decode cX12_back 49 = .ok (.sipush 5684, 3) := by decide +kernel
theorem dX12_back_52 : decode cX12_back 52 = .ok (.iload_n 1, 1) := by decide +kernel
theorem dX12_back_53 : decode cX12_back 53 = .ok (.imul, 1) := by decide +kernel
theorem dX12_back_54 : decode cX12_back 54 = .ok (.iload_n 2, 1) := by decide +kernel
theorem dX12_back_55 : decode cX12_back 55 = .ok (.iadd, 1) := by decide +kernel
theorem dX12_back_56 : decode cX12_back 56 = .ok (.iaload, 1) := by decide +kernel
theorem dX12_back_57 : decode cX12_back 57 = .ok (.iastore, 1) := by decide +kernel
theorem dX12_back_58 : decode cX12_back 58 = .ok (.iinc 2 1, 3) := by decide +kernel
theorem dX12_back_61 : decode cX12_back 61 = .ok (.goto (-28), 3) := by decide +kernel
theorem dX12_back_64 : decode cX12_back 64 = .ok (.aload_n 0, 1) := by decide +kernel
theorem dX12_back_65 : decode cX12_back 65 = .ok (.invokevirtual 132, 3) := by decide +kernel
theorem dX12_back_68 : decode cX12_back 68 = .ok (.aload_n 0, 1) := by decide +kernel
theorem dX12_back_69 : decode cX12_back 69 = .ok (.iconst 0, 1) := by decide +kernel
theorem dX12_back_70 : decode cX12_back 70 = .ok (.invokevirtual 138, 3) := by decide +kernel
theorem dX12_back_73 : decode cX12_back 73 = .ok (.ireturn, 1) := by decide +kernel
abbrev mX12_back : zq_M := (cX12_back, RX12, "back", (some .int), 3)
section ZL2
variable {l : Launch} {G : zq_G} {D n m : Nat} {f : Nat → zq_E} {σ : zm_S} {ρ : Nat → zq_E} {post : Option Value → Nat → (Nat → zq_E) → Prop}
theorem zm_many (hm : σ.2.1 72 73 = nI m) (hp : post (some (.int (nI m))) n (zm_h σ ρ)) : zq_Runs l G D 0 0 yX12_many [.ref 70] n (zm_h σ ρ) post := by
  refine zq_enter (cc := cX12_many) (nL := 1) (ret := (some .int)) cw_X12_many (by decide) rfl (Nat.le_of_ble_eq_true rfl) ?_
  refine at_aload_n dX12_many_0 rfl ?_
  refine at_get dX12_many_1 fl_X12_42 rfl rfl ?_
  refine at_bipush dX12_many_4 (v := nI 73) (by decide) ?_
  refine at_mald (a := 72) dX12_many_6 (by decide) (by decide) (by decide) (by decide) rfl rfl (by show _ < 5684; omega) (by decide) ?_
  rw [hm]
  refine at_iret dX12_many_7 rfl (by omega) (by omega) ?_
  exact hp
theorem zm_isPerson {p : Int32} (hD : 1 ≤ D) (hm : σ.2.1 72 73 = nI m) (hm7 : m ≤ 7) (hp : post (some (.int (zb (zix m p)))) n (zm_h σ ρ)) : zq_Runs l G D 0 0 yX12_isPerson [.ref 70, .int p] n (zm_h σ ρ) post := by
  refine zq_enter (cc := cX12_isPerson) (nL := 2) (ret := (some .boolean)) cw_X12_isPerson (by decide) rfl (Nat.le_of_ble_eq_true rfl) ?_
  refine at_iload_n dX12_isPerson_0 rfl ?_
  refine at_iconst dX12_isPerson_1 (v := nI 0) (by decide) ?_
  refine at_aload_n dX12_isPerson_2 rfl ?_
  refine at_callV0 (d := D - 1) dX12_isPerson_3 mv_X12_141 rfl (Nat.le_of_ble_eq_true rfl) (zq_r0 (by omega) (by omega) (by omega)) ?_
  refine zm_many hm ?_
  refine at_iconst dX12_isPerson_6 (v := nI 1) (by decide) ?_
  refine at_isub dX12_isPerson_7 ?_
  refine at_callS3 (d := D - 1) dX12_isPerson_8 ms_X12_18 (Nat.le_of_ble_eq_true rfl) (zq_r0 (by omega) (by omega) (by omega)) ?_
  refine zm_lies ?_
  rw [zix_lies (by omega)]
  refine at_zret dX12_isPerson_11 rfl (by omega) (by omega) (zb_01 _) ?_
  exact hp
theorem zm_nameAt {k p : Nat} (hk : k < 7) (hw : σ.2.1 72 (7 + k) = nI p) (hq : p < 7) (hp : post (some (.int (σ.2.1 72 p))) n (zm_h σ ρ)) : zq_Runs l G D 0 0 yX12_nameAt [.ref 70, .int (nI k)] n (zm_h σ ρ) post := by
  refine zq_enter (cc := cX12_nameAt) (nL := 2) (ret := (some .int)) cw_X12_nameAt (by decide) rfl (Nat.le_of_ble_eq_true rfl) ?_
  refine at_aload_n dX12_nameAt_0 rfl ?_
  refine at_get dX12_nameAt_1 fl_X12_42 rfl rfl ?_
  refine at_iconst dX12_nameAt_4 (v := nI 0) (by decide) ?_
  refine at_aload_n dX12_nameAt_5 rfl ?_
  refine at_get dX12_nameAt_6 fl_X12_42 rfl rfl ?_
  refine at_bipush dX12_nameAt_9 (v := nI 7) (by decide) ?_
  refine at_iload_n dX12_nameAt_11 rfl ?_
  refine at_iaddN dX12_nameAt_12 ?_
  refine at_mald (a := 72) dX12_nameAt_13 (by decide) (by decide) (by decide) (by decide) rfl rfl (by show _ < 5684; omega) (by decide) ?_
  rw [hw]
  refine at_iaddN dX12_nameAt_14 ?_
  refine at_mald (a := 72) dX12_nameAt_15 (by decide) (by decide) (by decide) (by decide) rfl rfl (by show _ < 5684; omega) (by decide) ?_
  rw [Nat.zero_add p]
  refine at_iret dX12_nameAt_16 rfl (by omega) (by omega) ?_
  exact hp
/-- where in the row p stands: the last such place below k (-1: none) -/
def zplace (K : Nat → Int32) (p : Int32) : Nat → Int32
  | 0 => -1
  | k + 1 => if K (7 + k) = p then nI k else zplace K p k
theorem zm_placeOf_loop {p : Int32} (hD : 1 ≤ D) (hm : σ.2.1 72 73 = nI m) (hm7 : m ≤ 7) (hp : post (some (.int (zplace (σ.2.1 72) p m))) n (zm_h σ ρ)) : ∀ k i : Nat, i + k = m → zq_At l G (zq_rm D 0 0) mX12_placeOf (zq_QF G post 0 0) 4 [(0, .ref 70), (1, .int p), (2, .int (zplace (σ.2.1 72) p i)), (3, .int (nI i))] [] n (zm_h σ ρ) 0 0 := by
  intro k
  induction k with
  | zero =>
    intro i hi
    obtain rfl : i = m := hi
    refine at_iload_n dX12_placeOf_4 rfl ?_
    refine at_aload_n dX12_placeOf_5 rfl ?_
    refine at_callV0 (d := D - 1) dX12_placeOf_6 mv_X12_141 rfl (Nat.le_of_ble_eq_true rfl) (zq_r0 (by omega) (by omega) (by omega)) ?_
    refine zm_many hm ?_
    refine at_geN (tgt := 37) dX12_placeOf_9 (by decide) (by omega) (by omega) (fun c9 => ?_) (fun c9 => ?_)
    · refine at_iload_n dX12_placeOf_37 rfl ?_
      refine at_iret dX12_placeOf_38 rfl (by omega) (by omega) ?_
      exact hp
    · omega
  | succ k ih =>
    intro i hi
    have hn := ih (i + 1) (by omega)
    unfold zplace at hn
    refine at_iload_n dX12_placeOf_4 rfl ?_
    refine at_aload_n dX12_placeOf_5 rfl ?_
    refine at_callV0 (d := D - 1) dX12_placeOf_6 mv_X12_141 rfl (Nat.le_of_ble_eq_true rfl) (zq_r0 (by omega) (by omega) (by omega)) ?_
    refine zm_many hm ?_
    refine at_geN (tgt := 37) dX12_placeOf_9 (by decide) (by omega) (by omega) (fun c9 => ?_) (fun c9 => ?_)
    · omega
    · refine at_aload_n dX12_placeOf_12 rfl ?_
      refine at_get dX12_placeOf_13 fl_X12_42 rfl rfl ?_
      refine at_bipush dX12_placeOf_16 (v := nI 7) (by decide) ?_
      refine at_iload_n dX12_placeOf_18 rfl ?_
      refine at_iaddN dX12_placeOf_19 ?_
      refine at_mald (a := 72) dX12_placeOf_20 (by decide) (by decide) (by decide) (by decide) rfl rfl (by show _ < 5684; omega) (by decide) ?_
      refine at_iload_n dX12_placeOf_21 rfl ?_
      refine at_icmp_ne (tgt := 29) dX12_placeOf_22 (by decide) (fun c22 => ?_) (fun c22 => ?_)
      · rw [if_neg c22] at hn
        refine at_iload_n dX12_placeOf_29 rfl ?_
        refine at_istore_n dX12_placeOf_30 rfl (by decide) ?_
        refine at_iincN dX12_placeOf_31 rfl (by decide) ?_
        refine at_goto (tgt := 4) dX12_placeOf_34 (by decide) ?_
        exact hn
      · rw [if_pos c22] at hn
        refine at_iload_n dX12_placeOf_25 rfl ?_
        refine at_goto (tgt := 30) dX12_placeOf_26 (by decide) ?_
        refine at_istore_n dX12_placeOf_30 rfl (by decide) ?_
        refine at_iincN dX12_placeOf_31 rfl (by decide) ?_
        refine at_goto (tgt := 4) dX12_placeOf_34 (by decide) ?_
        exact hn
theorem zm_placeOf {p : Int32} (hD : 1 ≤ D) (hm : σ.2.1 72 73 = nI m) (hm7 : m ≤ 7) (hp : post (some (.int (zplace (σ.2.1 72) p m))) n (zm_h σ ρ)) : zq_Runs l G D 0 0 yX12_placeOf [.ref 70, .int p] n (zm_h σ ρ) post := by
  refine zq_enter (cc := cX12_placeOf) (nL := 4) (ret := (some .int)) cw_X12_placeOf (by decide) rfl (Nat.le_of_ble_eq_true rfl) ?_
  refine at_iconst dX12_placeOf_0 (v := -1) rfl ?_
  refine at_istore_n dX12_placeOf_1 rfl (by decide) ?_
  refine at_iconst dX12_placeOf_2 (v := nI 0) (by decide) ?_
  refine at_istore_n dX12_placeOf_3 rfl (by decide) ?_
  exact zm_placeOf_loop hD hm hm7 hp m 0 (Nat.zero_add _)
/-- a person more: the loop that sets what it says on -/
def zsays (K : Nat → Int32) (p : Nat) : Nat → Nat → Int32
  | 0 => K
  | k + 1 => upd (zsays K p k) (20 + 5 * p + k) (nI (k + 1))
def zadd (K : Nat → Int32) (m : Nat) (x : Int32) : Nat → Int32 := upd (zsays (upd (upd K m x) (7 + m) (nI m)) m 5) 73 (nI (m + 1))
def zsK (σ : zm_S) (K : Nat → Int32) : zm_S := (σ.1, va_up σ.2.1 72 K, σ.2.2)
theorem zsK_s (σ : zm_S) (i : Nat) (v : Int32) : zm_sa σ 72 i v = zsK σ (upd (σ.2.1 72) i v) := rfl
theorem zsK_k (σ : zm_S) (K : Nat → Int32) : (zsK σ K).2.1 72 = K := by simp [zsK, va_up]
theorem zsK_K (σ : zm_S) (K K' : Nat → Int32) : zsK (zsK σ K) K' = zsK σ K' := by
  show (σ.1, va_up (va_up σ.2.1 72 K) 72 K', σ.2.2) = _
  rw [bx_uu]
  rfl
theorem zsK_a (σ : zm_S) (K : Nat → Int32) (i : Nat) (v : Int32) : zm_sa (zsK σ K) 72 i v = zsK σ (upd K i v) := by
  rw [zsK_s, zsK_k, zsK_K]
theorem zsays_73 (K : Nat → Int32) {p : Nat} (hp : p < 7) : ∀ k, k ≤ 5 → zsays K p k 73 = K 73
  | 0, _ => rfl
  | k + 1, h => by
    show upd _ _ _ 73 = _
    rw [upd_o _ (by omega)]
    exact zsays_73 K hp k (by omega)
theorem zm_adds_loop {K : Nat → Int32} {x : Int32} (hm7 : m < 7) (hm : K 73 = nI m) (hp : post none n (zm_h (zsK σ (upd (zsays K m 5) 73 (nI (m + 1)))) ρ)) : ∀ k i : Nat, i + k = 5 → zq_At l G (zq_rm D 0 0) mX12_adds (zq_QF G post 0 0) 26 [(0, .ref 70), (1, .int x), (2, .int (nI m)), (3, .int (nI i))] [] n (zm_h (zsK σ (zsays K m i)) ρ) 0 0 := by
  intro k
  induction k with
  | zero =>
    intro i hi
    obtain rfl : i = 5 := hi
    refine at_iload_n dX12_adds_26 rfl ?_
    refine at_iconst dX12_adds_27 (v := nI 5) (by decide) ?_
    refine at_geN (tgt := 53) dX12_adds_28 (by decide) (by omega) (by omega) (fun c28 => ?_) (fun c28 => ?_)
    · refine at_aload_n dX12_adds_53 rfl ?_
      refine at_get dX12_adds_54 fl_X12_42 rfl rfl ?_
      refine at_bipush dX12_adds_57 (v := nI 73) (by decide) ?_
      refine at_dup2 dX12_adds_59 rfl rfl ?_
      refine at_mald (a := 72) dX12_adds_60 (by decide) (by decide) (by decide) (by decide) rfl rfl (by show _ < 5684; omega) (by decide) ?_
      rw [zsK_k, zsays_73 K hm7 5 (by decide), hm]
      refine at_iconst dX12_adds_61 (v := nI 1) (by decide) ?_
      refine at_iaddN dX12_adds_62 ?_
      refine at_mast (a := 72) dX12_adds_63 (by decide) (by decide) (by decide) (by decide) rfl rfl (by show _ < 5684; omega) (by decide) ?_
      rw [zsK_a]
      refine at_vret dX12_adds_64 rfl (by omega) (by omega) ?_
      exact hp
    · omega
  | succ k ih =>
    intro i hi
    refine at_iload_n dX12_adds_26 rfl ?_
    refine at_iconst dX12_adds_27 (v := nI 5) (by decide) ?_
    refine at_geN (tgt := 53) dX12_adds_28 (by decide) (by omega) (by omega) (fun c28 => ?_) (fun c28 => ?_)
    · omega
    · refine at_aload_n dX12_adds_31 rfl ?_
      refine at_get dX12_adds_32 fl_X12_42 rfl rfl ?_
      refine at_bipush dX12_adds_35 (v := nI 20) (by decide) ?_
      refine at_iconst dX12_adds_37 (v := nI 5) (by decide) ?_
      refine at_iload_n dX12_adds_38 rfl ?_
      refine at_imulN dX12_adds_39 ?_
      refine at_iaddN dX12_adds_40 ?_
      refine at_iload_n dX12_adds_41 rfl ?_
      refine at_iaddN dX12_adds_42 ?_
      refine at_iload_n dX12_adds_43 rfl ?_
      refine at_iconst dX12_adds_44 (v := nI 1) (by decide) ?_
      refine at_iaddN dX12_adds_45 ?_
      refine at_mast (a := 72) dX12_adds_46 (by decide) (by decide) (by decide) (by decide) rfl rfl (by show _ < 5684; omega) (by decide) ?_
      rw [zsK_a]
      refine at_iincN dX12_adds_47 rfl (by decide) ?_
      refine at_goto (tgt := 26) dX12_adds_50 (by decide) ?_
      exact ih (i + 1) (by omega)
theorem zm_adds {x : Int32} (hD : 1 ≤ D) (hm : σ.2.1 72 73 = nI m) (hm7 : m < 7) (hp : post none n (zm_h (zsK σ (zadd (σ.2.1 72) m x)) ρ)) : zq_Runs l G D 0 0 yX12_adds [.ref 70, .int x] n (zm_h σ ρ) post := by
  refine zq_enter (cc := cX12_adds) (nL := 4) (ret := none) cw_X12_adds (by decide) rfl (Nat.le_of_ble_eq_true rfl) ?_
  refine at_aload_n dX12_adds_0 rfl ?_
  refine at_callV0 (d := D - 1) dX12_adds_1 mv_X12_141 rfl (Nat.le_of_ble_eq_true rfl) (zq_r0 (by omega) (by omega) (by omega)) ?_
  refine zm_many hm ?_
  refine at_istore_n dX12_adds_4 rfl (by decide) ?_
  refine at_aload_n dX12_adds_5 rfl ?_
  refine at_get dX12_adds_6 fl_X12_42 rfl rfl ?_
  refine at_iconst dX12_adds_9 (v := nI 0) (by decide) ?_
  refine at_iload_n dX12_adds_10 rfl ?_
  refine at_iaddN dX12_adds_11 ?_
  refine at_iload_n dX12_adds_12 rfl ?_
  refine at_mast (a := 72) dX12_adds_13 (by decide) (by decide) (by decide) (by decide) rfl rfl (by show _ < 5684; omega) (by decide) ?_
  rw [Nat.zero_add m, zsK_s]
  refine at_aload_n dX12_adds_14 rfl ?_
  refine at_get dX12_adds_15 fl_X12_42 rfl rfl ?_
  refine at_bipush dX12_adds_18 (v := nI 7) (by decide) ?_
  refine at_iload_n dX12_adds_20 rfl ?_
  refine at_iaddN dX12_adds_21 ?_
  refine at_iload_n dX12_adds_22 rfl ?_
  refine at_mast (a := 72) dX12_adds_23 (by decide) (by decide) (by decide) (by decide) rfl rfl (by show _ < 5684; omega) (by decide) ?_
  rw [zsK_a]
  refine at_iconst dX12_adds_24 (v := nI 0) (by decide) ?_
  refine at_istore_n dX12_adds_25 rfl (by decide) ?_
  exact zm_adds_loop hm7 (by rw [upd_o _ (by omega), upd_o _ (by omega)]; exact hm) hp 5 0 rfl
theorem zm_laysRank_loop {al : Nat → Nat} (hal : ∀ k, k < 5 → σ.2.1 72 (14 + k) = nI (al k) ∧ al k < 6) (g : Nat → Nat → Int32) (hg : ∀ k, k < 5 → g (k + 1) = upd (g k) (al k) (nI k)) (h72 : ∀ k, (va_up σ.2.1 76 (g k)) 72 = σ.2.1 72) (hp : post none n (zm_h (σ.1, va_up σ.2.1 76 (g 5), σ.2.2) ρ)) : ∀ k i : Nat, i + k = 5 → zq_At l G (zq_rm D 0 0) mX12_laysRank (zq_QF G post 0 0) 2 [(0, .ref 70), (1, .int (nI i))] [] n (zm_h (σ.1, va_up σ.2.1 76 (g i), σ.2.2) ρ) 0 0 := by
  intro k
  induction k with
  | zero =>
    intro i hi
    obtain rfl : i = 5 := hi
    refine at_iload_n dX12_laysRank_2 rfl ?_
    refine at_iconst dX12_laysRank_3 (v := nI 5) (by decide) ?_
    refine at_geN (tgt := 28) dX12_laysRank_4 (by decide) (by omega) (by omega) (fun c4 => ?_) (fun c4 => ?_)
    · refine at_vret dX12_laysRank_28 rfl (by omega) (by omega) ?_
      exact hp
    · omega
  | succ k ih =>
    intro i hi
    have h6 := (hal i (by omega)).2
    have hn := ih (i + 1) (by omega)
    rw [hg i (by omega)] at hn
    refine at_iload_n dX12_laysRank_2 rfl ?_
    refine at_iconst dX12_laysRank_3 (v := nI 5) (by decide) ?_
    refine at_geN (tgt := 28) dX12_laysRank_4 (by decide) (by omega) (by omega) (fun c4 => ?_) (fun c4 => ?_)
    · omega
    · refine at_aload_n dX12_laysRank_7 rfl ?_
      refine at_get dX12_laysRank_8 fl_X12_55 rfl rfl ?_
      refine at_aload_n dX12_laysRank_11 rfl ?_
      refine at_get dX12_laysRank_12 fl_X12_42 rfl rfl ?_
      refine at_bipush dX12_laysRank_15 (v := nI 14) (by decide) ?_
      refine at_iload_n dX12_laysRank_17 rfl ?_
      refine at_iaddN dX12_laysRank_18 ?_
      refine at_mald (a := 72) dX12_laysRank_19 (by decide) (by decide) (by decide) (by decide) rfl rfl (by show _ < 5684; omega) (by decide) ?_
      rw [show (σ.1, va_up σ.2.1 76 (g i), σ.2.2).2.1 72 (14 + i) = nI (al i) from (congrFun (h72 i) (14 + i)).trans (hal i (by omega)).1]
      refine at_iload_n dX12_laysRank_20 rfl ?_
      refine at_mast (a := 76) dX12_laysRank_21 (by decide) (by decide) (by decide) (by decide) rfl rfl (by show _ < 6; omega) (by decide) ?_
      rw [show zm_sa (σ.1, va_up σ.2.1 76 (g i), σ.2.2) 76 (al i) (nI i) = (σ.1, va_up σ.2.1 76 (upd (g i) (al i) (nI i)), σ.2.2) by show (σ.1, va_up (va_up σ.2.1 76 (g i)) 76 (upd (va_up σ.2.1 76 (g i) 76) (al i) (nI i)), σ.2.2) = _; rw [bx_uu, va_up_self]]
      refine at_iincN dX12_laysRank_22 rfl (by decide) ?_
      refine at_goto (tgt := 2) dX12_laysRank_25 (by decide) ?_
      exact hn
/-- the ranks of the letters, as the alphabet lays them -/
def zrk (R : Nat → Int32) (al : Nat → Nat) : Nat → Nat → Int32
  | 0 => R
  | k + 1 => upd (zrk R al k) (al k) (nI k)
def zsR (σ : zm_S) (g : Nat → Int32) : zm_S := (σ.1, va_up σ.2.1 76 g, σ.2.2)
theorem zsR_0 (σ : zm_S) : zsR σ (σ.2.1 76) = σ := by
  show (σ.1, va_up σ.2.1 76 (σ.2.1 76), σ.2.2) = σ
  rw [show va_up σ.2.1 76 (σ.2.1 76) = σ.2.1 by funext a; by_cases h : a = 76 <;> simp [va_up, h]]
theorem zm_laysRank {al : Nat → Nat} (hal : ∀ k, k < 5 → σ.2.1 72 (14 + k) = nI (al k) ∧ al k < 6) (hp : post none n (zm_h (zsR σ (zrk (σ.2.1 76) al 5)) ρ)) : zq_Runs l G D 0 0 yX12_laysRank [.ref 70] n (zm_h σ ρ) post := by
  refine zq_enter (cc := cX12_laysRank) (nL := 2) (ret := none) cw_X12_laysRank (by decide) rfl (Nat.le_of_ble_eq_true rfl) ?_
  have h0 := zm_laysRank_loop (D := D) (l := l) (G := G) hal (zrk (σ.2.1 76) al) (fun k _ => rfl) (fun k => by simp [va_up]) hp 5 0 rfl
  rw [show (σ.1, va_up σ.2.1 76 (zrk (σ.2.1 76) al 0), σ.2.2) = σ from zsR_0 σ] at h0
  refine at_iconst dX12_laysRank_0 (v := nI 0) (by decide) ?_
  refine at_istore_n dX12_laysRank_1 rfl (by decide) ?_
  exact h0
theorem zm_at {p : Int32} (hD : 2 ≤ D) (hm : σ.2.1 72 73 = nI m) (hm7 : m ≤ 7) (hp : post (some (.int (if zix m p = true then σ.2.1 72 (7 + p.toNatClampNeg) else -1))) n (zm_h σ ρ)) : zq_Runs l G D 0 0 yX12_at [.ref 70, .int p] n (zm_h σ ρ) post := by
  refine zq_enter (cc := cX12_at) (nL := 2) (ret := (some .int)) cw_X12_at (by decide) rfl (Nat.le_of_ble_eq_true rfl) ?_
  refine at_aload_n dX12_at_0 rfl ?_
  refine at_iload_n dX12_at_1 rfl ?_
  refine at_callV1 (d := D - 1) dX12_at_2 mv_X12_152 rfl (Nat.le_of_ble_eq_true rfl) (zq_r0 (by omega) (by omega) (by omega)) ?_
  refine zm_isPerson (by omega) hm hm7 ?_
  refine at_if_eqB (tgt := 20) dX12_at_5 (by decide) (fun c5 => ?_) (fun c5 => ?_)
  · rw [if_neg (by rw [c5]; decide)] at hp
    refine at_iconst dX12_at_20 (v := -1) rfl ?_
    refine at_iret dX12_at_21 rfl (by omega) (by omega) ?_
    exact hp
  · rw [if_pos c5] at hp
    obtain ⟨j, hj, rfl⟩ := zix_t c5
    rw [nI_clamp (by omega)] at hp
    refine at_aload_n dX12_at_8 rfl ?_
    refine at_get dX12_at_9 fl_X12_42 rfl rfl ?_
    refine at_bipush dX12_at_12 (v := nI 7) (by decide) ?_
    refine at_iload_n dX12_at_14 rfl ?_
    refine at_iaddN dX12_at_15 ?_
    refine at_mald (a := 72) dX12_at_16 (by decide) (by decide) (by decide) (by decide) rfl rfl (by show _ < 5684; omega) (by decide) ?_
    refine at_goto (tgt := 21) dX12_at_17 (by decide) ?_
    refine at_iret dX12_at_21 rfl (by omega) (by omega) ?_
    exact hp
theorem zm_alphabet_loop {al : Nat → Nat} (hal : ∀ k, k < 5 → σ.2.1 72 (14 + k) = nI (al k) ∧ al k < 6) (F : Nat → Nat) (hF : ∀ k, k < 5 → F (k + 1) = 10 * F k + al k) (hp : post (some (.int (nI (F 5)))) n (zm_h σ ρ)) : ∀ k i : Nat, i + k = 5 → zq_At l G (zq_rm D 0 0) mX12_alphabet (zq_QF G post 0 0) 4 [(0, .ref 70), (1, .int (nI (F i))), (2, .int (nI i))] [] n (zm_h σ ρ) 0 0 := by
  intro k
  induction k with
  | zero =>
    intro i hi
    obtain rfl : i = 5 := hi
    refine at_iload_n dX12_alphabet_4 rfl ?_
    refine at_iconst dX12_alphabet_5 (v := nI 5) (by decide) ?_
    refine at_geN (tgt := 30) dX12_alphabet_6 (by decide) (by omega) (by omega) (fun c6 => ?_) (fun c6 => ?_)
    · refine at_iload_n dX12_alphabet_30 rfl ?_
      refine at_iret dX12_alphabet_31 rfl (by omega) (by omega) ?_
      exact hp
    · omega
  | succ k ih =>
    intro i hi
    have hn := ih (i + 1) (by omega)
    rw [hF i (by omega)] at hn
    refine at_iload_n dX12_alphabet_4 rfl ?_
    refine at_iconst dX12_alphabet_5 (v := nI 5) (by decide) ?_
    refine at_geN (tgt := 30) dX12_alphabet_6 (by decide) (by omega) (by omega) (fun c6 => ?_) (fun c6 => ?_)
    · omega
    · refine at_bipush dX12_alphabet_9 (v := nI 10) (by decide) ?_
      refine at_iload_n dX12_alphabet_11 rfl ?_
      refine at_imulN dX12_alphabet_12 ?_
      refine at_aload_n dX12_alphabet_13 rfl ?_
      refine at_get dX12_alphabet_14 fl_X12_42 rfl rfl ?_
      refine at_bipush dX12_alphabet_17 (v := nI 14) (by decide) ?_
      refine at_iload_n dX12_alphabet_19 rfl ?_
      refine at_iaddN dX12_alphabet_20 ?_
      refine at_mald (a := 72) dX12_alphabet_21 (by decide) (by decide) (by decide) (by decide) rfl rfl (by show _ < 5684; omega) (by decide) ?_
      rw [(hal i (by omega)).1]
      refine at_iaddN dX12_alphabet_22 ?_
      refine at_istore_n dX12_alphabet_23 rfl (by decide) ?_
      refine at_iincN dX12_alphabet_24 rfl (by decide) ?_
      refine at_goto (tgt := 4) dX12_alphabet_27 (by decide) ?_
      exact hn
/-- the alphabet as a number -/
def zaln (al : Nat → Nat) : Nat → Nat
  | 0 => 0
  | k + 1 => 10 * zaln al k + al k
theorem zm_alphabet {al : Nat → Nat} (hal : ∀ k, k < 5 → σ.2.1 72 (14 + k) = nI (al k) ∧ al k < 6) (hp : post (some (.int (nI (zaln al 5)))) n (zm_h σ ρ)) : zq_Runs l G D 0 0 yX12_alphabet [.ref 70] n (zm_h σ ρ) post := by
  refine zq_enter (cc := cX12_alphabet) (nL := 3) (ret := (some .int)) cw_X12_alphabet (by decide) rfl (Nat.le_of_ble_eq_true rfl) ?_
  refine at_iconst dX12_alphabet_0 (v := nI 0) (by decide) ?_
  refine at_istore_n dX12_alphabet_1 rfl (by decide) ?_
  refine at_iconst dX12_alphabet_2 (v := nI 0) (by decide) ?_
  refine at_istore_n dX12_alphabet_3 rfl (by decide) ?_
  exact zm_alphabet_loop hal (zaln al) (fun _ _ => rfl) hp 5 0 rfl
end ZL2

