/-! ===== the Model's leaves ===== -/
def zb (b : Bool) : Int32 := if b = true then 1 else 0
theorem zb_01 (b : Bool) : zb b = 0 ∨ zb b = 1 := by cases b <;> first | exact Or.inl rfl | exact Or.inr rfl
theorem zb_1 : zb true = nI 1 := by decide
theorem zb_0 : zb false = nI 0 := by decide
section ZL0
variable {l : Launch} {G : zq_G} {R : Room} {M : zq_M} {QF : List Frame → Array Value → State → State → Prop} {pc : Nat} {lv : List (Nat × Value)} {st : List Value} {n : Nat} {f : Nat → zq_E} {cells slots : Nat}
theorem at_if_eqB {b : Bool} {off : Int} {tgt : Nat} (hd : decode M.1 pc = .ok (.ifCond .eq off, 3)) (ht : (pc : Int) + off = (tgt : Int)) (kt : b = false → zq_At l G R M QF tgt lv st n f cells slots) (kf : b = true → zq_At l G R M QF (pc + 3) lv st n f cells slots) : zq_At l G R M QF pc lv (.int (zb b) :: st) n f cells slots :=
  at_if_eq hd ht (fun h => kt (by cases b with | false => rfl | true => exact absurd h (by decide))) (fun h => kf (by cases b with | false => exact absurd rfl h | true => rfl))
theorem at_if_neB {b : Bool} {off : Int} {tgt : Nat} (hd : decode M.1 pc = .ok (.ifCond .ne off, 3)) (ht : (pc : Int) + off = (tgt : Int)) (kt : b = true → zq_At l G R M QF tgt lv st n f cells slots) (kf : b = false → zq_At l G R M QF (pc + 3) lv st n f cells slots) : zq_At l G R M QF pc lv (.int (zb b) :: st) n f cells slots :=
  at_if_ne hd ht (fun h => kt (by cases b with | false => exact absurd rfl h | true => rfl)) (fun h => kf (by cases b with | false => rfl | true => exact absurd h (by decide)))
end ZL0
/-- a name's length, a power of ten, a name's letters -/
def zlen (x : Nat) : Nat := if x < 10 then 1 else if x < 100 then 2 else if x < 1000 then 3 else 4
def zlt (x k : Nat) : Nat := x / 10 ^ (zlen x - 1 - k) % 10
def zwl (x k y : Nat) : Nat := x + y * 10 ^ (zlen x - 1 - k) - zlt x k * 10 ^ (zlen x - 1 - k)
theorem zlen_le (x : Nat) : 1 ≤ zlen x ∧ zlen x ≤ 4 := by unfold zlen; split <;> (try split) <;> (try split) <;> omega
theorem zlt_lt (x k : Nat) : zlt x k < 10 := Nat.mod_lt _ (by decide)
/-- whether a number is a name -/
def zisN (x : Nat) : Bool := decide (1 ≤ x) && decide (x ≤ 5555) && (List.range (zlen x)).all (fun k => decide (1 ≤ zlt x k) && decide (zlt x k ≤ 5))
theorem zbit_l : ∀ j, j < 32 → ((nI j &&& 31).toBitVec.smod 32).toNat = j := by decide
theorem zbit {s j : Nat} (hs : s < 2147483648) (hj : j < 32) : (nI s >>> (nI j &&& 31)) &&& nI 1 = nI (s / 2 ^ j % 2) := by
  rw [pk_shrN hs _ j (zbit_l j hj)]
  have h2 : s / 2 ^ j < 2 ^ 32 := Nat.lt_of_le_of_lt (Nat.div_le_self _ _) (by omega)
  exact pk_andN h2 1 (by decide)
theorem dX12_lies_0 : decode cX12_lies 0 = .ok (.iload_n 0, 1) := by decide +kernel
theorem dX12_lies_1 : decode cX12_lies 1 = .ok (.iload_n 1, 1) := by decide +kernel
theorem dX12_lies_2 : decode cX12_lies 2 = .ok (.if_icmp .lt 12, 3) := by decide +kernel
theorem dX12_lies_5 : decode cX12_lies 5 = .ok (.iload_n 0, 1) := by decide +kernel
theorem dX12_lies_6 : decode cX12_lies 6 = .ok (.iload_n 2, 1) := by decide +kernel
theorem dX12_lies_7 : decode cX12_lies 7 = .ok (.if_icmp .gt 7, 3) := by decide +kernel
theorem dX12_lies_10 : decode cX12_lies 10 = .ok (.iconst 1, 1) := by decide +kernel
theorem dX12_lies_11 : decode cX12_lies 11 = .ok (.goto 4, 3) := by decide +kernel
theorem dX12_lies_14 : decode cX12_lies 14 = .ok (.iconst 0, 1) := by decide +kernel
theorem dX12_lies_15 : decode cX12_lies 15 = .ok (.ireturn, 1) := by decide +kernel
abbrev mX12_lies : zq_M := (cX12_lies, RX12, "lies", (some .boolean), 3)
theorem dX12_refuses_0 : decode cX12_refuses 0 = .ok (.aload_n 0, 1) := by decide +kernel
theorem dX12_refuses_1 : decode cX12_refuses 1 = .ok (.iload_n 1, 1) := by decide +kernel
theorem dX12_refuses_2 : decode cX12_refuses 2 = .ok (.putfield 3, 3) := by decide +kernel
theorem dX12_refuses_5 : decode cX12_refuses 5 = .ok (.aload_n 0, 1) := by decide +kernel
theorem dX12_refuses_6 : decode cX12_refuses 6 = .ok (.getfield 7, 3) := by decide +kernel
theorem dX12_refuses_9 : decode cX12_refuses 9 = .ok (.iload_n 1, 1) := by decide +kernel
theorem dX12_refuses_10 : decode cX12_refuses 10 = .ok (.ineg, 1) := by decide +kernel
theorem dX12_refuses_11 : decode cX12_refuses 11 = .ok (.dup2, 1) := by decide +kernel
theorem dX12_refuses_12 : decode cX12_refuses 12 = .ok (.iaload, 1) := by decide +kernel
theorem dX12_refuses_13 : decode cX12_refuses 13 = .ok (.iconst 1, 1) := by decide +kernel
theorem dX12_refuses_14 : decode cX12_refuses 14 = .ok (.iadd, 1) := by decide +kernel
theorem dX12_refuses_15 : decode cX12_refuses 15 = .ok (.iastore, 1) := by decide +kernel
theorem dX12_refuses_16 : decode cX12_refuses 16 = .ok (.iload_n 1, 1) := by decide +kernel
theorem dX12_refuses_17 : decode cX12_refuses 17 = .ok (.ireturn, 1) := by decide +kernel
abbrev mX12_refuses : zq_M := (cX12_refuses, RX12, "refuses", (some .int), 2)
theorem dX12_good_0 : decode cX12_good 0 = .ok (.aload_n 0, 1) := by decide +kernel
theorem dX12_good_1 : decode cX12_good 1 = .ok (.iconst 0, 1) := by decide +kernel
theorem dX12_good_2 : decode cX12_good 2 = .ok (.putfield 3, 3) := by decide +kernel
theorem dX12_good_5 : decode cX12_good 5 = .ok (.iload_n 1, 1) := by decide +kernel
theorem dX12_good_6 : decode cX12_good 6 = .ok (.ireturn, 1) := by decide +kernel
abbrev mX12_good : zq_M := (cX12_good, RX12, "good", (some .int), 2)
theorem dX12_settled_0 : decode cX12_settled 0 = .ok (.aload_n 0, 1) := by decide +kernel
theorem dX12_settled_1 : decode cX12_settled 1 = .ok (.iconst 0, 1) := by decide +kernel
theorem dX12_settled_2 : decode cX12_settled 2 = .ok (.putfield 11, 3) := by decide +kernel
theorem dX12_settled_5 : decode cX12_settled 5 = .ok (.aload_n 0, 1) := by decide +kernel
theorem dX12_settled_6 : decode cX12_settled 6 = .ok (.iload_n 1, 1) := by decide +kernel
theorem dX12_settled_7 : decode cX12_settled 7 = .ok (.invokevirtual 14, 3) := by decide +kernel
theorem dX12_settled_10 : decode cX12_settled 10 = .ok (.ireturn, 1) := by decide +kernel
abbrev mX12_settled : zq_M := (cX12_settled, RX12, "settled", (some .int), 2)
theorem dX12_isLetter_0 : decode cX12_isLetter 0 = .ok (.iload_n 0, 1) := by decide +kernel
theorem dX12_isLetter_1 : decode cX12_isLetter 1 = .ok (.iconst 1, 1) := by decide +kernel
theorem dX12_isLetter_2 : decode cX12_isLetter 2 = .ok (.iconst 5, 1) := by decide +kernel
theorem dX12_isLetter_3 : decode cX12_isLetter 3 = .ok (.invokestatic 18, 3) := by decide +kernel
theorem dX12_isLetter_6 : decode cX12_isLetter 6 = .ok (.ireturn, 1) := by decide +kernel
abbrev mX12_isLetter : zq_M := (cX12_isLetter, RX12, "isLetter", (some .boolean), 1)
theorem dX12_lesser_0 : decode cX12_lesser 0 = .ok (.iload_n 0, 1) := by decide +kernel
theorem dX12_lesser_1 : decode cX12_lesser 1 = .ok (.iload_n 1, 1) := by decide +kernel
theorem dX12_lesser_2 : decode cX12_lesser 2 = .ok (.if_icmp .ge 7, 3) := by decide +kernel
theorem dX12_lesser_5 : decode cX12_lesser 5 = .ok (.iload_n 0, 1) := by decide +kernel
theorem dX12_lesser_6 : decode cX12_lesser 6 = .ok (.goto 4, 3) := by decide +kernel
theorem dX12_lesser_9 : decode cX12_lesser 9 = .ok (.iload_n 1, 1) := by decide +kernel
theorem dX12_lesser_10 : decode cX12_lesser 10 = .ok (.ireturn, 1) := by decide +kernel
abbrev mX12_lesser : zq_M := (cX12_lesser, RX12, "lesser", (some .int), 2)
theorem dX12_greater_0 : decode cX12_greater 0 = .ok (.iload_n 0, 1) := by decide +kernel
theorem dX12_greater_1 : decode cX12_greater 1 = .ok (.iload_n 1, 1) := by decide +kernel
theorem dX12_greater_2 : decode cX12_greater 2 = .ok (.if_icmp .le 7, 3) := by decide +kernel
theorem dX12_greater_5 : decode cX12_greater 5 = .ok (.iload_n 0, 1) := by decide +kernel
theorem dX12_greater_6 : decode cX12_greater 6 = .ok (.goto 4, 3) := by decide +kernel
theorem dX12_greater_9 : decode cX12_greater 9 = .ok (.iload_n 1, 1) := by decide +kernel
theorem dX12_greater_10 : decode cX12_greater 10 = .ok (.ireturn, 1) := by decide +kernel
abbrev mX12_greater : zq_M := (cX12_greater, RX12, "greater", (some .int), 2)
theorem dX12_isIn_0 : decode cX12_isIn 0 = .ok (.iload_n 0, 1) := by decide +kernel
theorem dX12_isIn_1 : decode cX12_isIn 1 = .ok (.iload_n 1, 1) := by decide +kernel
theorem dX12_isIn_2 : decode cX12_isIn 2 = .ok (.ishr, 1) := by decide +kernel
theorem dX12_isIn_3 : decode cX12_isIn 3 = .ok (.iconst 1, 1) := by decide +kernel
theorem dX12_isIn_4 : decode cX12_isIn 4 = .ok (.iand, 1) := by decide +kernel
theorem dX12_isIn_5 : decode cX12_isIn 5 = .ok (.iconst 1, 1) := by decide +kernel
theorem dX12_isIn_6 : decode cX12_isIn 6 = .ok (.if_icmp .ne 7, 3) := by decide +kernel
theorem dX12_isIn_9 : decode cX12_isIn 9 = .ok (.iconst 1, 1) := by decide +kernel
theorem dX12_isIn_10 : decode cX12_isIn 10 = .ok (.goto 4, 3) := by decide +kernel
theorem dX12_isIn_13 : decode cX12_isIn 13 = .ok (.iconst 0, 1) := by decide +kernel
theorem dX12_isIn_14 : decode cX12_isIn 14 = .ok (.ireturn, 1) := by decide +kernel
abbrev mX12_isIn : zq_M := (cX12_isIn, RX12, "isIn", (some .boolean), 2)
theorem dX12_ones_0 : decode cX12_ones 0 = .ok (.iconst 0, 1) := by decide +kernel
theorem dX12_ones_1 : decode cX12_ones 1 = .ok (.istore_n 1, 1) := by decide +kernel
theorem dX12_ones_2 : decode cX12_ones 2 = .ok (.iconst 0, 1) := by decide +kernel
theorem dX12_ones_3 : decode cX12_ones 3 = .ok (.istore_n 2, 1) := by decide +kernel
theorem dX12_ones_4 : decode cX12_ones 4 = .ok (.iload_n 2, 1) := by decide +kernel
theorem dX12_ones_5 : decode cX12_ones 5 = .ok (.bipush 7, 2) := by decide +kernel
theorem dX12_ones_7 : decode cX12_ones 7 = .ok (.if_icmp .ge 17, 3) := by decide +kernel
theorem dX12_ones_10 : decode cX12_ones 10 = .ok (.iload_n 1, 1) := by decide +kernel
theorem dX12_ones_11 : decode cX12_ones 11 = .ok (.iload_n 0, 1) := by decide +kernel
theorem dX12_ones_12 : decode cX12_ones 12 = .ok (.iload_n 2, 1) := by decide +kernel
theorem dX12_ones_13 : decode cX12_ones 13 = .ok (.ishr, 1) := by decide +kernel
theorem dX12_ones_14 : decode cX12_ones 14 = .ok (.iconst 1, 1) := by decide +kernel
theorem dX12_ones_15 : decode cX12_ones 15 = .ok (.iand, 1) := by decide +kernel
theorem dX12_ones_16 : decode cX12_ones 16 = .ok (.iadd, 1) := by decide +kernel
theorem dX12_ones_17 : decode cX12_ones 17 = .ok (.istore_n 1, 1) := by decide +kernel
theorem dX12_ones_18 : decode cX12_ones 18 = .ok (.iinc 2 1, 3) := by decide +kernel
theorem dX12_ones_21 : decode cX12_ones 21 = .ok (.goto (-17), 3) := by decide +kernel
theorem dX12_ones_24 : decode cX12_ones 24 = .ok (.iload_n 1, 1) := by decide +kernel
theorem dX12_ones_25 : decode cX12_ones 25 = .ok (.ireturn, 1) := by decide +kernel
abbrev mX12_ones : zq_M := (cX12_ones, RX12, "ones", (some .int), 3)
theorem dX12_lengthOf_0 : decode cX12_lengthOf 0 = .ok (.iload_n 0, 1) := by decide +kernel
theorem dX12_lengthOf_1 : decode cX12_lengthOf 1 = .ok (.sipush 999, 3) := by decide +kernel
theorem dX12_lengthOf_4 : decode cX12_lengthOf 4 = .ok (.if_icmp .le 7, 3) := by decide +kernel
theorem dX12_lengthOf_7 : decode cX12_lengthOf 7 = .ok (.iconst 4, 1) := by decide +kernel
theorem dX12_lengthOf_8 : decode cX12_lengthOf 8 = .ok (.goto 24, 3) := by decide +kernel
theorem dX12_lengthOf_11 : decode cX12_lengthOf 11 = .ok (.iload_n 0, 1) := by decide +kernel
theorem dX12_lengthOf_12 : decode cX12_lengthOf 12 = .ok (.bipush 99, 2) := by decide +kernel
theorem dX12_lengthOf_14 : decode cX12_lengthOf 14 = .ok (.if_icmp .le 7, 3) := by decide +kernel
theorem dX12_lengthOf_17 : decode cX12_lengthOf 17 = .ok (.iconst 3, 1) := by decide +kernel
theorem dX12_lengthOf_18 : decode cX12_lengthOf 18 = .ok (.goto 14, 3) := by decide +kernel
theorem dX12_lengthOf_21 : decode cX12_lengthOf 21 = .ok (.iload_n 0, 1) := by decide +kernel
theorem dX12_lengthOf_22 : decode cX12_lengthOf 22 = .ok (.bipush 9, 2) := by decide +kernel
theorem dX12_lengthOf_24 : decode cX12_lengthOf 24 = .ok (.if_icmp .le 7, 3) := by decide +kernel
theorem dX12_lengthOf_27 : decode cX12_lengthOf 27 = .ok (.iconst 2, 1) := by decide +kernel
theorem dX12_lengthOf_28 : decode cX12_lengthOf 28 = .ok (.goto 4, 3) := by decide +kernel
theorem dX12_lengthOf_31 : decode cX12_lengthOf 31 = .ok (.iconst 1, 1) := by decide +kernel
theorem dX12_lengthOf_32 : decode cX12_lengthOf 32 = .ok (.ireturn, 1) := by decide +kernel
abbrev mX12_lengthOf : zq_M := (cX12_lengthOf, RX12, "lengthOf", (some .int), 1)
theorem dX12_tens_0 : decode cX12_tens 0 = .ok (.iconst 1, 1) := by decide +kernel
theorem dX12_tens_1 : decode cX12_tens 1 = .ok (.istore_n 1, 1) := by decide +kernel
theorem dX12_tens_2 : decode cX12_tens 2 = .ok (.iconst 0, 1) := by decide +kernel
theorem dX12_tens_3 : decode cX12_tens 3 = .ok (.istore_n 2, 1) := by decide +kernel
theorem dX12_tens_4 : decode cX12_tens 4 = .ok (.iload_n 2, 1) := by decide +kernel
theorem dX12_tens_5 : decode cX12_tens 5 = .ok (.iload_n 0, 1) := by decide +kernel
theorem dX12_tens_6 : decode cX12_tens 6 = .ok (.if_icmp .ge 14, 3) := by decide +kernel
theorem dX12_tens_9 : decode cX12_tens 9 = .ok (.iload_n 1, 1) := by decide +kernel
theorem dX12_tens_10 : decode cX12_tens 10 = .ok (.bipush 10, 2) := by decide +kernel
theorem dX12_tens_12 : decode cX12_tens 12 = .ok (.imul, 1) := by decide +kernel
theorem dX12_tens_13 : decode cX12_tens 13 = .ok (.istore_n 1, 1) := by decide +kernel
theorem dX12_tens_14 : decode cX12_tens 14 = .ok (.iinc 2 1, 3) := by decide +kernel
theorem dX12_tens_17 : decode cX12_tens 17 = .ok (.goto (-13), 3) := by decide +kernel
theorem dX12_tens_20 : decode cX12_tens 20 = .ok (.iload_n 1, 1) := by decide +kernel
theorem dX12_tens_21 : decode cX12_tens 21 = .ok (.ireturn, 1) := by decide +kernel
abbrev mX12_tens : zq_M := (cX12_tens, RX12, "tens", (some .int), 3)
theorem dX12_letterAt_0 : decode cX12_letterAt 0 = .ok (.iload_n 0, 1) := by decide +kernel
theorem dX12_letterAt_1 : decode cX12_letterAt 1 = .ok (.iload_n 0, 1) := by decide +kernel
theorem dX12_letterAt_2 : decode cX12_letterAt 2 = .ok (.invokestatic 22, 3) := by decide +kernel
theorem dX12_letterAt_5 : decode cX12_letterAt 5 = .ok (.iconst 1, 1) := by decide +kernel
theorem dX12_letterAt_6 : decode cX12_letterAt 6 = .ok (.isub, 1) := by decide +kernel
theorem dX12_letterAt_7 : decode cX12_letterAt 7 = .ok (.iload_n 1, 1) := by decide +kernel
theorem dX12_letterAt_8 : decode cX12_letterAt 8 = .ok (.isub, 1) := by decide +kernel
theorem dX12_letterAt_9 : decode cX12_letterAt 9 = .ok (.invokestatic 25, 3) := by decide +kernel
theorem dX12_letterAt_12 : decode cX12_letterAt 12 = .ok (.idiv, 1) := by decide +kernel
theorem dX12_letterAt_13 : decode cX12_letterAt 13 = .ok (.bipush 10, 2) := by decide +kernel
theorem dX12_letterAt_15 : decode cX12_letterAt 15 = .ok (.irem, 1) := by decide +kernel
theorem dX12_letterAt_16 : decode cX12_letterAt 16 = .ok (.ireturn, 1) := by decide +kernel
abbrev mX12_letterAt : zq_M := (cX12_letterAt, RX12, "letterAt", (some .int), 2)
theorem dX12_withLetter_0 : decode cX12_withLetter 0 = .ok (.iload_n 0, 1) := by decide +kernel
theorem dX12_withLetter_1 : decode cX12_withLetter 1 = .ok (.iload_n 2, 1) := by decide +kernel
theorem dX12_withLetter_2 : decode cX12_withLetter 2 = .ok (.iload_n 0, 1) := by decide +kernel
theorem dX12_withLetter_3 : decode cX12_withLetter 3 = .ok (.iload_n 1, 1) := by decide +kernel
theorem dX12_withLetter_4 : decode cX12_withLetter 4 = .ok (.invokestatic 28, 3) := by decide +kernel
theorem dX12_withLetter_7 : decode cX12_withLetter 7 = .ok (.isub, 1) := by decide +kernel
theorem dX12_withLetter_8 : decode cX12_withLetter 8 = .ok (.iload_n 0, 1) := by decide +kernel
theorem dX12_withLetter_9 : decode cX12_withLetter 9 = .ok (.invokestatic 22, 3) := by decide +kernel
theorem dX12_withLetter_12 : decode cX12_withLetter 12 = .ok (.iconst 1, 1) := by decide +kernel
theorem dX12_withLetter_13 : decode cX12_withLetter 13 = .ok (.isub, 1) := by decide +kernel
theorem dX12_withLetter_14 : decode cX12_withLetter 14 = .ok (.iload_n 1, 1) := by decide +kernel
theorem dX12_withLetter_15 : decode cX12_withLetter 15 = .ok (.isub, 1) := by decide +kernel
theorem dX12_withLetter_16 : decode cX12_withLetter 16 = .ok (.invokestatic 25, 3) := by decide +kernel
theorem dX12_withLetter_19 : decode cX12_withLetter 19 = .ok (.imul, 1) := by decide +kernel
theorem dX12_withLetter_20 : decode cX12_withLetter 20 = .ok (.iadd, 1) := by decide +kernel
theorem dX12_withLetter_21 : decode cX12_withLetter 21 = .ok (.ireturn, 1) := by decide +kernel
abbrev mX12_withLetter : zq_M := (cX12_withLetter, RX12, "withLetter", (some .int), 3)
theorem dX12_isName_0 : decode cX12_isName 0 = .ok (.iload_n 0, 1) := by decide +kernel
theorem dX12_isName_1 : decode cX12_isName 1 = .ok (.iconst 1, 1) := by decide +kernel
theorem dX12_isName_2 : decode cX12_isName 2 = .ok (.sipush 5555, 3) := by decide +kernel
theorem dX12_isName_5 : decode cX12_isName 5 = .ok (.invokestatic 18, 3) := by decide +kernel
theorem dX12_isName_8 : decode cX12_isName 8 = .ok (.ifCond .ne 5, 3) := by decide +kernel
theorem dX12_isName_11 : decode cX12_isName 11 = .ok (.iconst 0, 1) := by decide +kernel
theorem dX12_isName_12 : decode cX12_isName 12 = .ok (.ireturn, 1) := by decide +kernel
theorem dX12_isName_13 : decode cX12_isName 13 = .ok (.iconst 1, 1) := by decide +kernel
theorem dX12_isName_14 : decode cX12_isName 14 = .ok (.istore_n 1, 1) := by decide +kernel
theorem dX12_isName_15 : decode cX12_isName 15 = .ok (.iconst 0, 1) := by decide +kernel
theorem dX12_isName_16 : decode cX12_isName 16 = .ok (.istore_n 2, 1) := by decide +kernel
theorem dX12_isName_17 : decode cX12_isName 17 = .ok (.iload_n 2, 1) := by decide +kernel
theorem dX12_isName_18 : decode cX12_isName 18 = .ok (.iload_n 0, 1) := by decide +kernel
theorem dX12_isName_19 : decode cX12_isName 19 = .ok (.invokestatic 22, 3) := by decide +kernel
theorem dX12_isName_22 : decode cX12_isName 22 = .ok (.if_icmp .ge 30, 3) := by decide +kernel
theorem dX12_isName_25 : decode cX12_isName 25 = .ok (.iload_n 1, 1) := by decide +kernel
theorem dX12_isName_26 : decode cX12_isName 26 = .ok (.ifCond .eq 18, 3) := by decide +kernel
theorem dX12_isName_29 : decode cX12_isName 29 = .ok (.iload_n 0, 1) := by decide +kernel
theorem dX12_isName_30 : decode cX12_isName 30 = .ok (.iload_n 2, 1) := by decide +kernel
theorem dX12_isName_31 : decode cX12_isName 31 = .ok (.invokestatic 28, 3) := by decide +kernel
theorem dX12_isName_34 : decode cX12_isName 34 = .ok (.invokestatic 32, 3) := by decide +kernel
theorem dX12_isName_37 : decode cX12_isName 37 = .ok (.ifCond .eq 7, 3) := by decide +kernel
theorem dX12_isName_40 : decode cX12_isName 40 = .ok (.iconst 1, 1) := by decide +kernel
theorem dX12_isName_41 : decode cX12_isName 41 = .ok (.goto 4, 3) := by decide +kernel
theorem dX12_isName_44 : decode cX12_isName 44 = .ok (.iconst 0, 1) := by decide +kernel
theorem dX12_isName_45 : decode cX12_isName 45 = .ok (.istore_n 1, 1) := by decide +kernel
theorem dX12_isName_46 : decode cX12_isName 46 = .ok (.iinc 2 1, 3) := by decide +kernel
theorem dX12_isName_49 : decode cX12_isName 49 = .ok (.goto (-32), 3) := by decide +kernel
theorem dX12_isName_52 : decode cX12_isName 52 = .ok (.iload_n 1, 1) := by decide +kernel
theorem dX12_isName_53 : decode cX12_isName 53 = .ok (.ireturn, 1) := by decide +kernel
abbrev mX12_isName : zq_M := (cX12_isName, RX12, "isName", (some .boolean), 3)
theorem dX12_isTerm_0 : decode cX12_isTerm 0 = .ok (.iload_n 0, 1) := by decide +kernel
theorem dX12_isTerm_1 : decode cX12_isTerm 1 = .ok (.tableswitch 52 0 2 #[27, 36, 44], 27) := by decide +kernel
theorem dX12_isTerm_28 : decode cX12_isTerm 28 = .ok (.iload_n 1, 1) := by decide +kernel
theorem dX12_isTerm_29 : decode cX12_isTerm 29 = .ok (.iconst 0, 1) := by decide +kernel
theorem dX12_isTerm_30 : decode cX12_isTerm 30 = .ok (.sipush 999, 3) := by decide +kernel
theorem dX12_isTerm_33 : decode cX12_isTerm 33 = .ok (.invokestatic 18, 3) := by decide +kernel
theorem dX12_isTerm_36 : decode cX12_isTerm 36 = .ok (.ireturn, 1) := by decide +kernel
theorem dX12_isTerm_37 : decode cX12_isTerm 37 = .ok (.iload_n 1, 1) := by decide +kernel
theorem dX12_isTerm_38 : decode cX12_isTerm 38 = .ok (.iconst 0, 1) := by decide +kernel
theorem dX12_isTerm_39 : decode cX12_isTerm 39 = .ok (.bipush 10, 2) := by decide +kernel
theorem dX12_isTerm_41 : decode cX12_isTerm 41 = .ok (.invokestatic 18, 3) := by decide +kernel
theorem dX12_isTerm_44 : decode cX12_isTerm 44 = .ok (.ireturn, 1) := by decide +kernel
theorem dX12_isTerm_45 : decode cX12_isTerm 45 = .ok (.iload_n 1, 1) := by decide +kernel
theorem dX12_isTerm_46 : decode cX12_isTerm 46 = .ok (.iconst 0, 1) := by decide +kernel
theorem dX12_isTerm_47 : decode cX12_isTerm 47 = .ok (.bipush 9, 2) := by decide +kernel
theorem dX12_isTerm_49 : decode cX12_isTerm 49 = .ok (.invokestatic 18, 3) := by decide +kernel
theorem dX12_isTerm_52 : decode cX12_isTerm 52 = .ok (.ireturn, 1) := by decide +kernel
theorem dX12_isTerm_53 : decode cX12_isTerm 53 = .ok (.iconst 0, 1) := by decide +kernel
theorem dX12_isTerm_54 : decode cX12_isTerm 54 = .ok (.ireturn, 1) := by decide +kernel
abbrev mX12_isTerm : zq_M := (cX12_isTerm, RX12, "isTerm", (some .boolean), 2)
theorem dX12_termAt_0 : decode cX12_termAt 0 = .ok (.iload_n 0, 1) := by decide +kernel
theorem dX12_termAt_1 : decode cX12_termAt 1 = .ok (.ifCond .ne 8, 3) := by decide +kernel
theorem dX12_termAt_4 : decode cX12_termAt 4 = .ok (.bipush 19, 2) := by decide +kernel
theorem dX12_termAt_6 : decode cX12_termAt 6 = .ok (.goto 15, 3) := by decide +kernel
theorem dX12_termAt_9 : decode cX12_termAt 9 = .ok (.iload_n 0, 1) := by decide +kernel
theorem dX12_termAt_10 : decode cX12_termAt 10 = .ok (.iconst 1, 1) := by decide +kernel
theorem dX12_termAt_11 : decode cX12_termAt 11 = .ok (.if_icmp .ne 8, 3) := by decide +kernel
theorem dX12_termAt_14 : decode cX12_termAt 14 = .ok (.bipush 71, 2) := by decide +kernel
theorem dX12_termAt_16 : decode cX12_termAt 16 = .ok (.goto 5, 3) := by decide +kernel
theorem dX12_termAt_19 : decode cX12_termAt 19 = .ok (.bipush 72, 2) := by decide +kernel
theorem dX12_termAt_21 : decode cX12_termAt 21 = .ok (.ireturn, 1) := by decide +kernel
abbrev mX12_termAt : zq_M := (cX12_termAt, RX12, "termAt", (some .int), 1)
section ZL1
variable {l : Launch} {G : zq_G} {D n : Nat} {f : Nat → zq_E} {σ : zm_S} {ρ : Nat → zq_E} {post : Option Value → Nat → (Nat → zq_E) → Prop}
theorem zm_lies {v a b : Int32} (hp : post (some (.int (zb (decide (a ≤ v) && decide (v ≤ b))))) n f) : zq_Runs l G D 0 0 yX12_lies [.int v, .int a, .int b] n f post := by
  refine zq_enter (cc := cX12_lies) (nL := 3) (ret := (some .boolean)) cw_X12_lies (by decide) rfl (Nat.le_of_ble_eq_true rfl) ?_
  refine at_iload_n dX12_lies_0 rfl ?_
  refine at_iload_n dX12_lies_1 rfl ?_
  refine at_icmp_lt (tgt := 14) dX12_lies_2 (by decide) (fun c2 => ?_) (fun c2 => ?_)
  · rw [decide_eq_false (fun h => absurd c2 (Int32.not_lt.mpr h)), Bool.false_and] at hp
    refine at_iconst dX12_lies_14 (v := nI 0) (by decide) ?_
    refine at_zret dX12_lies_15 rfl (by omega) (by omega) (by first | exact Or.inl rfl | exact Or.inr rfl | assumption) ?_
    exact hp
  · refine at_iload_n dX12_lies_5 rfl ?_
    refine at_iload_n dX12_lies_6 rfl ?_
    refine at_icmp_gt (tgt := 14) dX12_lies_7 (by decide) (fun c7 => ?_) (fun c7 => ?_)
    · rw [decide_eq_false (fun h => absurd c7 (Int32.not_lt.mpr h)), Bool.and_false] at hp
      refine at_iconst dX12_lies_14 (v := nI 0) (by decide) ?_
      refine at_zret dX12_lies_15 rfl (by omega) (by omega) (by first | exact Or.inl rfl | exact Or.inr rfl | assumption) ?_
      exact hp
    · rw [decide_eq_true (Int32.not_lt.mp c2), decide_eq_true (Int32.not_lt.mp c7)] at hp
      refine at_iconst dX12_lies_10 (v := nI 1) (by decide) ?_
      refine at_goto (tgt := 15) dX12_lies_11 (by decide) ?_
      refine at_zret dX12_lies_15 rfl (by omega) (by omega) (by first | exact Or.inl rfl | exact Or.inr rfl | assumption) ?_
      exact hp
theorem zm_refuses {k : Int32} {j : Nat} (hk : -k = nI j) (hj : j < 7) (hp : post (some (.int k)) n (zm_h (zm_sa (zm_si σ 0 k) 71 j (σ.2.1 71 j + nI 1)) ρ)) : zq_Runs l G D 0 0 yX12_refuses [.ref 70, .int k] n (zm_h σ ρ) post := by
  refine zq_enter (cc := cX12_refuses) (nL := 2) (ret := (some .int)) cw_X12_refuses (by decide) rfl (Nat.le_of_ble_eq_true rfl) ?_
  refine at_aload_n dX12_refuses_0 rfl ?_
  refine at_iload_n dX12_refuses_1 rfl ?_
  refine at_mput dX12_refuses_2 (pl_X12_3 _) (fun _ => ⟨_, rfl⟩) rfl rfl ?_
  refine at_aload_n dX12_refuses_5 rfl ?_
  refine at_get dX12_refuses_6 fl_X12_7 rfl rfl ?_
  refine at_iload_n dX12_refuses_9 rfl ?_
  refine at_ineg dX12_refuses_10 ?_
  refine at_dup2 dX12_refuses_11 rfl rfl ?_
  refine at_mald (a := 71) dX12_refuses_12 (by decide) (by decide) (by decide) (by decide) rfl hk hj (by decide) ?_
  refine at_iconst dX12_refuses_13 (v := nI 1) (by decide) ?_
  refine at_iadd dX12_refuses_14 ?_
  refine at_mast (a := 71) dX12_refuses_15 (by decide) (by decide) (by decide) (by decide) rfl hk hj (by decide) ?_
  refine at_iload_n dX12_refuses_16 rfl ?_
  refine at_iret dX12_refuses_17 rfl (by omega) (by omega) ?_
  exact hp
theorem zm_good {v : Int32} (hp : post (some (.int v)) n (zm_h (zm_si σ 0 0) ρ)) : zq_Runs l G D 0 0 yX12_good [.ref 70, .int v] n (zm_h σ ρ) post := by
  refine zq_enter (cc := cX12_good) (nL := 2) (ret := (some .int)) cw_X12_good (by decide) rfl (Nat.le_of_ble_eq_true rfl) ?_
  refine at_aload_n dX12_good_0 rfl ?_
  refine at_iconst dX12_good_1 (v := nI 0) (by decide) ?_
  refine at_mput dX12_good_2 (pl_X12_3 _) (fun _ => ⟨_, rfl⟩) rfl rfl ?_
  refine at_iload_n dX12_good_5 rfl ?_
  refine at_iret dX12_good_6 rfl (by omega) (by omega) ?_
  exact hp
theorem zm_settled {v : Int32} (hD : 1 ≤ D) (hp : post (some (.int v)) n (zm_h (zm_si (zm_si σ 44 0) 0 0) ρ)) : zq_Runs l G D 0 0 yX12_settled [.ref 70, .int v] n (zm_h σ ρ) post := by
  refine zq_enter (cc := cX12_settled) (nL := 2) (ret := (some .int)) cw_X12_settled (by decide) rfl (Nat.le_of_ble_eq_true rfl) ?_
  refine at_aload_n dX12_settled_0 rfl ?_
  refine at_iconst dX12_settled_1 (v := nI 0) (by decide) ?_
  refine at_mput dX12_settled_2 (pl_X12_11 _) (fun _ => ⟨_, rfl⟩) rfl rfl ?_
  refine at_aload_n dX12_settled_5 rfl ?_
  refine at_iload_n dX12_settled_6 rfl ?_
  refine at_callV1 dX12_settled_7 mv_X12_14 rfl (Nat.le_of_ble_eq_true rfl) (zq_r0 (by omega) (by omega) (by omega)) ?_
  refine zm_good ?_
  refine at_iret dX12_settled_10 rfl (by omega) (by omega) ?_
  exact hp
theorem zm_isLetter {v : Int32} (hD : 1 ≤ D) (hp : post (some (.int (zb (decide (nI 1 ≤ v) && decide (v ≤ nI 5))))) n f) : zq_Runs l G D 0 0 yX12_isLetter [.int v] n f post := by
  refine zq_enter (cc := cX12_isLetter) (nL := 1) (ret := (some .boolean)) cw_X12_isLetter (by decide) rfl (Nat.le_of_ble_eq_true rfl) ?_
  refine at_iload_n dX12_isLetter_0 rfl ?_
  refine at_iconst dX12_isLetter_1 (v := nI 1) (by decide) ?_
  refine at_iconst dX12_isLetter_2 (v := nI 5) (by decide) ?_
  refine at_callS3 dX12_isLetter_3 ms_X12_18 (Nat.le_of_ble_eq_true rfl) (zq_r0 (by omega) (by omega) (by omega)) ?_
  refine zm_lies ?_
  refine at_zret dX12_isLetter_6 rfl (by omega) (by omega) (zb_01 _) ?_
  exact hp
theorem zm_lesser {a b : Int32} (hp : post (some (.int (if a < b then a else b))) n f) : zq_Runs l G D 0 0 yX12_lesser [.int a, .int b] n f post := by
  refine zq_enter (cc := cX12_lesser) (nL := 2) (ret := (some .int)) cw_X12_lesser (by decide) rfl (Nat.le_of_ble_eq_true rfl) ?_
  refine at_iload_n dX12_lesser_0 rfl ?_
  refine at_iload_n dX12_lesser_1 rfl ?_
  refine at_icmp_ge (tgt := 9) dX12_lesser_2 (by decide) (fun c2 => ?_) (fun c2 => ?_)
  · rw [if_neg (Int32.not_lt.mpr c2)] at hp
    refine at_iload_n dX12_lesser_9 rfl ?_
    refine at_iret dX12_lesser_10 rfl (by omega) (by omega) ?_
    exact hp
  · rw [if_pos (Int32.not_le.mp c2)] at hp
    refine at_iload_n dX12_lesser_5 rfl ?_
    refine at_goto (tgt := 10) dX12_lesser_6 (by decide) ?_
    refine at_iret dX12_lesser_10 rfl (by omega) (by omega) ?_
    exact hp
theorem zm_greater {a b : Int32} (hp : post (some (.int (if b < a then a else b))) n f) : zq_Runs l G D 0 0 yX12_greater [.int a, .int b] n f post := by
  refine zq_enter (cc := cX12_greater) (nL := 2) (ret := (some .int)) cw_X12_greater (by decide) rfl (Nat.le_of_ble_eq_true rfl) ?_
  refine at_iload_n dX12_greater_0 rfl ?_
  refine at_iload_n dX12_greater_1 rfl ?_
  refine at_icmp_le (tgt := 9) dX12_greater_2 (by decide) (fun c2 => ?_) (fun c2 => ?_)
  · rw [if_neg (Int32.not_lt.mpr c2)] at hp
    refine at_iload_n dX12_greater_9 rfl ?_
    refine at_iret dX12_greater_10 rfl (by omega) (by omega) ?_
    exact hp
  · rw [if_pos (Int32.not_le.mp c2)] at hp
    refine at_iload_n dX12_greater_5 rfl ?_
    refine at_goto (tgt := 10) dX12_greater_6 (by decide) ?_
    refine at_iret dX12_greater_10 rfl (by omega) (by omega) ?_
    exact hp
theorem zm_isIn {s j : Nat} (hs : s < 2147483648) (hj : j < 32) (hp : post (some (.int (zb (decide (s / 2 ^ j % 2 = 1))))) n f) : zq_Runs l G D 0 0 yX12_isIn [.int (nI s), .int (nI j)] n f post := by
  refine zq_enter (cc := cX12_isIn) (nL := 2) (ret := (some .boolean)) cw_X12_isIn (by decide) rfl (Nat.le_of_ble_eq_true rfl) ?_
  refine at_iload_n dX12_isIn_0 rfl ?_
  refine at_iload_n dX12_isIn_1 rfl ?_
  refine at_ishr dX12_isIn_2 ?_
  refine at_iconst dX12_isIn_3 (v := nI 1) (by decide) ?_
  refine at_iand dX12_isIn_4 ?_
  rw [zbit hs hj]
  refine at_iconst dX12_isIn_5 (v := nI 1) (by decide) ?_
  refine at_neN (tgt := 13) dX12_isIn_6 (by decide) (by omega) (by omega) (fun c6 => ?_) (fun c6 => ?_)
  · rw [decide_eq_false c6] at hp
    refine at_iconst dX12_isIn_13 (v := nI 0) (by decide) ?_
    refine at_zret dX12_isIn_14 rfl (by omega) (by omega) (by first | exact Or.inl rfl | exact Or.inr rfl | assumption) ?_
    exact hp
  · rw [decide_eq_true c6] at hp
    refine at_iconst dX12_isIn_9 (v := nI 1) (by decide) ?_
    refine at_goto (tgt := 14) dX12_isIn_10 (by decide) ?_
    refine at_zret dX12_isIn_14 rfl (by omega) (by omega) (by first | exact Or.inl rfl | exact Or.inr rfl | assumption) ?_
    exact hp
/-- how many of the lowest k bits are set -/
def zpop (s : Nat) : Nat → Nat
  | 0 => 0
  | k + 1 => zpop s k + s / 2 ^ k % 2
theorem zm_ones_loop {s : Nat} (hs : s < 2147483648) (hp : post (some (.int (nI (zpop s 7)))) n f) : ∀ k i : Nat, i + k = 7 → zq_At l G (zq_rm D 0 0) mX12_ones (zq_QF G post 0 0) 4 [(0, .int (nI s)), (1, .int (nI (zpop s i))), (2, .int (nI i))] [] n f 0 0 := by
  intro k
  induction k with
  | zero =>
    intro i hi
    obtain rfl : i = 7 := hi
    refine at_iload_n dX12_ones_4 rfl ?_
    refine at_bipush dX12_ones_5 (v := nI 7) (by decide) ?_
    refine at_geN (tgt := 24) dX12_ones_7 (by decide) (by omega) (by omega) (fun c7 => ?_) (fun c7 => ?_)
    · refine at_iload_n dX12_ones_24 rfl ?_
      refine at_iret dX12_ones_25 rfl (by omega) (by omega) ?_
      exact hp
    · omega
  | succ k ih =>
    intro i hi
    refine at_iload_n dX12_ones_4 rfl ?_
    refine at_bipush dX12_ones_5 (v := nI 7) (by decide) ?_
    refine at_geN (tgt := 24) dX12_ones_7 (by decide) (by omega) (by omega) (fun c7 => ?_) (fun c7 => ?_)
    · omega
    · refine at_iload_n dX12_ones_10 rfl ?_
      refine at_iload_n dX12_ones_11 rfl ?_
      refine at_iload_n dX12_ones_12 rfl ?_
      refine at_ishr dX12_ones_13 ?_
      refine at_iconst dX12_ones_14 (v := nI 1) (by decide) ?_
      refine at_iand dX12_ones_15 ?_
      rw [zbit hs (by omega)]
      refine at_iaddN dX12_ones_16 ?_
      refine at_istore_n dX12_ones_17 rfl (by decide) ?_
      refine at_iincN dX12_ones_18 rfl (by decide) ?_
      refine at_goto (tgt := 4) dX12_ones_21 (by decide) ?_
      exact ih (i + 1) (by omega)
theorem zm_ones {s : Nat} (hs : s < 2147483648) (hp : post (some (.int (nI (zpop s 7)))) n f) : zq_Runs l G D 0 0 yX12_ones [.int (nI s)] n f post := by
  refine zq_enter (cc := cX12_ones) (nL := 3) (ret := (some .int)) cw_X12_ones (by decide) rfl (Nat.le_of_ble_eq_true rfl) ?_
  refine at_iconst dX12_ones_0 (v := nI 0) (by decide) ?_
  refine at_istore_n dX12_ones_1 rfl (by decide) ?_
  refine at_iconst dX12_ones_2 (v := nI 0) (by decide) ?_
  refine at_istore_n dX12_ones_3 rfl (by decide) ?_
  exact zm_ones_loop hs hp 7 0 rfl
theorem zm_lengthOf {x : Nat} (hx : x < 2147483648) (hp : post (some (.int (nI (zlen x)))) n f) : zq_Runs l G D 0 0 yX12_lengthOf [.int (nI x)] n f post := by
  refine zq_enter (cc := cX12_lengthOf) (nL := 1) (ret := (some .int)) cw_X12_lengthOf (by decide) rfl (Nat.le_of_ble_eq_true rfl) ?_
  unfold zlen at hp
  refine at_iload_n dX12_lengthOf_0 rfl ?_
  refine at_sipush dX12_lengthOf_1 (v := nI 999) (by decide) ?_
  refine at_leN (tgt := 11) dX12_lengthOf_4 (by decide) (by omega) (by omega) (fun c4 => ?_) (fun c4 => ?_)
  · refine at_iload_n dX12_lengthOf_11 rfl ?_
    refine at_bipush dX12_lengthOf_12 (v := nI 99) (by decide) ?_
    refine at_leN (tgt := 21) dX12_lengthOf_14 (by decide) (by omega) (by omega) (fun c14 => ?_) (fun c14 => ?_)
    · refine at_iload_n dX12_lengthOf_21 rfl ?_
      refine at_bipush dX12_lengthOf_22 (v := nI 9) (by decide) ?_
      refine at_leN (tgt := 31) dX12_lengthOf_24 (by decide) (by omega) (by omega) (fun c24 => ?_) (fun c24 => ?_)
      · rw [if_pos (by omega)] at hp
        refine at_iconst dX12_lengthOf_31 (v := nI 1) (by decide) ?_
        refine at_iret dX12_lengthOf_32 rfl (by omega) (by omega) ?_
        exact hp
      · rw [if_neg (by omega), if_pos (by omega)] at hp
        refine at_iconst dX12_lengthOf_27 (v := nI 2) (by decide) ?_
        refine at_goto (tgt := 32) dX12_lengthOf_28 (by decide) ?_
        refine at_iret dX12_lengthOf_32 rfl (by omega) (by omega) ?_
        exact hp
    · rw [if_neg (by omega), if_neg (by omega), if_pos (by omega)] at hp
      refine at_iconst dX12_lengthOf_17 (v := nI 3) (by decide) ?_
      refine at_goto (tgt := 32) dX12_lengthOf_18 (by decide) ?_
      refine at_iret dX12_lengthOf_32 rfl (by omega) (by omega) ?_
      exact hp
  · rw [if_neg (by omega), if_neg (by omega), if_neg (by omega)] at hp
    refine at_iconst dX12_lengthOf_7 (v := nI 4) (by decide) ?_
    refine at_goto (tgt := 32) dX12_lengthOf_8 (by decide) ?_
    refine at_iret dX12_lengthOf_32 rfl (by omega) (by omega) ?_
    exact hp
theorem zm_tens_loop {e : Nat} (he : e < 9) (hp : post (some (.int (nI (10 ^ e)))) n f) : ∀ k i : Nat, i + k = e → zq_At l G (zq_rm D 0 0) mX12_tens (zq_QF G post 0 0) 4 [(0, .int (nI e)), (1, .int (nI (10 ^ i))), (2, .int (nI i))] [] n f 0 0 := by
  intro k
  induction k with
  | zero =>
    intro i hi
    obtain rfl : i = e := hi
    refine at_iload_n dX12_tens_4 rfl ?_
    refine at_iload_n dX12_tens_5 rfl ?_
    refine at_geN (tgt := 20) dX12_tens_6 (by decide) (by omega) (by omega) (fun c6 => ?_) (fun c6 => ?_)
    · refine at_iload_n dX12_tens_20 rfl ?_
      refine at_iret dX12_tens_21 rfl (by omega) (by omega) ?_
      exact hp
    · omega
  | succ k ih =>
    intro i hi
    refine at_iload_n dX12_tens_4 rfl ?_
    refine at_iload_n dX12_tens_5 rfl ?_
    refine at_geN (tgt := 20) dX12_tens_6 (by decide) (by omega) (by omega) (fun c6 => ?_) (fun c6 => ?_)
    · omega
    · refine at_iload_n dX12_tens_9 rfl ?_
      refine at_bipush dX12_tens_10 (v := nI 10) (by decide) ?_
      refine at_imulN dX12_tens_12 ?_
      refine at_istore_n dX12_tens_13 rfl (by decide) ?_
      refine at_iincN dX12_tens_14 rfl (by decide) ?_
      refine at_goto (tgt := 4) dX12_tens_17 (by decide) ?_
      exact ih (i + 1) (by omega)
theorem zm_tens {e : Nat} (he : e < 9) (hp : post (some (.int (nI (10 ^ e)))) n f) : zq_Runs l G D 0 0 yX12_tens [.int (nI e)] n f post := by
  refine zq_enter (cc := cX12_tens) (nL := 3) (ret := (some .int)) cw_X12_tens (by decide) rfl (Nat.le_of_ble_eq_true rfl) ?_
  refine at_iconst dX12_tens_0 (v := nI 1) (by decide) ?_
  refine at_istore_n dX12_tens_1 rfl (by decide) ?_
  refine at_iconst dX12_tens_2 (v := nI 0) (by decide) ?_
  refine at_istore_n dX12_tens_3 rfl (by decide) ?_
  exact zm_tens_loop he hp e 0 (Nat.zero_add _)
theorem zm_letterAt {x k : Nat} (hD : 1 ≤ D) (hx : x < 2147483648) (hk : k < zlen x) (hp : post (some (.int (nI (zlt x k)))) n f) : zq_Runs l G D 0 0 yX12_letterAt [.int (nI x), .int (nI k)] n f post := by
  have hl := zlen_le x
  have h1 : 10 ^ (zlen x - 1 - k) ≤ 10 ^ 3 := Nat.pow_le_pow_right (by decide) (by omega)
  have h0 : 0 < 10 ^ (zlen x - 1 - k) := Nat.pow_pos (by decide)
  have h2 : x / 10 ^ (zlen x - 1 - k) ≤ x := Nat.div_le_self _ _
  refine zq_enter (cc := cX12_letterAt) (nL := 2) (ret := (some .int)) cw_X12_letterAt (by decide) rfl (Nat.le_of_ble_eq_true rfl) ?_
  refine at_iload_n dX12_letterAt_0 rfl ?_
  refine at_iload_n dX12_letterAt_1 rfl ?_
  refine at_callS1 dX12_letterAt_2 ms_X12_22 (Nat.le_of_ble_eq_true rfl) (zq_r0 (by omega) (by omega) (by omega)) ?_
  refine zm_lengthOf (by omega) ?_
  refine at_iconst dX12_letterAt_5 (v := nI 1) (by decide) ?_
  refine at_isubN dX12_letterAt_6 (by omega) ?_
  refine at_iload_n dX12_letterAt_7 rfl ?_
  refine at_isubN dX12_letterAt_8 (by omega) ?_
  refine at_callS1 dX12_letterAt_9 ms_X12_25 (Nat.le_of_ble_eq_true rfl) (zq_r0 (by omega) (by omega) (by omega)) ?_
  refine zm_tens (by omega) ?_
  refine at_idivN dX12_letterAt_12 (by omega) h0 (by omega) ?_
  refine at_bipush dX12_letterAt_13 (v := nI 10) (by decide) ?_
  refine at_iremN dX12_letterAt_15 (by omega) (by omega) (by omega) ?_
  refine at_iret dX12_letterAt_16 rfl (by omega) (by omega) ?_
  exact hp
end ZL1

