/-! ===== the Model: the order of names and of the row ===== -/
/-- a name: one to four letters 1 .. 5 -/
def zvn (x : Nat) : Prop := 1 ≤ x ∧ x ≤ 5555 ∧ zall x (zlen x) = true
theorem zall_at {x : Nat} : ∀ {k j : Nat}, zall x k = true → j < k → zle (zlt x j) = true
  | 0, _, _, h => absurd h (Nat.not_lt_zero _)
  | k + 1, j, h, hj => by
    unfold zall at h
    rw [Bool.and_eq_true] at h
    by_cases e : j = k
    · subst e; exact h.2
    · exact zall_at h.1 (by omega)
theorem zvn_at {x k : Nat} (h : zvn x) (hk : k < zlen x) : 1 ≤ zlt x k ∧ zlt x k ≤ 5 := by
  have := zall_at h.2.2 hk
  unfold zle at this
  rw [Bool.and_eq_true, decide_eq_true_eq, decide_eq_true_eq] at this
  exact this
/-- whether one name is ahead of another one, letter by letter from i on, k letters of both left -/
def zahF (rk : Nat → Nat) (a b : Nat) : Nat → Nat → Bool
  | 0, _ => decide (zlen a < zlen b)
  | k + 1, i => if rk (zlt a i) = rk (zlt b i) then zahF rk a b k (i + 1) else decide (rk (zlt a i) < rk (zlt b i))
def zah (rk : Nat → Nat) (a b : Nat) : Bool := zahF rk a b (min (zlen a) (zlen b)) 0
/-- people, names, the row, the ranks of letters: m people with names x, w who stands where, rk the letters' ranks -/
def zC (σ : zm_S) (m : Nat) (x w rk : Nat → Nat) : Prop :=
  σ.2.1 72 73 = nI m ∧ m ≤ 7 ∧ (∀ p, p < m → σ.2.1 72 p = nI (x p) ∧ zvn (x p)) ∧ (∀ k, k < m → σ.2.1 72 (7 + k) = nI (w k) ∧ w k < m) ∧ ∀ y, 1 ≤ y → y ≤ 5 → σ.2.1 76 y = nI (rk y) ∧ rk y < 5
theorem zsub_lt {a b : Nat} (ha : a < 1073741824) (hb : b < 1073741824) : nI a - nI b < 0 ↔ a < b := by
  rw [Int32.lt_iff_toInt_lt, pk_sub_toInt ha hb]
  have : (0 : Int32).toInt = 0 := rfl
  omega
theorem zsub_gt {a b : Nat} (ha : a < 1073741824) (hb : b < 1073741824) : 0 < nI a - nI b ↔ b < a := by
  rw [Int32.lt_iff_toInt_lt, pk_sub_toInt ha hb]
  have : (0 : Int32).toInt = 0 := rfl
  omega
theorem zsub_0 {a b : Nat} (ha : a < 1073741824) (hb : b < 1073741824) : nI a - nI b = 0 ↔ a = b := by
  constructor
  · intro h
    have h1 : (nI a - nI b).toInt = 0 := by rw [h]; rfl
    rw [pk_sub_toInt ha hb] at h1
    omega
  · rintro rfl
    exact Int32.sub_self _
/-- fewer locals -/
def zq_pick (lv : List (Nat × Value)) (ks : List Nat) : List (Nat × Value) := ks.filterMap (fun i => (zq_lk lv i).map (fun v => (i, v)))
theorem at_lv {l : Launch} {G : zq_G} {R : Room} {M : zq_M} {QF : List Frame → Array Value → State → State → Prop} {pc : Nat} {lv : List (Nat × Value)} {st : List Value} {n : Nat} {f : Nat → zq_E} {cells slots : Nat} (ks : List Nat) (k : zq_At l G R M QF pc (zq_pick lv ks) st n f cells slots) : zq_At l G R M QF pc lv st n f cells slots := by
  intro p e s m args below meth c H locs ls C hz hK hO hs hok hP hS hl
  refine k p e s m args below meth c H locs ls C hz hK hO hs hok hP hS ⟨hl.1, hl.2.1, fun q hq => hl.2.2 q ?_⟩
  obtain ⟨a, ha, rfl⟩ := List.mem_map.mp hq
  obtain ⟨i, -, hi⟩ := List.mem_filterMap.mp ha
  cases hk : zq_lk lv i with
  | none => rw [hk] at hi; cases hi
  | some v =>
    rw [hk] at hi
    cases hi
    exact List.mem_map.mpr ⟨(i, v), zq_lk_mem hk, rfl⟩
theorem dX12_compares_0 : decode cX12_compares 0 = .ok (.iload_n 1, 1) := by decide +kernel
theorem dX12_compares_1 : decode cX12_compares 1 = .ok (.invokestatic 22, 3) := by decide +kernel
theorem dX12_compares_4 : decode cX12_compares 4 = .ok (.iload_n 2, 1) := by decide +kernel
theorem dX12_compares_5 : decode cX12_compares 5 = .ok (.invokestatic 22, 3) := by decide +kernel
theorem dX12_compares_8 : decode cX12_compares 8 = .ok (.invokestatic 362, 3) := by decide +kernel
theorem dX12_compares_11 : decode cX12_compares 11 = .ok (.istore_n 3, 1) := by decide +kernel
theorem dX12_compares_12 : decode cX12_compares 12 = .ok (.iconst 0, 1) := by decide +kernel
theorem dX12_compares_13 : decode cX12_compares 13 = .ok (.istore 4, 2) := by decide +kernel
theorem dX12_compares_15 : decode cX12_compares 15 = .ok (.iload 4, 2) := by decide +kernel
theorem dX12_compares_17 : decode cX12_compares 17 = .ok (.iload_n 3, 1) := by decide +kernel
theorem dX12_compares_18 : decode cX12_compares 18 = .ok (.if_icmp .ge 42, 3) := by decide +kernel
theorem dX12_compares_21 : decode cX12_compares 21 = .ok (.aload_n 0, 1) := by decide +kernel
theorem dX12_compares_22 : decode cX12_compares 22 = .ok (.getfield 55, 3) := by decide +kernel
theorem dX12_compares_25 : decode cX12_compares 25 = .ok (.iload_n 1, 1) := by decide +kernel
theorem dX12_compares_26 : decode cX12_compares 26 = .ok (.iload 4, 2) := by decide +kernel
theorem dX12_compares_28 : decode cX12_compares 28 = .ok (.invokestatic 28, 3) := by decide +kernel
theorem dX12_compares_31 : decode cX12_compares 31 = .ok (.iaload, 1) := by decide +kernel
theorem dX12_compares_32 : decode cX12_compares 32 = .ok (.aload_n 0, 1) := by decide +kernel
theorem dX12_compares_33 : decode cX12_compares 33 = .ok (.getfield 55, 3) := by decide +kernel
theorem dX12_compares_36 : decode cX12_compares 36 = .ok (.iload_n 2, 1) := by decide +kernel
theorem dX12_compares_37 : decode cX12_compares 37 = .ok (.iload 4, 2) := by decide +kernel
theorem dX12_compares_39 : decode cX12_compares 39 = .ok (.invokestatic 28, 3) := by decide +kernel
theorem dX12_compares_42 : decode cX12_compares 42 = .ok (.iaload, 1) := by decide +kernel
theorem dX12_compares_43 : decode cX12_compares 43 = .ok (.isub, 1) := by decide +kernel
theorem dX12_compares_44 : decode cX12_compares 44 = .ok (.istore 5, 2) := by decide +kernel
theorem dX12_compares_46 : decode cX12_compares 46 = .ok (.iload 5, 2) := by decide +kernel
theorem dX12_compares_48 : decode cX12_compares 48 = .ok (.ifCond .eq 6, 3) := by decide +kernel
theorem dX12_compares_51 : decode cX12_compares 51 = .ok (.iload 5, 2) := by decide +kernel
theorem dX12_compares_53 : decode cX12_compares 53 = .ok (.ireturn, 1) := by decide +kernel
theorem dX12_compares_54 : decode cX12_compares 54 = .ok (.iinc 4 1, 3) := by decide +kernel
theorem dX12_compares_57 : decode cX12_compares 57 = .ok (.goto (-42), 3) := by decide +kernel
theorem dX12_compares_60 : decode cX12_compares 60 = .ok (.iload_n 1, 1) := by decide +kernel
theorem dX12_compares_61 : decode cX12_compares 61 = .ok (.invokestatic 22, 3) := by decide +kernel
theorem dX12_compares_64 : decode cX12_compares 64 = .ok (.iload_n 2, 1) := by decide +kernel
theorem dX12_compares_65 : decode cX12_compares 65 = .ok (.invokestatic 22, 3) := by decide +kernel
theorem dX12_compares_68 : decode cX12_compares 68 = .ok (.isub, 1) := by decide +kernel
theorem dX12_compares_69 : decode cX12_compares 69 = .ok (.ireturn, 1) := by decide +kernel
abbrev mX12_compares : zq_M := (cX12_compares, RX12, "compares", (some .int), 6)
theorem dX12_comparesTwo_0 : decode cX12_comparesTwo 0 = .ok (.aload_n 0, 1) := by decide +kernel
theorem dX12_comparesTwo_1 : decode cX12_comparesTwo 1 = .ok (.aload_n 0, 1) := by decide +kernel
theorem dX12_comparesTwo_2 : decode cX12_comparesTwo 2 = .ok (.getfield 42, 3) := by decide +kernel
theorem dX12_comparesTwo_5 : decode cX12_comparesTwo 5 = .ok (.iconst 0, 1) := by decide +kernel
theorem dX12_comparesTwo_6 : decode cX12_comparesTwo 6 = .ok (.iload_n 1, 1) := by decide +kernel
theorem dX12_comparesTwo_7 : decode cX12_comparesTwo 7 = .ok (.iadd, 1) := by decide +kernel
theorem dX12_comparesTwo_8 : decode cX12_comparesTwo 8 = .ok (.iaload, 1) := by decide +kernel
theorem dX12_comparesTwo_9 : decode cX12_comparesTwo 9 = .ok (.aload_n 0, 1) := by decide +kernel
theorem dX12_comparesTwo_10 : decode cX12_comparesTwo 10 = .ok (.getfield 42, 3) := by decide +kernel
theorem dX12_comparesTwo_13 : decode cX12_comparesTwo 13 = .ok (.iconst 0, 1) := by decide +kernel
theorem dX12_comparesTwo_14 : decode cX12_comparesTwo 14 = .ok (.iload_n 2, 1) := by decide +kernel
theorem dX12_comparesTwo_15 : decode cX12_comparesTwo 15 = .ok (.iadd, 1) := by decide +kernel
theorem dX12_comparesTwo_16 : decode cX12_comparesTwo 16 = .ok (.iaload, 1) := by decide +kernel
theorem dX12_comparesTwo_17 : decode cX12_comparesTwo 17 = .ok (.invokevirtual 365, 3) := by decide +kernel
theorem dX12_comparesTwo_20 : decode cX12_comparesTwo 20 = .ok (.ireturn, 1) := by decide +kernel
abbrev mX12_comparesTwo : zq_M := (cX12_comparesTwo, RX12, "comparesTwo", (some .int), 3)
theorem dX12_ahead_0 : decode cX12_ahead 0 = .ok (.aload_n 0, 1) := by decide +kernel
theorem dX12_ahead_1 : decode cX12_ahead 1 = .ok (.iload_n 1, 1) := by decide +kernel
theorem dX12_ahead_2 : decode cX12_ahead 2 = .ok (.invokevirtual 152, 3) := by decide +kernel
theorem dX12_ahead_5 : decode cX12_ahead 5 = .ok (.ifCond .eq 11, 3) := by decide +kernel
theorem dX12_ahead_8 : decode cX12_ahead 8 = .ok (.aload_n 0, 1) := by decide +kernel
theorem dX12_ahead_9 : decode cX12_ahead 9 = .ok (.iload_n 2, 1) := by decide +kernel
theorem dX12_ahead_10 : decode cX12_ahead 10 = .ok (.invokevirtual 152, 3) := by decide +kernel
theorem dX12_ahead_13 : decode cX12_ahead 13 = .ok (.ifCond .ne 5, 3) := by decide +kernel
theorem dX12_ahead_16 : decode cX12_ahead 16 = .ok (.iconst (-1), 1) := by decide +kernel
theorem dX12_ahead_17 : decode cX12_ahead 17 = .ok (.ireturn, 1) := by decide +kernel
theorem dX12_ahead_18 : decode cX12_ahead 18 = .ok (.aload_n 0, 1) := by decide +kernel
theorem dX12_ahead_19 : decode cX12_ahead 19 = .ok (.iload_n 1, 1) := by decide +kernel
theorem dX12_ahead_20 : decode cX12_ahead 20 = .ok (.iload_n 2, 1) := by decide +kernel
theorem dX12_ahead_21 : decode cX12_ahead 21 = .ok (.invokevirtual 368, 3) := by decide +kernel
theorem dX12_ahead_24 : decode cX12_ahead 24 = .ok (.istore_n 3, 1) := by decide +kernel
theorem dX12_ahead_25 : decode cX12_ahead 25 = .ok (.iload_n 3, 1) := by decide +kernel
theorem dX12_ahead_26 : decode cX12_ahead 26 = .ok (.ifCond .ge 7, 3) := by decide +kernel
theorem dX12_ahead_29 : decode cX12_ahead 29 = .ok (.iconst 1, 1) := by decide +kernel
theorem dX12_ahead_30 : decode cX12_ahead 30 = .ok (.goto 12, 3) := by decide +kernel
theorem dX12_ahead_33 : decode cX12_ahead 33 = .ok (.iload_n 3, 1) := by decide +kernel
theorem dX12_ahead_34 : decode cX12_ahead 34 = .ok (.ifCond .le 7, 3) := by decide +kernel
theorem dX12_ahead_37 : decode cX12_ahead 37 = .ok (.iconst 2, 1) := by decide +kernel
theorem dX12_ahead_38 : decode cX12_ahead 38 = .ok (.goto 4, 3) := by decide +kernel
theorem dX12_ahead_41 : decode cX12_ahead 41 = .ok (.iconst 0, 1) := by decide +kernel
theorem dX12_ahead_42 : decode cX12_ahead 42 = .ok (.ireturn, 1) := by decide +kernel
abbrev mX12_ahead : zq_M := (cX12_ahead, RX12, "ahead", (some .int), 4)
theorem dX12_breaksAt_0 : decode cX12_breaksAt 0 = .ok (.aload_n 0, 1) := by decide +kernel
theorem dX12_breaksAt_1 : decode cX12_breaksAt 1 = .ok (.aload_n 0, 1) := by decide +kernel
theorem dX12_breaksAt_2 : decode cX12_breaksAt 2 = .ok (.iload_n 1, 1) := by decide +kernel
theorem dX12_breaksAt_3 : decode cX12_breaksAt 3 = .ok (.iconst 1, 1) := by decide +kernel
theorem dX12_breaksAt_4 : decode cX12_breaksAt 4 = .ok (.iadd, 1) := by decide +kernel
theorem dX12_breaksAt_5 : decode cX12_breaksAt 5 = .ok (.invokevirtual 371, 3) := by decide +kernel
theorem dX12_breaksAt_8 : decode cX12_breaksAt 8 = .ok (.aload_n 0, 1) := by decide +kernel
theorem dX12_breaksAt_9 : decode cX12_breaksAt 9 = .ok (.iload_n 1, 1) := by decide +kernel
theorem dX12_breaksAt_10 : decode cX12_breaksAt 10 = .ok (.invokevirtual 371, 3) := by decide +kernel
theorem dX12_breaksAt_13 : decode cX12_breaksAt 13 = .ok (.invokevirtual 365, 3) := by decide +kernel
theorem dX12_breaksAt_16 : decode cX12_breaksAt 16 = .ok (.ifCond .ge 7, 3) := by decide +kernel
theorem dX12_breaksAt_19 : decode cX12_breaksAt 19 = .ok (.iconst 1, 1) := by decide +kernel
theorem dX12_breaksAt_20 : decode cX12_breaksAt 20 = .ok (.goto 4, 3) := by decide +kernel
theorem dX12_breaksAt_23 : decode cX12_breaksAt 23 = .ok (.iconst 0, 1) := by decide +kernel
theorem dX12_breaksAt_24 : decode cX12_breaksAt 24 = .ok (.ireturn, 1) := by decide +kernel
abbrev mX12_breaksAt : zq_M := (cX12_breaksAt, RX12, "breaksAt", (some .boolean), 2)
theorem dX12_breaks_0 : decode cX12_breaks 0 = .ok (.iload_n 1, 1) := by decide +kernel
theorem dX12_breaks_1 : decode cX12_breaks 1 = .ok (.iconst (-1), 1) := by decide +kernel
theorem dX12_breaks_2 : decode cX12_breaks 2 = .ok (.if_icmp .ge 5, 3) := by decide +kernel
theorem dX12_breaks_5 : decode cX12_breaks 5 = .ok (.iconst (-1), 1) := by decide +kernel
theorem dX12_breaks_6 : decode cX12_breaks 6 = .ok (.ireturn, 1) := by decide +kernel
theorem dX12_breaks_7 : decode cX12_breaks 7 = .ok (.iconst 0, 1) := by decide +kernel
theorem dX12_breaks_8 : decode cX12_breaks 8 = .ok (.istore_n 2, 1) := by decide +kernel
theorem dX12_breaks_9 : decode cX12_breaks 9 = .ok (.iconst 0, 1) := by decide +kernel
theorem dX12_breaks_10 : decode cX12_breaks 10 = .ok (.istore_n 3, 1) := by decide +kernel
theorem dX12_breaks_11 : decode cX12_breaks 11 = .ok (.iload_n 3, 1) := by decide +kernel
theorem dX12_breaks_12 : decode cX12_breaks 12 = .ok (.aload_n 0, 1) := by decide +kernel
theorem dX12_breaks_13 : decode cX12_breaks 13 = .ok (.invokevirtual 141, 3) := by decide +kernel
theorem dX12_breaks_16 : decode cX12_breaks 16 = .ok (.iconst 1, 1) := by decide +kernel
theorem dX12_breaks_17 : decode cX12_breaks 17 = .ok (.isub, 1) := by decide +kernel
theorem dX12_breaks_18 : decode cX12_breaks 18 = .ok (.if_icmp .ge 30, 3) := by decide +kernel
theorem dX12_breaks_21 : decode cX12_breaks 21 = .ok (.aload_n 0, 1) := by decide +kernel
theorem dX12_breaks_22 : decode cX12_breaks 22 = .ok (.iload_n 3, 1) := by decide +kernel
theorem dX12_breaks_23 : decode cX12_breaks 23 = .ok (.invokevirtual 374, 3) := by decide +kernel
theorem dX12_breaks_26 : decode cX12_breaks 26 = .ok (.ifCond .ne 6, 3) := by decide +kernel
theorem dX12_breaks_29 : decode cX12_breaks 29 = .ok (.goto 13, 3) := by decide +kernel
theorem dX12_breaks_32 : decode cX12_breaks 32 = .ok (.iload_n 2, 1) := by decide +kernel
theorem dX12_breaks_33 : decode cX12_breaks 33 = .ok (.iload_n 1, 1) := by decide +kernel
theorem dX12_breaks_34 : decode cX12_breaks 34 = .ok (.if_icmp .ne 5, 3) := by decide +kernel
theorem dX12_breaks_37 : decode cX12_breaks 37 = .ok (.iload_n 3, 1) := by decide +kernel
theorem dX12_breaks_38 : decode cX12_breaks 38 = .ok (.ireturn, 1) := by decide +kernel
theorem dX12_breaks_39 : decode cX12_breaks 39 = .ok (.iinc 2 1, 3) := by decide +kernel
theorem dX12_breaks_42 : decode cX12_breaks 42 = .ok (.iinc 3 1, 3) := by decide +kernel
theorem dX12_breaks_45 : decode cX12_breaks 45 = .ok (.goto (-34), 3) := by decide +kernel
theorem dX12_breaks_48 : decode cX12_breaks 48 = .ok (.iload_n 1, 1) := by decide +kernel
theorem dX12_breaks_49 : decode cX12_breaks 49 = .ok (.iconst (-1), 1) := by decide +kernel
theorem dX12_breaks_50 : decode cX12_breaks 50 = .ok (.if_icmp .ne 7, 3) := by decide +kernel
theorem dX12_breaks_53 : decode cX12_breaks 53 = .ok (.iload_n 2, 1) := by decide +kernel
theorem dX12_breaks_54 : decode cX12_breaks 54 = .ok (.goto 4, 3) := by decide +kernel
theorem dX12_breaks_57 : decode cX12_breaks 57 = .ok (.iconst (-1), 1) := by decide +kernel
theorem dX12_breaks_58 : decode cX12_breaks 58 = .ok (.ireturn, 1) := by decide +kernel
abbrev mX12_breaks : zq_M := (cX12_breaks, RX12, "breaks", (some .int), 4)
theorem dX12_swaps_0 : decode cX12_swaps 0 = .ok (.iconst 0, 1) := by decide +kernel
theorem dX12_swaps_1 : decode cX12_swaps 1 = .ok (.istore_n 1, 1) := by decide +kernel
theorem dX12_swaps_2 : decode cX12_swaps 2 = .ok (.iconst 0, 1) := by decide +kernel
theorem dX12_swaps_3 : decode cX12_swaps 3 = .ok (.istore_n 2, 1) := by decide +kernel
theorem dX12_swaps_4 : decode cX12_swaps 4 = .ok (.iload_n 2, 1) := by decide +kernel
theorem dX12_swaps_5 : decode cX12_swaps 5 = .ok (.aload_n 0, 1) := by decide +kernel
theorem dX12_swaps_6 : decode cX12_swaps 6 = .ok (.invokevirtual 141, 3) := by decide +kernel
theorem dX12_swaps_9 : decode cX12_swaps 9 = .ok (.if_icmp .ge 52, 3) := by decide +kernel
theorem dX12_swaps_12 : decode cX12_swaps 12 = .ok (.iload_n 2, 1) := by decide +kernel
theorem dX12_swaps_13 : decode cX12_swaps 13 = .ok (.iconst 1, 1) := by decide +kernel
theorem dX12_swaps_14 : decode cX12_swaps 14 = .ok (.iadd, 1) := by decide +kernel
theorem dX12_swaps_15 : decode cX12_swaps 15 = .ok (.istore_n 3, 1) := by decide +kernel
theorem dX12_swaps_16 : decode cX12_swaps 16 = .ok (.iload_n 3, 1) := by decide +kernel
theorem dX12_swaps_17 : decode cX12_swaps 17 = .ok (.aload_n 0, 1) := by decide +kernel
theorem dX12_swaps_18 : decode cX12_swaps 18 = .ok (.invokevirtual 141, 3) := by decide +kernel
theorem dX12_swaps_21 : decode cX12_swaps 21 = .ok (.if_icmp .ge 34, 3) := by decide +kernel
theorem dX12_swaps_24 : decode cX12_swaps 24 = .ok (.iload_n 1, 1) := by decide +kernel
theorem dX12_swaps_25 : decode cX12_swaps 25 = .ok (.aload_n 0, 1) := by decide +kernel
theorem dX12_swaps_26 : decode cX12_swaps 26 = .ok (.aload_n 0, 1) := by decide +kernel
theorem dX12_swaps_27 : decode cX12_swaps 27 = .ok (.iload_n 3, 1) := by decide +kernel
theorem dX12_swaps_28 : decode cX12_swaps 28 = .ok (.invokevirtual 371, 3) := by decide +kernel
theorem dX12_swaps_31 : decode cX12_swaps 31 = .ok (.aload_n 0, 1) := by decide +kernel
theorem dX12_swaps_32 : decode cX12_swaps 32 = .ok (.iload_n 2, 1) := by decide +kernel
theorem dX12_swaps_33 : decode cX12_swaps 33 = .ok (.invokevirtual 371, 3) := by decide +kernel
theorem dX12_swaps_36 : decode cX12_swaps 36 = .ok (.invokevirtual 365, 3) := by decide +kernel
theorem dX12_swaps_39 : decode cX12_swaps 39 = .ok (.ifCond .ge 7, 3) := by decide +kernel
theorem dX12_swaps_42 : decode cX12_swaps 42 = .ok (.iconst 1, 1) := by decide +kernel
theorem dX12_swaps_43 : decode cX12_swaps 43 = .ok (.goto 4, 3) := by decide +kernel
theorem dX12_swaps_46 : decode cX12_swaps 46 = .ok (.iconst 0, 1) := by decide +kernel
theorem dX12_swaps_47 : decode cX12_swaps 47 = .ok (.iadd, 1) := by decide +kernel
theorem dX12_swaps_48 : decode cX12_swaps 48 = .ok (.istore_n 1, 1) := by decide +kernel
theorem dX12_swaps_49 : decode cX12_swaps 49 = .ok (.iinc 3 1, 3) := by decide +kernel
theorem dX12_swaps_52 : decode cX12_swaps 52 = .ok (.goto (-36), 3) := by decide +kernel
theorem dX12_swaps_55 : decode cX12_swaps 55 = .ok (.iinc 2 1, 3) := by decide +kernel
theorem dX12_swaps_58 : decode cX12_swaps 58 = .ok (.goto (-54), 3) := by decide +kernel
theorem dX12_swaps_61 : decode cX12_swaps 61 = .ok (.iload_n 1, 1) := by decide +kernel
theorem dX12_swaps_62 : decode cX12_swaps 62 = .ok (.ireturn, 1) := by decide +kernel
abbrev mX12_swaps : zq_M := (cX12_swaps, RX12, "swaps", (some .int), 4)
theorem dX12_isRightWithout_0 : decode cX12_isRightWithout 0 = .ok (.iconst (-1), 1) := by decide +kernel
theorem dX12_isRightWithout_1 : decode cX12_isRightWithout 1 = .ok (.istore_n 2, 1) := by decide +kernel
theorem dX12_isRightWithout_2 : decode cX12_isRightWithout 2 = .ok (.iconst 0, 1) := by decide +kernel
theorem dX12_isRightWithout_3 : decode cX12_isRightWithout 3 = .ok (.istore_n 3, 1) := by decide +kernel
theorem dX12_isRightWithout_4 : decode cX12_isRightWithout 4 = .ok (.iload_n 3, 1) := by decide +kernel
theorem dX12_isRightWithout_5 : decode cX12_isRightWithout 5 = .ok (.aload_n 0, 1) := by decide +kernel
theorem dX12_isRightWithout_6 : decode cX12_isRightWithout 6 = .ok (.invokevirtual 141, 3) := by decide +kernel
theorem dX12_isRightWithout_9 : decode cX12_isRightWithout 9 = .ok (.if_icmp .ge 46, 3) := by decide +kernel
theorem dX12_isRightWithout_12 : decode cX12_isRightWithout 12 = .ok (.iload_n 1, 1) := by decide +kernel
theorem dX12_isRightWithout_13 : decode cX12_isRightWithout 13 = .ok (.iload_n 3, 1) := by decide +kernel
theorem dX12_isRightWithout_14 : decode cX12_isRightWithout 14 = .ok (.invokestatic 377, 3) := by decide +kernel
theorem dX12_isRightWithout_17 : decode cX12_isRightWithout 17 = .ok (.ifCond .eq 6, 3) := by decide +kernel
theorem dX12_isRightWithout_20 : decode cX12_isRightWithout 20 = .ok (.goto 29, 3) := by decide +kernel
theorem dX12_isRightWithout_23 : decode cX12_isRightWithout 23 = .ok (.iload_n 2, 1) := by decide +kernel
theorem dX12_isRightWithout_24 : decode cX12_isRightWithout 24 = .ok (.iconst (-1), 1) := by decide +kernel
theorem dX12_isRightWithout_25 : decode cX12_isRightWithout 25 = .ok (.if_icmp .eq 22, 3) := by decide +kernel
theorem dX12_isRightWithout_28 : decode cX12_isRightWithout 28 = .ok (.aload_n 0, 1) := by decide +kernel
theorem dX12_isRightWithout_29 : decode cX12_isRightWithout 29 = .ok (.aload_n 0, 1) := by decide +kernel
theorem dX12_isRightWithout_30 : decode cX12_isRightWithout 30 = .ok (.iload_n 3, 1) := by decide +kernel
theorem dX12_isRightWithout_31 : decode cX12_isRightWithout 31 = .ok (.invokevirtual 371, 3) := by decide +kernel
theorem dX12_isRightWithout_34 : decode cX12_isRightWithout 34 = .ok (.aload_n 0, 1) := by decide +kernel
theorem dX12_isRightWithout_35 : decode cX12_isRightWithout 35 = .ok (.iload_n 2, 1) := by decide +kernel
theorem dX12_isRightWithout_36 : decode cX12_isRightWithout 36 = .ok (.invokevirtual 371, 3) := by decide +kernel
theorem dX12_isRightWithout_39 : decode cX12_isRightWithout 39 = .ok (.invokevirtual 365, 3) := by decide +kernel
theorem dX12_isRightWithout_42 : decode cX12_isRightWithout 42 = .ok (.ifCond .ge 5, 3) := by decide +kernel
theorem dX12_isRightWithout_45 : decode cX12_isRightWithout 45 = .ok (.iconst 0, 1) := by decide +kernel
theorem dX12_isRightWithout_46 : decode cX12_isRightWithout 46 = .ok (.ireturn, 1) := by decide +kernel
theorem dX12_isRightWithout_47 : decode cX12_isRightWithout 47 = .ok (.iload_n 3, 1) := by decide +kernel
theorem dX12_isRightWithout_48 : decode cX12_isRightWithout 48 = .ok (.istore_n 2, 1) := by decide +kernel
theorem dX12_isRightWithout_49 : decode cX12_isRightWithout 49 = .ok (.iinc 3 1, 3) := by decide +kernel
theorem dX12_isRightWithout_52 : decode cX12_isRightWithout 52 = .ok (.goto (-48), 3) := by decide +kernel
theorem dX12_isRightWithout_55 : decode cX12_isRightWithout 55 = .ok (.iconst 1, 1) := by decide +kernel
theorem dX12_isRightWithout_56 : decode cX12_isRightWithout 56 = .ok (.ireturn, 1) := by decide +kernel
abbrev mX12_isRightWithout : zq_M := (cX12_isRightWithout, RX12, "isRightWithout", (some .boolean), 4)
theorem dX12_out_0 : decode cX12_out 0 = .ok (.iload_n 1, 1) := by decide +kernel
theorem dX12_out_1 : decode cX12_out 1 = .ok (.iconst 0, 1) := by decide +kernel
theorem dX12_out_2 : decode cX12_out 2 = .ok (.iconst 1, 1) := by decide +kernel
theorem dX12_out_3 : decode cX12_out 3 = .ok (.invokestatic 18, 3) := by decide +kernel
theorem dX12_out_6 : decode cX12_out 6 = .ok (.ifCond .ne 5, 3) := by decide +kernel
theorem dX12_out_9 : decode cX12_out 9 = .ok (.iconst (-1), 1) := by decide +kernel
theorem dX12_out_10 : decode cX12_out 10 = .ok (.ireturn, 1) := by decide +kernel
theorem dX12_out_11 : decode cX12_out 11 = .ok (.iconst (-1), 1) := by decide +kernel
theorem dX12_out_12 : decode cX12_out 12 = .ok (.istore_n 2, 1) := by decide +kernel
theorem dX12_out_13 : decode cX12_out 13 = .ok (.iconst 0, 1) := by decide +kernel
theorem dX12_out_14 : decode cX12_out 14 = .ok (.istore_n 3, 1) := by decide +kernel
theorem dX12_out_15 : decode cX12_out 15 = .ok (.iload_n 3, 1) := by decide +kernel
theorem dX12_out_16 : decode cX12_out 16 = .ok (.iconst 1, 1) := by decide +kernel
theorem dX12_out_17 : decode cX12_out 17 = .ok (.aload_n 0, 1) := by decide +kernel
theorem dX12_out_18 : decode cX12_out 18 = .ok (.invokevirtual 141, 3) := by decide +kernel
theorem dX12_out_21 : decode cX12_out 21 = .ok (.ishl, 1) := by decide +kernel
theorem dX12_out_22 : decode cX12_out 22 = .ok (.if_icmp .ge 35, 3) := by decide +kernel
theorem dX12_out_25 : decode cX12_out 25 = .ok (.iload_n 2, 1) := by decide +kernel
theorem dX12_out_26 : decode cX12_out 26 = .ok (.iconst (-1), 1) := by decide +kernel
theorem dX12_out_27 : decode cX12_out 27 = .ok (.if_icmp .eq 14, 3) := by decide +kernel
theorem dX12_out_30 : decode cX12_out 30 = .ok (.iload_n 3, 1) := by decide +kernel
theorem dX12_out_31 : decode cX12_out 31 = .ok (.invokestatic 380, 3) := by decide +kernel
theorem dX12_out_34 : decode cX12_out 34 = .ok (.iload_n 2, 1) := by decide +kernel
theorem dX12_out_35 : decode cX12_out 35 = .ok (.invokestatic 380, 3) := by decide +kernel
theorem dX12_out_38 : decode cX12_out 38 = .ok (.if_icmp .ge 13, 3) := by decide +kernel
theorem dX12_out_41 : decode cX12_out 41 = .ok (.aload_n 0, 1) := by decide +kernel
theorem dX12_out_42 : decode cX12_out 42 = .ok (.iload_n 3, 1) := by decide +kernel
theorem dX12_out_43 : decode cX12_out 43 = .ok (.invokevirtual 383, 3) := by decide +kernel
theorem dX12_out_46 : decode cX12_out 46 = .ok (.ifCond .eq 5, 3) := by decide +kernel
theorem dX12_out_49 : decode cX12_out 49 = .ok (.iload_n 3, 1) := by decide +kernel
theorem dX12_out_50 : decode cX12_out 50 = .ok (.istore_n 2, 1) := by decide +kernel
theorem dX12_out_51 : decode cX12_out 51 = .ok (.iinc 3 1, 3) := by decide +kernel
theorem dX12_out_54 : decode cX12_out 54 = .ok (.goto (-39), 3) := by decide +kernel
theorem dX12_out_57 : decode cX12_out 57 = .ok (.iload_n 1, 1) := by decide +kernel
theorem dX12_out_58 : decode cX12_out 58 = .ok (.ifCond .ne 10, 3) := by decide +kernel
theorem dX12_out_61 : decode cX12_out 61 = .ok (.iload_n 2, 1) := by decide +kernel
theorem dX12_out_62 : decode cX12_out 62 = .ok (.invokestatic 380, 3) := by decide +kernel
theorem dX12_out_65 : decode cX12_out 65 = .ok (.goto 4, 3) := by decide +kernel
theorem dX12_out_68 : decode cX12_out 68 = .ok (.iload_n 2, 1) := by decide +kernel
theorem dX12_out_69 : decode cX12_out 69 = .ok (.ireturn, 1) := by decide +kernel
abbrev mX12_out : zq_M := (cX12_out, RX12, "out", (some .int), 4)
section ZL4
variable {l : Launch} {G : zq_G} {D n m : Nat} {σ : zm_S} {ρ : Nat → zq_E} {post : Option Value → Nat → (Nat → zq_E) → Prop} {x w rk : Nat → Nat}
theorem zm_compares_loop {a b : Nat} (hD : 2 ≤ D) (ha : zvn a) (hb : zvn b) (hr : ∀ y, 1 ≤ y → y ≤ 5 → σ.2.1 76 y = nI (rk y) ∧ rk y < 5) (hp : ∀ r : Int32, decide (r < 0) = zah rk a b → decide (0 < r) = zah rk b a → post (some (.int r)) n (zm_h σ ρ)) :
    ∀ k i : Nat, i + k = min (zlen a) (zlen b) → zah rk a b = zahF rk a b k i → zah rk b a = zahF rk b a k i → zq_At l G (zq_rm D 0 0) mX12_compares (zq_QF G post 0 0) 15 [(0, .ref 70), (1, .int (nI a)), (2, .int (nI b)), (3, .int (nI (min (zlen a) (zlen b)))), (4, .int (nI i))] [] n (zm_h σ ρ) 0 0 := by
  intro k
  have hla := zlen_le a
  have hlb := zlen_le b
  have ha5 := ha.2.1
  have hb5 := hb.2.1
  induction k with
  | zero =>
    intro i hi e1 e2
    obtain rfl : i = min (zlen a) (zlen b) := hi
    refine at_iload dX12_compares_15 rfl ?_
    refine at_iload_n dX12_compares_17 rfl ?_
    refine at_geN (tgt := 60) dX12_compares_18 (by decide) (by omega) (by omega) (fun c18 => ?_) (fun c18 => ?_)
    · refine at_iload_n dX12_compares_60 rfl ?_
      refine at_callS1 (d := D - 1) dX12_compares_61 ms_X12_22 (Nat.le_of_ble_eq_true rfl) (zq_r0 (by omega) (by omega) (by omega)) ?_
      refine zm_lengthOf (by omega) ?_
      refine at_iload_n dX12_compares_64 rfl ?_
      refine at_callS1 (d := D - 1) dX12_compares_65 ms_X12_22 (Nat.le_of_ble_eq_true rfl) (zq_r0 (by omega) (by omega) (by omega)) ?_
      refine zm_lengthOf (by omega) ?_
      refine at_isub dX12_compares_68 ?_
      refine at_iret dX12_compares_69 rfl (by omega) (by omega) ?_
      refine hp _ ?_ ?_
      · rw [e1, decide_eq_decide.mpr (zsub_lt (by omega) (by omega))]; rfl
      · rw [e2, decide_eq_decide.mpr (zsub_gt (by omega) (by omega))]; rfl
    · omega
  | succ k ih =>
    intro i hi e1 e2
    have h1 := zvn_at ha (k := i) (by omega)
    have h2 := zvn_at hb (k := i) (by omega)
    obtain ⟨r1, r1l⟩ := hr _ h1.1 h1.2
    obtain ⟨r2, r2l⟩ := hr _ h2.1 h2.2
    have hn := ih (i + 1) (by omega)
    unfold zahF at e1 e2
    refine at_iload dX12_compares_15 rfl ?_
    refine at_iload_n dX12_compares_17 rfl ?_
    refine at_geN (tgt := 60) dX12_compares_18 (by decide) (by omega) (by omega) (fun c18 => ?_) (fun c18 => ?_)
    · omega
    · refine at_aload_n dX12_compares_21 rfl ?_
      refine at_get dX12_compares_22 fl_X12_55 rfl rfl ?_
      refine at_iload_n dX12_compares_25 rfl ?_
      refine at_iload dX12_compares_26 rfl ?_
      refine at_callS2 (d := D - 1) dX12_compares_28 ms_X12_28 (Nat.le_of_ble_eq_true rfl) (zq_r0 (by omega) (by omega) (by omega)) ?_
      refine zm_letterAt (by omega) (by omega) (by omega) ?_
      refine at_mald (a := 76) dX12_compares_31 (by decide) (by decide) (by decide) (by decide) rfl rfl (by show _ < 6; omega) (by decide) ?_
      refine at_aload_n dX12_compares_32 rfl ?_
      refine at_get dX12_compares_33 fl_X12_55 rfl rfl ?_
      refine at_iload_n dX12_compares_36 rfl ?_
      refine at_iload dX12_compares_37 rfl ?_
      refine at_callS2 (d := D - 1) dX12_compares_39 ms_X12_28 (Nat.le_of_ble_eq_true rfl) (zq_r0 (by omega) (by omega) (by omega)) ?_
      refine zm_letterAt (by omega) (by omega) (by omega) ?_
      refine at_mald (a := 76) dX12_compares_42 (by decide) (by decide) (by decide) (by decide) rfl rfl (by show _ < 6; omega) (by decide) ?_
      rw [r1, r2]
      refine at_isub dX12_compares_43 ?_
      refine at_istore dX12_compares_44 (by decide) ?_
      refine at_iload dX12_compares_46 rfl ?_
      refine at_if_eq (tgt := 54) dX12_compares_48 (by decide) (fun c48 => ?_) (fun c48 => ?_)
      · have c := (zsub_0 (by omega) (by omega)).mp c48
        rw [if_pos c] at e1
        rw [if_pos c.symm] at e2
        refine at_iincN dX12_compares_54 rfl (by decide) ?_
        refine at_goto (tgt := 15) dX12_compares_57 (by decide) ?_
        exact at_lv [0, 1, 2, 3, 4] (hn e1 e2)
      · have c : ¬ rk (zlt a i) = rk (zlt b i) := fun q => c48 ((zsub_0 (by omega) (by omega)).mpr q)
        rw [if_neg c] at e1
        rw [if_neg (fun q => c q.symm)] at e2
        refine at_iload dX12_compares_51 rfl ?_
        refine at_iret dX12_compares_53 rfl (by omega) (by omega) ?_
        refine hp _ ?_ ?_
        · rw [e1]; exact decide_eq_decide.mpr (zsub_lt (by omega) (by omega))
        · rw [e2]; exact decide_eq_decide.mpr (zsub_gt (by omega) (by omega))
theorem zm_compares {a b : Nat} (hD : 3 ≤ D) (ha : zvn a) (hb : zvn b) (hr : ∀ y, 1 ≤ y → y ≤ 5 → σ.2.1 76 y = nI (rk y) ∧ rk y < 5) (hp : ∀ r : Int32, decide (r < 0) = zah rk a b → decide (0 < r) = zah rk b a → post (some (.int r)) n (zm_h σ ρ)) : zq_Runs l G D 0 0 yX12_compares [.ref 70, .int (nI a), .int (nI b)] n (zm_h σ ρ) post := by
  have hla := zlen_le a
  have hlb := zlen_le b
  have ha5 := ha.2.1
  have hb5 := hb.2.1
  have e : (if nI (zlen a) < nI (zlen b) then nI (zlen a) else nI (zlen b)) = nI (min (zlen a) (zlen b)) := by
    by_cases h : zlen a < zlen b
    · rw [if_pos (nI_lt h (by omega)), Nat.min_eq_left (by omega)]
    · rw [if_neg (nI_nlt (by omega) (by omega)), Nat.min_eq_right (by omega)]
  have h0 := zm_compares_loop (D := D) (l := l) (G := G) (by omega) ha hb hr hp (min (zlen a) (zlen b)) 0 (Nat.zero_add _) rfl (by unfold zah; rw [Nat.min_comm])
  refine zq_enter (cc := cX12_compares) (nL := 6) (ret := (some .int)) cw_X12_compares (by decide) rfl (Nat.le_of_ble_eq_true rfl) ?_
  refine at_iload_n dX12_compares_0 rfl ?_
  refine at_callS1 (d := D - 1) dX12_compares_1 ms_X12_22 (Nat.le_of_ble_eq_true rfl) (zq_r0 (by omega) (by omega) (by omega)) ?_
  refine zm_lengthOf (by omega) ?_
  refine at_iload_n dX12_compares_4 rfl ?_
  refine at_callS1 (d := D - 1) dX12_compares_5 ms_X12_22 (Nat.le_of_ble_eq_true rfl) (zq_r0 (by omega) (by omega) (by omega)) ?_
  refine zm_lengthOf (by omega) ?_
  refine at_callS2 (d := D - 1) dX12_compares_8 ms_X12_362 (Nat.le_of_ble_eq_true rfl) (zq_r0 (by omega) (by omega) (by omega)) ?_
  refine zm_lesser ?_
  rw [e]
  refine at_istore_n dX12_compares_11 rfl (by decide) ?_
  refine at_iconst dX12_compares_12 (v := nI 0) (by decide) ?_
  refine at_istore dX12_compares_13 (by decide) ?_
  exact h0
theorem zm_comparesTwo {p q : Nat} (hD : 4 ≤ D) (hC : zC σ m x w rk) (h1 : p < m) (h2 : q < m) (hp : ∀ r : Int32, decide (r < 0) = zah rk (x p) (x q) → decide (0 < r) = zah rk (x q) (x p) → post (some (.int r)) n (zm_h σ ρ)) : zq_Runs l G D 0 0 yX12_comparesTwo [.ref 70, .int (nI p), .int (nI q)] n (zm_h σ ρ) post := by
  have hm7 := hC.2.1
  refine zq_enter (cc := cX12_comparesTwo) (nL := 3) (ret := (some .int)) cw_X12_comparesTwo (by decide) rfl (Nat.le_of_ble_eq_true rfl) ?_
  refine at_aload_n dX12_comparesTwo_0 rfl ?_
  refine at_aload_n dX12_comparesTwo_1 rfl ?_
  refine at_get dX12_comparesTwo_2 fl_X12_42 rfl rfl ?_
  refine at_iconst dX12_comparesTwo_5 (v := nI 0) (by decide) ?_
  refine at_iload_n dX12_comparesTwo_6 rfl ?_
  refine at_iaddN dX12_comparesTwo_7 ?_
  refine at_mald (a := 72) dX12_comparesTwo_8 (by decide) (by decide) (by decide) (by decide) rfl rfl (by show _ < 5684; omega) (by decide) ?_
  rw [Nat.zero_add p, (hC.2.2.1 p h1).1]
  refine at_aload_n dX12_comparesTwo_9 rfl ?_
  refine at_get dX12_comparesTwo_10 fl_X12_42 rfl rfl ?_
  refine at_iconst dX12_comparesTwo_13 (v := nI 0) (by decide) ?_
  refine at_iload_n dX12_comparesTwo_14 rfl ?_
  refine at_iaddN dX12_comparesTwo_15 ?_
  refine at_mald (a := 72) dX12_comparesTwo_16 (by decide) (by decide) (by decide) (by decide) rfl rfl (by show _ < 5684; omega) (by decide) ?_
  rw [Nat.zero_add q, (hC.2.2.1 q h2).1]
  refine at_callV2 (d := D - 1) dX12_comparesTwo_17 mv_X12_365 rfl (Nat.le_of_ble_eq_true rfl) (zq_r0 (by omega) (by omega) (by omega)) ?_
  refine zm_compares (by omega) (hC.2.2.1 p h1).2 (hC.2.2.1 q h2).2 hC.2.2.2.2 (fun r hr1 hr2 => ?_)
  refine at_iret dX12_comparesTwo_20 rfl (by omega) (by omega) ?_
  exact hp r hr1 hr2
/-- the answer of ahead -/
def zahA (rk : Nat → Nat) (a b : Nat) : Int32 := if zah rk a b = true then 1 else if zah rk b a = true then 2 else 0
theorem zm_ahead {p q : Int32} (hD : 5 ≤ D) (hC : zC σ m x w rk) (hf : (zix m p && zix m q) = false → post (some (.int (-1))) n (zm_h σ ρ)) (ht : ∀ i j, i < m → j < m → p = nI i → q = nI j → post (some (.int (zahA rk (x i) (x j)))) n (zm_h σ ρ)) : zq_Runs l G D 0 0 yX12_ahead [.ref 70, .int p, .int q] n (zm_h σ ρ) post := by
  have hm := hC.1
  have hm7 := hC.2.1
  refine zq_enter (cc := cX12_ahead) (nL := 4) (ret := (some .int)) cw_X12_ahead (by decide) rfl (Nat.le_of_ble_eq_true rfl) ?_
  refine at_aload_n dX12_ahead_0 rfl ?_
  refine at_iload_n dX12_ahead_1 rfl ?_
  refine at_callV1 (d := D - 1) dX12_ahead_2 mv_X12_152 rfl (Nat.le_of_ble_eq_true rfl) (zq_r0 (by omega) (by omega) (by omega)) ?_
  refine zm_isPerson (by omega) hm hm7 ?_
  refine at_if_eqB (tgt := 16) dX12_ahead_5 (by decide) (fun c5 => ?_) (fun c5 => ?_)
  · have hp := hf (by rw [c5]; rfl)
    refine at_iconst dX12_ahead_16 (v := -1) rfl ?_
    refine at_iret dX12_ahead_17 rfl (by omega) (by omega) ?_
    exact hp
  · refine at_aload_n dX12_ahead_8 rfl ?_
    refine at_iload_n dX12_ahead_9 rfl ?_
    refine at_callV1 (d := D - 1) dX12_ahead_10 mv_X12_152 rfl (Nat.le_of_ble_eq_true rfl) (zq_r0 (by omega) (by omega) (by omega)) ?_
    refine zm_isPerson (by omega) hm hm7 ?_
    refine at_if_neB (tgt := 18) dX12_ahead_13 (by decide) (fun c13 => ?_) (fun c13 => ?_)
    · obtain ⟨i, hi, rfl⟩ := zix_t c5
      obtain ⟨j, hj, rfl⟩ := zix_t c13
      have hp := ht i j hi hj rfl rfl
      unfold zahA at hp
      refine at_aload_n dX12_ahead_18 rfl ?_
      refine at_iload_n dX12_ahead_19 rfl ?_
      refine at_iload_n dX12_ahead_20 rfl ?_
      refine at_callV2 (d := D - 1) dX12_ahead_21 mv_X12_368 rfl (Nat.le_of_ble_eq_true rfl) (zq_r0 (by omega) (by omega) (by omega)) ?_
      refine zm_comparesTwo (by omega) hC hi hj (fun r hr1 hr2 => ?_)
      refine at_istore_n dX12_ahead_24 rfl (by decide) ?_
      refine at_iload_n dX12_ahead_25 rfl ?_
      refine at_if_ge (tgt := 33) dX12_ahead_26 (by decide) (fun c26 => ?_) (fun c26 => ?_)
      · refine at_iload_n dX12_ahead_33 rfl ?_
        refine at_if_le (tgt := 41) dX12_ahead_34 (by decide) (fun c34 => ?_) (fun c34 => ?_)
        · rw [if_neg (by rw [← hr1]; exact fun h => Int32.not_lt.mpr c26 (of_decide_eq_true h)), if_neg (by rw [← hr2]; exact fun h => Int32.not_lt.mpr c34 (of_decide_eq_true h))] at hp
          refine at_iconst dX12_ahead_41 (v := nI 0) (by decide) ?_
          refine at_iret dX12_ahead_42 rfl (by omega) (by omega) ?_
          exact hp
        · rw [if_neg (by rw [← hr1]; exact fun h => Int32.not_lt.mpr c26 (of_decide_eq_true h)), if_pos (by rw [← hr2]; exact decide_eq_true (Int32.not_le.mp c34))] at hp
          refine at_iconst dX12_ahead_37 (v := nI 2) (by decide) ?_
          refine at_goto (tgt := 42) dX12_ahead_38 (by decide) ?_
          refine at_iret dX12_ahead_42 rfl (by omega) (by omega) ?_
          exact hp
      · rw [if_pos (by rw [← hr1]; exact decide_eq_true (Int32.not_le.mp c26))] at hp
        refine at_iconst dX12_ahead_29 (v := nI 1) (by decide) ?_
        refine at_goto (tgt := 42) dX12_ahead_30 (by decide) ?_
        refine at_iret dX12_ahead_42 rfl (by omega) (by omega) ?_
        exact hp
    · have hp := hf (by rw [c13, Bool.and_false])
      refine at_iconst dX12_ahead_16 (v := -1) rfl ?_
      refine at_iret dX12_ahead_17 rfl (by omega) (by omega) ?_
      exact hp
theorem zm_breaksAt {k : Nat} (hD : 4 ≤ D) (hC : zC σ m x w rk) (hk : k + 1 < m) (hp : post (some (.int (zb (zah rk (x (w (k + 1))) (x (w k)))))) n (zm_h σ ρ)) : zq_Runs l G D 0 0 yX12_breaksAt [.ref 70, .int (nI k)] n (zm_h σ ρ) post := by
  have hm7 := hC.2.1
  obtain ⟨a1, a2⟩ := hC.2.2.2.1 k (by omega)
  obtain ⟨b1, b2⟩ := hC.2.2.2.1 (k + 1) (by omega)
  refine zq_enter (cc := cX12_breaksAt) (nL := 2) (ret := (some .boolean)) cw_X12_breaksAt (by decide) rfl (Nat.le_of_ble_eq_true rfl) ?_
  refine at_aload_n dX12_breaksAt_0 rfl ?_
  refine at_aload_n dX12_breaksAt_1 rfl ?_
  refine at_iload_n dX12_breaksAt_2 rfl ?_
  refine at_iconst dX12_breaksAt_3 (v := nI 1) (by decide) ?_
  refine at_iaddN dX12_breaksAt_4 ?_
  refine at_callV1 (d := D - 1) dX12_breaksAt_5 mv_X12_371 rfl (Nat.le_of_ble_eq_true rfl) (zq_r0 (by omega) (by omega) (by omega)) ?_
  refine zm_nameAt (by omega) b1 (by omega) ?_
  rw [(hC.2.2.1 _ b2).1]
  refine at_aload_n dX12_breaksAt_8 rfl ?_
  refine at_iload_n dX12_breaksAt_9 rfl ?_
  refine at_callV1 (d := D - 1) dX12_breaksAt_10 mv_X12_371 rfl (Nat.le_of_ble_eq_true rfl) (zq_r0 (by omega) (by omega) (by omega)) ?_
  refine zm_nameAt (by omega) a1 (by omega) ?_
  rw [(hC.2.2.1 _ a2).1]
  refine at_callV2 (d := D - 1) dX12_breaksAt_13 mv_X12_365 rfl (Nat.le_of_ble_eq_true rfl) (zq_r0 (by omega) (by omega) (by omega)) ?_
  refine zm_compares (by omega) (hC.2.2.1 _ b2).2 (hC.2.2.1 _ a2).2 hC.2.2.2.2 (fun r hr1 hr2 => ?_)
  refine at_if_ge (tgt := 23) dX12_breaksAt_16 (by decide) (fun c16 => ?_) (fun c16 => ?_)
  · rw [← hr1, decide_eq_false (Int32.not_lt.mpr c16)] at hp
    refine at_iconst dX12_breaksAt_23 (v := nI 0) (by decide) ?_
    refine at_zret dX12_breaksAt_24 rfl (by omega) (by omega) (by first | exact Or.inl rfl | exact Or.inr rfl | assumption) ?_
    exact hp
  · rw [← hr1, decide_eq_true (Int32.not_le.mp c16)] at hp
    refine at_iconst dX12_breaksAt_19 (v := nI 1) (by decide) ?_
    refine at_goto (tgt := 24) dX12_breaksAt_20 (by decide) ?_
    refine at_zret dX12_breaksAt_24 rfl (by omega) (by omega) (by first | exact Or.inl rfl | exact Or.inr rfl | assumption) ?_
    exact hp
/-- of the places from p on (k of them) at which B is so: the i-th, or how many (c so far) -/
def zfind (B : Nat → Bool) (i : Int32) : Nat → Nat → Nat → Int32
  | 0, _, c => if i = -1 then nI c else -1
  | k + 1, p, c => if B p = true then (if nI c = i then nI p else zfind B i k (p + 1) (c + 1)) else zfind B i k (p + 1) c
/-- where the row breaks -/
def zbk (rk x w : Nat → Nat) (p : Nat) : Bool := zah rk (x (w (p + 1))) (x (w p))
theorem zm_breaks_loop {i : Int32} (hD : 5 ≤ D) (hC : zC σ m x w rk) : ∀ k p c : Nat, p + k = m - 1 → c ≤ p → post (some (.int (zfind (zbk rk x w) i k p c))) n (zm_h σ ρ) → zq_At l G (zq_rm D 0 0) mX12_breaks (zq_QF G post 0 0) 11 [(0, .ref 70), (1, .int i), (2, .int (nI c)), (3, .int (nI p))] [] n (zm_h σ ρ) 0 0 := by
  have hm := hC.1
  have hm7 := hC.2.1
  intro k
  induction k with
  | zero =>
    intro p c hi hc hp
    unfold zfind at hp
    by_cases h0 : m = 0
    · subst h0
      refine at_iload_n dX12_breaks_11 rfl ?_
      refine at_aload_n dX12_breaks_12 rfl ?_
      refine at_callV0 (d := D - 1) dX12_breaks_13 mv_X12_141 rfl (Nat.le_of_ble_eq_true rfl) (zq_r0 (by omega) (by omega) (by omega)) ?_
      refine zm_many hm ?_
      refine at_iconst dX12_breaks_16 (v := nI 1) (by decide) ?_
      refine at_isub dX12_breaks_17 ?_
      refine at_icmp_ge (tgt := 48) dX12_breaks_18 (by decide) (fun c18 => ?_) (fun c18 => ?_)
      · refine at_iload_n dX12_breaks_48 rfl ?_
        refine at_iconst dX12_breaks_49 (v := -1) rfl ?_
        refine at_icmp_ne (tgt := 57) dX12_breaks_50 (by decide) (fun c50 => ?_) (fun c50 => ?_)
        · rw [if_neg c50] at hp
          refine at_iconst dX12_breaks_57 (v := -1) rfl ?_
          refine at_iret dX12_breaks_58 rfl (by omega) (by omega) ?_
          exact hp
        · rw [if_pos c50] at hp
          refine at_iload_n dX12_breaks_53 rfl ?_
          refine at_goto (tgt := 58) dX12_breaks_54 (by decide) ?_
          refine at_iret dX12_breaks_58 rfl (by omega) (by omega) ?_
          exact hp
      · exact absurd (Int32.le_trans (by decide : nI 0 - nI 1 ≤ nI 0) (nI_pos' (n := p) (by omega))) c18
    · refine at_iload_n dX12_breaks_11 rfl ?_
      refine at_aload_n dX12_breaks_12 rfl ?_
      refine at_callV0 (d := D - 1) dX12_breaks_13 mv_X12_141 rfl (Nat.le_of_ble_eq_true rfl) (zq_r0 (by omega) (by omega) (by omega)) ?_
      refine zm_many hm ?_
      refine at_iconst dX12_breaks_16 (v := nI 1) (by decide) ?_
      refine at_isubN dX12_breaks_17 (by omega) ?_
      refine at_geN (tgt := 48) dX12_breaks_18 (by decide) (by omega) (by omega) (fun c18 => ?_) (fun c18 => ?_)
      · refine at_iload_n dX12_breaks_48 rfl ?_
        refine at_iconst dX12_breaks_49 (v := -1) rfl ?_
        refine at_icmp_ne (tgt := 57) dX12_breaks_50 (by decide) (fun c50 => ?_) (fun c50 => ?_)
        · rw [if_neg c50] at hp
          refine at_iconst dX12_breaks_57 (v := -1) rfl ?_
          refine at_iret dX12_breaks_58 rfl (by omega) (by omega) ?_
          exact hp
        · rw [if_pos c50] at hp
          refine at_iload_n dX12_breaks_53 rfl ?_
          refine at_goto (tgt := 58) dX12_breaks_54 (by decide) ?_
          refine at_iret dX12_breaks_58 rfl (by omega) (by omega) ?_
          exact hp
      · omega
  | succ k ih =>
    intro p c hi hc hp
    unfold zfind at hp
    refine at_iload_n dX12_breaks_11 rfl ?_
    refine at_aload_n dX12_breaks_12 rfl ?_
    refine at_callV0 (d := D - 1) dX12_breaks_13 mv_X12_141 rfl (Nat.le_of_ble_eq_true rfl) (zq_r0 (by omega) (by omega) (by omega)) ?_
    refine zm_many hm ?_
    refine at_iconst dX12_breaks_16 (v := nI 1) (by decide) ?_
    refine at_isubN dX12_breaks_17 (by omega) ?_
    refine at_geN (tgt := 48) dX12_breaks_18 (by decide) (by omega) (by omega) (fun c18 => ?_) (fun c18 => ?_)
    · omega
    · refine at_aload_n dX12_breaks_21 rfl ?_
      refine at_iload_n dX12_breaks_22 rfl ?_
      refine at_callV1 (d := D - 1) dX12_breaks_23 mv_X12_374 rfl (Nat.le_of_ble_eq_true rfl) (zq_r0 (by omega) (by omega) (by omega)) ?_
      refine zm_breaksAt (by omega) hC (by omega) ?_
      refine at_if_neB (tgt := 32) dX12_breaks_26 (by decide) (fun c26 => ?_) (fun c26 => ?_)
      · rw [if_pos (show zbk rk x w p = true from c26)] at hp
        refine at_iload_n dX12_breaks_32 rfl ?_
        refine at_iload_n dX12_breaks_33 rfl ?_
        refine at_icmp_ne (tgt := 39) dX12_breaks_34 (by decide) (fun c34 => ?_) (fun c34 => ?_)
        · rw [if_neg c34] at hp
          refine at_iincN dX12_breaks_39 rfl (by decide) ?_
          refine at_iincN dX12_breaks_42 rfl (by decide) ?_
          refine at_goto (tgt := 11) dX12_breaks_45 (by decide) ?_
          first | exact ih (p + 1) (c + 1) (by omega) (by omega) hp | exact ih (p + 1) c (by omega) (by omega) hp
        · rw [if_pos c34] at hp
          refine at_iload_n dX12_breaks_37 rfl ?_
          refine at_iret dX12_breaks_38 rfl (by omega) (by omega) ?_
          exact hp
      · rw [if_neg (by rw [show zbk rk x w p = false from c26]; decide)] at hp
        refine at_goto (tgt := 42) dX12_breaks_29 (by decide) ?_
        refine at_iincN dX12_breaks_42 rfl (by decide) ?_
        refine at_goto (tgt := 11) dX12_breaks_45 (by decide) ?_
        first | exact ih (p + 1) (c + 1) (by omega) (by omega) hp | exact ih (p + 1) c (by omega) (by omega) hp
theorem zm_breaks {i : Int32} (hD : 6 ≤ D) (hC : zC σ m x w rk) (hp : post (some (.int (if i < -1 then -1 else zfind (zbk rk x w) i (m - 1) 0 0))) n (zm_h σ ρ)) : zq_Runs l G D 0 0 yX12_breaks [.ref 70, .int i] n (zm_h σ ρ) post := by
  refine zq_enter (cc := cX12_breaks) (nL := 4) (ret := (some .int)) cw_X12_breaks (by decide) rfl (Nat.le_of_ble_eq_true rfl) ?_
  refine at_iload_n dX12_breaks_0 rfl ?_
  refine at_iconst dX12_breaks_1 (v := -1) rfl ?_
  refine at_icmp_ge (tgt := 7) dX12_breaks_2 (by decide) (fun c2 => ?_) (fun c2 => ?_)
  · rw [if_neg (Int32.not_lt.mpr c2)] at hp
    refine at_iconst dX12_breaks_7 (v := nI 0) (by decide) ?_
    refine at_istore_n dX12_breaks_8 rfl (by decide) ?_
    refine at_iconst dX12_breaks_9 (v := nI 0) (by decide) ?_
    refine at_istore_n dX12_breaks_10 rfl (by decide) ?_
    exact zm_breaks_loop (by omega) hC (m - 1) 0 0 (Nat.zero_add _) (Nat.le_refl _) hp
  · rw [if_pos (Int32.not_le.mp c2)] at hp
    refine at_iconst dX12_breaks_5 (v := -1) rfl ?_
    refine at_iret dX12_breaks_6 rfl (by omega) (by omega) ?_
    exact hp
/-- how many of the places b .. (k of them) are wrong behind a, c so far -/
def zswI (rk x w : Nat → Nat) (a : Nat) : Nat → Nat → Nat → Nat
  | 0, _, c => c
  | k + 1, b, c => zswI rk x w a k (b + 1) (c + if zah rk (x (w b)) (x (w a)) = true then 1 else 0)
def zswO (rk x w : Nat → Nat) (m : Nat) : Nat → Nat → Nat → Nat
  | 0, _, c => c
  | k + 1, a, c => zswO rk x w m k (a + 1) (zswI rk x w a (m - (a + 1)) (a + 1) c)
theorem zswI_le (rk x w : Nat → Nat) (a : Nat) : ∀ k b c, zswI rk x w a k b c ≤ c + k
  | 0, _, _ => Nat.le_refl _
  | k + 1, b, c => by
    unfold zswI
    have h1 : (if zah rk (x (w b)) (x (w a)) = true then 1 else 0) ≤ 1 := by split <;> omega
    generalize (if zah rk (x (w b)) (x (w a)) = true then 1 else 0) = t at h1 ⊢
    have := zswI_le rk x w a k (b + 1) (c + t)
    omega
theorem zm_swapsI {a : Nat} (hD : 5 ≤ D) (hC : zC σ m x w rk) (ha : a < m) : ∀ k b c : Nat, b + k = m → a < b → zq_At l G (zq_rm D 0 0) mX12_swaps (zq_QF G post 0 0) 55 [(0, .ref 70), (1, .int (nI (zswI rk x w a k b c))), (2, .int (nI a)), (3, .int (nI m))] [] n (zm_h σ ρ) 0 0 → zq_At l G (zq_rm D 0 0) mX12_swaps (zq_QF G post 0 0) 16 [(0, .ref 70), (1, .int (nI c)), (2, .int (nI a)), (3, .int (nI b))] [] n (zm_h σ ρ) 0 0 := by
  have hm := hC.1
  have hm7 := hC.2.1
  intro k
  induction k with
  | zero =>
    intro b c hb hab hk
    obtain rfl : b = m := hb
    refine at_iload_n dX12_swaps_16 rfl ?_
    refine at_aload_n dX12_swaps_17 rfl ?_
    refine at_callV0 (d := D - 1) dX12_swaps_18 mv_X12_141 rfl (Nat.le_of_ble_eq_true rfl) (zq_r0 (by omega) (by omega) (by omega)) ?_
    refine zm_many hm ?_
    refine at_geN (tgt := 55) dX12_swaps_21 (by decide) (by omega) (by omega) (fun c21 => ?_) (fun c21 => ?_)
    · exact hk
    · omega
  | succ k ih =>
    intro b c hb hab hk
    obtain ⟨a1, a2⟩ := hC.2.2.2.1 a (by omega)
    obtain ⟨b1, b2⟩ := hC.2.2.2.1 b (by omega)
    unfold zswI at hk
    refine at_iload_n dX12_swaps_16 rfl ?_
    refine at_aload_n dX12_swaps_17 rfl ?_
    refine at_callV0 (d := D - 1) dX12_swaps_18 mv_X12_141 rfl (Nat.le_of_ble_eq_true rfl) (zq_r0 (by omega) (by omega) (by omega)) ?_
    refine zm_many hm ?_
    refine at_geN (tgt := 55) dX12_swaps_21 (by decide) (by omega) (by omega) (fun c21 => ?_) (fun c21 => ?_)
    · omega
    · refine at_iload_n dX12_swaps_24 rfl ?_
      refine at_aload_n dX12_swaps_25 rfl ?_
      refine at_aload_n dX12_swaps_26 rfl ?_
      refine at_iload_n dX12_swaps_27 rfl ?_
      refine at_callV1 (d := D - 1) dX12_swaps_28 mv_X12_371 rfl (Nat.le_of_ble_eq_true rfl) (zq_r0 (by omega) (by omega) (by omega)) ?_
      refine zm_nameAt (by omega) b1 (by omega) ?_
      rw [(hC.2.2.1 _ b2).1]
      refine at_aload_n dX12_swaps_31 rfl ?_
      refine at_iload_n dX12_swaps_32 rfl ?_
      refine at_callV1 (d := D - 1) dX12_swaps_33 mv_X12_371 rfl (Nat.le_of_ble_eq_true rfl) (zq_r0 (by omega) (by omega) (by omega)) ?_
      refine zm_nameAt (by omega) a1 (by omega) ?_
      rw [(hC.2.2.1 _ a2).1]
      refine at_callV2 (d := D - 1) dX12_swaps_36 mv_X12_365 rfl (Nat.le_of_ble_eq_true rfl) (zq_r0 (by omega) (by omega) (by omega)) ?_
      refine zm_compares (by omega) (hC.2.2.1 _ b2).2 (hC.2.2.1 _ a2).2 hC.2.2.2.2 (fun r hr1 hr2 => ?_)
      refine at_if_ge (tgt := 46) dX12_swaps_39 (by decide) (fun c39 => ?_) (fun c39 => ?_)
      · rw [← hr1, decide_eq_false (Int32.not_lt.mpr c39), if_neg (by decide)] at hk
        refine at_iconst dX12_swaps_46 (v := nI 0) (by decide) ?_
        refine at_iaddN dX12_swaps_47 ?_
        refine at_istore_n dX12_swaps_48 rfl (by decide) ?_
        refine at_iincN dX12_swaps_49 rfl (by decide) ?_
        refine at_goto (tgt := 16) dX12_swaps_52 (by decide) ?_
        first | exact ih (b + 1) (c + 1) (by omega) (by omega) hk | exact ih (b + 1) (c + 0) (by omega) (by omega) hk
      · rw [← hr1, decide_eq_true (Int32.not_le.mp c39), if_pos rfl] at hk
        refine at_iconst dX12_swaps_42 (v := nI 1) (by decide) ?_
        refine at_goto (tgt := 47) dX12_swaps_43 (by decide) ?_
        refine at_iaddN dX12_swaps_47 ?_
        refine at_istore_n dX12_swaps_48 rfl (by decide) ?_
        refine at_iincN dX12_swaps_49 rfl (by decide) ?_
        refine at_goto (tgt := 16) dX12_swaps_52 (by decide) ?_
        first | exact ih (b + 1) (c + 1) (by omega) (by omega) hk | exact ih (b + 1) (c + 0) (by omega) (by omega) hk
theorem zm_swapsO (hD : 5 ≤ D) (hC : zC σ m x w rk) : ∀ k a c : Nat, a + k = m → post (some (.int (nI (zswO rk x w m k a c)))) n (zm_h σ ρ) → zq_At l G (zq_rm D 0 0) mX12_swaps (zq_QF G post 0 0) 4 [(0, .ref 70), (1, .int (nI c)), (2, .int (nI a))] [] n (zm_h σ ρ) 0 0 := by
  have hm := hC.1
  have hm7 := hC.2.1
  intro k
  induction k with
  | zero =>
    intro a c ha hp
    obtain rfl : a = m := ha
    refine at_iload_n dX12_swaps_4 rfl ?_
    refine at_aload_n dX12_swaps_5 rfl ?_
    refine at_callV0 (d := D - 1) dX12_swaps_6 mv_X12_141 rfl (Nat.le_of_ble_eq_true rfl) (zq_r0 (by omega) (by omega) (by omega)) ?_
    refine zm_many hm ?_
    refine at_geN (tgt := 61) dX12_swaps_9 (by decide) (by omega) (by omega) (fun c9 => ?_) (fun c9 => ?_)
    · refine at_iload_n dX12_swaps_61 rfl ?_
      refine at_iret dX12_swaps_62 rfl (by omega) (by omega) ?_
      exact hp
    · omega
  | succ k ih =>
    intro a c ha hp
    unfold zswO at hp
    refine at_iload_n dX12_swaps_4 rfl ?_
    refine at_aload_n dX12_swaps_5 rfl ?_
    refine at_callV0 (d := D - 1) dX12_swaps_6 mv_X12_141 rfl (Nat.le_of_ble_eq_true rfl) (zq_r0 (by omega) (by omega) (by omega)) ?_
    refine zm_many hm ?_
    refine at_geN (tgt := 61) dX12_swaps_9 (by decide) (by omega) (by omega) (fun c9 => ?_) (fun c9 => ?_)
    · omega
    · refine at_iload_n dX12_swaps_12 rfl ?_
      refine at_iconst dX12_swaps_13 (v := nI 1) (by decide) ?_
      refine at_iaddN dX12_swaps_14 ?_
      refine at_istore_n dX12_swaps_15 rfl (by decide) ?_
      refine zm_swapsI hD hC (by omega) (m - (a + 1)) (a + 1) c (by omega) (by omega) ?_
      refine at_iincN dX12_swaps_55 rfl (by decide) ?_
      refine at_goto (tgt := 4) dX12_swaps_58 (by decide) ?_
      exact at_lv [0, 1, 2] (ih (a + 1) _ (by omega) hp)
theorem zm_swaps (hD : 6 ≤ D) (hC : zC σ m x w rk) (hp : post (some (.int (nI (zswO rk x w m m 0 0)))) n (zm_h σ ρ)) : zq_Runs l G D 0 0 yX12_swaps [.ref 70] n (zm_h σ ρ) post := by
  refine zq_enter (cc := cX12_swaps) (nL := 4) (ret := (some .int)) cw_X12_swaps (by decide) rfl (Nat.le_of_ble_eq_true rfl) ?_
  refine at_iconst dX12_swaps_0 (v := nI 0) (by decide) ?_
  refine at_istore_n dX12_swaps_1 rfl (by decide) ?_
  refine at_iconst dX12_swaps_2 (v := nI 0) (by decide) ?_
  refine at_istore_n dX12_swaps_3 rfl (by decide) ?_
  exact zm_swapsO (by omega) hC m 0 0 (Nat.zero_add _) hp
/-- whether the row is right without those at the places of s, from p on (k of them); the last one who stays is at q - 1 (q 0: none) -/
def zrwF (rk x w : Nat → Nat) (s : Nat) : Nat → Nat → Nat → Bool
  | 0, _, _ => true
  | k + 1, p, q => if s / 2 ^ p % 2 = 1 then zrwF rk x w s k (p + 1) q else if q ≠ 0 ∧ zah rk (x (w p)) (x (w (q - 1))) = true then false else zrwF rk x w s k (p + 1) (p + 1)
def zlast : Nat → Int32
  | 0 => -1
  | q + 1 => nI q
theorem zlast_ne {q : Nat} (h : q < 2147483647) : zlast q = -1 ↔ q = 0 := by
  cases q with
  | zero => exact ⟨fun _ => rfl, fun _ => rfl⟩
  | succ q =>
    refine ⟨fun e => ?_, fun e => by omega⟩
    have h1 : (nI q).toInt = -1 := by rw [show nI q = -1 from e]; rfl
    rw [nI_toInt (by omega)] at h1
    omega
theorem zm_isRightWithout_loop {s : Nat} (hD : 5 ≤ D) (hs : s < 2147483648) (hC : zC σ m x w rk) : ∀ k p q : Nat, p + k = m → q ≤ p → post (some (.int (zb (zrwF rk x w s k p q)))) n (zm_h σ ρ) → zq_At l G (zq_rm D 0 0) mX12_isRightWithout (zq_QF G post 0 0) 4 [(0, .ref 70), (1, .int (nI s)), (2, .int (zlast q)), (3, .int (nI p))] [] n (zm_h σ ρ) 0 0 := by
  have hm := hC.1
  have hm7 := hC.2.1
  intro k
  induction k with
  | zero =>
    intro p q hi hq hp
    obtain rfl : p = m := hi
    refine at_iload_n dX12_isRightWithout_4 rfl ?_
    refine at_aload_n dX12_isRightWithout_5 rfl ?_
    refine at_callV0 (d := D - 1) dX12_isRightWithout_6 mv_X12_141 rfl (Nat.le_of_ble_eq_true rfl) (zq_r0 (by omega) (by omega) (by omega)) ?_
    refine zm_many hm ?_
    refine at_geN (tgt := 55) dX12_isRightWithout_9 (by decide) (by omega) (by omega) (fun c9 => ?_) (fun c9 => ?_)
    · refine at_iconst dX12_isRightWithout_55 (v := nI 1) (by decide) ?_
      refine at_zret dX12_isRightWithout_56 rfl (by omega) (by omega) (by first | exact Or.inl rfl | exact Or.inr rfl | assumption) ?_
      exact hp
    · omega
  | succ k ih =>
    intro p q hi hq hp
    obtain ⟨a1, a2⟩ := hC.2.2.2.1 p (by omega)
    unfold zrwF at hp
    refine at_iload_n dX12_isRightWithout_4 rfl ?_
    refine at_aload_n dX12_isRightWithout_5 rfl ?_
    refine at_callV0 (d := D - 1) dX12_isRightWithout_6 mv_X12_141 rfl (Nat.le_of_ble_eq_true rfl) (zq_r0 (by omega) (by omega) (by omega)) ?_
    refine zm_many hm ?_
    refine at_geN (tgt := 55) dX12_isRightWithout_9 (by decide) (by omega) (by omega) (fun c9 => ?_) (fun c9 => ?_)
    · omega
    · refine at_iload_n dX12_isRightWithout_12 rfl ?_
      refine at_iload_n dX12_isRightWithout_13 rfl ?_
      refine at_callS2 (d := D - 1) dX12_isRightWithout_14 ms_X12_377 (Nat.le_of_ble_eq_true rfl) (zq_r0 (by omega) (by omega) (by omega)) ?_
      refine zm_isIn hs (by omega) ?_
      refine at_if_eqB (tgt := 23) dX12_isRightWithout_17 (by decide) (fun c17 => ?_) (fun c17 => ?_)
      · rw [if_neg (of_decide_eq_false c17)] at hp
        refine at_iload_n dX12_isRightWithout_23 rfl ?_
        refine at_iconst dX12_isRightWithout_24 (v := -1) rfl ?_
        refine at_icmp_eq (tgt := 47) dX12_isRightWithout_25 (by decide) (fun c25 => ?_) (fun c25 => ?_)
        · have hq0 := (zlast_ne (by omega)).mp c25
          rw [if_neg (fun h => h.1 hq0)] at hp
          refine at_iload_n dX12_isRightWithout_47 rfl ?_
          refine at_istore_n dX12_isRightWithout_48 rfl (by decide) ?_
          refine at_iincN dX12_isRightWithout_49 rfl (by decide) ?_
          refine at_goto (tgt := 4) dX12_isRightWithout_52 (by decide) ?_
          first | exact ih (p + 1) (p + 1) (by omega) (by omega) hp | exact ih (p + 1) q (by omega) (by omega) hp
        · have hq0 : q ≠ 0 := fun h => c25 ((zlast_ne (by omega)).mpr h)
          obtain ⟨q, rfl⟩ : ∃ r, q = r + 1 := ⟨q - 1, by omega⟩
          obtain ⟨b1, b2⟩ := hC.2.2.2.1 q (by omega)
          refine at_aload_n dX12_isRightWithout_28 rfl ?_
          refine at_aload_n dX12_isRightWithout_29 rfl ?_
          refine at_iload_n dX12_isRightWithout_30 rfl ?_
          refine at_callV1 (d := D - 1) dX12_isRightWithout_31 mv_X12_371 rfl (Nat.le_of_ble_eq_true rfl) (zq_r0 (by omega) (by omega) (by omega)) ?_
          refine zm_nameAt (by omega) a1 (by omega) ?_
          rw [(hC.2.2.1 _ a2).1]
          refine at_aload_n dX12_isRightWithout_34 rfl ?_
          refine at_iload_n dX12_isRightWithout_35 rfl ?_
          refine at_callV1 (d := D - 1) dX12_isRightWithout_36 mv_X12_371 rfl (Nat.le_of_ble_eq_true rfl) (zq_r0 (by omega) (by omega) (by omega)) ?_
          refine zm_nameAt (by omega) b1 (by omega) ?_
          rw [(hC.2.2.1 _ b2).1]
          refine at_callV2 (d := D - 1) dX12_isRightWithout_39 mv_X12_365 rfl (Nat.le_of_ble_eq_true rfl) (zq_r0 (by omega) (by omega) (by omega)) ?_
          refine zm_compares (by omega) (hC.2.2.1 _ a2).2 (hC.2.2.1 _ b2).2 hC.2.2.2.2 (fun r hr1 hr2 => ?_)
          refine at_if_ge (tgt := 47) dX12_isRightWithout_42 (by decide) (fun c42 => ?_) (fun c42 => ?_)
          · rw [if_neg (fun h => by rw [show q + 1 - 1 = q from rfl, ← hr1] at h; exact Int32.not_lt.mpr c42 (of_decide_eq_true h.2))] at hp
            refine at_iload_n dX12_isRightWithout_47 rfl ?_
            refine at_istore_n dX12_isRightWithout_48 rfl (by decide) ?_
            refine at_iincN dX12_isRightWithout_49 rfl (by decide) ?_
            refine at_goto (tgt := 4) dX12_isRightWithout_52 (by decide) ?_
            first | exact ih (p + 1) (p + 1) (by omega) (by omega) hp | exact ih (p + 1) q (by omega) (by omega) hp
          · rw [if_pos ⟨hq0, by rw [show q + 1 - 1 = q from rfl, ← hr1]; exact decide_eq_true (Int32.not_le.mp c42)⟩] at hp
            refine at_iconst dX12_isRightWithout_45 (v := nI 0) (by decide) ?_
            refine at_zret dX12_isRightWithout_46 rfl (by omega) (by omega) (by first | exact Or.inl rfl | exact Or.inr rfl | assumption) ?_
            exact hp
      · rw [if_pos (of_decide_eq_true c17)] at hp
        refine at_goto (tgt := 49) dX12_isRightWithout_20 (by decide) ?_
        refine at_iincN dX12_isRightWithout_49 rfl (by decide) ?_
        refine at_goto (tgt := 4) dX12_isRightWithout_52 (by decide) ?_
        first | exact ih (p + 1) (p + 1) (by omega) (by omega) hp | exact ih (p + 1) q (by omega) (by omega) hp
theorem zm_isRightWithout {s : Nat} (hD : 6 ≤ D) (hs : s < 2147483648) (hC : zC σ m x w rk) (hp : post (some (.int (zb (zrwF rk x w s m 0 0)))) n (zm_h σ ρ)) : zq_Runs l G D 0 0 yX12_isRightWithout [.ref 70, .int (nI s)] n (zm_h σ ρ) post := by
  refine zq_enter (cc := cX12_isRightWithout) (nL := 4) (ret := (some .boolean)) cw_X12_isRightWithout (by decide) rfl (Nat.le_of_ble_eq_true rfl) ?_
  refine at_iconst dX12_isRightWithout_0 (v := -1) rfl ?_
  refine at_istore_n dX12_isRightWithout_1 rfl (by decide) ?_
  refine at_iconst dX12_isRightWithout_2 (v := nI 0) (by decide) ?_
  refine at_istore_n dX12_isRightWithout_3 rfl (by decide) ?_
  exact zm_isRightWithout_loop (by omega) hs hC m 0 0 (Nat.zero_add _) (Nat.le_refl _) hp
/-- the best set of those from s on (k of them), b - 1 the best so far (b 0: none) -/
def zbest (ok : Nat → Bool) : Nat → Nat → Nat → Nat
  | 0, _, b => b
  | k + 1, s, b => zbest ok k (s + 1) (if (b = 0 ∨ zpop s 7 < zpop (b - 1) 7) ∧ ok s = true then s + 1 else b)
theorem zpop_le (s : Nat) : ∀ k, zpop s k ≤ k
  | 0 => Nat.le_refl _
  | k + 1 => by
    have h := zpop_le s k
    have : s / 2 ^ k % 2 < 2 := Nat.mod_lt _ (by decide)
    unfold zpop
    omega
theorem zshl1 {m : Nat} (h : m ≤ 7) : nI 1 <<< (nI m &&& 31) = nI (2 ^ m) := by
  rcases (show m = 0 ∨ m = 1 ∨ m = 2 ∨ m = 3 ∨ m = 4 ∨ m = 5 ∨ m = 6 ∨ m = 7 by omega) with rfl | rfl | rfl | rfl | rfl | rfl | rfl | rfl <;> decide
theorem zm_out_loop {v : Int32} (hD : 7 ≤ D) (hC : zC σ m x w rk) : ∀ k s b : Nat, s + k = 2 ^ m → b ≤ s → zq_At l G (zq_rm D 0 0) mX12_out (zq_QF G post 0 0) 57 [(0, .ref 70), (1, .int v), (2, .int (zlast (zbest (fun s => zrwF rk x w s m 0 0) k s b))), (3, .int (nI (2 ^ m)))] [] n (zm_h σ ρ) 0 0 → zq_At l G (zq_rm D 0 0) mX12_out (zq_QF G post 0 0) 15 [(0, .ref 70), (1, .int v), (2, .int (zlast b)), (3, .int (nI s))] [] n (zm_h σ ρ) 0 0 := by
  have hm := hC.1
  have hm7 := hC.2.1
  have h128 : 2 ^ m ≤ 2 ^ 7 := Nat.pow_le_pow_right (by decide) hm7
  intro k
  induction k with
  | zero =>
    intro s b hi hb hk
    obtain rfl : s = 2 ^ m := hi
    refine at_iload_n dX12_out_15 rfl ?_
    refine at_iconst dX12_out_16 (v := nI 1) (by decide) ?_
    refine at_aload_n dX12_out_17 rfl ?_
    refine at_callV0 (d := D - 1) dX12_out_18 mv_X12_141 rfl (Nat.le_of_ble_eq_true rfl) (zq_r0 (by omega) (by omega) (by omega)) ?_
    refine zm_many hm ?_
    refine at_ishl dX12_out_21 ?_
    rw [zshl1 hm7]
    refine at_geN (tgt := 57) dX12_out_22 (by decide) (by omega) (by omega) (fun c22 => ?_) (fun c22 => ?_)
    · exact hk
    · omega
  | succ k ih =>
    intro s b hi hb hk
    unfold zbest at hk
    have p1 := zpop_le s 7
    have p2 := zpop_le (b - 1) 7
    refine at_iload_n dX12_out_15 rfl ?_
    refine at_iconst dX12_out_16 (v := nI 1) (by decide) ?_
    refine at_aload_n dX12_out_17 rfl ?_
    refine at_callV0 (d := D - 1) dX12_out_18 mv_X12_141 rfl (Nat.le_of_ble_eq_true rfl) (zq_r0 (by omega) (by omega) (by omega)) ?_
    refine zm_many hm ?_
    refine at_ishl dX12_out_21 ?_
    rw [zshl1 hm7]
    refine at_geN (tgt := 57) dX12_out_22 (by decide) (by omega) (by omega) (fun c22 => ?_) (fun c22 => ?_)
    · omega
    · refine at_iload_n dX12_out_25 rfl ?_
      refine at_iconst dX12_out_26 (v := -1) rfl ?_
      refine at_icmp_eq (tgt := 41) dX12_out_27 (by decide) (fun c27 => ?_) (fun c27 => ?_)
      · have hq : b = 0 ∨ zpop s 7 < zpop (b - 1) 7 := Or.inl ((zlast_ne (by omega)).mp c27)
        refine at_aload_n dX12_out_41 rfl ?_
        refine at_iload_n dX12_out_42 rfl ?_
        refine at_callV1 (d := D - 1) dX12_out_43 mv_X12_383 rfl (Nat.le_of_ble_eq_true rfl) (zq_r0 (by omega) (by omega) (by omega)) ?_
        refine zm_isRightWithout (by omega) (by omega) hC ?_
        refine at_if_eqB (tgt := 51) dX12_out_46 (by decide) (fun c46 => ?_) (fun c46 => ?_)
        · rw [if_neg (fun h => by rw [show zrwF rk x w s m 0 0 = false from c46] at h; exact absurd h.2 (by decide))] at hk
          refine at_iincN dX12_out_51 rfl (by decide) ?_
          refine at_goto (tgt := 15) dX12_out_54 (by decide) ?_
          first | exact ih (s + 1) (s + 1) (by omega) (by omega) hk | exact ih (s + 1) (b + 1) (by omega) (by omega) hk | exact ih (s + 1) b (by omega) (by omega) hk
        · rw [if_pos ⟨hq, c46⟩] at hk
          refine at_iload_n dX12_out_49 rfl ?_
          refine at_istore_n dX12_out_50 rfl (by decide) ?_
          refine at_iincN dX12_out_51 rfl (by decide) ?_
          refine at_goto (tgt := 15) dX12_out_54 (by decide) ?_
          first | exact ih (s + 1) (s + 1) (by omega) (by omega) hk | exact ih (s + 1) (b + 1) (by omega) (by omega) hk | exact ih (s + 1) b (by omega) (by omega) hk
      · have hb0 : b ≠ 0 := fun h => c27 ((zlast_ne (by omega)).mpr h)
        obtain ⟨b, rfl⟩ : ∃ r, b = r + 1 := ⟨b - 1, by omega⟩
        have p2 := zpop_le b 7
        refine at_iload_n dX12_out_30 rfl ?_
        refine at_callS1 (d := D - 1) dX12_out_31 ms_X12_380 (Nat.le_of_ble_eq_true rfl) (zq_r0 (by omega) (by omega) (by omega)) ?_
        refine zm_ones (by omega) ?_
        refine at_iload_n dX12_out_34 rfl ?_
        refine at_callS1 (d := D - 1) dX12_out_35 ms_X12_380 (Nat.le_of_ble_eq_true rfl) (zq_r0 (by omega) (by omega) (by omega)) ?_
        refine zm_ones (by omega) ?_
        refine at_geN (tgt := 51) dX12_out_38 (by decide) (by omega) (by omega) (fun c38 => ?_) (fun c38 => ?_)
        · rw [if_neg (fun h => by rcases h.1 with h | h <;> (try rw [show b + 1 - 1 = b from rfl] at h) <;> omega)] at hk
          refine at_iincN dX12_out_51 rfl (by decide) ?_
          refine at_goto (tgt := 15) dX12_out_54 (by decide) ?_
          first | exact ih (s + 1) (s + 1) (by omega) (by omega) hk | exact ih (s + 1) (b + 1) (by omega) (by omega) hk | exact ih (s + 1) b (by omega) (by omega) hk
        · have hq : b + 1 = 0 ∨ zpop s 7 < zpop (b + 1 - 1) 7 := Or.inr c38
          refine at_aload_n dX12_out_41 rfl ?_
          refine at_iload_n dX12_out_42 rfl ?_
          refine at_callV1 (d := D - 1) dX12_out_43 mv_X12_383 rfl (Nat.le_of_ble_eq_true rfl) (zq_r0 (by omega) (by omega) (by omega)) ?_
          refine zm_isRightWithout (by omega) (by omega) hC ?_
          refine at_if_eqB (tgt := 51) dX12_out_46 (by decide) (fun c46 => ?_) (fun c46 => ?_)
          · rw [if_neg (fun h => by rw [show zrwF rk x w s m 0 0 = false from c46] at h; exact absurd h.2 (by decide))] at hk
            refine at_iincN dX12_out_51 rfl (by decide) ?_
            refine at_goto (tgt := 15) dX12_out_54 (by decide) ?_
            first | exact ih (s + 1) (s + 1) (by omega) (by omega) hk | exact ih (s + 1) (b + 1) (by omega) (by omega) hk | exact ih (s + 1) b (by omega) (by omega) hk
          · rw [if_pos ⟨hq, c46⟩] at hk
            refine at_iload_n dX12_out_49 rfl ?_
            refine at_istore_n dX12_out_50 rfl (by decide) ?_
            refine at_iincN dX12_out_51 rfl (by decide) ?_
            refine at_goto (tgt := 15) dX12_out_54 (by decide) ?_
            first | exact ih (s + 1) (s + 1) (by omega) (by omega) hk | exact ih (s + 1) (b + 1) (by omega) (by omega) hk | exact ih (s + 1) b (by omega) (by omega) hk
end ZL4

