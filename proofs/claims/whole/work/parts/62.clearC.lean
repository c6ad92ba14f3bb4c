/-! ===== the class: the clearest row ===== -/
def zfo (c : Nat → Nat) (i : Nat) : Bool := (List.range i).all (fun j => !decide (c j = c i))
def zdn (c : Nat → Nat) : Nat → Nat
  | 0 => 0
  | k + 1 => zdn c k + if zfo c k = true then 1 else 0
def zbits (c : Nat → Nat) : Nat → Nat
  | 0 => 0
  | k + 1 => zbits c k ||| 2 ^ c k
/-- how many letters are still unlike -/
def zdis (c : Nat → Nat) : Nat := zpop (zbits c 5) 7
def zc5 (t i : Nat) : Nat := t / 5 ^ i % 5 + 1
def zchk (t : Nat) : Bool := decide (zpop (zbits (zc5 t) 5) 7 = zdn (zc5 t) 5) && decide (zcn (zc5 t) 5 ≤ zdn (zc5 t) 5) && decide (zbits (zc5 t) 5 < 128)
set_option maxRecDepth 100000 in
theorem zchk_all : (List.range 3125).all zchk = true := by decide +kernel
theorem zfo_c {c d : Nat → Nat} {i : Nat} (h : ∀ j, j ≤ i → c j = d j) : zfo c i = zfo d i := by
  unfold zfo
  rw [Bool.eq_iff_iff, List.all_eq_true, List.all_eq_true]
  constructor
  · intro g j hj
    have := g j hj
    rw [h j (by have := List.mem_range.mp hj; omega), h i (Nat.le_refl _)] at this
    exact this
  · intro g j hj
    have := g j hj
    rw [h j (by have := List.mem_range.mp hj; omega), h i (Nat.le_refl _)]
    exact this
theorem zdn_c {c d : Nat → Nat} : ∀ k, (∀ j, j < k → c j = d j) → zdn c k = zdn d k
  | 0, _ => rfl
  | k + 1, h => by
    unfold zdn
    rw [zdn_c k (fun j hj => h j (by omega)), zfo_c (fun j hj => h j (by omega))]
theorem zbits_c {c d : Nat → Nat} : ∀ k, (∀ j, j < k → c j = d j) → zbits c k = zbits d k
  | 0, _ => rfl
  | k + 1, h => by
    unfold zbits
    rw [zbits_c k (fun j hj => h j (by omega)), h k (by omega)]
theorem zcn_c {c d : Nat → Nat} : ∀ k, (∀ j, j < k → c j = d j) → zcn c k = zcn d k
  | 0, _ => rfl
  | k + 1, h => by
    unfold zcn
    rw [zcn_c k (fun j hj => h j (by omega)), h k (by omega)]
theorem zdis_ok {c : Nat → Nat} (h : ∀ i, i < 5 → 1 ≤ c i ∧ c i ≤ 5) : zdis c = zdn c 5 ∧ zcn c 5 ≤ zdis c ∧ zbits c 5 < 128 := by
  have h0 := h 0 (by decide)
  have h1 := h 1 (by decide)
  have h2 := h 2 (by decide)
  have h3 := h 3 (by decide)
  have h4 := h 4 (by decide)
  have e : ∀ j, j < 5 → c j = zc5 ((c 0 - 1) + 5 * (c 1 - 1) + 25 * (c 2 - 1) + 125 * (c 3 - 1) + 625 * (c 4 - 1)) j := by
    intro j hj
    unfold zc5
    rcases (show j = 0 ∨ j = 1 ∨ j = 2 ∨ j = 3 ∨ j = 4 by omega) with rfl | rfl | rfl | rfl | rfl <;> omega
  have g := List.all_eq_true.mp zchk_all ((c 0 - 1) + 5 * (c 1 - 1) + 25 * (c 2 - 1) + 125 * (c 3 - 1) + 625 * (c 4 - 1)) (List.mem_range.mpr (by omega))
  unfold zchk at g
  rw [Bool.and_eq_true, Bool.and_eq_true, decide_eq_true_eq, decide_eq_true_eq, decide_eq_true_eq, ← zbits_c 5 e, ← zdn_c 5 e, ← zcn_c 5 e] at g
  unfold zdis
  exact ⟨g.1.1, by rw [g.1.1]; exact g.1.2, g.2⟩
theorem zdn_map (g : Nat → Nat) (c : Nat → Nat) : ∀ k, zdn (fun i => g (c i)) k ≤ zdn c k
  | 0 => Nat.le_refl _
  | k + 1 => by
    have ih := zdn_map g c k
    unfold zdn
    by_cases h : zfo (fun i => g (c i)) k = true
    · have h2 : zfo c k = true := by
        unfold zfo at h ⊢
        rw [List.all_eq_true] at h ⊢
        intro j hj
        have := h j hj
        simp only [Bool.not_eq_true', decide_eq_false_iff_not] at this ⊢
        exact fun e => this (by rw [e])
      rw [if_pos h, if_pos h2]; omega
    · rw [if_neg h]; split <;> omega
theorem zclI_id {R : Nat → zCA → zCA} {u : Nat} {A : zCA} (hR : ∀ p, R p A = A) : ∀ f p, zclI R u f p A = A
  | 0, _ => rfl
  | f + 1, p => by
    rw [zclI_le, hR p, ite_self]
    exact zclI_id hR f (p + 1)
theorem zclI_id2 {R : Nat → zCA → zCA} {u : Nat} {A : zCA} : ∀ f p, (∀ q, p ≤ q → q < p + f → R q A = A) → zclI R u f p A = A
  | 0, _, _ => rfl
  | f + 1, p, hR => by
    rw [zclI_le, hR p (Nat.le_refl _) (by omega), ite_self]
    exact zclI_id2 f (p + 1) (fun q h1 h2 => hR q (by omega) (by omega))
/-- there is no more to win -/
theorem zclF_cut {sd : Nat → Nat → Nat} {m : Nat} (hsd : ∀ p y, p < m → 1 ≤ y → y ≤ 5 → 1 ≤ sd p y ∧ sd p y ≤ 5) : ∀ f k u c r A, (∀ i, i < 5 → 1 ≤ c i ∧ c i ≤ 5) → zdis c + 1 ≤ A.1 → zclF sd m f k u c r A = A
  | 0, k, u, c, r, A, hc, h => by
    unfold zclF
    have := (zdis_ok hc).2.1
    rw [if_pos (by omega)]
  | f + 1, k, u, c, r, A, hc, h => by
    refine zclI_id2 m 0 (fun p _ hp => ?_)
    have hp : p < m := by omega
    have hc' : ∀ i, i < 5 → 1 ≤ sd p (c i) ∧ sd p (c i) ≤ 5 := fun i hi => hsd p (c i) hp (hc i hi).1 (hc i hi).2
    refine zclF_cut hsd f (k + 1) _ _ _ A hc' ?_
    have h1 := (zdis_ok hc).1
    have h2 := (zdis_ok (c := fun i => sd p (c i)) hc').1
    have h3 := zdn_map (sd p) c 5
    rw [h2]; omega
theorem dX2_seek_0 : decode cX2_seek 0 = .ok (.aload_n 0, 1) := by decide +kernel
theorem dX2_seek_1 : decode cX2_seek 1 = .ok (.iconst (-1), 1) := by decide +kernel
theorem dX2_seek_2 : decode cX2_seek 2 = .ok (.putfield 21, 3) := by decide +kernel
theorem dX2_seek_5 : decode cX2_seek 5 = .ok (.iconst 1, 1) := by decide +kernel
theorem dX2_seek_6 : decode cX2_seek 6 = .ok (.istore_n 2, 1) := by decide +kernel
theorem dX2_seek_7 : decode cX2_seek 7 = .ok (.iload_n 2, 1) := by decide +kernel
theorem dX2_seek_8 : decode cX2_seek 8 = .ok (.iconst 5, 1) := by decide +kernel
theorem dX2_seek_9 : decode cX2_seek 9 = .ok (.if_icmp .gt 16, 3) := by decide +kernel
theorem dX2_seek_12 : decode cX2_seek 12 = .ok (.aload_n 0, 1) := by decide +kernel
theorem dX2_seek_13 : decode cX2_seek 13 = .ok (.getfield 9, 3) := by decide +kernel
theorem dX2_seek_16 : decode cX2_seek 16 = .ok (.iload_n 2, 1) := by decide +kernel
theorem dX2_seek_17 : decode cX2_seek 17 = .ok (.iload_n 2, 1) := by decide +kernel
theorem dX2_seek_18 : decode cX2_seek 18 = .ok (.iastore, 1) := by decide +kernel
theorem dX2_seek_19 : decode cX2_seek 19 = .ok (.iinc 2 1, 3) := by decide +kernel
theorem dX2_seek_22 : decode cX2_seek 22 = .ok (.goto (-15), 3) := by decide +kernel
theorem dX2_seek_25 : decode cX2_seek 25 = .ok (.aload_n 0, 1) := by decide +kernel
theorem dX2_seek_26 : decode cX2_seek 26 = .ok (.aload_n 1, 1) := by decide +kernel
theorem dX2_seek_27 : decode cX2_seek 27 = .ok (.iconst 0, 1) := by decide +kernel
theorem dX2_seek_28 : decode cX2_seek 28 = .ok (.iconst 0, 1) := by decide +kernel
theorem dX2_seek_29 : decode cX2_seek 29 = .ok (.invokevirtual 25, 3) := by decide +kernel
theorem dX2_seek_32 : decode cX2_seek 32 = .ok (.return_, 1) := by decide +kernel
abbrev mX2_seek : zq_M := (cX2_seek, RX2, "seek", none, 3)
theorem dX2_tryFrom_0 : decode cX2_tryFrom 0 = .ok (.iload_n 2, 1) := by decide +kernel
theorem dX2_tryFrom_1 : decode cX2_tryFrom 1 = .ok (.bipush 7, 2) := by decide +kernel
theorem dX2_tryFrom_3 : decode cX2_tryFrom 3 = .ok (.if_icmp .gt 15, 3) := by decide +kernel
theorem dX2_tryFrom_6 : decode cX2_tryFrom 6 = .ok (.aload_n 0, 1) := by decide +kernel
theorem dX2_tryFrom_7 : decode cX2_tryFrom 7 = .ok (.iload_n 2, 1) := by decide +kernel
theorem dX2_tryFrom_8 : decode cX2_tryFrom 8 = .ok (.invokevirtual 29, 3) := by decide +kernel
theorem dX2_tryFrom_11 : decode cX2_tryFrom 11 = .ok (.aload_n 0, 1) := by decide +kernel
theorem dX2_tryFrom_12 : decode cX2_tryFrom 12 = .ok (.getfield 21, 3) := by decide +kernel
theorem dX2_tryFrom_15 : decode cX2_tryFrom 15 = .ok (.if_icmp .gt 4, 3) := by decide +kernel
theorem dX2_tryFrom_18 : decode cX2_tryFrom 18 = .ok (.return_, 1) := by decide +kernel
theorem dX2_tryFrom_19 : decode cX2_tryFrom 19 = .ok (.iload_n 2, 1) := by decide +kernel
theorem dX2_tryFrom_20 : decode cX2_tryFrom 20 = .ok (.aload_n 1, 1) := by decide +kernel
theorem dX2_tryFrom_21 : decode cX2_tryFrom 21 = .ok (.getfield 33, 3) := by decide +kernel
theorem dX2_tryFrom_24 : decode cX2_tryFrom 24 = .ok (.if_icmp .lt 9, 3) := by decide +kernel
theorem dX2_tryFrom_27 : decode cX2_tryFrom 27 = .ok (.aload_n 0, 1) := by decide +kernel
theorem dX2_tryFrom_28 : decode cX2_tryFrom 28 = .ok (.iload_n 2, 1) := by decide +kernel
theorem dX2_tryFrom_29 : decode cX2_tryFrom 29 = .ok (.invokevirtual 38, 3) := by decide +kernel
theorem dX2_tryFrom_32 : decode cX2_tryFrom 32 = .ok (.return_, 1) := by decide +kernel
theorem dX2_tryFrom_33 : decode cX2_tryFrom 33 = .ok (.iconst 0, 1) := by decide +kernel
theorem dX2_tryFrom_34 : decode cX2_tryFrom 34 = .ok (.istore 4, 2) := by decide +kernel
theorem dX2_tryFrom_36 : decode cX2_tryFrom 36 = .ok (.iload 4, 2) := by decide +kernel
theorem dX2_tryFrom_38 : decode cX2_tryFrom 38 = .ok (.aload_n 1, 1) := by decide +kernel
theorem dX2_tryFrom_39 : decode cX2_tryFrom 39 = .ok (.getfield 33, 3) := by decide +kernel
theorem dX2_tryFrom_42 : decode cX2_tryFrom 42 = .ok (.if_icmp .ge 54, 3) := by decide +kernel
theorem dX2_tryFrom_45 : decode cX2_tryFrom 45 = .ok (.iload_n 2, 1) := by decide +kernel
theorem dX2_tryFrom_46 : decode cX2_tryFrom 46 = .ok (.bipush 7, 2) := by decide +kernel
theorem dX2_tryFrom_48 : decode cX2_tryFrom 48 = .ok (.if_icmp .ge 48, 3) := by decide +kernel
theorem dX2_tryFrom_51 : decode cX2_tryFrom 51 = .ok (.iload_n 3, 1) := by decide +kernel
theorem dX2_tryFrom_52 : decode cX2_tryFrom 52 = .ok (.iload 4, 2) := by decide +kernel
theorem dX2_tryFrom_54 : decode cX2_tryFrom 54 = .ok (.ishr, 1) := by decide +kernel
theorem dX2_tryFrom_55 : decode cX2_tryFrom 55 = .ok (.iconst 1, 1) := by decide +kernel
theorem dX2_tryFrom_56 : decode cX2_tryFrom 56 = .ok (.iand, 1) := by decide +kernel
theorem dX2_tryFrom_57 : decode cX2_tryFrom 57 = .ok (.ifCond .ne 33, 3) := by decide +kernel
theorem dX2_tryFrom_60 : decode cX2_tryFrom 60 = .ok (.aload_n 0, 1) := by decide +kernel
theorem dX2_tryFrom_61 : decode cX2_tryFrom 61 = .ok (.getfield 15, 3) := by decide +kernel
theorem dX2_tryFrom_64 : decode cX2_tryFrom 64 = .ok (.iload_n 2, 1) := by decide +kernel
theorem dX2_tryFrom_65 : decode cX2_tryFrom 65 = .ok (.iload 4, 2) := by decide +kernel
theorem dX2_tryFrom_67 : decode cX2_tryFrom 67 = .ok (.iastore, 1) := by decide +kernel
theorem dX2_tryFrom_68 : decode cX2_tryFrom 68 = .ok (.aload_n 0, 1) := by decide +kernel
theorem dX2_tryFrom_69 : decode cX2_tryFrom 69 = .ok (.aload_n 1, 1) := by decide +kernel
theorem dX2_tryFrom_70 : decode cX2_tryFrom 70 = .ok (.iload_n 2, 1) := by decide +kernel
theorem dX2_tryFrom_71 : decode cX2_tryFrom 71 = .ok (.iload 4, 2) := by decide +kernel
theorem dX2_tryFrom_73 : decode cX2_tryFrom 73 = .ok (.invokevirtual 42, 3) := by decide +kernel
theorem dX2_tryFrom_76 : decode cX2_tryFrom 76 = .ok (.aload_n 0, 1) := by decide +kernel
theorem dX2_tryFrom_77 : decode cX2_tryFrom 77 = .ok (.aload_n 1, 1) := by decide +kernel
theorem dX2_tryFrom_78 : decode cX2_tryFrom 78 = .ok (.iload_n 2, 1) := by decide +kernel
theorem dX2_tryFrom_79 : decode cX2_tryFrom 79 = .ok (.iconst 1, 1) := by decide +kernel
theorem dX2_tryFrom_80 : decode cX2_tryFrom 80 = .ok (.iadd, 1) := by decide +kernel
theorem dX2_tryFrom_81 : decode cX2_tryFrom 81 = .ok (.iload_n 3, 1) := by decide +kernel
theorem dX2_tryFrom_82 : decode cX2_tryFrom 82 = .ok (.iconst 1, 1) := by decide +kernel
theorem dX2_tryFrom_83 : decode cX2_tryFrom 83 = .ok (.iload 4, 2) := by decide +kernel
theorem dX2_tryFrom_85 : decode cX2_tryFrom 85 = .ok (.ishl, 1) := by decide +kernel
theorem dX2_tryFrom_86 : decode cX2_tryFrom 86 = .ok (.ior, 1) := by decide +kernel
theorem dX2_tryFrom_87 : decode cX2_tryFrom 87 = .ok (.invokevirtual 25, 3) := by decide +kernel
theorem dX2_tryFrom_90 : decode cX2_tryFrom 90 = .ok (.iinc 4 1, 3) := by decide +kernel
theorem dX2_tryFrom_93 : decode cX2_tryFrom 93 = .ok (.goto (-57), 3) := by decide +kernel
theorem dX2_tryFrom_96 : decode cX2_tryFrom 96 = .ok (.return_, 1) := by decide +kernel
abbrev mX2_tryFrom : zq_M := (cX2_tryFrom, RX2, "tryFrom", none, 5)
theorem dX2_tellOn_0 : decode cX2_tellOn 0 = .ok (.iload_n 2, 1) := by decide +kernel
theorem dX2_tellOn_1 : decode cX2_tellOn 1 = .ok (.bipush 6, 2) := by decide +kernel
theorem dX2_tellOn_3 : decode cX2_tellOn 3 = .ok (.imul, 1) := by decide +kernel
theorem dX2_tellOn_4 : decode cX2_tellOn 4 = .ok (.istore 4, 2) := by decide +kernel
theorem dX2_tellOn_6 : decode cX2_tellOn 6 = .ok (.iconst 1, 1) := by decide +kernel
theorem dX2_tellOn_7 : decode cX2_tellOn 7 = .ok (.istore 5, 2) := by decide +kernel
theorem dX2_tellOn_9 : decode cX2_tellOn 9 = .ok (.iload 5, 2) := by decide +kernel
theorem dX2_tellOn_11 : decode cX2_tellOn 11 = .ok (.iconst 5, 1) := by decide +kernel
theorem dX2_tellOn_12 : decode cX2_tellOn 12 = .ok (.if_icmp .gt 38, 3) := by decide +kernel
theorem dX2_tellOn_15 : decode cX2_tellOn 15 = .ok (.aload_n 0, 1) := by decide +kernel
theorem dX2_tellOn_16 : decode cX2_tellOn 16 = .ok (.getfield 9, 3) := by decide +kernel
theorem dX2_tellOn_19 : decode cX2_tellOn 19 = .ok (.iload 4, 2) := by decide +kernel
theorem dX2_tellOn_21 : decode cX2_tellOn 21 = .ok (.iconst 5, 1) := by decide +kernel
theorem dX2_tellOn_22 : decode cX2_tellOn 22 = .ok (.iadd, 1) := by decide +kernel
theorem dX2_tellOn_23 : decode cX2_tellOn 23 = .ok (.iconst 1, 1) := by decide +kernel
theorem dX2_tellOn_24 : decode cX2_tellOn 24 = .ok (.iadd, 1) := by decide +kernel
theorem dX2_tellOn_25 : decode cX2_tellOn 25 = .ok (.iload 5, 2) := by decide +kernel
theorem dX2_tellOn_27 : decode cX2_tellOn 27 = .ok (.iadd, 1) := by decide +kernel
theorem dX2_tellOn_28 : decode cX2_tellOn 28 = .ok (.aload_n 1, 1) := by decide +kernel
theorem dX2_tellOn_29 : decode cX2_tellOn 29 = .ok (.iload_n 3, 1) := by decide +kernel
theorem dX2_tellOn_30 : decode cX2_tellOn 30 = .ok (.aload_n 0, 1) := by decide +kernel
theorem dX2_tellOn_31 : decode cX2_tellOn 31 = .ok (.getfield 9, 3) := by decide +kernel
theorem dX2_tellOn_34 : decode cX2_tellOn 34 = .ok (.iload 4, 2) := by decide +kernel
theorem dX2_tellOn_36 : decode cX2_tellOn 36 = .ok (.iload 5, 2) := by decide +kernel
theorem dX2_tellOn_38 : decode cX2_tellOn 38 = .ok (.iadd, 1) := by decide +kernel
theorem dX2_tellOn_39 : decode cX2_tellOn 39 = .ok (.iaload, 1) := by decide +kernel
theorem dX2_tellOn_40 : decode cX2_tellOn 40 = .ok (.invokevirtual 45, 3) := by decide +kernel
theorem dX2_tellOn_43 : decode cX2_tellOn 43 = .ok (.iastore, 1) := by decide +kernel
theorem dX2_tellOn_44 : decode cX2_tellOn 44 = .ok (.iinc 5 1, 3) := by decide +kernel
theorem dX2_tellOn_47 : decode cX2_tellOn 47 = .ok (.goto (-38), 3) := by decide +kernel
theorem dX2_tellOn_50 : decode cX2_tellOn 50 = .ok (.return_, 1) := by decide +kernel
abbrev mX2_tellOn : zq_M := (cX2_tellOn, RX2, "tellOn", none, 6)
theorem dX2_unlike_0 : decode cX2_unlike 0 = .ok (.iconst 0, 1) := by decide +kernel
theorem dX2_unlike_1 : decode cX2_unlike 1 = .ok (.istore_n 2, 1) := by decide +kernel
theorem dX2_unlike_2 : decode cX2_unlike 2 = .ok (.iconst 1, 1) := by decide +kernel
theorem dX2_unlike_3 : decode cX2_unlike 3 = .ok (.istore_n 3, 1) := by decide +kernel
theorem dX2_unlike_4 : decode cX2_unlike 4 = .ok (.iload_n 3, 1) := by decide +kernel
theorem dX2_unlike_5 : decode cX2_unlike 5 = .ok (.iconst 5, 1) := by decide +kernel
theorem dX2_unlike_6 : decode cX2_unlike 6 = .ok (.if_icmp .gt 25, 3) := by decide +kernel
theorem dX2_unlike_9 : decode cX2_unlike 9 = .ok (.iload_n 2, 1) := by decide +kernel
theorem dX2_unlike_10 : decode cX2_unlike 10 = .ok (.iconst 1, 1) := by decide +kernel
theorem dX2_unlike_11 : decode cX2_unlike 11 = .ok (.aload_n 0, 1) := by decide +kernel
theorem dX2_unlike_12 : decode cX2_unlike 12 = .ok (.getfield 9, 3) := by decide +kernel
theorem dX2_unlike_15 : decode cX2_unlike 15 = .ok (.iload_n 1, 1) := by decide +kernel
theorem dX2_unlike_16 : decode cX2_unlike 16 = .ok (.bipush 6, 2) := by decide +kernel
theorem dX2_unlike_18 : decode cX2_unlike 18 = .ok (.imul, 1) := by decide +kernel
theorem dX2_unlike_19 : decode cX2_unlike 19 = .ok (.iload_n 3, 1) := by decide +kernel
theorem dX2_unlike_20 : decode cX2_unlike 20 = .ok (.iadd, 1) := by decide +kernel
theorem dX2_unlike_21 : decode cX2_unlike 21 = .ok (.iaload, 1) := by decide +kernel
theorem dX2_unlike_22 : decode cX2_unlike 22 = .ok (.ishl, 1) := by decide +kernel
theorem dX2_unlike_23 : decode cX2_unlike 23 = .ok (.ior, 1) := by decide +kernel
theorem dX2_unlike_24 : decode cX2_unlike 24 = .ok (.istore_n 2, 1) := by decide +kernel
theorem dX2_unlike_25 : decode cX2_unlike 25 = .ok (.iinc 3 1, 3) := by decide +kernel
theorem dX2_unlike_28 : decode cX2_unlike 28 = .ok (.goto (-24), 3) := by decide +kernel
theorem dX2_unlike_31 : decode cX2_unlike 31 = .ok (.iload_n 2, 1) := by decide +kernel
theorem dX2_unlike_32 : decode cX2_unlike 32 = .ok (.invokestatic 49, 3) := by decide +kernel
theorem dX2_unlike_35 : decode cX2_unlike 35 = .ok (.ireturn, 1) := by decide +kernel
abbrev mX2_unlike : zq_M := (cX2_unlike, RX2, "unlike", (some .int), 4)
theorem dX2_keepIfClearer_0 : decode cX2_keepIfClearer 0 = .ok (.iconst 0, 1) := by decide +kernel
theorem dX2_keepIfClearer_1 : decode cX2_keepIfClearer 1 = .ok (.istore_n 2, 1) := by decide +kernel
theorem dX2_keepIfClearer_2 : decode cX2_keepIfClearer 2 = .ok (.iconst 1, 1) := by decide +kernel
theorem dX2_keepIfClearer_3 : decode cX2_keepIfClearer 3 = .ok (.istore_n 3, 1) := by decide +kernel
theorem dX2_keepIfClearer_4 : decode cX2_keepIfClearer 4 = .ok (.iload_n 3, 1) := by decide +kernel
theorem dX2_keepIfClearer_5 : decode cX2_keepIfClearer 5 = .ok (.iconst 5, 1) := by decide +kernel
theorem dX2_keepIfClearer_6 : decode cX2_keepIfClearer 6 = .ok (.if_icmp .gt 27, 3) := by decide +kernel
theorem dX2_keepIfClearer_9 : decode cX2_keepIfClearer 9 = .ok (.aload_n 0, 1) := by decide +kernel
theorem dX2_keepIfClearer_10 : decode cX2_keepIfClearer 10 = .ok (.getfield 9, 3) := by decide +kernel
theorem dX2_keepIfClearer_13 : decode cX2_keepIfClearer 13 = .ok (.iload_n 1, 1) := by decide +kernel
theorem dX2_keepIfClearer_14 : decode cX2_keepIfClearer 14 = .ok (.bipush 6, 2) := by decide +kernel
theorem dX2_keepIfClearer_16 : decode cX2_keepIfClearer 16 = .ok (.imul, 1) := by decide +kernel
theorem dX2_keepIfClearer_17 : decode cX2_keepIfClearer 17 = .ok (.iload_n 3, 1) := by decide +kernel
theorem dX2_keepIfClearer_18 : decode cX2_keepIfClearer 18 = .ok (.iadd, 1) := by decide +kernel
theorem dX2_keepIfClearer_19 : decode cX2_keepIfClearer 19 = .ok (.iaload, 1) := by decide +kernel
theorem dX2_keepIfClearer_20 : decode cX2_keepIfClearer 20 = .ok (.iload_n 3, 1) := by decide +kernel
theorem dX2_keepIfClearer_21 : decode cX2_keepIfClearer 21 = .ok (.if_icmp .ne 6, 3) := by decide +kernel
theorem dX2_keepIfClearer_24 : decode cX2_keepIfClearer 24 = .ok (.iinc 2 1, 3) := by decide +kernel
theorem dX2_keepIfClearer_27 : decode cX2_keepIfClearer 27 = .ok (.iinc 3 1, 3) := by decide +kernel
theorem dX2_keepIfClearer_30 : decode cX2_keepIfClearer 30 = .ok (.goto (-26), 3) := by decide +kernel
theorem dX2_keepIfClearer_33 : decode cX2_keepIfClearer 33 = .ok (.iload_n 2, 1) := by decide +kernel
theorem dX2_keepIfClearer_34 : decode cX2_keepIfClearer 34 = .ok (.aload_n 0, 1) := by decide +kernel
theorem dX2_keepIfClearer_35 : decode cX2_keepIfClearer 35 = .ok (.getfield 21, 3) := by decide +kernel
theorem dX2_keepIfClearer_38 : decode cX2_keepIfClearer 38 = .ok (.if_icmp .le 23, 3) := by decide +kernel
theorem dX2_keepIfClearer_41 : decode cX2_keepIfClearer 41 = .ok (.aload_n 0, 1) := by decide +kernel
theorem dX2_keepIfClearer_42 : decode cX2_keepIfClearer 42 = .ok (.iload_n 2, 1) := by decide +kernel
theorem dX2_keepIfClearer_43 : decode cX2_keepIfClearer 43 = .ok (.putfield 21, 3) := by decide +kernel
theorem dX2_keepIfClearer_46 : decode cX2_keepIfClearer 46 = .ok (.aload_n 0, 1) := by decide +kernel
theorem dX2_keepIfClearer_47 : decode cX2_keepIfClearer 47 = .ok (.getfield 15, 3) := by decide +kernel
theorem dX2_keepIfClearer_50 : decode cX2_keepIfClearer 50 = .ok (.iconst 0, 1) := by decide +kernel
theorem dX2_keepIfClearer_51 : decode cX2_keepIfClearer 51 = .ok (.aload_n 0, 1) := by decide +kernel
theorem dX2_keepIfClearer_52 : decode cX2_keepIfClearer 52 = .ok (.getfield 18, 3) := by decide +kernel
theorem dX2_keepIfClearer_55 : decode cX2_keepIfClearer 55 = .ok (.iconst 0, 1) := by decide +kernel
theorem dX2_keepIfClearer_56 : decode cX2_keepIfClearer 56 = .ok (.bipush 7, 2) := by decide +kernel
theorem dX2_keepIfClearer_58 : decode cX2_keepIfClearer 58 = .ok (.invokestatic 54, 3) := by decide +kernel
theorem dX2_keepIfClearer_61 : decode cX2_keepIfClearer 61 = .ok (.return_, 1) := by decide +kernel
abbrev mX2_keepIfClearer : zq_M := (cX2_keepIfClearer, RX2, "keepIfClearer", none, 4)
/-- what the search leaves -/
def zLo (k : Nat) (κ' κ : zl_S) : Prop := (∀ o, o ≠ 64 → κ'.1 o = κ.1 o) ∧ (∀ a, a ≠ 65 → a ≠ 66 → a ≠ 67 → κ'.2.1 a = κ.2.1 a) ∧ κ'.2.2 = κ.2.2 ∧ (∀ j, j < 6 * (k + 1) → κ'.2.1 65 j = κ.2.1 65 j) ∧ ∀ j, j < k → κ'.2.1 66 j = κ.2.1 66 j
theorem zLo_r (k : Nat) (κ : zl_S) : zLo k κ κ := ⟨fun _ _ => rfl, fun _ _ _ _ => rfl, rfl, fun _ _ => rfl, fun _ _ => rfl⟩
theorem zLo_t {k : Nat} {a b c : zl_S} (h : zLo k a b) (g : zLo k b c) : zLo k a c := ⟨fun o ho => (h.1 o ho).trans (g.1 o ho), fun a h1 h2 h3 => (h.2.1 a h1 h2 h3).trans (g.2.1 a h1 h2 h3), h.2.2.1.trans g.2.2.1, fun j hj => (h.2.2.2.1 j hj).trans (g.2.2.2.1 j hj), fun j hj => (h.2.2.2.2 j hj).trans (g.2.2.2.2 j hj)⟩
/-- where the search is -/
def zLs (κ : zl_S) (b m : Nat) (sd : Nat → Nat → Nat) (k : Nat) (c r : Nat → Nat) (A : zCA) : Prop :=
  κ.1 b 0 = nI m ∧ zQS κ b m sd ∧ (∀ i, i < 5 → κ.2.1 65 (6 * k + (i + 1)) = nI (c i) ∧ 1 ≤ c i ∧ c i ≤ 5) ∧ (∀ j, j < k → κ.2.1 66 j = nI (r j)) ∧ κ.1 64 3 = zlast A.1 ∧ A.1 ≤ 6 ∧ (A.1 ≠ 0 → ∀ j, j < m → κ.2.1 67 j = nI (A.2 j))
section ZC9
variable {l : Launch} {G : zq_G} {n b m : Nat} {ρ : Nat → zq_E} {sd : Nat → Nat → Nat}
theorem zc_unlike {D k : Nat} {κ : zl_S} {c : Nat → Nat} {post : Option Value → Nat → (Nat → zq_E) → Prop} (hD : 1 ≤ D) (hk : k ≤ 7) (hc : ∀ i, i < 5 → κ.2.1 65 (6 * k + (i + 1)) = nI (c i) ∧ 1 ≤ c i ∧ c i ≤ 5) (hp : post (some (.int (nI (zdis c)))) n (zl_h κ ρ)) : zq_Runs l G D 0 0 yX2_unlike [.ref 64, .int (nI k)] n (zl_h κ ρ) post := by
  have h128 := (zdis_ok (fun i hi => (hc i hi).2)).2.2
  have loop : ∀ f i, i + f = 5 → zq_At l G (zq_rm D 0 0) mX2_unlike (zq_QF G post 0 0) 4 [(0, .ref 64), (1, .int (nI k)), (2, .int (nI (zbits c i))), (3, .int (nI (i + 1)))] [] n (zl_h κ ρ) 0 0 := by
    intro f
    induction f with
    | zero =>
      intro i hi
      obtain rfl : i = 5 := hi
      refine at_iload_n dX2_unlike_4 rfl ?_
      refine at_iconst dX2_unlike_5 (v := nI 5) (by decide) ?_
      refine at_gtN (tgt := 31) dX2_unlike_6 (by decide) (by omega) (by omega) (fun c6 => ?_) (fun c6 => ?_)
      · refine at_iload_n dX2_unlike_31 rfl ?_
        refine at_callS1 (d := D - 1) dX2_unlike_32 ms_X2_49 (Nat.le_of_ble_eq_true rfl) (zq_r0 (by omega) (by omega) (by omega)) ?_
        refine zc_bitCount h128 ?_
        refine at_iret dX2_unlike_35 rfl (by omega) (by omega) ?_
        exact hp
      · omega
    | succ f ih =>
      intro i hi
      have hn := ih (i + 1) (by omega)
      unfold zbits at hn
      obtain ⟨g1, g2, g3⟩ := hc i (by omega)
      rw [Nat.mul_comm] at g1
      refine at_iload_n dX2_unlike_4 rfl ?_
      refine at_iconst dX2_unlike_5 (v := nI 5) (by decide) ?_
      refine at_gtN (tgt := 31) dX2_unlike_6 (by decide) (by omega) (by omega) (fun c6 => ?_) (fun c6 => ?_)
      · omega
      · refine at_iload_n dX2_unlike_9 rfl ?_
        refine at_iconst dX2_unlike_10 (v := nI 1) (by decide) ?_
        refine at_aload_n dX2_unlike_11 rfl ?_
        refine at_get dX2_unlike_12 fl_X2_9 (zl_o rfl) rfl ?_
        refine at_iload_n dX2_unlike_15 rfl ?_
        refine at_bipush dX2_unlike_16 (v := nI 6) (by decide) ?_
        refine at_imulN dX2_unlike_18 ?_
        refine at_iload_n dX2_unlike_19 rfl ?_
        refine at_iaddN dX2_unlike_20 ?_
        refine at_lald2 (a := 65) dX2_unlike_21 rfl rfl (by show _ < 48; omega) (by decide) ?_
        rw [g1]
        refine at_ishl dX2_unlike_22 ?_
        rw [zshl1 (by omega)]
        refine at_ior dX2_unlike_23 ?_
        rw [zor]
        refine at_istore_n dX2_unlike_24 rfl (by decide) ?_
        refine at_iincN dX2_unlike_25 rfl (by decide) ?_
        refine at_goto (tgt := 4) dX2_unlike_28 (by decide) ?_
        exact hn
  refine zq_enter (cc := cX2_unlike) (nL := 4) (ret := (some .int)) cw_X2_unlike (by decide) rfl (Nat.le_of_ble_eq_true rfl) ?_
  refine at_iconst dX2_unlike_0 (v := nI 0) (by decide) ?_
  refine at_istore_n dX2_unlike_1 rfl (by decide) ?_
  refine at_iconst dX2_unlike_2 (v := nI 1) (by decide) ?_
  refine at_istore_n dX2_unlike_3 rfl (by decide) ?_
  exact loop 5 0 rfl
theorem zc_keepIfClearer {D k : Nat} {κ : zl_S} {c r : Nat → Nat} {A : zCA} {post : Option Value → Nat → (Nat → zq_E) → Prop} (hD : 1 ≤ D) (hm7 : m ≤ 7) (hk : k = m) (hS : zLs κ b m sd k c r A)
    (hp : ∀ κ', zLo k κ' κ → κ'.1 64 3 = zlast (if zcn c 5 + 1 ≤ A.1 then A else (zcn c 5 + 1, r)).1 → (if zcn c 5 + 1 ≤ A.1 then A else (zcn c 5 + 1, r)).1 ≤ 6 → ((if zcn c 5 + 1 ≤ A.1 then A else (zcn c 5 + 1, r)).1 ≠ 0 → ∀ j, j < m → κ'.2.1 67 j = nI ((if zcn c 5 + 1 ≤ A.1 then A else (zcn c 5 + 1, r)).2 j)) → post none n (zl_h κ' ρ)) : zq_Runs l G D 0 0 yX2_keepIfClearer [.ref 64, .int (nI k)] n (zl_h κ ρ) post := by
  obtain ⟨t1, t2, t3, t4, t5, t6, t7⟩ := hS
  have h5 := zcn_le c 5
  have loop : ∀ f i, i + f = 5 → zq_At l G (zq_rm D 0 0) mX2_keepIfClearer (zq_QF G post 0 0) 4 [(0, .ref 64), (1, .int (nI k)), (2, .int (nI (zcn c i))), (3, .int (nI (i + 1)))] [] n (zl_h κ ρ) 0 0 := by
    intro f
    induction f with
    | zero =>
      intro i hi
      obtain rfl : i = 5 := hi
      refine at_iload_n dX2_keepIfClearer_4 rfl ?_
      refine at_iconst dX2_keepIfClearer_5 (v := nI 5) (by decide) ?_
      refine at_gtN (tgt := 33) dX2_keepIfClearer_6 (by decide) (by omega) (by omega) (fun c6 => ?_) (fun c6 => ?_)
      · refine at_iload_n dX2_keepIfClearer_33 rfl ?_
        refine at_aload_n dX2_keepIfClearer_34 rfl ?_
        refine at_get dX2_keepIfClearer_35 fl_X2_21 (zl_o rfl) rfl ?_
        rw [t5]
        refine at_icmp_le (tgt := 61) dX2_keepIfClearer_38 (by decide) (fun c38 => ?_) (fun c38 => ?_)
        · have h0 : ¬ A.1 < zcn c 5 + 1 := fun h => absurd c38 (Int32.not_le.mpr ((zlast_lt (by omega) (by omega)).mpr h))
          rw [if_pos (by omega)] at hp
          have hp := hp κ (zLo_r _ _) t5 t6 t7
          refine at_vret dX2_keepIfClearer_61 rfl (by omega) (by omega) ?_
          exact hp
        · have h0 := (zlast_lt (by omega) (by omega)).mp (Int32.not_le.mp c38)
          rw [if_neg (by omega)] at hp
          have hp := hp (zl_sA (zl_si κ 64 3 (nI (zcn c 5))) 67 (va_cpy (κ.2.1 66) (κ.2.1 67) 0 0 7)) ⟨fun o ho => zsi2_o _ ho _ _, fun a h1 h2 h3 => zlA_o _ h3 _, rfl, fun j _ => congrFun (zlA_o (zl_si κ 64 3 (nI (zcn c 5))) (by decide) _) j, fun j _ => congrFun (zlA_o (zl_si κ 64 3 (nI (zcn c 5))) (by decide) _) j⟩ (zsi2_s κ 64 3 _) (by show zcn c 5 + 1 ≤ 6; omega) (fun _ j hj => by
            rw [zlA_s]
            refine (if_pos ⟨Nat.zero_le _, by omega⟩).trans ?_
            rw [Nat.sub_zero, Nat.zero_add]
            exact t4 j (by omega))
          refine at_aload_n dX2_keepIfClearer_41 rfl ?_
          refine at_iload_n dX2_keepIfClearer_42 rfl ?_
          refine at_lput dX2_keepIfClearer_43 (pl_X2_21 _) (fun i => ⟨_, rfl, Nat.le_of_ble_eq_true rfl, fun v => rfl⟩) rfl rfl ?_
          refine at_aload_n dX2_keepIfClearer_46 rfl ?_
          refine at_get dX2_keepIfClearer_47 fl_X2_15 (zl_o rfl) rfl ?_
          refine at_iconst dX2_keepIfClearer_50 (v := nI 0) (by decide) ?_
          refine at_aload_n dX2_keepIfClearer_51 rfl ?_
          refine at_get dX2_keepIfClearer_52 fl_X2_18 (zl_o rfl) rfl ?_
          refine at_iconst dX2_keepIfClearer_55 (v := nI 0) (by decide) ?_
          refine at_bipush dX2_keepIfClearer_56 (v := nI 7) (by decide) ?_
          refine at_copyi dX2_keepIfClearer_58 ac_X2_54 (zl_a (a := 66) rfl) (zl_a (a := 67) rfl) (by decide) (by decide) (by decide) (by decide) (Nat.le_of_ble_eq_true rfl) ⟨by show 1 ≤ D; omega, by show 26 ≤ 60 * D; omega⟩ ?_
          rw [zl_up_A _ rfl]
          refine at_vret dX2_keepIfClearer_61 rfl (by omega) (by omega) ?_
          exact hp
      · omega
    | succ f ih =>
      intro i hi
      have hn := ih (i + 1) (by omega)
      unfold zcn at hn
      obtain ⟨g1, g2, g3⟩ := t3 i (by omega)
      rw [Nat.mul_comm] at g1
      refine at_iload_n dX2_keepIfClearer_4 rfl ?_
      refine at_iconst dX2_keepIfClearer_5 (v := nI 5) (by decide) ?_
      refine at_gtN (tgt := 33) dX2_keepIfClearer_6 (by decide) (by omega) (by omega) (fun c6 => ?_) (fun c6 => ?_)
      · omega
      · refine at_aload_n dX2_keepIfClearer_9 rfl ?_
        refine at_get dX2_keepIfClearer_10 fl_X2_9 (zl_o rfl) rfl ?_
        refine at_iload_n dX2_keepIfClearer_13 rfl ?_
        refine at_bipush dX2_keepIfClearer_14 (v := nI 6) (by decide) ?_
        refine at_imulN dX2_keepIfClearer_16 ?_
        refine at_iload_n dX2_keepIfClearer_17 rfl ?_
        refine at_iaddN dX2_keepIfClearer_18 ?_
        refine at_lald2 (a := 65) dX2_keepIfClearer_19 rfl rfl (by show _ < 48; omega) (by decide) ?_
        rw [g1]
        refine at_iload_n dX2_keepIfClearer_20 rfl ?_
        refine at_neN (tgt := 27) dX2_keepIfClearer_21 (by decide) (by omega) (by omega) (fun c21 => ?_) (fun c21 => ?_)
        · rw [if_neg c21] at hn
          refine at_iincN dX2_keepIfClearer_27 rfl (by decide) ?_
          refine at_goto (tgt := 4) dX2_keepIfClearer_30 (by decide) ?_
          exact hn
        · rw [if_pos c21] at hn
          refine at_iincN dX2_keepIfClearer_24 rfl (by decide) ?_
          refine at_iincN dX2_keepIfClearer_27 rfl (by decide) ?_
          refine at_goto (tgt := 4) dX2_keepIfClearer_30 (by decide) ?_
          exact hn
  refine zq_enter (cc := cX2_keepIfClearer) (nL := 4) (ret := none) cw_X2_keepIfClearer (by decide) rfl (Nat.le_of_ble_eq_true rfl) ?_
  refine at_iconst dX2_keepIfClearer_0 (v := nI 0) (by decide) ?_
  refine at_istore_n dX2_keepIfClearer_1 rfl (by decide) ?_
  refine at_iconst dX2_keepIfClearer_2 (v := nI 1) (by decide) ?_
  refine at_istore_n dX2_keepIfClearer_3 rfl (by decide) ?_
  exact loop 5 0 rfl
theorem zc_tellOn {D k p : Nat} {κ : zl_S} {c : Nat → Nat} {post : Option Value → Nat → (Nat → zq_E) → Prop} (hD : 2 ≤ D) (hb : zQb b) (hm : κ.1 b 0 = nI m) (hm7 : m ≤ 7) (hk : k < 7) (hpm : p < m) (hS : zQS κ b m sd) (hc : ∀ i, i < 5 → κ.2.1 65 (6 * k + (i + 1)) = nI (c i) ∧ 1 ≤ c i ∧ c i ≤ 5)
    (hp : ∀ g, (∀ j, j < 6 * (k + 1) → g j = κ.2.1 65 j) → (∀ i, i < 5 → g (6 * (k + 1) + (i + 1)) = nI (sd p (c i))) → post none n (zl_h (zl_sA κ 65 g) ρ)) : zq_Runs l G D 0 0 yX2_tellOn [.ref 64, .ref b, .int (nI k), .int (nI p)] n (zl_h κ ρ) post := by
  have b65 : b + 4 ≠ 65 := by rcases hb with rfl | rfl | rfl <;> decide
  have loop : ∀ f i, i + f = 5 → ∀ g, (∀ j, j < 6 * (k + 1) → g j = κ.2.1 65 j) → (∀ j, j < i → g (6 * (k + 1) + (j + 1)) = nI (sd p (c j))) → zq_At l G (zq_rm D 0 0) mX2_tellOn (zq_QF G post 0 0) 9 [(0, .ref 64), (1, .ref b), (2, .int (nI k)), (3, .int (nI p)), (4, .int (nI (k * 6))), (5, .int (nI (i + 1)))] [] n (zl_h (zl_sA κ 65 g) ρ) 0 0 := by
    intro f
    induction f with
    | zero =>
      intro i hi g g1 g2
      obtain rfl : i = 5 := hi
      have hp := hp g g1 g2
      refine at_iload dX2_tellOn_9 rfl ?_
      refine at_iconst dX2_tellOn_11 (v := nI 5) (by decide) ?_
      refine at_gtN (tgt := 50) dX2_tellOn_12 (by decide) (by omega) (by omega) (fun c12 => ?_) (fun c12 => ?_)
      · refine at_vret dX2_tellOn_50 rfl (by omega) (by omega) ?_
        exact hp
      · omega
    | succ f ih =>
      intro i hi g g1 g2
      have h1 := hc i (by omega)
      have h2 := g1 (k * 6 + (i + 1)) (by omega)
      rw [show k * 6 + (i + 1) = 6 * k + (i + 1) by omega, h1.1] at h2
      have h3 := (hS p (c i) hpm h1.2.1 h1.2.2).1
      have hn := ih (i + 1) (by omega) (upd g (6 * (k + 1) + (i + 1)) (nI (sd p (c i)))) (fun j hj => by rw [upd_o _ (by omega)]; exact g1 j hj) (fun j hj => by
        by_cases e : j = i
        · subst e; rw [upd_s]
        · rw [upd_o _ (by omega)]; exact g2 j (by omega))
      refine at_iload dX2_tellOn_9 rfl ?_
      refine at_iconst dX2_tellOn_11 (v := nI 5) (by decide) ?_
      refine at_gtN (tgt := 50) dX2_tellOn_12 (by decide) (by omega) (by omega) (fun c12 => ?_) (fun c12 => ?_)
      · omega
      · refine at_aload_n dX2_tellOn_15 rfl ?_
        refine at_get dX2_tellOn_16 fl_X2_9 (zl_o rfl) rfl ?_
        refine at_iload dX2_tellOn_19 rfl ?_
        refine at_iconst dX2_tellOn_21 (v := nI 5) (by decide) ?_
        refine at_iaddN dX2_tellOn_22 ?_
        refine at_iconst dX2_tellOn_23 (v := nI 1) (by decide) ?_
        refine at_iaddN dX2_tellOn_24 ?_
        refine at_iload dX2_tellOn_25 rfl ?_
        refine at_iaddN dX2_tellOn_27 ?_
        refine at_aload_n dX2_tellOn_28 rfl ?_
        refine at_iload_n dX2_tellOn_29 rfl ?_
        refine at_aload_n dX2_tellOn_30 rfl ?_
        refine at_get dX2_tellOn_31 fl_X2_9 (zl_o rfl) rfl ?_
        refine at_iload dX2_tellOn_34 rfl ?_
        refine at_iload dX2_tellOn_36 rfl ?_
        refine at_iaddN dX2_tellOn_38 ?_
        refine at_lald2 (a := 65) dX2_tellOn_39 rfl (show nI (k * 6 + (i + 1)) = nI (6 * k + (i + 1)) by rw [show k * 6 + (i + 1) = 6 * k + (i + 1) by omega]) (by show _ < 48; omega) (by decide) ?_
        rw [zlA_s, h2]
        refine at_callV2 (d := D - 1) dX2_tellOn_40 mv_X2_45 (zl_q hb) (Nat.le_of_ble_eq_true rfl) (zq_r0 (by omega) (by omega) (by omega)) ?_
        refine zc_said (by omega) hb hm hm7 hpm h1.2.1 h1.2.2 ?_
        rw [zlA_o _ b65, h3]
        refine at_last2 (a := 65) dX2_tellOn_43 rfl (show nI (k * 6 + 5 + 1 + (i + 1)) = nI (6 * (k + 1) + (i + 1)) by rw [show k * 6 + 5 + 1 + (i + 1) = 6 * (k + 1) + (i + 1) by omega]) (by show _ < 48; omega) (by decide) ?_
        rw [zlA_a]
        refine at_iincN dX2_tellOn_44 rfl (by decide) ?_
        refine at_goto (tgt := 9) dX2_tellOn_47 (by decide) ?_
        exact hn
  have h := loop 5 0 rfl (κ.2.1 65) (fun _ _ => rfl) (fun j hj => absurd hj (Nat.not_lt_zero _))
  rw [zlA_0] at h
  refine zq_enter (cc := cX2_tellOn) (nL := 6) (ret := none) cw_X2_tellOn (by decide) rfl (Nat.le_of_ble_eq_true rfl) ?_
  refine at_iload_n dX2_tellOn_0 rfl ?_
  refine at_bipush dX2_tellOn_1 (v := nI 6) (by decide) ?_
  refine at_imulN dX2_tellOn_3 ?_
  refine at_istore dX2_tellOn_4 (by decide) ?_
  refine at_iconst dX2_tellOn_6 (v := nI 1) (by decide) ?_
  refine at_istore dX2_tellOn_7 (by decide) ?_
  exact h
end ZC9

