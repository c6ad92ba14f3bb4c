/-! ===== the Model: alphabets ===== -/
theorem zor (a b : Nat) : nI a ||| nI b = nI (a ||| b) := by
  apply Int32.toBitVec_inj.1
  show BitVec.ofNat 32 a ||| BitVec.ofNat 32 b = BitVec.ofNat 32 (a ||| b)
  apply BitVec.eq_of_getLsbD_eq
  intro i hi
  simp [hi]
theorem zsA_sw (σ : zm_S) {a b : Nat} (h : a ≠ b) (g : Nat → Int32) (i : Nat) (v : Int32) : zm_sa (zsA σ a g) b i v = zsA (zm_sa σ b i v) a g := by
  show (σ.1, va_up (va_up σ.2.1 a g) b (upd (va_up σ.2.1 a g b) i v), σ.2.2) = (σ.1, va_up (va_up σ.2.1 b (upd (σ.2.1 b) i v)) a g, σ.2.2)
  rw [va_up_ne _ _ (Ne.symm h)]
  congr 2
  funext c
  by_cases h1 : c = a
  · subst h1
    rw [va_up_ne _ _ h, va_up_self, va_up_self]
  · rw [va_up_ne _ _ h1]
    by_cases h2 : c = b
    · subst h2; rw [va_up_self, va_up_self]
    · rw [va_up_ne _ _ h2, va_up_ne _ _ h2, va_up_ne _ _ h1]
def zsz : Nat → Nat
  | 0 => 24
  | 1 => 6
  | 2 => 2
  | _ => 1
/-- the letter that is found: skip of those that aren't used yet are passed over -/
def zinO (used : Nat) : Nat → Nat → Nat → Option (Nat × Nat)
  | 0, _, _ => none
  | f + 1, skip, y => if used / 2 ^ y % 2 = 1 then zinO used f skip (y + 1) else if 0 < skip then zinO used f (skip - 1) (y + 1) else some (skip, y)
def zy (used skip : Nat) : Nat := match zinO used 6 skip 1 with
  | some q => q.2
  | none => 0
/-- what is left and what is used ahead of the i-th letter of the k-th alphabet -/
def zA (k : Nat) : Nat → Nat × Nat
  | 0 => (k, 0)
  | i + 1 => ((zA k i).1 % zsz i, (zA k i).2 ||| 2 ^ zy (zA k i).2 ((zA k i).1 / zsz i))
def zal (k i : Nat) : Nat := zy (zA k i).2 ((zA k i).1 / zsz i)
def zalOk (k : Nat) : Bool := (List.range 5).all (fun i => (zinO (zA k i).2 6 ((zA k i).1 / zsz i) 1).isSome && decide (1 ≤ zal k i) && decide (zal k i ≤ 5) && decide ((zA k i).2 < 64) && (List.range i).all (fun j => decide (zal k j ≠ zal k i)))
set_option maxRecDepth 100000 in
theorem zal_all : (List.range 120).all zalOk = true := by decide +kernel
theorem zal_ok {k i : Nat} (hk : k < 120) (hi : i < 5) : (∃ s, zinO (zA k i).2 6 ((zA k i).1 / zsz i) 1 = some (s, zal k i)) ∧ 1 ≤ zal k i ∧ zal k i ≤ 5 ∧ (zA k i).2 < 64 ∧ ∀ j, j < i → zal k j ≠ zal k i := by
  have h := List.all_eq_true.mp zal_all k (List.mem_range.mpr hk)
  have h2 := List.all_eq_true.mp h i (List.mem_range.mpr hi)
  simp only [Bool.and_eq_true, decide_eq_true_eq] at h2
  obtain ⟨⟨⟨⟨h3, h4⟩, h5⟩, h6⟩, h7⟩ := h2
  refine ⟨?_, h4, h5, h6, fun j hj => ?_⟩
  · obtain ⟨q, hq⟩ := Option.isSome_iff_exists.mp h3
    refine ⟨q.1, ?_⟩
    rw [hq]
    show some q = some (q.1, zy _ _)
    unfold zy
    rw [hq]
  · have := List.all_eq_true.mp h7 j (List.mem_range.mpr hj)
    exact of_decide_eq_true this
/-- the place of a letter in an alphabet -/
def zrkN (al : Nat → Nat) (y : Nat) : Nat := if al 0 = y then 0 else if al 1 = y then 1 else if al 2 = y then 2 else if al 3 = y then 3 else 4
theorem zrkN_lt (al : Nat → Nat) (y : Nat) : zrkN al y < 5 := by
  unfold zrkN
  by_cases h0 : al 0 = y
  · rw [if_pos h0]; decide
  · rw [if_neg h0]
    by_cases h1 : al 1 = y
    · rw [if_pos h1]; decide
    · rw [if_neg h1]
      by_cases h2 : al 2 = y
      · rw [if_pos h2]; decide
      · rw [if_neg h2]
        by_cases h3 : al 3 = y
        · rw [if_pos h3]; decide
        · rw [if_neg h3]; decide
/-- an alphabet: five letters, all different -/
def zpm (al : Nat → Nat) : Prop := (∀ i, i < 5 → 1 ≤ al i ∧ al i ≤ 5) ∧ ∀ i j, i < j → j < 5 → al i ≠ al j
theorem zal_pm {k : Nat} (hk : k < 120) : zpm (zal k) := ⟨fun i hi => ⟨(zal_ok hk hi).2.1, (zal_ok hk hi).2.2.1⟩, fun i j hij hj => (zal_ok hk hj).2.2.2.2 i hij⟩
theorem zpm_has {al : Nat → Nat} (h : zpm al) {y : Nat} (h1 : 1 ≤ y) (h5 : y ≤ 5) : al 0 = y ∨ al 1 = y ∨ al 2 = y ∨ al 3 = y ∨ al 4 = y := by
  have a0 := h.1 0 (by decide)
  have a1 := h.1 1 (by decide)
  have a2 := h.1 2 (by decide)
  have a3 := h.1 3 (by decide)
  have a4 := h.1 4 (by decide)
  have e01 := h.2 0 1 (by decide) (by decide)
  have e02 := h.2 0 2 (by decide) (by decide)
  have e03 := h.2 0 3 (by decide) (by decide)
  have e04 := h.2 0 4 (by decide) (by decide)
  have e12 := h.2 1 2 (by decide) (by decide)
  have e13 := h.2 1 3 (by decide) (by decide)
  have e14 := h.2 1 4 (by decide) (by decide)
  have e23 := h.2 2 3 (by decide) (by decide)
  have e24 := h.2 2 4 (by decide) (by decide)
  have e34 := h.2 3 4 (by decide) (by decide)
  generalize al 0 = b0 at *
  generalize al 1 = b1 at *
  generalize al 2 = b2 at *
  generalize al 3 = b3 at *
  generalize al 4 = b4 at *
  have f : ∀ z, 1 ≤ z → z ≤ 5 → z = 1 ∨ z = 2 ∨ z = 3 ∨ z = 4 ∨ z = 5 := fun z _ _ => by omega
  rcases f b0 a0.1 a0.2 with rfl | rfl | rfl | rfl | rfl <;> rcases f b1 a1.1 a1.2 with rfl | rfl | rfl | rfl | rfl <;> (try contradiction) <;> rcases f b2 a2.1 a2.2 with rfl | rfl | rfl | rfl | rfl <;> (try contradiction) <;> omega
theorem zrk_at {al : Nat → Nat} (h : zpm al) (R : Nat → Int32) {y : Nat} (h1 : 1 ≤ y) (h5 : y ≤ 5) : zrk R al 5 y = nI (zrkN al y) := by
  have e01 := h.2 0 1 (by decide) (by decide)
  have e02 := h.2 0 2 (by decide) (by decide)
  have e03 := h.2 0 3 (by decide) (by decide)
  have e04 := h.2 0 4 (by decide) (by decide)
  have e12 := h.2 1 2 (by decide) (by decide)
  have e13 := h.2 1 3 (by decide) (by decide)
  have e14 := h.2 1 4 (by decide) (by decide)
  have e23 := h.2 2 3 (by decide) (by decide)
  have e24 := h.2 2 4 (by decide) (by decide)
  have e34 := h.2 3 4 (by decide) (by decide)
  show upd (upd (upd (upd (upd R (al 0) (nI 0)) (al 1) (nI 1)) (al 2) (nI 2)) (al 3) (nI 3)) (al 4) (nI 4) y = _
  unfold zrkN
  rcases zpm_has h h1 h5 with rfl | rfl | rfl | rfl | rfl
  · rw [upd_o _ e04, upd_o _ e03, upd_o _ e02, upd_o _ e01, upd_s, if_pos rfl]
  · rw [upd_o _ e14, upd_o _ e13, upd_o _ e12, upd_s, if_neg e01, if_pos rfl]
  · rw [upd_o _ e24, upd_o _ e23, upd_s, if_neg e02, if_neg e12, if_pos rfl]
  · rw [upd_o _ e34, upd_s, if_neg e03, if_neg e13, if_neg e23, if_pos rfl]
  · rw [upd_s, if_neg e04, if_neg e14, if_neg e24, if_neg e34]
def zod (O : Nat → Int32) (al : Nat → Nat) : Nat → Nat → Int32
  | 0 => O
  | i + 1 => upd (zod O al i) i (nI (al i))
theorem dX12_laysAlphabet_0 : decode cX12_laysAlphabet 0 = .ok (.iload_n 1, 1) := by decide +kernel
theorem dX12_laysAlphabet_1 : decode cX12_laysAlphabet 1 = .ok (.istore_n 2, 1) := by decide +kernel
theorem dX12_laysAlphabet_2 : decode cX12_laysAlphabet 2 = .ok (.bipush 120, 2) := by decide +kernel
theorem dX12_laysAlphabet_4 : decode cX12_laysAlphabet 4 = .ok (.istore_n 3, 1) := by decide +kernel
theorem dX12_laysAlphabet_5 : decode cX12_laysAlphabet 5 = .ok (.iconst 0, 1) := by decide +kernel
theorem dX12_laysAlphabet_6 : decode cX12_laysAlphabet 6 = .ok (.istore 4, 2) := by decide +kernel
theorem dX12_laysAlphabet_8 : decode cX12_laysAlphabet 8 = .ok (.iconst 0, 1) := by decide +kernel
theorem dX12_laysAlphabet_9 : decode cX12_laysAlphabet 9 = .ok (.istore 5, 2) := by decide +kernel
theorem dX12_laysAlphabet_11 : decode cX12_laysAlphabet 11 = .ok (.iload 5, 2) := by decide +kernel
theorem dX12_laysAlphabet_13 : decode cX12_laysAlphabet 13 = .ok (.iconst 5, 1) := by decide +kernel
theorem dX12_laysAlphabet_14 : decode cX12_laysAlphabet 14 = .ok (.if_icmp .ge 96, 3) := by decide +kernel
theorem dX12_laysAlphabet_17 : decode cX12_laysAlphabet 17 = .ok (.iload_n 3, 1) := by decide +kernel
theorem dX12_laysAlphabet_18 : decode cX12_laysAlphabet 18 = .ok (.iconst 5, 1) := by decide +kernel
theorem dX12_laysAlphabet_19 : decode cX12_laysAlphabet 19 = .ok (.iload 5, 2) := by decide +kernel
theorem dX12_laysAlphabet_21 : decode cX12_laysAlphabet 21 = .ok (.isub, 1) := by decide +kernel
theorem dX12_laysAlphabet_22 : decode cX12_laysAlphabet 22 = .ok (.idiv, 1) := by decide +kernel
theorem dX12_laysAlphabet_23 : decode cX12_laysAlphabet 23 = .ok (.istore_n 3, 1) := by decide +kernel
theorem dX12_laysAlphabet_24 : decode cX12_laysAlphabet 24 = .ok (.iload_n 2, 1) := by decide +kernel
theorem dX12_laysAlphabet_25 : decode cX12_laysAlphabet 25 = .ok (.iload_n 3, 1) := by decide +kernel
theorem dX12_laysAlphabet_26 : decode cX12_laysAlphabet 26 = .ok (.idiv, 1) := by decide +kernel
theorem dX12_laysAlphabet_27 : decode cX12_laysAlphabet 27 = .ok (.istore 6, 2) := by decide +kernel
theorem dX12_laysAlphabet_29 : decode cX12_laysAlphabet 29 = .ok (.iload_n 2, 1) := by decide +kernel
theorem dX12_laysAlphabet_30 : decode cX12_laysAlphabet 30 = .ok (.iload_n 3, 1) := by decide +kernel
theorem dX12_laysAlphabet_31 : decode cX12_laysAlphabet 31 = .ok (.irem, 1) := by decide +kernel
theorem dX12_laysAlphabet_32 : decode cX12_laysAlphabet 32 = .ok (.istore_n 2, 1) := by decide +kernel
theorem dX12_laysAlphabet_33 : decode cX12_laysAlphabet 33 = .ok (.iconst 1, 1) := by decide +kernel
theorem dX12_laysAlphabet_34 : decode cX12_laysAlphabet 34 = .ok (.istore 7, 2) := by decide +kernel
theorem dX12_laysAlphabet_36 : decode cX12_laysAlphabet 36 = .ok (.iload 4, 2) := by decide +kernel
theorem dX12_laysAlphabet_38 : decode cX12_laysAlphabet 38 = .ok (.iload 7, 2) := by decide +kernel
theorem dX12_laysAlphabet_40 : decode cX12_laysAlphabet 40 = .ok (.invokestatic 377, 3) := by decide +kernel
theorem dX12_laysAlphabet_43 : decode cX12_laysAlphabet 43 = .ok (.ifCond .ne 8, 3) := by decide +kernel
theorem dX12_laysAlphabet_46 : decode cX12_laysAlphabet 46 = .ok (.iload 6, 2) := by decide +kernel
theorem dX12_laysAlphabet_48 : decode cX12_laysAlphabet 48 = .ok (.ifCond .le 29, 3) := by decide +kernel
theorem dX12_laysAlphabet_51 : decode cX12_laysAlphabet 51 = .ok (.iload 6, 2) := by decide +kernel
theorem dX12_laysAlphabet_53 : decode cX12_laysAlphabet 53 = .ok (.iload 4, 2) := by decide +kernel
theorem dX12_laysAlphabet_55 : decode cX12_laysAlphabet 55 = .ok (.iload 7, 2) := by decide +kernel
theorem dX12_laysAlphabet_57 : decode cX12_laysAlphabet 57 = .ok (.invokestatic 377, 3) := by decide +kernel
theorem dX12_laysAlphabet_60 : decode cX12_laysAlphabet 60 = .ok (.ifCond .eq 7, 3) := by decide +kernel
theorem dX12_laysAlphabet_63 : decode cX12_laysAlphabet 63 = .ok (.iconst 0, 1) := by decide +kernel
theorem dX12_laysAlphabet_64 : decode cX12_laysAlphabet 64 = .ok (.goto 4, 3) := by decide +kernel
theorem dX12_laysAlphabet_67 : decode cX12_laysAlphabet 67 = .ok (.iconst 1, 1) := by decide +kernel
theorem dX12_laysAlphabet_68 : decode cX12_laysAlphabet 68 = .ok (.isub, 1) := by decide +kernel
theorem dX12_laysAlphabet_69 : decode cX12_laysAlphabet 69 = .ok (.istore 6, 2) := by decide +kernel
theorem dX12_laysAlphabet_71 : decode cX12_laysAlphabet 71 = .ok (.iinc 7 1, 3) := by decide +kernel
theorem dX12_laysAlphabet_74 : decode cX12_laysAlphabet 74 = .ok (.goto (-38), 3) := by decide +kernel
theorem dX12_laysAlphabet_77 : decode cX12_laysAlphabet 77 = .ok (.iload 4, 2) := by decide +kernel
theorem dX12_laysAlphabet_79 : decode cX12_laysAlphabet 79 = .ok (.iconst 1, 1) := by decide +kernel
theorem dX12_laysAlphabet_80 : decode cX12_laysAlphabet 80 = .ok (.iload 7, 2) := by decide +kernel
theorem dX12_laysAlphabet_82 : decode cX12_laysAlphabet 82 = .ok (.ishl, 1) := by decide +kernel
theorem dX12_laysAlphabet_83 : decode cX12_laysAlphabet 83 = .ok (.ior, 1) := by decide +kernel
theorem dX12_laysAlphabet_84 : decode cX12_laysAlphabet 84 = .ok (.istore 4, 2) := by decide +kernel
theorem dX12_laysAlphabet_86 : decode cX12_laysAlphabet 86 = .ok (.aload_n 0, 1) := by decide +kernel
theorem dX12_laysAlphabet_87 : decode cX12_laysAlphabet 87 = .ok (.getfield 83, 3) := by decide +kernel
theorem dX12_laysAlphabet_90 : decode cX12_laysAlphabet 90 = .ok (.iload 5, 2) := by decide +kernel
theorem dX12_laysAlphabet_92 : decode cX12_laysAlphabet 92 = .ok (.iload 7, 2) := by decide +kernel
theorem dX12_laysAlphabet_94 : decode cX12_laysAlphabet 94 = .ok (.iastore, 1) := by decide +kernel
theorem dX12_laysAlphabet_95 : decode cX12_laysAlphabet 95 = .ok (.aload_n 0, 1) := by decide +kernel
theorem dX12_laysAlphabet_96 : decode cX12_laysAlphabet 96 = .ok (.getfield 55, 3) := by decide +kernel
theorem dX12_laysAlphabet_99 : decode cX12_laysAlphabet 99 = .ok (.iload 7, 2) := by decide +kernel
theorem dX12_laysAlphabet_101 : decode cX12_laysAlphabet 101 = .ok (.iload 5, 2) := by decide +kernel
theorem dX12_laysAlphabet_103 : decode cX12_laysAlphabet 103 = .ok (.iastore, 1) := by decide +kernel
theorem dX12_laysAlphabet_104 : decode cX12_laysAlphabet 104 = .ok (.iinc 5 1, 3) := by decide +kernel
theorem dX12_laysAlphabet_107 : decode cX12_laysAlphabet 107 = .ok (.goto (-96), 3) := by decide +kernel
theorem dX12_laysAlphabet_110 : decode cX12_laysAlphabet 110 = .ok (.return_, 1) := by decide +kernel
abbrev mX12_laysAlphabet : zq_M := (cX12_laysAlphabet, RX12, "laysAlphabet", none, 8)
theorem dX12_laidAlphabet_0 : decode cX12_laidAlphabet 0 = .ok (.iconst 0, 1) := by decide +kernel
theorem dX12_laidAlphabet_1 : decode cX12_laidAlphabet 1 = .ok (.istore_n 1, 1) := by decide +kernel
theorem dX12_laidAlphabet_2 : decode cX12_laidAlphabet 2 = .ok (.iconst 0, 1) := by decide +kernel
theorem dX12_laidAlphabet_3 : decode cX12_laidAlphabet 3 = .ok (.istore_n 2, 1) := by decide +kernel
theorem dX12_laidAlphabet_4 : decode cX12_laidAlphabet 4 = .ok (.iload_n 2, 1) := by decide +kernel
theorem dX12_laidAlphabet_5 : decode cX12_laidAlphabet 5 = .ok (.iconst 5, 1) := by decide +kernel
theorem dX12_laidAlphabet_6 : decode cX12_laidAlphabet 6 = .ok (.if_icmp .ge 21, 3) := by decide +kernel
theorem dX12_laidAlphabet_9 : decode cX12_laidAlphabet 9 = .ok (.bipush 10, 2) := by decide +kernel
theorem dX12_laidAlphabet_11 : decode cX12_laidAlphabet 11 = .ok (.iload_n 1, 1) := by decide +kernel
theorem dX12_laidAlphabet_12 : decode cX12_laidAlphabet 12 = .ok (.imul, 1) := by decide +kernel
theorem dX12_laidAlphabet_13 : decode cX12_laidAlphabet 13 = .ok (.aload_n 0, 1) := by decide +kernel
theorem dX12_laidAlphabet_14 : decode cX12_laidAlphabet 14 = .ok (.getfield 83, 3) := by decide +kernel
theorem dX12_laidAlphabet_17 : decode cX12_laidAlphabet 17 = .ok (.iload_n 2, 1) := by decide +kernel
theorem dX12_laidAlphabet_18 : decode cX12_laidAlphabet 18 = .ok (.iaload, 1) := by decide +kernel
theorem dX12_laidAlphabet_19 : decode cX12_laidAlphabet 19 = .ok (.iadd, 1) := by decide +kernel
theorem dX12_laidAlphabet_20 : decode cX12_laidAlphabet 20 = .ok (.istore_n 1, 1) := by decide +kernel
theorem dX12_laidAlphabet_21 : decode cX12_laidAlphabet 21 = .ok (.iinc 2 1, 3) := by decide +kernel
theorem dX12_laidAlphabet_24 : decode cX12_laidAlphabet 24 = .ok (.goto (-20), 3) := by decide +kernel
theorem dX12_laidAlphabet_27 : decode cX12_laidAlphabet 27 = .ok (.iload_n 1, 1) := by decide +kernel
theorem dX12_laidAlphabet_28 : decode cX12_laidAlphabet 28 = .ok (.ireturn, 1) := by decide +kernel
abbrev mX12_laidAlphabet : zq_M := (cX12_laidAlphabet, RX12, "laidAlphabet", (some .int), 3)
theorem dX12_isRight_0 : decode cX12_isRight 0 = .ok (.aload_n 0, 1) := by decide +kernel
theorem dX12_isRight_1 : decode cX12_isRight 1 = .ok (.iconst (-1), 1) := by decide +kernel
theorem dX12_isRight_2 : decode cX12_isRight 2 = .ok (.invokevirtual 334, 3) := by decide +kernel
theorem dX12_isRight_5 : decode cX12_isRight 5 = .ok (.ifCond .ne 7, 3) := by decide +kernel
theorem dX12_isRight_8 : decode cX12_isRight 8 = .ok (.iconst 1, 1) := by decide +kernel
theorem dX12_isRight_9 : decode cX12_isRight 9 = .ok (.goto 4, 3) := by decide +kernel
theorem dX12_isRight_12 : decode cX12_isRight 12 = .ok (.iconst 0, 1) := by decide +kernel
theorem dX12_isRight_13 : decode cX12_isRight 13 = .ok (.ireturn, 1) := by decide +kernel
abbrev mX12_isRight : zq_M := (cX12_isRight, RX12, "isRight", (some .boolean), 1)
theorem dX12_right_0 : decode cX12_right 0 = .ok (.iload_n 1, 1) := by decide +kernel
theorem dX12_right_1 : decode cX12_right 1 = .ok (.iconst (-1), 1) := by decide +kernel
theorem dX12_right_2 : decode cX12_right 2 = .ok (.if_icmp .ge 5, 3) := by decide +kernel
theorem dX12_right_5 : decode cX12_right 5 = .ok (.iconst (-1), 1) := by decide +kernel
theorem dX12_right_6 : decode cX12_right 6 = .ok (.ireturn, 1) := by decide +kernel
theorem dX12_right_7 : decode cX12_right 7 = .ok (.iconst 0, 1) := by decide +kernel
theorem dX12_right_8 : decode cX12_right 8 = .ok (.istore_n 2, 1) := by decide +kernel
theorem dX12_right_9 : decode cX12_right 9 = .ok (.iconst (-1), 1) := by decide +kernel
theorem dX12_right_10 : decode cX12_right 10 = .ok (.istore_n 3, 1) := by decide +kernel
theorem dX12_right_11 : decode cX12_right 11 = .ok (.iconst 0, 1) := by decide +kernel
theorem dX12_right_12 : decode cX12_right 12 = .ok (.istore 4, 2) := by decide +kernel
theorem dX12_right_14 : decode cX12_right 14 = .ok (.iload 4, 2) := by decide +kernel
theorem dX12_right_16 : decode cX12_right 16 = .ok (.bipush 120, 2) := by decide +kernel
theorem dX12_right_18 : decode cX12_right 18 = .ok (.if_icmp .ge 38, 3) := by decide +kernel
theorem dX12_right_21 : decode cX12_right 21 = .ok (.aload_n 0, 1) := by decide +kernel
theorem dX12_right_22 : decode cX12_right 22 = .ok (.iload 4, 2) := by decide +kernel
theorem dX12_right_24 : decode cX12_right 24 = .ok (.invokevirtual 386, 3) := by decide +kernel
theorem dX12_right_27 : decode cX12_right 27 = .ok (.aload_n 0, 1) := by decide +kernel
theorem dX12_right_28 : decode cX12_right 28 = .ok (.invokevirtual 389, 3) := by decide +kernel
theorem dX12_right_31 : decode cX12_right 31 = .ok (.ifCond .ne 6, 3) := by decide +kernel
theorem dX12_right_34 : decode cX12_right 34 = .ok (.goto 16, 3) := by decide +kernel
theorem dX12_right_37 : decode cX12_right 37 = .ok (.iload_n 2, 1) := by decide +kernel
theorem dX12_right_38 : decode cX12_right 38 = .ok (.iload_n 1, 1) := by decide +kernel
theorem dX12_right_39 : decode cX12_right 39 = .ok (.if_icmp .ne 8, 3) := by decide +kernel
theorem dX12_right_42 : decode cX12_right 42 = .ok (.aload_n 0, 1) := by decide +kernel
theorem dX12_right_43 : decode cX12_right 43 = .ok (.invokevirtual 392, 3) := by decide +kernel
theorem dX12_right_46 : decode cX12_right 46 = .ok (.istore_n 3, 1) := by decide +kernel
theorem dX12_right_47 : decode cX12_right 47 = .ok (.iinc 2 1, 3) := by decide +kernel
theorem dX12_right_50 : decode cX12_right 50 = .ok (.iinc 4 1, 3) := by decide +kernel
theorem dX12_right_53 : decode cX12_right 53 = .ok (.goto (-39), 3) := by decide +kernel
theorem dX12_right_56 : decode cX12_right 56 = .ok (.aload_n 0, 1) := by decide +kernel
theorem dX12_right_57 : decode cX12_right 57 = .ok (.invokevirtual 132, 3) := by decide +kernel
theorem dX12_right_60 : decode cX12_right 60 = .ok (.iload_n 1, 1) := by decide +kernel
theorem dX12_right_61 : decode cX12_right 61 = .ok (.iconst (-1), 1) := by decide +kernel
theorem dX12_right_62 : decode cX12_right 62 = .ok (.if_icmp .ne 7, 3) := by decide +kernel
theorem dX12_right_65 : decode cX12_right 65 = .ok (.iload_n 2, 1) := by decide +kernel
theorem dX12_right_66 : decode cX12_right 66 = .ok (.goto 4, 3) := by decide +kernel
theorem dX12_right_69 : decode cX12_right 69 = .ok (.iload_n 3, 1) := by decide +kernel
theorem dX12_right_70 : decode cX12_right 70 = .ok (.ireturn, 1) := by decide +kernel
abbrev mX12_right : zq_M := (cX12_right, RX12, "right", (some .int), 5)
theorem dX12_isAllSo_0 : decode cX12_isAllSo 0 = .ok (.iconst 1, 1) := by decide +kernel
theorem dX12_isAllSo_1 : decode cX12_isAllSo 1 = .ok (.istore_n 1, 1) := by decide +kernel
theorem dX12_isAllSo_2 : decode cX12_isAllSo 2 = .ok (.iconst 0, 1) := by decide +kernel
theorem dX12_isAllSo_3 : decode cX12_isAllSo 3 = .ok (.istore_n 2, 1) := by decide +kernel
theorem dX12_isAllSo_4 : decode cX12_isAllSo 4 = .ok (.iload_n 2, 1) := by decide +kernel
theorem dX12_isAllSo_5 : decode cX12_isAllSo 5 = .ok (.aload_n 0, 1) := by decide +kernel
theorem dX12_isAllSo_6 : decode cX12_isAllSo 6 = .ok (.getfield 42, 3) := by decide +kernel
theorem dX12_isAllSo_9 : decode cX12_isAllSo 9 = .ok (.bipush 74, 2) := by decide +kernel
theorem dX12_isAllSo_11 : decode cX12_isAllSo 11 = .ok (.iaload, 1) := by decide +kernel
theorem dX12_isAllSo_12 : decode cX12_isAllSo 12 = .ok (.if_icmp .ge 50, 3) := by decide +kernel
theorem dX12_isAllSo_15 : decode cX12_isAllSo 15 = .ok (.iload_n 1, 1) := by decide +kernel
theorem dX12_isAllSo_16 : decode cX12_isAllSo 16 = .ok (.ifCond .eq 46, 3) := by decide +kernel
theorem dX12_isAllSo_19 : decode cX12_isAllSo 19 = .ok (.aload_n 0, 1) := by decide +kernel
theorem dX12_isAllSo_20 : decode cX12_isAllSo 20 = .ok (.aload_n 0, 1) := by decide +kernel
theorem dX12_isAllSo_21 : decode cX12_isAllSo 21 = .ok (.getfield 42, 3) := by decide +kernel
theorem dX12_isAllSo_24 : decode cX12_isAllSo 24 = .ok (.bipush 55, 2) := by decide +kernel
theorem dX12_isAllSo_26 : decode cX12_isAllSo 26 = .ok (.iconst 2, 1) := by decide +kernel
theorem dX12_isAllSo_27 : decode cX12_isAllSo 27 = .ok (.iload_n 2, 1) := by decide +kernel
theorem dX12_isAllSo_28 : decode cX12_isAllSo 28 = .ok (.imul, 1) := by decide +kernel
theorem dX12_isAllSo_29 : decode cX12_isAllSo 29 = .ok (.iadd, 1) := by decide +kernel
theorem dX12_isAllSo_30 : decode cX12_isAllSo 30 = .ok (.iaload, 1) := by decide +kernel
theorem dX12_isAllSo_31 : decode cX12_isAllSo 31 = .ok (.aload_n 0, 1) := by decide +kernel
theorem dX12_isAllSo_32 : decode cX12_isAllSo 32 = .ok (.getfield 42, 3) := by decide +kernel
theorem dX12_isAllSo_35 : decode cX12_isAllSo 35 = .ok (.bipush 55, 2) := by decide +kernel
theorem dX12_isAllSo_37 : decode cX12_isAllSo 37 = .ok (.iconst 2, 1) := by decide +kernel
theorem dX12_isAllSo_38 : decode cX12_isAllSo 38 = .ok (.iload_n 2, 1) := by decide +kernel
theorem dX12_isAllSo_39 : decode cX12_isAllSo 39 = .ok (.imul, 1) := by decide +kernel
theorem dX12_isAllSo_40 : decode cX12_isAllSo 40 = .ok (.iadd, 1) := by decide +kernel
theorem dX12_isAllSo_41 : decode cX12_isAllSo 41 = .ok (.iconst 1, 1) := by decide +kernel
theorem dX12_isAllSo_42 : decode cX12_isAllSo 42 = .ok (.iadd, 1) := by decide +kernel
theorem dX12_isAllSo_43 : decode cX12_isAllSo 43 = .ok (.iaload, 1) := by decide +kernel
theorem dX12_isAllSo_44 : decode cX12_isAllSo 44 = .ok (.invokevirtual 368, 3) := by decide +kernel
theorem dX12_isAllSo_47 : decode cX12_isAllSo 47 = .ok (.ifCond .ge 7, 3) := by decide +kernel
theorem dX12_isAllSo_50 : decode cX12_isAllSo 50 = .ok (.iconst 1, 1) := by decide +kernel
theorem dX12_isAllSo_51 : decode cX12_isAllSo 51 = .ok (.goto 4, 3) := by decide +kernel
theorem dX12_isAllSo_54 : decode cX12_isAllSo 54 = .ok (.iconst 0, 1) := by decide +kernel
theorem dX12_isAllSo_55 : decode cX12_isAllSo 55 = .ok (.istore_n 1, 1) := by decide +kernel
theorem dX12_isAllSo_56 : decode cX12_isAllSo 56 = .ok (.iinc 2 1, 3) := by decide +kernel
theorem dX12_isAllSo_59 : decode cX12_isAllSo 59 = .ok (.goto (-55), 3) := by decide +kernel
theorem dX12_isAllSo_62 : decode cX12_isAllSo 62 = .ok (.iload_n 1, 1) := by decide +kernel
theorem dX12_isAllSo_63 : decode cX12_isAllSo 63 = .ok (.ireturn, 1) := by decide +kernel
abbrev mX12_isAllSo : zq_M := (cX12_isAllSo, RX12, "isAllSo", (some .boolean), 3)
theorem dX12_fits_0 : decode cX12_fits 0 = .ok (.iload_n 1, 1) := by decide +kernel
theorem dX12_fits_1 : decode cX12_fits 1 = .ok (.iconst (-1), 1) := by decide +kernel
theorem dX12_fits_2 : decode cX12_fits 2 = .ok (.if_icmp .ge 5, 3) := by decide +kernel
theorem dX12_fits_5 : decode cX12_fits 5 = .ok (.iconst (-1), 1) := by decide +kernel
theorem dX12_fits_6 : decode cX12_fits 6 = .ok (.ireturn, 1) := by decide +kernel
theorem dX12_fits_7 : decode cX12_fits 7 = .ok (.iconst 0, 1) := by decide +kernel
theorem dX12_fits_8 : decode cX12_fits 8 = .ok (.istore_n 2, 1) := by decide +kernel
theorem dX12_fits_9 : decode cX12_fits 9 = .ok (.iconst (-1), 1) := by decide +kernel
theorem dX12_fits_10 : decode cX12_fits 10 = .ok (.istore_n 3, 1) := by decide +kernel
theorem dX12_fits_11 : decode cX12_fits 11 = .ok (.iconst 0, 1) := by decide +kernel
theorem dX12_fits_12 : decode cX12_fits 12 = .ok (.istore 4, 2) := by decide +kernel
theorem dX12_fits_14 : decode cX12_fits 14 = .ok (.iload 4, 2) := by decide +kernel
theorem dX12_fits_16 : decode cX12_fits 16 = .ok (.bipush 120, 2) := by decide +kernel
theorem dX12_fits_18 : decode cX12_fits 18 = .ok (.if_icmp .ge 38, 3) := by decide +kernel
theorem dX12_fits_21 : decode cX12_fits 21 = .ok (.aload_n 0, 1) := by decide +kernel
theorem dX12_fits_22 : decode cX12_fits 22 = .ok (.iload 4, 2) := by decide +kernel
theorem dX12_fits_24 : decode cX12_fits 24 = .ok (.invokevirtual 386, 3) := by decide +kernel
theorem dX12_fits_27 : decode cX12_fits 27 = .ok (.aload_n 0, 1) := by decide +kernel
theorem dX12_fits_28 : decode cX12_fits 28 = .ok (.invokevirtual 395, 3) := by decide +kernel
theorem dX12_fits_31 : decode cX12_fits 31 = .ok (.ifCond .ne 6, 3) := by decide +kernel
theorem dX12_fits_34 : decode cX12_fits 34 = .ok (.goto 16, 3) := by decide +kernel
theorem dX12_fits_37 : decode cX12_fits 37 = .ok (.iload_n 2, 1) := by decide +kernel
theorem dX12_fits_38 : decode cX12_fits 38 = .ok (.iload_n 1, 1) := by decide +kernel
theorem dX12_fits_39 : decode cX12_fits 39 = .ok (.if_icmp .ne 8, 3) := by decide +kernel
theorem dX12_fits_42 : decode cX12_fits 42 = .ok (.aload_n 0, 1) := by decide +kernel
theorem dX12_fits_43 : decode cX12_fits 43 = .ok (.invokevirtual 392, 3) := by decide +kernel
theorem dX12_fits_46 : decode cX12_fits 46 = .ok (.istore_n 3, 1) := by decide +kernel
theorem dX12_fits_47 : decode cX12_fits 47 = .ok (.iinc 2 1, 3) := by decide +kernel
theorem dX12_fits_50 : decode cX12_fits 50 = .ok (.iinc 4 1, 3) := by decide +kernel
theorem dX12_fits_53 : decode cX12_fits 53 = .ok (.goto (-39), 3) := by decide +kernel
theorem dX12_fits_56 : decode cX12_fits 56 = .ok (.aload_n 0, 1) := by decide +kernel
theorem dX12_fits_57 : decode cX12_fits 57 = .ok (.invokevirtual 132, 3) := by decide +kernel
theorem dX12_fits_60 : decode cX12_fits 60 = .ok (.iload_n 1, 1) := by decide +kernel
theorem dX12_fits_61 : decode cX12_fits 61 = .ok (.iconst (-1), 1) := by decide +kernel
theorem dX12_fits_62 : decode cX12_fits 62 = .ok (.if_icmp .ne 7, 3) := by decide +kernel
theorem dX12_fits_65 : decode cX12_fits 65 = .ok (.iload_n 2, 1) := by decide +kernel
theorem dX12_fits_66 : decode cX12_fits 66 = .ok (.goto 4, 3) := by decide +kernel
theorem dX12_fits_69 : decode cX12_fits 69 = .ok (.iload_n 3, 1) := by decide +kernel
theorem dX12_fits_70 : decode cX12_fits 70 = .ok (.ireturn, 1) := by decide +kernel
abbrev mX12_fits : zq_M := (cX12_fits, RX12, "fits", (some .int), 5)
section ZL5
variable {l : Launch} {G : zq_G} {D n m : Nat} {σ : zm_S} {ρ : Nat → zq_E} {post : Option Value → Nat → (Nat → zq_E) → Prop} {x w rk al : Nat → Nat}
theorem zm_laysA_in {a b s i u : Nat} (hD : 1 ≤ D) (hu : u < 64) : ∀ f skip y s2 y2 : Nat, y + f < 32 → skip < 1000 → zinO u f skip y = some (s2, y2) → zq_At l G (zq_rm D 0 0) mX12_laysAlphabet (zq_QF G post 0 0) 77 [(0, .ref 70), (1, .int (nI a)), (2, .int (nI b)), (3, .int (nI s)), (4, .int (nI u)), (5, .int (nI i)), (6, .int (nI s2)), (7, .int (nI y2))] [] n (zm_h σ ρ) 0 0 → zq_At l G (zq_rm D 0 0) mX12_laysAlphabet (zq_QF G post 0 0) 36 [(0, .ref 70), (1, .int (nI a)), (2, .int (nI b)), (3, .int (nI s)), (4, .int (nI u)), (5, .int (nI i)), (6, .int (nI skip)), (7, .int (nI y))] [] n (zm_h σ ρ) 0 0 := by
  intro f
  induction f with
  | zero => intro skip y s2 y2 _ _ h; cases h
  | succ f ih =>
    intro skip y s2 y2 hy hsk h hk
    unfold zinO at h
    by_cases hb : u / 2 ^ y % 2 = 1
    · rw [if_pos hb] at h
      refine at_iload dX12_laysAlphabet_36 rfl ?_
      refine at_iload dX12_laysAlphabet_38 rfl ?_
      refine at_callS2 (d := D - 1) dX12_laysAlphabet_40 ms_X12_377 (Nat.le_of_ble_eq_true rfl) (zq_r0 (by omega) (by omega) (by omega)) ?_
      refine zm_isIn (by omega) (by omega) ?_
      rw [decide_eq_true hb]
      refine at_if_neB (tgt := 51) dX12_laysAlphabet_43 (by decide) (fun c43 => ?_) (fun c43 => ?_)
      · refine at_iload dX12_laysAlphabet_51 rfl ?_
        refine at_iload dX12_laysAlphabet_53 rfl ?_
        refine at_iload dX12_laysAlphabet_55 rfl ?_
        refine at_callS2 (d := D - 1) dX12_laysAlphabet_57 ms_X12_377 (Nat.le_of_ble_eq_true rfl) (zq_r0 (by omega) (by omega) (by omega)) ?_
        refine zm_isIn (by omega) (by omega) ?_
        rw [decide_eq_true hb]
        refine at_if_eqB (tgt := 67) dX12_laysAlphabet_60 (by decide) (fun c60 => ?_) (fun c60 => ?_)
        · cases c60
        · refine at_iconst dX12_laysAlphabet_63 (v := nI 0) (by decide) ?_
          refine at_goto (tgt := 68) dX12_laysAlphabet_64 (by decide) ?_
          refine at_isubN dX12_laysAlphabet_68 (by omega) ?_
          refine at_istore dX12_laysAlphabet_69 (by decide) ?_
          refine at_iincN dX12_laysAlphabet_71 rfl (by decide) ?_
          refine at_goto (tgt := 36) dX12_laysAlphabet_74 (by decide) ?_
          exact ih (skip - 0) (y + 1) s2 y2 (by omega) (by omega) h hk
      · cases c43
    · rw [if_neg hb] at h
      by_cases hs : 0 < skip
      · rw [if_pos hs] at h
        refine at_iload dX12_laysAlphabet_36 rfl ?_
        refine at_iload dX12_laysAlphabet_38 rfl ?_
        refine at_callS2 (d := D - 1) dX12_laysAlphabet_40 ms_X12_377 (Nat.le_of_ble_eq_true rfl) (zq_r0 (by omega) (by omega) (by omega)) ?_
        refine zm_isIn (by omega) (by omega) ?_
        rw [decide_eq_false hb]
        refine at_if_neB (tgt := 51) dX12_laysAlphabet_43 (by decide) (fun c43 => ?_) (fun c43 => ?_)
        · cases c43
        · refine at_iload dX12_laysAlphabet_46 rfl ?_
          refine at_if_le (tgt := 77) dX12_laysAlphabet_48 (by decide) (fun c48 => ?_) (fun c48 => ?_)
          · exact absurd c48 (nI_nle hs (by omega))
          · refine at_iload dX12_laysAlphabet_51 rfl ?_
            refine at_iload dX12_laysAlphabet_53 rfl ?_
            refine at_iload dX12_laysAlphabet_55 rfl ?_
            refine at_callS2 (d := D - 1) dX12_laysAlphabet_57 ms_X12_377 (Nat.le_of_ble_eq_true rfl) (zq_r0 (by omega) (by omega) (by omega)) ?_
            refine zm_isIn (by omega) (by omega) ?_
            rw [decide_eq_false hb]
            refine at_if_eqB (tgt := 67) dX12_laysAlphabet_60 (by decide) (fun c60 => ?_) (fun c60 => ?_)
            · refine at_iconst dX12_laysAlphabet_67 (v := nI 1) (by decide) ?_
              refine at_isubN dX12_laysAlphabet_68 (by omega) ?_
              refine at_istore dX12_laysAlphabet_69 (by decide) ?_
              refine at_iincN dX12_laysAlphabet_71 rfl (by decide) ?_
              refine at_goto (tgt := 36) dX12_laysAlphabet_74 (by decide) ?_
              exact ih (skip - 1) (y + 1) s2 y2 (by omega) (by omega) h hk
            · cases c60
      · rw [if_neg hs] at h
        cases h
        obtain rfl : skip = 0 := by omega
        refine at_iload dX12_laysAlphabet_36 rfl ?_
        refine at_iload dX12_laysAlphabet_38 rfl ?_
        refine at_callS2 (d := D - 1) dX12_laysAlphabet_40 ms_X12_377 (Nat.le_of_ble_eq_true rfl) (zq_r0 (by omega) (by omega) (by omega)) ?_
        refine zm_isIn (by omega) (by omega) ?_
        rw [decide_eq_false hb]
        refine at_if_neB (tgt := 51) dX12_laysAlphabet_43 (by decide) (fun c43 => ?_) (fun c43 => ?_)
        · cases c43
        · refine at_iload dX12_laysAlphabet_46 rfl ?_
          refine at_if_le (tgt := 77) dX12_laysAlphabet_48 (by decide) (fun c48 => ?_) (fun c48 => ?_)
          · exact hk
          · exact absurd (by decide) c48
def zsb : Nat → Nat
  | 0 => 120
  | i + 1 => zsz i
theorem zsb_div {i : Nat} (h : i < 5) : zsb i / (5 - i) = zsz i ∧ zsb i ≤ 120 ∧ 0 < zsz i ∧ zsz i ≤ 24 := by
  rcases (show i = 0 ∨ i = 1 ∨ i = 2 ∨ i = 3 ∨ i = 4 by omega) with rfl | rfl | rfl | rfl | rfl <;> decide
theorem zA_le {k : Nat} (hk : k < 120) : ∀ i, (zA k i).1 ≤ k
  | 0 => Nat.le_refl _
  | i + 1 => Nat.le_trans (Nat.mod_le _ _) (zA_le hk i)
theorem zm_laysA_loop {k : Nat} (hD : 1 ≤ D) (hk : k < 120) (hp : post none n (zm_h (zsA (zsA σ 84 (zod (σ.2.1 84) (zal k) 5)) 76 (zrk (σ.2.1 76) (zal k) 5)) ρ)) : ∀ c i : Nat, i + c = 5 → zq_At l G (zq_rm D 0 0) mX12_laysAlphabet (zq_QF G post 0 0) 11 [(0, .ref 70), (1, .int (nI k)), (2, .int (nI (zA k i).1)), (3, .int (nI (zsb i))), (4, .int (nI (zA k i).2)), (5, .int (nI i))] [] n (zm_h (zsA (zsA σ 84 (zod (σ.2.1 84) (zal k) i)) 76 (zrk (σ.2.1 76) (zal k) i)) ρ) 0 0 := by
  intro c
  induction c with
  | zero =>
    intro i hi
    obtain rfl : i = 5 := hi
    refine at_iload dX12_laysAlphabet_11 rfl ?_
    refine at_iconst dX12_laysAlphabet_13 (v := nI 5) (by decide) ?_
    refine at_geN (tgt := 110) dX12_laysAlphabet_14 (by decide) (by omega) (by omega) (fun c14 => ?_) (fun c14 => ?_)
    · refine at_vret dX12_laysAlphabet_110 rfl (by omega) (by omega) ?_
      exact hp
    · omega
  | succ c ih =>
    intro i hi
    obtain ⟨⟨s2, hs2⟩, y1, y5, u64, -⟩ := zal_ok hk (i := i) (by omega)
    obtain ⟨z1, z2, z3, z4⟩ := zsb_div (i := i) (by omega)
    have hA := zA_le hk i
    have hd : (zA k i).1 / zsz i ≤ (zA k i).1 := Nat.div_le_self _ _
    have hn := ih (i + 1) (by omega)
    rw [show zsb (i + 1) = zsz i from rfl, show zod (σ.2.1 84) (zal k) (i + 1) = upd (zod (σ.2.1 84) (zal k) i) i (nI (zal k i)) from rfl, show zrk (σ.2.1 76) (zal k) (i + 1) = upd (zrk (σ.2.1 76) (zal k) i) (zal k i) (nI i) from rfl, show zA k (i + 1) = ((zA k i).1 % zsz i, (zA k i).2 ||| 2 ^ zal k i) from rfl] at hn
    refine at_iload dX12_laysAlphabet_11 rfl ?_
    refine at_iconst dX12_laysAlphabet_13 (v := nI 5) (by decide) ?_
    refine at_geN (tgt := 110) dX12_laysAlphabet_14 (by decide) (by omega) (by omega) (fun c14 => ?_) (fun c14 => ?_)
    · omega
    · refine at_iload_n dX12_laysAlphabet_17 rfl ?_
      refine at_iconst dX12_laysAlphabet_18 (v := nI 5) (by decide) ?_
      refine at_iload dX12_laysAlphabet_19 rfl ?_
      refine at_isubN dX12_laysAlphabet_21 (by omega) ?_
      refine at_idivN dX12_laysAlphabet_22 (by omega) (by omega) (by omega) ?_
      rw [z1]
      refine at_istore_n dX12_laysAlphabet_23 rfl (by decide) ?_
      refine at_iload_n dX12_laysAlphabet_24 rfl ?_
      refine at_iload_n dX12_laysAlphabet_25 rfl ?_
      refine at_idivN dX12_laysAlphabet_26 (by omega) (by omega) (by omega) ?_
      refine at_istore dX12_laysAlphabet_27 (by decide) ?_
      refine at_iload_n dX12_laysAlphabet_29 rfl ?_
      refine at_iload_n dX12_laysAlphabet_30 rfl ?_
      refine at_iremN dX12_laysAlphabet_31 (by omega) (by omega) (by omega) ?_
      refine at_istore_n dX12_laysAlphabet_32 rfl (by decide) ?_
      refine at_iconst dX12_laysAlphabet_33 (v := nI 1) (by decide) ?_
      refine at_istore dX12_laysAlphabet_34 (by decide) ?_
      refine zm_laysA_in hD u64 6 _ 1 s2 (zal k i) (by decide) (by omega) hs2 ?_
      refine at_iload dX12_laysAlphabet_77 rfl ?_
      refine at_iconst dX12_laysAlphabet_79 (v := nI 1) (by decide) ?_
      refine at_iload dX12_laysAlphabet_80 rfl ?_
      refine at_ishl dX12_laysAlphabet_82 ?_
      rw [zshl1 (by omega)]
      refine at_ior dX12_laysAlphabet_83 ?_
      rw [zor]
      refine at_istore dX12_laysAlphabet_84 (by decide) ?_
      refine at_aload_n dX12_laysAlphabet_86 rfl ?_
      refine at_get dX12_laysAlphabet_87 fl_X12_83 rfl rfl ?_
      refine at_iload dX12_laysAlphabet_90 rfl ?_
      refine at_iload dX12_laysAlphabet_92 rfl ?_
      refine at_mast (a := 84) dX12_laysAlphabet_94 (by decide) (by decide) (by decide) (by decide) rfl rfl (by show _ < 5; omega) (by decide) ?_
      rw [zsA_sw _ (by decide), zsA_a]
      refine at_aload_n dX12_laysAlphabet_95 rfl ?_
      refine at_get dX12_laysAlphabet_96 fl_X12_55 rfl rfl ?_
      refine at_iload dX12_laysAlphabet_99 rfl ?_
      refine at_iload dX12_laysAlphabet_101 rfl ?_
      refine at_mast (a := 76) dX12_laysAlphabet_103 (by decide) (by decide) (by decide) (by decide) rfl rfl (by show _ < 6; omega) (by decide) ?_
      rw [zsA_a]
      refine at_iincN dX12_laysAlphabet_104 rfl (by decide) ?_
      refine at_goto (tgt := 11) dX12_laysAlphabet_107 (by decide) ?_
      exact at_lv [0, 1, 2, 3, 4, 5] hn
theorem zm_laysAlphabet {k : Nat} (hD : 1 ≤ D) (hk : k < 120) (hp : post none n (zm_h (zsA (zsA σ 84 (zod (σ.2.1 84) (zal k) 5)) 76 (zrk (σ.2.1 76) (zal k) 5)) ρ)) : zq_Runs l G D 0 0 yX12_laysAlphabet [.ref 70, .int (nI k)] n (zm_h σ ρ) post := by
  refine zq_enter (cc := cX12_laysAlphabet) (nL := 8) (ret := none) cw_X12_laysAlphabet (by decide) rfl (Nat.le_of_ble_eq_true rfl) ?_
  have h0 := zm_laysA_loop (l := l) (G := G) hD hk hp 5 0 rfl
  rw [show zod (σ.2.1 84) (zal k) 0 = σ.2.1 84 from rfl, show zrk (σ.2.1 76) (zal k) 0 = σ.2.1 76 from rfl, zsA_0, zsA_0] at h0
  refine at_iload_n dX12_laysAlphabet_0 rfl ?_
  refine at_istore_n dX12_laysAlphabet_1 rfl (by decide) ?_
  refine at_bipush dX12_laysAlphabet_2 (v := nI 120) (by decide) ?_
  refine at_istore_n dX12_laysAlphabet_4 rfl (by decide) ?_
  refine at_iconst dX12_laysAlphabet_5 (v := nI 0) (by decide) ?_
  refine at_istore dX12_laysAlphabet_6 (by decide) ?_
  refine at_iconst dX12_laysAlphabet_8 (v := nI 0) (by decide) ?_
  refine at_istore dX12_laysAlphabet_9 (by decide) ?_
  exact h0
theorem zod_at (O : Nat → Int32) (al : Nat → Nat) {i : Nat} (h : i < 5) : zod O al 5 i = nI (al i) := by
  rcases (show i = 0 ∨ i = 1 ∨ i = 2 ∨ i = 3 ∨ i = 4 by omega) with rfl | rfl | rfl | rfl | rfl <;> rfl
theorem zm_laidAlphabet_loop (hal : ∀ k, k < 5 → σ.2.1 84 k = nI (al k)) (F : Nat → Nat) (hF : ∀ k, k < 5 → F (k + 1) = 10 * F k + al k) (hp : post (some (.int (nI (F 5)))) n (zm_h σ ρ)) : ∀ k i : Nat, i + k = 5 → zq_At l G (zq_rm D 0 0) mX12_laidAlphabet (zq_QF G post 0 0) 4 [(0, .ref 70), (1, .int (nI (F i))), (2, .int (nI i))] [] n (zm_h σ ρ) 0 0 := by
  intro k
  induction k with
  | zero =>
    intro i hi
    obtain rfl : i = 5 := hi
    refine at_iload_n dX12_laidAlphabet_4 rfl ?_
    refine at_iconst dX12_laidAlphabet_5 (v := nI 5) (by decide) ?_
    refine at_geN (tgt := 27) dX12_laidAlphabet_6 (by decide) (by omega) (by omega) (fun c6 => ?_) (fun c6 => ?_)
    · refine at_iload_n dX12_laidAlphabet_27 rfl ?_
      refine at_iret dX12_laidAlphabet_28 rfl (by omega) (by omega) ?_
      exact hp
    · omega
  | succ k ih =>
    intro i hi
    have hn := ih (i + 1) (by omega)
    rw [hF i (by omega)] at hn
    refine at_iload_n dX12_laidAlphabet_4 rfl ?_
    refine at_iconst dX12_laidAlphabet_5 (v := nI 5) (by decide) ?_
    refine at_geN (tgt := 27) dX12_laidAlphabet_6 (by decide) (by omega) (by omega) (fun c6 => ?_) (fun c6 => ?_)
    · omega
    · refine at_bipush dX12_laidAlphabet_9 (v := nI 10) (by decide) ?_
      refine at_iload_n dX12_laidAlphabet_11 rfl ?_
      refine at_imulN dX12_laidAlphabet_12 ?_
      refine at_aload_n dX12_laidAlphabet_13 rfl ?_
      refine at_get dX12_laidAlphabet_14 fl_X12_83 rfl rfl ?_
      refine at_iload_n dX12_laidAlphabet_17 rfl ?_
      refine at_mald (a := 84) dX12_laidAlphabet_18 (by decide) (by decide) (by decide) (by decide) rfl rfl (by show _ < 5; omega) (by decide) ?_
      rw [hal i (by omega)]
      refine at_iaddN dX12_laidAlphabet_19 ?_
      refine at_istore_n dX12_laidAlphabet_20 rfl (by decide) ?_
      refine at_iincN dX12_laidAlphabet_21 rfl (by decide) ?_
      refine at_goto (tgt := 4) dX12_laidAlphabet_24 (by decide) ?_
      exact hn
theorem zm_laidAlphabet (hal : ∀ k, k < 5 → σ.2.1 84 k = nI (al k)) (hp : post (some (.int (nI (zaln al 5)))) n (zm_h σ ρ)) : zq_Runs l G D 0 0 yX12_laidAlphabet [.ref 70] n (zm_h σ ρ) post := by
  refine zq_enter (cc := cX12_laidAlphabet) (nL := 3) (ret := (some .int)) cw_X12_laidAlphabet (by decide) rfl (Nat.le_of_ble_eq_true rfl) ?_
  refine at_iconst dX12_laidAlphabet_0 (v := nI 0) (by decide) ?_
  refine at_istore_n dX12_laidAlphabet_1 rfl (by decide) ?_
  refine at_iconst dX12_laidAlphabet_2 (v := nI 0) (by decide) ?_
  refine at_istore_n dX12_laidAlphabet_3 rfl (by decide) ?_
  exact zm_laidAlphabet_loop hal (zaln al) (fun _ _ => rfl) hp 5 0 rfl
/-- whether the row is right -/
def zrt (rk x w : Nat → Nat) (m : Nat) : Bool := (List.range (m - 1)).all (fun p => !zbk rk x w p)
theorem zfind_cnt (B : Nat → Bool) : ∀ k p c : Nat, c + k < 1000 → ∃ d, c ≤ d ∧ d ≤ c + k ∧ zfind B (-1) k p c = nI d ∧ (d = c ↔ ∀ j, p ≤ j → j < p + k → B j = false)
  | 0, p, c, _ => ⟨c, Nat.le_refl _, Nat.le_refl _, by unfold zfind; rw [if_pos rfl], ⟨fun _ j h1 h2 => by omega, fun _ => rfl⟩⟩
  | k + 1, p, c, hc => by
    unfold zfind
    cases hB : B p with
    | true =>
      rw [if_pos rfl, if_neg (by
        intro e
        have h1 : (nI c).toInt = -1 := by rw [e]; rfl
        rw [nI_toInt (by omega)] at h1
        omega)]
      obtain ⟨d, h1, h2, h3, h4⟩ := zfind_cnt B k (p + 1) (c + 1) (by omega)
      exact ⟨d, by omega, by omega, h3, ⟨fun e => by omega, fun e => by rw [e p (Nat.le_refl _) (by omega)] at hB; cases hB⟩⟩
    | false =>
      rw [if_neg (by decide)]
      obtain ⟨d, h1, h2, h3, h4⟩ := zfind_cnt B k (p + 1) c (by omega)
      refine ⟨d, h1, by omega, h3, h4.trans ⟨fun e j j1 j2 => ?_, fun e j j1 j2 => e j (by omega) (by omega)⟩⟩
      by_cases hj : j = p
      · subst hj; exact hB
      · exact e j (by omega) (by omega)
theorem zrt_cnt (rk x w : Nat → Nat) {m : Nat} (hm : m ≤ 7) : ∃ d, d ≤ 7 ∧ zfind (zbk rk x w) (-1) (m - 1) 0 0 = nI d ∧ decide (d = 0) = zrt rk x w m := by
  obtain ⟨d, -, h2, h3, h4⟩ := zfind_cnt (zbk rk x w) (m - 1) 0 0 (by omega)
  refine ⟨d, by omega, h3, ?_⟩
  unfold zrt
  rw [Bool.eq_iff_iff, decide_eq_true_eq, h4, List.all_eq_true]
  refine ⟨fun h j hj => ?_, fun h j _ hj => ?_⟩
  · rw [h j (Nat.zero_le _) (by have := List.mem_range.mp hj; omega)]; rfl
  · have := h j (List.mem_range.mpr (by omega))
    simpa using this
theorem zm_isRight (hD : 7 ≤ D) (hC : zC σ m x w rk) (hp : post (some (.int (zb (zrt rk x w m)))) n (zm_h σ ρ)) : zq_Runs l G D 0 0 yX12_isRight [.ref 70] n (zm_h σ ρ) post := by
  obtain ⟨d, hd, h1, h2⟩ := zrt_cnt rk x w hC.2.1
  refine zq_enter (cc := cX12_isRight) (nL := 1) (ret := (some .boolean)) cw_X12_isRight (by decide) rfl (Nat.le_of_ble_eq_true rfl) ?_
  refine at_aload_n dX12_isRight_0 rfl ?_
  refine at_iconst dX12_isRight_1 (v := -1) rfl ?_
  refine at_callV1 (d := D - 1) dX12_isRight_2 mv_X12_334 rfl (Nat.le_of_ble_eq_true rfl) (zq_r0 (by omega) (by omega) (by omega)) ?_
  refine zm_breaks (by omega) hC ?_
  rw [if_neg (show ¬ (-1 : Int32) < -1 by decide), h1]
  refine at_if_neN (tgt := 12) dX12_isRight_5 (by decide) (by omega) (fun c5 => ?_) (fun c5 => ?_)
  · rw [← h2, decide_eq_false c5] at hp
    refine at_iconst dX12_isRight_12 (v := nI 0) (by decide) ?_
    refine at_zret dX12_isRight_13 rfl (by omega) (by omega) (by first | exact Or.inl rfl | exact Or.inr rfl | assumption) ?_
    exact hp
  · rw [← h2, decide_eq_true c5] at hp
    refine at_iconst dX12_isRight_8 (v := nI 1) (by decide) ?_
    refine at_goto (tgt := 13) dX12_isRight_9 (by decide) ?_
    refine at_zret dX12_isRight_13 rfl (by omega) (by omega) (by first | exact Or.inl rfl | exact Or.inr rfl | assumption) ?_
    exact hp
/-- of k alphabets from p on those by which it is so: how many (c so far), the i-th (found so far) -/
def zrtF (ok : Nat → Bool) (val : Nat → Int32) (i : Int32) : Nat → Nat → Nat → Int32 → Nat × Int32
  | 0, _, c, fd => (c, fd)
  | k + 1, p, c, fd => if ok p = true then zrtF ok val i k (p + 1) (c + 1) (if nI c = i then val p else fd) else zrtF ok val i k (p + 1) c fd
def zrtR (ok : Nat → Bool) (i : Int32) : Int32 := if i < -1 then -1 else if i = -1 then nI (zrtF ok (fun p => nI (zaln (zal p) 5)) i 120 0 0 (-1)).1 else (zrtF ok (fun p => nI (zaln (zal p) 5)) i 120 0 0 (-1)).2
theorem zC_alph (hC : zC σ m x w rk) {g h : Nat → Int32} {k : Nat} (hk : k < 120) (hh : ∀ y, 1 ≤ y → y ≤ 5 → h y = nI (zrkN (zal k) y)) : zC (zsA (zsA σ 84 g) 76 h) m x w (zrkN (zal k)) := by
  refine ⟨?_, hC.2.1, fun p hp => ?_, fun p hp => ?_, fun y h1 h5 => ⟨?_, zrkN_lt _ _⟩⟩
  · rw [zsA_o _ (by decide), zsA_o _ (by decide)]; exact hC.1
  · rw [zsA_o _ (by decide), zsA_o _ (by decide)]; exact hC.2.2.1 p hp
  · rw [zsA_o _ (by decide), zsA_o _ (by decide)]; exact hC.2.2.2.1 p hp
  · rw [zsA_s]; exact hh y h1 h5
theorem zsAA (σ : zm_S) (g g' h h' : Nat → Int32) : zsA (zsA (zsA (zsA σ 84 g) 76 h) 84 g') 76 h' = zsA (zsA σ 84 g') 76 h' := by
  show (σ.1, va_up (va_up (va_up (va_up σ.2.1 84 g) 76 h) 84 g') 76 h', σ.2.2) = (σ.1, va_up (va_up σ.2.1 84 g') 76 h', σ.2.2)
  congr 2
  funext c
  by_cases h1 : c = 76
  · subst h1; rw [va_up_self, va_up_self]
  · rw [va_up_ne _ _ h1, va_up_ne _ _ h1]
    by_cases h2 : c = 84
    · subst h2; rw [va_up_self, va_up_self]
    · rw [va_up_ne _ _ h2, va_up_ne _ _ h2, va_up_ne _ _ h1, va_up_ne _ _ h2]
theorem zm_right_loop {i : Int32} (hD : 8 ≤ D) (hC : zC σ m x w rk) (hal : ∀ k, k < 5 → σ.2.1 72 (14 + k) = nI (al k) ∧ al k < 6) (hpm : zpm al) (V : Nat × Int32) (hp : ∀ g h : Nat → Int32, (∀ y, 1 ≤ y → y ≤ 5 → h y = nI (zrkN al y)) → post (some (.int (if i = -1 then nI V.1 else V.2))) n (zm_h (zsA (zsA σ 84 g) 76 h) ρ)) :
    ∀ (k p c : Nat) (fd : Int32) (g h : Nat → Int32), p + k = 120 → zrtF (fun p => zrt (zrkN (zal p)) x w m) (fun p => nI (zaln (zal p) 5)) i k p c fd = V → zq_At l G (zq_rm D 0 0) mX12_right (zq_QF G post 0 0) 14 [(0, .ref 70), (1, .int i), (2, .int (nI c)), (3, .int fd), (4, .int (nI p))] [] n (zm_h (zsA (zsA σ 84 g) 76 h) ρ) 0 0 := by
  intro k
  induction k with
  | zero =>
    intro p c fd g h hi hv
    obtain rfl : p = 120 := hi
    unfold zrtF at hv
    subst hv
    have hp2 := hp g (zrk h al 5) (fun y h1 h5 => zrk_at hpm h h1 h5)
    refine at_iload dX12_right_14 rfl ?_
    refine at_bipush dX12_right_16 (v := nI 120) (by decide) ?_
    refine at_geN (tgt := 56) dX12_right_18 (by decide) (by omega) (by omega) (fun c18 => ?_) (fun c18 => ?_)
    · refine at_aload_n dX12_right_56 rfl ?_
      refine at_callV0 (d := D - 1) dX12_right_57 mv_X12_132 rfl (Nat.le_of_ble_eq_true rfl) (zq_r0 (by omega) (by omega) (by omega)) ?_
      refine zm_laysRank (al := al) (fun k hk => by rw [zsA_o _ (by decide), zsA_o _ (by decide)]; exact hal k hk) ?_
      rw [show zsR (zsA (zsA σ 84 g) 76 h) (zrk ((zsA (zsA σ 84 g) 76 h).2.1 76) al 5) = zsA (zsA σ 84 g) 76 (zrk h al 5) by rw [zsA_s]; exact zsA_A _ _ _ _]
      refine at_iload_n dX12_right_60 rfl ?_
      refine at_iconst dX12_right_61 (v := -1) rfl ?_
      refine at_icmp_ne (tgt := 69) dX12_right_62 (by decide) (fun c62 => ?_) (fun c62 => ?_)
      · rw [if_neg c62] at hp2
        refine at_iload_n dX12_right_69 rfl ?_
        refine at_iret dX12_right_70 rfl (by omega) (by omega) ?_
        exact hp2
      · rw [if_pos c62] at hp2
        refine at_iload_n dX12_right_65 rfl ?_
        refine at_goto (tgt := 70) dX12_right_66 (by decide) ?_
        refine at_iret dX12_right_70 rfl (by omega) (by omega) ?_
        exact hp2
    · omega
  | succ k ih =>
    intro p c fd g h hi hv
    unfold zrtF at hv
    have hC2 := zC_alph (σ := σ) (g := zod g (zal p) 5) (h := zrk h (zal p) 5) hC (k := p) (by omega) (fun y h1 h5 => zrk_at (zal_pm (by omega)) h h1 h5)
    refine at_iload dX12_right_14 rfl ?_
    refine at_bipush dX12_right_16 (v := nI 120) (by decide) ?_
    refine at_geN (tgt := 56) dX12_right_18 (by decide) (by omega) (by omega) (fun c18 => ?_) (fun c18 => ?_)
    · omega
    · refine at_aload_n dX12_right_21 rfl ?_
      refine at_iload dX12_right_22 rfl ?_
      refine at_callV1 (d := D - 1) dX12_right_24 mv_X12_386 rfl (Nat.le_of_ble_eq_true rfl) (zq_r0 (by omega) (by omega) (by omega)) ?_
      refine zm_laysAlphabet (by omega) (by omega) ?_
      rw [show (zsA (zsA σ 84 g) 76 h).2.1 84 = g by rw [zsA_o _ (by decide), zsA_s], zsA_s, zsAA]
      refine at_aload_n dX12_right_27 rfl ?_
      refine at_callV0 (d := D - 1) dX12_right_28 mv_X12_389 rfl (Nat.le_of_ble_eq_true rfl) (zq_r0 (by omega) (by omega) (by omega)) ?_
      refine zm_isRight (by omega) hC2 ?_
      refine at_if_neB (tgt := 37) dX12_right_31 (by decide) (fun c31 => ?_) (fun c31 => ?_)
      · rw [if_pos c31] at hv
        refine at_iload_n dX12_right_37 rfl ?_
        refine at_iload_n dX12_right_38 rfl ?_
        refine at_icmp_ne (tgt := 47) dX12_right_39 (by decide) (fun c39 => ?_) (fun c39 => ?_)
        · rw [if_neg c39] at hv
          refine at_iincN dX12_right_47 rfl (by decide) ?_
          refine at_iincN dX12_right_50 rfl (by decide) ?_
          refine at_goto (tgt := 14) dX12_right_53 (by decide) ?_
          exact ih (p + 1) _ _ _ _ (by omega) hv
        · rw [if_pos c39] at hv
          refine at_aload_n dX12_right_42 rfl ?_
          refine at_callV0 (d := D - 1) dX12_right_43 mv_X12_392 rfl (Nat.le_of_ble_eq_true rfl) (zq_r0 (by omega) (by omega) (by omega)) ?_
          refine zm_laidAlphabet (al := zal p) (fun k hk => by rw [zsA_o _ (by decide), zsA_s]; exact zod_at _ _ hk) ?_
          refine at_istore_n dX12_right_46 rfl (by decide) ?_
          refine at_iincN dX12_right_47 rfl (by decide) ?_
          refine at_iincN dX12_right_50 rfl (by decide) ?_
          refine at_goto (tgt := 14) dX12_right_53 (by decide) ?_
          exact ih (p + 1) _ _ _ _ (by omega) hv
      · rw [if_neg (by rw [c31]; decide)] at hv
        refine at_goto (tgt := 50) dX12_right_34 (by decide) ?_
        refine at_iincN dX12_right_50 rfl (by decide) ?_
        refine at_goto (tgt := 14) dX12_right_53 (by decide) ?_
        exact ih (p + 1) _ _ _ _ (by omega) hv
theorem zm_right {i : Int32} (hD : 9 ≤ D) (hC : zC σ m x w rk) (hal : ∀ k, k < 5 → σ.2.1 72 (14 + k) = nI (al k) ∧ al k < 6) (hpm : zpm al) (hrk : ∀ y, 1 ≤ y → y ≤ 5 → rk y = zrkN al y) (hp : ∀ g h : Nat → Int32, (∀ y, 1 ≤ y → y ≤ 5 → h y = nI (zrkN al y)) → post (some (.int (zrtR (fun p => zrt (zrkN (zal p)) x w m) i))) n (zm_h (zsA (zsA σ 84 g) 76 h) ρ)) : zq_Runs l G D 0 0 yX12_right [.ref 70, .int i] n (zm_h σ ρ) post := by
  have h0 := hp (σ.2.1 84) (σ.2.1 76) (fun y h1 h5 => by rw [(hC.2.2.2.2 y h1 h5).1, hrk y h1 h5])
  rw [zsA_0, zsA_0] at h0
  unfold zrtR at h0 hp
  refine zq_enter (cc := cX12_right) (nL := 5) (ret := (some .int)) cw_X12_right (by decide) rfl (Nat.le_of_ble_eq_true rfl) ?_
  refine at_iload_n dX12_right_0 rfl ?_
  refine at_iconst dX12_right_1 (v := -1) rfl ?_
  refine at_icmp_ge (tgt := 7) dX12_right_2 (by decide) (fun c2 => ?_) (fun c2 => ?_)
  · refine at_iconst dX12_right_7 (v := nI 0) (by decide) ?_
    refine at_istore_n dX12_right_8 rfl (by decide) ?_
    refine at_iconst dX12_right_9 (v := -1) rfl ?_
    refine at_istore_n dX12_right_10 rfl (by decide) ?_
    refine at_iconst dX12_right_11 (v := nI 0) (by decide) ?_
    refine at_istore dX12_right_12 (by decide) ?_
    have h1 := zm_right_loop (D := D) (l := l) (G := G) (i := i) (by omega) hC hal hpm _ (fun g h hh => by have := hp g h hh; rw [if_neg (Int32.not_lt.mpr c2)] at this; exact this) 120 0 0 (-1) (σ.2.1 84) (σ.2.1 76) rfl rfl
    rw [zsA_0, zsA_0] at h1
    exact h1
  · rw [if_pos (Int32.not_le.mp c2)] at h0
    refine at_iconst dX12_right_5 (v := -1) rfl ?_
    refine at_iret dX12_right_6 rfl (by omega) (by omega) ?_
    exact h0
end ZL5

