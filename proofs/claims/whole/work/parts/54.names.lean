/-! ===== the class: names ===== -/
def zpad (x : Nat) : Nat := x * 10 ^ (4 - zlen x)
def zdg4 (x k : Nat) : Nat := if k < zlen x then zlt x k else 0
theorem zpad_dg {x k : Nat} (h1 : 1 ≤ x) (h5 : x ≤ 9999) (hk : k < 4) : zpad x / 10 ^ (3 - k) % 10 = zdg4 x k := by
  unfold zpad zdg4 zlt
  rcases zlen_cs x with ⟨e, g⟩ | ⟨e, g⟩ | ⟨e, g⟩ | ⟨e, g⟩ <;> rw [e] <;> rcases (show k = 0 ∨ k = 1 ∨ k = 2 ∨ k = 3 by omega) with rfl | rfl | rfl | rfl <;> simp <;> omega
theorem zpad_lt {x : Nat} (h5 : x ≤ 9999) : zpad x < 10000 := by
  unfold zpad
  rcases zlen_cs x with ⟨e, g⟩ | ⟨e, g⟩ | ⟨e, g⟩ | ⟨e, g⟩ <;> rw [e] <;> simp <;> omega
theorem zdg4_lt (x k : Nat) : zdg4 x k < 10 := by
  unfold zdg4
  split
  · exact zlt_lt _ _
  · decide
/-- digits that are letters, from the last on -/
def zdl : Nat → Nat → Bool
  | 0, _ => true
  | f + 1, r => if r = 0 then true else zle (r % 10) && zdl f (r / 10)
theorem zdl_all {x : Nat} (h1 : 1 ≤ x) (h5 : x ≤ 5555) : zdl 4 x = zall x (zlen x) := by
  rcases zlen_cs x with ⟨e, g⟩ | ⟨e, g⟩ | ⟨e, g⟩ | ⟨e, g⟩ <;> rw [e]
  · unfold zdl zdl zall zall zlt
    rw [e, if_neg (by omega), if_pos (by omega), Bool.true_and, Bool.and_true, show 1 - 1 - 0 = 0 from rfl, Nat.pow_zero, Nat.div_one]
  · unfold zdl zdl zdl zall zall zall zlt
    rw [e, if_neg (by omega), if_neg (by omega), if_pos (by omega), Bool.true_and, Bool.and_true, show 2 - 1 - 0 = 1 from rfl, show 2 - 1 - 1 = 0 from rfl, Nat.pow_zero, Nat.div_one, Nat.pow_one, Bool.and_comm]
  · unfold zdl zdl zdl zdl zall zall zall zall zlt
    rw [e, if_neg (by omega), if_neg (by omega), if_neg (by omega), if_pos (by omega), Bool.true_and, Bool.and_true, show 3 - 1 - 0 = 2 from rfl, show 3 - 1 - 1 = 1 from rfl, show 3 - 1 - 2 = 0 from rfl, Nat.pow_zero, Nat.div_one, Nat.pow_one, Nat.div_div_eq_div_mul, show x / (10 * 10) = x / 10 ^ 2 from rfl, Bool.and_comm, Bool.and_comm (zle (x / 10 % 10))]
  · unfold zdl zdl zdl zdl zdl zall zall zall zall zall zlt
    rw [e, if_neg (by omega), if_neg (by omega), if_neg (by omega), if_neg (by omega), Bool.true_and, Bool.and_true, show 4 - 1 - 0 = 3 from rfl, show 4 - 1 - 1 = 2 from rfl, show 4 - 1 - 2 = 1 from rfl, show 4 - 1 - 3 = 0 from rfl, Nat.pow_zero, Nat.div_one, Nat.pow_one, Nat.div_div_eq_div_mul, Nat.div_div_eq_div_mul, show x / (10 * 10) = x / 10 ^ 2 from rfl, show x / (10 * 10 * 10) = x / 10 ^ 3 from rfl, Bool.and_comm, Bool.and_comm (zle (x / 10 % 10)), Bool.and_comm (zle (x / 10 ^ 2 % 10))]
/-- where two names first differ -/
def zdfF (a b : Nat) : Nat → Nat → Nat
  | 0, _ => 0
  | f + 1, k => if zdg4 a k = zdg4 b k then zdfF a b f (k + 1) else 10 * zdg4 a k + zdg4 b k
def zdf (a b : Nat) : Nat := zdfF a b 4 0
theorem zdfF_lt (a b : Nat) : ∀ f k, zdfF a b f k < 100
  | 0, _ => show 0 < 100 by decide
  | f + 1, k => by
    unfold zdfF
    split
    · exact zdfF_lt a b f (k + 1)
    · have := zdg4_lt a k
      have := zdg4_lt b k
      omega
/-- ranks with the end of a name ahead of all -/
def zr0 (rk : Nat → Nat) (y : Nat) : Nat := if y = 0 then 0 else rk y + 1
def zmt (rk : Nat → Nat) (d : Nat) : Bool := decide (zr0 rk (d / 10) < zr0 rk (d % 10))
/-- ranks that tell letters apart -/
def zri (rk : Nat → Nat) : Prop := ∀ y z, 1 ≤ y → y ≤ 5 → 1 ≤ z → z ≤ 5 → rk y = rk z → y = z
theorem zdf_ah {rk : Nat → Nat} {a b : Nat} (hr : zri rk) (ha : zvn a) (hb : zvn b) : ∀ f k, k + f = 4 → k ≤ min (zlen a) (zlen b) → zmt rk (zdfF a b f k) = zahF rk a b (min (zlen a) (zlen b) - k) k
  | 0, k, h, hk => by
    have la := zlen_le a
    have lb := zlen_le b
    obtain rfl : k = 4 := by omega
    rw [show min (zlen a) (zlen b) - 4 = 0 by omega]
    unfold zahF
    rw [decide_eq_false (show ¬ zlen a < zlen b by omega)]
    rfl
  | f + 1, k, h, hk => by
    unfold zdfF
    by_cases e : k = min (zlen a) (zlen b)
    · rw [show min (zlen a) (zlen b) - k = 0 by omega]
      show _ = decide (zlen a < zlen b)
      by_cases e2 : zlen a = zlen b
      · -- both have ended
        have all0 : ∀ f j, zlen a ≤ j → zdfF a b f j = 0 := by
          intro f
          induction f with
          | zero => intro j _; rfl
          | succ f ih =>
            intro j hj
            unfold zdfF zdg4
            rw [if_neg (show ¬ j < zlen a by omega), if_neg (show ¬ j < zlen b by omega), if_pos rfl]
            exact ih (j + 1) (by omega)
        have := all0 (f + 1) k (by omega)
        unfold zdfF at this
        rw [this, decide_eq_false (show ¬ zlen a < zlen b by omega)]
        rfl
      · by_cases e3 : zlen a < zlen b
        · have hz := zvn_at hb (k := k) (by omega)
          unfold zdg4
          rw [if_neg (show ¬ k < zlen a by omega), if_pos (show k < zlen b by omega), if_neg (by omega), decide_eq_true e3]
          unfold zmt zr0
          rw [show (10 * 0 + zlt b k) / 10 = 0 by omega, show (10 * 0 + zlt b k) % 10 = zlt b k by omega, if_pos rfl, if_neg (by omega)]
          exact decide_eq_true (by omega)
        · have hz := zvn_at ha (k := k) (by omega)
          unfold zdg4
          rw [if_pos (show k < zlen a by omega), if_neg (show ¬ k < zlen b by omega), if_neg (by omega), decide_eq_false e3]
          unfold zmt zr0
          rw [show (10 * zlt a k + 0) % 10 = 0 by omega, if_pos rfl]
          exact decide_eq_false (Nat.not_lt_zero _)
    · have za := zvn_at ha (k := k) (by omega)
      have zb' := zvn_at hb (k := k) (by omega)
      rw [show min (zlen a) (zlen b) - k = (min (zlen a) (zlen b) - (k + 1)) + 1 by omega]
      unfold zahF
      have da : zdg4 a k = zlt a k := if_pos (by omega)
      have db : zdg4 b k = zlt b k := if_pos (by omega)
      rw [da, db]
      by_cases e2 : zlt a k = zlt b k
      · rw [if_pos e2, if_pos (by rw [e2])]
        exact zdf_ah hr ha hb f (k + 1) (by omega) (by omega)
      · rw [if_neg e2, if_neg (fun h => e2 (hr _ _ za.1 za.2 zb'.1 zb'.2 h))]
        unfold zmt zr0
        rw [show (10 * zlt a k + zlt b k) / 10 = zlt a k by omega, show (10 * zlt a k + zlt b k) % 10 = zlt b k by omega, if_neg (by omega), if_neg (by omega)]
        exact decide_eq_decide.mpr (by omega)
theorem zmt_df {rk : Nat → Nat} {a b : Nat} (hr : zri rk) (ha : zvn a) (hb : zvn b) : zmt rk (zdf a b) = zah rk a b := zdf_ah hr ha hb 4 0 rfl (Nat.zero_le _)
theorem zrkN_inj {al : Nat → Nat} (h : zpm al) : zri (zrkN al) := by
  intro y z h1 h5 g1 g5 e
  have e01 := h.2 0 1 (by decide) (by decide)
  have e02 := h.2 0 2 (by decide) (by decide)
  have e03 := h.2 0 3 (by decide) (by decide)
  have e04 := h.2 0 4 (by decide) (by decide)
  have e12 := h.2 1 2 (by decide) (by decide)
  have e13 := h.2 1 3 (by decide) (by decide)
  have e14 := h.2 1 4 (by decide) (by decide)
  have e23 := h.2 2 3 (by decide) (by decide)
  have e24 := h.2 2 4 (by decide) (by decide)
  have e34 := h.2 3 4 (by decide) (by decide)
  have r0 : zrkN al (al 0) = 0 := by unfold zrkN; rw [if_pos rfl]
  have r1 : zrkN al (al 1) = 1 := by unfold zrkN; rw [if_neg e01, if_pos rfl]
  have r2 : zrkN al (al 2) = 2 := by unfold zrkN; rw [if_neg e02, if_neg e12, if_pos rfl]
  have r3 : zrkN al (al 3) = 3 := by unfold zrkN; rw [if_neg e03, if_neg e13, if_neg e23, if_pos rfl]
  have r4 : zrkN al (al 4) = 4 := by unfold zrkN; rw [if_neg e04, if_neg e14, if_neg e24, if_neg e34]
  rcases zpm_has h h1 h5 with rfl | rfl | rfl | rfl | rfl <;> rcases zpm_has h g1 g5 with rfl | rfl | rfl | rfl | rfl <;> first | rfl | (exfalso; rw [r0, r1] at e; omega) | (exfalso; rw [r0, r2] at e; omega) | (exfalso; rw [r0, r3] at e; omega) | (exfalso; rw [r0, r4] at e; omega) | (exfalso; rw [r1, r0] at e; omega) | (exfalso; rw [r1, r2] at e; omega) | (exfalso; rw [r1, r3] at e; omega) | (exfalso; rw [r1, r4] at e; omega) | (exfalso; rw [r2, r0] at e; omega) | (exfalso; rw [r2, r1] at e; omega) | (exfalso; rw [r2, r3] at e; omega) | (exfalso; rw [r2, r4] at e; omega) | (exfalso; rw [r3, r0] at e; omega) | (exfalso; rw [r3, r1] at e; omega) | (exfalso; rw [r3, r2] at e; omega) | (exfalso; rw [r3, r4] at e; omega) | (exfalso; rw [r4, r0] at e; omega) | (exfalso; rw [r4, r1] at e; omega) | (exfalso; rw [r4, r2] at e; omega) | (exfalso; rw [r4, r3] at e; omega)
theorem zq_tens_n {k : Nat} (h : k < 4) : zq_tens k = nI (10 ^ (3 - k)) := by
  rcases (show k = 0 ∨ k = 1 ∨ k = 2 ∨ k = 3 by omega) with rfl | rfl | rfl | rfl <;> rfl
theorem dX11_isLetter_0 : decode cX11_isLetter 0 = .ok (.iload_n 0, 1) := by decide +kernel
theorem dX11_isLetter_1 : decode cX11_isLetter 1 = .ok (.iconst 1, 1) := by decide +kernel
theorem dX11_isLetter_2 : decode cX11_isLetter 2 = .ok (.if_icmp .lt 12, 3) := by decide +kernel
theorem dX11_isLetter_5 : decode cX11_isLetter 5 = .ok (.iload_n 0, 1) := by decide +kernel
theorem dX11_isLetter_6 : decode cX11_isLetter 6 = .ok (.iconst 5, 1) := by decide +kernel
theorem dX11_isLetter_7 : decode cX11_isLetter 7 = .ok (.if_icmp .gt 7, 3) := by decide +kernel
theorem dX11_isLetter_10 : decode cX11_isLetter 10 = .ok (.iconst 1, 1) := by decide +kernel
theorem dX11_isLetter_11 : decode cX11_isLetter 11 = .ok (.goto 4, 3) := by decide +kernel
theorem dX11_isLetter_14 : decode cX11_isLetter 14 = .ok (.iconst 0, 1) := by decide +kernel
theorem dX11_isLetter_15 : decode cX11_isLetter 15 = .ok (.ireturn, 1) := by decide +kernel
abbrev mX11_isLetter : zq_M := (cX11_isLetter, RX11, "isLetter", (some .boolean), 1)
theorem dX11_isLetterPlace_0 : decode cX11_isLetterPlace 0 = .ok (.iload_n 0, 1) := by decide +kernel
theorem dX11_isLetterPlace_1 : decode cX11_isLetterPlace 1 = .ok (.ifCond .lt 12, 3) := by decide +kernel
theorem dX11_isLetterPlace_4 : decode cX11_isLetterPlace 4 = .ok (.iload_n 0, 1) := by decide +kernel
theorem dX11_isLetterPlace_5 : decode cX11_isLetterPlace 5 = .ok (.iconst 4, 1) := by decide +kernel
theorem dX11_isLetterPlace_6 : decode cX11_isLetterPlace 6 = .ok (.if_icmp .ge 7, 3) := by decide +kernel
theorem dX11_isLetterPlace_9 : decode cX11_isLetterPlace 9 = .ok (.iconst 1, 1) := by decide +kernel
theorem dX11_isLetterPlace_10 : decode cX11_isLetterPlace 10 = .ok (.goto 4, 3) := by decide +kernel
theorem dX11_isLetterPlace_13 : decode cX11_isLetterPlace 13 = .ok (.iconst 0, 1) := by decide +kernel
theorem dX11_isLetterPlace_14 : decode cX11_isLetterPlace 14 = .ok (.ireturn, 1) := by decide +kernel
abbrev mX11_isLetterPlace : zq_M := (cX11_isLetterPlace, RX11, "isLetterPlace", (some .boolean), 1)
theorem dX6_isName_0 : decode cX6_isName 0 = .ok (.iload_n 0, 1) := by decide +kernel
theorem dX6_isName_1 : decode cX6_isName 1 = .ok (.iconst 1, 1) := by decide +kernel
theorem dX6_isName_2 : decode cX6_isName 2 = .ok (.if_icmp .lt 10, 3) := by decide +kernel
theorem dX6_isName_5 : decode cX6_isName 5 = .ok (.iload_n 0, 1) := by decide +kernel
theorem dX6_isName_6 : decode cX6_isName 6 = .ok (.sipush 5555, 3) := by decide +kernel
theorem dX6_isName_9 : decode cX6_isName 9 = .ok (.if_icmp .le 5, 3) := by decide +kernel
theorem dX6_isName_12 : decode cX6_isName 12 = .ok (.iconst 0, 1) := by decide +kernel
theorem dX6_isName_13 : decode cX6_isName 13 = .ok (.ireturn, 1) := by decide +kernel
theorem dX6_isName_14 : decode cX6_isName 14 = .ok (.iconst 0, 1) := by decide +kernel
theorem dX6_isName_15 : decode cX6_isName 15 = .ok (.istore_n 1, 1) := by decide +kernel
theorem dX6_isName_16 : decode cX6_isName 16 = .ok (.iload_n 0, 1) := by decide +kernel
theorem dX6_isName_17 : decode cX6_isName 17 = .ok (.istore_n 2, 1) := by decide +kernel
theorem dX6_isName_18 : decode cX6_isName 18 = .ok (.iload_n 1, 1) := by decide +kernel
theorem dX6_isName_19 : decode cX6_isName 19 = .ok (.iconst 4, 1) := by decide +kernel
theorem dX6_isName_20 : decode cX6_isName 20 = .ok (.if_icmp .ge 30, 3) := by decide +kernel
theorem dX6_isName_23 : decode cX6_isName 23 = .ok (.iload_n 2, 1) := by decide +kernel
theorem dX6_isName_24 : decode cX6_isName 24 = .ok (.ifCond .le 26, 3) := by decide +kernel
theorem dX6_isName_27 : decode cX6_isName 27 = .ok (.iload_n 2, 1) := by decide +kernel
theorem dX6_isName_28 : decode cX6_isName 28 = .ok (.bipush 10, 2) := by decide +kernel
theorem dX6_isName_30 : decode cX6_isName 30 = .ok (.irem, 1) := by decide +kernel
theorem dX6_isName_31 : decode cX6_isName 31 = .ok (.invokestatic 9, 3) := by decide +kernel
theorem dX6_isName_34 : decode cX6_isName 34 = .ok (.ifCond .ne 5, 3) := by decide +kernel
theorem dX6_isName_37 : decode cX6_isName 37 = .ok (.iconst 0, 1) := by decide +kernel
theorem dX6_isName_38 : decode cX6_isName 38 = .ok (.ireturn, 1) := by decide +kernel
theorem dX6_isName_39 : decode cX6_isName 39 = .ok (.iinc 1 1, 3) := by decide +kernel
theorem dX6_isName_42 : decode cX6_isName 42 = .ok (.iload_n 2, 1) := by decide +kernel
theorem dX6_isName_43 : decode cX6_isName 43 = .ok (.bipush 10, 2) := by decide +kernel
theorem dX6_isName_45 : decode cX6_isName 45 = .ok (.idiv, 1) := by decide +kernel
theorem dX6_isName_46 : decode cX6_isName 46 = .ok (.istore_n 2, 1) := by decide +kernel
theorem dX6_isName_47 : decode cX6_isName 47 = .ok (.goto (-29), 3) := by decide +kernel
theorem dX6_isName_50 : decode cX6_isName 50 = .ok (.iconst 1, 1) := by decide +kernel
theorem dX6_isName_51 : decode cX6_isName 51 = .ok (.ireturn, 1) := by decide +kernel
abbrev mX6_isName : zq_M := (cX6_isName, RX6, "isName", (some .boolean), 3)
theorem dX6_lengthOf_0 : decode cX6_lengthOf 0 = .ok (.iload_n 0, 1) := by decide +kernel
theorem dX6_lengthOf_1 : decode cX6_lengthOf 1 = .ok (.bipush 10, 2) := by decide +kernel
theorem dX6_lengthOf_3 : decode cX6_lengthOf 3 = .ok (.if_icmp .ge 5, 3) := by decide +kernel
theorem dX6_lengthOf_6 : decode cX6_lengthOf 6 = .ok (.iconst 1, 1) := by decide +kernel
theorem dX6_lengthOf_7 : decode cX6_lengthOf 7 = .ok (.ireturn, 1) := by decide +kernel
theorem dX6_lengthOf_8 : decode cX6_lengthOf 8 = .ok (.iload_n 0, 1) := by decide +kernel
theorem dX6_lengthOf_9 : decode cX6_lengthOf 9 = .ok (.bipush 100, 2) := by decide +kernel
theorem dX6_lengthOf_11 : decode cX6_lengthOf 11 = .ok (.if_icmp .ge 5, 3) := by decide +kernel
theorem dX6_lengthOf_14 : decode cX6_lengthOf 14 = .ok (.iconst 2, 1) := by decide +kernel
theorem dX6_lengthOf_15 : decode cX6_lengthOf 15 = .ok (.ireturn, 1) := by decide +kernel
theorem dX6_lengthOf_16 : decode cX6_lengthOf 16 = .ok (.iload_n 0, 1) := by decide +kernel
theorem dX6_lengthOf_17 : decode cX6_lengthOf 17 = .ok (.sipush 1000, 3) := by decide +kernel
theorem dX6_lengthOf_20 : decode cX6_lengthOf 20 = .ok (.if_icmp .ge 7, 3) := by decide +kernel
theorem dX6_lengthOf_23 : decode cX6_lengthOf 23 = .ok (.iconst 3, 1) := by decide +kernel
theorem dX6_lengthOf_24 : decode cX6_lengthOf 24 = .ok (.goto 4, 3) := by decide +kernel
theorem dX6_lengthOf_27 : decode cX6_lengthOf 27 = .ok (.iconst 4, 1) := by decide +kernel
theorem dX6_lengthOf_28 : decode cX6_lengthOf 28 = .ok (.ireturn, 1) := by decide +kernel
abbrev mX6_lengthOf : zq_M := (cX6_lengthOf, RX6, "lengthOf", (some .int), 1)
theorem dX6_padded_0 : decode cX6_padded 0 = .ok (.iload_n 0, 1) := by decide +kernel
theorem dX6_padded_1 : decode cX6_padded 1 = .ok (.istore_n 1, 1) := by decide +kernel
theorem dX6_padded_2 : decode cX6_padded 2 = .ok (.iconst 1, 1) := by decide +kernel
theorem dX6_padded_3 : decode cX6_padded 3 = .ok (.istore_n 2, 1) := by decide +kernel
theorem dX6_padded_4 : decode cX6_padded 4 = .ok (.iload_n 2, 1) := by decide +kernel
theorem dX6_padded_5 : decode cX6_padded 5 = .ok (.iconst 4, 1) := by decide +kernel
theorem dX6_padded_6 : decode cX6_padded 6 = .ok (.if_icmp .ge 21, 3) := by decide +kernel
theorem dX6_padded_9 : decode cX6_padded 9 = .ok (.iload_n 1, 1) := by decide +kernel
theorem dX6_padded_10 : decode cX6_padded 10 = .ok (.sipush 1000, 3) := by decide +kernel
theorem dX6_padded_13 : decode cX6_padded 13 = .ok (.if_icmp .ge 14, 3) := by decide +kernel
theorem dX6_padded_16 : decode cX6_padded 16 = .ok (.iload_n 1, 1) := by decide +kernel
theorem dX6_padded_17 : decode cX6_padded 17 = .ok (.bipush 10, 2) := by decide +kernel
theorem dX6_padded_19 : decode cX6_padded 19 = .ok (.imul, 1) := by decide +kernel
theorem dX6_padded_20 : decode cX6_padded 20 = .ok (.istore_n 1, 1) := by decide +kernel
theorem dX6_padded_21 : decode cX6_padded 21 = .ok (.iinc 2 1, 3) := by decide +kernel
theorem dX6_padded_24 : decode cX6_padded 24 = .ok (.goto (-20), 3) := by decide +kernel
theorem dX6_padded_27 : decode cX6_padded 27 = .ok (.iload_n 1, 1) := by decide +kernel
theorem dX6_padded_28 : decode cX6_padded 28 = .ok (.ireturn, 1) := by decide +kernel
abbrev mX6_padded : zq_M := (cX6_padded, RX6, "padded", (some .int), 3)
theorem dX6_letterOf_0 : decode cX6_letterOf 0 = .ok (.iload_n 1, 1) := by decide +kernel
theorem dX6_letterOf_1 : decode cX6_letterOf 1 = .ok (.invokestatic 13, 3) := by decide +kernel
theorem dX6_letterOf_4 : decode cX6_letterOf 4 = .ok (.ifCond .eq 19, 3) := by decide +kernel
theorem dX6_letterOf_7 : decode cX6_letterOf 7 = .ok (.iload_n 0, 1) := by decide +kernel
theorem dX6_letterOf_8 : decode cX6_letterOf 8 = .ok (.invokestatic 16, 3) := by decide +kernel
theorem dX6_letterOf_11 : decode cX6_letterOf 11 = .ok (.getstatic 22, 3) := by decide +kernel
theorem dX6_letterOf_14 : decode cX6_letterOf 14 = .ok (.iload_n 1, 1) := by decide +kernel
theorem dX6_letterOf_15 : decode cX6_letterOf 15 = .ok (.iaload, 1) := by decide +kernel
theorem dX6_letterOf_16 : decode cX6_letterOf 16 = .ok (.idiv, 1) := by decide +kernel
theorem dX6_letterOf_17 : decode cX6_letterOf 17 = .ok (.bipush 10, 2) := by decide +kernel
theorem dX6_letterOf_19 : decode cX6_letterOf 19 = .ok (.irem, 1) := by decide +kernel
theorem dX6_letterOf_20 : decode cX6_letterOf 20 = .ok (.goto 4, 3) := by decide +kernel
theorem dX6_letterOf_23 : decode cX6_letterOf 23 = .ok (.iconst 0, 1) := by decide +kernel
theorem dX6_letterOf_24 : decode cX6_letterOf 24 = .ok (.ireturn, 1) := by decide +kernel
abbrev mX6_letterOf : zq_M := (cX6_letterOf, RX6, "letterOf", (some .int), 2)
theorem dX6_withLetter_0 : decode cX6_withLetter 0 = .ok (.iconst 4, 1) := by decide +kernel
theorem dX6_withLetter_1 : decode cX6_withLetter 1 = .ok (.iload_n 0, 1) := by decide +kernel
theorem dX6_withLetter_2 : decode cX6_withLetter 2 = .ok (.invokestatic 26, 3) := by decide +kernel
theorem dX6_withLetter_5 : decode cX6_withLetter 5 = .ok (.isub, 1) := by decide +kernel
theorem dX6_withLetter_6 : decode cX6_withLetter 6 = .ok (.iload_n 1, 1) := by decide +kernel
theorem dX6_withLetter_7 : decode cX6_withLetter 7 = .ok (.iadd, 1) := by decide +kernel
theorem dX6_withLetter_8 : decode cX6_withLetter 8 = .ok (.istore_n 3, 1) := by decide +kernel
theorem dX6_withLetter_9 : decode cX6_withLetter 9 = .ok (.iload_n 1, 1) := by decide +kernel
theorem dX6_withLetter_10 : decode cX6_withLetter 10 = .ok (.ifCond .lt 15, 3) := by decide +kernel
theorem dX6_withLetter_13 : decode cX6_withLetter 13 = .ok (.iload_n 3, 1) := by decide +kernel
theorem dX6_withLetter_14 : decode cX6_withLetter 14 = .ok (.ifCond .lt 11, 3) := by decide +kernel
theorem dX6_withLetter_17 : decode cX6_withLetter 17 = .ok (.iload_n 3, 1) := by decide +kernel
theorem dX6_withLetter_18 : decode cX6_withLetter 18 = .ok (.getstatic 22, 3) := by decide +kernel
theorem dX6_withLetter_21 : decode cX6_withLetter 21 = .ok (.arraylength, 1) := by decide +kernel
theorem dX6_withLetter_22 : decode cX6_withLetter 22 = .ok (.if_icmp .lt 5, 3) := by decide +kernel
theorem dX6_withLetter_25 : decode cX6_withLetter 25 = .ok (.iload_n 0, 1) := by decide +kernel
theorem dX6_withLetter_26 : decode cX6_withLetter 26 = .ok (.ireturn, 1) := by decide +kernel
theorem dX6_withLetter_27 : decode cX6_withLetter 27 = .ok (.iload_n 0, 1) := by decide +kernel
theorem dX6_withLetter_28 : decode cX6_withLetter 28 = .ok (.iload_n 2, 1) := by decide +kernel
theorem dX6_withLetter_29 : decode cX6_withLetter 29 = .ok (.iload_n 0, 1) := by decide +kernel
theorem dX6_withLetter_30 : decode cX6_withLetter 30 = .ok (.iload_n 1, 1) := by decide +kernel
theorem dX6_withLetter_31 : decode cX6_withLetter 31 = .ok (.invokestatic 29, 3) := by decide +kernel
theorem dX6_withLetter_34 : decode cX6_withLetter 34 = .ok (.isub, 1) := by decide +kernel
theorem dX6_withLetter_35 : decode cX6_withLetter 35 = .ok (.getstatic 22, 3) := by decide +kernel
theorem dX6_withLetter_38 : decode cX6_withLetter 38 = .ok (.iload_n 3, 1) := by decide +kernel
theorem dX6_withLetter_39 : decode cX6_withLetter 39 = .ok (.iaload, 1) := by decide +kernel
theorem dX6_withLetter_40 : decode cX6_withLetter 40 = .ok (.imul, 1) := by decide +kernel
theorem dX6_withLetter_41 : decode cX6_withLetter 41 = .ok (.iadd, 1) := by decide +kernel
theorem dX6_withLetter_42 : decode cX6_withLetter 42 = .ok (.ireturn, 1) := by decide +kernel
abbrev mX6_withLetter : zq_M := (cX6_withLetter, RX6, "withLetter", (some .int), 4)
theorem dX6_differ_0 : decode cX6_differ 0 = .ok (.iload_n 0, 1) := by decide +kernel
theorem dX6_differ_1 : decode cX6_differ 1 = .ok (.invokestatic 16, 3) := by decide +kernel
theorem dX6_differ_4 : decode cX6_differ 4 = .ok (.istore_n 2, 1) := by decide +kernel
theorem dX6_differ_5 : decode cX6_differ 5 = .ok (.iload_n 1, 1) := by decide +kernel
theorem dX6_differ_6 : decode cX6_differ 6 = .ok (.invokestatic 16, 3) := by decide +kernel
theorem dX6_differ_9 : decode cX6_differ 9 = .ok (.istore_n 3, 1) := by decide +kernel
theorem dX6_differ_10 : decode cX6_differ 10 = .ok (.iconst 0, 1) := by decide +kernel
theorem dX6_differ_11 : decode cX6_differ 11 = .ok (.istore 4, 2) := by decide +kernel
theorem dX6_differ_13 : decode cX6_differ 13 = .ok (.iload 4, 2) := by decide +kernel
theorem dX6_differ_15 : decode cX6_differ 15 = .ok (.getstatic 22, 3) := by decide +kernel
theorem dX6_differ_18 : decode cX6_differ 18 = .ok (.arraylength, 1) := by decide +kernel
theorem dX6_differ_19 : decode cX6_differ 19 = .ok (.if_icmp .ge 51, 3) := by decide +kernel
theorem dX6_differ_22 : decode cX6_differ 22 = .ok (.iload_n 2, 1) := by decide +kernel
theorem dX6_differ_23 : decode cX6_differ 23 = .ok (.getstatic 22, 3) := by decide +kernel
theorem dX6_differ_26 : decode cX6_differ 26 = .ok (.iload 4, 2) := by decide +kernel
theorem dX6_differ_28 : decode cX6_differ 28 = .ok (.iaload, 1) := by decide +kernel
theorem dX6_differ_29 : decode cX6_differ 29 = .ok (.idiv, 1) := by decide +kernel
theorem dX6_differ_30 : decode cX6_differ 30 = .ok (.bipush 10, 2) := by decide +kernel
theorem dX6_differ_32 : decode cX6_differ 32 = .ok (.irem, 1) := by decide +kernel
theorem dX6_differ_33 : decode cX6_differ 33 = .ok (.istore 5, 2) := by decide +kernel
theorem dX6_differ_35 : decode cX6_differ 35 = .ok (.iload_n 3, 1) := by decide +kernel
theorem dX6_differ_36 : decode cX6_differ 36 = .ok (.getstatic 22, 3) := by decide +kernel
theorem dX6_differ_39 : decode cX6_differ 39 = .ok (.iload 4, 2) := by decide +kernel
theorem dX6_differ_41 : decode cX6_differ 41 = .ok (.iaload, 1) := by decide +kernel
theorem dX6_differ_42 : decode cX6_differ 42 = .ok (.idiv, 1) := by decide +kernel
theorem dX6_differ_43 : decode cX6_differ 43 = .ok (.bipush 10, 2) := by decide +kernel
theorem dX6_differ_45 : decode cX6_differ 45 = .ok (.irem, 1) := by decide +kernel
theorem dX6_differ_46 : decode cX6_differ 46 = .ok (.istore 6, 2) := by decide +kernel
theorem dX6_differ_48 : decode cX6_differ 48 = .ok (.iload 5, 2) := by decide +kernel
theorem dX6_differ_50 : decode cX6_differ 50 = .ok (.iload 6, 2) := by decide +kernel
theorem dX6_differ_52 : decode cX6_differ 52 = .ok (.if_icmp .eq 12, 3) := by decide +kernel
theorem dX6_differ_55 : decode cX6_differ 55 = .ok (.bipush 10, 2) := by decide +kernel
theorem dX6_differ_57 : decode cX6_differ 57 = .ok (.iload 5, 2) := by decide +kernel
theorem dX6_differ_59 : decode cX6_differ 59 = .ok (.imul, 1) := by decide +kernel
theorem dX6_differ_60 : decode cX6_differ 60 = .ok (.iload 6, 2) := by decide +kernel
theorem dX6_differ_62 : decode cX6_differ 62 = .ok (.iadd, 1) := by decide +kernel
theorem dX6_differ_63 : decode cX6_differ 63 = .ok (.ireturn, 1) := by decide +kernel
theorem dX6_differ_64 : decode cX6_differ 64 = .ok (.iinc 4 1, 3) := by decide +kernel
theorem dX6_differ_67 : decode cX6_differ 67 = .ok (.goto (-54), 3) := by decide +kernel
theorem dX6_differ_70 : decode cX6_differ 70 = .ok (.iconst 0, 1) := by decide +kernel
theorem dX6_differ_71 : decode cX6_differ 71 = .ok (.ireturn, 1) := by decide +kernel
abbrev mX6_differ : zq_M := (cX6_differ, RX6, "differ", (some .int), 7)
theorem dX6_isMet_0 : decode cX6_isMet 0 = .ok (.iload_n 0, 1) := by decide +kernel
theorem dX6_isMet_1 : decode cX6_isMet 1 = .ok (.bipush 10, 2) := by decide +kernel
theorem dX6_isMet_3 : decode cX6_isMet 3 = .ok (.idiv, 1) := by decide +kernel
theorem dX6_isMet_4 : decode cX6_isMet 4 = .ok (.istore_n 2, 1) := by decide +kernel
theorem dX6_isMet_5 : decode cX6_isMet 5 = .ok (.iload_n 0, 1) := by decide +kernel
theorem dX6_isMet_6 : decode cX6_isMet 6 = .ok (.bipush 10, 2) := by decide +kernel
theorem dX6_isMet_8 : decode cX6_isMet 8 = .ok (.irem, 1) := by decide +kernel
theorem dX6_isMet_9 : decode cX6_isMet 9 = .ok (.istore_n 3, 1) := by decide +kernel
theorem dX6_isMet_10 : decode cX6_isMet 10 = .ok (.iload_n 2, 1) := by decide +kernel
theorem dX6_isMet_11 : decode cX6_isMet 11 = .ok (.ifCond .lt 32, 3) := by decide +kernel
theorem dX6_isMet_14 : decode cX6_isMet 14 = .ok (.iload_n 2, 1) := by decide +kernel
theorem dX6_isMet_15 : decode cX6_isMet 15 = .ok (.aload_n 1, 1) := by decide +kernel
theorem dX6_isMet_16 : decode cX6_isMet 16 = .ok (.arraylength, 1) := by decide +kernel
theorem dX6_isMet_17 : decode cX6_isMet 17 = .ok (.if_icmp .ge 26, 3) := by decide +kernel
theorem dX6_isMet_20 : decode cX6_isMet 20 = .ok (.iload_n 3, 1) := by decide +kernel
theorem dX6_isMet_21 : decode cX6_isMet 21 = .ok (.ifCond .lt 22, 3) := by decide +kernel
theorem dX6_isMet_24 : decode cX6_isMet 24 = .ok (.iload_n 3, 1) := by decide +kernel
theorem dX6_isMet_25 : decode cX6_isMet 25 = .ok (.aload_n 1, 1) := by decide +kernel
theorem dX6_isMet_26 : decode cX6_isMet 26 = .ok (.arraylength, 1) := by decide +kernel
theorem dX6_isMet_27 : decode cX6_isMet 27 = .ok (.if_icmp .ge 16, 3) := by decide +kernel
theorem dX6_isMet_30 : decode cX6_isMet 30 = .ok (.aload_n 1, 1) := by decide +kernel
theorem dX6_isMet_31 : decode cX6_isMet 31 = .ok (.iload_n 2, 1) := by decide +kernel
theorem dX6_isMet_32 : decode cX6_isMet 32 = .ok (.iaload, 1) := by decide +kernel
theorem dX6_isMet_33 : decode cX6_isMet 33 = .ok (.aload_n 1, 1) := by decide +kernel
theorem dX6_isMet_34 : decode cX6_isMet 34 = .ok (.iload_n 3, 1) := by decide +kernel
theorem dX6_isMet_35 : decode cX6_isMet 35 = .ok (.iaload, 1) := by decide +kernel
theorem dX6_isMet_36 : decode cX6_isMet 36 = .ok (.if_icmp .ge 7, 3) := by decide +kernel
theorem dX6_isMet_39 : decode cX6_isMet 39 = .ok (.iconst 1, 1) := by decide +kernel
theorem dX6_isMet_40 : decode cX6_isMet 40 = .ok (.goto 4, 3) := by decide +kernel
theorem dX6_isMet_43 : decode cX6_isMet 43 = .ok (.iconst 0, 1) := by decide +kernel
theorem dX6_isMet_44 : decode cX6_isMet 44 = .ok (.ireturn, 1) := by decide +kernel
abbrev mX6_isMet : zq_M := (cX6_isMet, RX6, "isMet", (some .boolean), 4)
theorem dJ6_bitCount_0f7a4_0 : decode cJ6_bitCount_0f7a4 0 = .ok (.iload_n 0, 1) := by decide +kernel
theorem dJ6_bitCount_0f7a4_1 : decode cJ6_bitCount_0f7a4 1 = .ok (.iload_n 0, 1) := by decide +kernel
theorem dJ6_bitCount_0f7a4_2 : decode cJ6_bitCount_0f7a4 2 = .ok (.iconst 1, 1) := by decide +kernel
theorem dJ6_bitCount_0f7a4_3 : decode cJ6_bitCount_0f7a4 3 = .ok (.iushr, 1) := by decide +kernel
theorem dJ6_bitCount_0f7a4_4 : decode cJ6_bitCount_0f7a4 4 = .ok (.ldc_w 265, 3) := by decide +kernel
theorem dJ6_bitCount_0f7a4_7 : decode cJ6_bitCount_0f7a4 7 = .ok (.iand, 1) := by decide +kernel
theorem dJ6_bitCount_0f7a4_8 : decode cJ6_bitCount_0f7a4 8 = .ok (.isub, 1) := by decide +kernel
theorem dJ6_bitCount_0f7a4_9 : decode cJ6_bitCount_0f7a4 9 = .ok (.istore_n 0, 1) := by decide +kernel
theorem dJ6_bitCount_0f7a4_10 : decode cJ6_bitCount_0f7a4 10 = .ok (.iload_n 0, 1) := by decide +kernel
theorem dJ6_bitCount_0f7a4_11 : decode cJ6_bitCount_0f7a4 11 = .ok (.ldc_w 266, 3) := by decide +kernel
theorem dJ6_bitCount_0f7a4_14 : decode cJ6_bitCount_0f7a4 14 = .ok (.iand, 1) := by decide +kernel
theorem dJ6_bitCount_0f7a4_15 : decode cJ6_bitCount_0f7a4 15 = .ok (.iload_n 0, 1) := by decide +kernel
theorem dJ6_bitCount_0f7a4_16 : decode cJ6_bitCount_0f7a4 16 = .ok (.iconst 2, 1) := by decide +kernel
theorem dJ6_bitCount_0f7a4_17 : decode cJ6_bitCount_0f7a4 17 = .ok (.iushr, 1) := by decide +kernel
theorem dJ6_bitCount_0f7a4_18 : decode cJ6_bitCount_0f7a4 18 = .ok (.ldc_w 266, 3) := by decide +kernel
theorem dJ6_bitCount_0f7a4_21 : decode cJ6_bitCount_0f7a4 21 = .ok (.iand, 1) := by decide +kernel
theorem dJ6_bitCount_0f7a4_22 : decode cJ6_bitCount_0f7a4 22 = .ok (.iadd, 1) := by decide +kernel
theorem dJ6_bitCount_0f7a4_23 : decode cJ6_bitCount_0f7a4 23 = .ok (.istore_n 0, 1) := by decide +kernel
theorem dJ6_bitCount_0f7a4_24 : decode cJ6_bitCount_0f7a4 24 = .ok (.iload_n 0, 1) := by decide +kernel
theorem dJ6_bitCount_0f7a4_25 : decode cJ6_bitCount_0f7a4 25 = .ok (.iload_n 0, 1) := by decide +kernel
theorem dJ6_bitCount_0f7a4_26 : decode cJ6_bitCount_0f7a4 26 = .ok (.iconst 4, 1) := by decide +kernel
theorem dJ6_bitCount_0f7a4_27 : decode cJ6_bitCount_0f7a4 27 = .ok (.iushr, 1) := by decide +kernel
theorem dJ6_bitCount_0f7a4_28 : decode cJ6_bitCount_0f7a4 28 = .ok (.iadd, 1) := by decide +kernel
theorem dJ6_bitCount_0f7a4_29 : decode cJ6_bitCount_0f7a4 29 = .ok (.ldc_w 267, 3) := by decide +kernel
theorem dJ6_bitCount_0f7a4_32 : decode cJ6_bitCount_0f7a4 32 = .ok (.iand, 1) := by decide +kernel
theorem dJ6_bitCount_0f7a4_33 : decode cJ6_bitCount_0f7a4 33 = .ok (.istore_n 0, 1) := by decide +kernel
theorem dJ6_bitCount_0f7a4_34 : decode cJ6_bitCount_0f7a4 34 = .ok (.iload_n 0, 1) := by decide +kernel
theorem dJ6_bitCount_0f7a4_35 : decode cJ6_bitCount_0f7a4 35 = .ok (.iload_n 0, 1) := by decide +kernel
theorem dJ6_bitCount_0f7a4_36 : decode cJ6_bitCount_0f7a4 36 = .ok (.bipush 8, 2) := by decide +kernel
theorem dJ6_bitCount_0f7a4_38 : decode cJ6_bitCount_0f7a4 38 = .ok (.iushr, 1) := by decide +kernel
theorem dJ6_bitCount_0f7a4_39 : decode cJ6_bitCount_0f7a4 39 = .ok (.iadd, 1) := by decide +kernel
theorem dJ6_bitCount_0f7a4_40 : decode cJ6_bitCount_0f7a4 40 = .ok (.istore_n 0, 1) := by decide +kernel
theorem dJ6_bitCount_0f7a4_41 : decode cJ6_bitCount_0f7a4 41 = .ok (.iload_n 0, 1) := by decide +kernel
theorem dJ6_bitCount_0f7a4_42 : decode cJ6_bitCount_0f7a4 42 = .ok (.iload_n 0, 1) := by decide +kernel
theorem dJ6_bitCount_0f7a4_43 : decode cJ6_bitCount_0f7a4 43 = .ok (.bipush 16, 2) := by decide +kernel
theorem dJ6_bitCount_0f7a4_45 : decode cJ6_bitCount_0f7a4 45 = .ok (.iushr, 1) := by decide +kernel
theorem dJ6_bitCount_0f7a4_46 : decode cJ6_bitCount_0f7a4 46 = .ok (.iadd, 1) := by decide +kernel
theorem dJ6_bitCount_0f7a4_47 : decode cJ6_bitCount_0f7a4 47 = .ok (.istore_n 0, 1) := by decide +kernel
theorem dJ6_bitCount_0f7a4_48 : decode cJ6_bitCount_0f7a4 48 = .ok (.iload_n 0, 1) := by decide +kernel
theorem dJ6_bitCount_0f7a4_49 : decode cJ6_bitCount_0f7a4 49 = .ok (.bipush 63, 2) := by decide +kernel
theorem dJ6_bitCount_0f7a4_51 : decode cJ6_bitCount_0f7a4 51 = .ok (.iand, 1) := by decide +kernel
theorem dJ6_bitCount_0f7a4_52 : decode cJ6_bitCount_0f7a4 52 = .ok (.ireturn, 1) := by decide +kernel
abbrev mJ6_bitCount_0f7a4 : zq_M := (cJ6_bitCount_0f7a4, RJ6, "bitCount", (some .int), 1)
theorem zq_mmin : cJ9_min_7cf53 = Lib.Math.min.code := by decide +kernel
theorem zq_mmax : cJ9_max_7cf53 = Lib.Math.max.code := by decide +kernel
section ZC0
variable {l : Launch} {G : zq_G} {R : Room} {M : zq_M} {QF : List Frame → Array Value → State → State → Prop} {pc : Nat} {lv : List (Nat × Value)} {st : List Value} {n : Nat} {f : Nat → zq_E} {cells slots : Nat}
theorem at_mmin {idx : Nat} {x y : Int32} (hd : decode M.1 pc = .ok (.invokestatic idx, 3)) (hL : Cond.methodLink M.2.1 idx yJ9_min_7cf53 ∈ zq_ws) (hcat : (st.map fun v => v.category).sum ≤ 8) (hR : 1 ≤ R.frames ∧ 21 ≤ R.locals ∧ cells ≤ R.cells ∧ slots ≤ R.slots) (kk : zq_At l G R M QF (pc + 3) lv (.int (if y < x then y else x) :: st) n f cells slots) : zq_At l G R M QF pc lv (.int y :: .int x :: st) n f cells slots := by
  intro p e s m args below meth c H locs ls C hz hK hO hs hok hP hS hl
  have hts := C.2.2.2.2.1
  have hc := cw_J9_min_7cf53
  rw [zq_mmin] at hc
  exact va_mmin C.1 C.2.1 (C.2.2.1.trans hl.1.symm) C.2.2.2.1 (hts _ hL) (hts _ ms_X3_77.2.1) (hts _ mi_J9_min_7cf53.1) (hts _ hc) hR.1 (by rw [zq_sum]; omega) hR.2.2.1 hR.2.2.2 hd (kk p e s m args below meth c H locs ls C hz hK hO hs hok hP hS hl)
theorem at_mmax {idx : Nat} {x y : Int32} (hd : decode M.1 pc = .ok (.invokestatic idx, 3)) (hL : Cond.methodLink M.2.1 idx yJ9_max_7cf53 ∈ zq_ws) (hcat : (st.map fun v => v.category).sum ≤ 8) (hR : 1 ≤ R.frames ∧ 21 ≤ R.locals ∧ cells ≤ R.cells ∧ slots ≤ R.slots) (kk : zq_At l G R M QF (pc + 3) lv (.int (if x < y then y else x) :: st) n f cells slots) : zq_At l G R M QF pc lv (.int y :: .int x :: st) n f cells slots := by
  intro p e s m args below meth c H locs ls C hz hK hO hs hok hP hS hl
  have hts := C.2.2.2.2.1
  have hc := cw_J9_max_7cf53
  rw [zq_mmax] at hc
  exact va_mmax C.1 C.2.1 (C.2.2.1.trans hl.1.symm) C.2.2.2.1 (hts _ hL) (hts _ ms_X3_86.2.1) (hts _ mi_J9_max_7cf53.1) (hts _ hc) hR.1 (by rw [zq_sum]; omega) hR.2.2.1 hR.2.2.2 hd (kk p e s m args below meth c H locs ls C hz hK hO hs hok hP hS hl)
theorem at_aaldN {o t N j : Nat} {D : String} {g : Nat → Option Nat} {i : Int32} (hd : decode M.1 pc = .ok (.aaload, 1)) (hf : f o = .inl (t, N, .inr (.inr (.inr (.inr g))))) (ht7 : t < 7) (ht : ∀ G : zq_G, (zq_tys G)[t]? = some (G.2.1 t, .object D)) (hN : N < 2147483648) (hi : i = nI j) (hj : j < N) (kk : zq_At l G R M QF (pc + 1) lv (va_rf (g j) :: st) n f cells slots) : zq_At l G R M QF pc lv (.int i :: .ref o :: st) n f cells slots := by
  obtain ⟨e1, e2⟩ := zn_in hi hj hN
  refine at_aald hd hf ht7 ht e1 ?_
  rw [e2]
  exact kk
end ZC0
section ZC1
variable {l : Launch} {G : zq_G} {D n : Nat} {f : Nat → zq_E} {post : Option Value → Nat → (Nat → zq_E) → Prop}
theorem zc_isLetter {v : Int32} (hp : post (some (.int (zb (zlies 1 5 v)))) n f) : zq_Runs l G D 0 0 yX11_isLetter [.int v] n f post := by
  unfold zlies at hp
  refine zq_enter (cc := cX11_isLetter) (nL := 1) (ret := (some .boolean)) cw_X11_isLetter (by decide) rfl (Nat.le_of_ble_eq_true rfl) ?_
  refine at_iload_n dX11_isLetter_0 rfl ?_
  refine at_iconst dX11_isLetter_1 (v := nI 1) (by decide) ?_
  refine at_icmp_lt (tgt := 14) dX11_isLetter_2 (by decide) (fun c2 => ?_) (fun c2 => ?_)
  · rw [decide_eq_false (fun h => absurd c2 (Int32.not_lt.mpr h)), Bool.false_and] at hp
    refine at_iconst dX11_isLetter_14 (v := nI 0) (by decide) ?_
    refine at_zret dX11_isLetter_15 rfl (by omega) (by omega) (by first | exact Or.inl rfl | exact Or.inr rfl | assumption) ?_
    exact hp
  · refine at_iload_n dX11_isLetter_5 rfl ?_
    refine at_iconst dX11_isLetter_6 (v := nI 5) (by decide) ?_
    refine at_icmp_gt (tgt := 14) dX11_isLetter_7 (by decide) (fun c7 => ?_) (fun c7 => ?_)
    · rw [decide_eq_false (fun h => absurd c7 (Int32.not_lt.mpr h)), Bool.and_false] at hp
      refine at_iconst dX11_isLetter_14 (v := nI 0) (by decide) ?_
      refine at_zret dX11_isLetter_15 rfl (by omega) (by omega) (by first | exact Or.inl rfl | exact Or.inr rfl | assumption) ?_
      exact hp
    · rw [decide_eq_true (Int32.not_lt.mp c2), decide_eq_true (Int32.not_lt.mp c7)] at hp
      refine at_iconst dX11_isLetter_10 (v := nI 1) (by decide) ?_
      refine at_goto (tgt := 15) dX11_isLetter_11 (by decide) ?_
      refine at_zret dX11_isLetter_15 rfl (by omega) (by omega) (by first | exact Or.inl rfl | exact Or.inr rfl | assumption) ?_
      exact hp
theorem zc_isLetterPlace {v : Int32} (hp : post (some (.int (zb (zix 4 v)))) n f) : zq_Runs l G D 0 0 yX11_isLetterPlace [.int v] n f post := by
  unfold zix at hp
  refine zq_enter (cc := cX11_isLetterPlace) (nL := 1) (ret := (some .boolean)) cw_X11_isLetterPlace (by decide) rfl (Nat.le_of_ble_eq_true rfl) ?_
  refine at_iload_n dX11_isLetterPlace_0 rfl ?_
  refine at_if_lt (tgt := 13) dX11_isLetterPlace_1 (by decide) (fun c1 => ?_) (fun c1 => ?_)
  · rw [decide_eq_false (fun h => absurd (Int32.lt_iff_toInt_lt.mp c1) (by have : (0 : Int32).toInt = 0 := rfl; omega)), Bool.false_and] at hp
    refine at_iconst dX11_isLetterPlace_13 (v := nI 0) (by decide) ?_
    refine at_zret dX11_isLetterPlace_14 rfl (by omega) (by omega) (by first | exact Or.inl rfl | exact Or.inr rfl | assumption) ?_
    exact hp
  · refine at_iload_n dX11_isLetterPlace_4 rfl ?_
    refine at_iconst dX11_isLetterPlace_5 (v := nI 4) (by decide) ?_
    refine at_icmp_ge (tgt := 13) dX11_isLetterPlace_6 (by decide) (fun c6 => ?_) (fun c6 => ?_)
    · rw [decide_eq_false (p := v.toInt < ((4 : Nat) : Int)) (fun h => absurd (Int32.le_iff_toInt_le.mp c6) (by have : (nI 4).toInt = 4 := rfl; omega)), Bool.and_false] at hp
      refine at_iconst dX11_isLetterPlace_13 (v := nI 0) (by decide) ?_
      refine at_zret dX11_isLetterPlace_14 rfl (by omega) (by omega) (by first | exact Or.inl rfl | exact Or.inr rfl | assumption) ?_
      exact hp
    · rw [decide_eq_true (show 0 ≤ v.toInt from Int.not_lt.mp (fun h => c1 (Int32.lt_iff_toInt_lt.mpr h))), decide_eq_true (show v.toInt < ((4 : Nat) : Int) from Int.not_le.mp (fun h => c6 (Int32.le_iff_toInt_le.mpr h)))] at hp
      refine at_iconst dX11_isLetterPlace_9 (v := nI 1) (by decide) ?_
      refine at_goto (tgt := 14) dX11_isLetterPlace_10 (by decide) ?_
      refine at_zret dX11_isLetterPlace_14 rfl (by omega) (by omega) (by first | exact Or.inl rfl | exact Or.inr rfl | assumption) ?_
      exact hp
theorem zc_lengthOf {x : Nat} (hx : x < 2147483648) (hp : post (some (.int (nI (zlen x)))) n f) : zq_Runs l G D 0 0 yX6_lengthOf [.int (nI x)] n f post := by
  refine zq_enter (cc := cX6_lengthOf) (nL := 1) (ret := (some .int)) cw_X6_lengthOf (by decide) rfl (Nat.le_of_ble_eq_true rfl) ?_
  unfold zlen at hp
  refine at_iload_n dX6_lengthOf_0 rfl ?_
  refine at_bipush dX6_lengthOf_1 (v := nI 10) (by decide) ?_
  refine at_geN (tgt := 8) dX6_lengthOf_3 (by decide) (by omega) (by omega) (fun c3 => ?_) (fun c3 => ?_)
  · refine at_iload_n dX6_lengthOf_8 rfl ?_
    refine at_bipush dX6_lengthOf_9 (v := nI 100) (by decide) ?_
    refine at_geN (tgt := 16) dX6_lengthOf_11 (by decide) (by omega) (by omega) (fun c11 => ?_) (fun c11 => ?_)
    · refine at_iload_n dX6_lengthOf_16 rfl ?_
      refine at_sipush dX6_lengthOf_17 (v := nI 1000) (by decide) ?_
      refine at_geN (tgt := 27) dX6_lengthOf_20 (by decide) (by omega) (by omega) (fun c20 => ?_) (fun c20 => ?_)
      · rw [if_neg (by omega), if_neg (by omega), if_neg (by omega)] at hp
        refine at_iconst dX6_lengthOf_27 (v := nI 4) (by decide) ?_
        refine at_iret dX6_lengthOf_28 rfl (by omega) (by omega) ?_
        exact hp
      · rw [if_neg (by omega), if_neg (by omega), if_pos (by omega)] at hp
        refine at_iconst dX6_lengthOf_23 (v := nI 3) (by decide) ?_
        refine at_goto (tgt := 28) dX6_lengthOf_24 (by decide) ?_
        refine at_iret dX6_lengthOf_28 rfl (by omega) (by omega) ?_
        exact hp
    · rw [if_neg (by omega), if_pos (by omega)] at hp
      refine at_iconst dX6_lengthOf_14 (v := nI 2) (by decide) ?_
      refine at_iret dX6_lengthOf_15 rfl (by omega) (by omega) ?_
      exact hp
  · rw [if_pos (by omega)] at hp
    refine at_iconst dX6_lengthOf_6 (v := nI 1) (by decide) ?_
    refine at_iret dX6_lengthOf_7 rfl (by omega) (by omega) ?_
    exact hp
theorem zc_isName_loop {v : Int32} : ∀ k i r : Nat, i + k = 4 → r < 2147483648 → 1 ≤ D → post (some (.int (zb (zdl k r)))) n f → zq_At l G (zq_rm D 0 0) mX6_isName (zq_QF G post 0 0) 18 [(0, .int v), (1, .int (nI i)), (2, .int (nI r))] [] n f 0 0 := by
  intro k
  induction k with
  | zero =>
    intro i r hi hr hD hp
    obtain rfl : i = 4 := hi
    refine at_iload_n dX6_isName_18 rfl ?_
    refine at_iconst dX6_isName_19 (v := nI 4) (by decide) ?_
    refine at_geN (tgt := 50) dX6_isName_20 (by decide) (by omega) (by omega) (fun c20 => ?_) (fun c20 => ?_)
    · refine at_iconst dX6_isName_50 (v := nI 1) (by decide) ?_
      refine at_zret dX6_isName_51 rfl (by omega) (by omega) (by first | exact Or.inl rfl | exact Or.inr rfl | assumption) ?_
      exact hp
    · omega
  | succ k ih =>
    intro i r hi hr hD hp
    unfold zdl at hp
    refine at_iload_n dX6_isName_18 rfl ?_
    refine at_iconst dX6_isName_19 (v := nI 4) (by decide) ?_
    refine at_geN (tgt := 50) dX6_isName_20 (by decide) (by omega) (by omega) (fun c20 => ?_) (fun c20 => ?_)
    · omega
    · refine at_iload_n dX6_isName_23 rfl ?_
      refine at_if_leN (tgt := 50) dX6_isName_24 (by decide) (by omega) (fun c24 => ?_) (fun c24 => ?_)
      · rw [if_pos c24] at hp
        refine at_iconst dX6_isName_50 (v := nI 1) (by decide) ?_
        refine at_zret dX6_isName_51 rfl (by omega) (by omega) (by first | exact Or.inl rfl | exact Or.inr rfl | assumption) ?_
        exact hp
      · rw [if_neg c24] at hp
        refine at_iload_n dX6_isName_27 rfl ?_
        refine at_bipush dX6_isName_28 (v := nI 10) (by decide) ?_
        refine at_iremN dX6_isName_30 (by omega) (by omega) (by omega) ?_
        refine at_callS1 (d := D - 1) dX6_isName_31 ms_X6_9 (Nat.le_of_ble_eq_true rfl) (zq_r0 (by omega) (by omega) (by omega)) ?_
        refine zc_isLetter ?_
        rw [show zlies 1 5 (nI (r % 10)) = zle (r % 10) from zle_n (by omega)]
        refine at_if_neB (tgt := 39) dX6_isName_34 (by decide) (fun c34 => ?_) (fun c34 => ?_)
        · rw [c34, Bool.true_and] at hp
          have hn := ih (i + 1) (r / 10) (by omega) (by omega) hD hp
          refine at_iincN dX6_isName_39 rfl (by decide) ?_
          refine at_iload_n dX6_isName_42 rfl ?_
          refine at_bipush dX6_isName_43 (v := nI 10) (by decide) ?_
          refine at_idivN dX6_isName_45 (by omega) (by omega) (by omega) ?_
          refine at_istore_n dX6_isName_46 rfl (by decide) ?_
          refine at_goto (tgt := 18) dX6_isName_47 (by decide) ?_
          exact hn
        · rw [c34, Bool.false_and] at hp
          refine at_iconst dX6_isName_37 (v := nI 0) (by decide) ?_
          refine at_zret dX6_isName_38 rfl (by omega) (by omega) (by first | exact Or.inl rfl | exact Or.inr rfl | assumption) ?_
          exact hp
theorem zc_isName {v : Int32} (hD : 1 ≤ D) (hp : post (some (.int (zb (zisI v)))) n f) : zq_Runs l G D 0 0 yX6_isName [.int v] n f post := by
  refine zq_enter (cc := cX6_isName) (nL := 3) (ret := (some .boolean)) cw_X6_isName (by decide) rfl (Nat.le_of_ble_eq_true rfl) ?_
  unfold zisI at hp
  refine at_iload_n dX6_isName_0 rfl ?_
  refine at_iconst dX6_isName_1 (v := nI 1) (by decide) ?_
  refine at_icmp_lt (tgt := 12) dX6_isName_2 (by decide) (fun c2 => ?_) (fun c2 => ?_)
  · rw [decide_eq_false (fun h => absurd c2 (Int32.not_lt.mpr h)), Bool.false_and, Bool.false_and] at hp
    refine at_iconst dX6_isName_12 (v := nI 0) (by decide) ?_
    refine at_zret dX6_isName_13 rfl (by omega) (by omega) (by first | exact Or.inl rfl | exact Or.inr rfl | assumption) ?_
    exact hp
  · refine at_iload_n dX6_isName_5 rfl ?_
    refine at_sipush dX6_isName_6 (v := nI 5555) (by decide) ?_
    refine at_icmp_le (tgt := 14) dX6_isName_9 (by decide) (fun c9 => ?_) (fun c9 => ?_)
    · refine at_iconst dX6_isName_14 (v := nI 0) (by decide) ?_
      refine at_istore_n dX6_isName_15 rfl (by decide) ?_
      refine at_iload_n dX6_isName_16 rfl ?_
      refine at_istore_n dX6_isName_17 rfl (by decide) ?_
      rw [decide_eq_true (Int32.not_lt.mp c2), decide_eq_true c9, Bool.true_and, Bool.true_and] at hp
      obtain ⟨x, h1, h2, rfl⟩ := zlies_n (v := v) (a := 1) (b := 5555) (by decide) (by decide) (by rw [decide_eq_true (Int32.not_lt.mp c2), decide_eq_true c9]; rfl)
      rw [nI_clamp (by omega), ← zdl_all h1 h2] at hp
      exact zc_isName_loop 4 0 x rfl (by omega) hD hp
    · rw [decide_eq_false (p := v ≤ nI 5555) c9, Bool.and_false, Bool.false_and] at hp
      refine at_iconst dX6_isName_12 (v := nI 0) (by decide) ?_
      refine at_zret dX6_isName_13 rfl (by omega) (by omega) (by first | exact Or.inl rfl | exact Or.inr rfl | assumption) ?_
      exact hp
theorem zc_padded {x : Nat} (h1 : 1 ≤ x) (h5 : x ≤ 9999) (hp : post (some (.int (nI (zpad x)))) n f) : zq_Runs l G D 0 0 yX6_padded [.int (nI x)] n f post := by
  refine zq_enter (cc := cX6_padded) (nL := 3) (ret := (some .int)) cw_X6_padded (by decide) rfl (Nat.le_of_ble_eq_true rfl) ?_
  have hp' : ∀ y, y = zpad x → post (some (.int (nI y))) n f := fun y hy => by rw [hy]; exact hp
  unfold zpad at hp'
  have go : ∀ (k i y : Nat), i + k = 4 → 1 ≤ y → y < 10000 → (1 ≤ i) → y * 10 ^ (4 - zlen y) = zpad x → (4 - zlen y ≤ k) → zq_At l G (zq_rm D 0 0) mX6_padded (zq_QF G post 0 0) 4 [(0, .int (nI x)), (1, .int (nI y)), (2, .int (nI i))] [] n f 0 0 := by
    intro k
    induction k with
    | zero =>
      intro i y hi y1 y2 i1 hy hk
      obtain rfl : i = 4 := hi
      have hp := hp' y (by
        have := zlen_le y
        rw [show 4 - zlen y = 0 by omega] at hy
        unfold zpad at hy
        rw [← hy]; simp)
      refine at_iload_n dX6_padded_4 rfl ?_
      refine at_iconst dX6_padded_5 (v := nI 4) (by decide) ?_
      refine at_geN (tgt := 27) dX6_padded_6 (by decide) (by omega) (by omega) (fun c6 => ?_) (fun c6 => ?_)
      · refine at_iload_n dX6_padded_27 rfl ?_
        refine at_iret dX6_padded_28 rfl (by omega) (by omega) ?_
        exact hp
      · omega
    | succ k ih =>
      intro i y hi y1 y2 i1 hy hk
      have ly := zlen_cs y
      refine at_iload_n dX6_padded_4 rfl ?_
      refine at_iconst dX6_padded_5 (v := nI 4) (by decide) ?_
      refine at_geN (tgt := 27) dX6_padded_6 (by decide) (by omega) (by omega) (fun c6 => ?_) (fun c6 => ?_)
      · omega
      · refine at_iload_n dX6_padded_9 rfl ?_
        refine at_sipush dX6_padded_10 (v := nI 1000) (by decide) ?_
        refine at_geN (tgt := 27) dX6_padded_13 (by decide) (by omega) (by omega) (fun c13 => ?_) (fun c13 => ?_)
        · have hp := hp' y (by
            rw [show zlen y = 4 by omega] at hy
            unfold zpad at hy
            rw [← hy]; simp)
          refine at_iload_n dX6_padded_27 rfl ?_
          refine at_iret dX6_padded_28 rfl (by omega) (by omega) ?_
          exact hp
        · have e10 := zlen_10 (x := y) (d := 0) y1 c13 (by decide)
          rw [Nat.add_zero] at e10
          have hn := ih (i + 1) (10 * y) (by omega) (by omega) (by omega) (by omega) (by
            rw [← hy, e10, show 4 - zlen y = (4 - (zlen y + 1)) + 1 by omega, Nat.pow_succ]
            rw [Nat.mul_comm 10 y, Nat.mul_assoc, Nat.mul_comm 10]) (by omega)
          rw [Nat.mul_comm] at hn
          refine at_iload_n dX6_padded_16 rfl ?_
          refine at_bipush dX6_padded_17 (v := nI 10) (by decide) ?_
          refine at_imulN dX6_padded_19 ?_
          refine at_istore_n dX6_padded_20 rfl (by decide) ?_
          refine at_iincN dX6_padded_21 rfl (by decide) ?_
          refine at_goto (tgt := 4) dX6_padded_24 (by decide) ?_
          exact hn
  have lx := zlen_le x
  refine at_iload_n dX6_padded_0 rfl ?_
  refine at_istore_n dX6_padded_1 rfl (by decide) ?_
  refine at_iconst dX6_padded_2 (v := nI 1) (by decide) ?_
  refine at_istore_n dX6_padded_3 rfl (by decide) ?_
  exact go 3 1 x rfl h1 (by omega) (by omega) rfl (by omega)
theorem zc_letterOf {x : Nat} {k : Int32} (hD : 1 ≤ D) (h1 : 1 ≤ x) (h5 : x ≤ 9999) (hp : post (some (.int (nI (if zix 4 k = true then zdg4 x k.toNatClampNeg else 0)))) n f) : zq_Runs l G D 0 0 yX6_letterOf [.int (nI x), .int k] n f post := by
  have hpl := zpad_lt h5
  refine zq_enter (cc := cX6_letterOf) (nL := 2) (ret := (some .int)) cw_X6_letterOf (by decide) rfl (Nat.le_of_ble_eq_true rfl) ?_
  refine at_iload_n dX6_letterOf_0 rfl ?_
  refine at_callS1 (d := D - 1) dX6_letterOf_1 ms_X6_13 (Nat.le_of_ble_eq_true rfl) (zq_r0 (by omega) (by omega) (by omega)) ?_
  refine zc_isLetterPlace ?_
  refine at_if_eqB (tgt := 23) dX6_letterOf_4 (by decide) (fun c4 => ?_) (fun c4 => ?_)
  · rw [if_neg (by rw [c4]; decide)] at hp
    refine at_iconst dX6_letterOf_23 (v := nI 0) (by decide) ?_
    refine at_iret dX6_letterOf_24 rfl (by omega) (by omega) ?_
    exact hp
  · rw [if_pos c4] at hp
    obtain ⟨j, hj, rfl⟩ := zix_t c4
    rw [nI_clamp (by omega), ← zpad_dg h1 h5 hj] at hp
    have ht : 0 < 10 ^ (3 - j) := Nat.pow_pos (by decide)
    have ht2 : 10 ^ (3 - j) ≤ 10 ^ 3 := Nat.pow_le_pow_right (by decide) (by omega)
    have hdv := Nat.div_le_self (zpad x) (10 ^ (3 - j))
    refine at_iload_n dX6_letterOf_7 rfl ?_
    refine at_callS1 (d := D - 1) dX6_letterOf_8 ms_X6_16 (Nat.le_of_ble_eq_true rfl) (zq_r0 (by omega) (by omega) (by omega)) ?_
    refine zc_padded h1 h5 ?_
    refine at_gets dX6_letterOf_11 sl_X6_22 ?_
    refine at_iload_n dX6_letterOf_14 rfl ?_
    refine at_tldN dX6_letterOf_15 rfl (by decide) (by decide) rfl (by omega) ?_
    rw [zq_tens_n hj]
    refine at_idivN dX6_letterOf_16 (by omega) ht (by omega) ?_
    refine at_bipush dX6_letterOf_17 (v := nI 10) (by decide) ?_
    refine at_iremN dX6_letterOf_19 (by omega) (by omega) (by omega) ?_
    refine at_goto (tgt := 24) dX6_letterOf_20 (by decide) ?_
    refine at_iret dX6_letterOf_24 rfl (by omega) (by omega) ?_
    exact hp
theorem zc_withLetter {x k y : Nat} (hD : 2 ≤ D) (h1 : 1 ≤ x) (h5 : x ≤ 9999) (hk : k < zlen x) (hp : post (some (.int (nI (zwl x k y)))) n f) : zq_Runs l G D 0 0 yX6_withLetter [.int (nI x), .int (nI k), .int (nI y)] n f post := by
  have hl := zlen_le x
  refine zq_enter (cc := cX6_withLetter) (nL := 4) (ret := (some .int)) cw_X6_withLetter (by decide) rfl (Nat.le_of_ble_eq_true rfl) ?_
  refine at_iconst dX6_withLetter_0 (v := nI 4) (by decide) ?_
  refine at_iload_n dX6_withLetter_1 rfl ?_
  refine at_callS1 (d := D - 1) dX6_withLetter_2 ms_X6_26 (Nat.le_of_ble_eq_true rfl) (zq_r0 (by omega) (by omega) (by omega)) ?_
  refine zc_lengthOf (by omega) ?_
  refine at_isubN dX6_withLetter_5 (by omega) ?_
  refine at_iload_n dX6_withLetter_6 rfl ?_
  refine at_iaddN dX6_withLetter_7 ?_
  refine at_istore_n dX6_withLetter_8 rfl (by decide) ?_
  refine at_iload_n dX6_withLetter_9 rfl ?_
  refine at_if_ltN (tgt := 25) dX6_withLetter_10 (by decide) (by omega) (fun c10 => ?_) (fun c10 => ?_)
  · exact c10.elim
  · refine at_iload_n dX6_withLetter_13 rfl ?_
    refine at_if_ltN (tgt := 25) dX6_withLetter_14 (by decide) (by omega) (fun c14 => ?_) (fun c14 => ?_)
    · exact c14.elim
    · refine at_iload_n dX6_withLetter_17 rfl ?_
      refine at_gets dX6_withLetter_18 sl_X6_22 ?_
      refine at_tlen dX6_withLetter_21 rfl (by decide) (v := nI 4) rfl ?_
      refine at_ltN (tgt := 27) dX6_withLetter_22 (by decide) (by omega) (by omega) (fun c22 => ?_) (fun c22 => ?_)
      · refine at_iload_n dX6_withLetter_27 rfl ?_
        refine at_iload_n dX6_withLetter_28 rfl ?_
        refine at_iload_n dX6_withLetter_29 rfl ?_
        refine at_iload_n dX6_withLetter_30 rfl ?_
        refine at_callS2 (d := D - 1) dX6_withLetter_31 ms_X6_29 (Nat.le_of_ble_eq_true rfl) (zq_r0 (by omega) (by omega) (by omega)) ?_
        refine zc_letterOf (by omega) h1 h5 ?_
        rw [zix_n (by omega), decide_eq_true (by omega), if_pos rfl, nI_clamp (by omega), show zdg4 x k = zlt x k from if_pos hk]
        refine at_isub dX6_withLetter_34 ?_
        refine at_gets dX6_withLetter_35 sl_X6_22 ?_
        refine at_iload_n dX6_withLetter_38 rfl ?_
        refine at_tldN dX6_withLetter_39 rfl (by decide) (by decide) rfl (by omega) ?_
        rw [zq_tens_n (by omega), show 3 - (4 - zlen x + k) = zlen x - 1 - k by omega]
        refine at_imul dX6_withLetter_40 ?_
        refine at_iadd dX6_withLetter_41 ?_
        rw [zwl_eq]
        refine at_iret dX6_withLetter_42 rfl (by omega) (by omega) ?_
        exact hp
      · omega
theorem zc_differ {a b : Nat} (hD : 1 ≤ D) (a1 : 1 ≤ a) (a5 : a ≤ 9999) (b1 : 1 ≤ b) (b5 : b ≤ 9999) (hp : post (some (.int (nI (zdf a b)))) n f) : zq_Runs l G D 0 0 yX6_differ [.int (nI a), .int (nI b)] n f post := by
  have hpa := zpad_lt a5
  have hpb := zpad_lt b5
  have loop : ∀ (f' k : Nat), k + f' = 4 → post (some (.int (nI (zdfF a b f' k)))) n f → ∀ lv5 : List (Nat × Value), zq_At l G (zq_rm D 0 0) mX6_differ (zq_QF G post 0 0) 13 [(0, .int (nI a)), (1, .int (nI b)), (2, .int (nI (zpad a))), (3, .int (nI (zpad b))), (4, .int (nI k))] [] n f 0 0 := by
    intro f'
    induction f' with
    | zero =>
      intro k hk hp _
      obtain rfl : k = 4 := hk
      refine at_iload dX6_differ_13 rfl ?_
      refine at_gets dX6_differ_15 sl_X6_22 ?_
      refine at_tlen dX6_differ_18 rfl (by decide) (v := nI 4) rfl ?_
      refine at_geN (tgt := 70) dX6_differ_19 (by decide) (by omega) (by omega) (fun c19 => ?_) (fun c19 => ?_)
      · refine at_iconst dX6_differ_70 (v := nI 0) (by decide) ?_
        refine at_iret dX6_differ_71 rfl (by omega) (by omega) ?_
        exact hp
      · omega
    | succ f' ih =>
      intro k hk hp _
      unfold zdfF at hp
      have ht : 0 < 10 ^ (3 - k) := Nat.pow_pos (by decide)
      have ht2 : 10 ^ (3 - k) ≤ 10 ^ 3 := Nat.pow_le_pow_right (by decide) (by omega)
      have hdv := Nat.div_le_self (zpad a) (10 ^ (3 - k))
      have hdv2 := Nat.div_le_self (zpad b) (10 ^ (3 - k))
      have ga := zdg4_lt a k
      have gb := zdg4_lt b k
      refine at_iload dX6_differ_13 rfl ?_
      refine at_gets dX6_differ_15 sl_X6_22 ?_
      refine at_tlen dX6_differ_18 rfl (by decide) (v := nI 4) rfl ?_
      refine at_geN (tgt := 70) dX6_differ_19 (by decide) (by omega) (by omega) (fun c19 => ?_) (fun c19 => ?_)
      · omega
      · refine at_iload_n dX6_differ_22 rfl ?_
        refine at_gets dX6_differ_23 sl_X6_22 ?_
        refine at_iload dX6_differ_26 rfl ?_
        refine at_tldN dX6_differ_28 rfl (by decide) (by decide) rfl (by omega) ?_
        rw [zq_tens_n (by omega)]
        refine at_idivN dX6_differ_29 (by omega) ht (by omega) ?_
        refine at_bipush dX6_differ_30 (v := nI 10) (by decide) ?_
        refine at_iremN dX6_differ_32 (by omega) (by omega) (by omega) ?_
        rw [zpad_dg a1 a5 (by omega)]
        refine at_istore dX6_differ_33 (by decide) ?_
        refine at_iload_n dX6_differ_35 rfl ?_
        refine at_gets dX6_differ_36 sl_X6_22 ?_
        refine at_iload dX6_differ_39 rfl ?_
        refine at_tldN dX6_differ_41 rfl (by decide) (by decide) rfl (by omega) ?_
        rw [zq_tens_n (by omega)]
        refine at_idivN dX6_differ_42 (by omega) ht (by omega) ?_
        refine at_bipush dX6_differ_43 (v := nI 10) (by decide) ?_
        refine at_iremN dX6_differ_45 (by omega) (by omega) (by omega) ?_
        rw [zpad_dg b1 b5 (by omega)]
        refine at_istore dX6_differ_46 (by decide) ?_
        refine at_iload dX6_differ_48 rfl ?_
        refine at_iload dX6_differ_50 rfl ?_
        refine at_eqN (tgt := 64) dX6_differ_52 (by decide) (by omega) (by omega) (fun c52 => ?_) (fun c52 => ?_)
        · rw [if_pos c52] at hp
          have hn := ih (k + 1) (by omega) hp []
          refine at_iincN dX6_differ_64 rfl (by decide) ?_
          refine at_goto (tgt := 13) dX6_differ_67 (by decide) ?_
          exact at_lv [0, 1, 2, 3, 4] hn
        · rw [if_neg c52] at hp
          refine at_bipush dX6_differ_55 (v := nI 10) (by decide) ?_
          refine at_iload dX6_differ_57 rfl ?_
          refine at_imulN dX6_differ_59 ?_
          refine at_iload dX6_differ_60 rfl ?_
          refine at_iaddN dX6_differ_62 ?_
          refine at_iret dX6_differ_63 rfl (by omega) (by omega) ?_
          exact hp
  refine zq_enter (cc := cX6_differ) (nL := 7) (ret := (some .int)) cw_X6_differ (by decide) rfl (Nat.le_of_ble_eq_true rfl) ?_
  refine at_iload_n dX6_differ_0 rfl ?_
  refine at_callS1 (d := D - 1) dX6_differ_1 ms_X6_16 (Nat.le_of_ble_eq_true rfl) (zq_r0 (by omega) (by omega) (by omega)) ?_
  refine zc_padded a1 a5 ?_
  refine at_istore_n dX6_differ_4 rfl (by decide) ?_
  refine at_iload_n dX6_differ_5 rfl ?_
  refine at_callS1 (d := D - 1) dX6_differ_6 ms_X6_16 (Nat.le_of_ble_eq_true rfl) (zq_r0 (by omega) (by omega) (by omega)) ?_
  refine zc_padded b1 b5 ?_
  refine at_istore_n dX6_differ_9 rfl (by decide) ?_
  refine at_iconst dX6_differ_10 (v := nI 0) (by decide) ?_
  refine at_istore dX6_differ_11 (by decide) ?_
  exact loop 4 0 rfl hp []
end ZC1

