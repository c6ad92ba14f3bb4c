/-! ===== the Model reckons tests ===== -/
theorem dX12_testOf_0 : decode cX12_testOf 0 = .ok (.aload_n 0, 1) := by decide +kernel
theorem dX12_testOf_1 : decode cX12_testOf 1 = .ok (.iload_n 1, 1) := by decide +kernel
theorem dX12_testOf_2 : decode cX12_testOf 2 = .ok (.invokevirtual 340, 3) := by decide +kernel
theorem dX12_testOf_5 : decode cX12_testOf 5 = .ok (.istore_n 2, 1) := by decide +kernel
theorem dX12_testOf_6 : decode cX12_testOf 6 = .ok (.aload_n 0, 1) := by decide +kernel
theorem dX12_testOf_7 : decode cX12_testOf 7 = .ok (.iconst 5, 1) := by decide +kernel
theorem dX12_testOf_8 : decode cX12_testOf 8 = .ok (.invokevirtual 310, 3) := by decide +kernel
theorem dX12_testOf_11 : decode cX12_testOf 11 = .ok (.ifCond .eq 38, 3) := by decide +kernel
theorem dX12_testOf_14 : decode cX12_testOf 14 = .ok (.aload_n 0, 1) := by decide +kernel
theorem dX12_testOf_15 : decode cX12_testOf 15 = .ok (.iload_n 1, 1) := by decide +kernel
theorem dX12_testOf_16 : decode cX12_testOf 16 = .ok (.ifCond .eq 11, 3) := by decide +kernel
theorem dX12_testOf_19 : decode cX12_testOf 19 = .ok (.iload_n 2, 1) := by decide +kernel
theorem dX12_testOf_20 : decode cX12_testOf 20 = .ok (.ifCond .ne 7, 3) := by decide +kernel
theorem dX12_testOf_23 : decode cX12_testOf 23 = .ok (.iconst 1, 1) := by decide +kernel
theorem dX12_testOf_24 : decode cX12_testOf 24 = .ok (.goto 4, 3) := by decide +kernel
theorem dX12_testOf_27 : decode cX12_testOf 27 = .ok (.iconst 0, 1) := by decide +kernel
theorem dX12_testOf_28 : decode cX12_testOf 28 = .ok (.invokevirtual 340, 3) := by decide +kernel
theorem dX12_testOf_31 : decode cX12_testOf 31 = .ok (.istore_n 3, 1) := by decide +kernel
theorem dX12_testOf_32 : decode cX12_testOf 32 = .ok (.iload_n 2, 1) := by decide +kernel
theorem dX12_testOf_33 : decode cX12_testOf 33 = .ok (.ifCond .ne 7, 3) := by decide +kernel
theorem dX12_testOf_36 : decode cX12_testOf 36 = .ok (.iload_n 3, 1) := by decide +kernel
theorem dX12_testOf_37 : decode cX12_testOf 37 = .ok (.ifCond .eq 7, 3) := by decide +kernel
theorem dX12_testOf_40 : decode cX12_testOf 40 = .ok (.iconst 1, 1) := by decide +kernel
theorem dX12_testOf_41 : decode cX12_testOf 41 = .ok (.goto 4, 3) := by decide +kernel
theorem dX12_testOf_44 : decode cX12_testOf 44 = .ok (.iconst 0, 1) := by decide +kernel
theorem dX12_testOf_45 : decode cX12_testOf 45 = .ok (.istore_n 2, 1) := by decide +kernel
theorem dX12_testOf_46 : decode cX12_testOf 46 = .ok (.goto (-40), 3) := by decide +kernel
theorem dX12_testOf_49 : decode cX12_testOf 49 = .ok (.iload_n 2, 1) := by decide +kernel
theorem dX12_testOf_50 : decode cX12_testOf 50 = .ok (.ireturn, 1) := by decide +kernel
abbrev mX12_testOf : zq_M := (cX12_testOf, RX12, "testOf", (some .boolean), 4)
theorem dX12_bothOf_0 : decode cX12_bothOf 0 = .ok (.aload_n 0, 1) := by decide +kernel
theorem dX12_bothOf_1 : decode cX12_bothOf 1 = .ok (.iload_n 1, 1) := by decide +kernel
theorem dX12_bothOf_2 : decode cX12_bothOf 2 = .ok (.invokevirtual 343, 3) := by decide +kernel
theorem dX12_bothOf_5 : decode cX12_bothOf 5 = .ok (.istore_n 2, 1) := by decide +kernel
theorem dX12_bothOf_6 : decode cX12_bothOf 6 = .ok (.aload_n 0, 1) := by decide +kernel
theorem dX12_bothOf_7 : decode cX12_bothOf 7 = .ok (.bipush 6, 2) := by decide +kernel
theorem dX12_bothOf_9 : decode cX12_bothOf 9 = .ok (.invokevirtual 310, 3) := by decide +kernel
theorem dX12_bothOf_12 : decode cX12_bothOf 12 = .ok (.ifCond .eq 38, 3) := by decide +kernel
theorem dX12_bothOf_15 : decode cX12_bothOf 15 = .ok (.aload_n 0, 1) := by decide +kernel
theorem dX12_bothOf_16 : decode cX12_bothOf 16 = .ok (.iload_n 1, 1) := by decide +kernel
theorem dX12_bothOf_17 : decode cX12_bothOf 17 = .ok (.ifCond .eq 11, 3) := by decide +kernel
theorem dX12_bothOf_20 : decode cX12_bothOf 20 = .ok (.iload_n 2, 1) := by decide +kernel
theorem dX12_bothOf_21 : decode cX12_bothOf 21 = .ok (.ifCond .eq 7, 3) := by decide +kernel
theorem dX12_bothOf_24 : decode cX12_bothOf 24 = .ok (.iconst 1, 1) := by decide +kernel
theorem dX12_bothOf_25 : decode cX12_bothOf 25 = .ok (.goto 4, 3) := by decide +kernel
theorem dX12_bothOf_28 : decode cX12_bothOf 28 = .ok (.iconst 0, 1) := by decide +kernel
theorem dX12_bothOf_29 : decode cX12_bothOf 29 = .ok (.invokevirtual 343, 3) := by decide +kernel
theorem dX12_bothOf_32 : decode cX12_bothOf 32 = .ok (.istore_n 3, 1) := by decide +kernel
theorem dX12_bothOf_33 : decode cX12_bothOf 33 = .ok (.iload_n 2, 1) := by decide +kernel
theorem dX12_bothOf_34 : decode cX12_bothOf 34 = .ok (.ifCond .eq 11, 3) := by decide +kernel
theorem dX12_bothOf_37 : decode cX12_bothOf 37 = .ok (.iload_n 3, 1) := by decide +kernel
theorem dX12_bothOf_38 : decode cX12_bothOf 38 = .ok (.ifCond .eq 7, 3) := by decide +kernel
theorem dX12_bothOf_41 : decode cX12_bothOf 41 = .ok (.iconst 1, 1) := by decide +kernel
theorem dX12_bothOf_42 : decode cX12_bothOf 42 = .ok (.goto 4, 3) := by decide +kernel
theorem dX12_bothOf_45 : decode cX12_bothOf 45 = .ok (.iconst 0, 1) := by decide +kernel
theorem dX12_bothOf_46 : decode cX12_bothOf 46 = .ok (.istore_n 2, 1) := by decide +kernel
theorem dX12_bothOf_47 : decode cX12_bothOf 47 = .ok (.goto (-41), 3) := by decide +kernel
theorem dX12_bothOf_50 : decode cX12_bothOf 50 = .ok (.iload_n 2, 1) := by decide +kernel
theorem dX12_bothOf_51 : decode cX12_bothOf 51 = .ok (.ireturn, 1) := by decide +kernel
abbrev mX12_bothOf : zq_M := (cX12_bothOf, RX12, "bothOf", (some .boolean), 4)
theorem dX12_plainOf_0 : decode cX12_plainOf 0 = .ok (.iconst 0, 1) := by decide +kernel
theorem dX12_plainOf_1 : decode cX12_plainOf 1 = .ok (.istore_n 2, 1) := by decide +kernel
theorem dX12_plainOf_2 : decode cX12_plainOf 2 = .ok (.aload_n 0, 1) := by decide +kernel
theorem dX12_plainOf_3 : decode cX12_plainOf 3 = .ok (.bipush 7, 2) := by decide +kernel
theorem dX12_plainOf_5 : decode cX12_plainOf 5 = .ok (.invokevirtual 310, 3) := by decide +kernel
theorem dX12_plainOf_8 : decode cX12_plainOf 8 = .ok (.ifCond .eq 16, 3) := by decide +kernel
theorem dX12_plainOf_11 : decode cX12_plainOf 11 = .ok (.iload_n 2, 1) := by decide +kernel
theorem dX12_plainOf_12 : decode cX12_plainOf 12 = .ok (.ifCond .ne 7, 3) := by decide +kernel
theorem dX12_plainOf_15 : decode cX12_plainOf 15 = .ok (.iconst 1, 1) := by decide +kernel
theorem dX12_plainOf_16 : decode cX12_plainOf 16 = .ok (.goto 4, 3) := by decide +kernel
theorem dX12_plainOf_19 : decode cX12_plainOf 19 = .ok (.iconst 0, 1) := by decide +kernel
theorem dX12_plainOf_20 : decode cX12_plainOf 20 = .ok (.istore_n 2, 1) := by decide +kernel
theorem dX12_plainOf_21 : decode cX12_plainOf 21 = .ok (.goto (-19), 3) := by decide +kernel
theorem dX12_plainOf_24 : decode cX12_plainOf 24 = .ok (.aload_n 0, 1) := by decide +kernel
theorem dX12_plainOf_25 : decode cX12_plainOf 25 = .ok (.iload_n 1, 1) := by decide +kernel
theorem dX12_plainOf_26 : decode cX12_plainOf 26 = .ok (.invokevirtual 346, 3) := by decide +kernel
theorem dX12_plainOf_29 : decode cX12_plainOf 29 = .ok (.iload_n 2, 1) := by decide +kernel
theorem dX12_plainOf_30 : decode cX12_plainOf 30 = .ok (.if_icmp .eq 7, 3) := by decide +kernel
theorem dX12_plainOf_33 : decode cX12_plainOf 33 = .ok (.iconst 1, 1) := by decide +kernel
theorem dX12_plainOf_34 : decode cX12_plainOf 34 = .ok (.goto 4, 3) := by decide +kernel
theorem dX12_plainOf_37 : decode cX12_plainOf 37 = .ok (.iconst 0, 1) := by decide +kernel
theorem dX12_plainOf_38 : decode cX12_plainOf 38 = .ok (.ireturn, 1) := by decide +kernel
abbrev mX12_plainOf : zq_M := (cX12_plainOf, RX12, "plainOf", (some .boolean), 3)
theorem dX12_positiveOf_0 : decode cX12_positiveOf 0 = .ok (.aload_n 0, 1) := by decide +kernel
theorem dX12_positiveOf_1 : decode cX12_positiveOf 1 = .ok (.bipush 40, 2) := by decide +kernel
theorem dX12_positiveOf_3 : decode cX12_positiveOf 3 = .ok (.invokestatic 245, 3) := by decide +kernel
theorem dX12_positiveOf_6 : decode cX12_positiveOf 6 = .ok (.invokevirtual 310, 3) := by decide +kernel
theorem dX12_positiveOf_9 : decode cX12_positiveOf 9 = .ok (.ifCond .eq 21, 3) := by decide +kernel
theorem dX12_positiveOf_12 : decode cX12_positiveOf 12 = .ok (.aload_n 0, 1) := by decide +kernel
theorem dX12_positiveOf_13 : decode cX12_positiveOf 13 = .ok (.iload_n 1, 1) := by decide +kernel
theorem dX12_positiveOf_14 : decode cX12_positiveOf 14 = .ok (.invokevirtual 349, 3) := by decide +kernel
theorem dX12_positiveOf_17 : decode cX12_positiveOf 17 = .ok (.istore_n 2, 1) := by decide +kernel
theorem dX12_positiveOf_18 : decode cX12_positiveOf 18 = .ok (.aload_n 0, 1) := by decide +kernel
theorem dX12_positiveOf_19 : decode cX12_positiveOf 19 = .ok (.dup, 1) := by decide +kernel
theorem dX12_positiveOf_20 : decode cX12_positiveOf 20 = .ok (.getfield 286, 3) := by decide +kernel
theorem dX12_positiveOf_23 : decode cX12_positiveOf 23 = .ok (.iconst 1, 1) := by decide +kernel
theorem dX12_positiveOf_24 : decode cX12_positiveOf 24 = .ok (.iadd, 1) := by decide +kernel
theorem dX12_positiveOf_25 : decode cX12_positiveOf 25 = .ok (.putfield 286, 3) := by decide +kernel
theorem dX12_positiveOf_28 : decode cX12_positiveOf 28 = .ok (.iload_n 2, 1) := by decide +kernel
theorem dX12_positiveOf_29 : decode cX12_positiveOf 29 = .ok (.ireturn, 1) := by decide +kernel
theorem dX12_positiveOf_30 : decode cX12_positiveOf 30 = .ok (.aload_n 0, 1) := by decide +kernel
theorem dX12_positiveOf_31 : decode cX12_positiveOf 31 = .ok (.iload_n 1, 1) := by decide +kernel
theorem dX12_positiveOf_32 : decode cX12_positiveOf 32 = .ok (.invokevirtual 313, 3) := by decide +kernel
theorem dX12_positiveOf_35 : decode cX12_positiveOf 35 = .ok (.lstore_n 2, 1) := by decide +kernel
theorem dX12_positiveOf_36 : decode cX12_positiveOf 36 = .ok (.aload_n 0, 1) := by decide +kernel
theorem dX12_positiveOf_37 : decode cX12_positiveOf 37 = .ok (.aload_n 0, 1) := by decide +kernel
theorem dX12_positiveOf_38 : decode cX12_positiveOf 38 = .ok (.getfield 286, 3) := by decide +kernel
theorem dX12_positiveOf_41 : decode cX12_positiveOf 41 = .ok (.invokevirtual 289, 3) := by decide +kernel
theorem dX12_positiveOf_44 : decode cX12_positiveOf 44 = .ok (.istore 4, 2) := by decide +kernel
theorem dX12_positiveOf_46 : decode cX12_positiveOf 46 = .ok (.aload_n 0, 1) := by decide +kernel
theorem dX12_positiveOf_47 : decode cX12_positiveOf 47 = .ok (.dup, 1) := by decide +kernel
theorem dX12_positiveOf_48 : decode cX12_positiveOf 48 = .ok (.getfield 286, 3) := by decide +kernel
theorem dX12_positiveOf_51 : decode cX12_positiveOf 51 = .ok (.iconst 1, 1) := by decide +kernel
theorem dX12_positiveOf_52 : decode cX12_positiveOf 52 = .ok (.iadd, 1) := by decide +kernel
theorem dX12_positiveOf_53 : decode cX12_positiveOf 53 = .ok (.putfield 286, 3) := by decide +kernel
theorem dX12_positiveOf_56 : decode cX12_positiveOf 56 = .ok (.aload_n 0, 1) := by decide +kernel
theorem dX12_positiveOf_57 : decode cX12_positiveOf 57 = .ok (.iload_n 1, 1) := by decide +kernel
theorem dX12_positiveOf_58 : decode cX12_positiveOf 58 = .ok (.invokevirtual 313, 3) := by decide +kernel
theorem dX12_positiveOf_61 : decode cX12_positiveOf 61 = .ok (.lstore 5, 2) := by decide +kernel
theorem dX12_positiveOf_63 : decode cX12_positiveOf 63 = .ok (.iload_n 1, 1) := by decide +kernel
theorem dX12_positiveOf_64 : decode cX12_positiveOf 64 = .ok (.ifCond .eq 61, 3) := by decide +kernel
theorem dX12_positiveOf_67 : decode cX12_positiveOf 67 = .ok (.aload_n 0, 1) := by decide +kernel
theorem dX12_positiveOf_68 : decode cX12_positiveOf 68 = .ok (.getfield 296, 3) := by decide +kernel
theorem dX12_positiveOf_71 : decode cX12_positiveOf 71 = .ok (.ifCond .ne 54, 3) := by decide +kernel
theorem dX12_positiveOf_74 : decode cX12_positiveOf 74 = .ok (.iload 4, 2) := by decide +kernel
theorem dX12_positiveOf_76 : decode cX12_positiveOf 76 = .ok (.bipush 60, 2) := by decide +kernel
theorem dX12_positiveOf_78 : decode cX12_positiveOf 78 = .ok (.invokestatic 245, 3) := by decide +kernel
theorem dX12_positiveOf_81 : decode cX12_positiveOf 81 = .ok (.if_icmp .ne 13, 3) := by decide +kernel
theorem dX12_positiveOf_84 : decode cX12_positiveOf 84 = .ok (.lload_n 2, 1) := by decide +kernel
theorem dX12_positiveOf_85 : decode cX12_positiveOf 85 = .ok (.lload 5, 2) := by decide +kernel
theorem dX12_positiveOf_87 : decode cX12_positiveOf 87 = .ok (.lcmp, 1) := by decide +kernel
theorem dX12_positiveOf_88 : decode cX12_positiveOf 88 = .ok (.ifCond .ge 37, 3) := by decide +kernel
theorem dX12_positiveOf_91 : decode cX12_positiveOf 91 = .ok (.goto 30, 3) := by decide +kernel
theorem dX12_positiveOf_94 : decode cX12_positiveOf 94 = .ok (.iload 4, 2) := by decide +kernel
theorem dX12_positiveOf_96 : decode cX12_positiveOf 96 = .ok (.bipush 62, 2) := by decide +kernel
theorem dX12_positiveOf_98 : decode cX12_positiveOf 98 = .ok (.invokestatic 245, 3) := by decide +kernel
theorem dX12_positiveOf_101 : decode cX12_positiveOf 101 = .ok (.if_icmp .ne 13, 3) := by decide +kernel
theorem dX12_positiveOf_104 : decode cX12_positiveOf 104 = .ok (.lload_n 2, 1) := by decide +kernel
theorem dX12_positiveOf_105 : decode cX12_positiveOf 105 = .ok (.lload 5, 2) := by decide +kernel
theorem dX12_positiveOf_107 : decode cX12_positiveOf 107 = .ok (.lcmp, 1) := by decide +kernel
theorem dX12_positiveOf_108 : decode cX12_positiveOf 108 = .ok (.ifCond .le 17, 3) := by decide +kernel
theorem dX12_positiveOf_111 : decode cX12_positiveOf 111 = .ok (.goto 10, 3) := by decide +kernel
theorem dX12_positiveOf_114 : decode cX12_positiveOf 114 = .ok (.lload_n 2, 1) := by decide +kernel
theorem dX12_positiveOf_115 : decode cX12_positiveOf 115 = .ok (.lload 5, 2) := by decide +kernel
theorem dX12_positiveOf_117 : decode cX12_positiveOf 117 = .ok (.lcmp, 1) := by decide +kernel
theorem dX12_positiveOf_118 : decode cX12_positiveOf 118 = .ok (.ifCond .ne 7, 3) := by decide +kernel
theorem dX12_positiveOf_121 : decode cX12_positiveOf 121 = .ok (.iconst 1, 1) := by decide +kernel
theorem dX12_positiveOf_122 : decode cX12_positiveOf 122 = .ok (.goto 4, 3) := by decide +kernel
theorem dX12_positiveOf_125 : decode cX12_positiveOf 125 = .ok (.iconst 0, 1) := by decide +kernel
theorem dX12_positiveOf_126 : decode cX12_positiveOf 126 = .ok (.ireturn, 1) := by decide +kernel
abbrev mX12_positiveOf : zq_M := (cX12_positiveOf, RX12, "positiveOf", (some .boolean), 7)
section ZL24
variable {l : Launch} {G : zq_G} {n B E : Nat} {cd vl : Nat → Nat} {o : Bool} {w : Nat → Nat → Int} {σ : zm_S} {ρ : Nat → zq_E}
/-- what a test's answer says: it counts only if it is due and nothing is broken -/
def zsay (w : Nat → Nat → Int) (lv b : Bool) (e : zX) (r : Bool) : Prop := lv = true → b = false → ∀ x, e w = some x → r = decide (x = 1)
/-- method y reckons the tests that P tells -/
def zHB (l : Launch) (G : zq_G) (n B : Nat) (w : Nat → Nat → Int) (σ : zm_S) (ρ : Nat → zq_E) (D : Nat) (y : MethodName) (P : zX → Nat → Nat → Prop) : Prop := ∀ (e : zX) (i j : Nat) (lv b : Bool) (post : Option Value → Nat → (Nat → zq_E) → Prop), P e i j →
  (∀ r, zsay w lv b e r → post (some (.int (zb r))) n (zm_h (zg σ (B + j) (zbs w lv b e)) ρ)) → zq_Runs l G D 0 0 y [.ref 70, .int (zb lv)] n (zm_h (zg σ (B + i) b) ρ) post
/-- tests come to 0 or 1 -/
def z01 (w : Nat → Nat → Int) (e : zX) : Prop := ∀ x, e w = some x → x = 0 ∨ x = 1
def zB1 (w : Nat → Nat → Int) (P : zX → Nat → Nat → Prop) : Prop := ∀ e i j, P e i j → z01 w e
theorem zor_b {lv b r1 : Bool} {a t : zX} (h1 : zsay w lv b a r1) (h01 : z01 w a) : zbs w (lv && !r1) (zbs w lv b a) t = zbs w lv b (zx_or 0 a t) := by
  cases lv with
  | false => simp [zbs]
  | true =>
    cases b with
    | true => simp [zbs]
    | false =>
      cases ha : a w with
      | none => simp [zbs, zx_or, ha]
      | some x =>
        have := h1 rfl rfl x ha
        rcases h01 x ha with rfl | rfl
        · simp at this; subst this; simp [zbs, zx_or, ha]
        · simp at this; subst this; simp [zbs, zx_or, ha]
theorem zor_r {lv b r1 r2 : Bool} {a t : zX} (h1 : zsay w lv b a r1) (h01 : z01 w a) (h2 : zsay w (lv && !r1) (zbs w lv b a) t r2) : zsay w lv b (zx_or 0 a t) (r1 || r2) := by
  intro hl hb x hx
  subst hl; subst hb
  unfold zx_or at hx
  cases ha : a w with
  | none => rw [ha] at hx; cases hx
  | some y =>
    rw [ha] at hx
    have := h1 rfl rfl y ha
    rcases h01 y ha with rfl | rfl
    · simp at this; subst this
      have := h2 rfl (by simp [zbs, ha]) x (by simpa using hx)
      rw [this]; simp
    · simp at this; subst this
      simp at hx; subst hx; simp
theorem zan_b {lv b r1 : Bool} {a t : zX} (h1 : zsay w lv b a r1) (h01 : z01 w a) : zbs w (lv && r1) (zbs w lv b a) t = zbs w lv b (zx_an 0 a t) := by
  cases lv with
  | false => simp [zbs]
  | true =>
    cases b with
    | true => simp [zbs]
    | false =>
      cases ha : a w with
      | none => simp [zbs, zx_an, ha]
      | some x =>
        have := h1 rfl rfl x ha
        rcases h01 x ha with rfl | rfl
        · simp at this; subst this; simp [zbs, zx_an, ha]
        · simp at this; subst this; simp [zbs, zx_an, ha]
theorem zan_r {lv b r1 r2 : Bool} {a t : zX} (h1 : zsay w lv b a r1) (h01 : z01 w a) (h2 : zsay w (lv && r1) (zbs w lv b a) t r2) : zsay w lv b (zx_an 0 a t) (r1 && r2) := by
  intro hl hb x hx
  subst hl; subst hb
  unfold zx_an at hx
  cases ha : a w with
  | none => rw [ha] at hx; cases hx
  | some y =>
    rw [ha] at hx
    have := h1 rfl rfl y ha
    rcases h01 y ha with rfl | rfl
    · simp at this; subst this
      simp at hx; subst hx; simp
    · simp at this; subst this
      have := h2 rfl (by simp [zbs, ha]) x (by simpa using hx)
      rw [this]; simp
theorem z01_or {a t : zX} {k : Nat} (h2 : z01 w t) : z01 w (zx_or k a t) := by
  intro x hx
  unfold zx_or at hx
  cases ha : a w with
  | none => rw [ha] at hx; cases hx
  | some y =>
    rw [ha] at hx
    by_cases hy : y = 1
    · simp [hy] at hx; exact Or.inr hx.symm
    · simp [hy] at hx; exact h2 x hx
theorem z01_an {a t : zX} {k : Nat} (h2 : z01 w t) : z01 w (zx_an k a t) := by
  intro x hx
  unfold zx_an at hx
  cases ha : a w with
  | none => rw [ha] at hx; cases hx
  | some y =>
    rw [ha] at hx
    by_cases hy : y = 0
    · simp [hy] at hx; exact Or.inl hx.symm
    · simp [hy] at hx; exact h2 x hx
theorem zB1_TL {ops : List Nat} {mk : Nat → zX → zX → zX} {P : zX → Nat → Nat → Prop} (hmk : ∀ k a t, z01 w t → z01 w (mk k a t)) (hP : zB1 w P) : ∀ {f : Nat} {a e : zX} {j k : Nat}, zTL cd ops mk P f a j e k → z01 w a → z01 w e
  | 0, _, _, _, _, h, _ => h.elim
  | f + 1, a, e, j, k, h, ha => by
    rcases h with ⟨-, rfl, rfl⟩ | ⟨-, b, m, hb, ht⟩
    · exact ha
    · exact zB1_TL hmk hP ht (hmk _ _ _ (hP _ _ _ hb))
theorem zB1_sq {ops : List Nat} {mk : Nat → zX → zX → zX} {P : zX → Nat → Nat → Prop} (hmk : ∀ k a t, z01 w t → z01 w (mk k a t)) (hP : zB1 w P) : zB1 w (zSqL cd ops mk P) := by
  rintro e i k ⟨f, a, j, h1, h2⟩
  exact zB1_TL hmk hP h2 (hP _ _ _ h1)
theorem zB1_plain {P : zX → Nat → Nat → Prop} (hP : zB1 w P) : zB1 w (zSpPlain cd P) := by
  rintro e i j ⟨r, a, -, -, h, rfl⟩
  have g := hP _ _ _ h
  split
  · intro x hx
    unfold zx_nt at hx
    cases ha : a w with
    | none => rw [ha] at hx; cases hx
    | some y =>
      rw [ha] at hx
      have := g y ha
      simp at hx
      omega
  · exact g
theorem zB1_pos {S T : zX → Nat → Nat → Prop} (hT : zB1 w T) : zB1 w (zSpPos cd S T) := by
  rintro e i j (⟨-, k, h2, -, rfl⟩ | ⟨-, a, b, k, h2, h3, h4, rfl⟩)
  · exact hT _ _ _ h2
  · intro x hx
    unfold zx_op at hx
    cases ha : a w with
    | none => rw [ha] at hx; cases hx
    | some y =>
      rw [ha] at hx
      cases hb : b w with
      | none => rw [hb] at hx; cases hx
      | some z =>
        rw [hb] at hx
        simp only [Option.bind_some] at hx
        unfold zop at hx
        rw [if_neg (by omega), if_neg (by omega), if_neg (by omega), if_neg (by omega), if_neg (by omega)] at hx
        split at hx
        · cases hx; split <;> simp
        · split at hx
          · cases hx; split <;> simp
          · cases hx; split <;> simp
theorem zB1_T : ∀ d, zB1 w (zSpT cd vl o d)
  | 0 => fun _ _ _ h => h.elim
  | d + 1 => zB1_sq (fun _ _ _ => z01_or) (zB1_sq (fun _ _ _ => z01_an) (zB1_plain (zB1_pos (zB1_T d))))
theorem zm_testOf_loop {D : Nat} {P : zX → Nat → Nat → Prop} {lv b : Bool} {post : Option Value → Nat → (Nat → zq_E) → Prop} (hD : 2 ≤ D) (hR : zRun σ B E cd vl o) (hI : zIn E P) (hB : zB1 w P) (HP : zHB l G n B w σ ρ (D - 1) yX12_bothOf P) : ∀ (f : Nat) (a e : zX) (j k : Nat) (r : Bool), zTL cd [5] zx_or P f a j e k → j ≤ E → z01 w a → zsay w lv b a r →
    (∀ r, zsay w lv b e r → post (some (.int (zb r))) n (zm_h (zg σ (B + k) (zbs w lv b e)) ρ)) → zq_At l G (zq_rm D 0 0) mX12_testOf (zq_QF G post 0 0) 6 [(0, .ref 70), (1, .int (zb lv)), (2, .int (zb r))] [] n (zm_h (zg σ (B + j) (zbs w lv b a)) ρ) 0 0 := by
  have hE := hR.2.2.1
  intro f
  induction f with
  | zero => intro a e j k r h; exact h.elim
  | succ f ih =>
    intro a e j k r h hj ha hr hp
    rcases h with ⟨h, rfl, rfl⟩ | ⟨hm, t, m, ht, h⟩
    · have n1 : cd k ≠ 5 := fun c => h (by simp [c])
      have hp := hp r hr
      refine at_aload_n dX12_testOf_6 rfl ?_
      refine at_iconst dX12_testOf_7 (v := nI 5) (by decide) ?_
      refine at_callV1 (d := D - 1) dX12_testOf_8 mv_X12_310 rfl (Nat.le_of_ble_eq_true rfl) (zq_r0 (by omega) (by omega) (by omega)) ?_
      refine zm_passes0 (by omega) hR (by omega) (by decide) ?_
      rw [if_neg n1, decide_eq_false n1]
      refine at_if_eqB (tgt := 49) dX12_testOf_11 (by decide) (fun c11 => ?_) (fun c11 => ?_)
      · refine at_iload_n dX12_testOf_49 rfl ?_
        refine at_zret dX12_testOf_50 rfl (by omega) (by omega) (zb_01 _) ?_
        exact hp
      · cases c11
    · have hin := hI _ _ _ ht
      have hs : cd j = 5 := by simpa using hm
      rw [hs] at h
      have hgo : ∀ r2, zsay w (lv && !r) (zbs w lv b a) t r2 → zq_At l G (zq_rm D 0 0) mX12_testOf (zq_QF G post 0 0) 6 [(0, .ref 70), (1, .int (zb lv)), (2, .int (zb (r || r2)))] [] n (zm_h (zg σ (B + m) (zbs w (lv && !r) (zbs w lv b a) t)) ρ) 0 0 := fun r2 h2 => by
        rw [zor_b hr ha]
        exact ih (zx_or 5 a t) e m k _ h hin.2 (z01_or (hB _ _ _ ht)) (zor_r hr ha h2) hp
      have hend : zq_At l G (zq_rm D 0 0) mX12_testOf (zq_QF G post 0 0) 28 [(0, .ref 70), (1, .int (zb lv)), (2, .int (zb r))] [.int (zb (lv && !r)), .ref 70] n (zm_h (zg σ (B + (j + 1)) (zbs w lv b a)) ρ) 0 0 := by
        refine at_callV1 (d := D - 1) dX12_testOf_28 mv_X12_340 rfl (Nat.le_of_ble_eq_true rfl) (zq_r0 (by omega) (by omega) (by omega)) ?_
        refine HP t (j + 1) m (lv && !r) _ _ ht (fun r2 h2 => ?_)
        have hgo := hgo r2 h2
        refine at_istore_n dX12_testOf_31 rfl (by decide) ?_
        refine at_iload_n dX12_testOf_32 rfl ?_
        refine at_if_neB (tgt := 40) dX12_testOf_33 (by decide) (fun c33 => ?_) (fun c33 => ?_)
        · rw [c33, Bool.true_or] at hgo; rw [c33]
          refine at_iconst dX12_testOf_40 (v := nI 1) (by decide) ?_
          refine at_goto (tgt := 45) dX12_testOf_41 (by decide) ?_
          refine at_istore_n dX12_testOf_45 rfl (by decide) ?_
          refine at_goto (tgt := 6) dX12_testOf_46 (by decide) ?_
          exact at_lv [0, 1, 2] hgo
        · refine at_iload_n dX12_testOf_36 rfl ?_
          refine at_if_eqB (tgt := 44) dX12_testOf_37 (by decide) (fun c37 => ?_) (fun c37 => ?_)
          · rw [c33, c37] at hgo; rw [c33]
            refine at_iconst dX12_testOf_44 (v := nI 0) (by decide) ?_
            refine at_istore_n dX12_testOf_45 rfl (by decide) ?_
            refine at_goto (tgt := 6) dX12_testOf_46 (by decide) ?_
            exact at_lv [0, 1, 2] hgo
          · rw [c37, Bool.or_true] at hgo
            refine at_iconst dX12_testOf_40 (v := nI 1) (by decide) ?_
            refine at_goto (tgt := 45) dX12_testOf_41 (by decide) ?_
            refine at_istore_n dX12_testOf_45 rfl (by decide) ?_
            refine at_goto (tgt := 6) dX12_testOf_46 (by decide) ?_
            exact at_lv [0, 1, 2] hgo
      refine at_aload_n dX12_testOf_6 rfl ?_
      refine at_iconst dX12_testOf_7 (v := nI 5) (by decide) ?_
      refine at_callV1 (d := D - 1) dX12_testOf_8 mv_X12_310 rfl (Nat.le_of_ble_eq_true rfl) (zq_r0 (by omega) (by omega) (by omega)) ?_
      refine zm_passes0 (by omega) hR (by omega) (by decide) ?_
      rw [if_pos hs, decide_eq_true hs]
      refine at_if_eqB (tgt := 49) dX12_testOf_11 (by decide) (fun c11 => ?_) (fun c11 => ?_)
      · cases c11
      · refine at_aload_n dX12_testOf_14 rfl ?_
        refine at_iload_n dX12_testOf_15 rfl ?_
        refine at_if_eqB (tgt := 27) dX12_testOf_16 (by decide) (fun c16 => ?_) (fun c16 => ?_)
        · rw [c16] at hend ⊢
          refine at_iconst dX12_testOf_27 (v := nI 0) (by decide) ?_
          exact hend
        · refine at_iload_n dX12_testOf_19 rfl ?_
          refine at_if_neB (tgt := 27) dX12_testOf_20 (by decide) (fun c20 => ?_) (fun c20 => ?_)
          · rw [show (lv && !r) = false by rw [c20]; simp] at hend
            refine at_iconst dX12_testOf_27 (v := nI 0) (by decide) ?_
            exact hend
          · rw [show (lv && !r) = true by rw [c16, c20]; rfl] at hend
            refine at_iconst dX12_testOf_23 (v := nI 1) (by decide) ?_
            refine at_goto (tgt := 28) dX12_testOf_24 (by decide) ?_
            exact hend
theorem zm_testOf {D : Nat} {P : zX → Nat → Nat → Prop} (hD : 2 ≤ D) (hR : zRun σ B E cd vl o) (hI : zIn E P) (hB : zB1 w P) (HP : zHB l G n B w σ ρ (D - 1) yX12_bothOf P) : zHB l G n B w σ ρ D yX12_testOf (zSqL cd [5] zx_or P) := by
  rintro e i j lv b post ⟨f, a, k, h1, h2⟩ hp
  refine zq_enter (cc := cX12_testOf) (nL := 4) (ret := (some .boolean)) cw_X12_testOf (by decide) rfl (Nat.le_of_ble_eq_true rfl) ?_
  refine at_aload_n dX12_testOf_0 rfl ?_
  refine at_iload_n dX12_testOf_1 rfl ?_
  refine at_callV1 (d := D - 1) dX12_testOf_2 mv_X12_340 rfl (Nat.le_of_ble_eq_true rfl) (zq_r0 (by omega) (by omega) (by omega)) ?_
  refine HP a i k lv b _ h1 (fun r hr => ?_)
  refine at_istore_n dX12_testOf_5 rfl (by decide) ?_
  exact zm_testOf_loop hD hR hI hB HP f a e k j r h2 (hI _ _ _ h1).2 (hB _ _ _ h1) hr hp
theorem zm_bothOf_loop {D : Nat} {P : zX → Nat → Nat → Prop} {lv b : Bool} {post : Option Value → Nat → (Nat → zq_E) → Prop} (hD : 2 ≤ D) (hR : zRun σ B E cd vl o) (hI : zIn E P) (hB : zB1 w P) (HP : zHB l G n B w σ ρ (D - 1) yX12_plainOf P) : ∀ (f : Nat) (a e : zX) (j k : Nat) (r : Bool), zTL cd [6] zx_an P f a j e k → j ≤ E → z01 w a → zsay w lv b a r →
    (∀ r, zsay w lv b e r → post (some (.int (zb r))) n (zm_h (zg σ (B + k) (zbs w lv b e)) ρ)) → zq_At l G (zq_rm D 0 0) mX12_bothOf (zq_QF G post 0 0) 6 [(0, .ref 70), (1, .int (zb lv)), (2, .int (zb r))] [] n (zm_h (zg σ (B + j) (zbs w lv b a)) ρ) 0 0 := by
  have hE := hR.2.2.1
  intro f
  induction f with
  | zero => intro a e j k r h; exact h.elim
  | succ f ih =>
    intro a e j k r h hj ha hr hp
    rcases h with ⟨h, rfl, rfl⟩ | ⟨hm, t, m, ht, h⟩
    · have n1 : cd k ≠ 6 := fun c => h (by simp [c])
      have hp := hp r hr
      refine at_aload_n dX12_bothOf_6 rfl ?_
      refine at_bipush dX12_bothOf_7 (v := nI 6) (by decide) ?_
      refine at_callV1 (d := D - 1) dX12_bothOf_9 mv_X12_310 rfl (Nat.le_of_ble_eq_true rfl) (zq_r0 (by omega) (by omega) (by omega)) ?_
      refine zm_passes0 (by omega) hR (by omega) (by decide) ?_
      rw [if_neg n1, decide_eq_false n1]
      refine at_if_eqB (tgt := 50) dX12_bothOf_12 (by decide) (fun c12 => ?_) (fun c12 => ?_)
      · refine at_iload_n dX12_bothOf_50 rfl ?_
        refine at_zret dX12_bothOf_51 rfl (by omega) (by omega) (zb_01 _) ?_
        exact hp
      · cases c12
    · have hin := hI _ _ _ ht
      have hs : cd j = 6 := by simpa using hm
      rw [hs] at h
      have hgo : ∀ r2, zsay w (lv && r) (zbs w lv b a) t r2 → zq_At l G (zq_rm D 0 0) mX12_bothOf (zq_QF G post 0 0) 6 [(0, .ref 70), (1, .int (zb lv)), (2, .int (zb (r && r2)))] [] n (zm_h (zg σ (B + m) (zbs w (lv && r) (zbs w lv b a) t)) ρ) 0 0 := fun r2 h2 => by
        rw [zan_b hr ha]
        exact ih (zx_an 6 a t) e m k _ h hin.2 (z01_an (hB _ _ _ ht)) (zan_r hr ha h2) hp
      have hend : zq_At l G (zq_rm D 0 0) mX12_bothOf (zq_QF G post 0 0) 29 [(0, .ref 70), (1, .int (zb lv)), (2, .int (zb r))] [.int (zb (lv && r)), .ref 70] n (zm_h (zg σ (B + (j + 1)) (zbs w lv b a)) ρ) 0 0 := by
        refine at_callV1 (d := D - 1) dX12_bothOf_29 mv_X12_343 rfl (Nat.le_of_ble_eq_true rfl) (zq_r0 (by omega) (by omega) (by omega)) ?_
        refine HP t (j + 1) m (lv && r) _ _ ht (fun r2 h2 => ?_)
        have hgo := hgo r2 h2
        refine at_istore_n dX12_bothOf_32 rfl (by decide) ?_
        refine at_iload_n dX12_bothOf_33 rfl ?_
        refine at_if_eqB (tgt := 45) dX12_bothOf_34 (by decide) (fun c34 => ?_) (fun c34 => ?_)
        · rw [c34, Bool.false_and] at hgo; rw [c34]
          refine at_iconst dX12_bothOf_45 (v := nI 0) (by decide) ?_
          refine at_istore_n dX12_bothOf_46 rfl (by decide) ?_
          refine at_goto (tgt := 6) dX12_bothOf_47 (by decide) ?_
          exact at_lv [0, 1, 2] hgo
        · refine at_iload_n dX12_bothOf_37 rfl ?_
          refine at_if_eqB (tgt := 45) dX12_bothOf_38 (by decide) (fun c38 => ?_) (fun c38 => ?_)
          · rw [c38, Bool.and_false] at hgo
            refine at_iconst dX12_bothOf_45 (v := nI 0) (by decide) ?_
            refine at_istore_n dX12_bothOf_46 rfl (by decide) ?_
            refine at_goto (tgt := 6) dX12_bothOf_47 (by decide) ?_
            exact at_lv [0, 1, 2] hgo
          · rw [c34, c38] at hgo; rw [c34]
            refine at_iconst dX12_bothOf_41 (v := nI 1) (by decide) ?_
            refine at_goto (tgt := 46) dX12_bothOf_42 (by decide) ?_
            refine at_istore_n dX12_bothOf_46 rfl (by decide) ?_
            refine at_goto (tgt := 6) dX12_bothOf_47 (by decide) ?_
            exact at_lv [0, 1, 2] hgo
      refine at_aload_n dX12_bothOf_6 rfl ?_
      refine at_bipush dX12_bothOf_7 (v := nI 6) (by decide) ?_
      refine at_callV1 (d := D - 1) dX12_bothOf_9 mv_X12_310 rfl (Nat.le_of_ble_eq_true rfl) (zq_r0 (by omega) (by omega) (by omega)) ?_
      refine zm_passes0 (by omega) hR (by omega) (by decide) ?_
      rw [if_pos hs, decide_eq_true hs]
      refine at_if_eqB (tgt := 50) dX12_bothOf_12 (by decide) (fun c12 => ?_) (fun c12 => ?_)
      · cases c12
      · refine at_aload_n dX12_bothOf_15 rfl ?_
        refine at_iload_n dX12_bothOf_16 rfl ?_
        refine at_if_eqB (tgt := 28) dX12_bothOf_17 (by decide) (fun c17 => ?_) (fun c17 => ?_)
        · rw [c17] at hend ⊢
          refine at_iconst dX12_bothOf_28 (v := nI 0) (by decide) ?_
          exact hend
        · refine at_iload_n dX12_bothOf_20 rfl ?_
          refine at_if_eqB (tgt := 28) dX12_bothOf_21 (by decide) (fun c21 => ?_) (fun c21 => ?_)
          · rw [show (lv && r) = false by rw [c21]; simp] at hend
            refine at_iconst dX12_bothOf_28 (v := nI 0) (by decide) ?_
            exact hend
          · rw [show (lv && r) = true by rw [c17, c21]; rfl] at hend
            refine at_iconst dX12_bothOf_24 (v := nI 1) (by decide) ?_
            refine at_goto (tgt := 29) dX12_bothOf_25 (by decide) ?_
            exact hend
theorem zm_bothOf {D : Nat} {P : zX → Nat → Nat → Prop} (hD : 2 ≤ D) (hR : zRun σ B E cd vl o) (hI : zIn E P) (hB : zB1 w P) (HP : zHB l G n B w σ ρ (D - 1) yX12_plainOf P) : zHB l G n B w σ ρ D yX12_bothOf (zSqL cd [6] zx_an P) := by
  rintro e i j lv b post ⟨f, a, k, h1, h2⟩ hp
  refine zq_enter (cc := cX12_bothOf) (nL := 4) (ret := (some .boolean)) cw_X12_bothOf (by decide) rfl (Nat.le_of_ble_eq_true rfl) ?_
  refine at_aload_n dX12_bothOf_0 rfl ?_
  refine at_iload_n dX12_bothOf_1 rfl ?_
  refine at_callV1 (d := D - 1) dX12_bothOf_2 mv_X12_343 rfl (Nat.le_of_ble_eq_true rfl) (zq_r0 (by omega) (by omega) (by omega)) ?_
  refine HP a i k lv b _ h1 (fun r hr => ?_)
  refine at_istore_n dX12_bothOf_5 rfl (by decide) ?_
  exact zm_bothOf_loop hD hR hI hB HP f a e k j r h2 (hI _ _ _ h1).2 (hB _ _ _ h1) hr hp
end ZL24

