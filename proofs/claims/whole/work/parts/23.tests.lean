/-! ===== the Model: sums, tests, clauses ===== -/
section ZP2
variable (c v pl : Nat → Nat) (fw lw : Nat) (o : Bool)
/-- a plain test; S reads a sum, R what stands in brackets -/
def zpPlain (deepest : Bool) (S R : zQ → zQ) (q0 : zQ) : zQ :=
  if (zpL c [7] id 402 q0).2.2 ≠ 0 then zpL c [7] id 402 q0
  else if c (zpL c [7] id 402 q0).1 = 140 then (if deepest = true then zpf pl (zpL c [7] id 402 q0) else zpmu c pl (R (zpn (zpL c [7] id 402 q0))) 141)
  else S (if zpt c (S (zpL c [7] id 402 q0)) 160 = true then zpn (S (zpL c [7] id 402 q0)) else if zpt c (S (zpL c [7] id 402 q0)) 162 = true then zpn (S (zpL c [7] id 402 q0)) else zpmu c pl (S (zpL c [7] id 402 q0)) 161)
def zpBoth (P : zQ → zQ) (q : zQ) : zQ := zpL c [6] P 402 (P q)
def zpTest (B : zQ → zQ) (q : zQ) : zQ := zpL c [5] B 402 (B q)
def zpT : Nat → zQ → zQ
  | 0 => zpTest c (zpBoth c (zpPlain c pl true (zpS c v pl fw lw o 0) id))
  | d + 1 => zpTest c (zpBoth c (zpPlain c pl false (zpS c v pl fw lw o (d + 1)) (zpT d)))
def zpTR : Nat → zQ → zQ
  | 0 => id
  | d + 1 => zpT c v pl fw lw o d
def zpPl (d : Nat) : zQ → zQ := zpPlain c pl (decide (d = 0)) (zpS c v pl fw lw o d) (zpTR c v pl fw lw o d)
theorem zpT_eq (d : Nat) : zpT c v pl fw lw o d = zpTest c (zpBoth c (zpPl c v pl fw lw o d)) := by cases d <;> rfl
/-- behind a clause's head: "if" and a test -/
def zpIf (q : zQ) : zQ := if zpt c q 4 = true then zpT c v pl fw lw o 8 (zpn q) else q
def zpClause (q : zQ) : zQ := zpIf c v pl fw lw o (if zpt c q 1 = true then zpS c v pl fw lw o 8 (zpn q) else if zpt c q 2 = true then zpS c v pl fw lw o 8 (zpn q) else zpmu c pl q 3)
def zpTimes (q : zQ) : zQ := if zpt c q 27 = true then zpnum c v pl (zpn q) 1 20 else q
def zpOrder (q : zQ) : zQ := zpIf c v pl fw lw o (zpTimes c v pl (if zpt c q 22 = true then zpS c v pl fw lw o 8 (zpmu c pl (zpS c v pl fw lw o 8 (zpmu c pl (zpS c v pl fw lw o 8 (zpn q)) 11)) 23) else if zpt c q 24 = true then zpS c v pl fw lw o 8 (zpn q) else if zpt c q 25 = true then zpS c v pl fw lw o 8 (zpn q) else zpmu c pl q 26))
def zpOne (q : zQ) : zQ := if o = true then zpOrder c v pl fw lw o q else zpClause c v pl fw lw o q
end ZP2
section ZP3
variable {N : Nat} {c v pl : Nat → Nat} {fw lw : Nat} {o : Bool}
theorem zgd_id : zgd N id := fun q h => ⟨h, Nat.le_refl _, fun _ => rfl⟩
theorem zgd_plain (hN : N ≤ 400) (hc : c N = 0) (hpl : ∀ j, j ≤ N → pl j ≤ 400) {dp : Bool} {S R : zQ → zQ} (hS : zgd N S) (hR : zgd N R) : zgd N (zpPlain c pl dp S R) := by
  intro q0 h0
  have g0 := zgd_L (c := c) (ks := [7]) hN hc (by decide) (zgd_id (N := N)) 402 q0 h0
  unfold zpPlain
  generalize zpL c [7] id 402 q0 = q at g0 ⊢
  by_cases hb : q.2.2 ≠ 0
  · rw [if_pos hb]; exact g0
  · rw [if_neg hb]
    have hb' : q.2.2 = 0 := by omega
    have hne : q0.2.2 ≠ 0 → False := fun e => hb (by rw [g0.2.2 e]; exact e)
    have hlt : c q.1 ≠ 0 → q.1 < N := fun hne => by
      rcases Nat.lt_or_ge q.1 N with h1 | h1
      · exact h1
      · exact absurd (by rw [show q.1 = N by have := g0.1.1; omega]; exact hc) hne
    by_cases h1 : c q.1 = 140
    · rw [if_pos h1]
      cases dp with
      | true =>
        rw [if_pos rfl]
        have g1 := zgd_f hpl q g0.1
        exact ⟨g1.1, Nat.le_trans g0.2.1 g1.2.1, fun e => (hne e).elim⟩
      | false =>
        rw [if_neg (by decide)]
        have g1 := hR (zpn q) (zqk_n g0.1 hN (hlt (by omega)) hb')
        have g2 := zgd_mu hN hc hpl (k := 141) (by decide) (R (zpn q)) g1.1
        exact ⟨g2.1, Nat.le_trans g0.2.1 (Nat.le_trans (Nat.le_succ q.1) (Nat.le_trans g1.2.1 g2.2.1)), fun e => (hne e).elim⟩
    · rw [if_neg h1]
      have g1 := hS q g0.1
      generalize S q = q1 at g1 ⊢
      have g2 : zqk N (if zpt c q1 160 = true then zpn q1 else if zpt c q1 162 = true then zpn q1 else zpmu c pl q1 161) ∧ q1.1 ≤ (if zpt c q1 160 = true then zpn q1 else if zpt c q1 162 = true then zpn q1 else zpmu c pl q1 161).1 := by
        by_cases e1 : zpt c q1 160 = true
        · rw [if_pos e1]
          obtain ⟨a1, a2⟩ := zpt_lt hc g1.1.1 (by decide) e1
          exact ⟨zqk_n g1.1 hN a1 a2, Nat.le_succ _⟩
        · rw [if_neg e1]
          by_cases e2 : zpt c q1 162 = true
          · rw [if_pos e2]
            obtain ⟨a1, a2⟩ := zpt_lt hc g1.1.1 (by decide) e2
            exact ⟨zqk_n g1.1 hN a1 a2, Nat.le_succ _⟩
          · rw [if_neg e2]
            have := zgd_mu hN hc hpl (k := 161) (by decide) q1 g1.1
            exact ⟨this.1, this.2.1⟩
      have g3 := hS _ g2.1
      exact ⟨g3.1, Nat.le_trans g0.2.1 (Nat.le_trans g1.2.1 (Nat.le_trans g2.2 g3.2.1)), fun e => (hne e).elim⟩
theorem zgd_both (hN : N ≤ 400) (hc : c N = 0) {P : zQ → zQ} (hP : zgd N P) : zgd N (zpBoth c P) := by
  have := zgd_comp hP (zgd_L (c := c) (ks := [6]) hN hc (by decide) hP 402)
  exact this
theorem zgd_test (hN : N ≤ 400) (hc : c N = 0) {P : zQ → zQ} (hP : zgd N P) : zgd N (zpTest c P) := by
  have := zgd_comp hP (zgd_L (c := c) (ks := [5]) hN hc (by decide) hP 402)
  exact this
theorem zgd_T (hN : N ≤ 400) (hc : c N = 0) (hpl : ∀ j, j ≤ N → pl j ≤ 400) (hfw : 0 < fw) : ∀ d, zgd N (zpT c v pl fw lw o d)
  | 0 => zgd_test hN hc (zgd_both hN hc (zgd_plain hN hc hpl (zgd_S hN hc hpl hfw 0) zgd_id))
  | d + 1 => zgd_test hN hc (zgd_both hN hc (zgd_plain hN hc hpl (zgd_S hN hc hpl hfw (d + 1)) (zgd_T hN hc hpl hfw d)))
theorem zgd_TR (hN : N ≤ 400) (hc : c N = 0) (hpl : ∀ j, j ≤ N → pl j ≤ 400) (hfw : 0 < fw) (d : Nat) : zgd N (zpTR c v pl fw lw o d) := by
  cases d with
  | zero => exact zgd_id
  | succ d => exact zgd_T hN hc hpl hfw d
theorem zgd_Pl (hN : N ≤ 400) (hc : c N = 0) (hpl : ∀ j, j ≤ N → pl j ≤ 400) (hfw : 0 < fw) (d : Nat) : zgd N (zpPl c v pl fw lw o d) := zgd_plain hN hc hpl (zgd_S hN hc hpl hfw d) (zgd_TR hN hc hpl hfw d)
/-- a taken code, then f; else g -/
theorem zgd_ite (hN : N ≤ 400) (hc : c N = 0) {k : Nat} (hk : k ≠ 0) {f g : zQ → zQ} (hf : zgd N f) (hg : zgd N g) : zgd N (fun q => if zpt c q k = true then f (zpn q) else g q) := by
  intro q h
  show zqk N (if zpt c q k = true then f (zpn q) else g q) ∧ q.1 ≤ (if zpt c q k = true then f (zpn q) else g q).1 ∧ (q.2.2 ≠ 0 → (if zpt c q k = true then f (zpn q) else g q) = q)
  by_cases ht : zpt c q k = true
  · rw [if_pos ht]
    obtain ⟨a1, a2⟩ := zpt_lt hc h.1 hk ht
    have g1 := hf (zpn q) (zqk_n h hN a1 a2)
    exact ⟨g1.1, Nat.le_trans (Nat.le_succ q.1) g1.2.1, fun e => absurd a2 e⟩
  · rw [if_neg ht]; exact hg q h
theorem zgd_If (hN : N ≤ 400) (hc : c N = 0) (hpl : ∀ j, j ≤ N → pl j ≤ 400) (hfw : 0 < fw) : zgd N (zpIf c v pl fw lw o) := zgd_ite hN hc (by decide) (zgd_T hN hc hpl hfw 8) zgd_id
theorem zgd_clause (hN : N ≤ 400) (hc : c N = 0) (hpl : ∀ j, j ≤ N → pl j ≤ 400) (hfw : 0 < fw) : zgd N (zpClause c v pl fw lw o) := by
  have hS := zgd_S (v := v) (lw := lw) (o := o) hN hc hpl hfw 8
  have := zgd_comp (zgd_ite hN hc (k := 1) (by decide) hS (zgd_ite hN hc (k := 2) (by decide) hS (zgd_mu hN hc hpl (k := 3) (by decide)))) (zgd_If (v := v) (lw := lw) (o := o) hN hc hpl hfw)
  exact this
theorem zgd_times (hN : N ≤ 400) (hc : c N = 0) (hpl : ∀ j, j ≤ N → pl j ≤ 400) : zgd N (zpTimes c v pl) := zgd_ite hN hc (k := 27) (by decide) (zgd_num hN hc hpl) zgd_id
theorem zgd_order (hN : N ≤ 400) (hc : c N = 0) (hpl : ∀ j, j ≤ N → pl j ≤ 400) (hfw : 0 < fw) : zgd N (zpOrder c v pl fw lw o) := by
  have hS := zgd_S (v := v) (lw := lw) (o := o) hN hc hpl hfw 8
  have h3 := zgd_comp (zgd_comp (zgd_comp (zgd_comp hS (zgd_mu hN hc hpl (k := 11) (by decide))) hS) (zgd_mu hN hc hpl (k := 23) (by decide))) hS
  have := zgd_comp (zgd_comp (zgd_ite hN hc (k := 22) (by decide) h3 (zgd_ite hN hc (k := 24) (by decide) hS (zgd_ite hN hc (k := 25) (by decide) hS (zgd_mu hN hc hpl (k := 26) (by decide))))) (zgd_times (v := v) hN hc hpl)) (zgd_If (v := v) (lw := lw) (o := o) hN hc hpl hfw)
  exact this
theorem zgd_one (hN : N ≤ 400) (hc : c N = 0) (hpl : ∀ j, j ≤ N → pl j ≤ 400) (hfw : 0 < fw) : zgd N (zpOne c v pl fw lw o) := by
  intro q h
  unfold zpOne
  cases o with
  | true => rw [if_pos rfl]; exact zgd_order hN hc hpl hfw q h
  | false => rw [if_neg (by decide)]; exact zgd_clause hN hc hpl hfw q h
end ZP3
theorem dX12_readTest_0 : decode cX12_readTest 0 = .ok (.aload_n 0, 1) := by decide +kernel
theorem dX12_readTest_1 : decode cX12_readTest 1 = .ok (.iload_n 1, 1) := by decide +kernel
theorem dX12_readTest_2 : decode cX12_readTest 2 = .ok (.invokevirtual 239, 3) := by decide +kernel
theorem dX12_readTest_5 : decode cX12_readTest 5 = .ok (.aload_n 0, 1) := by decide +kernel
theorem dX12_readTest_6 : decode cX12_readTest 6 = .ok (.iconst 5, 1) := by decide +kernel
theorem dX12_readTest_7 : decode cX12_readTest 7 = .ok (.invokevirtual 207, 3) := by decide +kernel
theorem dX12_readTest_10 : decode cX12_readTest 10 = .ok (.ifCond .eq 11, 3) := by decide +kernel
theorem dX12_readTest_13 : decode cX12_readTest 13 = .ok (.aload_n 0, 1) := by decide +kernel
theorem dX12_readTest_14 : decode cX12_readTest 14 = .ok (.iload_n 1, 1) := by decide +kernel
theorem dX12_readTest_15 : decode cX12_readTest 15 = .ok (.invokevirtual 239, 3) := by decide +kernel
theorem dX12_readTest_18 : decode cX12_readTest 18 = .ok (.goto (-13), 3) := by decide +kernel
theorem dX12_readTest_21 : decode cX12_readTest 21 = .ok (.return_, 1) := by decide +kernel
abbrev mX12_readTest : zq_M := (cX12_readTest, RX12, "readTest", none, 2)
theorem dX12_readBoth_0 : decode cX12_readBoth 0 = .ok (.aload_n 0, 1) := by decide +kernel
theorem dX12_readBoth_1 : decode cX12_readBoth 1 = .ok (.iload_n 1, 1) := by decide +kernel
theorem dX12_readBoth_2 : decode cX12_readBoth 2 = .ok (.invokevirtual 242, 3) := by decide +kernel
theorem dX12_readBoth_5 : decode cX12_readBoth 5 = .ok (.aload_n 0, 1) := by decide +kernel
theorem dX12_readBoth_6 : decode cX12_readBoth 6 = .ok (.bipush 6, 2) := by decide +kernel
theorem dX12_readBoth_8 : decode cX12_readBoth 8 = .ok (.invokevirtual 207, 3) := by decide +kernel
theorem dX12_readBoth_11 : decode cX12_readBoth 11 = .ok (.ifCond .eq 11, 3) := by decide +kernel
theorem dX12_readBoth_14 : decode cX12_readBoth 14 = .ok (.aload_n 0, 1) := by decide +kernel
theorem dX12_readBoth_15 : decode cX12_readBoth 15 = .ok (.iload_n 1, 1) := by decide +kernel
theorem dX12_readBoth_16 : decode cX12_readBoth 16 = .ok (.invokevirtual 242, 3) := by decide +kernel
theorem dX12_readBoth_19 : decode cX12_readBoth 19 = .ok (.goto (-14), 3) := by decide +kernel
theorem dX12_readBoth_22 : decode cX12_readBoth 22 = .ok (.return_, 1) := by decide +kernel
abbrev mX12_readBoth : zq_M := (cX12_readBoth, RX12, "readBoth", none, 2)
theorem dX12_readPlain_0 : decode cX12_readPlain 0 = .ok (.iconst 1, 1) := by decide +kernel
theorem dX12_readPlain_1 : decode cX12_readPlain 1 = .ok (.istore_n 2, 1) := by decide +kernel
theorem dX12_readPlain_2 : decode cX12_readPlain 2 = .ok (.iload_n 2, 1) := by decide +kernel
theorem dX12_readPlain_3 : decode cX12_readPlain 3 = .ok (.ifCond .eq 13, 3) := by decide +kernel
theorem dX12_readPlain_6 : decode cX12_readPlain 6 = .ok (.aload_n 0, 1) := by decide +kernel
theorem dX12_readPlain_7 : decode cX12_readPlain 7 = .ok (.bipush 7, 2) := by decide +kernel
theorem dX12_readPlain_9 : decode cX12_readPlain 9 = .ok (.invokevirtual 207, 3) := by decide +kernel
theorem dX12_readPlain_12 : decode cX12_readPlain 12 = .ok (.istore_n 2, 1) := by decide +kernel
theorem dX12_readPlain_13 : decode cX12_readPlain 13 = .ok (.goto (-11), 3) := by decide +kernel
theorem dX12_readPlain_16 : decode cX12_readPlain 16 = .ok (.aload_n 0, 1) := by decide +kernel
theorem dX12_readPlain_17 : decode cX12_readPlain 17 = .ok (.invokevirtual 200, 3) := by decide +kernel
theorem dX12_readPlain_20 : decode cX12_readPlain 20 = .ok (.ifCond .ne 4, 3) := by decide +kernel
theorem dX12_readPlain_23 : decode cX12_readPlain 23 = .ok (.return_, 1) := by decide +kernel
theorem dX12_readPlain_24 : decode cX12_readPlain 24 = .ok (.aload_n 0, 1) := by decide +kernel
theorem dX12_readPlain_25 : decode cX12_readPlain 25 = .ok (.getfield 71, 3) := by decide +kernel
theorem dX12_readPlain_28 : decode cX12_readPlain 28 = .ok (.aload_n 0, 1) := by decide +kernel
theorem dX12_readPlain_29 : decode cX12_readPlain 29 = .ok (.getfield 204, 3) := by decide +kernel
theorem dX12_readPlain_32 : decode cX12_readPlain 32 = .ok (.iaload, 1) := by decide +kernel
theorem dX12_readPlain_33 : decode cX12_readPlain 33 = .ok (.istore_n 3, 1) := by decide +kernel
theorem dX12_readPlain_34 : decode cX12_readPlain 34 = .ok (.iload_n 3, 1) := by decide +kernel
theorem dX12_readPlain_35 : decode cX12_readPlain 35 = .ok (.bipush 40, 2) := by decide +kernel
theorem dX12_readPlain_37 : decode cX12_readPlain 37 = .ok (.invokestatic 245, 3) := by decide +kernel
theorem dX12_readPlain_40 : decode cX12_readPlain 40 = .ok (.if_icmp .ne 50, 3) := by decide +kernel
theorem dX12_readPlain_43 : decode cX12_readPlain 43 = .ok (.iload_n 1, 1) := by decide +kernel
theorem dX12_readPlain_44 : decode cX12_readPlain 44 = .ok (.bipush 8, 2) := by decide +kernel
theorem dX12_readPlain_46 : decode cX12_readPlain 46 = .ok (.if_icmp .ne 7, 3) := by decide +kernel
theorem dX12_readPlain_49 : decode cX12_readPlain 49 = .ok (.aload_n 0, 1) := by decide +kernel
theorem dX12_readPlain_50 : decode cX12_readPlain 50 = .ok (.invokevirtual 210, 3) := by decide +kernel
theorem dX12_readPlain_53 : decode cX12_readPlain 53 = .ok (.aload_n 0, 1) := by decide +kernel
theorem dX12_readPlain_54 : decode cX12_readPlain 54 = .ok (.invokevirtual 200, 3) := by decide +kernel
theorem dX12_readPlain_57 : decode cX12_readPlain 57 = .ok (.ifCond .ne 4, 3) := by decide +kernel
theorem dX12_readPlain_60 : decode cX12_readPlain 60 = .ok (.return_, 1) := by decide +kernel
theorem dX12_readPlain_61 : decode cX12_readPlain 61 = .ok (.aload_n 0, 1) := by decide +kernel
theorem dX12_readPlain_62 : decode cX12_readPlain 62 = .ok (.dup, 1) := by decide +kernel
theorem dX12_readPlain_63 : decode cX12_readPlain 63 = .ok (.getfield 204, 3) := by decide +kernel
theorem dX12_readPlain_66 : decode cX12_readPlain 66 = .ok (.iconst 1, 1) := by decide +kernel
theorem dX12_readPlain_67 : decode cX12_readPlain 67 = .ok (.iadd, 1) := by decide +kernel
theorem dX12_readPlain_68 : decode cX12_readPlain 68 = .ok (.putfield 204, 3) := by decide +kernel
theorem dX12_readPlain_71 : decode cX12_readPlain 71 = .ok (.aload_n 0, 1) := by decide +kernel
theorem dX12_readPlain_72 : decode cX12_readPlain 72 = .ok (.iload_n 1, 1) := by decide +kernel
theorem dX12_readPlain_73 : decode cX12_readPlain 73 = .ok (.iconst 1, 1) := by decide +kernel
theorem dX12_readPlain_74 : decode cX12_readPlain 74 = .ok (.iadd, 1) := by decide +kernel
theorem dX12_readPlain_75 : decode cX12_readPlain 75 = .ok (.invokevirtual 222, 3) := by decide +kernel
theorem dX12_readPlain_78 : decode cX12_readPlain 78 = .ok (.aload_n 0, 1) := by decide +kernel
theorem dX12_readPlain_79 : decode cX12_readPlain 79 = .ok (.bipush 41, 2) := by decide +kernel
theorem dX12_readPlain_81 : decode cX12_readPlain 81 = .ok (.invokestatic 245, 3) := by decide +kernel
theorem dX12_readPlain_84 : decode cX12_readPlain 84 = .ok (.invokevirtual 219, 3) := by decide +kernel
theorem dX12_readPlain_87 : decode cX12_readPlain 87 = .ok (.goto 46, 3) := by decide +kernel
theorem dX12_readPlain_90 : decode cX12_readPlain 90 = .ok (.aload_n 0, 1) := by decide +kernel
theorem dX12_readPlain_91 : decode cX12_readPlain 91 = .ok (.iload_n 1, 1) := by decide +kernel
theorem dX12_readPlain_92 : decode cX12_readPlain 92 = .ok (.invokevirtual 216, 3) := by decide +kernel
theorem dX12_readPlain_95 : decode cX12_readPlain 95 = .ok (.aload_n 0, 1) := by decide +kernel
theorem dX12_readPlain_96 : decode cX12_readPlain 96 = .ok (.bipush 60, 2) := by decide +kernel
theorem dX12_readPlain_98 : decode cX12_readPlain 98 = .ok (.invokestatic 245, 3) := by decide +kernel
theorem dX12_readPlain_101 : decode cX12_readPlain 101 = .ok (.invokevirtual 207, 3) := by decide +kernel
theorem dX12_readPlain_104 : decode cX12_readPlain 104 = .ok (.ifCond .ne 24, 3) := by decide +kernel
theorem dX12_readPlain_107 : decode cX12_readPlain 107 = .ok (.aload_n 0, 1) := by decide +kernel
theorem dX12_readPlain_108 : decode cX12_readPlain 108 = .ok (.bipush 62, 2) := by decide +kernel
theorem dX12_readPlain_110 : decode cX12_readPlain 110 = .ok (.invokestatic 245, 3) := by decide +kernel
theorem dX12_readPlain_113 : decode cX12_readPlain 113 = .ok (.invokevirtual 207, 3) := by decide +kernel
theorem dX12_readPlain_116 : decode cX12_readPlain 116 = .ok (.ifCond .ne 12, 3) := by decide +kernel
theorem dX12_readPlain_119 : decode cX12_readPlain 119 = .ok (.aload_n 0, 1) := by decide +kernel
theorem dX12_readPlain_120 : decode cX12_readPlain 120 = .ok (.bipush 61, 2) := by decide +kernel
theorem dX12_readPlain_122 : decode cX12_readPlain 122 = .ok (.invokestatic 245, 3) := by decide +kernel
theorem dX12_readPlain_125 : decode cX12_readPlain 125 = .ok (.invokevirtual 219, 3) := by decide +kernel
theorem dX12_readPlain_128 : decode cX12_readPlain 128 = .ok (.aload_n 0, 1) := by decide +kernel
theorem dX12_readPlain_129 : decode cX12_readPlain 129 = .ok (.iload_n 1, 1) := by decide +kernel
theorem dX12_readPlain_130 : decode cX12_readPlain 130 = .ok (.invokevirtual 216, 3) := by decide +kernel
theorem dX12_readPlain_133 : decode cX12_readPlain 133 = .ok (.return_, 1) := by decide +kernel
abbrev mX12_readPlain : zq_M := (cX12_readPlain, RX12, "readPlain", none, 4)
theorem dX12_readClause_0 : decode cX12_readClause 0 = .ok (.aload_n 0, 1) := by decide +kernel
theorem dX12_readClause_1 : decode cX12_readClause 1 = .ok (.iconst 1, 1) := by decide +kernel
theorem dX12_readClause_2 : decode cX12_readClause 2 = .ok (.invokevirtual 207, 3) := by decide +kernel
theorem dX12_readClause_5 : decode cX12_readClause 5 = .ok (.ifCond .ne 11, 3) := by decide +kernel
theorem dX12_readClause_8 : decode cX12_readClause 8 = .ok (.aload_n 0, 1) := by decide +kernel
theorem dX12_readClause_9 : decode cX12_readClause 9 = .ok (.iconst 2, 1) := by decide +kernel
theorem dX12_readClause_10 : decode cX12_readClause 10 = .ok (.invokevirtual 207, 3) := by decide +kernel
theorem dX12_readClause_13 : decode cX12_readClause 13 = .ok (.ifCond .eq 11, 3) := by decide +kernel
theorem dX12_readClause_16 : decode cX12_readClause 16 = .ok (.aload_n 0, 1) := by decide +kernel
theorem dX12_readClause_17 : decode cX12_readClause 17 = .ok (.iconst 0, 1) := by decide +kernel
theorem dX12_readClause_18 : decode cX12_readClause 18 = .ok (.invokevirtual 216, 3) := by decide +kernel
theorem dX12_readClause_21 : decode cX12_readClause 21 = .ok (.goto 8, 3) := by decide +kernel
theorem dX12_readClause_24 : decode cX12_readClause 24 = .ok (.aload_n 0, 1) := by decide +kernel
theorem dX12_readClause_25 : decode cX12_readClause 25 = .ok (.iconst 3, 1) := by decide +kernel
theorem dX12_readClause_26 : decode cX12_readClause 26 = .ok (.invokevirtual 219, 3) := by decide +kernel
theorem dX12_readClause_29 : decode cX12_readClause 29 = .ok (.aload_n 0, 1) := by decide +kernel
theorem dX12_readClause_30 : decode cX12_readClause 30 = .ok (.iconst 4, 1) := by decide +kernel
theorem dX12_readClause_31 : decode cX12_readClause 31 = .ok (.invokevirtual 207, 3) := by decide +kernel
theorem dX12_readClause_34 : decode cX12_readClause 34 = .ok (.ifCond .eq 8, 3) := by decide +kernel
theorem dX12_readClause_37 : decode cX12_readClause 37 = .ok (.aload_n 0, 1) := by decide +kernel
theorem dX12_readClause_38 : decode cX12_readClause 38 = .ok (.iconst 0, 1) := by decide +kernel
theorem dX12_readClause_39 : decode cX12_readClause 39 = .ok (.invokevirtual 222, 3) := by decide +kernel
theorem dX12_readClause_42 : decode cX12_readClause 42 = .ok (.return_, 1) := by decide +kernel
abbrev mX12_readClause : zq_M := (cX12_readClause, RX12, "readClause", none, 1)
theorem dX12_readOrder_0 : decode cX12_readOrder 0 = .ok (.aload_n 0, 1) := by decide +kernel
theorem dX12_readOrder_1 : decode cX12_readOrder 1 = .ok (.bipush 22, 2) := by decide +kernel
theorem dX12_readOrder_3 : decode cX12_readOrder 3 = .ok (.invokevirtual 207, 3) := by decide +kernel
theorem dX12_readOrder_6 : decode cX12_readOrder 6 = .ok (.ifCond .eq 33, 3) := by decide +kernel
theorem dX12_readOrder_9 : decode cX12_readOrder 9 = .ok (.aload_n 0, 1) := by decide +kernel
theorem dX12_readOrder_10 : decode cX12_readOrder 10 = .ok (.iconst 0, 1) := by decide +kernel
theorem dX12_readOrder_11 : decode cX12_readOrder 11 = .ok (.invokevirtual 216, 3) := by decide +kernel
theorem dX12_readOrder_14 : decode cX12_readOrder 14 = .ok (.aload_n 0, 1) := by decide +kernel
theorem dX12_readOrder_15 : decode cX12_readOrder 15 = .ok (.bipush 11, 2) := by decide +kernel
theorem dX12_readOrder_17 : decode cX12_readOrder 17 = .ok (.invokevirtual 219, 3) := by decide +kernel
theorem dX12_readOrder_20 : decode cX12_readOrder 20 = .ok (.aload_n 0, 1) := by decide +kernel
theorem dX12_readOrder_21 : decode cX12_readOrder 21 = .ok (.iconst 0, 1) := by decide +kernel
theorem dX12_readOrder_22 : decode cX12_readOrder 22 = .ok (.invokevirtual 216, 3) := by decide +kernel
theorem dX12_readOrder_25 : decode cX12_readOrder 25 = .ok (.aload_n 0, 1) := by decide +kernel
theorem dX12_readOrder_26 : decode cX12_readOrder 26 = .ok (.bipush 23, 2) := by decide +kernel
theorem dX12_readOrder_28 : decode cX12_readOrder 28 = .ok (.invokevirtual 219, 3) := by decide +kernel
theorem dX12_readOrder_31 : decode cX12_readOrder 31 = .ok (.aload_n 0, 1) := by decide +kernel
theorem dX12_readOrder_32 : decode cX12_readOrder 32 = .ok (.iconst 0, 1) := by decide +kernel
theorem dX12_readOrder_33 : decode cX12_readOrder 33 = .ok (.invokevirtual 216, 3) := by decide +kernel
theorem dX12_readOrder_36 : decode cX12_readOrder 36 = .ok (.goto 35, 3) := by decide +kernel
theorem dX12_readOrder_39 : decode cX12_readOrder 39 = .ok (.aload_n 0, 1) := by decide +kernel
theorem dX12_readOrder_40 : decode cX12_readOrder 40 = .ok (.bipush 24, 2) := by decide +kernel
theorem dX12_readOrder_42 : decode cX12_readOrder 42 = .ok (.invokevirtual 207, 3) := by decide +kernel
theorem dX12_readOrder_45 : decode cX12_readOrder 45 = .ok (.ifCond .ne 12, 3) := by decide +kernel
theorem dX12_readOrder_48 : decode cX12_readOrder 48 = .ok (.aload_n 0, 1) := by decide +kernel
theorem dX12_readOrder_49 : decode cX12_readOrder 49 = .ok (.bipush 25, 2) := by decide +kernel
theorem dX12_readOrder_51 : decode cX12_readOrder 51 = .ok (.invokevirtual 207, 3) := by decide +kernel
theorem dX12_readOrder_54 : decode cX12_readOrder 54 = .ok (.ifCond .eq 11, 3) := by decide +kernel
theorem dX12_readOrder_57 : decode cX12_readOrder 57 = .ok (.aload_n 0, 1) := by decide +kernel
theorem dX12_readOrder_58 : decode cX12_readOrder 58 = .ok (.iconst 0, 1) := by decide +kernel
theorem dX12_readOrder_59 : decode cX12_readOrder 59 = .ok (.invokevirtual 216, 3) := by decide +kernel
theorem dX12_readOrder_62 : decode cX12_readOrder 62 = .ok (.goto 9, 3) := by decide +kernel
theorem dX12_readOrder_65 : decode cX12_readOrder 65 = .ok (.aload_n 0, 1) := by decide +kernel
theorem dX12_readOrder_66 : decode cX12_readOrder 66 = .ok (.bipush 26, 2) := by decide +kernel
theorem dX12_readOrder_68 : decode cX12_readOrder 68 = .ok (.invokevirtual 219, 3) := by decide +kernel
theorem dX12_readOrder_71 : decode cX12_readOrder 71 = .ok (.aload_n 0, 1) := by decide +kernel
theorem dX12_readOrder_72 : decode cX12_readOrder 72 = .ok (.bipush 27, 2) := by decide +kernel
theorem dX12_readOrder_74 : decode cX12_readOrder 74 = .ok (.invokevirtual 207, 3) := by decide +kernel
theorem dX12_readOrder_77 : decode cX12_readOrder 77 = .ok (.ifCond .eq 10, 3) := by decide +kernel
theorem dX12_readOrder_80 : decode cX12_readOrder 80 = .ok (.aload_n 0, 1) := by decide +kernel
theorem dX12_readOrder_81 : decode cX12_readOrder 81 = .ok (.iconst 1, 1) := by decide +kernel
theorem dX12_readOrder_82 : decode cX12_readOrder 82 = .ok (.bipush 20, 2) := by decide +kernel
theorem dX12_readOrder_84 : decode cX12_readOrder 84 = .ok (.invokevirtual 225, 3) := by decide +kernel
theorem dX12_readOrder_87 : decode cX12_readOrder 87 = .ok (.aload_n 0, 1) := by decide +kernel
theorem dX12_readOrder_88 : decode cX12_readOrder 88 = .ok (.iconst 4, 1) := by decide +kernel
theorem dX12_readOrder_89 : decode cX12_readOrder 89 = .ok (.invokevirtual 207, 3) := by decide +kernel
theorem dX12_readOrder_92 : decode cX12_readOrder 92 = .ok (.ifCond .eq 8, 3) := by decide +kernel
theorem dX12_readOrder_95 : decode cX12_readOrder 95 = .ok (.aload_n 0, 1) := by decide +kernel
theorem dX12_readOrder_96 : decode cX12_readOrder 96 = .ok (.iconst 0, 1) := by decide +kernel
theorem dX12_readOrder_97 : decode cX12_readOrder 97 = .ok (.invokevirtual 222, 3) := by decide +kernel
theorem dX12_readOrder_100 : decode cX12_readOrder 100 = .ok (.return_, 1) := by decide +kernel
abbrev mX12_readOrder : zq_M := (cX12_readOrder, RX12, "readOrder", none, 1)
theorem dX12_readOne_0 : decode cX12_readOne 0 = .ok (.aload_n 0, 1) := by decide +kernel
theorem dX12_readOne_1 : decode cX12_readOne 1 = .ok (.getfield 229, 3) := by decide +kernel
theorem dX12_readOne_4 : decode cX12_readOne 4 = .ok (.ifCond .eq 10, 3) := by decide +kernel
theorem dX12_readOne_7 : decode cX12_readOne 7 = .ok (.aload_n 0, 1) := by decide +kernel
theorem dX12_readOne_8 : decode cX12_readOne 8 = .ok (.invokevirtual 233, 3) := by decide +kernel
theorem dX12_readOne_11 : decode cX12_readOne 11 = .ok (.goto 7, 3) := by decide +kernel
theorem dX12_readOne_14 : decode cX12_readOne 14 = .ok (.aload_n 0, 1) := by decide +kernel
theorem dX12_readOne_15 : decode cX12_readOne 15 = .ok (.invokevirtual 236, 3) := by decide +kernel
theorem dX12_readOne_18 : decode cX12_readOne 18 = .ok (.return_, 1) := by decide +kernel
abbrev mX12_readOne : zq_M := (cX12_readOne, RX12, "readOne", none, 1)
section ZL14
variable {l : Launch} {G : zq_G} {n N fw lw : Nat} {o : Bool} {σ : zm_S} {ρ : Nat → zq_E} {c v pl : Nat → Nat}
theorem zm_readSum_loop {D d : Nat} {post : Option Value → Nat → (Nat → zq_E) → Prop} {P : zQ → zQ} (hD : 2 ≤ D) (hT : zTk σ N c v pl) (hP : zgd N P)
    (HP : ∀ (q' : zQ) (post' : Option Value → Nat → (Nat → zq_E) → Prop), zqk N q' → post' none n (zm_h (zrd σ (P q')) ρ) → zq_Runs l G (D - 1) 0 0 yX12_readTerm [.ref 70, .int (nI d)] n (zm_h (zrd σ q') ρ) post') : ∀ (f : Nat) (q : zQ), zqk N q → N - q.1 < f → post none n (zm_h (zrd σ (zpL c [143, 145] P f q)) ρ) → zq_At l G (zq_rm D 0 0) mX12_readSum (zq_QF G post 0 0) 5 [(0, .ref 70), (1, .int (nI d))] [] n (zm_h (zrd σ q) ρ) 0 0 := by
  have hN := hT.1
  intro f
  induction f with
  | zero => intro q hq hf; omega
  | succ f ih =>
    intro q hq hf hp
    unfold zpL at hp
    have go : ∀ k, k ≠ 0 → zpt c q k = true → [143, 145].any (fun k => zpt c q k) = true → (zqk N (zpn q) ∧ zq_At l G (zq_rm D 0 0) mX12_readSum (zq_QF G post 0 0) 5 [(0, .ref 70), (1, .int (nI d))] [] n (zm_h (zrd σ (P (zpn q))) ρ) 0 0) := fun k hk hz ha => by
      obtain ⟨g1, g2⟩ := zpt_lt hT.2.1 hq.1 hk hz
      have hqn := zqk_n hq hN g1 g2
      have gP := hP (zpn q) hqn
      rw [if_pos ha] at hp
      exact ⟨hqn, ih _ gP.1 (by have h3 := gP.2.1; have : (zpn q).1 = q.1 + 1 := rfl; omega) hp⟩
    refine at_aload_n dX12_readSum_5 rfl ?_
    refine at_bipush dX12_readSum_6 (v := nI 43) (by decide) ?_
    refine at_callS1 (d := D - 1) dX12_readSum_8 ms_X12_245 (Nat.le_of_ble_eq_true rfl) (zq_r0 (by omega) (by omega) (by omega)) ?_
    refine zm_sign ?_
    refine at_callV1 (d := D - 1) dX12_readSum_11 mv_X12_207 rfl (Nat.le_of_ble_eq_true rfl) (zq_r0 (by omega) (by omega) (by omega)) ?_
    refine zm_takes0 (by omega) (by decide) hT hq.1 hq.2.1 ?_
    refine at_if_neB (tgt := 29) dX12_readSum_14 (by decide) (fun c14 => ?_) (fun c14 => ?_)
    · rw [if_pos c14]
      obtain ⟨hqn, hgo⟩ := go 143 (by decide) c14 (by simp [c14])
      refine at_aload_n dX12_readSum_29 rfl ?_
      refine at_iload_n dX12_readSum_30 rfl ?_
      refine at_callV1 (d := D - 1) dX12_readSum_31 mv_X12_249 rfl (Nat.le_of_ble_eq_true rfl) (zq_r0 (by omega) (by omega) (by omega)) ?_
      refine HP (zpn q) _ hqn ?_
      refine at_goto (tgt := 5) dX12_readSum_34 (by decide) ?_
      exact hgo
    · rw [if_neg (by rw [c14]; decide)]
      refine at_aload_n dX12_readSum_17 rfl ?_
      refine at_bipush dX12_readSum_18 (v := nI 45) (by decide) ?_
      refine at_callS1 (d := D - 1) dX12_readSum_20 ms_X12_245 (Nat.le_of_ble_eq_true rfl) (zq_r0 (by omega) (by omega) (by omega)) ?_
      refine zm_sign ?_
      refine at_callV1 (d := D - 1) dX12_readSum_23 mv_X12_207 rfl (Nat.le_of_ble_eq_true rfl) (zq_r0 (by omega) (by omega) (by omega)) ?_
      refine zm_takes0 (by omega) (by decide) hT hq.1 hq.2.1 ?_
      refine at_if_eqB (tgt := 37) dX12_readSum_26 (by decide) (fun c26 => ?_) (fun c26 => ?_)
      · rw [if_neg (by rw [c26]; decide)]
        rw [if_neg (by simp only [List.any_cons, List.any_nil, c14, c26]; decide)] at hp
        refine at_vret dX12_readSum_37 rfl (by omega) (by omega) ?_
        exact hp
      · rw [if_pos c26]
        obtain ⟨hqn, hgo⟩ := go 145 (by decide) c26 (by simp [c26])
        refine at_aload_n dX12_readSum_29 rfl ?_
        refine at_iload_n dX12_readSum_30 rfl ?_
        refine at_callV1 (d := D - 1) dX12_readSum_31 mv_X12_249 rfl (Nat.le_of_ble_eq_true rfl) (zq_r0 (by omega) (by omega) (by omega)) ?_
        refine HP (zpn q) _ hqn ?_
        refine at_goto (tgt := 5) dX12_readSum_34 (by decide) ?_
        exact hgo
/-- a sum, by how deep it stands -/
theorem zm_readSum (hT : zTk σ N c v pl) (hW : zWd σ fw lw o) : ∀ (d D : Nat) (q : zQ) (post : Option Value → Nat → (Nat → zq_E) → Prop), d ≤ 8 → 3 * d + 6 ≤ D → zqk N q → post none n (zm_h (zrd σ (zpS c v pl fw lw o d q)) ρ) → zq_Runs l G D 0 0 yX12_readSum [.ref 70, .int (nI (8 - d))] n (zm_h (zrd σ q) ρ) post := by
  have hN := hT.1
  have hpl := zTk_pl hT
  intro d
  induction d with
  | zero =>
    intro D q post hd hD hq hp
    have gP := zgd_P (o := o) (lw := lw) (v := v) hN hT.2.1 hpl hW.2.2.2.1 0
    have HP : ∀ (q' : zQ) (post' : Option Value → Nat → (Nat → zq_E) → Prop), zqk N q' → post' none n (zm_h (zrd σ (zpTerm c (zpP c v pl fw lw o 0) q')) ρ) → zq_Runs l G (D - 1) 0 0 yX12_readTerm [.ref 70, .int (nI (8 - 0))] n (zm_h (zrd σ q') ρ) post' := fun q' post' hq' hp' => zm_readTerm (by omega) hT gP hq' (fun q2 post2 hq2 hp2 => zm_readPart (by omega) (by omega) hT hW hq2 (fun h => absurd rfl h) hp2) hp'
    rw [zpS_eq] at hp
    refine zq_enter (cc := cX12_readSum) (nL := 2) (ret := none) cw_X12_readSum (by decide) rfl (Nat.le_of_ble_eq_true rfl) ?_
    refine at_aload_n dX12_readSum_0 rfl ?_
    refine at_iload_n dX12_readSum_1 rfl ?_
    refine at_callV1 (d := D - 1) dX12_readSum_2 mv_X12_249 rfl (Nat.le_of_ble_eq_true rfl) (zq_r0 (by omega) (by omega) (by omega)) ?_
    refine HP q _ hq ?_
    exact zm_readSum_loop (by omega) hT (zgd_term hN hT.2.1 gP) HP 402 _ (zgd_term hN hT.2.1 gP q hq).1 (by omega) hp
  | succ d ih =>
    intro D q post hd hD hq hp
    have gP := zgd_P (o := o) (lw := lw) (v := v) hN hT.2.1 hpl hW.2.2.2.1 (d + 1)
    have HP : ∀ (q' : zQ) (post' : Option Value → Nat → (Nat → zq_E) → Prop), zqk N q' → post' none n (zm_h (zrd σ (zpTerm c (zpP c v pl fw lw o (d + 1)) q')) ρ) → zq_Runs l G (D - 1) 0 0 yX12_readTerm [.ref 70, .int (nI (8 - (d + 1)))] n (zm_h (zrd σ q') ρ) post' := fun q' post' hq' hp' => zm_readTerm (by omega) hT gP hq' (fun q2 post2 hq2 hp2 => zm_readPart (by omega) (by omega) hT hW hq2 (fun _ q3 post3 hq3 hp3 => by
      rw [show 8 - (d + 1) + 1 = 8 - d by omega]
      exact ih (D - 1 - 1 - 1) q3 post3 (by omega) (by omega) hq3 hp3) hp2) hp'
    rw [zpS_eq] at hp
    refine zq_enter (cc := cX12_readSum) (nL := 2) (ret := none) cw_X12_readSum (by decide) rfl (Nat.le_of_ble_eq_true rfl) ?_
    refine at_aload_n dX12_readSum_0 rfl ?_
    refine at_iload_n dX12_readSum_1 rfl ?_
    refine at_callV1 (d := D - 1) dX12_readSum_2 mv_X12_249 rfl (Nat.le_of_ble_eq_true rfl) (zq_r0 (by omega) (by omega) (by omega)) ?_
    refine HP q _ hq ?_
    exact zm_readSum_loop (by omega) hT (zgd_term hN hT.2.1 gP) HP 402 _ (zgd_term hN hT.2.1 gP q hq).1 (by omega) hp
theorem zm_rp_not {D d : Nat} {post : Option Value → Nat → (Nat → zq_E) → Prop} (hD : 2 ≤ D) (hT : zTk σ N c v pl) (Q : zQ) (hk : zq_At l G (zq_rm D 0 0) mX12_readPlain (zq_QF G post 0 0) 16 [(0, .ref 70), (1, .int (nI d)), (2, .int (zb false))] [] n (zm_h (zrd σ Q) ρ) 0 0) : ∀ (f : Nat) (q : zQ), zqk N q → N - q.1 < f → zpL c [7] id f q = Q → zq_At l G (zq_rm D 0 0) mX12_readPlain (zq_QF G post 0 0) 2 [(0, .ref 70), (1, .int (nI d)), (2, .int (zb true))] [] n (zm_h (zrd σ q) ρ) 0 0 := by
  have hN := hT.1
  have hout : ∀ q, q = Q → zq_At l G (zq_rm D 0 0) mX12_readPlain (zq_QF G post 0 0) 2 [(0, .ref 70), (1, .int (nI d)), (2, .int (zb false))] [] n (zm_h (zrd σ q) ρ) 0 0 := by
    intro q hq
    subst hq
    refine at_iload_n dX12_readPlain_2 rfl ?_
    refine at_if_eqB (tgt := 16) dX12_readPlain_3 (by decide) (fun c3 => ?_) (fun c3 => ?_)
    · exact hk
    · cases c3
  intro f
  induction f with
  | zero => intro q hq hf; omega
  | succ f ih =>
    intro q hq hf hQ
    unfold zpL at hQ
    refine at_iload_n dX12_readPlain_2 rfl ?_
    refine at_if_eqB (tgt := 16) dX12_readPlain_3 (by decide) (fun c3 => ?_) (fun c3 => ?_)
    · cases c3
    · refine at_aload_n dX12_readPlain_6 rfl ?_
      refine at_bipush dX12_readPlain_7 (v := nI 7) (by decide) ?_
      refine at_callV1 (d := D - 1) dX12_readPlain_9 mv_X12_207 rfl (Nat.le_of_ble_eq_true rfl) (zq_r0 (by omega) (by omega) (by omega)) ?_
      refine zm_takes0 (by omega) (by decide) hT hq.1 hq.2.1 ?_
      refine at_istore_n dX12_readPlain_12 rfl (by decide) ?_
      refine at_goto (tgt := 2) dX12_readPlain_13 (by decide) ?_
      by_cases hz : zpt c q 7 = true
      · obtain ⟨g1, g2⟩ := zpt_lt hT.2.1 hq.1 (by decide) hz
        rw [if_pos (by simp [hz])] at hQ
        rw [hz, if_pos rfl]
        exact ih (zpn q) (zqk_n hq hN g1 g2) (by have : (zpn q).1 = q.1 + 1 := rfl; omega) hQ
      · have hz' : zpt c q 7 = false := by simpa using hz
        rw [if_neg (by simp [hz'])] at hQ
        rw [hz', if_neg (by decide)]
        exact hout q hQ
theorem zm_readPlain {D d : Nat} {q0 : zQ} {post : Option Value → Nat → (Nat → zq_E) → Prop} (hD : 3 * d + 7 ≤ D) (hd : d ≤ 8) (hT : zTk σ N c v pl) (hW : zWd σ fw lw o) (hq0 : zqk N q0)
    (HR : d ≠ 0 → ∀ (q' : zQ) (post' : Option Value → Nat → (Nat → zq_E) → Prop), zqk N q' → post' none n (zm_h (zrd σ (zpTR c v pl fw lw o d q')) ρ) → zq_Runs l G (D - 1) 0 0 yX12_readTest [.ref 70, .int (nI (8 - d + 1))] n (zm_h (zrd σ q') ρ) post')
    (hp : post none n (zm_h (zrd σ (zpPl c v pl fw lw o d q0)) ρ)) : zq_Runs l G D 0 0 yX12_readPlain [.ref 70, .int (nI (8 - d))] n (zm_h (zrd σ q0) ρ) post := by
  have hN := hT.1
  have hpl := zTk_pl hT
  have hfw := hW.2.2.2.1
  have gq := (zgd_L (c := c) (ks := [7]) hN hT.2.1 (by decide) (zgd_id (N := N)) 402 q0 hq0).1
  have hnot := zm_rp_not (l := l) (G := G) (D := D) (d := 8 - d) (n := n) (ρ := ρ) (post := post) (by omega) hT (zpL c [7] id 402 q0)
  unfold zpPl zpPlain at hp
  generalize hQ : zpL c [7] id 402 q0 = q at hp gq hnot
  have hq := gq
  have hqN := hq.1
  obtain ⟨h1, h2, -, h3, h4, -⟩ := hT.2.2 q.1 hq.1
  obtain ⟨f1, f2, f3⟩ := zpf_b hT hq.1 hq.2.1
  have hS := fun q' (hq' : zqk N q') => zgd_S (v := v) (lw := lw) (o := o) hN hT.2.1 hpl hfw d q' hq'
  refine zq_enter (cc := cX12_readPlain) (nL := 4) (ret := none) cw_X12_readPlain (by decide) rfl (Nat.le_of_ble_eq_true rfl) ?_
  refine at_iconst dX12_readPlain_0 (v := nI 1) (by decide) ?_
  refine at_istore_n dX12_readPlain_1 rfl (by decide) ?_
  refine hnot ?_ 402 q0 hq0 (by omega) hQ
  refine at_aload_n dX12_readPlain_16 rfl ?_
  refine at_callV0 (d := D - 1) dX12_readPlain_17 mv_X12_200 rfl (Nat.le_of_ble_eq_true rfl) (zq_r0 (by omega) (by omega) (by omega)) ?_
  refine zm_fine hq.2.1 ?_
  refine at_if_neB (tgt := 24) dX12_readPlain_20 (by decide) (fun c20 => ?_) (fun c20 => ?_)
  · have h0 := of_decide_eq_true c20
    rw [if_neg (fun h => h h0)] at hp
    have hlt : c q.1 ≠ 0 → q.1 < N := fun hne => by
      rcases Nat.lt_or_ge q.1 N with h | h
      · exact h
      · exact absurd (by rw [show q.1 = N by omega]; exact hT.2.1) hne
    refine at_aload_n dX12_readPlain_24 rfl ?_
    refine at_get dX12_readPlain_25 fl_X12_71 rfl rfl ?_
    refine at_aload_n dX12_readPlain_28 rfl ?_
    refine at_get dX12_readPlain_29 fl_X12_204 rfl rfl ?_
    rw [zrd_20]
    refine at_mald (a := 80) dX12_readPlain_32 (by decide) (by decide) (by decide) (by decide) rfl rfl (by show _ < 401; omega) (by decide) ?_
    rw [zrd_2, h1]
    refine at_istore_n dX12_readPlain_33 rfl (by decide) ?_
    refine at_iload_n dX12_readPlain_34 rfl ?_
    refine at_bipush dX12_readPlain_35 (v := nI 40) (by decide) ?_
    refine at_callS1 (d := D - 1) dX12_readPlain_37 ms_X12_245 (Nat.le_of_ble_eq_true rfl) (zq_r0 (by omega) (by omega) (by omega)) ?_
    refine zm_sign ?_
    refine at_neN (tgt := 90) dX12_readPlain_40 (by decide) (by omega) (by omega) (fun c40 => ?_) (fun c40 => ?_)
    · rw [if_neg c40] at hp
      refine at_aload_n dX12_readPlain_90 rfl ?_
      refine at_iload_n dX12_readPlain_91 rfl ?_
      refine at_callV1 (d := D - 1) dX12_readPlain_92 mv_X12_216 rfl (Nat.le_of_ble_eq_true rfl) (zq_r0 (by omega) (by omega) (by omega)) ?_
      refine zm_readSum hT hW d (D - 1) q _ hd (by omega) hq ?_
      refine at_aload_n dX12_readPlain_95 rfl ?_
      refine at_bipush dX12_readPlain_96 (v := nI 60) (by decide) ?_
      refine at_callS1 (d := D - 1) dX12_readPlain_98 ms_X12_245 (Nat.le_of_ble_eq_true rfl) (zq_r0 (by omega) (by omega) (by omega)) ?_
      refine zm_sign ?_
      refine at_callV1 (d := D - 1) dX12_readPlain_101 mv_X12_207 rfl (Nat.le_of_ble_eq_true rfl) (zq_r0 (by omega) (by omega) (by omega)) ?_
      refine zm_takes0 (by omega) (by decide) hT (hS q hq).1.1 (hS q hq).1.2.1 ?_
      refine at_if_neB (tgt := 128) dX12_readPlain_104 (by decide) (fun c104 => ?_) (fun c104 => ?_)
      · rw [if_pos c104] at hp ⊢
        have hqq : zqk N (zpn (zpS c v pl fw lw o d q)) := by
          obtain ⟨a1, a2⟩ := zpt_lt hT.2.1 (hS q hq).1.1 (by decide) c104
          exact zqk_n (hS q hq).1 hN a1 a2
        refine at_aload_n dX12_readPlain_128 rfl ?_
        refine at_iload_n dX12_readPlain_129 rfl ?_
        refine at_callV1 (d := D - 1) dX12_readPlain_130 mv_X12_216 rfl (Nat.le_of_ble_eq_true rfl) (zq_r0 (by omega) (by omega) (by omega)) ?_
        refine zm_readSum hT hW d (D - 1) _ _ hd (by omega) hqq ?_
        refine at_vret dX12_readPlain_133 rfl (by omega) (by omega) ?_
        exact hp
      · rw [if_neg (by rw [c104]; decide)] at hp ⊢
        refine at_aload_n dX12_readPlain_107 rfl ?_
        refine at_bipush dX12_readPlain_108 (v := nI 62) (by decide) ?_
        refine at_callS1 (d := D - 1) dX12_readPlain_110 ms_X12_245 (Nat.le_of_ble_eq_true rfl) (zq_r0 (by omega) (by omega) (by omega)) ?_
        refine zm_sign ?_
        refine at_callV1 (d := D - 1) dX12_readPlain_113 mv_X12_207 rfl (Nat.le_of_ble_eq_true rfl) (zq_r0 (by omega) (by omega) (by omega)) ?_
        refine zm_takes0 (by omega) (by decide) hT (hS q hq).1.1 (hS q hq).1.2.1 ?_
        refine at_if_neB (tgt := 128) dX12_readPlain_116 (by decide) (fun c116 => ?_) (fun c116 => ?_)
        · rw [if_pos c116] at hp ⊢
          have hqq : zqk N (zpn (zpS c v pl fw lw o d q)) := by
            obtain ⟨a1, a2⟩ := zpt_lt hT.2.1 (hS q hq).1.1 (by decide) c116
            exact zqk_n (hS q hq).1 hN a1 a2
          refine at_aload_n dX12_readPlain_128 rfl ?_
          refine at_iload_n dX12_readPlain_129 rfl ?_
          refine at_callV1 (d := D - 1) dX12_readPlain_130 mv_X12_216 rfl (Nat.le_of_ble_eq_true rfl) (zq_r0 (by omega) (by omega) (by omega)) ?_
          refine zm_readSum hT hW d (D - 1) _ _ hd (by omega) hqq ?_
          refine at_vret dX12_readPlain_133 rfl (by omega) (by omega) ?_
          exact hp
        · rw [if_neg (by rw [c116]; decide)] at hp ⊢
          have hqq := (zgd_mu hN hT.2.1 hpl (k := 161) (by decide) (zpS c v pl fw lw o d q) (hS q hq).1).1
          refine at_aload_n dX12_readPlain_119 rfl ?_
          refine at_bipush dX12_readPlain_120 (v := nI 61) (by decide) ?_
          refine at_callS1 (d := D - 1) dX12_readPlain_122 ms_X12_245 (Nat.le_of_ble_eq_true rfl) (zq_r0 (by omega) (by omega) (by omega)) ?_
          refine zm_sign ?_
          refine at_callV1 (d := D - 1) dX12_readPlain_125 mv_X12_219 rfl (Nat.le_of_ble_eq_true rfl) (zq_r0 (by omega) (by omega) (by omega)) ?_
          refine zm_must (by omega) (by decide) hT (hS q hq).1.1 (hS q hq).1.2.1 ?_
          refine at_aload_n dX12_readPlain_128 rfl ?_
          refine at_iload_n dX12_readPlain_129 rfl ?_
          refine at_callV1 (d := D - 1) dX12_readPlain_130 mv_X12_216 rfl (Nat.le_of_ble_eq_true rfl) (zq_r0 (by omega) (by omega) (by omega)) ?_
          refine zm_readSum hT hW d (D - 1) _ _ hd (by omega) hqq ?_
          refine at_vret dX12_readPlain_133 rfl (by omega) (by omega) ?_
          exact hp
    · rw [if_pos c40] at hp
      refine at_iload_n dX12_readPlain_43 rfl ?_
      refine at_bipush dX12_readPlain_44 (v := nI 8) (by decide) ?_
      refine at_neN (tgt := 53) dX12_readPlain_46 (by decide) (by omega) (by omega) (fun c46 => ?_) (fun c46 => ?_)
      · have hd0 : d ≠ 0 := by omega
        rw [if_neg (by rw [decide_eq_false hd0]; decide)] at hp
        have hqn := zqk_n hq hN (hlt (by omega)) h0
        have gR := zgd_TR (o := o) (lw := lw) (v := v) hN hT.2.1 hpl hfw d (zpn q) hqn
        refine at_aload_n dX12_readPlain_53 rfl ?_
        refine at_callV0 (d := D - 1) dX12_readPlain_54 mv_X12_200 rfl (Nat.le_of_ble_eq_true rfl) (zq_r0 (by omega) (by omega) (by omega)) ?_
        refine zm_fine hq.2.1 ?_
        refine at_if_neB (tgt := 61) dX12_readPlain_57 (by decide) (fun c57 => ?_) (fun c57 => ?_)
        · refine at_aload_n dX12_readPlain_61 rfl ?_
          refine at_dup dX12_readPlain_62 rfl ?_
          refine at_get dX12_readPlain_63 fl_X12_204 rfl rfl ?_
          rw [zrd_20]
          refine at_iconst dX12_readPlain_66 (v := nI 1) (by decide) ?_
          refine at_iaddN dX12_readPlain_67 ?_
          refine at_mput dX12_readPlain_68 (pl_X12_204 _) (fun _ => ⟨_, rfl⟩) rfl rfl ?_
          rw [zrd_s20]
          refine at_aload_n dX12_readPlain_71 rfl ?_
          refine at_iload_n dX12_readPlain_72 rfl ?_
          refine at_iconst dX12_readPlain_73 (v := nI 1) (by decide) ?_
          refine at_iaddN dX12_readPlain_74 ?_
          refine at_callV1 (d := D - 1) dX12_readPlain_75 mv_X12_222 rfl (Nat.le_of_ble_eq_true rfl) (zq_r0 (by omega) (by omega) (by omega)) ?_
          refine HR hd0 (zpn q) _ hqn ?_
          refine at_aload_n dX12_readPlain_78 rfl ?_
          refine at_bipush dX12_readPlain_79 (v := nI 41) (by decide) ?_
          refine at_callS1 (d := D - 1) dX12_readPlain_81 ms_X12_245 (Nat.le_of_ble_eq_true rfl) (zq_r0 (by omega) (by omega) (by omega)) ?_
          refine zm_sign ?_
          refine at_callV1 (d := D - 1) dX12_readPlain_84 mv_X12_219 rfl (Nat.le_of_ble_eq_true rfl) (zq_r0 (by omega) (by omega) (by omega)) ?_
          refine zm_must (by omega) (by decide) hT gR.1.1 gR.1.2.1 ?_
          refine at_goto (tgt := 133) dX12_readPlain_87 (by decide) ?_
          refine at_vret dX12_readPlain_133 rfl (by omega) (by omega) ?_
          exact hp
        · exact absurd h0 (of_decide_eq_false c57)
      · obtain rfl : d = 0 := by omega
        rw [if_pos (show decide (0 = 0) = true from rfl)] at hp
        refine at_aload_n dX12_readPlain_49 rfl ?_
        refine at_callV0 (d := D - 1) dX12_readPlain_50 mv_X12_210 rfl (Nat.le_of_ble_eq_true rfl) (zq_r0 (by omega) (by omega) (by omega)) ?_
        refine zm_faults (by omega) hT hq.1 hq.2.1 ?_
        refine at_aload_n dX12_readPlain_53 rfl ?_
        refine at_callV0 (d := D - 1) dX12_readPlain_54 mv_X12_200 rfl (Nat.le_of_ble_eq_true rfl) (zq_r0 (by omega) (by omega) (by omega)) ?_
        refine zm_fine f1 ?_
        refine at_if_neB (tgt := 61) dX12_readPlain_57 (by decide) (fun c57 => ?_) (fun c57 => ?_)
        · exact absurd (of_decide_eq_true c57) (by unfold zpf; rw [if_pos h0]; exact Nat.succ_ne_zero _)
        · refine at_vret dX12_readPlain_60 rfl (by omega) (by omega) ?_
          exact hp
  · rw [if_pos (of_decide_eq_false c20)] at hp
    refine at_vret dX12_readPlain_23 rfl (by omega) (by omega) ?_
    exact hp
end ZL14

