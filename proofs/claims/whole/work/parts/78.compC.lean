/-! ===== the class: the reader reads comparisons ===== -/
theorem dX8_readTest_0 : decode cX8_readTest 0 = .ok (.aload_n 0, 1) := by decide +kernel
theorem dX8_readTest_1 : decode cX8_readTest 1 = .ok (.iload_n 1, 1) := by decide +kernel
theorem dX8_readTest_2 : decode cX8_readTest 2 = .ok (.invokevirtual 153, 3) := by decide +kernel
theorem dX8_readTest_5 : decode cX8_readTest 5 = .ok (.iconst 0, 1) := by decide +kernel
theorem dX8_readTest_6 : decode cX8_readTest 6 = .ok (.istore_n 2, 1) := by decide +kernel
theorem dX8_readTest_7 : decode cX8_readTest 7 = .ok (.iload_n 2, 1) := by decide +kernel
theorem dX8_readTest_8 : decode cX8_readTest 8 = .ok (.sipush 400, 3) := by decide +kernel
theorem dX8_readTest_11 : decode cX8_readTest 11 = .ok (.if_icmp .ge 45, 3) := by decide +kernel
theorem dX8_readTest_14 : decode cX8_readTest 14 = .ok (.aload_n 0, 1) := by decide +kernel
theorem dX8_readTest_15 : decode cX8_readTest 15 = .ok (.getfield 22, 3) := by decide +kernel
theorem dX8_readTest_18 : decode cX8_readTest 18 = .ok (.sipush 281, 3) := by decide +kernel
theorem dX8_readTest_21 : decode cX8_readTest 21 = .ok (.if_icmp .ne 35, 3) := by decide +kernel
theorem dX8_readTest_24 : decode cX8_readTest 24 = .ok (.aload_n 0, 1) := by decide +kernel
theorem dX8_readTest_25 : decode cX8_readTest 25 = .ok (.getfield 28, 3) := by decide +kernel
theorem dX8_readTest_28 : decode cX8_readTest 28 = .ok (.istore_n 3, 1) := by decide +kernel
theorem dX8_readTest_29 : decode cX8_readTest 29 = .ok (.aload_n 0, 1) := by decide +kernel
theorem dX8_readTest_30 : decode cX8_readTest 30 = .ok (.iconst 4, 1) := by decide +kernel
theorem dX8_readTest_31 : decode cX8_readTest 31 = .ok (.iconst 0, 1) := by decide +kernel
theorem dX8_readTest_32 : decode cX8_readTest 32 = .ok (.invokevirtual 122, 3) := by decide +kernel
theorem dX8_readTest_35 : decode cX8_readTest 35 = .ok (.aload_n 0, 1) := by decide +kernel
theorem dX8_readTest_36 : decode cX8_readTest 36 = .ok (.invokevirtual 58, 3) := by decide +kernel
theorem dX8_readTest_39 : decode cX8_readTest 39 = .ok (.aload_n 0, 1) := by decide +kernel
theorem dX8_readTest_40 : decode cX8_readTest 40 = .ok (.iload_n 1, 1) := by decide +kernel
theorem dX8_readTest_41 : decode cX8_readTest 41 = .ok (.invokevirtual 153, 3) := by decide +kernel
theorem dX8_readTest_44 : decode cX8_readTest 44 = .ok (.aload_n 0, 1) := by decide +kernel
theorem dX8_readTest_45 : decode cX8_readTest 45 = .ok (.iload_n 3, 1) := by decide +kernel
theorem dX8_readTest_46 : decode cX8_readTest 46 = .ok (.iconst 4, 1) := by decide +kernel
theorem dX8_readTest_47 : decode cX8_readTest 47 = .ok (.invokevirtual 156, 3) := by decide +kernel
theorem dX8_readTest_50 : decode cX8_readTest 50 = .ok (.iinc 2 1, 3) := by decide +kernel
theorem dX8_readTest_53 : decode cX8_readTest 53 = .ok (.goto (-46), 3) := by decide +kernel
theorem dX8_readTest_56 : decode cX8_readTest 56 = .ok (.return_, 1) := by decide +kernel
abbrev mX8_readTest : zq_M := (cX8_readTest, RX8, "readTest", none, 4)
theorem dX8_readBoth_0 : decode cX8_readBoth 0 = .ok (.aload_n 0, 1) := by decide +kernel
theorem dX8_readBoth_1 : decode cX8_readBoth 1 = .ok (.iload_n 1, 1) := by decide +kernel
theorem dX8_readBoth_2 : decode cX8_readBoth 2 = .ok (.invokevirtual 159, 3) := by decide +kernel
theorem dX8_readBoth_5 : decode cX8_readBoth 5 = .ok (.iconst 0, 1) := by decide +kernel
theorem dX8_readBoth_6 : decode cX8_readBoth 6 = .ok (.istore_n 2, 1) := by decide +kernel
theorem dX8_readBoth_7 : decode cX8_readBoth 7 = .ok (.iload_n 2, 1) := by decide +kernel
theorem dX8_readBoth_8 : decode cX8_readBoth 8 = .ok (.sipush 400, 3) := by decide +kernel
theorem dX8_readBoth_11 : decode cX8_readBoth 11 = .ok (.if_icmp .ge 45, 3) := by decide +kernel
theorem dX8_readBoth_14 : decode cX8_readBoth 14 = .ok (.aload_n 0, 1) := by decide +kernel
theorem dX8_readBoth_15 : decode cX8_readBoth 15 = .ok (.getfield 22, 3) := by decide +kernel
theorem dX8_readBoth_18 : decode cX8_readBoth 18 = .ok (.sipush 282, 3) := by decide +kernel
theorem dX8_readBoth_21 : decode cX8_readBoth 21 = .ok (.if_icmp .ne 35, 3) := by decide +kernel
theorem dX8_readBoth_24 : decode cX8_readBoth 24 = .ok (.aload_n 0, 1) := by decide +kernel
theorem dX8_readBoth_25 : decode cX8_readBoth 25 = .ok (.getfield 28, 3) := by decide +kernel
theorem dX8_readBoth_28 : decode cX8_readBoth 28 = .ok (.istore_n 3, 1) := by decide +kernel
theorem dX8_readBoth_29 : decode cX8_readBoth 29 = .ok (.aload_n 0, 1) := by decide +kernel
theorem dX8_readBoth_30 : decode cX8_readBoth 30 = .ok (.iconst 5, 1) := by decide +kernel
theorem dX8_readBoth_31 : decode cX8_readBoth 31 = .ok (.iconst 0, 1) := by decide +kernel
theorem dX8_readBoth_32 : decode cX8_readBoth 32 = .ok (.invokevirtual 122, 3) := by decide +kernel
theorem dX8_readBoth_35 : decode cX8_readBoth 35 = .ok (.aload_n 0, 1) := by decide +kernel
theorem dX8_readBoth_36 : decode cX8_readBoth 36 = .ok (.invokevirtual 58, 3) := by decide +kernel
theorem dX8_readBoth_39 : decode cX8_readBoth 39 = .ok (.aload_n 0, 1) := by decide +kernel
theorem dX8_readBoth_40 : decode cX8_readBoth 40 = .ok (.iload_n 1, 1) := by decide +kernel
theorem dX8_readBoth_41 : decode cX8_readBoth 41 = .ok (.invokevirtual 159, 3) := by decide +kernel
theorem dX8_readBoth_44 : decode cX8_readBoth 44 = .ok (.aload_n 0, 1) := by decide +kernel
theorem dX8_readBoth_45 : decode cX8_readBoth 45 = .ok (.iload_n 3, 1) := by decide +kernel
theorem dX8_readBoth_46 : decode cX8_readBoth 46 = .ok (.iconst 5, 1) := by decide +kernel
theorem dX8_readBoth_47 : decode cX8_readBoth 47 = .ok (.invokevirtual 156, 3) := by decide +kernel
theorem dX8_readBoth_50 : decode cX8_readBoth 50 = .ok (.iinc 2 1, 3) := by decide +kernel
theorem dX8_readBoth_53 : decode cX8_readBoth 53 = .ok (.goto (-46), 3) := by decide +kernel
theorem dX8_readBoth_56 : decode cX8_readBoth 56 = .ok (.return_, 1) := by decide +kernel
abbrev mX8_readBoth : zq_M := (cX8_readBoth, RX8, "readBoth", none, 4)
theorem dX8_readPlain_0 : decode cX8_readPlain 0 = .ok (.iconst 0, 1) := by decide +kernel
theorem dX8_readPlain_1 : decode cX8_readPlain 1 = .ok (.istore_n 2, 1) := by decide +kernel
theorem dX8_readPlain_2 : decode cX8_readPlain 2 = .ok (.iconst 0, 1) := by decide +kernel
theorem dX8_readPlain_3 : decode cX8_readPlain 3 = .ok (.istore_n 3, 1) := by decide +kernel
theorem dX8_readPlain_4 : decode cX8_readPlain 4 = .ok (.iload_n 3, 1) := by decide +kernel
theorem dX8_readPlain_5 : decode cX8_readPlain 5 = .ok (.sipush 400, 3) := by decide +kernel
theorem dX8_readPlain_8 : decode cX8_readPlain 8 = .ok (.if_icmp .ge 33, 3) := by decide +kernel
theorem dX8_readPlain_11 : decode cX8_readPlain 11 = .ok (.aload_n 0, 1) := by decide +kernel
theorem dX8_readPlain_12 : decode cX8_readPlain 12 = .ok (.getfield 22, 3) := by decide +kernel
theorem dX8_readPlain_15 : decode cX8_readPlain 15 = .ok (.sipush 283, 3) := by decide +kernel
theorem dX8_readPlain_18 : decode cX8_readPlain 18 = .ok (.if_icmp .ne 23, 3) := by decide +kernel
theorem dX8_readPlain_21 : decode cX8_readPlain 21 = .ok (.iload_n 2, 1) := by decide +kernel
theorem dX8_readPlain_22 : decode cX8_readPlain 22 = .ok (.ifCond .ne 7, 3) := by decide +kernel
theorem dX8_readPlain_25 : decode cX8_readPlain 25 = .ok (.iconst 1, 1) := by decide +kernel
theorem dX8_readPlain_26 : decode cX8_readPlain 26 = .ok (.goto 4, 3) := by decide +kernel
theorem dX8_readPlain_29 : decode cX8_readPlain 29 = .ok (.iconst 0, 1) := by decide +kernel
theorem dX8_readPlain_30 : decode cX8_readPlain 30 = .ok (.istore_n 2, 1) := by decide +kernel
theorem dX8_readPlain_31 : decode cX8_readPlain 31 = .ok (.aload_n 0, 1) := by decide +kernel
theorem dX8_readPlain_32 : decode cX8_readPlain 32 = .ok (.invokevirtual 58, 3) := by decide +kernel
theorem dX8_readPlain_35 : decode cX8_readPlain 35 = .ok (.iinc 3 1, 3) := by decide +kernel
theorem dX8_readPlain_38 : decode cX8_readPlain 38 = .ok (.goto (-34), 3) := by decide +kernel
theorem dX8_readPlain_41 : decode cX8_readPlain 41 = .ok (.aload_n 0, 1) := by decide +kernel
theorem dX8_readPlain_42 : decode cX8_readPlain 42 = .ok (.getfield 22, 3) := by decide +kernel
theorem dX8_readPlain_45 : decode cX8_readPlain 45 = .ok (.bipush 40, 2) := by decide +kernel
theorem dX8_readPlain_47 : decode cX8_readPlain 47 = .ok (.if_icmp .eq 11, 3) := by decide +kernel
theorem dX8_readPlain_50 : decode cX8_readPlain 50 = .ok (.aload_n 0, 1) := by decide +kernel
theorem dX8_readPlain_51 : decode cX8_readPlain 51 = .ok (.iload_n 1, 1) := by decide +kernel
theorem dX8_readPlain_52 : decode cX8_readPlain 52 = .ok (.invokevirtual 162, 3) := by decide +kernel
theorem dX8_readPlain_55 : decode cX8_readPlain 55 = .ok (.goto 24, 3) := by decide +kernel
theorem dX8_readPlain_58 : decode cX8_readPlain 58 = .ok (.aload_n 0, 1) := by decide +kernel
theorem dX8_readPlain_59 : decode cX8_readPlain 59 = .ok (.iload_n 1, 1) := by decide +kernel
theorem dX8_readPlain_60 : decode cX8_readPlain 60 = .ok (.invokevirtual 165, 3) := by decide +kernel
theorem dX8_readPlain_63 : decode cX8_readPlain 63 = .ok (.ifCond .eq 16, 3) := by decide +kernel
theorem dX8_readPlain_66 : decode cX8_readPlain 66 = .ok (.aload_n 0, 1) := by decide +kernel
theorem dX8_readPlain_67 : decode cX8_readPlain 67 = .ok (.iload_n 1, 1) := by decide +kernel
theorem dX8_readPlain_68 : decode cX8_readPlain 68 = .ok (.iconst 1, 1) := by decide +kernel
theorem dX8_readPlain_69 : decode cX8_readPlain 69 = .ok (.iadd, 1) := by decide +kernel
theorem dX8_readPlain_70 : decode cX8_readPlain 70 = .ok (.invokevirtual 116, 3) := by decide +kernel
theorem dX8_readPlain_73 : decode cX8_readPlain 73 = .ok (.aload_n 0, 1) := by decide +kernel
theorem dX8_readPlain_74 : decode cX8_readPlain 74 = .ok (.bipush 41, 2) := by decide +kernel
theorem dX8_readPlain_76 : decode cX8_readPlain 76 = .ok (.invokevirtual 135, 3) := by decide +kernel
theorem dX8_readPlain_79 : decode cX8_readPlain 79 = .ok (.iload_n 2, 1) := by decide +kernel
theorem dX8_readPlain_80 : decode cX8_readPlain 80 = .ok (.ifCond .eq 9, 3) := by decide +kernel
theorem dX8_readPlain_83 : decode cX8_readPlain 83 = .ok (.aload_n 0, 1) := by decide +kernel
theorem dX8_readPlain_84 : decode cX8_readPlain 84 = .ok (.iconst 3, 1) := by decide +kernel
theorem dX8_readPlain_85 : decode cX8_readPlain 85 = .ok (.iconst 0, 1) := by decide +kernel
theorem dX8_readPlain_86 : decode cX8_readPlain 86 = .ok (.invokevirtual 122, 3) := by decide +kernel
theorem dX8_readPlain_89 : decode cX8_readPlain 89 = .ok (.return_, 1) := by decide +kernel
abbrev mX8_readPlain : zq_M := (cX8_readPlain, RX8, "readPlain", none, 4)
theorem dX8_readComparison_0 : decode cX8_readComparison 0 = .ok (.aload_n 0, 1) := by decide +kernel
theorem dX8_readComparison_1 : decode cX8_readComparison 1 = .ok (.iload_n 1, 1) := by decide +kernel
theorem dX8_readComparison_2 : decode cX8_readComparison 2 = .ok (.invokevirtual 150, 3) := by decide +kernel
theorem dX8_readComparison_5 : decode cX8_readComparison 5 = .ok (.bipush 13, 2) := by decide +kernel
theorem dX8_readComparison_7 : decode cX8_readComparison 7 = .ok (.istore_n 2, 1) := by decide +kernel
theorem dX8_readComparison_8 : decode cX8_readComparison 8 = .ok (.aload_n 0, 1) := by decide +kernel
theorem dX8_readComparison_9 : decode cX8_readComparison 9 = .ok (.getfield 22, 3) := by decide +kernel
theorem dX8_readComparison_12 : decode cX8_readComparison 12 = .ok (.bipush 60, 2) := by decide +kernel
theorem dX8_readComparison_14 : decode cX8_readComparison 14 = .ok (.if_icmp .ne 9, 3) := by decide +kernel
theorem dX8_readComparison_17 : decode cX8_readComparison 17 = .ok (.bipush 11, 2) := by decide +kernel
theorem dX8_readComparison_19 : decode cX8_readComparison 19 = .ok (.istore_n 2, 1) := by decide +kernel
theorem dX8_readComparison_20 : decode cX8_readComparison 20 = .ok (.goto 31, 3) := by decide +kernel
theorem dX8_readComparison_23 : decode cX8_readComparison 23 = .ok (.aload_n 0, 1) := by decide +kernel
theorem dX8_readComparison_24 : decode cX8_readComparison 24 = .ok (.getfield 22, 3) := by decide +kernel
theorem dX8_readComparison_27 : decode cX8_readComparison 27 = .ok (.bipush 62, 2) := by decide +kernel
theorem dX8_readComparison_29 : decode cX8_readComparison 29 = .ok (.if_icmp .ne 9, 3) := by decide +kernel
theorem dX8_readComparison_32 : decode cX8_readComparison 32 = .ok (.bipush 12, 2) := by decide +kernel
theorem dX8_readComparison_34 : decode cX8_readComparison 34 = .ok (.istore_n 2, 1) := by decide +kernel
theorem dX8_readComparison_35 : decode cX8_readComparison 35 = .ok (.goto 16, 3) := by decide +kernel
theorem dX8_readComparison_38 : decode cX8_readComparison 38 = .ok (.aload_n 0, 1) := by decide +kernel
theorem dX8_readComparison_39 : decode cX8_readComparison 39 = .ok (.getfield 22, 3) := by decide +kernel
theorem dX8_readComparison_42 : decode cX8_readComparison 42 = .ok (.bipush 61, 2) := by decide +kernel
theorem dX8_readComparison_44 : decode cX8_readComparison 44 = .ok (.if_icmp .eq 7, 3) := by decide +kernel
theorem dX8_readComparison_47 : decode cX8_readComparison 47 = .ok (.aload_n 0, 1) := by decide +kernel
theorem dX8_readComparison_48 : decode cX8_readComparison 48 = .ok (.invokevirtual 61, 3) := by decide +kernel
theorem dX8_readComparison_51 : decode cX8_readComparison 51 = .ok (.aload_n 0, 1) := by decide +kernel
theorem dX8_readComparison_52 : decode cX8_readComparison 52 = .ok (.invokevirtual 58, 3) := by decide +kernel
theorem dX8_readComparison_55 : decode cX8_readComparison 55 = .ok (.aload_n 0, 1) := by decide +kernel
theorem dX8_readComparison_56 : decode cX8_readComparison 56 = .ok (.iload_n 1, 1) := by decide +kernel
theorem dX8_readComparison_57 : decode cX8_readComparison 57 = .ok (.invokevirtual 150, 3) := by decide +kernel
theorem dX8_readComparison_60 : decode cX8_readComparison 60 = .ok (.aload_n 0, 1) := by decide +kernel
theorem dX8_readComparison_61 : decode cX8_readComparison 61 = .ok (.iload_n 2, 1) := by decide +kernel
theorem dX8_readComparison_62 : decode cX8_readComparison 62 = .ok (.iconst 0, 1) := by decide +kernel
theorem dX8_readComparison_63 : decode cX8_readComparison 63 = .ok (.invokevirtual 122, 3) := by decide +kernel
theorem dX8_readComparison_66 : decode cX8_readComparison 66 = .ok (.return_, 1) := by decide +kernel
abbrev mX8_readComparison : zq_M := (cX8_readComparison, RX8, "readComparison", none, 3)
theorem dX8_wholeSum_0 : decode cX8_wholeSum 0 = .ok (.aload_n 0, 1) := by decide +kernel
theorem dX8_wholeSum_1 : decode cX8_wholeSum 1 = .ok (.getfield 28, 3) := by decide +kernel
theorem dX8_wholeSum_4 : decode cX8_wholeSum 4 = .ok (.istore_n 1, 1) := by decide +kernel
theorem dX8_wholeSum_5 : decode cX8_wholeSum 5 = .ok (.aload_n 0, 1) := by decide +kernel
theorem dX8_wholeSum_6 : decode cX8_wholeSum 6 = .ok (.iconst 0, 1) := by decide +kernel
theorem dX8_wholeSum_7 : decode cX8_wholeSum 7 = .ok (.invokevirtual 150, 3) := by decide +kernel
theorem dX8_wholeSum_10 : decode cX8_wholeSum 10 = .ok (.aload_n 0, 1) := by decide +kernel
theorem dX8_wholeSum_11 : decode cX8_wholeSum 11 = .ok (.iconst 0, 1) := by decide +kernel
theorem dX8_wholeSum_12 : decode cX8_wholeSum 12 = .ok (.iconst 0, 1) := by decide +kernel
theorem dX8_wholeSum_13 : decode cX8_wholeSum 13 = .ok (.invokevirtual 122, 3) := by decide +kernel
theorem dX8_wholeSum_16 : decode cX8_wholeSum 16 = .ok (.iload_n 1, 1) := by decide +kernel
theorem dX8_wholeSum_17 : decode cX8_wholeSum 17 = .ok (.ireturn, 1) := by decide +kernel
abbrev mX8_wholeSum : zq_M := (cX8_wholeSum, RX8, "wholeSum", (some .int), 2)
section ZC25
variable {l : Launch} {G : zq_G} {D n : Nat} {ρ f : Nat → zq_E}
variable {N : Nat} {c v pl : Nat → Nat} {tk : Nat → Int32} {o : Bool}
def zfC (c pl : Nat → Nat) (S : zQ → zQ) (q : zQ) : zQ := S (if zpt c (S q) 160 = true then zpn (S q) else if zpt c (S q) 162 = true then zpn (S q) else zpmu c pl (S q) 161)
def zSpCm (c : Nat → Nat) (S : zX → Nat → Nat → Prop) (e : zX) (i j : Nat) : Prop := ∃ a b k, S a i k ∧ (c k = 160 ∨ c k = 161 ∨ c k = 162) ∧ S b (k + 1) j ∧ e = zx_op (c k) a b
theorem zc_cmp_end {d h t op : Nat} {S : zQ → zQ} {Sp : zX → Nat → Nat → Prop} {κ κ1 : zl_S} {q q1 q2 : zQ} {cs cs1 : Nat} {cd cd1 : Nat → Nat × Nat} {post : Option Value → Nat → (Nat → zq_E) → Prop} (hD : 3 ≤ D) (hT : zTm N c v pl tk) (hS : zgd N S) (hH : zHR l G n ρ N pl tk o (D - 1) yX8_readSum d S Sp h) (hR : zRw κ N pl tk o) (hop : op < 14)
    (hq1 : zqk N q1) (hq2 : zqk N q2) (hf1 : zRf κ1 κ) (hs : zPs κ1 tk q2 cs1 cd1) (hr : zRes o Sp h q q1 cs cs1 cd cd1) (hb : q.2.2 = 0 → cs ≤ q.1)
    (h2 : q2.2.2 = 0 → q1.2.2 = 0 ∧ q2 = zpn q1 ∧ c q1.1 = t ∧ (t = 160 ∨ t = 161 ∨ t = 162) ∧ op = zopc t)
    (hp : ∀ κ' cs' cd', zRf κ' κ → zPs κ' tk (S q2) cs' cd' → zRes o (zSpCm c Sp) (h + 1) q (S q2) cs cs' cd cd' → post none n (zl_h κ' ρ)) :
    zq_At l G (zq_rm D 0 0) mX8_readComparison (zq_QF G post 0 0) 55 [(0, .ref 48), (1, .int (nI d)), (2, .int (nI op))] [] n (zl_h κ1 ρ) 0 0 := by
  have hN := hT.1
  have hg := hS q2 hq2
  have hbad : (S q2).2.2 = 0 → q2.2.2 = 0 := by
    intro h0
    apply Classical.byContradiction
    intro hn
    rw [hg.2.2 hn] at h0
    exact hn h0
  have hbd : q2.2.2 = 0 → cs1 ≤ q2.1 ∧ q2.2.1 ≤ 50 := by
    intro h0
    obtain ⟨a1, a2, _⟩ := h2 h0
    obtain ⟨r1, r2, r3, _⟩ := hr a1
    have := hb r1
    rw [a2]
    exact ⟨by show cs1 ≤ q1.1 + 1; omega, r3⟩
  refine at_aload_n dX8_readComparison_55 rfl ?_
  refine at_iload_n dX8_readComparison_56 rfl ?_
  refine at_callV1 (d := D - 1) dX8_readComparison_57 mv_X8_150 (zl_o rfl) (Nat.le_of_ble_eq_true rfl) (zq_r0 (by omega) (by omega) (by omega)) ?_
  refine hH κ1 q2 cs1 cd1 _ (zRw_f hf1 hR) hq2 hs hbd (fun κ2 cs2 cd2 j1 j2 j3 => ?_)
  refine at_aload_n dX8_readComparison_60 rfl ?_
  refine at_iload_n dX8_readComparison_61 rfl ?_
  refine at_iconst dX8_readComparison_62 (v := nI 0) (by decide) ?_
  refine at_callV2 (d := D - 1) dX8_readComparison_63 mv_X8_122 (zl_o rfl) (Nat.le_of_ble_eq_true rfl) (zq_r0 (by omega) (by omega) (by omega)) ?_
  have hlt : (S q2).2.2 = 0 → cs2 < 800 := (fun h0 => by
    have e1 := (j3 h0).2.1
    have e2 := hbd (hbad h0)
    have := hg.1.1
    omega)
  refine zc_emit (ar := 0) hop (by decide) j2 hlt (fun κ3 m1 m2 => ?_)
  have hp := hp κ3 _ _ (zRf_t m1 (zRf_t j1 hf1)) m2 (fun h0 => (by
    have h00 := hbad h0
    obtain ⟨a1, a2, a3, a4, a5⟩ := h2 h00
    obtain ⟨r1, r2, r3, r4, e, r5, r6⟩ := hr a1
    obtain ⟨t1, t2, t3, t4, e', t5, t6⟩ := j3 h0
    have i1 := r6.1
    have i2 := t6.1
    have a21 : q2.1 = q1.1 + 1 := (by rw [a2]; rfl)
    rw [a21] at t2 t5
    rw [if_pos (hlt h0)]
    have t2 : cs2 + (q1.1 + 1) ≤ cs1 + (S q2).1 := t2
    have hzo : zopt t := (by unfold zopt; rcases a4 with h | h | h <;> simp [h])
    refine ⟨r1, by omega, t3, fun k hk => by rw [zcu_o (by omega), t4 k (by omega), r4 k hk], zx_op t e e', ⟨e, e', q1.1, r5, by rw [a3]; exact a4, t5, by rw [a3]⟩, ?_⟩
    rw [a5]
    exact zCC_op hzo (zCC_ext r6 (Nat.le_refl _) (fun k k1 k2 => by rw [zcu_o (by omega), t4 k k2])) (zCC_ext t6 (Nat.le_refl _) (fun k k1 k2 => zcu_o (by omega))) (zcu_s _ _ _) (Nat.le_succ _) (Nat.le_refl _)))
  refine at_vret dX8_readComparison_66 rfl (by omega) (by omega) ?_
  exact hp
theorem zc_readComparison {d h : Nat} {S : zQ → zQ} {Sp : zX → Nat → Nat → Prop} (hD : 3 ≤ D) (hT : zTm N c v pl tk) (hS : zgd N S) (hH : zHR l G n ρ N pl tk o (D - 1) yX8_readSum d S Sp h) : zHR l G n ρ N pl tk o D yX8_readComparison d (zfC c pl S) (zSpCm c Sp) (h + 1) := by
  intro κ q cs cd post hR hq hs hb hp
  have hg := hS q hq
  have hb0 : q.2.2 = 0 → cs ≤ q.1 := fun h0 => (hb h0).1
  unfold zfC at hp
  refine zq_enter (cc := cX8_readComparison) (nL := 3) (ret := none) cw_X8_readComparison (by decide) rfl (Nat.le_of_ble_eq_true rfl) ?_
  refine at_aload_n dX8_readComparison_0 rfl ?_
  refine at_iload_n dX8_readComparison_1 rfl ?_
  refine at_callV1 (d := D - 1) dX8_readComparison_2 mv_X8_150 (zl_o rfl) (Nat.le_of_ble_eq_true rfl) (zq_r0 (by omega) (by omega) (by omega)) ?_
  refine hH κ q cs cd _ hR hq hs hb (fun κ1 cs1 cd1 g1 g2 g3 => ?_)
  have hR1 := zRw_f g1 hR
  have w60 : κ1.1 48 3 = nI 60 ↔ zpt c (S q) 160 = true := zPs_iff (k := 160) hT hg.1.1 (Or.inr ⟨by decide, by decide⟩) g2
  have w62 : κ1.1 48 3 = nI 62 ↔ zpt c (S q) 162 = true := zPs_iff (k := 162) hT hg.1.1 (Or.inr ⟨by decide, by decide⟩) g2
  have w61 : κ1.1 48 3 = nI 61 ↔ zpt c (S q) 161 = true := zPs_iff (k := 161) hT hg.1.1 (Or.inr ⟨by decide, by decide⟩) g2
  refine at_bipush dX8_readComparison_5 (v := nI 13) (by decide) ?_
  refine at_istore_n dX8_readComparison_7 rfl (by decide) ?_
  refine at_aload_n dX8_readComparison_8 rfl ?_
  refine at_get dX8_readComparison_9 fl_X8_22 (zl_o rfl) rfl ?_
  refine at_bipush dX8_readComparison_12 (v := nI 60) (by decide) ?_
  refine at_icmp_ne (tgt := 23) dX8_readComparison_14 (by decide) (fun c14 => ?_) (fun c14 => ?_)
  · rw [if_neg (fun h => c14 (w60.mpr h))] at hp
    refine at_aload_n dX8_readComparison_23 rfl ?_
    refine at_get dX8_readComparison_24 fl_X8_22 (zl_o rfl) rfl ?_
    refine at_bipush dX8_readComparison_27 (v := nI 62) (by decide) ?_
    refine at_icmp_ne (tgt := 38) dX8_readComparison_29 (by decide) (fun c29 => ?_) (fun c29 => ?_)
    · rw [if_neg (fun h => c29 (w62.mpr h))] at hp
      unfold zpmu at hp
      refine at_aload_n dX8_readComparison_38 rfl ?_
      refine at_get dX8_readComparison_39 fl_X8_22 (zl_o rfl) rfl ?_
      refine at_bipush dX8_readComparison_42 (v := nI 61) (by decide) ?_
      refine at_icmp_eq (tgt := 51) dX8_readComparison_44 (by decide) (fun c44 => ?_) (fun c44 => ?_)
      · have hz := w61.mp c44
        obtain ⟨z1, z2, z3⟩ := zpt_c hT (zqk_w hg.1) (by decide) hz
        rw [if_pos hz] at hp
        refine at_aload_n dX8_readComparison_51 rfl ?_
        refine at_callV0 (d := D - 1) dX8_readComparison_52 mv_X8_58 (zl_o rfl) (Nat.le_of_ble_eq_true rfl) (zq_r0 (by omega) (by omega) (by omega)) ?_
        refine zc_next hT hR1 (zqk_w hg.1) g2 (fun _ => z2) (fun κ2 j1 j2 => ?_)
        rw [if_pos z1] at j2
        exact at_lv [0, 1, 2] (zc_cmp_end (t := 161) (by omega) hT hS hH hR (by decide) hg.1 (zqk_nx hg.1 z2) (zRf_t j1 g1) j2 g3 hb0 (fun _ => ⟨z1, rfl, z3, by decide, by decide⟩) hp)
      · rw [if_neg (fun h => c44 (w61.mpr h))] at hp
        refine at_aload_n dX8_readComparison_47 rfl ?_
        refine at_callV0 (d := D - 1) dX8_readComparison_48 mv_X8_61 (zl_o rfl) (Nat.le_of_ble_eq_true rfl) (zq_r0 (by omega) (by omega) (by omega)) ?_
        refine zc_fail hT hR1 (zqk_w hg.1) g2 (fun κ2 j1 j2 => ?_)
        refine at_aload_n dX8_readComparison_51 rfl ?_
        refine at_callV0 (d := D - 1) dX8_readComparison_52 mv_X8_58 (zl_o rfl) (Nat.le_of_ble_eq_true rfl) (zq_r0 (by omega) (by omega) (by omega)) ?_
        refine zc_next hT (zRw_f j1 hR1) (zqk_w (zgd_f hT.2.2.2.1 _ hg.1).1) j2 (fun h0 => (zpf_bad h0).elim) (fun κ3 m1 m2 => ?_)
        rw [if_neg (fun h0 => zpf_bad h0)] at m2
        exact at_lv [0, 1, 2] (zc_cmp_end (t := 161) (by omega) hT hS hH hR (by decide) hg.1 (zgd_f hT.2.2.2.1 _ hg.1).1 (zRf_t m1 (zRf_t j1 g1)) m2 g3 hb0 (fun h0 => (zpf_bad h0).elim) hp)
    · have hz := w62.mp c29
      obtain ⟨z1, z2, z3⟩ := zpt_c hT (zqk_w hg.1) (by decide) hz
      rw [if_pos hz] at hp
      refine at_bipush dX8_readComparison_32 (v := nI 12) (by decide) ?_
      refine at_istore_n dX8_readComparison_34 rfl (by decide) ?_
      refine at_goto (tgt := 51) dX8_readComparison_35 (by decide) ?_
      refine at_aload_n dX8_readComparison_51 rfl ?_
      refine at_callV0 (d := D - 1) dX8_readComparison_52 mv_X8_58 (zl_o rfl) (Nat.le_of_ble_eq_true rfl) (zq_r0 (by omega) (by omega) (by omega)) ?_
      refine zc_next hT hR1 (zqk_w hg.1) g2 (fun _ => z2) (fun κ2 j1 j2 => ?_)
      rw [if_pos z1] at j2
      exact at_lv [0, 1, 2] (zc_cmp_end (t := 162) (by omega) hT hS hH hR (by decide) hg.1 (zqk_nx hg.1 z2) (zRf_t j1 g1) j2 g3 hb0 (fun _ => ⟨z1, rfl, z3, by decide, by decide⟩) hp)
  · have hz := w60.mp c14
    obtain ⟨z1, z2, z3⟩ := zpt_c hT (zqk_w hg.1) (by decide) hz
    rw [if_pos hz] at hp
    refine at_bipush dX8_readComparison_17 (v := nI 11) (by decide) ?_
    refine at_istore_n dX8_readComparison_19 rfl (by decide) ?_
    refine at_goto (tgt := 51) dX8_readComparison_20 (by decide) ?_
    refine at_aload_n dX8_readComparison_51 rfl ?_
    refine at_callV0 (d := D - 1) dX8_readComparison_52 mv_X8_58 (zl_o rfl) (Nat.le_of_ble_eq_true rfl) (zq_r0 (by omega) (by omega) (by omega)) ?_
    refine zc_next hT hR1 (zqk_w hg.1) g2 (fun _ => z2) (fun κ2 j1 j2 => ?_)
    rw [if_pos z1] at j2
    exact at_lv [0, 1, 2] (zc_cmp_end (t := 160) (by omega) hT hS hH hR (by decide) hg.1 (zqk_nx hg.1 z2) (zRf_t j1 g1) j2 g3 hb0 (fun _ => ⟨z1, rfl, z3, by decide, by decide⟩) hp)
end ZC25

