/-! ===== the class: where tokens end ===== -/
def zkd (b : Int32) : Nat := if zsm b = true then 1 else if zdg b = true then 2 else 0
theorem zdg_sm {b : Int32} (h : zdg b = true) : zsm b = false := by
  unfold zdg at h
  unfold zsm
  rw [Bool.and_eq_true, decide_eq_true_eq, decide_eq_true_eq] at h
  rw [Bool.and_eq_false_iff]
  refine Or.inl (decide_eq_false (fun h2 => ?_))
  have h3 := h.2
  rw [Int32.le_iff_toInt_le] at h2 h3
  rw [show (nI 97).toInt = 97 by decide] at h2
  rw [show (nI 57).toInt = 57 by decide] at h3
  omega
theorem zkd_1 {b : Int32} : zkd b = 1 ↔ zsm b = true := by
  unfold zkd
  by_cases h : zsm b = true
  · rw [if_pos h]; exact ⟨fun _ => h, fun _ => rfl⟩
  · rw [if_neg h]
    refine ⟨fun e => ?_, fun e => absurd e h⟩
    split at e <;> cases e
theorem zkd_2 {b : Int32} : zkd b = 2 ↔ zdg b = true := by
  unfold zkd
  by_cases h : zdg b = true
  · rw [zdg_sm h, if_neg (by decide), if_pos h]; exact ⟨fun _ => h, fun _ => rfl⟩
  · rw [if_neg h]
    refine ⟨fun e => ?_, fun e => absurd e h⟩
    split at e <;> cases e
section ZC37
variable {l : Launch} {G : zq_G} {D n : Nat} {ρ f : Nat → zq_E} {post : Option Value → Nat → (Nat → zq_E) → Prop} {κ : zl_S}
theorem zc_kindOfB {b : Int32} (hp : post (some (.int (nI (zkd b)))) n f) : zq_Runs l G D 0 0 yX8_kindOf [.int b] n f post := by
  unfold zkd zsm zdg at hp
  refine zq_enter (cc := cX8_kindOf) (nL := 1) (ret := (some .int)) cw_X8_kindOf (by decide) rfl (Nat.le_of_ble_eq_true rfl) ?_
  refine at_iload_n dX8_kindOf_0 rfl ?_
  refine at_bipush dX8_kindOf_1 (v := nI 97) (by decide) ?_
  refine at_icmp_lt (tgt := 14) dX8_kindOf_3 (by decide) (fun c3 => ?_) (fun c3 => ?_)
  · rw [if_neg (by rw [Bool.and_eq_true, decide_eq_true_eq]; exact fun h => absurd h.1 (Int32.not_le.mpr c3))] at hp
    refine at_iload_n dX8_kindOf_14 rfl ?_
    refine at_bipush dX8_kindOf_15 (v := nI 48) (by decide) ?_
    refine at_icmp_lt (tgt := 30) dX8_kindOf_17 (by decide) (fun c17 => ?_) (fun c17 => ?_)
    · rw [if_neg (by rw [Bool.and_eq_true, decide_eq_true_eq]; exact fun h => absurd h.1 (Int32.not_le.mpr c17))] at hp
      refine at_iconst dX8_kindOf_30 (v := nI 0) (by decide) ?_
      refine at_iret dX8_kindOf_31 rfl (by omega) (by omega) ?_
      exact hp
    · refine at_iload_n dX8_kindOf_20 rfl ?_
      refine at_bipush dX8_kindOf_21 (v := nI 57) (by decide) ?_
      refine at_icmp_gt (tgt := 30) dX8_kindOf_23 (by decide) (fun c23 => ?_) (fun c23 => ?_)
      · rw [if_neg (by rw [Bool.and_eq_true, decide_eq_true_eq, decide_eq_true_eq]; exact fun h => absurd h.2 (Int32.not_le.mpr c23))] at hp
        refine at_iconst dX8_kindOf_30 (v := nI 0) (by decide) ?_
        refine at_iret dX8_kindOf_31 rfl (by omega) (by omega) ?_
        exact hp
      · rw [if_pos (by rw [Bool.and_eq_true, decide_eq_true_eq, decide_eq_true_eq]; exact ⟨Int32.not_lt.mp c17, Int32.not_lt.mp c23⟩)] at hp
        refine at_iconst dX8_kindOf_26 (v := nI 2) (by decide) ?_
        refine at_goto (tgt := 31) dX8_kindOf_27 (by decide) ?_
        refine at_iret dX8_kindOf_31 rfl (by omega) (by omega) ?_
        exact hp
  · refine at_iload_n dX8_kindOf_6 rfl ?_
    refine at_bipush dX8_kindOf_7 (v := nI 122) (by decide) ?_
    refine at_icmp_gt (tgt := 14) dX8_kindOf_9 (by decide) (fun c9 => ?_) (fun c9 => ?_)
    · rw [if_neg (by rw [Bool.and_eq_true, decide_eq_true_eq, decide_eq_true_eq]; exact fun h => absurd h.2 (Int32.not_le.mpr c9))] at hp
      refine at_iload_n dX8_kindOf_14 rfl ?_
      refine at_bipush dX8_kindOf_15 (v := nI 48) (by decide) ?_
      refine at_icmp_lt (tgt := 30) dX8_kindOf_17 (by decide) (fun c17 => ?_) (fun c17 => ?_)
      · rw [if_neg (by rw [Bool.and_eq_true, decide_eq_true_eq]; exact fun h => absurd h.1 (Int32.not_le.mpr c17))] at hp
        refine at_iconst dX8_kindOf_30 (v := nI 0) (by decide) ?_
        refine at_iret dX8_kindOf_31 rfl (by omega) (by omega) ?_
        exact hp
      · refine at_iload_n dX8_kindOf_20 rfl ?_
        refine at_bipush dX8_kindOf_21 (v := nI 57) (by decide) ?_
        refine at_icmp_gt (tgt := 30) dX8_kindOf_23 (by decide) (fun c23 => ?_) (fun c23 => ?_)
        · rw [if_neg (by rw [Bool.and_eq_true, decide_eq_true_eq, decide_eq_true_eq]; exact fun h => absurd h.2 (Int32.not_le.mpr c23))] at hp
          refine at_iconst dX8_kindOf_30 (v := nI 0) (by decide) ?_
          refine at_iret dX8_kindOf_31 rfl (by omega) (by omega) ?_
          exact hp
        · rw [if_pos (by rw [Bool.and_eq_true, decide_eq_true_eq, decide_eq_true_eq]; exact ⟨Int32.not_lt.mp c17, Int32.not_lt.mp c23⟩)] at hp
          refine at_iconst dX8_kindOf_26 (v := nI 2) (by decide) ?_
          refine at_goto (tgt := 31) dX8_kindOf_27 (by decide) ?_
          refine at_iret dX8_kindOf_31 rfl (by omega) (by omega) ?_
          exact hp
    · rw [if_pos (by rw [Bool.and_eq_true, decide_eq_true_eq, decide_eq_true_eq]; exact ⟨Int32.not_lt.mp c3, Int32.not_lt.mp c9⟩)] at hp
      refine at_iconst dX8_kindOf_12 (v := nI 1) (by decide) ?_
      refine at_iret dX8_kindOf_13 rfl (by omega) (by omega) ?_
      exact hp
theorem dX8_endOfToken_0 : decode cX8_endOfToken 0 = .ok (.aload_n 0, 1) := by decide +kernel
theorem dX8_endOfToken_1 : decode cX8_endOfToken 1 = .ok (.iload_n 1, 1) := by decide +kernel
theorem dX8_endOfToken_2 : decode cX8_endOfToken 2 = .ok (.iaload, 1) := by decide +kernel
theorem dX8_endOfToken_3 : decode cX8_endOfToken 3 = .ok (.invokestatic 78, 3) := by decide +kernel
theorem dX8_endOfToken_6 : decode cX8_endOfToken 6 = .ok (.istore_n 3, 1) := by decide +kernel
theorem dX8_endOfToken_7 : decode cX8_endOfToken 7 = .ok (.iload_n 1, 1) := by decide +kernel
theorem dX8_endOfToken_8 : decode cX8_endOfToken 8 = .ok (.iconst 1, 1) := by decide +kernel
theorem dX8_endOfToken_9 : decode cX8_endOfToken 9 = .ok (.iadd, 1) := by decide +kernel
theorem dX8_endOfToken_10 : decode cX8_endOfToken 10 = .ok (.istore 4, 2) := by decide +kernel
theorem dX8_endOfToken_12 : decode cX8_endOfToken 12 = .ok (.iload_n 3, 1) := by decide +kernel
theorem dX8_endOfToken_13 : decode cX8_endOfToken 13 = .ok (.ifCond .eq 33, 3) := by decide +kernel
theorem dX8_endOfToken_16 : decode cX8_endOfToken 16 = .ok (.iload 4, 2) := by decide +kernel
theorem dX8_endOfToken_18 : decode cX8_endOfToken 18 = .ok (.iload_n 2, 1) := by decide +kernel
theorem dX8_endOfToken_19 : decode cX8_endOfToken 19 = .ok (.if_icmp .ge 27, 3) := by decide +kernel
theorem dX8_endOfToken_22 : decode cX8_endOfToken 22 = .ok (.iload 4, 2) := by decide +kernel
theorem dX8_endOfToken_24 : decode cX8_endOfToken 24 = .ok (.aload_n 0, 1) := by decide +kernel
theorem dX8_endOfToken_25 : decode cX8_endOfToken 25 = .ok (.arraylength, 1) := by decide +kernel
theorem dX8_endOfToken_26 : decode cX8_endOfToken 26 = .ok (.if_icmp .ge 20, 3) := by decide +kernel
theorem dX8_endOfToken_29 : decode cX8_endOfToken 29 = .ok (.aload_n 0, 1) := by decide +kernel
theorem dX8_endOfToken_30 : decode cX8_endOfToken 30 = .ok (.iload 4, 2) := by decide +kernel
theorem dX8_endOfToken_32 : decode cX8_endOfToken 32 = .ok (.iaload, 1) := by decide +kernel
theorem dX8_endOfToken_33 : decode cX8_endOfToken 33 = .ok (.invokestatic 78, 3) := by decide +kernel
theorem dX8_endOfToken_36 : decode cX8_endOfToken 36 = .ok (.iload_n 3, 1) := by decide +kernel
theorem dX8_endOfToken_37 : decode cX8_endOfToken 37 = .ok (.if_icmp .ne 9, 3) := by decide +kernel
theorem dX8_endOfToken_40 : decode cX8_endOfToken 40 = .ok (.iinc 4 1, 3) := by decide +kernel
theorem dX8_endOfToken_43 : decode cX8_endOfToken 43 = .ok (.goto (-31), 3) := by decide +kernel
theorem dX8_endOfToken_46 : decode cX8_endOfToken 46 = .ok (.iload 4, 2) := by decide +kernel
theorem dX8_endOfToken_48 : decode cX8_endOfToken 48 = .ok (.ireturn, 1) := by decide +kernel
abbrev mX8_endOfToken : zq_M := (cX8_endOfToken, RX8, "endOfToken", (some .int), 5)
theorem dX8_tokenOf_0 : decode cX8_tokenOf 0 = .ok (.aload_n 0, 1) := by decide +kernel
theorem dX8_tokenOf_1 : decode cX8_tokenOf 1 = .ok (.iload_n 1, 1) := by decide +kernel
theorem dX8_tokenOf_2 : decode cX8_tokenOf 2 = .ok (.iaload, 1) := by decide +kernel
theorem dX8_tokenOf_3 : decode cX8_tokenOf 3 = .ok (.invokestatic 78, 3) := by decide +kernel
theorem dX8_tokenOf_6 : decode cX8_tokenOf 6 = .ok (.istore_n 3, 1) := by decide +kernel
theorem dX8_tokenOf_7 : decode cX8_tokenOf 7 = .ok (.iload_n 3, 1) := by decide +kernel
theorem dX8_tokenOf_8 : decode cX8_tokenOf 8 = .ok (.ifCond .ne 7, 3) := by decide +kernel
theorem dX8_tokenOf_11 : decode cX8_tokenOf 11 = .ok (.aload_n 0, 1) := by decide +kernel
theorem dX8_tokenOf_12 : decode cX8_tokenOf 12 = .ok (.iload_n 1, 1) := by decide +kernel
theorem dX8_tokenOf_13 : decode cX8_tokenOf 13 = .ok (.iaload, 1) := by decide +kernel
theorem dX8_tokenOf_14 : decode cX8_tokenOf 14 = .ok (.ireturn, 1) := by decide +kernel
theorem dX8_tokenOf_15 : decode cX8_tokenOf 15 = .ok (.iload_n 3, 1) := by decide +kernel
theorem dX8_tokenOf_16 : decode cX8_tokenOf 16 = .ok (.iconst 1, 1) := by decide +kernel
theorem dX8_tokenOf_17 : decode cX8_tokenOf 17 = .ok (.if_icmp .ne 14, 3) := by decide +kernel
theorem dX8_tokenOf_20 : decode cX8_tokenOf 20 = .ok (.sipush 256, 3) := by decide +kernel
theorem dX8_tokenOf_23 : decode cX8_tokenOf 23 = .ok (.aload_n 0, 1) := by decide +kernel
theorem dX8_tokenOf_24 : decode cX8_tokenOf 24 = .ok (.iload_n 1, 1) := by decide +kernel
theorem dX8_tokenOf_25 : decode cX8_tokenOf 25 = .ok (.iload_n 2, 1) := by decide +kernel
theorem dX8_tokenOf_26 : decode cX8_tokenOf 26 = .ok (.invokestatic 82, 3) := by decide +kernel
theorem dX8_tokenOf_29 : decode cX8_tokenOf 29 = .ok (.iadd, 1) := by decide +kernel
theorem dX8_tokenOf_30 : decode cX8_tokenOf 30 = .ok (.ireturn, 1) := by decide +kernel
theorem dX8_tokenOf_31 : decode cX8_tokenOf 31 = .ok (.iconst 0, 1) := by decide +kernel
theorem dX8_tokenOf_32 : decode cX8_tokenOf 32 = .ok (.istore 4, 2) := by decide +kernel
theorem dX8_tokenOf_34 : decode cX8_tokenOf 34 = .ok (.iload_n 1, 1) := by decide +kernel
theorem dX8_tokenOf_35 : decode cX8_tokenOf 35 = .ok (.istore 5, 2) := by decide +kernel
theorem dX8_tokenOf_37 : decode cX8_tokenOf 37 = .ok (.iload 5, 2) := by decide +kernel
theorem dX8_tokenOf_39 : decode cX8_tokenOf 39 = .ok (.iload_n 2, 1) := by decide +kernel
theorem dX8_tokenOf_40 : decode cX8_tokenOf 40 = .ok (.if_icmp .ge 37, 3) := by decide +kernel
theorem dX8_tokenOf_43 : decode cX8_tokenOf 43 = .ok (.iload 5, 2) := by decide +kernel
theorem dX8_tokenOf_45 : decode cX8_tokenOf 45 = .ok (.aload_n 0, 1) := by decide +kernel
theorem dX8_tokenOf_46 : decode cX8_tokenOf 46 = .ok (.arraylength, 1) := by decide +kernel
theorem dX8_tokenOf_47 : decode cX8_tokenOf 47 = .ok (.if_icmp .ge 30, 3) := by decide +kernel
theorem dX8_tokenOf_50 : decode cX8_tokenOf 50 = .ok (.iload 4, 2) := by decide +kernel
theorem dX8_tokenOf_52 : decode cX8_tokenOf 52 = .ok (.bipush 10, 2) := by decide +kernel
theorem dX8_tokenOf_54 : decode cX8_tokenOf 54 = .ok (.imul, 1) := by decide +kernel
theorem dX8_tokenOf_55 : decode cX8_tokenOf 55 = .ok (.aload_n 0, 1) := by decide +kernel
theorem dX8_tokenOf_56 : decode cX8_tokenOf 56 = .ok (.iload 5, 2) := by decide +kernel
theorem dX8_tokenOf_58 : decode cX8_tokenOf 58 = .ok (.iaload, 1) := by decide +kernel
theorem dX8_tokenOf_59 : decode cX8_tokenOf 59 = .ok (.iadd, 1) := by decide +kernel
theorem dX8_tokenOf_60 : decode cX8_tokenOf 60 = .ok (.bipush 48, 2) := by decide +kernel
theorem dX8_tokenOf_62 : decode cX8_tokenOf 62 = .ok (.isub, 1) := by decide +kernel
theorem dX8_tokenOf_63 : decode cX8_tokenOf 63 = .ok (.sipush 1001, 3) := by decide +kernel
theorem dX8_tokenOf_66 : decode cX8_tokenOf 66 = .ok (.invokestatic 41, 3) := by decide +kernel
theorem dX8_tokenOf_69 : decode cX8_tokenOf 69 = .ok (.istore 4, 2) := by decide +kernel
theorem dX8_tokenOf_71 : decode cX8_tokenOf 71 = .ok (.iinc 5 1, 3) := by decide +kernel
theorem dX8_tokenOf_74 : decode cX8_tokenOf 74 = .ok (.goto (-37), 3) := by decide +kernel
theorem dX8_tokenOf_77 : decode cX8_tokenOf 77 = .ok (.sipush 1000, 3) := by decide +kernel
theorem dX8_tokenOf_80 : decode cX8_tokenOf 80 = .ok (.iload 4, 2) := by decide +kernel
theorem dX8_tokenOf_82 : decode cX8_tokenOf 82 = .ok (.iadd, 1) := by decide +kernel
theorem dX8_tokenOf_83 : decode cX8_tokenOf 83 = .ok (.ireturn, 1) := by decide +kernel
abbrev mX8_tokenOf : zq_M := (cX8_tokenOf, RX8, "tokenOf", (some .int), 6)
theorem dX8_split_0 : decode cX8_split 0 = .ok (.iconst 0, 1) := by decide +kernel
theorem dX8_split_1 : decode cX8_split 1 = .ok (.istore_n 3, 1) := by decide +kernel
theorem dX8_split_2 : decode cX8_split 2 = .ok (.iconst 0, 1) := by decide +kernel
theorem dX8_split_3 : decode cX8_split 3 = .ok (.istore 4, 2) := by decide +kernel
theorem dX8_split_5 : decode cX8_split 5 = .ok (.iconst 0, 1) := by decide +kernel
theorem dX8_split_6 : decode cX8_split 6 = .ok (.istore 5, 2) := by decide +kernel
theorem dX8_split_8 : decode cX8_split 8 = .ok (.iload 5, 2) := by decide +kernel
theorem dX8_split_10 : decode cX8_split 10 = .ok (.sipush 400, 3) := by decide +kernel
theorem dX8_split_13 : decode cX8_split 13 = .ok (.if_icmp .ge 75, 3) := by decide +kernel
theorem dX8_split_16 : decode cX8_split 16 = .ok (.iload 4, 2) := by decide +kernel
theorem dX8_split_18 : decode cX8_split 18 = .ok (.iload_n 2, 1) := by decide +kernel
theorem dX8_split_19 : decode cX8_split 19 = .ok (.if_icmp .ge 69, 3) := by decide +kernel
theorem dX8_split_22 : decode cX8_split 22 = .ok (.iload 4, 2) := by decide +kernel
theorem dX8_split_24 : decode cX8_split 24 = .ok (.aload_n 1, 1) := by decide +kernel
theorem dX8_split_25 : decode cX8_split 25 = .ok (.arraylength, 1) := by decide +kernel
theorem dX8_split_26 : decode cX8_split 26 = .ok (.if_icmp .ge 62, 3) := by decide +kernel
theorem dX8_split_29 : decode cX8_split 29 = .ok (.iload 4, 2) := by decide +kernel
theorem dX8_split_31 : decode cX8_split 31 = .ok (.iconst 1, 1) := by decide +kernel
theorem dX8_split_32 : decode cX8_split 32 = .ok (.iadd, 1) := by decide +kernel
theorem dX8_split_33 : decode cX8_split 33 = .ok (.istore 6, 2) := by decide +kernel
theorem dX8_split_35 : decode cX8_split 35 = .ok (.aload_n 1, 1) := by decide +kernel
theorem dX8_split_36 : decode cX8_split 36 = .ok (.iload 4, 2) := by decide +kernel
theorem dX8_split_38 : decode cX8_split 38 = .ok (.iaload, 1) := by decide +kernel
theorem dX8_split_39 : decode cX8_split 39 = .ok (.bipush 32, 2) := by decide +kernel
theorem dX8_split_41 : decode cX8_split 41 = .ok (.if_icmp .eq 37, 3) := by decide +kernel
theorem dX8_split_44 : decode cX8_split 44 = .ok (.aload_n 1, 1) := by decide +kernel
theorem dX8_split_45 : decode cX8_split 45 = .ok (.iload 4, 2) := by decide +kernel
theorem dX8_split_47 : decode cX8_split 47 = .ok (.iload_n 2, 1) := by decide +kernel
theorem dX8_split_48 : decode cX8_split 48 = .ok (.invokestatic 71, 3) := by decide +kernel
theorem dX8_split_51 : decode cX8_split 51 = .ok (.istore 6, 2) := by decide +kernel
theorem dX8_split_53 : decode cX8_split 53 = .ok (.aload_n 0, 1) := by decide +kernel
theorem dX8_split_54 : decode cX8_split 54 = .ok (.getfield 11, 3) := by decide +kernel
theorem dX8_split_57 : decode cX8_split 57 = .ok (.iload_n 3, 1) := by decide +kernel
theorem dX8_split_58 : decode cX8_split 58 = .ok (.aload_n 1, 1) := by decide +kernel
theorem dX8_split_59 : decode cX8_split 59 = .ok (.iload 4, 2) := by decide +kernel
theorem dX8_split_61 : decode cX8_split 61 = .ok (.iload 6, 2) := by decide +kernel
theorem dX8_split_63 : decode cX8_split 63 = .ok (.invokestatic 75, 3) := by decide +kernel
theorem dX8_split_66 : decode cX8_split 66 = .ok (.iastore, 1) := by decide +kernel
theorem dX8_split_67 : decode cX8_split 67 = .ok (.aload_n 0, 1) := by decide +kernel
theorem dX8_split_68 : decode cX8_split 68 = .ok (.getfield 15, 3) := by decide +kernel
theorem dX8_split_71 : decode cX8_split 71 = .ok (.iload_n 3, 1) := by decide +kernel
theorem dX8_split_72 : decode cX8_split 72 = .ok (.iload 4, 2) := by decide +kernel
theorem dX8_split_74 : decode cX8_split 74 = .ok (.iastore, 1) := by decide +kernel
theorem dX8_split_75 : decode cX8_split 75 = .ok (.iinc 3 1, 3) := by decide +kernel
theorem dX8_split_78 : decode cX8_split 78 = .ok (.iload 6, 2) := by decide +kernel
theorem dX8_split_80 : decode cX8_split 80 = .ok (.istore 4, 2) := by decide +kernel
theorem dX8_split_82 : decode cX8_split 82 = .ok (.iinc 5 1, 3) := by decide +kernel
theorem dX8_split_85 : decode cX8_split 85 = .ok (.goto (-77), 3) := by decide +kernel
theorem dX8_split_88 : decode cX8_split 88 = .ok (.aload_n 0, 1) := by decide +kernel
theorem dX8_split_89 : decode cX8_split 89 = .ok (.getfield 11, 3) := by decide +kernel
theorem dX8_split_92 : decode cX8_split 92 = .ok (.iload_n 3, 1) := by decide +kernel
theorem dX8_split_93 : decode cX8_split 93 = .ok (.sipush 3000, 3) := by decide +kernel
theorem dX8_split_96 : decode cX8_split 96 = .ok (.iastore, 1) := by decide +kernel
theorem dX8_split_97 : decode cX8_split 97 = .ok (.aload_n 0, 1) := by decide +kernel
theorem dX8_split_98 : decode cX8_split 98 = .ok (.getfield 15, 3) := by decide +kernel
theorem dX8_split_101 : decode cX8_split 101 = .ok (.iload_n 3, 1) := by decide +kernel
theorem dX8_split_102 : decode cX8_split 102 = .ok (.iload_n 2, 1) := by decide +kernel
theorem dX8_split_103 : decode cX8_split 103 = .ok (.iastore, 1) := by decide +kernel
theorem dX8_split_104 : decode cX8_split 104 = .ok (.return_, 1) := by decide +kernel
abbrev mX8_split : zq_M := (cX8_split, RX8, "split", none, 7)
theorem zc_end_loop {a k z kd : Nat} {P : Int32 → Bool} (hD : 1 ≤ D) (ha : zl_isA a = true) (hl : zl_len a = 400) (hz : z ≤ 400) (hkd : kd = 1 ∨ kd = 2) (hP : ∀ b, zkd b = kd ↔ P b = true) (R : Nat) (hp : post (some (.int (nI R))) n (zl_h κ ρ)) :
    ∀ f i, i + f = z → zrunF P (κ.2.1 a) f i = R → zq_At l G (zq_rm D 0 0) mX8_endOfToken (zq_QF G post 0 0) 12 [(0, .ref a), (1, .int (nI k)), (2, .int (nI z)), (3, .int (nI kd)), (4, .int (nI i))] [] n (zl_h κ ρ) 0 0 := by
  intro f
  induction f with
  | zero =>
    intro i hi hR
    have hR : i = R := hR
    subst hR
    refine at_iload_n dX8_endOfToken_12 rfl ?_
    refine at_if_eqN (tgt := 46) dX8_endOfToken_13 (by decide) (by omega) (fun c13 => ?_) (fun c13 => ?_)
    · omega
    · refine at_iload dX8_endOfToken_16 rfl ?_
      refine at_iload_n dX8_endOfToken_18 rfl ?_
      refine at_geN (tgt := 46) dX8_endOfToken_19 (by decide) (by omega) (by omega) (fun c19 => ?_) (fun c19 => ?_)
      · refine at_iload dX8_endOfToken_46 rfl ?_
        refine at_iret dX8_endOfToken_48 rfl (by omega) (by omega) ?_
        exact hp
      · omega
  | succ f ih =>
    intro i hi hR
    have hk : zkd (κ.2.1 a i) < 3 := by unfold zkd; split; omega; split <;> omega
    unfold zrunF at hR
    refine at_iload_n dX8_endOfToken_12 rfl ?_
    refine at_if_eqN (tgt := 46) dX8_endOfToken_13 (by decide) (by omega) (fun c13 => ?_) (fun c13 => ?_)
    · omega
    · refine at_iload dX8_endOfToken_16 rfl ?_
      refine at_iload_n dX8_endOfToken_18 rfl ?_
      refine at_geN (tgt := 46) dX8_endOfToken_19 (by decide) (by omega) (by omega) (fun c19 => ?_) (fun c19 => ?_)
      · omega
      · refine at_iload dX8_endOfToken_22 rfl ?_
        refine at_aload_n dX8_endOfToken_24 rfl ?_
        refine at_alen dX8_endOfToken_25 (zl_a ha) (by decide) (v := nI 400) (by rw [hl]; rfl) ?_
        refine at_geN (tgt := 46) dX8_endOfToken_26 (by decide) (by omega) (by omega) (fun c26 => ?_) (fun c26 => ?_)
        · omega
        · refine at_aload_n dX8_endOfToken_29 rfl ?_
          refine at_iload dX8_endOfToken_30 rfl ?_
          refine at_lald2 dX8_endOfToken_32 ha rfl (by rw [hl]; omega) (by rw [hl]; first | decide | omega) ?_
          refine at_callS1 (d := D - 1) dX8_endOfToken_33 ms_X8_78 (Nat.le_of_ble_eq_true rfl) (zq_r0 (by omega) (by omega) (by omega)) ?_
          refine zc_kindOfB ?_
          refine at_iload_n dX8_endOfToken_36 rfl ?_
          refine at_neN (tgt := 46) dX8_endOfToken_37 (by decide) (by omega) (by omega) (fun c37 => ?_) (fun c37 => ?_)
          · rw [if_neg (fun h => c37 ((hP _).mpr h))] at hR
            subst hR
            refine at_iload dX8_endOfToken_46 rfl ?_
            refine at_iret dX8_endOfToken_48 rfl (by omega) (by omega) ?_
            exact hp
          · rw [if_pos ((hP _).mp c37)] at hR
            have hn := ih (i + 1) (by omega) hR
            refine at_iincN dX8_endOfToken_40 rfl (by decide) ?_
            refine at_goto (tgt := 12) dX8_endOfToken_43 (by decide) ?_
            exact hn
theorem zc_endOfToken {a k z : Nat} (hD : 2 ≤ D) (ha : zl_isA a = true) (hl : zl_len a = 400) (hz : z ≤ 400) (hk : k < z) (hp : post (some (.int (nI (zrun (κ.2.1 a) z k)))) n (zl_h κ ρ)) : zq_Runs l G D 0 0 yX8_endOfToken [.ref a, .int (nI k), .int (nI z)] n (zl_h κ ρ) post := by
  unfold zrun at hp
  refine zq_enter (cc := cX8_endOfToken) (nL := 5) (ret := (some .int)) cw_X8_endOfToken (by decide) rfl (Nat.le_of_ble_eq_true rfl) ?_
  refine at_aload_n dX8_endOfToken_0 rfl ?_
  refine at_iload_n dX8_endOfToken_1 rfl ?_
  refine at_lald2 dX8_endOfToken_2 ha rfl (by rw [hl]; omega) (by rw [hl]; first | decide | omega) ?_
  refine at_callS1 (d := D - 1) dX8_endOfToken_3 ms_X8_78 (Nat.le_of_ble_eq_true rfl) (zq_r0 (by omega) (by omega) (by omega)) ?_
  refine zc_kindOfB ?_
  refine at_istore_n dX8_endOfToken_6 rfl (by decide) ?_
  refine at_iload_n dX8_endOfToken_7 rfl ?_
  refine at_iconst dX8_endOfToken_8 (v := nI 1) (by decide) ?_
  refine at_iaddN dX8_endOfToken_9 ?_
  refine at_istore dX8_endOfToken_10 (by decide) ?_
  by_cases h1 : zsm (κ.2.1 a k) = true
  · rw [if_pos h1] at hp
    have e : zkd (κ.2.1 a k) = 1 := zkd_1.mpr h1
    rw [e]
    exact zc_end_loop (by omega) ha hl hz (Or.inl rfl) (fun b => zkd_1) _ hp (z - (k + 1)) (k + 1) (by omega) rfl
  · rw [if_neg h1] at hp
    by_cases h2 : zdg (κ.2.1 a k) = true
    · rw [if_pos h2] at hp
      have e : zkd (κ.2.1 a k) = 2 := zkd_2.mpr h2
      rw [e]
      exact zc_end_loop (by omega) ha hl hz (Or.inr rfl) (fun b => zkd_2) _ hp (z - (k + 1)) (k + 1) (by omega) rfl
    · rw [if_neg h2] at hp
      have e : zkd (κ.2.1 a k) = 0 := (by unfold zkd; rw [if_neg h1, if_neg h2])
      rw [e]
      refine at_iload_n dX8_endOfToken_12 rfl ?_
      refine at_if_eqN (tgt := 46) dX8_endOfToken_13 (by decide) (by omega) (fun c13 => ?_) (fun c13 => ?_)
      · refine at_iload dX8_endOfToken_46 rfl ?_
        refine at_iret dX8_endOfToken_48 rfl (by omega) (by omega) ?_
        exact hp
      · exact absurd rfl c13
end ZC37

