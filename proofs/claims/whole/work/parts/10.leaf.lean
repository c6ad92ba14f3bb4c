/-! ===== the Model's leaves ===== -/
theorem dX12_lies_0 : decode cX12_lies 0 = .ok (.iload_n 0, 1) := by decide +kernel
theorem dX12_lies_1 : decode cX12_lies 1 = .ok (.iload_n 1, 1) := by decide +kernel
theorem dX12_lies_2 : decode cX12_lies 2 = .ok (.if_icmp .lt 12, 3) := by decide +kernel
theorem dX12_lies_5 : decode cX12_lies 5 = .ok (.iload_n 0, 1) := by decide +kernel
theorem dX12_lies_6 : decode cX12_lies 6 = .ok (.iload_n 2, 1) := by decide +kernel
theorem dX12_lies_7 : decode cX12_lies 7 = .ok (.if_icmp .gt 7, 3) := by decide +kernel
theorem dX12_lies_10 : decode cX12_lies 10 = .ok (.iconst 1, 1) := by decide +kernel
theorem dX12_lies_11 : decode cX12_lies 11 = .ok (.goto 4, 3) := by decide +kernel
theorem dX12_lies_14 : decode cX12_lies 14 = .ok (.iconst 0, 1) := by decide +kernel
theorem dX12_lies_15 : decode cX12_lies 15 = .ok (.ireturn, 1) := by decide +kernel
abbrev mX12_lies : zq_M := (cX12_lies, RX12, "lies", (some .boolean), 3)
theorem dX12_refuses_0 : decode cX12_refuses 0 = .ok (.aload_n 0, 1) := by decide +kernel
theorem dX12_refuses_1 : decode cX12_refuses 1 = .ok (.iload_n 1, 1) := by decide +kernel
theorem dX12_refuses_2 : decode cX12_refuses 2 = .ok (.putfield 3, 3) := by decide +kernel
theorem dX12_refuses_5 : decode cX12_refuses 5 = .ok (.aload_n 0, 1) := by decide +kernel
theorem dX12_refuses_6 : decode cX12_refuses 6 = .ok (.getfield 7, 3) := by decide +kernel
theorem dX12_refuses_9 : decode cX12_refuses 9 = .ok (.iload_n 1, 1) := by decide +kernel
theorem dX12_refuses_10 : decode cX12_refuses 10 = .ok (.ineg, 1) := by decide +kernel
theorem dX12_refuses_11 : decode cX12_refuses 11 = .ok (.dup2, 1) := by decide +kernel
theorem dX12_refuses_12 : decode cX12_refuses 12 = .ok (.iaload, 1) := by decide +kernel
theorem dX12_refuses_13 : decode cX12_refuses 13 = .ok (.iconst 1, 1) := by decide +kernel
theorem dX12_refuses_14 : decode cX12_refuses 14 = .ok (.iadd, 1) := by decide +kernel
theorem dX12_refuses_15 : decode cX12_refuses 15 = .ok (.iastore, 1) := by decide +kernel
theorem dX12_refuses_16 : decode cX12_refuses 16 = .ok (.iload_n 1, 1) := by decide +kernel
theorem dX12_refuses_17 : decode cX12_refuses 17 = .ok (.ireturn, 1) := by decide +kernel
abbrev mX12_refuses : zq_M := (cX12_refuses, RX12, "refuses", (some .int), 2)
theorem dX12_good_0 : decode cX12_good 0 = .ok (.aload_n 0, 1) := by decide +kernel
theorem dX12_good_1 : decode cX12_good 1 = .ok (.iconst 0, 1) := by decide +kernel
theorem dX12_good_2 : decode cX12_good 2 = .ok (.putfield 3, 3) := by decide +kernel
theorem dX12_good_5 : decode cX12_good 5 = .ok (.iload_n 1, 1) := by decide +kernel
theorem dX12_good_6 : decode cX12_good 6 = .ok (.ireturn, 1) := by decide +kernel
abbrev mX12_good : zq_M := (cX12_good, RX12, "good", (some .int), 2)
theorem dX12_settled_0 : decode cX12_settled 0 = .ok (.aload_n 0, 1) := by decide +kernel
theorem dX12_settled_1 : decode cX12_settled 1 = .ok (.iconst 0, 1) := by decide +kernel
theorem dX12_settled_2 : decode cX12_settled 2 = .ok (.putfield 11, 3) := by decide +kernel
theorem dX12_settled_5 : decode cX12_settled 5 = .ok (.aload_n 0, 1) := by decide +kernel
theorem dX12_settled_6 : decode cX12_settled 6 = .ok (.iload_n 1, 1) := by decide +kernel
theorem dX12_settled_7 : decode cX12_settled 7 = .ok (.invokevirtual 14, 3) := by decide +kernel
theorem dX12_settled_10 : decode cX12_settled 10 = .ok (.ireturn, 1) := by decide +kernel
abbrev mX12_settled : zq_M := (cX12_settled, RX12, "settled", (some .int), 2)
theorem dX12_isLetter_0 : decode cX12_isLetter 0 = .ok (.iload_n 0, 1) := by decide +kernel
theorem dX12_isLetter_1 : decode cX12_isLetter 1 = .ok (.iconst 1, 1) := by decide +kernel
theorem dX12_isLetter_2 : decode cX12_isLetter 2 = .ok (.iconst 5, 1) := by decide +kernel
theorem dX12_isLetter_3 : decode cX12_isLetter 3 = .ok (.invokestatic 18, 3) := by decide +kernel
theorem dX12_isLetter_6 : decode cX12_isLetter 6 = .ok (.ireturn, 1) := by decide +kernel
abbrev mX12_isLetter : zq_M := (cX12_isLetter, RX12, "isLetter", (some .boolean), 1)
theorem dX12_lesser_0 : decode cX12_lesser 0 = .ok (.iload_n 0, 1) := by decide +kernel
theorem dX12_lesser_1 : decode cX12_lesser 1 = .ok (.iload_n 1, 1) := by decide +kernel
theorem dX12_lesser_2 : decode cX12_lesser 2 = .ok (.if_icmp .ge 7, 3) := by decide +kernel
theorem dX12_lesser_5 : decode cX12_lesser 5 = .ok (.iload_n 0, 1) := by decide +kernel
theorem dX12_lesser_6 : decode cX12_lesser 6 = .ok (.goto 4, 3) := by decide +kernel
theorem dX12_lesser_9 : decode cX12_lesser 9 = .ok (.iload_n 1, 1) := by decide +kernel
theorem dX12_lesser_10 : decode cX12_lesser 10 = .ok (.ireturn, 1) := by decide +kernel
abbrev mX12_lesser : zq_M := (cX12_lesser, RX12, "lesser", (some .int), 2)
theorem dX12_greater_0 : decode cX12_greater 0 = .ok (.iload_n 0, 1) := by decide +kernel
theorem dX12_greater_1 : decode cX12_greater 1 = .ok (.iload_n 1, 1) := by decide +kernel
theorem dX12_greater_2 : decode cX12_greater 2 = .ok (.if_icmp .le 7, 3) := by decide +kernel
theorem dX12_greater_5 : decode cX12_greater 5 = .ok (.iload_n 0, 1) := by decide +kernel
theorem dX12_greater_6 : decode cX12_greater 6 = .ok (.goto 4, 3) := by decide +kernel
theorem dX12_greater_9 : decode cX12_greater 9 = .ok (.iload_n 1, 1) := by decide +kernel
theorem dX12_greater_10 : decode cX12_greater 10 = .ok (.ireturn, 1) := by decide +kernel
abbrev mX12_greater : zq_M := (cX12_greater, RX12, "greater", (some .int), 2)
section ZL1
variable {l : Launch} {G : zq_G} {D n : Nat} {f : Nat → zq_E} {σ : zm_S} {ρ : Nat → zq_E} {post : Option Value → Nat → (Nat → zq_E) → Prop}
theorem zm_lies {v a b : Int32} (hp : post (some (.int (if a ≤ v ∧ v ≤ b then 1 else 0))) n f) : zq_Runs l G D 0 0 yX12_lies [.int v, .int a, .int b] n f post := by
  refine zq_enter (cc := cX12_lies) (nL := 3) (ret := (some .boolean)) cw_X12_lies (by decide) rfl (Nat.le_of_ble_eq_true rfl) ?_
  refine at_iload_n dX12_lies_0 rfl ?_
  refine at_iload_n dX12_lies_1 rfl ?_
  refine at_icmp_lt (tgt := 14) dX12_lies_2 (by decide) (fun c2 => ?_) (fun c2 => ?_)
  · refine at_iconst dX12_lies_14 (v := nI 0) (by decide) ?_
    refine at_zret dX12_lies_15 rfl (by omega) (by omega) (by first | exact Or.inl rfl | exact Or.inr rfl | assumption) ?_
    sorry
  · refine at_iload_n dX12_lies_5 rfl ?_
    refine at_iload_n dX12_lies_6 rfl ?_
    refine at_icmp_gt (tgt := 14) dX12_lies_7 (by decide) (fun c7 => ?_) (fun c7 => ?_)
    · refine at_iconst dX12_lies_14 (v := nI 0) (by decide) ?_
      refine at_zret dX12_lies_15 rfl (by omega) (by omega) (by first | exact Or.inl rfl | exact Or.inr rfl | assumption) ?_
      sorry
    · refine at_iconst dX12_lies_10 (v := nI 1) (by decide) ?_
      refine at_goto (tgt := 15) dX12_lies_11 (by decide) ?_
      refine at_zret dX12_lies_15 rfl (by omega) (by omega) (by first | exact Or.inl rfl | exact Or.inr rfl | assumption) ?_
      sorry
theorem zm_refuses {k : Int32} {j : Nat} (hk : -k = nI j) (hj : j < 7) (hp : post (some (.int k)) n (zm_h (zm_sa (zm_si σ 0 k) 71 j (σ.2.1 71 j + nI 1)) ρ)) : zq_Runs l G D 0 0 yX12_refuses [.ref 70, .int k] n (zm_h σ ρ) post := by
  refine zq_enter (cc := cX12_refuses) (nL := 2) (ret := (some .int)) cw_X12_refuses (by decide) rfl (Nat.le_of_ble_eq_true rfl) ?_
  refine at_aload_n dX12_refuses_0 rfl ?_
  refine at_iload_n dX12_refuses_1 rfl ?_
  refine at_mput dX12_refuses_2 (pl_X12_3 _) (fun _ => ⟨_, rfl⟩) rfl rfl ?_
  refine at_aload_n dX12_refuses_5 rfl ?_
  refine at_get dX12_refuses_6 fl_X12_7 rfl rfl ?_
  refine at_iload_n dX12_refuses_9 rfl ?_
  refine at_ineg dX12_refuses_10 ?_
  refine at_dup2 dX12_refuses_11 rfl rfl ?_
  refine at_mald (a := 71) dX12_refuses_12 (by decide) (by decide) (by decide) (by decide) rfl hk hj (by decide) ?_
  refine at_iconst dX12_refuses_13 (v := nI 1) (by decide) ?_
  refine at_iadd dX12_refuses_14 ?_
  refine at_mast (a := 71) dX12_refuses_15 (by decide) (by decide) (by decide) (by decide) rfl hk hj (by decide) ?_
  refine at_iload_n dX12_refuses_16 rfl ?_
  refine at_iret dX12_refuses_17 rfl (by omega) (by omega) ?_
  exact hp
theorem zm_good {v : Int32} (hp : post (some (.int v)) n (zm_h (zm_si σ 0 0) ρ)) : zq_Runs l G D 0 0 yX12_good [.ref 70, .int v] n (zm_h σ ρ) post := by
  refine zq_enter (cc := cX12_good) (nL := 2) (ret := (some .int)) cw_X12_good (by decide) rfl (Nat.le_of_ble_eq_true rfl) ?_
  refine at_aload_n dX12_good_0 rfl ?_
  refine at_iconst dX12_good_1 (v := nI 0) (by decide) ?_
  refine at_mput dX12_good_2 (pl_X12_3 _) (fun _ => ⟨_, rfl⟩) rfl rfl ?_
  refine at_iload_n dX12_good_5 rfl ?_
  refine at_iret dX12_good_6 rfl (by omega) (by omega) ?_
  exact hp
end ZL1

