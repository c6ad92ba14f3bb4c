/-! ===== the class: a token's number ===== -/
section ZC40
variable {l : Launch} {G : zq_G} {D n : Nat} {ρ f : Nat → zq_E} {post : Option Value → Nat → (Nat → zq_E) → Prop} {κ : zl_S}
/-- a token's number: w which word it is -/
def ztkn (T : Nat → Int32) (k e w : Nat) : Int32 := if zsm (T k) = true then nI (256 + w) else if zdg (T k) = true then nI (1000 + min (znumF T (e - k) k 0) 1001) else T k
theorem zc_tokenOf {a k e w : Nat} (hD : 2 ≤ D) (ha : zl_isA a = true) (hl : zl_len a = 400) (he : e ≤ 400) (hk : k < e) (hdg : zdg (κ.2.1 a k) = true → ∀ j, k ≤ j → j < e → zdg (κ.2.1 a j) = true)
    (hW : zsm (κ.2.1 a k) = true → ∀ post' : Option Value → Nat → (Nat → zq_E) → Prop, post' (some (.int (nI w))) n (zl_h κ ρ) → zq_Runs l G (D - 1) 0 0 yX8_wordOf [.ref a, .int (nI k), .int (nI e)] n (zl_h κ ρ) post')
    (hp : post (some (.int (ztkn (κ.2.1 a) k e w))) n (zl_h κ ρ)) : zq_Runs l G D 0 0 yX8_tokenOf [.ref a, .int (nI k), .int (nI e)] n (zl_h κ ρ) post := by
  unfold ztkn at hp
  refine zq_enter (cc := cX8_tokenOf) (nL := 6) (ret := (some .int)) cw_X8_tokenOf (by decide) rfl (Nat.le_of_ble_eq_true rfl) ?_
  by_cases h1 : zsm (κ.2.1 a k) = true
  · rw [if_pos h1] at hp
    have e1 : zkd (κ.2.1 a k) = 1 := zkd_1.mpr h1
    refine at_aload_n dX8_tokenOf_0 rfl ?_
    refine at_iload_n dX8_tokenOf_1 rfl ?_
    refine at_lald2 dX8_tokenOf_2 ha rfl (by rw [hl]; omega) (by rw [hl]; first | decide | omega) ?_
    refine at_callS1 (d := D - 1) dX8_tokenOf_3 ms_X8_78 (Nat.le_of_ble_eq_true rfl) (zq_r0 (by omega) (by omega) (by omega)) ?_
    refine zc_kindOfB ?_
    rw [e1]
    refine at_istore_n dX8_tokenOf_6 rfl (by decide) ?_
    refine at_iload_n dX8_tokenOf_7 rfl ?_
    refine at_if_neN (tgt := 15) dX8_tokenOf_8 (by decide) (by omega) (fun c8 => ?_) (fun c8 => ?_)
    · refine at_iload_n dX8_tokenOf_15 rfl ?_
      refine at_iconst dX8_tokenOf_16 (v := nI 1) (by decide) ?_
      refine at_neN (tgt := 31) dX8_tokenOf_17 (by decide) (by omega) (by omega) (fun c17 => ?_) (fun c17 => ?_)
      · omega
      · refine at_sipush dX8_tokenOf_20 (v := nI 256) (by decide) ?_
        refine at_aload_n dX8_tokenOf_23 rfl ?_
        refine at_iload_n dX8_tokenOf_24 rfl ?_
        refine at_iload_n dX8_tokenOf_25 rfl ?_
        refine at_callS3 (d := D - 1) dX8_tokenOf_26 ms_X8_82 (Nat.le_of_ble_eq_true rfl) (zq_r0 (by omega) (by omega) (by omega)) ?_
        refine hW h1 _ ?_
        refine at_iaddN dX8_tokenOf_29 ?_
        refine at_iret dX8_tokenOf_30 rfl (by omega) (by omega) ?_
        exact hp
    · omega
  · rw [if_neg h1] at hp
    by_cases h2 : zdg (κ.2.1 a k) = true
    · rw [if_pos h2] at hp
      have e1 : zkd (κ.2.1 a k) = 2 := zkd_2.mpr h2
      have hn := zc_num_loop (l := l) (G := G) (D := D) (n := n) (ρ := ρ) (post := post) (k := k) (kd := nI 2) (by omega) ha hl he _ hp (e - k) k 0 (by omega) (hdg h2) rfl
      refine at_aload_n dX8_tokenOf_0 rfl ?_
      refine at_iload_n dX8_tokenOf_1 rfl ?_
      refine at_lald2 dX8_tokenOf_2 ha rfl (by rw [hl]; omega) (by rw [hl]; first | decide | omega) ?_
      refine at_callS1 (d := D - 1) dX8_tokenOf_3 ms_X8_78 (Nat.le_of_ble_eq_true rfl) (zq_r0 (by omega) (by omega) (by omega)) ?_
      refine zc_kindOfB ?_
      rw [e1]
      refine at_istore_n dX8_tokenOf_6 rfl (by decide) ?_
      refine at_iload_n dX8_tokenOf_7 rfl ?_
      refine at_if_neN (tgt := 15) dX8_tokenOf_8 (by decide) (by omega) (fun c8 => ?_) (fun c8 => ?_)
      · refine at_iload_n dX8_tokenOf_15 rfl ?_
        refine at_iconst dX8_tokenOf_16 (v := nI 1) (by decide) ?_
        refine at_neN (tgt := 31) dX8_tokenOf_17 (by decide) (by omega) (by omega) (fun c17 => ?_) (fun c17 => ?_)
        · refine at_iconst dX8_tokenOf_31 (v := nI 0) (by decide) ?_
          refine at_istore dX8_tokenOf_32 (by decide) ?_
          refine at_iload_n dX8_tokenOf_34 rfl ?_
          refine at_istore dX8_tokenOf_35 (by decide) ?_
          exact hn
        · omega
      · omega
    · rw [if_neg h2] at hp
      have e1 : zkd (κ.2.1 a k) = 0 := by unfold zkd; rw [if_neg h1, if_neg h2]
      refine at_aload_n dX8_tokenOf_0 rfl ?_
      refine at_iload_n dX8_tokenOf_1 rfl ?_
      refine at_lald2 dX8_tokenOf_2 ha rfl (by rw [hl]; omega) (by rw [hl]; first | decide | omega) ?_
      refine at_callS1 (d := D - 1) dX8_tokenOf_3 ms_X8_78 (Nat.le_of_ble_eq_true rfl) (zq_r0 (by omega) (by omega) (by omega)) ?_
      refine zc_kindOfB ?_
      rw [e1]
      refine at_istore_n dX8_tokenOf_6 rfl (by decide) ?_
      refine at_iload_n dX8_tokenOf_7 rfl ?_
      refine at_if_neN (tgt := 15) dX8_tokenOf_8 (by decide) (by omega) (fun c8 => ?_) (fun c8 => ?_)
      · exact absurd rfl c8
      · refine at_aload_n dX8_tokenOf_11 rfl ?_
        refine at_iload_n dX8_tokenOf_12 rfl ?_
        refine at_lald2 dX8_tokenOf_13 ha rfl (by rw [hl]; omega) (by rw [hl]; first | decide | omega) ?_
        refine at_iret dX8_tokenOf_14 rfl (by omega) (by omega) ?_
        exact hp
end ZC40

