/-! ===== the class: numbers as tokens ===== -/
section ZC38
variable {l : Launch} {G : zq_G} {D n : Nat} {ρ f : Nat → zq_E} {post : Option Value → Nat → (Nat → zq_E) → Prop} {κ : zl_S}
theorem zdg_nat {b : Int32} (h : zdg b = true) : ∃ t, 48 ≤ t ∧ t ≤ 57 ∧ b = nI t := by
  unfold zdg at h
  rw [Bool.and_eq_true, decide_eq_true_eq, decide_eq_true_eq, Int32.le_iff_toInt_le, Int32.le_iff_toInt_le, show (nI 48).toInt = 48 by decide, show (nI 57).toInt = 57 by decide] at h
  refine ⟨b.toInt.toNat, by omega, by omega, ?_⟩
  rw [← zI_n, Int.toNat_of_nonneg (by omega)]
  exact (zI_of b).symm
theorem zc_num_loop {a k e : Nat} {kd : Int32} (hD : 1 ≤ D) (ha : zl_isA a = true) (hl : zl_len a = 400) (he : e ≤ 400) (R : Nat) (hp : post (some (.int (nI (1000 + min R 1001)))) n (zl_h κ ρ)) :
    ∀ f i x, i + f = e → (∀ j, i ≤ j → j < e → zdg (κ.2.1 a j) = true) → znumF (κ.2.1 a) f i x = R → zq_At l G (zq_rm D 0 0) mX8_tokenOf (zq_QF G post 0 0) 37 [(0, .ref a), (1, .int (nI k)), (2, .int (nI e)), (3, .int kd), (4, .int (nI (min x 1001))), (5, .int (nI i))] [] n (zl_h κ ρ) 0 0 := by
  intro f
  induction f with
  | zero =>
    intro i x hi hd hR
    have hR : x = R := hR
    subst hR
    refine at_iload dX8_tokenOf_37 rfl ?_
    refine at_iload_n dX8_tokenOf_39 rfl ?_
    refine at_geN (tgt := 77) dX8_tokenOf_40 (by decide) (by omega) (by omega) (fun c40 => ?_) (fun c40 => ?_)
    · refine at_sipush dX8_tokenOf_77 (v := nI 1000) (by decide) ?_
      refine at_iload dX8_tokenOf_80 rfl ?_
      refine at_iaddN dX8_tokenOf_82 ?_
      refine at_iret dX8_tokenOf_83 rfl (by omega) (by omega) ?_
      exact hp
    · omega
  | succ f ih =>
    intro i x hi hd hR
    obtain ⟨t, t1, t2, t3⟩ := zdg_nat (hd i (Nat.le_refl _) (by omega))
    have hx : min x 1001 ≤ 1001 := Nat.min_le_right _ _
    have hR : znumF (κ.2.1 a) f (i + 1) (if 1000000 < x then x else 10 * x + ((κ.2.1 a i).toNatClampNeg - 48)) = R := hR
    rw [t3, nI_clamp (by omega)] at hR
    have hn := ih (i + 1) _ (by omega) (fun j h1 h2 => hd j (by omega) h2) hR
    have hm : min (if 1000000 < x then x else 10 * x + (t - 48)) 1001 = min 1001 (min x 1001 * 10 + t - 48) := by
      split <;> omega
    rw [hm] at hn
    refine at_iload dX8_tokenOf_37 rfl ?_
    refine at_iload_n dX8_tokenOf_39 rfl ?_
    refine at_geN (tgt := 77) dX8_tokenOf_40 (by decide) (by omega) (by omega) (fun c40 => ?_) (fun c40 => ?_)
    · omega
    · refine at_iload dX8_tokenOf_43 rfl ?_
      refine at_aload_n dX8_tokenOf_45 rfl ?_
      refine at_alen dX8_tokenOf_46 (zl_a ha) (by decide) (v := nI 400) (by rw [hl]; rfl) ?_
      refine at_geN (tgt := 77) dX8_tokenOf_47 (by decide) (by omega) (by omega) (fun c47 => ?_) (fun c47 => ?_)
      · omega
      · refine at_iload dX8_tokenOf_50 rfl ?_
        refine at_bipush dX8_tokenOf_52 (v := nI 10) (by decide) ?_
        refine at_imulN dX8_tokenOf_54 ?_
        refine at_aload_n dX8_tokenOf_55 rfl ?_
        refine at_iload dX8_tokenOf_56 rfl ?_
        refine at_lald2 dX8_tokenOf_58 ha rfl (by rw [hl]; omega) (by rw [hl]; first | decide | omega) ?_
        rw [t3]
        refine at_iaddN dX8_tokenOf_59 ?_
        refine at_bipush dX8_tokenOf_60 (v := nI 48) (by decide) ?_
        refine at_isubN dX8_tokenOf_62 (by omega) ?_
        refine at_sipush dX8_tokenOf_63 (v := nI 1001) (by decide) ?_
        refine at_mmin dX8_tokenOf_66 (ms_X8_41.1.resolve_right (by decide)) (Nat.le_of_ble_eq_true rfl) ⟨by show 1 ≤ D; omega, by show 21 ≤ 60 * D; omega, by omega, by omega⟩ ?_
        rw [zless (by omega) (by omega)]
        refine at_istore dX8_tokenOf_69 (by decide) ?_
        refine at_iincN dX8_tokenOf_71 rfl (by decide) ?_
        refine at_goto (tgt := 37) dX8_tokenOf_74 (by decide) ?_
        exact hn
end ZC38

