/-! ===== the Model: of, asks, the words of orders ===== -/
theorem dX12_of_0 : decode cX12_of 0 = .ok (.aload_n 0, 1) := by decide +kernel
theorem dX12_of_1 : decode cX12_of 1 = .ok (.iload_n 1, 1) := by decide +kernel
theorem dX12_of_2 : decode cX12_of 2 = .ok (.invokevirtual 152, 3) := by decide +kernel
theorem dX12_of_5 : decode cX12_of 5 = .ok (.ifCond .ne 5, 3) := by decide +kernel
theorem dX12_of_8 : decode cX12_of 8 = .ok (.iconst (-1), 1) := by decide +kernel
theorem dX12_of_9 : decode cX12_of 9 = .ok (.ireturn, 1) := by decide +kernel
theorem dX12_of_10 : decode cX12_of 10 = .ok (.iload_n 2, 1) := by decide +kernel
theorem dX12_of_11 : decode cX12_of 11 = .ok (.tableswitch 64 0 3 #[29, 38, 44, 50], 29) := by decide +kernel
theorem dX12_of_40 : decode cX12_of 40 = .ok (.aload_n 0, 1) := by decide +kernel
theorem dX12_of_41 : decode cX12_of 41 = .ok (.getfield 42, 3) := by decide +kernel
theorem dX12_of_44 : decode cX12_of 44 = .ok (.iconst 0, 1) := by decide +kernel
theorem dX12_of_45 : decode cX12_of 45 = .ok (.iload_n 1, 1) := by decide +kernel
theorem dX12_of_46 : decode cX12_of 46 = .ok (.iadd, 1) := by decide +kernel
theorem dX12_of_47 : decode cX12_of 47 = .ok (.iaload, 1) := by decide +kernel
theorem dX12_of_48 : decode cX12_of 48 = .ok (.ireturn, 1) := by decide +kernel
theorem dX12_of_49 : decode cX12_of 49 = .ok (.aload_n 0, 1) := by decide +kernel
theorem dX12_of_50 : decode cX12_of 50 = .ok (.iload_n 1, 1) := by decide +kernel
theorem dX12_of_51 : decode cX12_of 51 = .ok (.invokevirtual 155, 3) := by decide +kernel
theorem dX12_of_54 : decode cX12_of 54 = .ok (.ireturn, 1) := by decide +kernel
theorem dX12_of_55 : decode cX12_of 55 = .ok (.aload_n 0, 1) := by decide +kernel
theorem dX12_of_56 : decode cX12_of 56 = .ok (.iload_n 1, 1) := by decide +kernel
theorem dX12_of_57 : decode cX12_of 57 = .ok (.invokevirtual 158, 3) := by decide +kernel
theorem dX12_of_60 : decode cX12_of 60 = .ok (.ireturn, 1) := by decide +kernel
theorem dX12_of_61 : decode cX12_of 61 = .ok (.aload_n 0, 1) := by decide +kernel
theorem dX12_of_62 : decode cX12_of 62 = .ok (.iload_n 1, 1) := by decide +kernel
theorem dX12_of_63 : decode cX12_of 63 = .ok (.invokevirtual 161, 3) := by decide +kernel
theorem dX12_of_66 : decode cX12_of 66 = .ok (.ifCond .eq 7, 3) := by decide +kernel
theorem dX12_of_69 : decode cX12_of 69 = .ok (.iconst 1, 1) := by decide +kernel
theorem dX12_of_70 : decode cX12_of 70 = .ok (.goto 4, 3) := by decide +kernel
theorem dX12_of_73 : decode cX12_of 73 = .ok (.iconst 0, 1) := by decide +kernel
theorem dX12_of_74 : decode cX12_of 74 = .ok (.ireturn, 1) := by decide +kernel
theorem dX12_of_75 : decode cX12_of 75 = .ok (.iconst (-1), 1) := by decide +kernel
theorem dX12_of_76 : decode cX12_of 76 = .ok (.ireturn, 1) := by decide +kernel
abbrev mX12_of : zq_M := (cX12_of, RX12, "of", (some .int), 3)
theorem dX12_asks_0 : decode cX12_asks 0 = .ok (.aload_n 0, 1) := by decide +kernel
theorem dX12_asks_1 : decode cX12_asks 1 = .ok (.iload_n 1, 1) := by decide +kernel
theorem dX12_asks_2 : decode cX12_asks 2 = .ok (.invokevirtual 152, 3) := by decide +kernel
theorem dX12_asks_5 : decode cX12_asks 5 = .ok (.ifCond .eq 47, 3) := by decide +kernel
theorem dX12_asks_8 : decode cX12_asks 8 = .ok (.iload_n 3, 1) := by decide +kernel
theorem dX12_asks_9 : decode cX12_asks 9 = .ok (.invokestatic 32, 3) := by decide +kernel
theorem dX12_asks_12 : decode cX12_asks 12 = .ok (.ifCond .eq 40, 3) := by decide +kernel
theorem dX12_asks_15 : decode cX12_asks 15 = .ok (.iload_n 2, 1) := by decide +kernel
theorem dX12_asks_16 : decode cX12_asks 16 = .ok (.iconst 0, 1) := by decide +kernel
theorem dX12_asks_17 : decode cX12_asks 17 = .ok (.aload_n 0, 1) := by decide +kernel
theorem dX12_asks_18 : decode cX12_asks 18 = .ok (.getfield 42, 3) := by decide +kernel
theorem dX12_asks_21 : decode cX12_asks 21 = .ok (.iconst 0, 1) := by decide +kernel
theorem dX12_asks_22 : decode cX12_asks 22 = .ok (.iload_n 1, 1) := by decide +kernel
theorem dX12_asks_23 : decode cX12_asks 23 = .ok (.iadd, 1) := by decide +kernel
theorem dX12_asks_24 : decode cX12_asks 24 = .ok (.iaload, 1) := by decide +kernel
theorem dX12_asks_25 : decode cX12_asks 25 = .ok (.invokestatic 22, 3) := by decide +kernel
theorem dX12_asks_28 : decode cX12_asks 28 = .ok (.iconst 1, 1) := by decide +kernel
theorem dX12_asks_29 : decode cX12_asks 29 = .ok (.isub, 1) := by decide +kernel
theorem dX12_asks_30 : decode cX12_asks 30 = .ok (.invokestatic 18, 3) := by decide +kernel
theorem dX12_asks_33 : decode cX12_asks 33 = .ok (.ifCond .eq 19, 3) := by decide +kernel
theorem dX12_asks_36 : decode cX12_asks 36 = .ok (.aload_n 0, 1) := by decide +kernel
theorem dX12_asks_37 : decode cX12_asks 37 = .ok (.getfield 42, 3) := by decide +kernel
theorem dX12_asks_40 : decode cX12_asks 40 = .ok (.iconst 0, 1) := by decide +kernel
theorem dX12_asks_41 : decode cX12_asks 41 = .ok (.iload_n 1, 1) := by decide +kernel
theorem dX12_asks_42 : decode cX12_asks 42 = .ok (.iadd, 1) := by decide +kernel
theorem dX12_asks_43 : decode cX12_asks 43 = .ok (.iaload, 1) := by decide +kernel
theorem dX12_asks_44 : decode cX12_asks 44 = .ok (.iload_n 2, 1) := by decide +kernel
theorem dX12_asks_45 : decode cX12_asks 45 = .ok (.invokestatic 28, 3) := by decide +kernel
theorem dX12_asks_48 : decode cX12_asks 48 = .ok (.iload_n 3, 1) := by decide +kernel
theorem dX12_asks_49 : decode cX12_asks 49 = .ok (.if_icmp .ne 5, 3) := by decide +kernel
theorem dX12_asks_52 : decode cX12_asks 52 = .ok (.iconst (-1), 1) := by decide +kernel
theorem dX12_asks_53 : decode cX12_asks 53 = .ok (.ireturn, 1) := by decide +kernel
theorem dX12_asks_54 : decode cX12_asks 54 = .ok (.aload_n 0, 1) := by decide +kernel
theorem dX12_asks_55 : decode cX12_asks 55 = .ok (.iload_n 1, 1) := by decide +kernel
theorem dX12_asks_56 : decode cX12_asks 56 = .ok (.iload_n 2, 1) := by decide +kernel
theorem dX12_asks_57 : decode cX12_asks 57 = .ok (.iload_n 3, 1) := by decide +kernel
theorem dX12_asks_58 : decode cX12_asks 58 = .ok (.invokevirtual 164, 3) := by decide +kernel
theorem dX12_asks_61 : decode cX12_asks 61 = .ok (.ireturn, 1) := by decide +kernel
abbrev mX12_asks : zq_M := (cX12_asks, RX12, "asks", (some .int), 4)
theorem dX12_orderValue_0 : decode cX12_orderValue 0 = .ok (.iload_n 1, 1) := by decide +kernel
theorem dX12_orderValue_1 : decode cX12_orderValue 1 = .ok (.tableswitch 80 15 21 #[56, 64, 69, 74, 80, 43, 49], 43) := by decide +kernel
theorem dX12_orderValue_44 : decode cX12_orderValue 44 = .ok (.aload_n 0, 1) := by decide +kernel
theorem dX12_orderValue_45 : decode cX12_orderValue 45 = .ok (.iload_n 2, 1) := by decide +kernel
theorem dX12_orderValue_46 : decode cX12_orderValue 46 = .ok (.invokevirtual 322, 3) := by decide +kernel
theorem dX12_orderValue_49 : decode cX12_orderValue 49 = .ok (.ireturn, 1) := by decide +kernel
theorem dX12_orderValue_50 : decode cX12_orderValue 50 = .ok (.aload_n 0, 1) := by decide +kernel
theorem dX12_orderValue_51 : decode cX12_orderValue 51 = .ok (.iload_n 2, 1) := by decide +kernel
theorem dX12_orderValue_52 : decode cX12_orderValue 52 = .ok (.iconst 0, 1) := by decide +kernel
theorem dX12_orderValue_53 : decode cX12_orderValue 53 = .ok (.invokevirtual 325, 3) := by decide +kernel
theorem dX12_orderValue_56 : decode cX12_orderValue 56 = .ok (.ireturn, 1) := by decide +kernel
theorem dX12_orderValue_57 : decode cX12_orderValue 57 = .ok (.aload_n 0, 1) := by decide +kernel
theorem dX12_orderValue_58 : decode cX12_orderValue 58 = .ok (.getfield 42, 3) := by decide +kernel
theorem dX12_orderValue_61 : decode cX12_orderValue 61 = .ok (.bipush 19, 2) := by decide +kernel
theorem dX12_orderValue_63 : decode cX12_orderValue 63 = .ok (.iaload, 1) := by decide +kernel
theorem dX12_orderValue_64 : decode cX12_orderValue 64 = .ok (.ireturn, 1) := by decide +kernel
theorem dX12_orderValue_65 : decode cX12_orderValue 65 = .ok (.aload_n 0, 1) := by decide +kernel
theorem dX12_orderValue_66 : decode cX12_orderValue 66 = .ok (.getfield 328, 3) := by decide +kernel
theorem dX12_orderValue_69 : decode cX12_orderValue 69 = .ok (.ireturn, 1) := by decide +kernel
theorem dX12_orderValue_70 : decode cX12_orderValue 70 = .ok (.aload_n 0, 1) := by decide +kernel
theorem dX12_orderValue_71 : decode cX12_orderValue 71 = .ok (.getfield 331, 3) := by decide +kernel
theorem dX12_orderValue_74 : decode cX12_orderValue 74 = .ok (.ireturn, 1) := by decide +kernel
theorem dX12_orderValue_75 : decode cX12_orderValue 75 = .ok (.aload_n 0, 1) := by decide +kernel
theorem dX12_orderValue_76 : decode cX12_orderValue 76 = .ok (.iconst (-1), 1) := by decide +kernel
theorem dX12_orderValue_77 : decode cX12_orderValue 77 = .ok (.invokevirtual 334, 3) := by decide +kernel
theorem dX12_orderValue_80 : decode cX12_orderValue 80 = .ok (.ireturn, 1) := by decide +kernel
theorem dX12_orderValue_81 : decode cX12_orderValue 81 = .ok (.aload_n 0, 1) := by decide +kernel
theorem dX12_orderValue_82 : decode cX12_orderValue 82 = .ok (.invokevirtual 337, 3) := by decide +kernel
theorem dX12_orderValue_85 : decode cX12_orderValue 85 = .ok (.ireturn, 1) := by decide +kernel
abbrev mX12_orderValue : zq_M := (cX12_orderValue, RX12, "orderValue", (some .int), 3)
section ZL27
variable {l : Launch} {G : zq_G} {D n m : Nat} {σ : zm_S} {ρ : Nat → zq_E} {post : Option Value → Nat → (Nat → zq_E) → Prop} {x w rk : Nat → Nat}
def zofA (K : Nat → Int32) (m p x : Nat) (what : Int32) (Lo : Option (List zLC)) : Int32 :=
  if what = nI 0 then K p else if what = nI 1 then zplace K (nI p) m else if what = nI 2 then zI (ztell (zlwV K m p x (-1) (-1)) 2 1 Lo) else if what = nI 3 then zb (zbar K m p x Lo) else -1
theorem zm_of0 {p : Int32} (hD : 2 ≤ D) (hC : zC σ m x w rk) (hp : post (some (.int (if zix m p = true then σ.2.1 72 p.toNatClampNeg else -1))) n (zm_h σ ρ)) : zq_Runs l G D 0 0 yX12_of [.ref 70, .int p, .int (nI 0)] n (zm_h σ ρ) post := by
  have hm := hC.1
  have hm7 := hC.2.1
  refine zq_enter (cc := cX12_of) (nL := 3) (ret := (some .int)) cw_X12_of (by decide) rfl (Nat.le_of_ble_eq_true rfl) ?_
  refine at_aload_n dX12_of_0 rfl ?_
  refine at_iload_n dX12_of_1 rfl ?_
  refine at_callV1 (d := D - 1) dX12_of_2 mv_X12_152 rfl (Nat.le_of_ble_eq_true rfl) (zq_r0 (by omega) (by omega) (by omega)) ?_
  refine zm_isPerson (by omega) hm hm7 ?_
  refine at_if_neB (tgt := 10) dX12_of_5 (by decide) (fun c5 => ?_) (fun c5 => ?_)
  · rw [if_pos c5] at hp
    obtain ⟨j, hj, rfl⟩ := zix_t c5
    rw [nI_clamp (by omega)] at hp
    refine at_iload_n dX12_of_10 rfl ?_
    refine at_tableIn (tgt := 40) dX12_of_11 (by decide) (by decide) rfl (by decide) ?_
    refine at_aload_n dX12_of_40 rfl ?_
    refine at_get dX12_of_41 fl_X12_42 rfl rfl ?_
    refine at_iconst dX12_of_44 (v := nI 0) (by decide) ?_
    refine at_iload_n dX12_of_45 rfl ?_
    refine at_iaddN dX12_of_46 ?_
    refine at_mald (a := 72) dX12_of_47 (by decide) (by decide) (by decide) (by decide) rfl rfl (by show _ < 5684; omega) (by decide) ?_
    rw [Nat.zero_add j]
    refine at_iret dX12_of_48 rfl (by omega) (by omega) ?_
    exact hp
  · rw [if_neg (by rw [c5]; decide)] at hp
    refine at_iconst dX12_of_8 (v := -1) rfl ?_
    refine at_iret dX12_of_9 rfl (by omega) (by omega) ?_
    exact hp
theorem zm_of {p what : Int32} {Lo : Option (List zLC)} (hD : 75 ≤ D) (hC : zC σ m x w rk) (h72 : zSm (σ.2.1 72 72)) (h19 : zSm (σ.2.1 72 19)) (hF : zForce (σ.2.1 72) Lo) (hf : zix m p = false → post (some (.int (-1))) n (zm_h σ ρ))
    (ht : ∀ j τ, j < m → p = nI j → zTe τ σ → post (some (.int (zofA (σ.2.1 72) m j (x j) what Lo))) n (zm_h τ ρ)) : zq_Runs l G D 0 0 yX12_of [.ref 70, .int p, .int what] n (zm_h σ ρ) post := by
  have hm := hC.1
  have hm7 := hC.2.1
  refine zq_enter (cc := cX12_of) (nL := 3) (ret := (some .int)) cw_X12_of (by decide) rfl (Nat.le_of_ble_eq_true rfl) ?_
  refine at_aload_n dX12_of_0 rfl ?_
  refine at_iload_n dX12_of_1 rfl ?_
  refine at_callV1 (d := D - 1) dX12_of_2 mv_X12_152 rfl (Nat.le_of_ble_eq_true rfl) (zq_r0 (by omega) (by omega) (by omega)) ?_
  refine zm_isPerson (by omega) hm hm7 ?_
  refine at_if_neB (tgt := 10) dX12_of_5 (by decide) (fun c5 => ?_) (fun c5 => ?_)
  · obtain ⟨j, hj, rfl⟩ := zix_t c5
    have ht := fun τ => ht j τ hj rfl
    unfold zofA at ht
    refine at_iload_n dX12_of_10 rfl ?_
    rcases zsw (x := what) 3 (by decide) with ⟨q, hq, rfl⟩ | h
    · rcases (show q = 0 ∨ q = 1 ∨ q = 2 ∨ q = 3 by omega) with rfl | rfl | rfl | rfl
      · refine at_tableIn (tgt := 40) dX12_of_11 (by decide) (by decide) rfl (by decide) ?_
        rw [if_pos rfl] at ht
        have hp := ht σ (zTe_r _)
        refine at_aload_n dX12_of_40 rfl ?_
        refine at_get dX12_of_41 fl_X12_42 rfl rfl ?_
        refine at_iconst dX12_of_44 (v := nI 0) (by decide) ?_
        refine at_iload_n dX12_of_45 rfl ?_
        refine at_iaddN dX12_of_46 ?_
        refine at_mald (a := 72) dX12_of_47 (by decide) (by decide) (by decide) (by decide) rfl rfl (by show _ < 5684; omega) (by decide) ?_
        rw [Nat.zero_add j]
        refine at_iret dX12_of_48 rfl (by omega) (by omega) ?_
        exact hp
      · refine at_tableIn (tgt := 49) dX12_of_11 (by decide) (by decide) rfl (by decide) ?_
        rw [if_neg (by decide), if_pos rfl] at ht
        have hp := ht σ (zTe_r _)
        refine at_aload_n dX12_of_49 rfl ?_
        refine at_iload_n dX12_of_50 rfl ?_
        refine at_callV1 (d := D - 1) dX12_of_51 mv_X12_155 rfl (Nat.le_of_ble_eq_true rfl) (zq_r0 (by omega) (by omega) (by omega)) ?_
        refine zm_placeOf (by omega) hm hm7 ?_
        refine at_iret dX12_of_54 rfl (by omega) (by omega) ?_
        exact hp
      · refine at_tableIn (tgt := 55) dX12_of_11 (by decide) (by decide) rfl (by decide) ?_
        rw [if_neg (by decide), if_neg (by decide), if_pos rfl] at ht
        refine at_aload_n dX12_of_55 rfl ?_
        refine at_iload_n dX12_of_56 rfl ?_
        refine at_callV1 (d := D - 1) dX12_of_57 mv_X12_158 rfl (Nat.le_of_ble_eq_true rfl) (zq_r0 (by omega) (by omega) (by omega)) ?_
        refine zm_stepOf (by omega) hC hj h72 h19 hF (fun τ hτ => ?_)
        have hp := ht τ hτ
        refine at_iret dX12_of_60 rfl (by omega) (by omega) ?_
        exact hp
      · refine at_tableIn (tgt := 61) dX12_of_11 (by decide) (by decide) rfl (by decide) ?_
        rw [if_neg (by decide), if_neg (by decide), if_neg (by decide), if_pos rfl] at ht
        refine at_aload_n dX12_of_61 rfl ?_
        refine at_iload_n dX12_of_62 rfl ?_
        refine at_callV1 (d := D - 1) dX12_of_63 mv_X12_161 rfl (Nat.le_of_ble_eq_true rfl) (zq_r0 (by omega) (by omega) (by omega)) ?_
        refine zm_isBarred (by omega) hC hj h72 h19 hF (fun τ hτ => ?_)
        have hp := ht τ hτ
        refine at_if_eqB (tgt := 73) dX12_of_66 (by decide) (fun c66 => ?_) (fun c66 => ?_)
        · rw [c66] at hp
          refine at_iconst dX12_of_73 (v := nI 0) (by decide) ?_
          refine at_iret dX12_of_74 rfl (by omega) (by omega) ?_
          exact hp
        · rw [c66] at hp
          refine at_iconst dX12_of_69 (v := nI 1) (by decide) ?_
          refine at_goto (tgt := 74) dX12_of_70 (by decide) ?_
          refine at_iret dX12_of_74 rfl (by omega) (by omega) ?_
          exact hp
    · refine at_tableOut (tgt := 75) dX12_of_11 h (by decide) ?_
      rw [if_neg (zsw_ne h (by decide) (by decide)), if_neg (zsw_ne h (by decide) (by decide)), if_neg (zsw_ne h (by decide) (by decide)), if_neg (zsw_ne h (by decide) (by decide))] at ht
      have hp := ht σ (zTe_r _)
      refine at_iconst dX12_of_75 (v := -1) rfl ?_
      refine at_iret dX12_of_76 rfl (by omega) (by omega) ?_
      exact hp
  · have hp := hf c5
    refine at_iconst dX12_of_8 (v := -1) rfl ?_
    refine at_iret dX12_of_9 rfl (by omega) (by omega) ?_
    exact hp
/-- whether letter k of the name x may be asked to become y -/
def zaskOk (x : Nat) (k y : Int32) : Bool := (decide (nI 1 ≤ y) && decide (y ≤ nI 5)) && zix (zlen x) k && !decide (nI (zlt x k.toNatClampNeg) = y)
theorem zm_asks {p k y : Int32} {Lo : Option (List zLC)} (hD : 75 ≤ D) (hC : zC σ m x w rk) (h72 : zSm (σ.2.1 72 72)) (h19 : zSm (σ.2.1 72 19)) (hF : zForce (σ.2.1 72) Lo) (hf : zix m p = false → post (some (.int (-1))) n (zm_h σ ρ))
    (hf2 : ∀ j, j < m → p = nI j → zaskOk (x j) k y = false → post (some (.int (-1))) n (zm_h σ ρ))
    (ht : ∀ j τ, j < m → p = nI j → zaskOk (x j) k y = true → zTe τ σ → post (some (.int (zI (ztell (zlwV (σ.2.1 72) m j (x j) k y) 1 1 Lo)))) n (zm_h τ ρ)) : zq_Runs l G D 0 0 yX12_asks [.ref 70, .int p, .int k, .int y] n (zm_h σ ρ) post := by
  have hm := hC.1
  have hm7 := hC.2.1
  refine zq_enter (cc := cX12_asks) (nL := 4) (ret := (some .int)) cw_X12_asks (by decide) rfl (Nat.le_of_ble_eq_true rfl) ?_
  refine at_aload_n dX12_asks_0 rfl ?_
  refine at_iload_n dX12_asks_1 rfl ?_
  refine at_callV1 (d := D - 1) dX12_asks_2 mv_X12_152 rfl (Nat.le_of_ble_eq_true rfl) (zq_r0 (by omega) (by omega) (by omega)) ?_
  refine zm_isPerson (by omega) hm hm7 ?_
  refine at_if_eqB (tgt := 52) dX12_asks_5 (by decide) (fun c5 => ?_) (fun c5 => ?_)
  · have hp := hf c5
    refine at_iconst dX12_asks_52 (v := -1) rfl ?_
    refine at_iret dX12_asks_53 rfl (by omega) (by omega) ?_
    exact hp
  · obtain ⟨j, hj, rfl⟩ := zix_t c5
    have ht := fun τ => ht j τ hj rfl
    have hf2 := hf2 j hj rfl
    obtain ⟨hxj, hvj⟩ := hC.2.2.1 j hj
    have hv5 := hvj.2.1
    have hl4 := zlen_le (x j)
    unfold zaskOk at ht hf2
    refine at_iload_n dX12_asks_8 rfl ?_
    refine at_callS1 (d := D - 1) dX12_asks_9 ms_X12_32 (Nat.le_of_ble_eq_true rfl) (zq_r0 (by omega) (by omega) (by omega)) ?_
    refine zm_isLetter (by omega) ?_
    refine at_if_eqB (tgt := 52) dX12_asks_12 (by decide) (fun c12 => ?_) (fun c12 => ?_)
    · have hp := hf2 (by rw [c12]; rfl)
      refine at_iconst dX12_asks_52 (v := -1) rfl ?_
      refine at_iret dX12_asks_53 rfl (by omega) (by omega) ?_
      exact hp
    · refine at_iload_n dX12_asks_15 rfl ?_
      refine at_iconst dX12_asks_16 (v := nI 0) (by decide) ?_
      refine at_aload_n dX12_asks_17 rfl ?_
      refine at_get dX12_asks_18 fl_X12_42 rfl rfl ?_
      refine at_iconst dX12_asks_21 (v := nI 0) (by decide) ?_
      refine at_iload_n dX12_asks_22 rfl ?_
      refine at_iaddN dX12_asks_23 ?_
      refine at_mald (a := 72) dX12_asks_24 (by decide) (by decide) (by decide) (by decide) rfl rfl (by show _ < 5684; omega) (by decide) ?_
      rw [Nat.zero_add j, hxj]
      refine at_callS1 (d := D - 1) dX12_asks_25 ms_X12_22 (Nat.le_of_ble_eq_true rfl) (zq_r0 (by omega) (by omega) (by omega)) ?_
      refine zm_lengthOf (by omega) ?_
      refine at_iconst dX12_asks_28 (v := nI 1) (by decide) ?_
      refine at_isub dX12_asks_29 ?_
      skip
      refine at_callS3 (d := D - 1) dX12_asks_30 ms_X12_18 (Nat.le_of_ble_eq_true rfl) (zq_r0 (by omega) (by omega) (by omega)) ?_
      refine zm_lies ?_
      rw [zix_lies (by omega)]
      refine at_if_eqB (tgt := 52) dX12_asks_33 (by decide) (fun c33 => ?_) (fun c33 => ?_)
      · have hp := hf2 (by rw [c12, c33]; rfl)
        refine at_iconst dX12_asks_52 (v := -1) rfl ?_
        refine at_iret dX12_asks_53 rfl (by omega) (by omega) ?_
        exact hp
      · obtain ⟨q, hq, rfl⟩ := zix_t c33
        rw [nI_clamp (by omega)] at ht hf2
        refine at_aload_n dX12_asks_36 rfl ?_
        refine at_get dX12_asks_37 fl_X12_42 rfl rfl ?_
        refine at_iconst dX12_asks_40 (v := nI 0) (by decide) ?_
        refine at_iload_n dX12_asks_41 rfl ?_
        refine at_iaddN dX12_asks_42 ?_
        refine at_mald (a := 72) dX12_asks_43 (by decide) (by decide) (by decide) (by decide) rfl rfl (by show _ < 5684; omega) (by decide) ?_
        refine at_iload_n dX12_asks_44 rfl ?_
        rw [Nat.zero_add j, hxj]
        refine at_callS2 (d := D - 1) dX12_asks_45 ms_X12_28 (Nat.le_of_ble_eq_true rfl) (zq_r0 (by omega) (by omega) (by omega)) ?_
        refine zm_letterAt (by omega) (by omega) (by omega) ?_
        refine at_iload_n dX12_asks_48 rfl ?_
        refine at_icmp_ne (tgt := 54) dX12_asks_49 (by decide) (fun c49 => ?_) (fun c49 => ?_)
        · have ht := fun τ => ht τ (by rw [c12, c33, decide_eq_false c49]; rfl)
          refine at_aload_n dX12_asks_54 rfl ?_
          refine at_iload_n dX12_asks_55 rfl ?_
          refine at_iload_n dX12_asks_56 rfl ?_
          refine at_iload_n dX12_asks_57 rfl ?_
          refine at_callV3 (d := D - 1) dX12_asks_58 mv_X12_164 rfl (Nat.le_of_ble_eq_true rfl) (zq_r0 (by omega) (by omega) (by omega)) ?_
          refine zm_strokeOf (by omega) hC hj (Or.inr ⟨q, hq, rfl⟩) (by obtain ⟨y', h1, h2, rfl⟩ := zlies_n (by decide) (by decide) c12; exact zSm_n (by omega)) h72 h19 hF (fun τ hτ => ?_)
          have hp := ht τ hτ
          refine at_iret dX12_asks_61 rfl (by omega) (by omega) ?_
          exact hp
        · have hp := hf2 (by rw [c12, c33, decide_eq_true c49]; rfl)
          refine at_iconst dX12_asks_52 (v := -1) rfl ?_
          refine at_iret dX12_asks_53 rfl (by omega) (by omega) ?_
          exact hp
/-- what the words of orders come to -/
def zovV (σ : zm_S) (m : Nat) (x w rk : Nat → Nat) : Nat → Nat → Int := fun c k =>
  if c = 15 then (σ.2.1 72 19).toInt else if c = 16 then (σ.1 28).toInt else if c = 17 then (σ.1 29).toInt else if c = 18 then (zfind (zbk rk x w) (-1) (m - 1) 0 0).toInt else if c = 19 then (zswO rk x w m m 0 0 : Int) else if c = 20 then (if k < m then (w k : Int) else -1) else if c = 21 then (if k < m then (x k : Int) else -1) else 0
theorem zm_orderValue {c k i : Nat} {b : Bool} (hD : 8 ≤ D) (hC : zC σ m x w rk) (hc : 15 ≤ c) (hc2 : c ≤ 21) (hk : k ≤ 6) (hp : post (some (.int (zI (zovV σ m x w rk c k)))) n (zm_h (zg σ i b) ρ)) : zq_Runs l G D 0 0 yX12_orderValue [.ref 70, .int (nI c), .int (nI k)] n (zm_h (zg σ i b) ρ) post := by
  have hC2 : zC (zg σ i b) m x w rk := zC_congr hC rfl rfl
  have hm := hC2.1
  have hm7 := hC2.2.1
  unfold zovV at hp
  refine zq_enter (cc := cX12_orderValue) (nL := 3) (ret := (some .int)) cw_X12_orderValue (by decide) rfl (Nat.le_of_ble_eq_true rfl) ?_
  refine at_iload_n dX12_orderValue_0 rfl ?_
  rcases (show c = 15 ∨ c = 16 ∨ c = 17 ∨ c = 18 ∨ c = 19 ∨ c = 20 ∨ c = 21 by omega) with rfl | rfl | rfl | rfl | rfl | rfl | rfl
  · refine at_tableIn (tgt := 57) dX12_orderValue_1 (by decide) (by decide) rfl (by decide) ?_
    rw [if_pos rfl, zI_of] at hp
    refine at_aload_n dX12_orderValue_57 rfl ?_
    refine at_get dX12_orderValue_58 fl_X12_42 rfl rfl ?_
    refine at_bipush dX12_orderValue_61 (v := nI 19) (by decide) ?_
    refine at_mald (a := 72) dX12_orderValue_63 (by decide) (by decide) (by decide) (by decide) rfl rfl (by show _ < 5684; omega) (by decide) ?_
    refine at_iret dX12_orderValue_64 rfl (by omega) (by omega) ?_
    exact hp
  · refine at_tableIn (tgt := 65) dX12_orderValue_1 (by decide) (by decide) rfl (by decide) ?_
    rw [if_neg (by decide), if_pos rfl, zI_of] at hp
    refine at_aload_n dX12_orderValue_65 rfl ?_
    refine at_get dX12_orderValue_66 fl_X12_328 rfl rfl ?_
    rw [zg_o _ _ _ (by decide) (by decide)]
    refine at_iret dX12_orderValue_69 rfl (by omega) (by omega) ?_
    exact hp
  · refine at_tableIn (tgt := 70) dX12_orderValue_1 (by decide) (by decide) rfl (by decide) ?_
    rw [if_neg (by decide), if_neg (by decide), if_pos rfl, zI_of] at hp
    refine at_aload_n dX12_orderValue_70 rfl ?_
    refine at_get dX12_orderValue_71 fl_X12_331 rfl rfl ?_
    rw [zg_o _ _ _ (by decide) (by decide)]
    refine at_iret dX12_orderValue_74 rfl (by omega) (by omega) ?_
    exact hp
  · refine at_tableIn (tgt := 75) dX12_orderValue_1 (by decide) (by decide) rfl (by decide) ?_
    rw [if_neg (by decide), if_neg (by decide), if_neg (by decide), if_pos rfl, zI_of] at hp
    refine at_aload_n dX12_orderValue_75 rfl ?_
    refine at_iconst dX12_orderValue_76 (v := -1) rfl ?_
    refine at_callV1 (d := D - 1) dX12_orderValue_77 mv_X12_334 rfl (Nat.le_of_ble_eq_true rfl) (zq_r0 (by omega) (by omega) (by omega)) ?_
    refine zm_breaks (by omega) hC2 ?_
    rw [if_neg (by decide)]
    refine at_iret dX12_orderValue_80 rfl (by omega) (by omega) ?_
    exact hp
  · refine at_tableIn (tgt := 81) dX12_orderValue_1 (by decide) (by decide) rfl (by decide) ?_
    rw [if_neg (by decide), if_neg (by decide), if_neg (by decide), if_neg (by decide), if_pos rfl, zI_n] at hp
    refine at_aload_n dX12_orderValue_81 rfl ?_
    refine at_callV0 (d := D - 1) dX12_orderValue_82 mv_X12_337 rfl (Nat.le_of_ble_eq_true rfl) (zq_r0 (by omega) (by omega) (by omega)) ?_
    refine zm_swaps (by omega) hC2 ?_
    refine at_iret dX12_orderValue_85 rfl (by omega) (by omega) ?_
    exact hp
  · refine at_tableIn (tgt := 44) dX12_orderValue_1 (by decide) (by decide) rfl (by decide) ?_
    rw [if_neg (by decide), if_neg (by decide), if_neg (by decide), if_neg (by decide), if_neg (by decide), if_pos rfl] at hp
    refine at_aload_n dX12_orderValue_44 rfl ?_
    refine at_iload_n dX12_orderValue_45 rfl ?_
    refine at_callV1 (d := D - 1) dX12_orderValue_46 mv_X12_322 rfl (Nat.le_of_ble_eq_true rfl) (zq_r0 (by omega) (by omega) (by omega)) ?_
    refine zm_at (by omega) hm hm7 ?_
    rw [zix_n (by omega), nI_clamp (by omega)]
    have e : (if decide (k < m) = true then (zg σ i b).2.1 72 (7 + k) else -1) = zI (if k < m then (w k : Int) else -1) := by
      by_cases h : k < m
      · rw [if_pos (decide_eq_true h), if_pos h, zI_n]; exact (hC2.2.2.2.1 k h).1
      · rw [if_neg (by simpa using h), if_neg h]; rfl
    rw [e]
    refine at_iret dX12_orderValue_49 rfl (by omega) (by omega) ?_
    exact hp
  · refine at_tableIn (tgt := 50) dX12_orderValue_1 (by decide) (by decide) rfl (by decide) ?_
    rw [if_neg (by decide), if_neg (by decide), if_neg (by decide), if_neg (by decide), if_neg (by decide), if_neg (by decide), if_pos rfl] at hp
    refine at_aload_n dX12_orderValue_50 rfl ?_
    refine at_iload_n dX12_orderValue_51 rfl ?_
    refine at_iconst dX12_orderValue_52 (v := nI 0) (by decide) ?_
    refine at_callV2 (d := D - 1) dX12_orderValue_53 mv_X12_325 rfl (Nat.le_of_ble_eq_true rfl) (zq_r0 (by omega) (by omega) (by omega)) ?_
    refine zm_of0 (by omega) hC2 ?_
    rw [zix_n (by omega), nI_clamp (by omega)]
    have e : (if decide (k < m) = true then (zg σ i b).2.1 72 k else -1) = zI (if k < m then (x k : Int) else -1) := by
      by_cases h : k < m
      · rw [if_pos (decide_eq_true h), if_pos h, zI_n]; exact (hC2.2.2.1 k h).1
      · rw [if_neg (by simpa using h), if_neg h]; rfl
    rw [e]
    refine at_iret dX12_orderValue_56 rfl (by omega) (by omega) ?_
    exact hp
end ZL27

