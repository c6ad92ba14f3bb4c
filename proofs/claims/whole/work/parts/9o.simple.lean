/-! ===== calls on both sides: undone, taught, heard ===== -/
theorem dX11_says_0 : decode cX11_says 0 = .ok (.iload_n 2, 1) := by decide +kernel
theorem dX11_says_1 : decode cX11_says 1 = .ok (.invokestatic 147, 3) := by decide +kernel
theorem dX11_says_4 : decode cX11_says 4 = .ok (.ifCond .eq 10, 3) := by decide +kernel
theorem dX11_says_7 : decode cX11_says 7 = .ok (.iload_n 3, 1) := by decide +kernel
theorem dX11_says_8 : decode cX11_says 8 = .ok (.invokestatic 147, 3) := by decide +kernel
theorem dX11_says_11 : decode cX11_says 11 = .ok (.ifCond .ne 9, 3) := by decide +kernel
theorem dX11_says_14 : decode cX11_says 14 = .ok (.aload_n 0, 1) := by decide +kernel
theorem dX11_says_15 : decode cX11_says 15 = .ok (.iconst (-1), 1) := by decide +kernel
theorem dX11_says_16 : decode cX11_says 16 = .ok (.invokevirtual 103, 3) := by decide +kernel
theorem dX11_says_19 : decode cX11_says 19 = .ok (.ireturn, 1) := by decide +kernel
theorem dX11_says_20 : decode cX11_says 20 = .ok (.aload_n 0, 1) := by decide +kernel
theorem dX11_says_21 : decode cX11_says 21 = .ok (.getfield 12, 3) := by decide +kernel
theorem dX11_says_24 : decode cX11_says 24 = .ok (.iload_n 1, 1) := by decide +kernel
theorem dX11_says_25 : decode cX11_says 25 = .ok (.invokevirtual 120, 3) := by decide +kernel
theorem dX11_says_28 : decode cX11_says 28 = .ok (.ifCond .ne 10, 3) := by decide +kernel
theorem dX11_says_31 : decode cX11_says 31 = .ok (.aload_n 0, 1) := by decide +kernel
theorem dX11_says_32 : decode cX11_says 32 = .ok (.bipush (-2), 2) := by decide +kernel
theorem dX11_says_34 : decode cX11_says 34 = .ok (.invokevirtual 103, 3) := by decide +kernel
theorem dX11_says_37 : decode cX11_says 37 = .ok (.ireturn, 1) := by decide +kernel
theorem dX11_says_38 : decode cX11_says 38 = .ok (.aload_n 0, 1) := by decide +kernel
theorem dX11_says_39 : decode cX11_says 39 = .ok (.getfield 12, 3) := by decide +kernel
theorem dX11_says_42 : decode cX11_says 42 = .ok (.iload_n 1, 1) := by decide +kernel
theorem dX11_says_43 : decode cX11_says 43 = .ok (.iload_n 2, 1) := by decide +kernel
theorem dX11_says_44 : decode cX11_says 44 = .ok (.invokevirtual 158, 3) := by decide +kernel
theorem dX11_says_47 : decode cX11_says 47 = .ok (.istore 4, 2) := by decide +kernel
theorem dX11_says_49 : decode cX11_says 49 = .ok (.aload_n 0, 1) := by decide +kernel
theorem dX11_says_50 : decode cX11_says 50 = .ok (.getfield 12, 3) := by decide +kernel
theorem dX11_says_53 : decode cX11_says 53 = .ok (.iload_n 1, 1) := by decide +kernel
theorem dX11_says_54 : decode cX11_says 54 = .ok (.iload_n 2, 1) := by decide +kernel
theorem dX11_says_55 : decode cX11_says 55 = .ok (.iload_n 3, 1) := by decide +kernel
theorem dX11_says_56 : decode cX11_says 56 = .ok (.invokevirtual 161, 3) := by decide +kernel
theorem dX11_says_59 : decode cX11_says 59 = .ok (.aload_n 0, 1) := by decide +kernel
theorem dX11_says_60 : decode cX11_says 60 = .ok (.iload 4, 2) := by decide +kernel
theorem dX11_says_62 : decode cX11_says 62 = .ok (.invokevirtual 117, 3) := by decide +kernel
theorem dX11_says_65 : decode cX11_says 65 = .ok (.ireturn, 1) := by decide +kernel
abbrev mX11_says : zq_M := (cX11_says, RX11, "says", (some .int), 5)
theorem dX11_terms_0 : decode cX11_terms 0 = .ok (.iload_n 1, 1) := by decide +kernel
theorem dX11_terms_1 : decode cX11_terms 1 = .ok (.ifCond .lt 24, 3) := by decide +kernel
theorem dX11_terms_4 : decode cX11_terms 4 = .ok (.iload_n 1, 1) := by decide +kernel
theorem dX11_terms_5 : decode cX11_terms 5 = .ok (.getstatic 169, 3) := by decide +kernel
theorem dX11_terms_8 : decode cX11_terms 8 = .ok (.arraylength, 1) := by decide +kernel
theorem dX11_terms_9 : decode cX11_terms 9 = .ok (.if_icmp .ge 16, 3) := by decide +kernel
theorem dX11_terms_12 : decode cX11_terms 12 = .ok (.iload_n 2, 1) := by decide +kernel
theorem dX11_terms_13 : decode cX11_terms 13 = .ok (.ifCond .lt 12, 3) := by decide +kernel
theorem dX11_terms_16 : decode cX11_terms 16 = .ok (.iload_n 2, 1) := by decide +kernel
theorem dX11_terms_17 : decode cX11_terms 17 = .ok (.getstatic 169, 3) := by decide +kernel
theorem dX11_terms_20 : decode cX11_terms 20 = .ok (.iload_n 1, 1) := by decide +kernel
theorem dX11_terms_21 : decode cX11_terms 21 = .ok (.iaload, 1) := by decide +kernel
theorem dX11_terms_22 : decode cX11_terms 22 = .ok (.if_icmp .le 9, 3) := by decide +kernel
theorem dX11_terms_25 : decode cX11_terms 25 = .ok (.aload_n 0, 1) := by decide +kernel
theorem dX11_terms_26 : decode cX11_terms 26 = .ok (.iconst (-1), 1) := by decide +kernel
theorem dX11_terms_27 : decode cX11_terms 27 = .ok (.invokevirtual 103, 3) := by decide +kernel
theorem dX11_terms_30 : decode cX11_terms 30 = .ok (.ireturn, 1) := by decide +kernel
theorem dX11_terms_31 : decode cX11_terms 31 = .ok (.aload_n 0, 1) := by decide +kernel
theorem dX11_terms_32 : decode cX11_terms 32 = .ok (.getfield 12, 3) := by decide +kernel
theorem dX11_terms_35 : decode cX11_terms 35 = .ok (.getfield 172, 3) := by decide +kernel
theorem dX11_terms_38 : decode cX11_terms 38 = .ok (.iload_n 1, 1) := by decide +kernel
theorem dX11_terms_39 : decode cX11_terms 39 = .ok (.iaload, 1) := by decide +kernel
theorem dX11_terms_40 : decode cX11_terms 40 = .ok (.istore_n 3, 1) := by decide +kernel
theorem dX11_terms_41 : decode cX11_terms 41 = .ok (.aload_n 0, 1) := by decide +kernel
theorem dX11_terms_42 : decode cX11_terms 42 = .ok (.getfield 12, 3) := by decide +kernel
theorem dX11_terms_45 : decode cX11_terms 45 = .ok (.getfield 172, 3) := by decide +kernel
theorem dX11_terms_48 : decode cX11_terms 48 = .ok (.iload_n 1, 1) := by decide +kernel
theorem dX11_terms_49 : decode cX11_terms 49 = .ok (.iload_n 2, 1) := by decide +kernel
theorem dX11_terms_50 : decode cX11_terms 50 = .ok (.iastore, 1) := by decide +kernel
theorem dX11_terms_51 : decode cX11_terms 51 = .ok (.aload_n 0, 1) := by decide +kernel
theorem dX11_terms_52 : decode cX11_terms 52 = .ok (.getfield 29, 3) := by decide +kernel
theorem dX11_terms_55 : decode cX11_terms 55 = .ok (.invokevirtual 111, 3) := by decide +kernel
theorem dX11_terms_58 : decode cX11_terms 58 = .ok (.aload_n 0, 1) := by decide +kernel
theorem dX11_terms_59 : decode cX11_terms 59 = .ok (.iload_n 3, 1) := by decide +kernel
theorem dX11_terms_60 : decode cX11_terms 60 = .ok (.invokevirtual 117, 3) := by decide +kernel
theorem dX11_terms_63 : decode cX11_terms 63 = .ok (.ireturn, 1) := by decide +kernel
abbrev mX11_terms : zq_M := (cX11_terms, RX11, "terms", (some .int), 4)
theorem dX11_heard_0 : decode cX11_heard 0 = .ok (.iload_n 1, 1) := by decide +kernel
theorem dX11_heard_1 : decode cX11_heard 1 = .ok (.iload_n 2, 1) := by decide +kernel
theorem dX11_heard_2 : decode cX11_heard 2 = .ok (.if_icmp .ne 9, 3) := by decide +kernel
theorem dX11_heard_5 : decode cX11_heard 5 = .ok (.aload_n 0, 1) := by decide +kernel
theorem dX11_heard_6 : decode cX11_heard 6 = .ok (.iconst (-1), 1) := by decide +kernel
theorem dX11_heard_7 : decode cX11_heard 7 = .ok (.invokevirtual 103, 3) := by decide +kernel
theorem dX11_heard_10 : decode cX11_heard 10 = .ok (.ireturn, 1) := by decide +kernel
theorem dX11_heard_11 : decode cX11_heard 11 = .ok (.aload_n 0, 1) := by decide +kernel
theorem dX11_heard_12 : decode cX11_heard 12 = .ok (.getfield 12, 3) := by decide +kernel
theorem dX11_heard_15 : decode cX11_heard 15 = .ok (.iload_n 1, 1) := by decide +kernel
theorem dX11_heard_16 : decode cX11_heard 16 = .ok (.invokevirtual 120, 3) := by decide +kernel
theorem dX11_heard_19 : decode cX11_heard 19 = .ok (.ifCond .eq 14, 3) := by decide +kernel
theorem dX11_heard_22 : decode cX11_heard 22 = .ok (.aload_n 0, 1) := by decide +kernel
theorem dX11_heard_23 : decode cX11_heard 23 = .ok (.getfield 12, 3) := by decide +kernel
theorem dX11_heard_26 : decode cX11_heard 26 = .ok (.iload_n 2, 1) := by decide +kernel
theorem dX11_heard_27 : decode cX11_heard 27 = .ok (.invokevirtual 120, 3) := by decide +kernel
theorem dX11_heard_30 : decode cX11_heard 30 = .ok (.ifCond .ne 10, 3) := by decide +kernel
theorem dX11_heard_33 : decode cX11_heard 33 = .ok (.aload_n 0, 1) := by decide +kernel
theorem dX11_heard_34 : decode cX11_heard 34 = .ok (.bipush (-2), 2) := by decide +kernel
theorem dX11_heard_36 : decode cX11_heard 36 = .ok (.invokevirtual 103, 3) := by decide +kernel
theorem dX11_heard_39 : decode cX11_heard 39 = .ok (.ireturn, 1) := by decide +kernel
theorem dX11_heard_40 : decode cX11_heard 40 = .ok (.aload_n 0, 1) := by decide +kernel
theorem dX11_heard_41 : decode cX11_heard 41 = .ok (.getfield 12, 3) := by decide +kernel
theorem dX11_heard_44 : decode cX11_heard 44 = .ok (.getfield 300, 3) := by decide +kernel
theorem dX11_heard_47 : decode cX11_heard 47 = .ok (.bipush 8, 2) := by decide +kernel
theorem dX11_heard_49 : decode cX11_heard 49 = .ok (.if_icmp .lt 10, 3) := by decide +kernel
theorem dX11_heard_52 : decode cX11_heard 52 = .ok (.aload_n 0, 1) := by decide +kernel
theorem dX11_heard_53 : decode cX11_heard 53 = .ok (.bipush (-5), 2) := by decide +kernel
theorem dX11_heard_55 : decode cX11_heard 55 = .ok (.invokevirtual 103, 3) := by decide +kernel
theorem dX11_heard_58 : decode cX11_heard 58 = .ok (.ireturn, 1) := by decide +kernel
theorem dX11_heard_59 : decode cX11_heard 59 = .ok (.aload_n 0, 1) := by decide +kernel
theorem dX11_heard_60 : decode cX11_heard 60 = .ok (.aload_n 0, 1) := by decide +kernel
theorem dX11_heard_61 : decode cX11_heard 61 = .ok (.getfield 12, 3) := by decide +kernel
theorem dX11_heard_64 : decode cX11_heard 64 = .ok (.iload_n 1, 1) := by decide +kernel
theorem dX11_heard_65 : decode cX11_heard 65 = .ok (.iload_n 2, 1) := by decide +kernel
theorem dX11_heard_66 : decode cX11_heard 66 = .ok (.invokevirtual 303, 3) := by decide +kernel
theorem dX11_heard_69 : decode cX11_heard 69 = .ok (.invokevirtual 117, 3) := by decide +kernel
theorem dX11_heard_72 : decode cX11_heard 72 = .ok (.ireturn, 1) := by decide +kernel
abbrev mX11_heard : zq_M := (cX11_heard, RX11, "heard", (some .int), 3)
theorem dX11_forget_0 : decode cX11_forget 0 = .ok (.aload_n 0, 1) := by decide +kernel
theorem dX11_forget_1 : decode cX11_forget 1 = .ok (.getfield 12, 3) := by decide +kernel
theorem dX11_forget_4 : decode cX11_forget 4 = .ok (.getfield 300, 3) := by decide +kernel
theorem dX11_forget_7 : decode cX11_forget 7 = .ok (.istore_n 1, 1) := by decide +kernel
theorem dX11_forget_8 : decode cX11_forget 8 = .ok (.aload_n 0, 1) := by decide +kernel
theorem dX11_forget_9 : decode cX11_forget 9 = .ok (.getfield 12, 3) := by decide +kernel
theorem dX11_forget_12 : decode cX11_forget 12 = .ok (.iconst 0, 1) := by decide +kernel
theorem dX11_forget_13 : decode cX11_forget 13 = .ok (.putfield 300, 3) := by decide +kernel
theorem dX11_forget_16 : decode cX11_forget 16 = .ok (.iload_n 1, 1) := by decide +kernel
theorem dX11_forget_17 : decode cX11_forget 17 = .ok (.ireturn, 1) := by decide +kernel
abbrev mX11_forget : zq_M := (cX11_forget, RX11, "forget", (some .int), 2)
theorem dX11_force_0 : decode cX11_force 0 = .ok (.iload_n 1, 1) := by decide +kernel
theorem dX11_force_1 : decode cX11_force 1 = .ok (.iconst (-1), 1) := by decide +kernel
theorem dX11_force_2 : decode cX11_force 2 = .ok (.if_icmp .eq 21, 3) := by decide +kernel
theorem dX11_force_5 : decode cX11_force 5 = .ok (.aload_n 0, 1) := by decide +kernel
theorem dX11_force_6 : decode cX11_force 6 = .ok (.getfield 12, 3) := by decide +kernel
theorem dX11_force_9 : decode cX11_force 9 = .ok (.iload_n 1, 1) := by decide +kernel
theorem dX11_force_10 : decode cX11_force 10 = .ok (.invokevirtual 216, 3) := by decide +kernel
theorem dX11_force_13 : decode cX11_force 13 = .ok (.ifCond .ne 10, 3) := by decide +kernel
theorem dX11_force_16 : decode cX11_force 16 = .ok (.aload_n 0, 1) := by decide +kernel
theorem dX11_force_17 : decode cX11_force 17 = .ok (.bipush (-2), 2) := by decide +kernel
theorem dX11_force_19 : decode cX11_force 19 = .ok (.invokevirtual 103, 3) := by decide +kernel
theorem dX11_force_22 : decode cX11_force 22 = .ok (.ireturn, 1) := by decide +kernel
theorem dX11_force_23 : decode cX11_force 23 = .ok (.aload_n 0, 1) := by decide +kernel
theorem dX11_force_24 : decode cX11_force 24 = .ok (.getfield 12, 3) := by decide +kernel
theorem dX11_force_27 : decode cX11_force 27 = .ok (.getfield 219, 3) := by decide +kernel
theorem dX11_force_30 : decode cX11_force 30 = .ok (.istore_n 2, 1) := by decide +kernel
theorem dX11_force_31 : decode cX11_force 31 = .ok (.aload_n 0, 1) := by decide +kernel
theorem dX11_force_32 : decode cX11_force 32 = .ok (.getfield 12, 3) := by decide +kernel
theorem dX11_force_35 : decode cX11_force 35 = .ok (.iload_n 1, 1) := by decide +kernel
theorem dX11_force_36 : decode cX11_force 36 = .ok (.putfield 219, 3) := by decide +kernel
theorem dX11_force_39 : decode cX11_force 39 = .ok (.aload_n 0, 1) := by decide +kernel
theorem dX11_force_40 : decode cX11_force 40 = .ok (.iload_n 2, 1) := by decide +kernel
theorem dX11_force_41 : decode cX11_force 41 = .ok (.invokevirtual 117, 3) := by decide +kernel
theorem dX11_force_44 : decode cX11_force 44 = .ok (.ireturn, 1) := by decide +kernel
abbrev mX11_force : zq_M := (cX11_force, RX11, "force", (some .int), 3)
theorem dX11_end_0 : decode cX11_end 0 = .ok (.iload_n 1, 1) := by decide +kernel
theorem dX11_end_1 : decode cX11_end 1 = .ok (.ifCond .lt 11, 3) := by decide +kernel
theorem dX11_end_4 : decode cX11_end 4 = .ok (.iload_n 1, 1) := by decide +kernel
theorem dX11_end_5 : decode cX11_end 5 = .ok (.aload_n 0, 1) := by decide +kernel
theorem dX11_end_6 : decode cX11_end 6 = .ok (.getfield 40, 3) := by decide +kernel
theorem dX11_end_9 : decode cX11_end 9 = .ok (.if_icmp .le 5, 3) := by decide +kernel
theorem dX11_end_12 : decode cX11_end 12 = .ok (.iconst (-1), 1) := by decide +kernel
theorem dX11_end_13 : decode cX11_end 13 = .ok (.ireturn, 1) := by decide +kernel
theorem dX11_end_14 : decode cX11_end 14 = .ok (.aload_n 0, 1) := by decide +kernel
theorem dX11_end_15 : decode cX11_end 15 = .ok (.iload_n 1, 1) := by decide +kernel
theorem dX11_end_16 : decode cX11_end 16 = .ok (.putfield 40, 3) := by decide +kernel
theorem dX11_end_19 : decode cX11_end 19 = .ok (.iload_n 1, 1) := by decide +kernel
theorem dX11_end_20 : decode cX11_end 20 = .ok (.ireturn, 1) := by decide +kernel
abbrev mX11_end : zq_M := (cX11_end, RX11, "end", (some .int), 2)
theorem zLd_tail {g : Nat → Int32} {d : Nat} {ds : List Nat} (h : zLd g (d :: ds)) : zLd g ds := by
  intro i hi
  have := h (i + 1) (by rw [List.length_cons]; omega)
  rw [List.length_cons, show ds.length + 1 - 1 - (i + 1) = ds.length - 1 - i by omega] at this
  exact this
section ZK12
variable {l : Launch} {G : zq_G} {D n b : Nat} {κ κ' : zl_S} {σ τ : zm_S} {ρ : Nat → zq_E} {K K' : Nat → Int32} {m hn t z : Nat} {Ls : Nat → List zLC} {Λ Λ' : List Nat} {Lo : Option (List zLC)} {post : Option Value → Nat → (Nat → zq_E) → Prop}
theorem zk_undo (hD : 88 ≤ D) (h : zIV n κ σ ρ K m hn t z Ls Λ) : zCase l G D 0 0 yX11_undo yX12_undo [] n κ σ ρ := by
  intro P1 h1
  have hm7 := h.2.1.1.2.1
  have hG := h.2.2.2.1
  cases Λ with
  | nil =>
    have hp := h1 (.int (-(nI 3))) n (zl_h (zlref κ 3) (zm_h σ ρ)) (by exact ⟨rfl, _, rfl⟩) (fun P2 h2 => by
      rw [zlm]
      refine zm_undo (al := fun _ => 0) (by omega) (Nat.zero_le 16) hG.2.1 (fun _ => ?_) (fun f => absurd f (by decide)) (fun f => absurd f (by decide))
      rw [← zlm]
      exact h2 _ _ _ _ (zfin (zIV_ref h (by omega))))
    refine zq_enter (cc := cX11_undo) (nL := 3) (ret := (some .int)) cw_X11_undo (by decide) rfl (Nat.le_of_ble_eq_true rfl) ?_
    refine at_aload_n dX11_undo_0 rfl ?_
    refine at_get dX11_undo_1 fl_X11_29 (zl_o rfl) rfl ?_
    refine at_get dX11_undo_4 fl_X11_238 (zl_o rfl) rfl ?_
    rw [show κ.1 43 0 = nI 0 from hG.2.2.2.2.1]
    refine at_if_neN (tgt := 17) dX11_undo_7 (by decide) (by omega) (fun c7 => ?_) (fun c7 => ?_)
    · exact absurd rfl c7
    · refine at_aload_n dX11_undo_10 rfl ?_
      refine at_bipush dX11_undo_11 (v := -3) (by decide) ?_
      refine at_callV1 (d := D - 1) dX11_undo_13 mv_X11_103 (zl_o rfl) (Nat.le_of_ble_eq_true rfl) (zq_r0 (by omega) (by omega) (by omega)) ?_
      refine zc_refuse (q := 3) (by omega) ?_
      refine at_iret dX11_undo_16 rfl (by omega) (by omega) ?_
      exact hp
  | cons d ds =>
    obtain ⟨g16, g44, gUL, gLg, g43, gLd⟩ := hG
    rw [List.length_cons] at g16 g44 g43
    obtain ⟨u1, u2, u3⟩ := gUL
    obtain ⟨v1, v2⟩ := gLg
    have hKI := zKI_inv (zKW_KI h.2.1) v1
    have hhi : ∀ j, 20 ≤ j → zinv d K j = K j := fun j hj => zinv_hi hm7 v1 hj
    have hKW := zKW_20 h.2.1 hKI hhi
    have hd4 : d < 4000 := by
      rcases v1 with v | v | v | v <;> omega
    have hmod : ∀ κ', zQc κ' ρ n 9 (zinv d K) m hn t Ls → κ'.1 43 0 = nI ds.length → κ'.2.1 44 = κ.2.1 44 → zDf κ' κ → P1 (some (.int (nI (d / 1000)))) n (zl_h (zl_si κ' 8 18 (nI 0)) (zm_h σ ρ)) := fun κ' hq e43 e44 hdf => h1 _ n _ (by exact ⟨rfl, _, rfl⟩) (fun P2 h2 => by
      rw [zlm]
      refine zm_undo (al := alK (zinv d K)) (u := ds.length + 1) (by omega) g16 g44 (fun f => absurd f (by omega)) (fun _ k hk => ?_) (fun _ K2 e1 e2 => ?_)
      · rw [show ds.length + 1 - 1 = ds.length by omega, u2 (14 + k) (by omega)]
        exact ⟨hKI.2.1.1 k hk, by have := (hKI.2.1.2.1 k hk).2; omega⟩
      · rw [show ds.length + 1 - 1 = ds.length by omega] at e1 ⊢
        have eK : K2 = zinv d K := by
          funext j
          rcases Nat.lt_or_ge j 20 with hj | hj
          · rw [e1 j hj, u2 j hj]
          · rw [e2 j hj, hhi j hj, h.1.2.2.1]
        subst eK
        rw [u1, ← zlm]
        refine h2 _ _ _ _ (zfin (zIV_acc (zIV_mk (Λ' := ds) h hKW hq ⟨by omega, ?_, ?_, v2, e43, by rw [e44]; exact zLd_tail gLd⟩ ?_ (fun y y1 y5 => ?_) (hdf.1 8 (by decide) (by decide)) (hdf.1 32 (by decide) (by decide)) (fun a ha => hdf.2.1 a (by omega) (by omega) (by omega) (by omega)) (congrFun (hdf.2.1 57 (by omega) (by omega) (by omega) (by omega)) 0) (by rw [hdf.2.2]) (fun k hk => ?_) (fun a ha => ?_))))
        · exact zsi_s σ 44 (nI ds.length)
        · rw [zsA_o _ (by decide), zsA_o _ (by decide)]; exact u3
        · rw [zsA_o _ (by decide), zsA_s]
        · rw [zsA_s]; exact zrk_at hKI.2.1.2 _ y1 y5
        · exact zsi_o _ (by omega) _
        · rw [zsA_o _ (by omega), zsA_o _ (by omega)]; rfl)
    have hQ1 : zQc (zl_si κ 43 0 (nI ds.length)) ρ n 9 K m hn t Ls := zQc_f h.2.2.1 (zsi2_o _ (by decide) _ _) (fun _ _ _ => rfl) rfl
    have hN1 := zQc_N hQ1 h.2.1
    have h43' : (zl_si κ 43 0 (nI ds.length)).1 43 0 = nI ds.length := zsi2_s _ _ _ _
    have hdf1 : zDf (zl_si κ 43 0 (nI ds.length)) κ := zDf_43 (zDf_s (zSc_r κ))
    generalize hκ1 : zl_si κ 43 0 (nI ds.length) = κ1 at *
    have h44' : κ1.2.1 44 = κ.2.1 44 := by rw [← hκ1]; rfl
    have e0 : κ1.2.1 (9 + 7) 0 = K 19 := hQ1.2.2.2.2.2.2.2.1.1
    obtain ⟨dd, d9, edd⟩ := h.2.1.2.2.2.1
    refine zq_enter (cc := cX11_undo) (nL := 3) (ret := (some .int)) cw_X11_undo (by decide) rfl (Nat.le_of_ble_eq_true rfl) ?_
    refine at_aload_n dX11_undo_0 rfl ?_
    refine at_get dX11_undo_1 fl_X11_29 (zl_o rfl) rfl ?_
    refine at_get dX11_undo_4 fl_X11_238 (zl_o rfl) rfl ?_
    rw [g43]
    refine at_if_neN (tgt := 17) dX11_undo_7 (by decide) (by omega) (fun c7 => ?_) (fun c7 => ?_)
    · refine at_aload_n dX11_undo_17 rfl ?_
      refine at_get dX11_undo_18 fl_X11_29 (zl_o rfl) rfl ?_
      refine at_callV0 (d := D - 1) dX11_undo_21 mv_X11_239 (zl_o rfl) (Nat.le_of_ble_eq_true rfl) (zq_r0 (by omega) (by omega) (by omega)) ?_
      refine zc_logTake g43 g16 gLd ?_
      rw [hκ1]
      refine at_istore_n dX11_undo_24 rfl (by decide) ?_
      refine at_iload_n dX11_undo_25 rfl ?_
      refine at_callS1 (d := D - 1) dX11_undo_26 ms_X11_242 (Nat.le_of_ble_eq_true rfl) (zq_r0 (by omega) (by omega) (by omega)) ?_
      refine zc_kindOf (by omega) ?_
      refine at_istore_n dX11_undo_29 rfl (by decide) ?_
      refine at_iload_n dX11_undo_30 rfl ?_
      rcases v1 with ⟨k0, w1, w2, w3, w4⟩ | ⟨k0, w1⟩ | ⟨k0, w1⟩ | ⟨k0, w1⟩
      · have hinv : zinv d K = upd K (d / 100 % 10) (nI (zwl (zX1 K (d / 100 % 10)) (d / 10 % 10) (d % 10))) := by unfold zinv; rw [if_pos k0]
        rw [hinv] at hmod
        rw [k0] at hmod ⊢
        have hp := hmod _ (zQc_name hQ1 hm7 w1) h43' (by rw [zla_o _ (by decide)]; exact h44') (zDf_a hdf1 (by omega))
        refine at_tableIn (tgt := 56) dX11_undo_31 (by decide) (by decide) rfl (by decide) ?_
        refine at_aload_n dX11_undo_56 rfl ?_
        refine at_get dX11_undo_57 fl_X11_12 (zl_o rfl) rfl ?_
        refine at_iload_n dX11_undo_60 rfl ?_
        refine at_callS1 (d := D - 1) dX11_undo_61 ms_X11_245 (Nat.le_of_ble_eq_true rfl) (zq_r0 (by omega) (by omega) (by omega)) ?_
        refine zc_firstOf (by omega) ?_
        refine at_iload_n dX11_undo_64 rfl ?_
        refine at_callS1 (d := D - 1) dX11_undo_65 ms_X11_248 (Nat.le_of_ble_eq_true rfl) (zq_r0 (by omega) (by omega) (by omega)) ?_
        refine zc_secondOf (by omega) ?_
        refine at_iload_n dX11_undo_68 rfl ?_
        refine at_callS1 (d := D - 1) dX11_undo_69 ms_X11_251 (Nat.le_of_ble_eq_true rfl) (zq_r0 (by omega) (by omega) (by omega)) ?_
        refine zc_thirdOf (by omega) ?_
        refine at_callV3 (d := D - 1) dX11_undo_72 mv_X11_254 (zl_q zQ9) (Nat.le_of_ble_eq_true rfl) (zq_r0 (by omega) (by omega) (by omega)) ?_
        refine zc_write (by omega) zQ9 hN1 w1 w2 ?_
        refine at_goto (tgt := 119) dX11_undo_75 (by decide) ?_
        refine at_aload_n dX11_undo_119 rfl ?_
        refine at_iload_n dX11_undo_120 rfl ?_
        refine at_callV1 (d := D - 1) dX11_undo_121 mv_X11_117 (zl_o rfl) (Nat.le_of_ble_eq_true rfl) (zq_r0 (by omega) (by omega) (by omega)) ?_
        refine zc_accept ?_
        refine at_iret dX11_undo_124 rfl (by omega) (by omega) ?_
        exact hp
      · have hinv : zinv d K = zswp K (d / 100 % 10) := by unfold zinv; rw [if_neg (by omega), if_pos k0]
        rw [hinv] at hmod
        rw [k0] at hmod ⊢
        have hp := hmod _ (zQc_swp hQ1 h.2.1.1 h.2.1.2.2.1 w1) h43' (by unfold zuX; rw [zla_o _ (by decide), zla_o _ (by decide), zla_o _ (by decide), zla_o _ (by decide)]; exact h44') (by unfold zuX; exact zDf_a (zDf_a (zDf_a (zDf_a hdf1 (by omega)) (by omega)) (by omega)) (by omega))
        refine at_tableIn (tgt := 78) dX11_undo_31 (by decide) (by decide) rfl (by decide) ?_
        refine at_aload_n dX11_undo_78 rfl ?_
        refine at_get dX11_undo_79 fl_X11_12 (zl_o rfl) rfl ?_
        refine at_iload_n dX11_undo_82 rfl ?_
        refine at_callS1 (d := D - 1) dX11_undo_83 ms_X11_245 (Nat.le_of_ble_eq_true rfl) (zq_r0 (by omega) (by omega) (by omega)) ?_
        refine zc_firstOf (by omega) ?_
        refine at_callV1 (d := D - 1) dX11_undo_86 mv_X11_257 (zl_q zQ9) (Nat.le_of_ble_eq_true rfl) (zq_r0 (by omega) (by omega) (by omega)) ?_
        refine zc_exchange (by omega) zQ9 hN1 w1 ?_
        refine at_goto (tgt := 119) dX11_undo_89 (by decide) ?_
        refine at_aload_n dX11_undo_119 rfl ?_
        refine at_iload_n dX11_undo_120 rfl ?_
        refine at_callV1 (d := D - 1) dX11_undo_121 mv_X11_117 (zl_o rfl) (Nat.le_of_ble_eq_true rfl) (zq_r0 (by omega) (by omega) (by omega)) ?_
        refine zc_accept ?_
        refine at_iret dX11_undo_124 rfl (by omega) (by omega) ?_
        exact hp
      · have hinv : zinv d K = zdec K (d / 100 % 10) := by unfold zinv; rw [if_neg (by omega), if_neg (by omega), if_pos k0]
        rw [hinv] at hmod
        rw [k0] at hmod ⊢
        have hp := hmod _ (zQc_dec hQ1 h.2.1.2.1 hm7 w1) h43' (by unfold zuT; rw [zla_o _ (by decide), zla_o _ (by decide), zla_o _ (by decide), zla_o _ (by decide)]; exact h44') (by unfold zuT; exact zDf_a (zDf_a (zDf_a (zDf_a hdf1 (by omega)) (by omega)) (by omega)) (by omega))
        refine at_tableIn (tgt := 92) dX11_undo_31 (by decide) (by decide) rfl (by decide) ?_
        refine at_aload_n dX11_undo_92 rfl ?_
        refine at_get dX11_undo_93 fl_X11_12 (zl_o rfl) rfl ?_
        refine at_iload_n dX11_undo_96 rfl ?_
        refine at_callS1 (d := D - 1) dX11_undo_97 ms_X11_245 (Nat.le_of_ble_eq_true rfl) (zq_r0 (by omega) (by omega) (by omega)) ?_
        refine zc_firstOf (by omega) ?_
        refine at_callV1 (d := D - 1) dX11_undo_100 mv_X11_260 (zl_q zQ9) (Nat.le_of_ble_eq_true rfl) (zq_r0 (by omega) (by omega) (by omega)) ?_
        refine zc_turn (by omega) zQ9 (zQc_L hQ1 h.2.1) w1 ?_
        refine at_goto (tgt := 119) dX11_undo_103 (by decide) ?_
        refine at_aload_n dX11_undo_119 rfl ?_
        refine at_iload_n dX11_undo_120 rfl ?_
        refine at_callV1 (d := D - 1) dX11_undo_121 mv_X11_117 (zl_o rfl) (Nat.le_of_ble_eq_true rfl) (zq_r0 (by omega) (by omega) (by omega)) ?_
        refine zc_accept ?_
        refine at_iret dX11_undo_124 rfl (by omega) (by omega) ?_
        exact hp
      · rw [edd, nI_clamp (by omega)] at w1
        have hinv : zinv d K = upd K 19 (nI (dd - 1)) := by unfold zinv; rw [if_neg (by omega), if_neg (by omega), if_neg (by omega), edd, nI_clamp (by omega)]
        rw [hinv] at hmod
        rw [k0] at hmod ⊢
        have hp := hmod _ (show zQc (zl_sa κ1 (9 + 7) 0 (nI (dd - 1))) ρ n 9 (upd K 19 (nI (dd - 1))) m hn t Ls from zQc_term (j := 0) hQ1 hm7 h.2.1.2.2.2.2.2.2.2.1.2.1 (by decide)) h43' (by rw [zla_o _ (by decide)]; exact h44') (zDf_a hdf1 (by omega))
        refine at_tableOut (tgt := 106) dX11_undo_31 (Or.inr (by decide)) (by decide) ?_
        refine at_aload_n dX11_undo_106 rfl ?_
        refine at_get dX11_undo_107 fl_X11_12 (zl_o rfl) rfl ?_
        refine at_get dX11_undo_110 fl_X11_172 (zl_q zQ9) rfl ?_
        refine at_iconst dX11_undo_113 (v := nI 0) (by decide) ?_
        refine at_dup2 dX11_undo_114 rfl rfl ?_
        refine at_uld (b := 9) (c := 7) dX11_undo_115 zQ9 (by decide) (by decide) rfl (by show _ < 3; omega) ?_
        rw [e0, edd]
        refine at_iconst dX11_undo_116 (v := nI 1) (by decide) ?_
        refine at_isubN dX11_undo_117 (by omega) ?_
        refine at_ust (b := 9) (c := 7) dX11_undo_118 zQ9 (by decide) (by decide) rfl (by show _ < 3; omega) ?_
        refine at_aload_n dX11_undo_119 rfl ?_
        refine at_iload_n dX11_undo_120 rfl ?_
        refine at_callV1 (d := D - 1) dX11_undo_121 mv_X11_117 (zl_o rfl) (Nat.le_of_ble_eq_true rfl) (zq_r0 (by omega) (by omega) (by omega)) ?_
        refine zc_accept ?_
        refine at_iret dX11_undo_124 rfl (by omega) (by omega) ?_
        exact hp
    · omega
theorem zQc_say {j : Nat} {v : Int32} (h : zQc κ ρ n b K m hn t Ls) (hm : m ≤ 7) (hj : j < 35) : zQc (zl_sa κ (b + 4) j v) ρ n b (upd K (20 + j) v) m hn t Ls := by
  obtain ⟨⟨i0, i8, i11, i13⟩, a1, a2, a3, a4, a5, a6, a7, a8, a9, a10⟩ := h
  have o : ∀ c, c ≠ 4 → (zl_sa κ (b + 4) j v).2.1 (b + c) = κ.2.1 (b + c) := fun c hc => zla_o _ (by omega) _ _
  have k : ∀ q, q ≠ 20 + j → upd K (20 + j) v q = K q := fun q hq => upd_o _ hq _
  refine ⟨⟨i0, i8, i11, by rw [k 76 (by omega)]; exact i13⟩, fun p hp => ?_, fun q hq => ?_, fun p hp => ?_, fun q hq => ?_, fun q hq => ?_, ?_, ?_, fun q hq => ?_, a9, a10⟩
  · show (zl_sa κ (b + 4) j v).2.1 (b + 1) p = _
    rw [o 1 (by decide), upd_o _ (by omega)]; exact a1 p hp
  · show (zl_sa κ (b + 4) j v).2.1 (b + 2) q = _
    rw [o 2 (by decide), upd_o _ (by omega)]; exact a2 q hq
  · show (zl_sa κ (b + 4) j v).2.1 (b + 3) p = _
    rw [o 3 (by decide), zplace_c m (fun q _ => upd_o _ (by omega) _)]; exact a3 p hp
  · show (zl_sa κ (b + 4) j v).2.1 (b + 4) q = _
    rw [zla_s]
    by_cases e : q = j
    · subst e; rw [upd_s, upd_s]
    · rw [upd_o _ e, upd_o _ (by omega)]; exact a4 q hq
  · show (zl_sa κ (b + 4) j v).2.1 (b + 5) q = _
    rw [o 5 (by decide), upd_o _ (by omega)]; exact a5 q hq
  · show zOrd ((zl_sa κ (b + 4) j v).2.1 (b + 6)) _
    rw [o 6 (by decide), zrkK_c (fun q _ => upd_o _ (by omega) _)]; exact a6
  · show (zl_sa κ (b + 4) j v).2.1 (b + 7) 0 = _ ∧ (zl_sa κ (b + 4) j v).2.1 (b + 7) 1 = _ ∧ (zl_sa κ (b + 4) j v).2.1 (b + 7) 2 = _
    rw [o 7 (by decide), upd_o _ (by omega), upd_o _ (by omega), upd_o _ (by omega)]; exact a7
  · show (zl_sa κ (b + 4) j v).2.1 (b + 8) q = _ ∧ (zl_sa κ (b + 4) j v).2.1 (b + 9) q = _
    rw [o 8 (by decide), o 9 (by decide), upd_o _ (by omega), upd_o _ (by omega)]; exact a8 q hq
/-- deeds are undone alike when what isn't theirs changes -/
theorem zinv_20 {K K' : Nat → Int32} {d : Nat} (hm : m ≤ 7) (hd : zdv d K m) (e : ∀ j, j < 20 → K' j = K j) : ∀ j, j < 20 → zinv d K' j = zinv d K j := by
  intro j hj
  unfold zinv
  rcases hd with ⟨k0, w1, w2, w3, w4⟩ | ⟨k0, w1⟩ | ⟨k0, w1⟩ | ⟨k0, w1⟩
  · rw [if_pos k0, if_pos k0]
    unfold zX1
    rw [e _ (by omega)]
    by_cases g : j = d / 100 % 10
    · rw [g, upd_s, upd_s]
    · rw [upd_o _ g, upd_o _ g, e j hj]
  · rw [if_neg (by omega), if_pos k0, if_neg (by omega), if_pos k0]
    unfold zswp
    rw [e (7 + d / 100 % 10) (by omega), e (7 + d / 100 % 10 + 1) (by omega)]
    by_cases g : j = 7 + d / 100 % 10 + 1
    · rw [g, upd_s, upd_s]
    · rw [upd_o _ g, upd_o _ g]
      by_cases g2 : j = 7 + d / 100 % 10
      · rw [g2, upd_s, upd_s]
      · rw [upd_o _ g2, upd_o _ g2, e j hj]
  · rw [if_neg (by omega), if_neg (by omega), if_pos k0, if_neg (by omega), if_neg (by omega), if_pos k0]
    unfold zdec
    rw [e (14 + d / 100 % 10) (by omega), e (14 + d / 100 % 10 + 1) (by omega)]
    by_cases g : j = 14 + d / 100 % 10 + 1
    · rw [g, upd_s, upd_s]
    · rw [upd_o _ g, upd_o _ g]
      by_cases g2 : j = 14 + d / 100 % 10
      · rw [g2, upd_s, upd_s]
      · rw [upd_o _ g2, upd_o _ g2, e j hj]
  · rw [if_neg (by omega), if_neg (by omega), if_neg (by omega), if_neg (by omega), if_neg (by omega), if_neg (by omega), e 19 (by decide)]
    by_cases g : j = 19
    · rw [g, upd_s, upd_s]
    · rw [upd_o _ g, upd_o _ g, e j hj]
theorem zdv_20 {K K' : Nat → Int32} {d : Nat} (hm : m ≤ 7) (e : ∀ j, j < 20 → K' j = K j) (hd : zdv d K m) : zdv d K' m := by
  unfold zdv zX1 at *
  rcases hd with ⟨k0, w1, w2⟩ | h | h | ⟨k0, w1⟩
  · exact Or.inl ⟨k0, w1, by rw [e _ (by omega)]; exact w2⟩
  · exact Or.inr (Or.inl h)
  · exact Or.inr (Or.inr (Or.inl h))
  · exact Or.inr (Or.inr (Or.inr ⟨k0, by rw [e 19 (by decide)]; exact w1⟩))
theorem zUL_20 {L : Nat → Int32} (hm : m ≤ 7) : ∀ {Λ : List Nat} {K K' : Nat → Int32}, (∀ j, j < 20 → K' j = K j) → zLg m K Λ → zUL L K Λ → zUL L K' Λ ∧ zLg m K' Λ
  | [], _, _, _, _, _ => ⟨trivial, trivial⟩
  | d :: ds, K, K', e, ⟨g1, g2⟩, ⟨u1, u2, u3⟩ => by
    have hi := zinv_20 hm g1 e
    obtain ⟨r1, r2⟩ := zUL_20 hm (Λ := ds) (K := zinv d K) (K' := zinv d K') hi g2 u3
    exact ⟨⟨u1, fun j hj => by rw [hi j hj]; exact u2 j hj, r1⟩, zdv_20 hm e g1, r2⟩
end ZK12

