/-! ===== the class: the reader reads a part, whole ===== -/
theorem zwm_law : ∀ k : Fin 28, 1 ≤ k.1 → ((8 ≤ k.1 ∧ k.1 ≤ 15) → 1 ≤ zwm k.1 ∧ zwm k.1 ≤ 8 ∧ zwi false k.1 0 = zwm k.1 - 1) ∧ (¬ (8 ≤ k.1 ∧ k.1 ≤ 15) → 9 ≤ zwm k.1) := by decide
theorem zwm_ord : ∀ k : Fin 28, 1 ≤ k.1 → ((15 ≤ k.1 ∧ k.1 ≤ 21) → 7 ≤ zwm k.1 ∧ zwm k.1 ≠ 8 ∧ zwm k.1 ≤ 14 ∧ zwi true k.1 0 = (if zwm k.1 - 7 = 0 then 0 else if zwm k.1 - 7 = 7 then 12 else zwm k.1 - 7 - 1)) ∧ (¬ (15 ≤ k.1 ∧ k.1 ≤ 21) → zwm k.1 < 7 ∨ zwm k.1 = 8 ∨ 14 < zwm k.1) := by decide
section ZC21
variable {l : Launch} {G : zq_G} {D n : Nat} {ρ f : Nat → zq_E} {post : Option Value → Nat → (Nat → zq_E) → Prop}
variable {N : Nat} {c v pl : Nat → Nat} {tk : Nat → Int32} {κ : zl_S} {q : zQ} {cs : Nat} {cd : Nat → Nat × Nat} {o : Bool}
theorem zwR_law (hT : zTm N c v pl tk) (hq : zqw N q) (hS : zPs κ tk q cs cd) : (∃ k, 1 ≤ k ∧ k ≤ 8 ∧ κ.1 48 3 = nI (256 + k) ∧ zwR false q c = nI (k - 1)) ∨ (((κ.1 48 3).toInt < 257 ∨ 265 ≤ (κ.1 48 3).toInt) ∧ zwR false q c = -1) := by
  unfold zwR zfw zlwd
  simp only [Bool.false_eq_true, if_false]
  rcases hS.2.2 with ⟨a1, a2, a3, a4, a5, a6⟩ | ⟨a1, a2, a3⟩
  · rw [a3]
    by_cases e : q.1 = N
    · refine Or.inr ⟨Or.inr (by rw [e, hT.2.2.1, nI_toInt (by decide)]; omega), if_neg (fun h => ?_)⟩
      have := h.2.1
      rw [e, hT.2.1] at this
      omega
    · have hlt : q.1 < N := by have := hq.1; omega
      rcases hT.2.2.2.2 q.1 hlt with ⟨b1, b2⟩ | ⟨b1, b2, b3⟩ | ⟨b1, b2⟩ | ⟨b1, b2, b3, b4, b5⟩
      · refine Or.inr ⟨Or.inr (by rw [b2, nI_toInt (by have := Nat.min_le_right (v q.1) 1001; omega)]; omega), if_neg (by omega)⟩
      · have w1 := zwm_in b1 b2
        have w := zwm_law ⟨c q.1, by omega⟩ b1
        by_cases e2 : 8 ≤ c q.1 ∧ c q.1 ≤ 15
        · obtain ⟨z1, z2, z3⟩ := w.1 e2
          exact Or.inl ⟨zwm (c q.1), z1, z2, b3, by rw [if_pos ⟨a1, e2⟩, z3]⟩
        · have := w.2 e2
          exact Or.inr ⟨Or.inr (by rw [b3, nI_toInt (by omega)]; dsimp only at this; omega), if_neg (fun h => e2 h.2)⟩
      · exact Or.inr ⟨Or.inl (by rw [b2, nI_toInt (by decide)]; omega), if_neg (by omega)⟩
      · exact Or.inr ⟨Or.inl (by omega), if_neg (by omega)⟩
  · refine Or.inr ⟨Or.inr (by rw [a2, nI_toInt (by decide)]; omega), if_neg (fun h => a1 h.1)⟩
theorem zwR_ord (hT : zTm N c v pl tk) (hq : zqw N q) (hS : zPs κ tk q cs cd) : (∃ k, k < 8 ∧ k ≠ 1 ∧ κ.1 48 3 = nI (263 + k) ∧ zwR true q c = nI (if k = 0 then 0 else if k = 7 then 12 else k - 1)) ∨ (((κ.1 48 3).toInt < 263 ∨ 270 < (κ.1 48 3).toInt ∨ κ.1 48 3 = nI 264) ∧ zwR true q c = -1) := by
  unfold zwR zfw zlwd
  simp only [if_true]
  rcases hS.2.2 with ⟨a1, a2, a3, a4, a5, a6⟩ | ⟨a1, a2, a3⟩
  · rw [a3]
    by_cases e : q.1 = N
    · refine Or.inr ⟨Or.inr (Or.inl (by rw [e, hT.2.2.1, nI_toInt (by decide)]; omega)), if_neg (fun h => ?_)⟩
      have := h.2.1
      rw [e, hT.2.1] at this
      omega
    · have hlt : q.1 < N := by have := hq.1; omega
      rcases hT.2.2.2.2 q.1 hlt with ⟨b1, b2⟩ | ⟨b1, b2, b3⟩ | ⟨b1, b2⟩ | ⟨b1, b2, b3, b4, b5⟩
      · refine Or.inr ⟨Or.inr (Or.inl (by rw [b2, nI_toInt (by have := Nat.min_le_right (v q.1) 1001; omega)]; omega)), if_neg (by omega)⟩
      · have w1 := zwm_in b1 b2
        have w := zwm_ord ⟨c q.1, by omega⟩ b1
        by_cases e2 : 15 ≤ c q.1 ∧ c q.1 ≤ 21
        · obtain ⟨z1, z2, z3, z4⟩ := w.1 e2
          dsimp only at z1 z2 z3 z4
          exact Or.inl ⟨zwm (c q.1) - 7, by omega, by omega, by rw [b3, show 256 + zwm (c q.1) = 263 + (zwm (c q.1) - 7) by omega], by rw [if_pos ⟨a1, e2⟩, z4]⟩
        · have := w.2 e2
          dsimp only at this
          refine Or.inr ⟨?_, if_neg (fun h => e2 h.2)⟩
          rcases this with h | h | h
          · exact Or.inl (by rw [b3, nI_toInt (by omega)]; omega)
          · exact Or.inr (Or.inr (by rw [b3, h]))
          · exact Or.inr (Or.inl (by rw [b3, nI_toInt (by omega)]; omega))
      · exact Or.inr ⟨Or.inl (by rw [b2, nI_toInt (by decide)]; omega), if_neg (by omega)⟩
      · exact Or.inr ⟨Or.inl (by omega), if_neg (by omega)⟩
  · refine Or.inr ⟨Or.inr (Or.inl (by rw [a2, nI_toInt (by decide)]; omega)), if_neg (fun h => a1 h.1)⟩
theorem zpP_num {d : Nat} (hf : q.2.2 = 0) (hc : c q.1 = 50) (hv : v q.1 ≤ 1000) (h50 : q.2.1 < 50) (hcl : ¬ (o = true ∧ (c q.1 = 20 ∨ c q.1 = 21))) : zpP c v pl (zfw o) (zlwd o) o d q = (q.1 + 1, q.2.1 + 1, 0) := by
  unfold zpP zpPart
  rw [if_neg (by omega), if_neg (by omega), if_pos (Or.inl ⟨hc, hv⟩), if_neg hcl]
  unfold zpleaf
  rw [show (if q.2.1 = 50 then zpf pl q else q) = q from if_neg (by omega), if_pos hf]
theorem zpP_word {d : Nat} (hf : q.2.2 = 0) (hc : zfw o ≤ c q.1 ∧ c q.1 ≤ zlwd o) (h50 : q.2.1 < 50) : zpP c v pl (zfw o) (zlwd o) o d q = if o = true ∧ (c q.1 = 20 ∨ c q.1 = 21) then zpnum c v pl (q.1 + 1, q.2.1 + 1, 0) 0 6 else (q.1 + 1, q.2.1 + 1, 0) := by
  have hl : c q.1 ≤ 21 := by have := hc.2; unfold zlwd at this; split at this <;> omega
  unfold zpP zpPart
  rw [if_neg (by omega), if_neg (by omega), if_pos (Or.inr hc)]
  have e : zpleaf pl q = (q.1 + 1, q.2.1 + 1, 0) := by
    unfold zpleaf
    rw [show (if q.2.1 = 50 then zpf pl q else q) = q from if_neg (by omega), if_pos hf]
  rw [e]
theorem zpP_bad {d : Nat} (hf : q.2.2 = 0) (hc : c q.1 ≠ 191) (h : ¬ ((c q.1 = 50 ∧ v q.1 ≤ 1000) ∨ (zfw o ≤ c q.1 ∧ c q.1 ≤ zlwd o)) ∨ q.2.1 = 50) : (zpP c v pl (zfw o) (zlwd o) o d q).2.2 = pl q.1 + 1 := by
  unfold zpP zpPart
  rw [if_neg (by omega), if_neg hc]
  split
  · next e =>
    have h : q.2.1 = 50 := by
      rcases h with h | h
      · exact absurd e h
      · exact h
    have e : zpleaf pl q = (q.1, q.2.1 + 1, pl q.1 + 1) := by
      unfold zpleaf
      rw [if_pos h]
      unfold zpf
      rw [if_pos hf]
      exact if_neg (Nat.succ_ne_zero _)
    rw [e]
    split
    · unfold zpnum
      rw [if_neg (Nat.succ_ne_zero _)]
    · rfl
  · unfold zpf
    rw [if_pos hf]
/-- a part, where nothing is read any more -/
theorem zc_part_bad {d : Nat} (hD : 2 ≤ D) (hT : zTm N c v pl tk) (hR : zRw κ N pl tk o) (hq : zqw N q) (hS : zPs κ tk q cs cd) (hb : q.2.2 ≠ 0) (hp : ∀ κ' cs' cd', zRf κ' κ → zPs κ' tk q cs' cd' → post none n (zl_h κ' ρ)) : zq_Runs l G D 0 0 yX8_readPart [.ref 48, .int (nI d)] n (zl_h κ ρ) post := by
  obtain ⟨s1, s2, s3⟩ := id hS
  rcases s3 with ⟨a1, _⟩ | ⟨a1, a2, a3⟩
  · exact absurd a1 hb
  generalize hx : κ.1 48 6 + nI 1 = x
  have hS1 : zPs (zl_si κ 48 6 x) tk q cs cd := zPs_pbad hS hb
  have hf1 : zRf (zl_si κ 48 6 x) κ := zRf_i (zRf_r κ) (by decide)
  have hR1 := zRw_f hf1 hR
  have t1 : (zl_si κ 48 6 x).1 48 3 = nI 3001 := by rw [zsi2_k _ _ (by decide)]; exact a2
  have e0 : zpnum c v pl q 0 1000 = q := if_neg hb
  have e1 : zpf pl q = q := if_neg hb
  refine zq_enter (cc := cX8_readPart) (nL := 4) (ret := none) cw_X8_readPart (by decide) rfl (Nat.le_of_ble_eq_true rfl) ?_
  refine at_aload_n dX8_readPart_0 rfl ?_
  refine at_get dX8_readPart_1 fl_X8_22 (zl_o rfl) rfl ?_
  rw [a2]
  refine at_bipush dX8_readPart_4 (v := nI 91) (by decide) ?_
  refine at_neN (tgt := 31) dX8_readPart_6 (by decide) (by omega) (by omega) (fun c6 => ?_) (fun c6 => ?_)
  · refine at_aload_n dX8_readPart_31 rfl ?_
    refine at_dup dX8_readPart_32 rfl ?_
    refine at_get dX8_readPart_33 fl_X8_31 (zl_o rfl) rfl ?_
    refine at_iconst dX8_readPart_36 (v := nI 1) (by decide) ?_
    refine at_iadd dX8_readPart_37 ?_
    rw [hx]
    refine at_lput dX8_readPart_38 (pl_X8_31 _) (fun i => ⟨_, rfl, Nat.le_of_ble_eq_true rfl, fun v => rfl⟩) rfl rfl ?_
    refine at_aload_n dX8_readPart_41 rfl ?_
    refine at_get dX8_readPart_42 fl_X8_37 (zl_o rfl) rfl ?_
    rw [hR1.2]
    refine at_if_eqB (tgt := 58) dX8_readPart_45 (by decide) (fun c45 => ?_) (fun c45 => ?_)
    · refine at_aload_n dX8_readPart_58 rfl ?_
      refine at_get dX8_readPart_59 fl_X8_22 (zl_o rfl) rfl ?_
      rw [t1]
      refine at_callS1 (d := D - 1) dX8_readPart_62 ms_X8_178 (Nat.le_of_ble_eq_true rfl) (zq_r0 (by omega) (by omega) (by omega)) ?_
      refine zc_lawWord (R := -1) (Or.inr ⟨Or.inr (by decide), rfl⟩) ?_
      refine at_istore_n dX8_readPart_65 rfl (by decide) ?_
      refine at_aload_n dX8_readPart_66 rfl ?_
      refine at_get dX8_readPart_67 fl_X8_31 (zl_o rfl) rfl ?_
      refine at_bipush dX8_readPart_70 (v := nI 50) (by decide) ?_
      refine at_icmp_gt (tgt := 101) dX8_readPart_72 (by decide) (fun c72 => ?_) (fun c72 => ?_)
      · refine at_aload_n dX8_readPart_101 rfl ?_
        refine at_get dX8_readPart_102 fl_X8_31 (zl_o rfl) rfl ?_
        refine at_bipush dX8_readPart_105 (v := nI 50) (by decide) ?_
        refine at_icmp_gt (tgt := 162) dX8_readPart_107 (by decide) (fun c107 => ?_) (fun c107 => ?_)
        · refine at_aload_n dX8_readPart_162 rfl ?_
          refine at_callV0 (d := D - 1) dX8_readPart_163 mv_X8_61 (zl_o rfl) (Nat.le_of_ble_eq_true rfl) (zq_r0 (by omega) (by omega) (by omega)) ?_
          refine zc_fail hT hR1 hq hS1 (fun κ1 g1 g2 => ?_)
          rw [e1] at g2
          have hp := hp κ1 _ _ (zRf_t g1 hf1) g2
          refine at_vret dX8_readPart_166 rfl (by omega) (by omega) ?_
          exact hp
        · refine at_iload_n dX8_readPart_110 rfl ?_
          refine at_iconst dX8_readPart_111 (v := -1) rfl ?_
          refine at_icmp_eq (tgt := 162) dX8_readPart_112 (by decide) (fun c112 => ?_) (fun c112 => ?_)
          · refine at_aload_n dX8_readPart_162 rfl ?_
            refine at_callV0 (d := D - 1) dX8_readPart_163 mv_X8_61 (zl_o rfl) (Nat.le_of_ble_eq_true rfl) (zq_r0 (by omega) (by omega) (by omega)) ?_
            refine zc_fail hT hR1 hq hS1 (fun κ1 g1 g2 => ?_)
            rw [e1] at g2
            have hp := hp κ1 _ _ (zRf_t g1 hf1) g2
            refine at_vret dX8_readPart_166 rfl (by omega) (by omega) ?_
            exact hp
          · exact absurd rfl c112
      · refine at_aload_n dX8_readPart_75 rfl ?_
        refine at_get dX8_readPart_76 fl_X8_22 (zl_o rfl) rfl ?_
        rw [t1]
        refine at_sipush dX8_readPart_79 (v := nI 1000) (by decide) ?_
        refine at_ltN (tgt := 101) dX8_readPart_82 (by decide) (by omega) (by omega) (fun c82 => ?_) (fun c82 => ?_)
        · omega
        · refine at_aload_n dX8_readPart_85 rfl ?_
          refine at_iconst dX8_readPart_86 (v := nI 1) (by decide) ?_
          refine at_aload_n dX8_readPart_87 rfl ?_
          refine at_iconst dX8_readPart_88 (v := nI 0) (by decide) ?_
          refine at_sipush dX8_readPart_89 (v := nI 1000) (by decide) ?_
          refine at_callV2 (d := D - 1) dX8_readPart_92 mv_X8_144 (zl_o rfl) (Nat.le_of_ble_eq_true rfl) (zq_r0 (by omega) (by omega) (by omega)) ?_
          refine zc_numberWithin (by omega) (by decide) hT hR1 hq hS1 (fun κ1 g1 g2 => ?_) (by decide)
          rw [e0] at g2
          rw [show zrdn c v q 0 1000 = 0 from if_neg (fun h => hb h.1)]
          refine at_callV2 (d := D - 1) dX8_readPart_95 mv_X8_122 (zl_o rfl) (Nat.le_of_ble_eq_true rfl) (zq_r0 (by omega) (by omega) (by omega)) ?_
          refine zc_emit (by decide) (by decide) g2 (fun h => absurd h hb) (fun κ2 j1 j2 => ?_)
          have hp := hp κ2 _ _ (zRf_t j1 (zRf_t g1 hf1)) j2
          refine at_goto (tgt := 166) dX8_readPart_98 (by decide) ?_
          refine at_vret dX8_readPart_166 rfl (by omega) (by omega) ?_
          exact hp
    · refine at_aload_n dX8_readPart_48 rfl ?_
      refine at_get dX8_readPart_49 fl_X8_22 (zl_o rfl) rfl ?_
      rw [t1]
      refine at_callS1 (d := D - 1) dX8_readPart_52 ms_X8_175 (Nat.le_of_ble_eq_true rfl) (zq_r0 (by omega) (by omega) (by omega)) ?_
      refine zc_orderWord (R := -1) (Or.inr ⟨Or.inr (Or.inl (by decide)), rfl⟩) ?_
      refine at_goto (tgt := 65) dX8_readPart_55 (by decide) ?_
      refine at_istore_n dX8_readPart_65 rfl (by decide) ?_
      refine at_aload_n dX8_readPart_66 rfl ?_
      refine at_get dX8_readPart_67 fl_X8_31 (zl_o rfl) rfl ?_
      refine at_bipush dX8_readPart_70 (v := nI 50) (by decide) ?_
      refine at_icmp_gt (tgt := 101) dX8_readPart_72 (by decide) (fun c72 => ?_) (fun c72 => ?_)
      · refine at_aload_n dX8_readPart_101 rfl ?_
        refine at_get dX8_readPart_102 fl_X8_31 (zl_o rfl) rfl ?_
        refine at_bipush dX8_readPart_105 (v := nI 50) (by decide) ?_
        refine at_icmp_gt (tgt := 162) dX8_readPart_107 (by decide) (fun c107 => ?_) (fun c107 => ?_)
        · refine at_aload_n dX8_readPart_162 rfl ?_
          refine at_callV0 (d := D - 1) dX8_readPart_163 mv_X8_61 (zl_o rfl) (Nat.le_of_ble_eq_true rfl) (zq_r0 (by omega) (by omega) (by omega)) ?_
          refine zc_fail hT hR1 hq hS1 (fun κ1 g1 g2 => ?_)
          rw [e1] at g2
          have hp := hp κ1 _ _ (zRf_t g1 hf1) g2
          refine at_vret dX8_readPart_166 rfl (by omega) (by omega) ?_
          exact hp
        · refine at_iload_n dX8_readPart_110 rfl ?_
          refine at_iconst dX8_readPart_111 (v := -1) rfl ?_
          refine at_icmp_eq (tgt := 162) dX8_readPart_112 (by decide) (fun c112 => ?_) (fun c112 => ?_)
          · refine at_aload_n dX8_readPart_162 rfl ?_
            refine at_callV0 (d := D - 1) dX8_readPart_163 mv_X8_61 (zl_o rfl) (Nat.le_of_ble_eq_true rfl) (zq_r0 (by omega) (by omega) (by omega)) ?_
            refine zc_fail hT hR1 hq hS1 (fun κ1 g1 g2 => ?_)
            rw [e1] at g2
            have hp := hp κ1 _ _ (zRf_t g1 hf1) g2
            refine at_vret dX8_readPart_166 rfl (by omega) (by omega) ?_
            exact hp
          · exact absurd rfl c112
      · refine at_aload_n dX8_readPart_75 rfl ?_
        refine at_get dX8_readPart_76 fl_X8_22 (zl_o rfl) rfl ?_
        rw [t1]
        refine at_sipush dX8_readPart_79 (v := nI 1000) (by decide) ?_
        refine at_ltN (tgt := 101) dX8_readPart_82 (by decide) (by omega) (by omega) (fun c82 => ?_) (fun c82 => ?_)
        · omega
        · refine at_aload_n dX8_readPart_85 rfl ?_
          refine at_iconst dX8_readPart_86 (v := nI 1) (by decide) ?_
          refine at_aload_n dX8_readPart_87 rfl ?_
          refine at_iconst dX8_readPart_88 (v := nI 0) (by decide) ?_
          refine at_sipush dX8_readPart_89 (v := nI 1000) (by decide) ?_
          refine at_callV2 (d := D - 1) dX8_readPart_92 mv_X8_144 (zl_o rfl) (Nat.le_of_ble_eq_true rfl) (zq_r0 (by omega) (by omega) (by omega)) ?_
          refine zc_numberWithin (by omega) (by decide) hT hR1 hq hS1 (fun κ1 g1 g2 => ?_) (by decide)
          rw [e0] at g2
          rw [show zrdn c v q 0 1000 = 0 from if_neg (fun h => hb h.1)]
          refine at_callV2 (d := D - 1) dX8_readPart_95 mv_X8_122 (zl_o rfl) (Nat.le_of_ble_eq_true rfl) (zq_r0 (by omega) (by omega) (by omega)) ?_
          refine zc_emit (by decide) (by decide) g2 (fun h => absurd h hb) (fun κ2 j1 j2 => ?_)
          have hp := hp κ2 _ _ (zRf_t j1 (zRf_t g1 hf1)) j2
          refine at_goto (tgt := 166) dX8_readPart_98 (by decide) ?_
          refine at_vret dX8_readPart_166 rfl (by omega) (by omega) ?_
          exact hp
  · omega
end ZC21

