/-! ===== the class: the reader reads a number, a word ===== -/
section ZC22
variable {l : Launch} {G : zq_G} {D n : Nat} {ρ f : Nat → zq_E} {post : Option Value → Nat → (Nat → zq_E) → Prop}
variable {N : Nat} {c v pl : Nat → Nat} {tk : Nat → Int32} {κ : zl_S} {q : zQ} {cs : Nat} {cd : Nat → Nat × Nat} {o : Bool}
theorem zTm_T (hT : zTm N c v pl tk) (hq : q.1 ≤ N) : (nI 1000 ≤ tk q.1 ∧ (c q.1 = 50 ∨ c q.1 = 0)) ∨ (tk q.1 < nI 1000 ∧ c q.1 ≠ 50) := by
  by_cases e : q.1 = N
  · rw [e, hT.2.2.1, hT.2.1]
    exact Or.inl ⟨by decide, Or.inr rfl⟩
  · have k : (nI 1000).toInt = 1000 := by decide
    rcases hT.2.2.2.2 q.1 (by omega) with ⟨b1, b2⟩ | ⟨b1, b2, b3⟩ | ⟨b1, b2⟩ | ⟨b1, b2, b3, b4, b5⟩
    · have := Nat.min_le_right (v q.1) 1001
      refine Or.inl ⟨?_, Or.inl b1⟩
      rw [b2, Int32.le_iff_toInt_le, k, nI_toInt (by omega)]; omega
    · have := zwm_in b1 b2
      refine Or.inr ⟨?_, by omega⟩
      rw [b3, Int32.lt_iff_toInt_lt, k, nI_toInt (by omega)]; omega
    · refine Or.inr ⟨?_, by omega⟩
      rw [b2]; decide
    · refine Or.inr ⟨?_, by omega⟩
      rw [Int32.lt_iff_toInt_lt, k]; omega
theorem zfw_in (o : Bool) {x : Nat} (h : zfw o ≤ x ∧ x ≤ zlwd o) : 8 ≤ x ∧ x ≤ 21 := by
  unfold zfw zlwd at h
  cases o
  · simp at h; omega
  · simp at h; omega
/-- from where the word is known: what is read, nothing or a part -/
theorem zc_part_66 {d h : Nat} {S : zX → Nat → Nat → Prop} {κ1 : zl_S} (hD : 3 ≤ D) (hh : 1 ≤ h) (hT : zTm N c v pl tk) (hR : zRw κ1 N pl tk o) (hq : q.1 ≤ N) (hf : q.2.2 = 0) (hc : c q.1 ≠ 191) (hs : zPs κ1 tk (q.1, q.2.1 + 1, 0) cs cd) (hb : cs ≤ q.1 ∧ q.2.1 ≤ 50)
    (hp : ∀ κ' cs' cd', zRf κ' κ1 → zPs κ' tk (zpP c v pl (zfw o) (zlwd o) o d q) cs' cd' → zRes o (zSpPart c v o S) h q (zpP c v pl (zfw o) (zlwd o) o d q) cs cs' cd cd' → post none n (zl_h κ' ρ)) :
    zq_At l G (zq_rm D 0 0) mX8_readPart (zq_QF G post 0 0) 66 [(0, .ref 48), (2, .int (zwR o (q.1, q.2.1 + 1, 0) c))] [] n (zl_h κ1 ρ) 0 0 := by
  have hN := hT.1
  have hqw : zqw N (q.1, q.2.1 + 1, 0) := ⟨hq, Nat.zero_le _⟩
  have s6 : κ1.1 48 6 = nI (q.2.1 + 1) := by
    rcases hs.2.2 with ⟨a1, a2, a3, a4, a5, a6⟩ | ⟨a1, a2, a3⟩
    · exact a4
    · exact absurd rfl a1
  have s3 : κ1.1 48 3 = tk q.1 := by
    rcases hs.2.2 with ⟨a1, a2, a3, a4, a5, a6⟩ | ⟨a1, a2, a3⟩
    · exact a3
    · exact absurd rfl a1
  have bad : ∀ κ' cs' cd' (q' : zQ), q'.2.2 = pl q.1 + 1 → (zpP c v pl (zfw o) (zlwd o) o d q).2.2 = pl q.1 + 1 → zRf κ' κ1 → zPs κ' tk q' cs' cd' → post none n (zl_h κ' ρ) := by
    intro κ' cs' cd' q' e1 e2 r s
    exact hp κ' cs' cd' r (zPs_bad s (by rw [e1]; exact Nat.succ_ne_zero _) (by rw [e1, e2])) (fun h0 => by rw [e2] at h0; exact absurd h0 (Nat.succ_ne_zero _))
  have zf : (zpf pl ((q.1, q.2.1 + 1, 0) : zQ)).2.2 = pl q.1 + 1 := rfl
  by_cases h50 : q.2.1 = 50
  · refine at_aload_n dX8_readPart_66 rfl ?_
    refine at_get dX8_readPart_67 fl_X8_31 (zl_o rfl) rfl ?_
    rw [s6]
    refine at_bipush dX8_readPart_70 (v := nI 50) (by decide) ?_
    refine at_gtN (tgt := 101) dX8_readPart_72 (by decide) (by omega) (by omega) (fun c72 => ?_) (fun c72 => ?_)
    · refine at_aload_n dX8_readPart_101 rfl ?_
      refine at_get dX8_readPart_102 fl_X8_31 (zl_o rfl) rfl ?_
      rw [s6]
      refine at_bipush dX8_readPart_105 (v := nI 50) (by decide) ?_
      refine at_gtN (tgt := 162) dX8_readPart_107 (by decide) (by omega) (by omega) (fun c107 => ?_) (fun c107 => ?_)
      · refine at_aload_n dX8_readPart_162 rfl ?_
        refine at_callV0 (d := D - 1) dX8_readPart_163 mv_X8_61 (zl_o rfl) (Nat.le_of_ble_eq_true rfl) (zq_r0 (by omega) (by omega) (by omega)) ?_
        refine zc_fail hT hR hqw hs (fun κ2 g1 g2 => ?_)
        have hp := bad κ2 _ _ _ zf (zpP_bad hf hc (Or.inr h50)) g1 g2
        refine at_vret dX8_readPart_166 rfl (by omega) (by omega) ?_
        exact hp
      · omega
    · omega
  rcases zTm_T (v := v) hT hq with ⟨hT1, hcc⟩ | ⟨hT1, hcc⟩
  · have hnw : ¬ (zfw o ≤ c q.1 ∧ c q.1 ≤ zlwd o) := fun h => by have := zfw_in o h; omega
    by_cases hv : c q.1 = 50 ∧ v q.1 ≤ 1000
    · have e1 : zpnum c v pl ((q.1, q.2.1 + 1, 0) : zQ) 0 1000 = (q.1 + 1, q.2.1 + 1, 0) := by
        unfold zpnum
        rw [if_pos rfl, if_pos ⟨hv.1, Nat.zero_le _, hv.2⟩]; rfl
      have e2 : zrdn c v ((q.1, q.2.1 + 1, 0) : zQ) 0 1000 = v q.1 := if_pos ⟨rfl, hv.1, Nat.zero_le _, hv.2⟩
      have e3 := zpP_num (pl := pl) (o := o) (d := d) hf hv.1 hv.2 (by omega) (fun h => by omega)
      refine at_aload_n dX8_readPart_66 rfl ?_
      refine at_get dX8_readPart_67 fl_X8_31 (zl_o rfl) rfl ?_
      rw [s6]
      refine at_bipush dX8_readPart_70 (v := nI 50) (by decide) ?_
      refine at_gtN (tgt := 101) dX8_readPart_72 (by decide) (by omega) (by omega) (fun c72 => ?_) (fun c72 => ?_)
      · omega
      · refine at_aload_n dX8_readPart_75 rfl ?_
        refine at_get dX8_readPart_76 fl_X8_22 (zl_o rfl) rfl ?_
        rw [s3]
        refine at_sipush dX8_readPart_79 (v := nI 1000) (by decide) ?_
        refine at_icmp_lt (tgt := 101) dX8_readPart_82 (by decide) (fun c82 => ?_) (fun c82 => ?_)
        · exact absurd hT1 (Int32.not_le.mpr c82)
        · refine at_aload_n dX8_readPart_85 rfl ?_
          refine at_iconst dX8_readPart_86 (v := nI 1) (by decide) ?_
          refine at_aload_n dX8_readPart_87 rfl ?_
          refine at_iconst dX8_readPart_88 (v := nI 0) (by decide) ?_
          refine at_sipush dX8_readPart_89 (v := nI 1000) (by decide) ?_
          refine at_callV2 (d := D - 1) dX8_readPart_92 mv_X8_144 (zl_o rfl) (Nat.le_of_ble_eq_true rfl) (zq_r0 (by omega) (by omega) (by omega)) ?_
          refine zc_numberWithin (by omega) (by decide) hT hR hqw hs (fun κ2 g1 g2 => ?_) (by decide)
          rw [e1] at g2
          rw [e2]
          refine at_callV2 (d := D - 1) dX8_readPart_95 mv_X8_122 (zl_o rfl) (Nat.le_of_ble_eq_true rfl) (zq_r0 (by omega) (by omega) (by omega)) ?_
          refine zc_emit (by decide) (by omega) g2 (fun _ => by omega) (fun κ3 j1 j2 => ?_)
          rw [if_pos (by omega)] at j2
          have hp := hp κ3 (cs + 1) _ (zRf_t j1 g1) (by rw [e3]; exact j2) (fun _ => (by
            rw [e3]
            exact ⟨hf, by show cs + 1 + q.1 ≤ cs + (q.1 + 1); omega, by show q.2.1 + 1 ≤ 50; omega, fun k hk => zcu_o (by omega), zx_num (v q.1), Or.inr (Or.inl ⟨hv.1, hv.2, rfl, rfl⟩), zCC_ext (zCC_num hv.2 (zcu_s _ _ _)) hh (fun _ _ _ => rfl)⟩))
          refine at_goto (tgt := 166) dX8_readPart_98 (by decide) ?_
          refine at_vret dX8_readPart_166 rfl (by omega) (by omega) ?_
          exact hp
    · have e1 : zpnum c v pl ((q.1, q.2.1 + 1, 0) : zQ) 0 1000 = zpf pl ((q.1, q.2.1 + 1, 0) : zQ) := by
        unfold zpnum
        rw [if_pos rfl, if_neg (fun h => hv ⟨h.1, h.2.2⟩)]
      have e2 : zrdn c v ((q.1, q.2.1 + 1, 0) : zQ) 0 1000 = 0 := if_neg (fun h => hv ⟨h.2.1, h.2.2.2⟩)
      refine at_aload_n dX8_readPart_66 rfl ?_
      refine at_get dX8_readPart_67 fl_X8_31 (zl_o rfl) rfl ?_
      rw [s6]
      refine at_bipush dX8_readPart_70 (v := nI 50) (by decide) ?_
      refine at_gtN (tgt := 101) dX8_readPart_72 (by decide) (by omega) (by omega) (fun c72 => ?_) (fun c72 => ?_)
      · omega
      · refine at_aload_n dX8_readPart_75 rfl ?_
        refine at_get dX8_readPart_76 fl_X8_22 (zl_o rfl) rfl ?_
        rw [s3]
        refine at_sipush dX8_readPart_79 (v := nI 1000) (by decide) ?_
        refine at_icmp_lt (tgt := 101) dX8_readPart_82 (by decide) (fun c82 => ?_) (fun c82 => ?_)
        · exact absurd hT1 (Int32.not_le.mpr c82)
        · refine at_aload_n dX8_readPart_85 rfl ?_
          refine at_iconst dX8_readPart_86 (v := nI 1) (by decide) ?_
          refine at_aload_n dX8_readPart_87 rfl ?_
          refine at_iconst dX8_readPart_88 (v := nI 0) (by decide) ?_
          refine at_sipush dX8_readPart_89 (v := nI 1000) (by decide) ?_
          refine at_callV2 (d := D - 1) dX8_readPart_92 mv_X8_144 (zl_o rfl) (Nat.le_of_ble_eq_true rfl) (zq_r0 (by omega) (by omega) (by omega)) ?_
          refine zc_numberWithin (by omega) (by decide) hT hR hqw hs (fun κ2 g1 g2 => ?_) (by decide)
          rw [e1] at g2
          rw [e2]
          refine at_callV2 (d := D - 1) dX8_readPart_95 mv_X8_122 (zl_o rfl) (Nat.le_of_ble_eq_true rfl) (zq_r0 (by omega) (by omega) (by omega)) ?_
          refine zc_emit (by decide) (by omega) g2 (fun _ => by omega) (fun κ3 j1 j2 => ?_)
          have hp := bad κ3 _ _ _ zf (zpP_bad hf hc (Or.inl (fun h => h.elim hv hnw))) (zRf_t j1 g1) j2
          refine at_goto (tgt := 166) dX8_readPart_98 (by decide) ?_
          refine at_vret dX8_readPart_166 rfl (by omega) (by omega) ?_
          exact hp
  by_cases hw : zfw o ≤ c q.1 ∧ c q.1 ≤ zlwd o
  · have ew : zwR o (q.1, q.2.1 + 1, 0) c = nI (zwi o (c q.1) 0) := if_pos ⟨rfl, hw⟩
    have hw2 := zfw_in o hw
    have hlt : q.1 < N := by
      by_cases e : q.1 = N
      · rw [e, hT.2.1] at hw2; omega
      · omega
    have hwi : zwi o (c q.1) 0 < 20 := by
      unfold zwi
      cases o
      · simp; split
        · omega
        · split <;> omega
      · simp; split
        · omega
        · split <;> omega
    have e3 := zpP_word (v := v) (pl := pl) (o := o) (d := d) hf hw (by omega)
    rw [ew]
    cases o with
    | false =>
      have hw8 : 8 ≤ c q.1 ∧ c q.1 ≤ 15 := hw
      rw [if_neg (fun h => by cases h.1)] at e3
      refine at_aload_n dX8_readPart_66 rfl ?_
      refine at_get dX8_readPart_67 fl_X8_31 (zl_o rfl) rfl ?_
      rw [s6]
      refine at_bipush dX8_readPart_70 (v := nI 50) (by decide) ?_
      refine at_gtN (tgt := 101) dX8_readPart_72 (by decide) (by omega) (by omega) (fun c72 => ?_) (fun c72 => ?_)
      · omega
      · refine at_aload_n dX8_readPart_75 rfl ?_
        refine at_get dX8_readPart_76 fl_X8_22 (zl_o rfl) rfl ?_
        rw [s3]
        refine at_sipush dX8_readPart_79 (v := nI 1000) (by decide) ?_
        refine at_icmp_lt (tgt := 101) dX8_readPart_82 (by decide) (fun c82 => ?_) (fun c82 => ?_)
        · refine at_aload_n dX8_readPart_101 rfl ?_
          refine at_get dX8_readPart_102 fl_X8_31 (zl_o rfl) rfl ?_
          rw [s6]
          refine at_bipush dX8_readPart_105 (v := nI 50) (by decide) ?_
          refine at_gtN (tgt := 162) dX8_readPart_107 (by decide) (by omega) (by omega) (fun c107 => ?_) (fun c107 => ?_)
          · omega
          · refine at_iload_n dX8_readPart_110 rfl ?_
            refine at_iconst dX8_readPart_111 (v := -1) rfl ?_
            refine at_icmp_eq (tgt := 162) dX8_readPart_112 (by decide) (fun c112 => ?_) (fun c112 => ?_)
            · exact absurd c112 (nI_ne_m1 (by omega))
            · refine at_aload_n dX8_readPart_115 rfl ?_
              refine at_callV0 (d := D - 1) dX8_readPart_116 mv_X8_58 (zl_o rfl) (Nat.le_of_ble_eq_true rfl) (zq_r0 (by omega) (by omega) (by omega)) ?_
              refine zc_next hT hR hqw hs (fun _ => hlt) (fun κ2 g1 g2 => ?_)
              rw [if_pos rfl] at g2
              have hR2 := zRw_f g1 hR
              refine at_aload_n dX8_readPart_119 rfl ?_
              refine at_get dX8_readPart_120 fl_X8_37 (zl_o rfl) rfl ?_
              rw [hR2.2]
              refine at_if_eqB (tgt := 135) dX8_readPart_123 (by decide) (fun c123 => ?_) (fun c123 => ?_)
              · refine at_iconst dX8_readPart_135 (v := nI 0) (by decide) ?_
                refine at_istore_n dX8_readPart_136 rfl (by decide) ?_
                refine at_aload_n dX8_readPart_137 rfl ?_
                refine at_iconst dX8_readPart_138 (v := nI 2) (by decide) ?_
                refine at_iload_n dX8_readPart_139 rfl ?_
                refine at_if_eqN (tgt := 155) dX8_readPart_140 (by decide) (by omega) (fun c140 => ?_) (fun c140 => ?_)
                · refine at_iload_n dX8_readPart_155 rfl ?_
                  refine at_callV2 (d := D - 1) dX8_readPart_156 mv_X8_122 (zl_o rfl) (Nat.le_of_ble_eq_true rfl) (zq_r0 (by omega) (by omega) (by omega)) ?_
                  refine zc_emit (by decide) (by omega) g2 (fun _ => by omega) (fun κ3 j1 j2 => ?_)
                  rw [if_pos (by omega)] at j2
                  have hp := hp κ3 (cs + 1) _ (zRf_t j1 g1) (by rw [e3]; exact j2) (fun _ => (by
                    rw [e3]
                    exact ⟨hf, by show cs + 1 + q.1 ≤ cs + (q.1 + 1); omega, by show q.2.1 + 1 ≤ 50; omega, fun k hk => zcu_o (by omega), zx_wd (c q.1) 0, Or.inr (Or.inr (Or.inl ⟨rfl, hw8.1, hw8.2, rfl, rfl⟩)), zCC_ext (zCC_wd (Or.inl ⟨rfl, hw8.1, hw8.2, rfl⟩) (zcu_s _ _ _)) hh (fun _ _ _ => rfl)⟩))
                  refine at_goto (tgt := 166) dX8_readPart_159 (by decide) ?_
                  refine at_vret dX8_readPart_166 rfl (by omega) (by omega) ?_
                  exact hp
                · exact absurd rfl c140
              · exact absurd c123 (by decide)
        · exact absurd hT1 c82
    | true =>
      have hw15 : 15 ≤ c q.1 ∧ c q.1 ≤ 21 := hw
      by_cases h20 : c q.1 = 20 ∨ c q.1 = 21
      · rw [if_pos ⟨rfl, h20⟩] at e3
        have hw5 : 5 ≤ zwi true (c q.1) 0 := by rcases h20 with h | h <;> rw [h] <;> decide
        have hz6 : zrdn c v ((q.1 + 1, q.2.1 + 1, 0) : zQ) 0 6 ≤ 6 := by unfold zrdn; split <;> omega
        have hsum : ∀ k, zwi true (c q.1) 0 + k = zwi true (c q.1) k := by
          intro k
          rcases h20 with h | h <;> rw [h]
          · show 5 + 0 + k = 5 + k; omega
          · show 12 + 0 + k = 12 + k; omega
        refine at_aload_n dX8_readPart_66 rfl ?_
        refine at_get dX8_readPart_67 fl_X8_31 (zl_o rfl) rfl ?_
        rw [s6]
        refine at_bipush dX8_readPart_70 (v := nI 50) (by decide) ?_
        refine at_gtN (tgt := 101) dX8_readPart_72 (by decide) (by omega) (by omega) (fun c72 => ?_) (fun c72 => ?_)
        · omega
        · refine at_aload_n dX8_readPart_75 rfl ?_
          refine at_get dX8_readPart_76 fl_X8_22 (zl_o rfl) rfl ?_
          rw [s3]
          refine at_sipush dX8_readPart_79 (v := nI 1000) (by decide) ?_
          refine at_icmp_lt (tgt := 101) dX8_readPart_82 (by decide) (fun c82 => ?_) (fun c82 => ?_)
          · refine at_aload_n dX8_readPart_101 rfl ?_
            refine at_get dX8_readPart_102 fl_X8_31 (zl_o rfl) rfl ?_
            rw [s6]
            refine at_bipush dX8_readPart_105 (v := nI 50) (by decide) ?_
            refine at_gtN (tgt := 162) dX8_readPart_107 (by decide) (by omega) (by omega) (fun c107 => ?_) (fun c107 => ?_)
            · omega
            · refine at_iload_n dX8_readPart_110 rfl ?_
              refine at_iconst dX8_readPart_111 (v := -1) rfl ?_
              refine at_icmp_eq (tgt := 162) dX8_readPart_112 (by decide) (fun c112 => ?_) (fun c112 => ?_)
              · exact absurd c112 (nI_ne_m1 (by omega))
              · refine at_aload_n dX8_readPart_115 rfl ?_
                refine at_callV0 (d := D - 1) dX8_readPart_116 mv_X8_58 (zl_o rfl) (Nat.le_of_ble_eq_true rfl) (zq_r0 (by omega) (by omega) (by omega)) ?_
                refine zc_next hT hR hqw hs (fun _ => hlt) (fun κ2 g1 g2 => ?_)
                rw [if_pos rfl] at g2
                have hR2 := zRw_f g1 hR
                refine at_aload_n dX8_readPart_119 rfl ?_
                refine at_get dX8_readPart_120 fl_X8_37 (zl_o rfl) rfl ?_
                rw [hR2.2]
                refine at_if_eqB (tgt := 135) dX8_readPart_123 (by decide) (fun c123 => ?_) (fun c123 => ?_)
                · exact absurd c123 (by decide)
                · refine at_iload_n dX8_readPart_126 rfl ?_
                  refine at_iconst dX8_readPart_127 (v := nI 5) (by decide) ?_
                  refine at_ltN (tgt := 135) dX8_readPart_128 (by decide) (by omega) (by omega) (fun c128 => ?_) (fun c128 => ?_)
                  · omega
                  · refine at_iconst dX8_readPart_131 (v := nI 1) (by decide) ?_
                    refine at_goto (tgt := 136) dX8_readPart_132 (by decide) ?_
                    refine at_istore_n dX8_readPart_136 rfl (by decide) ?_
                    refine at_aload_n dX8_readPart_137 rfl ?_
                    refine at_iconst dX8_readPart_138 (v := nI 2) (by decide) ?_
                    refine at_iload_n dX8_readPart_139 rfl ?_
                    refine at_if_eqN (tgt := 155) dX8_readPart_140 (by decide) (by omega) (fun c140 => ?_) (fun c140 => ?_)
                    · exact absurd c140 (by decide)
                    · refine at_iload_n dX8_readPart_143 rfl ?_
                      refine at_aload_n dX8_readPart_144 rfl ?_
                      refine at_iconst dX8_readPart_145 (v := nI 0) (by decide) ?_
                      refine at_bipush dX8_readPart_146 (v := nI 6) (by decide) ?_
                      refine at_callV2 (d := D - 1) dX8_readPart_148 mv_X8_144 (zl_o rfl) (Nat.le_of_ble_eq_true rfl) (zq_r0 (by omega) (by omega) (by omega)) ?_
                      refine zc_numberWithin (q := (q.1 + 1, q.2.1 + 1, 0)) (by omega) (by decide) hT hR2 ⟨hlt, Nat.zero_le _⟩ g2 (fun κ3 j1 j2 => ?_) (by decide)
                      refine at_iaddN dX8_readPart_151 ?_
                      refine at_goto (tgt := 156) dX8_readPart_152 (by decide) ?_
                      refine at_callV2 (d := D - 1) dX8_readPart_156 mv_X8_122 (zl_o rfl) (Nat.le_of_ble_eq_true rfl) (zq_r0 (by omega) (by omega) (by omega)) ?_
                      refine zc_emit (by decide) (by omega) j2 (fun _ => by omega) (fun κ4 m1 m2 => ?_)
                      rw [if_pos (by omega)] at m2
                      have hp := hp κ4 (cs + 1) _ (zRf_t m1 (zRf_t j1 g1)) (by rw [e3]; exact m2) (fun h0 => (by
                        rw [e3] at h0 ⊢
                        have hok : c (q.1 + 1) = 50 ∧ v (q.1 + 1) ≤ 6 := (by
                          apply Classical.byContradiction
                          intro hn
                          unfold zpnum at h0
                          rw [if_pos rfl, if_neg (fun h => hn ⟨h.1, h.2.2⟩)] at h0
                          exact (zpf_bad h0))
                        have er : zrdn c v ((q.1 + 1, q.2.1 + 1, 0) : zQ) 0 6 = v (q.1 + 1) := if_pos ⟨rfl, hok.1, Nat.zero_le _, hok.2⟩
                        have en : zpnum c v pl ((q.1 + 1, q.2.1 + 1, 0) : zQ) 0 6 = (q.1 + 1 + 1, q.2.1 + 1, 0) := (by
                          unfold zpnum
                          rw [if_pos rfl, if_pos ⟨hok.1, Nat.zero_le _, hok.2⟩]; rfl)
                        rw [en, er, hsum]
                        exact ⟨hf, by show cs + 1 + q.1 ≤ cs + (q.1 + 1 + 1); omega, by show q.2.1 + 1 ≤ 50; omega, fun k hk => zcu_o (by omega), zx_wd (c q.1) (v (q.1 + 1)), Or.inr (Or.inr (Or.inr (Or.inr ⟨rfl, h20, hok.1, hok.2, rfl, rfl⟩))), zCC_ext (zCC_wd (Or.inr ⟨rfl, Or.inr ⟨h20, hok.2⟩⟩) (zcu_s _ _ _)) hh (fun _ _ _ => rfl)⟩))
                      refine at_goto (tgt := 166) dX8_readPart_159 (by decide) ?_
                      refine at_vret dX8_readPart_166 rfl (by omega) (by omega) ?_
                      exact hp
          · exact absurd hT1 c82
      · rw [if_neg (fun h => h20 h.2)] at e3
        have hw5 : zwi true (c q.1) 0 < 5 := by
          show (if c q.1 = 20 then 5 + 0 else if c q.1 = 21 then 12 + 0 else c q.1 - 15) < 5
          rw [if_neg (fun h => h20 (Or.inl h)), if_neg (fun h => h20 (Or.inr h))]; omega
        refine at_aload_n dX8_readPart_66 rfl ?_
        refine at_get dX8_readPart_67 fl_X8_31 (zl_o rfl) rfl ?_
        rw [s6]
        refine at_bipush dX8_readPart_70 (v := nI 50) (by decide) ?_
        refine at_gtN (tgt := 101) dX8_readPart_72 (by decide) (by omega) (by omega) (fun c72 => ?_) (fun c72 => ?_)
        · omega
        · refine at_aload_n dX8_readPart_75 rfl ?_
          refine at_get dX8_readPart_76 fl_X8_22 (zl_o rfl) rfl ?_
          rw [s3]
          refine at_sipush dX8_readPart_79 (v := nI 1000) (by decide) ?_
          refine at_icmp_lt (tgt := 101) dX8_readPart_82 (by decide) (fun c82 => ?_) (fun c82 => ?_)
          · refine at_aload_n dX8_readPart_101 rfl ?_
            refine at_get dX8_readPart_102 fl_X8_31 (zl_o rfl) rfl ?_
            rw [s6]
            refine at_bipush dX8_readPart_105 (v := nI 50) (by decide) ?_
            refine at_gtN (tgt := 162) dX8_readPart_107 (by decide) (by omega) (by omega) (fun c107 => ?_) (fun c107 => ?_)
            · omega
            · refine at_iload_n dX8_readPart_110 rfl ?_
              refine at_iconst dX8_readPart_111 (v := -1) rfl ?_
              refine at_icmp_eq (tgt := 162) dX8_readPart_112 (by decide) (fun c112 => ?_) (fun c112 => ?_)
              · exact absurd c112 (nI_ne_m1 (by omega))
              · refine at_aload_n dX8_readPart_115 rfl ?_
                refine at_callV0 (d := D - 1) dX8_readPart_116 mv_X8_58 (zl_o rfl) (Nat.le_of_ble_eq_true rfl) (zq_r0 (by omega) (by omega) (by omega)) ?_
                refine zc_next hT hR hqw hs (fun _ => hlt) (fun κ2 g1 g2 => ?_)
                rw [if_pos rfl] at g2
                have hR2 := zRw_f g1 hR
                refine at_aload_n dX8_readPart_119 rfl ?_
                refine at_get dX8_readPart_120 fl_X8_37 (zl_o rfl) rfl ?_
                rw [hR2.2]
                refine at_if_eqB (tgt := 135) dX8_readPart_123 (by decide) (fun c123 => ?_) (fun c123 => ?_)
                · exact absurd c123 (by decide)
                · refine at_iload_n dX8_readPart_126 rfl ?_
                  refine at_iconst dX8_readPart_127 (v := nI 5) (by decide) ?_
                  refine at_ltN (tgt := 135) dX8_readPart_128 (by decide) (by omega) (by omega) (fun c128 => ?_) (fun c128 => ?_)
                  · refine at_iconst dX8_readPart_135 (v := nI 0) (by decide) ?_
                    refine at_istore_n dX8_readPart_136 rfl (by decide) ?_
                    refine at_aload_n dX8_readPart_137 rfl ?_
                    refine at_iconst dX8_readPart_138 (v := nI 2) (by decide) ?_
                    refine at_iload_n dX8_readPart_139 rfl ?_
                    refine at_if_eqN (tgt := 155) dX8_readPart_140 (by decide) (by omega) (fun c140 => ?_) (fun c140 => ?_)
                    · refine at_iload_n dX8_readPart_155 rfl ?_
                      refine at_callV2 (d := D - 1) dX8_readPart_156 mv_X8_122 (zl_o rfl) (Nat.le_of_ble_eq_true rfl) (zq_r0 (by omega) (by omega) (by omega)) ?_
                      refine zc_emit (by decide) (by omega) g2 (fun _ => by omega) (fun κ3 j1 j2 => ?_)
                      rw [if_pos (by omega)] at j2
                      have hp := hp κ3 (cs + 1) _ (zRf_t j1 g1) (by rw [e3]; exact j2) (fun _ => (by
                        rw [e3]
                        exact ⟨hf, by show cs + 1 + q.1 ≤ cs + (q.1 + 1); omega, by show q.2.1 + 1 ≤ 50; omega, fun k hk => zcu_o (by omega), zx_wd (c q.1) 0, Or.inr (Or.inr (Or.inr (Or.inl ⟨rfl, hw15.1, by omega, rfl, rfl⟩))), zCC_ext (zCC_wd (Or.inr ⟨rfl, Or.inl ⟨hw15.1, by omega, rfl⟩⟩) (zcu_s _ _ _)) hh (fun _ _ _ => rfl)⟩))
                      refine at_goto (tgt := 166) dX8_readPart_159 (by decide) ?_
                      refine at_vret dX8_readPart_166 rfl (by omega) (by omega) ?_
                      exact hp
                    · exact absurd rfl c140
                  · omega
          · exact absurd hT1 c82
  · have ew : zwR o (q.1, q.2.1 + 1, 0) c = -1 := if_neg (fun h => hw h.2)
    rw [ew]
    refine at_aload_n dX8_readPart_66 rfl ?_
    refine at_get dX8_readPart_67 fl_X8_31 (zl_o rfl) rfl ?_
    rw [s6]
    refine at_bipush dX8_readPart_70 (v := nI 50) (by decide) ?_
    refine at_gtN (tgt := 101) dX8_readPart_72 (by decide) (by omega) (by omega) (fun c72 => ?_) (fun c72 => ?_)
    · omega
    · refine at_aload_n dX8_readPart_75 rfl ?_
      refine at_get dX8_readPart_76 fl_X8_22 (zl_o rfl) rfl ?_
      rw [s3]
      refine at_sipush dX8_readPart_79 (v := nI 1000) (by decide) ?_
      refine at_icmp_lt (tgt := 101) dX8_readPart_82 (by decide) (fun c82 => ?_) (fun c82 => ?_)
      · refine at_aload_n dX8_readPart_101 rfl ?_
        refine at_get dX8_readPart_102 fl_X8_31 (zl_o rfl) rfl ?_
        rw [s6]
        refine at_bipush dX8_readPart_105 (v := nI 50) (by decide) ?_
        refine at_gtN (tgt := 162) dX8_readPart_107 (by decide) (by omega) (by omega) (fun c107 => ?_) (fun c107 => ?_)
        · omega
        · refine at_iload_n dX8_readPart_110 rfl ?_
          refine at_iconst dX8_readPart_111 (v := -1) rfl ?_
          refine at_icmp_eq (tgt := 162) dX8_readPart_112 (by decide) (fun c112 => ?_) (fun c112 => ?_)
          · refine at_aload_n dX8_readPart_162 rfl ?_
            refine at_callV0 (d := D - 1) dX8_readPart_163 mv_X8_61 (zl_o rfl) (Nat.le_of_ble_eq_true rfl) (zq_r0 (by omega) (by omega) (by omega)) ?_
            refine zc_fail hT hR hqw hs (fun κ2 g1 g2 => ?_)
            have hp := bad κ2 _ _ _ zf (zpP_bad hf hc (Or.inl (fun h => h.elim (fun e => hcc e.1) hw))) g1 g2
            refine at_vret dX8_readPart_166 rfl (by omega) (by omega) ?_
            exact hp
          · exact absurd rfl c112
      · exact absurd hT1 c82
end ZC22

