/-! ===== the class: the reader reads plain tests ===== -/
section ZC27
variable {l : Launch} {G : zq_G} {D n : Nat} {ρ f : Nat → zq_E}
variable {N : Nat} {c v pl : Nat → Nat} {tk : Nat → Int32} {o : Bool}
theorem zc_rp_not {d cs : Nat} {q0 : zQ} {cd : Nat → Nat × Nat} {κ0 : zl_S} {post : Option Value → Nat → (Nat → zq_E) → Prop} (hD : 1 ≤ D) (hT : zTm N c v pl tk) (hR0 : zRw κ0 N pl tk o) (hq : zqk N q0)
    (hk : ∀ r κ, (∀ k, k < r → c (q0.1 + k) = 7) → (q0.2.2 = 0 → c (q0.1 + r) ≠ 7) → zpL c [7] id 402 q0 = (q0.1 + r, q0.2) → q0.1 + r ≤ N → zRf κ κ0 → zPs κ tk (q0.1 + r, q0.2) cs cd → zq_At l G (zq_rm D 0 0) mX8_readPlain (zq_QF G post 0 0) 41 [(0, .ref 48), (1, .int (nI d)), (2, .int (nI (r % 2)))] [] n (zl_h κ ρ) 0 0) :
    ∀ F r κ, F + r = 402 → (∀ k, k < r → c (q0.1 + k) = 7) → zpL c [7] id F (q0.1 + r, q0.2) = zpL c [7] id 402 q0 → q0.1 + r ≤ N → zRf κ κ0 → zPs κ tk (q0.1 + r, q0.2) cs cd → zq_At l G (zq_rm D 0 0) mX8_readPlain (zq_QF G post 0 0) 4 [(0, .ref 48), (1, .int (nI d)), (2, .int (nI (r % 2))), (3, .int (nI r))] [] n (zl_h κ ρ) 0 0 := by
  have hN := hT.1
  intro F
  induction F with
  | zero =>
    intro r κ hF
    omega
  | succ F ih =>
    intro r κ hF hc hQ hr hκ hs
    have hqw : zqw N (q0.1 + r, q0.2) := ⟨hr, hq.2.1⟩
    have w7 : κ.1 48 3 = nI 283 ↔ zpt c (q0.1 + r, q0.2) 7 = true := zPs_iff (k := 7) hT hr (Or.inl ⟨by decide, by decide⟩) hs
    have hR := zRw_f hκ hR0
    by_cases ha : zpt c (q0.1 + r, q0.2) 7 = true
    · obtain ⟨z1, z2, z3⟩ := zpt_c hT hqw (by decide) ha
      have z1 : q0.2.2 = 0 := z1
      have z2 : q0.1 + r < N := z2
      have z3 : c (q0.1 + r) = 7 := z3
      have ih := fun κ' h1 h2 => ih (r + 1) κ' (by omega) (fun k hk => by
        by_cases e : k = r
        · rw [e]; exact z3
        · exact hc k (by omega)) (by
        rw [← hQ]
        show _ = if ([7].any (fun k => zpt c (q0.1 + r, q0.2) k)) = true then _ else _
        rw [if_pos (by simp [ha])]
        rfl) (by omega) h1 h2
      refine at_iload_n dX8_readPlain_4 rfl ?_
      refine at_sipush dX8_readPlain_5 (v := nI 400) (by decide) ?_
      refine at_geN (tgt := 41) dX8_readPlain_8 (by decide) (by omega) (by omega) (fun c8 => ?_) (fun c8 => ?_)
      · omega
      · refine at_aload_n dX8_readPlain_11 rfl ?_
        refine at_get dX8_readPlain_12 fl_X8_22 (zl_o rfl) rfl ?_
        refine at_sipush dX8_readPlain_15 (v := nI 283) (by decide) ?_
        refine at_icmp_ne (tgt := 41) dX8_readPlain_18 (by decide) (fun c18 => ?_) (fun c18 => ?_)
        · exact absurd (w7.mpr ha) c18
        · refine at_iload_n dX8_readPlain_21 rfl ?_
          refine at_if_neN (tgt := 29) dX8_readPlain_22 (by decide) (by omega) (fun c22 => ?_) (fun c22 => ?_)
          · refine at_iconst dX8_readPlain_29 (v := nI 0) (by decide) ?_
            refine at_istore_n dX8_readPlain_30 rfl (by decide) ?_
            refine at_aload_n dX8_readPlain_31 rfl ?_
            refine at_callV0 (d := D - 1) dX8_readPlain_32 mv_X8_58 (zl_o rfl) (Nat.le_of_ble_eq_true rfl) (zq_r0 (by omega) (by omega) (by omega)) ?_
            refine zc_next hT hR hqw hs (fun _ => z2) (fun κ1 g1 g2 => ?_)
            rw [if_pos z1] at g2
            have hn := ih κ1 (zRf_t g1 hκ) g2
            refine at_iincN dX8_readPlain_35 rfl (by decide) ?_
            refine at_goto (tgt := 4) dX8_readPlain_38 (by decide) ?_
            rw [show (r + 1) % 2 = 0 by omega] at hn
            exact at_lv [0, 1, 2, 3] hn
          · refine at_iconst dX8_readPlain_25 (v := nI 1) (by decide) ?_
            refine at_goto (tgt := 30) dX8_readPlain_26 (by decide) ?_
            refine at_istore_n dX8_readPlain_30 rfl (by decide) ?_
            refine at_aload_n dX8_readPlain_31 rfl ?_
            refine at_callV0 (d := D - 1) dX8_readPlain_32 mv_X8_58 (zl_o rfl) (Nat.le_of_ble_eq_true rfl) (zq_r0 (by omega) (by omega) (by omega)) ?_
            refine zc_next hT hR hqw hs (fun _ => z2) (fun κ1 g1 g2 => ?_)
            rw [if_pos z1] at g2
            have hn := ih κ1 (zRf_t g1 hκ) g2
            refine at_iincN dX8_readPlain_35 rfl (by decide) ?_
            refine at_goto (tgt := 4) dX8_readPlain_38 (by decide) ?_
            rw [show (r + 1) % 2 = 1 by omega] at hn
            exact at_lv [0, 1, 2, 3] hn
    · have na : ([7].any (fun k => zpt c (q0.1 + r, q0.2) k)) = false := by
        simp only [List.any_cons, List.any_nil, Bool.or_false]
        exact Bool.eq_false_iff.mpr ha
      rw [zpL_no na] at hQ
      have hn := hk r κ hc (fun h0 => zpt_no ha h0) hQ.symm hr hκ hs
      refine at_iload_n dX8_readPlain_4 rfl ?_
      refine at_sipush dX8_readPlain_5 (v := nI 400) (by decide) ?_
      refine at_geN (tgt := 41) dX8_readPlain_8 (by decide) (by omega) (by omega) (fun c8 => ?_) (fun c8 => ?_)
      · exact at_lv [0, 1, 2] hn
      · refine at_aload_n dX8_readPlain_11 rfl ?_
        refine at_get dX8_readPlain_12 fl_X8_22 (zl_o rfl) rfl ?_
        refine at_sipush dX8_readPlain_15 (v := nI 283) (by decide) ?_
        refine at_icmp_ne (tgt := 41) dX8_readPlain_18 (by decide) (fun c18 => ?_) (fun c18 => ?_)
        · exact at_lv [0, 1, 2] hn
        · exact absurd (w7.mp c18) ha
/-- behind what is turned or not -/
theorem zc_plain_79 {d h cs cs1 r : Nat} {q0 Q : zQ} {Sp : zX → Nat → Nat → Prop} {cd cd1 : Nat → Nat × Nat} {κ0 κ1 : zl_S} {post : Option Value → Nat → (Nat → zq_E) → Prop} (hD : 1 ≤ D) (hQN : zqk N Q) (hN : N ≤ 400) (hB : ∀ W, zB1 W Sp)
    (hc : ∀ k, k < r → c (q0.1 + k) = 7) (hc2 : q0.2.2 = 0 → c (q0.1 + r) ≠ 7) (hκ : zRf κ1 κ0) (hs : zPs κ1 tk Q cs1 cd1) (hr : zRes o Sp h (q0.1 + r, q0.2) Q cs cs1 cd cd1) (hb : q0.2.2 = 0 → cs ≤ q0.1)
    (hp : ∀ κ' cs' cd', zRf κ' κ0 → zPs κ' tk Q cs' cd' → zRes o (zSpPlain c Sp) h q0 Q cs cs' cd cd' → post none n (zl_h κ' ρ)) :
    zq_At l G (zq_rm D 0 0) mX8_readPlain (zq_QF G post 0 0) 79 [(0, .ref 48), (1, .int (nI d)), (2, .int (nI (r % 2)))] [] n (zl_h κ1 ρ) 0 0 := by
  have hlt : Q.2.2 = 0 → cs1 < 800 := fun h0 => by
    obtain ⟨r1, r2, _⟩ := hr h0
    have r2 : cs1 + (q0.1 + r) ≤ cs + Q.1 := r2
    have := hb r1
    have := hQN.1
    omega
  refine at_iload_n dX8_readPlain_79 rfl ?_
  refine at_if_eqN (tgt := 89) dX8_readPlain_80 (by decide) (by omega) (fun c80 => ?_) (fun c80 => ?_)
  · have hp := hp κ1 cs1 cd1 hκ hs (fun h0 => (by
      obtain ⟨r1, r2, r3, r4, e, r5, r6⟩ := hr h0
      have r2 : cs1 + (q0.1 + r) ≤ cs + Q.1 := r2
      exact ⟨r1, by omega, r3, r4, e, ⟨r, e, hc, hc2 r1, r5, by rw [if_neg (by omega)]⟩, r6⟩))
    refine at_vret dX8_readPlain_89 rfl (by omega) (by omega) ?_
    exact hp
  · refine at_aload_n dX8_readPlain_83 rfl ?_
    refine at_iconst dX8_readPlain_84 (v := nI 3) (by decide) ?_
    refine at_iconst dX8_readPlain_85 (v := nI 0) (by decide) ?_
    refine at_callV2 (d := D - 1) dX8_readPlain_86 mv_X8_122 (zl_o rfl) (Nat.le_of_ble_eq_true rfl) (zq_r0 (by omega) (by omega) (by omega)) ?_
    refine zc_emit (op := 3) (ar := 0) (by decide) (by decide) hs hlt (fun κ2 g1 g2 => ?_)
    have hp := hp κ2 _ _ (zRf_t g1 hκ) g2 (fun h0 => (by
      rw [if_pos (hlt h0)]
      obtain ⟨r1, r2, r3, r4, e, r5, r6⟩ := hr h0
      have r2 : cs1 + (q0.1 + r) ≤ cs + Q.1 := r2
      have i1 := r6.1
      exact ⟨r1, by omega, r3, fun k hk => by rw [zcu_o (by omega), r4 k hk], zx_nt e, ⟨r, e, hc, hc2 r1, r5, by rw [if_pos (by omega)]⟩, zCC_nt (zCC_ext r6 (Nat.le_refl _) (fun k k1 k2 => zcu_o (by omega))) (fun W g _ => hB W e _ _ r5) (zcu_s _ _ _)⟩))
    refine at_vret dX8_readPlain_89 rfl (by omega) (by omega) ?_
    exact hp
theorem zc_readPlain {d : Nat} (hD : 4 ≤ D) (hd : d ≤ 8) (hT : zTm N c v pl tk) (hC : zHR l G n ρ N pl tk o (D - 1) yX8_readComparison d (zfC c pl (zpS c v pl (zfw o) (zlwd o) o (8 - d))) (zSpCm c (zSpS c v o (9 - d))) (2 * (9 - d) + 2))
    (hR' : d < 8 → zHR l G n ρ N pl tk o (D - 1) yX8_readTest (d + 1) (zpT c v pl (zfw o) (zlwd o) o (7 - d)) (zSpT c v o (8 - d)) (2 * (8 - d) + 2)) :
    zHR l G n ρ N pl tk o D yX8_readPlain d (zpPl c v pl (zfw o) (zlwd o) o (8 - d)) (zSpPlain c (zSpPos c (zSpS c v o (9 - d)) (zSpT c v o (8 - d)))) (2 * (9 - d) + 2) := by
  intro κ q0 cs cd post hR hq hs hb hp
  have hB : ∀ W, zB1 W (zSpPos c (zSpS c v o (9 - d)) (zSpT c v o (8 - d))) := fun W => zB1_pos (zB1_T (8 - d))
  have hgPl := zgd_Pl (v := v) (pl := pl) (fw := zfw o) (lw := zlwd o) (o := o) hT.1 hT.2.1 hT.2.2.2.1 (zfw_pos o) (8 - d)
  have hQk := (hgPl q0 hq).1
  have hb0 : q0.2.2 = 0 → cs ≤ q0.1 := fun h0 => (hb h0).1
  have hn := zc_rp_not (l := l) (G := G) (n := n) (ρ := ρ) (D := D) (d := d) (cs := cs) (cd := cd) (post := post) (by omega) hT hR hq (fun r κ1 hc hc2 hL hrN hκ hs1 => by
    have hqk : zqk N (q0.1 + r, q0.2) := ⟨hrN, hq.2.1, fun h => by have := hq.2.2.1 h; show q0.2.1 ≤ q0.1 + r; omega, hq.2.2.2⟩
    have hb1 : ((q0.1 + r, q0.2) : zQ).2.2 = 0 → cs ≤ ((q0.1 + r, q0.2) : zQ).1 ∧ ((q0.1 + r, q0.2) : zQ).2.1 ≤ 50 := fun h0 => ⟨by show cs ≤ q0.1 + r; have := hb0 h0; omega, (hb h0).2⟩
    have hR1 := zRw_f hκ hR
    have w40 : κ1.1 48 3 = nI 40 ↔ zpt c (q0.1 + r, q0.2) 140 = true := zPs_iff (k := 140) hT hrN (Or.inr ⟨by decide, by decide⟩) hs1
    have fin : ∀ (κ2 : zl_S) (Q : zQ) (cs2 : Nat) (cd2 : Nat → Nat × Nat), zpPl c v pl (zfw o) (zlwd o) o (8 - d) q0 = Q → zRf κ2 κ1 → zPs κ2 tk Q cs2 cd2 → zRes o (zSpPos c (zSpS c v o (9 - d)) (zSpT c v o (8 - d))) (2 * (9 - d) + 2) (q0.1 + r, q0.2) Q cs cs2 cd cd2 → zq_At l G (zq_rm D 0 0) mX8_readPlain (zq_QF G post 0 0) 79 [(0, .ref 48), (1, .int (nI d)), (2, .int (nI (r % 2)))] [] n (zl_h κ2 ρ) 0 0 := by
      intro κ2 Q cs2 cd2 hQ r1 r2 r3
      subst hQ
      exact zc_plain_79 (by omega) hQk hT.1 hB hc hc2 (zRf_t r1 hκ) r2 r3 hb0 hp
    by_cases ha : zpt c (q0.1 + r, q0.2) 140 = true
    · obtain ⟨z1, z2, z3⟩ := zpt_c hT (zqk_w hqk) (by decide) ha
      have z3 : c (q0.1 + r) = 140 := z3
      by_cases h8 : d = 8
      · have e1 : zpPl c v pl (zfw o) (zlwd o) o (8 - d) q0 = zpf pl (q0.1 + r, q0.2) := by
          unfold zpPl zpPlain
          rw [hL, if_neg (fun h => h z1), if_pos z3, if_pos (decide_eq_true (by omega))]
        refine at_aload_n dX8_readPlain_41 rfl ?_
        refine at_get dX8_readPlain_42 fl_X8_22 (zl_o rfl) rfl ?_
        refine at_bipush dX8_readPlain_45 (v := nI 40) (by decide) ?_
        refine at_icmp_eq (tgt := 58) dX8_readPlain_47 (by decide) (fun c47 => ?_) (fun c47 => ?_)
        · refine at_aload_n dX8_readPlain_58 rfl ?_
          refine at_iload_n dX8_readPlain_59 rfl ?_
          refine at_callV1 (d := D - 1) dX8_readPlain_60 mv_X8_165 (zl_o rfl) (Nat.le_of_ble_eq_true rfl) (zq_r0 (by omega) (by omega) (by omega)) ?_
          refine zc_opens (by omega) hd hT hR1 (zqk_w hqk) hs1 ⟨z1, z2⟩ (fun κ2 _ g1 g2 => ?_) (fun κ2 h _ _ => by omega)
          have hn := fin κ2 _ cs cd e1 g1 g2 (fun h0 => (zpf_bad h0).elim)
          refine at_if_eqN (tgt := 79) dX8_readPlain_63 (by decide) (by omega) (fun c63 => ?_) (fun c63 => ?_)
          · exact hn
          · exact absurd rfl c63
        · exact absurd (w40.mpr ha) c47
      · have h7 : 8 - d = (7 - d) + 1 := by omega
        have e1 : zpPl c v pl (zfw o) (zlwd o) o (8 - d) q0 = zpmu c pl (zpT c v pl (zfw o) (zlwd o) o (7 - d) (zpn (q0.1 + r, q0.2))) 141 := by
          unfold zpPl zpPlain
          rw [hL, if_neg (fun h => h z1), if_pos z3, if_neg (by rw [decide_eq_true_eq]; omega), h7]
          rfl
        have hg := (zgd_T (v := v) (pl := pl) (fw := zfw o) (lw := zlwd o) (o := o) hT.1 hT.2.1 hT.2.2.2.1 (zfw_pos o) (7 - d) _ (zqk_nx hqk z2)).1
        refine at_aload_n dX8_readPlain_41 rfl ?_
        refine at_get dX8_readPlain_42 fl_X8_22 (zl_o rfl) rfl ?_
        refine at_bipush dX8_readPlain_45 (v := nI 40) (by decide) ?_
        refine at_icmp_eq (tgt := 58) dX8_readPlain_47 (by decide) (fun c47 => ?_) (fun c47 => ?_)
        · refine at_aload_n dX8_readPlain_58 rfl ?_
          refine at_iload_n dX8_readPlain_59 rfl ?_
          refine at_callV1 (d := D - 1) dX8_readPlain_60 mv_X8_165 (zl_o rfl) (Nat.le_of_ble_eq_true rfl) (zq_r0 (by omega) (by omega) (by omega)) ?_
          refine zc_opens (by omega) hd hT hR1 (zqk_w hqk) hs1 ⟨z1, z2⟩ (fun κ2 h _ _ => by omega) (fun κ2 _ g1 g2 => ?_)
          refine at_if_eqN (tgt := 79) dX8_readPlain_63 (by decide) (by omega) (fun c63 => ?_) (fun c63 => ?_)
          · exact absurd c63 (by decide)
          · refine at_aload_n dX8_readPlain_66 rfl ?_
            refine at_iload_n dX8_readPlain_67 rfl ?_
            refine at_iconst dX8_readPlain_68 (v := nI 1) (by decide) ?_
            refine at_iaddN dX8_readPlain_69 ?_
            refine at_callV1 (d := D - 1) dX8_readPlain_70 mv_X8_116 (zl_o rfl) (Nat.le_of_ble_eq_true rfl) (zq_r0 (by omega) (by omega) (by omega)) ?_
            refine hR' (by omega) κ2 _ cs cd _ (zRw_f g1 hR1) (zqk_nx hqk z2) g2 (fun h0 => ⟨Nat.le_succ_of_le (hb1 h0).1, (hb1 h0).2⟩) (fun κ3 cs3 cd3 j1 j2 j3 => ?_)
            refine at_aload_n dX8_readPlain_73 rfl ?_
            refine at_bipush dX8_readPlain_74 (v := nI 41) (by decide) ?_
            refine at_callV1 (d := D - 1) dX8_readPlain_76 mv_X8_135 (zl_o rfl) (Nat.le_of_ble_eq_true rfl) (zq_r0 (by omega) (by omega) (by omega)) ?_
            refine zc_expect (k := 141) (by omega) (Or.inr ⟨by decide, by decide⟩) hT (zRw_f j1 (zRw_f g1 hR1)) (zqk_w hg) j2 (fun κ4 m1 m2 => ?_)
            have hn := fin κ4 _ cs3 cd3 e1 (zRf_t m1 (zRf_t j1 g1)) m2 (fun h0 => (by
              have hz : zpt c (zpT c v pl (zfw o) (zlwd o) o (7 - d) (zpn (q0.1 + r, q0.2))) 141 = true := (by
                apply Classical.byContradiction
                intro hn
                unfold zpmu at h0
                rw [if_neg hn] at h0
                exact zpf_bad h0)
              obtain ⟨y1, y2, y3⟩ := zpt_c hT (zqk_w hg) (by decide) hz
              obtain ⟨r1, r2, r3, r4, e, r5, r6⟩ := j3 y1
              have en : zpmu c pl (zpT c v pl (zfw o) (zlwd o) o (7 - d) (zpn (q0.1 + r, q0.2))) 141 = zpn (zpT c v pl (zfw o) (zlwd o) o (7 - d) (zpn (q0.1 + r, q0.2))) := if_pos hz
              rw [en]
              have r2 : cs3 + (q0.1 + r + 1) ≤ cs + (zpT c v pl (zfw o) (zlwd o) o (7 - d) (zpn (q0.1 + r, q0.2))).1 := r2
              exact ⟨z1, by show cs3 + (q0.1 + r) ≤ cs + ((zpT c v pl (zfw o) (zlwd o) o (7 - d) (zpn (q0.1 + r, q0.2))).1 + 1); omega, r3, r4, e, Or.inl ⟨z3, _, r5, y3, rfl⟩, zCC_ext r6 (by omega) (fun _ _ _ => rfl)⟩))
            exact at_lv [0, 1, 2] hn
        · exact absurd (w40.mpr ha) c47
    · have e1 : zpPl c v pl (zfw o) (zlwd o) o (8 - d) q0 = zfC c pl (zpS c v pl (zfw o) (zlwd o) o (8 - d)) (q0.1 + r, q0.2) := by
        have hgS := zgd_S (v := v) (pl := pl) (fw := zfw o) (lw := zlwd o) (o := o) hT.1 hT.2.1 hT.2.2.2.1 (zfw_pos o) (8 - d)
        unfold zpPl zpPlain
        rw [hL]
        by_cases hf : q0.2.2 = 0
        · rw [if_neg (fun h => h hf), if_neg (zpt_no ha hf)]; rfl
        · rw [if_pos hf]
          have es := (hgS (q0.1 + r, q0.2) hqk).2.2 hf
          have nz : ∀ k, ¬ zpt c (q0.1 + r, q0.2) k = true := fun k h => by
            unfold zpt at h
            rw [Bool.and_eq_true, decide_eq_true_eq] at h
            exact hf h.1
          unfold zfC zpmu
          rw [es, if_neg (nz 160), if_neg (nz 162), if_neg (nz 161)]
          have ef : zpf pl (q0.1 + r, q0.2) = (q0.1 + r, q0.2) := if_neg hf
          rw [ef, es]
      refine at_aload_n dX8_readPlain_41 rfl ?_
      refine at_get dX8_readPlain_42 fl_X8_22 (zl_o rfl) rfl ?_
      refine at_bipush dX8_readPlain_45 (v := nI 40) (by decide) ?_
      refine at_icmp_eq (tgt := 58) dX8_readPlain_47 (by decide) (fun c47 => ?_) (fun c47 => ?_)
      · exact absurd (w40.mp c47) ha
      · refine at_aload_n dX8_readPlain_50 rfl ?_
        refine at_iload_n dX8_readPlain_51 rfl ?_
        refine at_callV1 (d := D - 1) dX8_readPlain_52 mv_X8_162 (zl_o rfl) (Nat.le_of_ble_eq_true rfl) (zq_r0 (by omega) (by omega) (by omega)) ?_
        refine hC κ1 (q0.1 + r, q0.2) cs cd _ hR1 hqk hs1 hb1 (fun κ2 cs2 cd2 g1 g2 g3 => ?_)
        have hn := fin κ2 _ cs2 cd2 e1 g1 g2 (fun h0 => (by
          obtain ⟨r1, r2, r3, r4, e, r5, r6⟩ := g3 h0
          exact ⟨r1, r2, r3, r4, e, Or.inr ⟨zpt_no ha r1, r5⟩, r6⟩))
        refine at_goto (tgt := 79) dX8_readPlain_55 (by decide) ?_
        exact hn) 402 0 κ rfl (fun k hk => absurd hk (Nat.not_lt_zero _)) rfl hq.1 (zRf_r κ) hs
  refine zq_enter (cc := cX8_readPlain) (nL := 4) (ret := none) cw_X8_readPlain (by decide) rfl (Nat.le_of_ble_eq_true rfl) ?_
  refine at_iconst dX8_readPlain_0 (v := nI 0) (by decide) ?_
  refine at_istore_n dX8_readPlain_1 rfl (by decide) ?_
  refine at_iconst dX8_readPlain_2 (v := nI 0) (by decide) ?_
  refine at_istore_n dX8_readPlain_3 rfl (by decide) ?_
  exact hn
end ZC27

