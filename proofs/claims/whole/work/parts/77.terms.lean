/-! ===== the class: the reader reads terms and sums ===== -/
section ZC24
variable {l : Launch} {G : zq_G} {D n : Nat} {ρ f : Nat → zq_E}
variable {N : Nat} {c v pl : Nat → Nat} {tk : Nat → Int32} {o : Bool}
theorem zpL_no {ks : List Nat} {P : zQ → zQ} {f : Nat} {q : zQ} (h : ks.any (fun k => zpt c q k) = false) : zpL c ks P f q = q := by
  cases f with
  | zero => rfl
  | succ f =>
    unfold zpL
    rw [h]; rfl
theorem zpt_no {q : zQ} {k : Nat} (h : ¬ zpt c q k = true) (hf : q.2.2 = 0) : c q.1 ≠ k := by
  intro e
  apply h
  unfold zpt
  rw [hf, e]
  simp
theorem zc_readTerm_loop {d h : Nat} {P : zQ → zQ} {Sp : zX → Nat → Nat → Prop} {q0 : zQ} {cs0 : Nat} {cd0 : Nat → Nat × Nat} {κ0 : zl_S} {post : Option Value → Nat → (Nat → zq_E) → Prop} (hD : 4 ≤ D) (hT : zTm N c v pl tk) (hP : zgd N P) (hR0 : zRw κ0 N pl tk o)
    (hH : zHR l G n ρ N pl tk o (D - 1) yX8_readPart d P Sp h) (Q : zQ)
    (hp : ∀ κ' cs' cd', zRf κ' κ0 → zPs κ' tk Q cs' cd' → zRes o (zSqL c [142, 147, 137] zx_op Sp) (h + 1) q0 Q cs0 cs' cd0 cd' → post none n (zl_h κ' ρ)) (hb0 : q0.2.2 = 0 → cs0 ≤ q0.1) :
    ∀ F i q κ cs cd, F + i = 402 → i ≤ q.1 → zqk N q → zRf κ κ0 → zPs κ tk q cs cd → zLp o c [142, 147, 137] zx_op Sp (h + 1) q0 cs0 cd0 q cs cd → zpL c [142, 147, 137] P F q = Q → zq_At l G (zq_rm D 0 0) mX8_readTerm (zq_QF G post 0 0) 7 [(0, .ref 48), (1, .int (nI d)), (2, .int (nI i))] [] n (zl_h κ ρ) 0 0 := by
  have hN := hT.1
  intro F
  induction F with
  | zero =>
    intro i q κ cs cd hF hi hq
    have := hq.1
    omega
  | succ F ih =>
    intro i q κ cs cd hF hi hq hκ hs hl hQ
    have w42 := zPs_iff (k := 142) hT hq.1 (Or.inr ⟨by decide, by decide⟩) hs
    have w47 := zPs_iff (k := 147) hT hq.1 (Or.inr ⟨by decide, by decide⟩) hs
    have w37 := zPs_iff (k := 137) hT hq.1 (Or.inr ⟨by decide, by decide⟩) hs
    have w42 : κ.1 48 3 = nI 42 ↔ zpt c q 142 = true := w42
    have w47 : κ.1 48 3 = nI 47 ↔ zpt c q 147 = true := w47
    have w37 : κ.1 48 3 = nI 37 ↔ zpt c q 137 = true := w37
    have hn : ∀ t, (t = 142 ∨ t = 147 ∨ t = 137) → zpt c q t = true → ∃ hlt : q.1 < N, ∀ κ' cs' cd', zRf κ' κ → zPs κ' tk (P (zpn q)) cs' cd' → zRes o Sp h (zpn q) (P (zpn q)) cs cs' cd cd' → ∀ κ2, zRf κ2 κ' → zPs κ2 tk (P (zpn q)) (if cs' < 800 then cs' + 1 else cs') (zcu cd' cs' (zopc t, 0)) → zq_At l G (zq_rm D 0 0) mX8_readTerm (zq_QF G post 0 0) 7 [(0, .ref 48), (1, .int (nI d)), (2, .int (nI (i + 1)))] [] n (zl_h κ2 ρ) 0 0 := by
      intro t ht hz
      have hop : zopt t := by unfold zopt; rcases ht with rfl | rfl | rfl <;> decide
      obtain ⟨z1, z2, z3⟩ := zpt_c hT (zqk_w hq) (by rcases ht with rfl | rfl | rfl <;> decide) hz
      have hg := hP (zpn q) (zqk_nx hq z2)
      refine ⟨z2, fun κ' cs' cd' r1 r2 r3 κ2 r4 r5 => ?_⟩
      have h1 : q.1 + 1 ≤ (P (zpn q)).1 := hg.2.1
      refine ih (i + 1) (P (zpn q)) κ2 _ _ (by omega) (by omega) hg.1 (zRf_t r4 (zRf_t r1 hκ)) r5 ?_ ?_
      · intro h0
        have hl2 := zLp_op z1 hop z3 (by rcases ht with rfl | rfl | rfl <;> decide) hl r3 (Nat.le_refl _) h0
        have hb : cs' < 800 := by
          have e1 := hl z1
          have e2 := (r3 h0).2.1
          have e2 : cs' + (q.1 + 1) ≤ cs + (P (zpn q)).1 := e2
          have e3 := hb0 e1.1
          have := hg.1.1
          omega
        rw [if_pos hb]
        exact hl2
      · rw [← hQ]
        show _ = if ([142, 147, 137].any (fun k => zpt c q k)) = true then _ else _
        rw [if_pos (by rcases ht with rfl | rfl | rfl <;> simp [hz])]
    have hbq : q.2.2 = 0 → cs ≤ q.1 ∧ q.2.1 ≤ 50 := fun h0 => by
      have e1 := hl h0
      have e3 := hb0 e1.1
      exact ⟨by omega, e1.2.2.1⟩
    by_cases ha : zpt c q 142 = true ∨ zpt c q 147 = true ∨ zpt c q 137 = true
    · have hz0 : q.2.2 = 0 ∧ q.1 < N := by
        rcases ha with h | h | h <;> exact ⟨(zpt_c hT (zqk_w hq) (by decide) h).1, (zpt_c hT (zqk_w hq) (by decide) h).2.1⟩
      have hi4 : i < 400 := by omega
      have hg := hP (zpn q) (zqk_nx hq hz0.2)
      have hR := zRw_f hκ hR0
      refine at_iload_n dX8_readTerm_7 rfl ?_
      refine at_sipush dX8_readTerm_8 (v := nI 400) (by decide) ?_
      refine at_geN (tgt := 91) dX8_readTerm_11 (by decide) (by omega) (by omega) (fun c11 => ?_) (fun c11 => ?_)
      · omega
      · refine at_aload_n dX8_readTerm_14 rfl ?_
        refine at_get dX8_readTerm_15 fl_X8_22 (zl_o rfl) rfl ?_
        refine at_bipush dX8_readTerm_18 (v := nI 42) (by decide) ?_
        refine at_icmp_eq (tgt := 41) dX8_readTerm_20 (by decide) (fun c20 => ?_) (fun c20 => ?_)
        · refine at_bipush dX8_readTerm_41 (v := nI 8) (by decide) ?_
          refine at_istore_n dX8_readTerm_43 rfl (by decide) ?_
          refine at_aload_n dX8_readTerm_44 rfl ?_
          refine at_get dX8_readTerm_45 fl_X8_22 (zl_o rfl) rfl ?_
          refine at_bipush dX8_readTerm_48 (v := nI 42) (by decide) ?_
          refine at_icmp_eq (tgt := 70) dX8_readTerm_50 (by decide) (fun c50 => ?_) (fun c50 => ?_)
          · refine at_aload_n dX8_readTerm_70 rfl ?_
            refine at_callV0 (d := D - 1) dX8_readTerm_71 mv_X8_58 (zl_o rfl) (Nat.le_of_ble_eq_true rfl) (zq_r0 (by omega) (by omega) (by omega)) ?_
            refine zc_next hT hR (zqk_w hq) hs (fun _ => hz0.2) (fun κ1 g1 g2 => ?_)
            rw [if_pos hz0.1] at g2
            refine at_aload_n dX8_readTerm_74 rfl ?_
            refine at_iload_n dX8_readTerm_75 rfl ?_
            refine at_callV1 (d := D - 1) dX8_readTerm_76 mv_X8_172 (zl_o rfl) (Nat.le_of_ble_eq_true rfl) (zq_r0 (by omega) (by omega) (by omega)) ?_
            refine hH κ1 (zpn q) cs cd _ (zRw_f g1 hR) (zqk_nx hq hz0.2) g2 (fun h0 => ⟨Nat.le_succ_of_le (hbq h0).1, (hbq h0).2⟩) (fun κ2 cs2 cd2 j1 j2 j3 => ?_)
            refine at_aload_n dX8_readTerm_79 rfl ?_
            refine at_iload_n dX8_readTerm_80 rfl ?_
            refine at_iconst dX8_readTerm_81 (v := nI 0) (by decide) ?_
            refine at_callV2 (d := D - 1) dX8_readTerm_82 mv_X8_122 (zl_o rfl) (Nat.le_of_ble_eq_true rfl) (zq_r0 (by omega) (by omega) (by omega)) ?_
            obtain ⟨_, hn⟩ := hn 142 (Or.inl rfl) (w42.mp c20)
            refine zc_emit (op := 8) (ar := 0) (by decide) (by decide) j2 (fun h0 => by have e2 : cs2 + (q.1 + 1) ≤ cs + (P (zpn q)).1 := (j3 h0).2.1; have := (hbq hz0.1).1; have := hg.1.1; omega) (fun κ3 m1 m2 => ?_)
            have hn := hn κ2 cs2 cd2 (zRf_t j1 g1) j2 j3 κ3 m1 m2
            refine at_iincN dX8_readTerm_85 rfl (by decide) ?_
            refine at_goto (tgt := 7) dX8_readTerm_88 (by decide) ?_
            exact at_lv [0, 1, 2] hn
          · exact absurd c20 c50
        · refine at_aload_n dX8_readTerm_23 rfl ?_
          refine at_get dX8_readTerm_24 fl_X8_22 (zl_o rfl) rfl ?_
          refine at_bipush dX8_readTerm_27 (v := nI 47) (by decide) ?_
          refine at_icmp_eq (tgt := 41) dX8_readTerm_29 (by decide) (fun c29 => ?_) (fun c29 => ?_)
          · refine at_bipush dX8_readTerm_41 (v := nI 8) (by decide) ?_
            refine at_istore_n dX8_readTerm_43 rfl (by decide) ?_
            refine at_aload_n dX8_readTerm_44 rfl ?_
            refine at_get dX8_readTerm_45 fl_X8_22 (zl_o rfl) rfl ?_
            refine at_bipush dX8_readTerm_48 (v := nI 42) (by decide) ?_
            refine at_icmp_eq (tgt := 70) dX8_readTerm_50 (by decide) (fun c50 => ?_) (fun c50 => ?_)
            · exact absurd c50 c20
            · refine at_aload_n dX8_readTerm_53 rfl ?_
              refine at_get dX8_readTerm_54 fl_X8_22 (zl_o rfl) rfl ?_
              refine at_bipush dX8_readTerm_57 (v := nI 47) (by decide) ?_
              refine at_icmp_ne (tgt := 67) dX8_readTerm_59 (by decide) (fun c59 => ?_) (fun c59 => ?_)
              · exact absurd c29 c59
              · refine at_bipush dX8_readTerm_62 (v := nI 9) (by decide) ?_
                refine at_goto (tgt := 69) dX8_readTerm_64 (by decide) ?_
                refine at_istore_n dX8_readTerm_69 rfl (by decide) ?_
                refine at_aload_n dX8_readTerm_70 rfl ?_
                refine at_callV0 (d := D - 1) dX8_readTerm_71 mv_X8_58 (zl_o rfl) (Nat.le_of_ble_eq_true rfl) (zq_r0 (by omega) (by omega) (by omega)) ?_
                refine zc_next hT hR (zqk_w hq) hs (fun _ => hz0.2) (fun κ1 g1 g2 => ?_)
                rw [if_pos hz0.1] at g2
                refine at_aload_n dX8_readTerm_74 rfl ?_
                refine at_iload_n dX8_readTerm_75 rfl ?_
                refine at_callV1 (d := D - 1) dX8_readTerm_76 mv_X8_172 (zl_o rfl) (Nat.le_of_ble_eq_true rfl) (zq_r0 (by omega) (by omega) (by omega)) ?_
                refine hH κ1 (zpn q) cs cd _ (zRw_f g1 hR) (zqk_nx hq hz0.2) g2 (fun h0 => ⟨Nat.le_succ_of_le (hbq h0).1, (hbq h0).2⟩) (fun κ2 cs2 cd2 j1 j2 j3 => ?_)
                refine at_aload_n dX8_readTerm_79 rfl ?_
                refine at_iload_n dX8_readTerm_80 rfl ?_
                refine at_iconst dX8_readTerm_81 (v := nI 0) (by decide) ?_
                refine at_callV2 (d := D - 1) dX8_readTerm_82 mv_X8_122 (zl_o rfl) (Nat.le_of_ble_eq_true rfl) (zq_r0 (by omega) (by omega) (by omega)) ?_
                obtain ⟨_, hn⟩ := hn 147 (Or.inr (Or.inl rfl)) (w47.mp c29)
                refine zc_emit (op := 9) (ar := 0) (by decide) (by decide) j2 (fun h0 => by have e2 : cs2 + (q.1 + 1) ≤ cs + (P (zpn q)).1 := (j3 h0).2.1; have := (hbq hz0.1).1; have := hg.1.1; omega) (fun κ3 m1 m2 => ?_)
                have hn := hn κ2 cs2 cd2 (zRf_t j1 g1) j2 j3 κ3 m1 m2
                refine at_iincN dX8_readTerm_85 rfl (by decide) ?_
                refine at_goto (tgt := 7) dX8_readTerm_88 (by decide) ?_
                exact at_lv [0, 1, 2] hn
          · refine at_aload_n dX8_readTerm_32 rfl ?_
            refine at_get dX8_readTerm_33 fl_X8_22 (zl_o rfl) rfl ?_
            refine at_bipush dX8_readTerm_36 (v := nI 37) (by decide) ?_
            refine at_icmp_ne (tgt := 91) dX8_readTerm_38 (by decide) (fun c38 => ?_) (fun c38 => ?_)
            · exact absurd ha (fun h => h.elim (fun h => c20 (w42.mpr h)) (fun h => h.elim (fun h => c29 (w47.mpr h)) (fun h => c38 (w37.mpr h))))
            · refine at_bipush dX8_readTerm_41 (v := nI 8) (by decide) ?_
              refine at_istore_n dX8_readTerm_43 rfl (by decide) ?_
              refine at_aload_n dX8_readTerm_44 rfl ?_
              refine at_get dX8_readTerm_45 fl_X8_22 (zl_o rfl) rfl ?_
              refine at_bipush dX8_readTerm_48 (v := nI 42) (by decide) ?_
              refine at_icmp_eq (tgt := 70) dX8_readTerm_50 (by decide) (fun c50 => ?_) (fun c50 => ?_)
              · exact absurd c50 c20
              · refine at_aload_n dX8_readTerm_53 rfl ?_
                refine at_get dX8_readTerm_54 fl_X8_22 (zl_o rfl) rfl ?_
                refine at_bipush dX8_readTerm_57 (v := nI 47) (by decide) ?_
                refine at_icmp_ne (tgt := 67) dX8_readTerm_59 (by decide) (fun c59 => ?_) (fun c59 => ?_)
                · refine at_bipush dX8_readTerm_67 (v := nI 10) (by decide) ?_
                  refine at_istore_n dX8_readTerm_69 rfl (by decide) ?_
                  refine at_aload_n dX8_readTerm_70 rfl ?_
                  refine at_callV0 (d := D - 1) dX8_readTerm_71 mv_X8_58 (zl_o rfl) (Nat.le_of_ble_eq_true rfl) (zq_r0 (by omega) (by omega) (by omega)) ?_
                  refine zc_next hT hR (zqk_w hq) hs (fun _ => hz0.2) (fun κ1 g1 g2 => ?_)
                  rw [if_pos hz0.1] at g2
                  refine at_aload_n dX8_readTerm_74 rfl ?_
                  refine at_iload_n dX8_readTerm_75 rfl ?_
                  refine at_callV1 (d := D - 1) dX8_readTerm_76 mv_X8_172 (zl_o rfl) (Nat.le_of_ble_eq_true rfl) (zq_r0 (by omega) (by omega) (by omega)) ?_
                  refine hH κ1 (zpn q) cs cd _ (zRw_f g1 hR) (zqk_nx hq hz0.2) g2 (fun h0 => ⟨Nat.le_succ_of_le (hbq h0).1, (hbq h0).2⟩) (fun κ2 cs2 cd2 j1 j2 j3 => ?_)
                  refine at_aload_n dX8_readTerm_79 rfl ?_
                  refine at_iload_n dX8_readTerm_80 rfl ?_
                  refine at_iconst dX8_readTerm_81 (v := nI 0) (by decide) ?_
                  refine at_callV2 (d := D - 1) dX8_readTerm_82 mv_X8_122 (zl_o rfl) (Nat.le_of_ble_eq_true rfl) (zq_r0 (by omega) (by omega) (by omega)) ?_
                  obtain ⟨_, hn⟩ := hn 137 (Or.inr (Or.inr rfl)) (w37.mp c38)
                  refine zc_emit (op := 10) (ar := 0) (by decide) (by decide) j2 (fun h0 => by have e2 : cs2 + (q.1 + 1) ≤ cs + (P (zpn q)).1 := (j3 h0).2.1; have := (hbq hz0.1).1; have := hg.1.1; omega) (fun κ3 m1 m2 => ?_)
                  have hn := hn κ2 cs2 cd2 (zRf_t j1 g1) j2 j3 κ3 m1 m2
                  refine at_iincN dX8_readTerm_85 rfl (by decide) ?_
                  refine at_goto (tgt := 7) dX8_readTerm_88 (by decide) ?_
                  exact at_lv [0, 1, 2] hn
                · exact absurd c59 c29
    · have na : ([142, 147, 137].any (fun k => zpt c q k)) = false := by
        simp only [List.any_cons, List.any_nil, Bool.or_false]
        simp only [not_or, Bool.not_eq_true] at ha
        rw [ha.1, ha.2.1, ha.2.2]; rfl
      rw [zpL_no na] at hQ
      subst hQ
      have hp := hp κ cs cd hκ hs (zLp_e hl (fun h0 => by
        intro hm
        simp only [not_or] at ha
        have m1 := zpt_no ha.1 h0
        have m2 := zpt_no ha.2.1 h0
        have m3 := zpt_no ha.2.2 h0
        simp only [List.mem_cons, List.not_mem_nil, or_false] at hm
        omega))
      refine at_iload_n dX8_readTerm_7 rfl ?_
      refine at_sipush dX8_readTerm_8 (v := nI 400) (by decide) ?_
      refine at_geN (tgt := 91) dX8_readTerm_11 (by decide) (by omega) (by omega) (fun c11 => ?_) (fun c11 => ?_)
      · refine at_vret dX8_readTerm_91 rfl (by omega) (by omega) ?_
        exact hp
      · refine at_aload_n dX8_readTerm_14 rfl ?_
        refine at_get dX8_readTerm_15 fl_X8_22 (zl_o rfl) rfl ?_
        refine at_bipush dX8_readTerm_18 (v := nI 42) (by decide) ?_
        refine at_icmp_eq (tgt := 41) dX8_readTerm_20 (by decide) (fun c20 => ?_) (fun c20 => ?_)
        · exact absurd (Or.inl (w42.mp c20)) ha
        · refine at_aload_n dX8_readTerm_23 rfl ?_
          refine at_get dX8_readTerm_24 fl_X8_22 (zl_o rfl) rfl ?_
          refine at_bipush dX8_readTerm_27 (v := nI 47) (by decide) ?_
          refine at_icmp_eq (tgt := 41) dX8_readTerm_29 (by decide) (fun c29 => ?_) (fun c29 => ?_)
          · exact absurd (Or.inr (Or.inl (w47.mp c29))) ha
          · refine at_aload_n dX8_readTerm_32 rfl ?_
            refine at_get dX8_readTerm_33 fl_X8_22 (zl_o rfl) rfl ?_
            refine at_bipush dX8_readTerm_36 (v := nI 37) (by decide) ?_
            refine at_icmp_ne (tgt := 91) dX8_readTerm_38 (by decide) (fun c38 => ?_) (fun c38 => ?_)
            · refine at_vret dX8_readTerm_91 rfl (by omega) (by omega) ?_
              exact hp
            · exact absurd (Or.inr (Or.inr (w37.mp c38))) ha
theorem zc_readTerm {d h : Nat} {P : zQ → zQ} {Sp : zX → Nat → Nat → Prop} (hD : 4 ≤ D) (hT : zTm N c v pl tk) (hP : zgd N P) (hH : zHR l G n ρ N pl tk o (D - 1) yX8_readPart d P Sp h) : zHR l G n ρ N pl tk o D yX8_readTerm d (zpTerm c P) (zSpTerm c Sp) (h + 1) := by
  intro κ q cs cd post hR hq hs hb hp
  refine zq_enter (cc := cX8_readTerm) (nL := 4) (ret := none) cw_X8_readTerm (by decide) rfl (Nat.le_of_ble_eq_true rfl) ?_
  refine at_aload_n dX8_readTerm_0 rfl ?_
  refine at_iload_n dX8_readTerm_1 rfl ?_
  refine at_callV1 (d := D - 1) dX8_readTerm_2 mv_X8_172 (zl_o rfl) (Nat.le_of_ble_eq_true rfl) (zq_r0 (by omega) (by omega) (by omega)) ?_
  refine hH κ q cs cd _ hR hq hs hb (fun κ1 cs1 cd1 g1 g2 g3 => ?_)
  have hn := zc_readTerm_loop (l := l) (G := G) (n := n) (ρ := ρ) (post := post) (d := d) hD hT hP hR hH (zpTerm c P q) hp (fun h0 => (hb h0).1) 402 0 (P q) κ1 cs1 cd1 rfl (Nat.zero_le _) (hP q hq).1 g1 g2 (zLp_0 g3 (Nat.le_succ _)) rfl
  refine at_iconst dX8_readTerm_5 (v := nI 0) (by decide) ?_
  refine at_istore_n dX8_readTerm_6 rfl (by decide) ?_
  exact hn
theorem zc_readSum_loop {d h : Nat} {P : zQ → zQ} {Sp : zX → Nat → Nat → Prop} {q0 : zQ} {cs0 : Nat} {cd0 : Nat → Nat × Nat} {κ0 : zl_S} {post : Option Value → Nat → (Nat → zq_E) → Prop} (hD : 4 ≤ D) (hT : zTm N c v pl tk) (hP : zgd N P) (hR0 : zRw κ0 N pl tk o)
    (hH : zHR l G n ρ N pl tk o (D - 1) yX8_readTerm d P Sp h) (Q : zQ)
    (hp : ∀ κ' cs' cd', zRf κ' κ0 → zPs κ' tk Q cs' cd' → zRes o (zSqL c [143, 145] zx_op Sp) (h + 1) q0 Q cs0 cs' cd0 cd' → post none n (zl_h κ' ρ)) (hb0 : q0.2.2 = 0 → cs0 ≤ q0.1) :
    ∀ F i q κ cs cd, F + i = 402 → i ≤ q.1 → zqk N q → zRf κ κ0 → zPs κ tk q cs cd → zLp o c [143, 145] zx_op Sp (h + 1) q0 cs0 cd0 q cs cd → zpL c [143, 145] P F q = Q → zq_At l G (zq_rm D 0 0) mX8_readSum (zq_QF G post 0 0) 7 [(0, .ref 48), (1, .int (nI d)), (2, .int (nI i))] [] n (zl_h κ ρ) 0 0 := by
  have hN := hT.1
  intro F
  induction F with
  | zero =>
    intro i q κ cs cd hF hi hq
    have := hq.1
    omega
  | succ F ih =>
    intro i q κ cs cd hF hi hq hκ hs hl hQ
    have w43 := zPs_iff (k := 143) hT hq.1 (Or.inr ⟨by decide, by decide⟩) hs
    have w45 := zPs_iff (k := 145) hT hq.1 (Or.inr ⟨by decide, by decide⟩) hs
    have w43 : κ.1 48 3 = nI 43 ↔ zpt c q 143 = true := w43
    have w45 : κ.1 48 3 = nI 45 ↔ zpt c q 145 = true := w45
    have hn : ∀ t, (t = 143 ∨ t = 145) → zpt c q t = true → ∃ hlt : q.1 < N, ∀ κ' cs' cd', zRf κ' κ → zPs κ' tk (P (zpn q)) cs' cd' → zRes o Sp h (zpn q) (P (zpn q)) cs cs' cd cd' → ∀ κ2, zRf κ2 κ' → zPs κ2 tk (P (zpn q)) (if cs' < 800 then cs' + 1 else cs') (zcu cd' cs' (zopc t, 0)) → zq_At l G (zq_rm D 0 0) mX8_readSum (zq_QF G post 0 0) 7 [(0, .ref 48), (1, .int (nI d)), (2, .int (nI (i + 1)))] [] n (zl_h κ2 ρ) 0 0 := by
      intro t ht hz
      have hop : zopt t := by unfold zopt; rcases ht with rfl | rfl <;> decide
      obtain ⟨z1, z2, z3⟩ := zpt_c hT (zqk_w hq) (by rcases ht with rfl | rfl <;> decide) hz
      have hg := hP (zpn q) (zqk_nx hq z2)
      refine ⟨z2, fun κ' cs' cd' r1 r2 r3 κ2 r4 r5 => ?_⟩
      have h1 : q.1 + 1 ≤ (P (zpn q)).1 := hg.2.1
      refine ih (i + 1) (P (zpn q)) κ2 _ _ (by omega) (by omega) hg.1 (zRf_t r4 (zRf_t r1 hκ)) r5 ?_ ?_
      · intro h0
        have hl2 := zLp_op z1 hop z3 (by rcases ht with rfl | rfl <;> decide) hl r3 (Nat.le_refl _) h0
        have hb : cs' < 800 := by
          have e1 := hl z1
          have e2 := (r3 h0).2.1
          have e2 : cs' + (q.1 + 1) ≤ cs + (P (zpn q)).1 := e2
          have e3 := hb0 e1.1
          have := hg.1.1
          omega
        rw [if_pos hb]
        exact hl2
      · rw [← hQ]
        show _ = if ([143, 145].any (fun k => zpt c q k)) = true then _ else _
        rw [if_pos (by rcases ht with rfl | rfl <;> simp [hz])]
    have hbq : q.2.2 = 0 → cs ≤ q.1 ∧ q.2.1 ≤ 50 := fun h0 => by
      have e1 := hl h0
      have e3 := hb0 e1.1
      exact ⟨by omega, e1.2.2.1⟩
    by_cases ha : zpt c q 143 = true ∨ zpt c q 145 = true
    · have hz0 : q.2.2 = 0 ∧ q.1 < N := by
        rcases ha with h | h <;> exact ⟨(zpt_c hT (zqk_w hq) (by decide) h).1, (zpt_c hT (zqk_w hq) (by decide) h).2.1⟩
      have hi4 : i < 400 := by omega
      have hg := hP (zpn q) (zqk_nx hq hz0.2)
      have hR := zRw_f hκ hR0
      refine at_iload_n dX8_readSum_7 rfl ?_
      refine at_sipush dX8_readSum_8 (v := nI 400) (by decide) ?_
      refine at_geN (tgt := 70) dX8_readSum_11 (by decide) (by omega) (by omega) (fun c11 => ?_) (fun c11 => ?_)
      · omega
      · refine at_aload_n dX8_readSum_14 rfl ?_
        refine at_get dX8_readSum_15 fl_X8_22 (zl_o rfl) rfl ?_
        refine at_bipush dX8_readSum_18 (v := nI 43) (by decide) ?_
        refine at_icmp_eq (tgt := 32) dX8_readSum_20 (by decide) (fun c20 => ?_) (fun c20 => ?_)
        · refine at_aload_n dX8_readSum_32 rfl ?_
          refine at_get dX8_readSum_33 fl_X8_22 (zl_o rfl) rfl ?_
          refine at_bipush dX8_readSum_36 (v := nI 43) (by decide) ?_
          refine at_icmp_ne (tgt := 46) dX8_readSum_38 (by decide) (fun c38 => ?_) (fun c38 => ?_)
          · exact absurd c20 c38
          · refine at_bipush dX8_readSum_41 (v := nI 6) (by decide) ?_
            refine at_goto (tgt := 48) dX8_readSum_43 (by decide) ?_
            refine at_istore_n dX8_readSum_48 rfl (by decide) ?_
            refine at_aload_n dX8_readSum_49 rfl ?_
            refine at_callV0 (d := D - 1) dX8_readSum_50 mv_X8_58 (zl_o rfl) (Nat.le_of_ble_eq_true rfl) (zq_r0 (by omega) (by omega) (by omega)) ?_
            refine zc_next hT hR (zqk_w hq) hs (fun _ => hz0.2) (fun κ1 g1 g2 => ?_)
            rw [if_pos hz0.1] at g2
            refine at_aload_n dX8_readSum_53 rfl ?_
            refine at_iload_n dX8_readSum_54 rfl ?_
            refine at_callV1 (d := D - 1) dX8_readSum_55 mv_X8_169 (zl_o rfl) (Nat.le_of_ble_eq_true rfl) (zq_r0 (by omega) (by omega) (by omega)) ?_
            refine hH κ1 (zpn q) cs cd _ (zRw_f g1 hR) (zqk_nx hq hz0.2) g2 (fun h0 => ⟨Nat.le_succ_of_le (hbq h0).1, (hbq h0).2⟩) (fun κ2 cs2 cd2 j1 j2 j3 => ?_)
            refine at_aload_n dX8_readSum_58 rfl ?_
            refine at_iload_n dX8_readSum_59 rfl ?_
            refine at_iconst dX8_readSum_60 (v := nI 0) (by decide) ?_
            refine at_callV2 (d := D - 1) dX8_readSum_61 mv_X8_122 (zl_o rfl) (Nat.le_of_ble_eq_true rfl) (zq_r0 (by omega) (by omega) (by omega)) ?_
            obtain ⟨_, hn⟩ := hn 143 (Or.inl rfl) (w43.mp c20)
            refine zc_emit (op := 6) (ar := 0) (by decide) (by decide) j2 (fun h0 => by have e2 : cs2 + (q.1 + 1) ≤ cs + (P (zpn q)).1 := (j3 h0).2.1; have := (hbq hz0.1).1; have := hg.1.1; omega) (fun κ3 m1 m2 => ?_)
            have hn := hn κ2 cs2 cd2 (zRf_t j1 g1) j2 j3 κ3 m1 m2
            refine at_iincN dX8_readSum_64 rfl (by decide) ?_
            refine at_goto (tgt := 7) dX8_readSum_67 (by decide) ?_
            exact at_lv [0, 1, 2] hn
        · refine at_aload_n dX8_readSum_23 rfl ?_
          refine at_get dX8_readSum_24 fl_X8_22 (zl_o rfl) rfl ?_
          refine at_bipush dX8_readSum_27 (v := nI 45) (by decide) ?_
          refine at_icmp_ne (tgt := 70) dX8_readSum_29 (by decide) (fun c29 => ?_) (fun c29 => ?_)
          · exact absurd ha (fun h => h.elim (fun h => c20 (w43.mpr h)) (fun h => c29 (w45.mpr h)))
          · refine at_aload_n dX8_readSum_32 rfl ?_
            refine at_get dX8_readSum_33 fl_X8_22 (zl_o rfl) rfl ?_
            refine at_bipush dX8_readSum_36 (v := nI 43) (by decide) ?_
            refine at_icmp_ne (tgt := 46) dX8_readSum_38 (by decide) (fun c38 => ?_) (fun c38 => ?_)
            · refine at_bipush dX8_readSum_46 (v := nI 7) (by decide) ?_
              refine at_istore_n dX8_readSum_48 rfl (by decide) ?_
              refine at_aload_n dX8_readSum_49 rfl ?_
              refine at_callV0 (d := D - 1) dX8_readSum_50 mv_X8_58 (zl_o rfl) (Nat.le_of_ble_eq_true rfl) (zq_r0 (by omega) (by omega) (by omega)) ?_
              refine zc_next hT hR (zqk_w hq) hs (fun _ => hz0.2) (fun κ1 g1 g2 => ?_)
              rw [if_pos hz0.1] at g2
              refine at_aload_n dX8_readSum_53 rfl ?_
              refine at_iload_n dX8_readSum_54 rfl ?_
              refine at_callV1 (d := D - 1) dX8_readSum_55 mv_X8_169 (zl_o rfl) (Nat.le_of_ble_eq_true rfl) (zq_r0 (by omega) (by omega) (by omega)) ?_
              refine hH κ1 (zpn q) cs cd _ (zRw_f g1 hR) (zqk_nx hq hz0.2) g2 (fun h0 => ⟨Nat.le_succ_of_le (hbq h0).1, (hbq h0).2⟩) (fun κ2 cs2 cd2 j1 j2 j3 => ?_)
              refine at_aload_n dX8_readSum_58 rfl ?_
              refine at_iload_n dX8_readSum_59 rfl ?_
              refine at_iconst dX8_readSum_60 (v := nI 0) (by decide) ?_
              refine at_callV2 (d := D - 1) dX8_readSum_61 mv_X8_122 (zl_o rfl) (Nat.le_of_ble_eq_true rfl) (zq_r0 (by omega) (by omega) (by omega)) ?_
              obtain ⟨_, hn⟩ := hn 145 (Or.inr rfl) (w45.mp c29)
              refine zc_emit (op := 7) (ar := 0) (by decide) (by decide) j2 (fun h0 => by have e2 : cs2 + (q.1 + 1) ≤ cs + (P (zpn q)).1 := (j3 h0).2.1; have := (hbq hz0.1).1; have := hg.1.1; omega) (fun κ3 m1 m2 => ?_)
              have hn := hn κ2 cs2 cd2 (zRf_t j1 g1) j2 j3 κ3 m1 m2
              refine at_iincN dX8_readSum_64 rfl (by decide) ?_
              refine at_goto (tgt := 7) dX8_readSum_67 (by decide) ?_
              exact at_lv [0, 1, 2] hn
            · exact absurd c38 c20
    · have na : ([143, 145].any (fun k => zpt c q k)) = false := by
        simp only [List.any_cons, List.any_nil, Bool.or_false]
        simp only [not_or, Bool.not_eq_true] at ha
        rw [ha.1, ha.2]; rfl
      rw [zpL_no na] at hQ
      subst hQ
      have hp := hp κ cs cd hκ hs (zLp_e hl (fun h0 => by
        intro hm
        simp only [not_or] at ha
        have m1 := zpt_no ha.1 h0
        have m2 := zpt_no ha.2 h0
        simp only [List.mem_cons, List.not_mem_nil, or_false] at hm
        omega))
      refine at_iload_n dX8_readSum_7 rfl ?_
      refine at_sipush dX8_readSum_8 (v := nI 400) (by decide) ?_
      refine at_geN (tgt := 70) dX8_readSum_11 (by decide) (by omega) (by omega) (fun c11 => ?_) (fun c11 => ?_)
      · refine at_vret dX8_readSum_70 rfl (by omega) (by omega) ?_
        exact hp
      · refine at_aload_n dX8_readSum_14 rfl ?_
        refine at_get dX8_readSum_15 fl_X8_22 (zl_o rfl) rfl ?_
        refine at_bipush dX8_readSum_18 (v := nI 43) (by decide) ?_
        refine at_icmp_eq (tgt := 32) dX8_readSum_20 (by decide) (fun c20 => ?_) (fun c20 => ?_)
        · exact absurd (Or.inl (w43.mp c20)) ha
        · refine at_aload_n dX8_readSum_23 rfl ?_
          refine at_get dX8_readSum_24 fl_X8_22 (zl_o rfl) rfl ?_
          refine at_bipush dX8_readSum_27 (v := nI 45) (by decide) ?_
          refine at_icmp_ne (tgt := 70) dX8_readSum_29 (by decide) (fun c29 => ?_) (fun c29 => ?_)
          · refine at_vret dX8_readSum_70 rfl (by omega) (by omega) ?_
            exact hp
          · exact absurd (Or.inr (w45.mp c29)) ha
theorem zc_readSum0 {d h : Nat} {P : zQ → zQ} {Sp : zX → Nat → Nat → Prop} (hD : 4 ≤ D) (hT : zTm N c v pl tk) (hP : zgd N P) (hH : zHR l G n ρ N pl tk o (D - 1) yX8_readTerm d P Sp h) : zHR l G n ρ N pl tk o D yX8_readSum d (zpSum c P) (zSqL c [143, 145] zx_op Sp) (h + 1) := by
  intro κ q cs cd post hR hq hs hb hp
  refine zq_enter (cc := cX8_readSum) (nL := 4) (ret := none) cw_X8_readSum (by decide) rfl (Nat.le_of_ble_eq_true rfl) ?_
  refine at_aload_n dX8_readSum_0 rfl ?_
  refine at_iload_n dX8_readSum_1 rfl ?_
  refine at_callV1 (d := D - 1) dX8_readSum_2 mv_X8_169 (zl_o rfl) (Nat.le_of_ble_eq_true rfl) (zq_r0 (by omega) (by omega) (by omega)) ?_
  refine hH κ q cs cd _ hR hq hs hb (fun κ1 cs1 cd1 g1 g2 g3 => ?_)
  have hn := zc_readSum_loop (l := l) (G := G) (n := n) (ρ := ρ) (post := post) (d := d) hD hT hP hR hH (zpSum c P q) hp (fun h0 => (hb h0).1) 402 0 (P q) κ1 cs1 cd1 rfl (Nat.zero_le _) (hP q hq).1 g1 g2 (zLp_0 g3 (Nat.le_succ _)) rfl
  refine at_iconst dX8_readSum_5 (v := nI 0) (by decide) ?_
  refine at_istore_n dX8_readSum_6 rfl (by decide) ?_
  exact hn
/-- sums, however deep -/
theorem zc_readSum (hT : zTm N c v pl tk) : ∀ (e d D : Nat), d + e = 8 → 3 * e + 6 ≤ D → zHR l G n ρ N pl tk o D yX8_readSum d (zpS c v pl (zfw o) (zlwd o) o e) (zSpS c v o (e + 1)) (2 * (e + 1) + 1) := by
  intro e
  have hgP := zgd_P (v := v) (pl := pl) (fw := zfw o) (lw := zlwd o) (o := o) hT.1 hT.2.1 hT.2.2.2.1 (zfw_pos o)
  induction e with
  | zero =>
    intro d D hd hD
    rw [zpS_eq]
    have h1 := zc_readPart (l := l) (G := G) (n := n) (ρ := ρ) (o := o) (D := D - 1 - 1) (d := d) (by omega) (by omega) hT (fun h => by omega)
    rw [show 8 - d = 0 by omega] at h1
    exact zc_readSum0 (by omega) hT (zgd_term hT.1 hT.2.1 (hgP 0)) (zc_readTerm (by omega) hT (hgP 0) h1)
  | succ e ih =>
    intro d D hd hD
    rw [zpS_eq]
    have h1 := zc_readPart (l := l) (G := G) (n := n) (ρ := ρ) (o := o) (D := D - 1 - 1) (d := d) (by omega) (by omega) hT (fun _ => (by
      rw [show 7 - d = e by omega, show 8 - d = e + 1 by omega]
      exact ih (d + 1) (D - 1 - 1 - 1) (by omega) (by omega)))
    rw [show 8 - d = e + 1 by omega] at h1
    exact zc_readSum0 (by omega) hT (zgd_term hT.1 hT.2.1 (hgP (e + 1))) (zc_readTerm (by omega) hT (hgP (e + 1)) h1)
end ZC24

