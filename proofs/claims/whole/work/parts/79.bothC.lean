/-! ===== the class: the reader reads tests ===== -/
section ZC26
variable {l : Launch} {G : zq_G} {D n : Nat} {ρ f : Nat → zq_E}
variable {N : Nat} {c v pl : Nat → Nat} {tk : Nat → Int32} {o : Bool}
theorem zLp_jp {t w : Nat} {mk : Nat → zX → zX → zX} {Sp : zX → Nat → Nat → Prop} {h : Nat} {q0 q q' : zQ} {cs0 cs cs1 : Nat} {cd0 cd cd1 : Nat → Nat × Nat} (hf : q.2.2 = 0) (hct : c q.1 = t)
    (hmk : ∀ (cd : Nat → Nat × Nat) (a b : zX) (i j k : Nat), zCC o cd a i j h → cd j = (w, k) → zCC o cd b (j + 1) k h → zCC o cd (mk t a b) i k h)
    (hl : zLp o c [t] mk Sp h q0 cs0 cd0 q cs cd) (hr : zRes o Sp h (zpn q) q' (cs + 1) cs1 (zcu cd cs (w, 0)) cd1) : zLp o c [t] mk Sp h q0 cs0 cd0 q' cs1 (if cs < cs1 then zcu cd1 cs (w, cs1) else cd1) := by
  intro h0
  obtain ⟨r1, r2, r3, r4, a, r5, r6⟩ := hl hf
  obtain ⟨s1, s2, s3, s4, e, s5, s6⟩ := hr h0
  have s2 : cs1 + (q.1 + 1) ≤ cs + 1 + q'.1 := s2
  have i1 := r5.1
  have i2 := s6.1
  rw [if_pos (by omega)]
  have lo : ∀ k, k < cs → zcu cd1 cs (w, cs1) k = cd k := fun k hk => by rw [zcu_o (by omega), s4 k (by omega), zcu_o (by omega)]
  refine ⟨r1, by omega, s3, fun k hk => by rw [lo k (by omega), r4 k hk], mk t a e, ?_, fun F e' m hm => r6 (F + 1) e' m (Or.inr ⟨by rw [hct]; exact List.mem_singleton.mpr rfl, e, q'.1, s5, by rw [hct]; exact hm⟩)⟩
  exact hmk _ a e cs0 cs cs1 (zCC_ext r5 (Nat.le_refl _) (fun k k1 k2 => lo k k2)) (zcu_s _ _ _) (zCC_ext s6 (Nat.le_refl _) (fun k k1 k2 => zcu_o (by omega)))
theorem zc_readBoth_loop {d h : Nat} {P : zQ → zQ} {Sp : zX → Nat → Nat → Prop} {q0 : zQ} {cs0 : Nat} {cd0 : Nat → Nat × Nat} {κ0 : zl_S} {post : Option Value → Nat → (Nat → zq_E) → Prop} (hD : 4 ≤ D) (hT : zTm N c v pl tk) (hP : zgd N P) (hR0 : zRw κ0 N pl tk o)
    (hH : zHR l G n ρ N pl tk o (D - 1) yX8_readPlain d P Sp h) (Q : zQ)
    (hp : ∀ κ' cs' cd', zRf κ' κ0 → zPs κ' tk Q cs' cd' → zRes o (zSqL c [6] zx_an Sp) h q0 Q cs0 cs' cd0 cd' → post none n (zl_h κ' ρ)) (hb0 : q0.2.2 = 0 → cs0 ≤ q0.1) :
    ∀ F i q κ cs cd, F + i = 402 → i ≤ q.1 → zqk N q → zRf κ κ0 → zPs κ tk q cs cd → zLp o c [6] zx_an Sp h q0 cs0 cd0 q cs cd → zpL c [6] P F q = Q → zq_At l G (zq_rm D 0 0) mX8_readBoth (zq_QF G post 0 0) 7 [(0, .ref 48), (1, .int (nI d)), (2, .int (nI i))] [] n (zl_h κ ρ) 0 0 := by
  have hN := hT.1
  intro F
  induction F with
  | zero =>
    intro i q κ cs cd hF hi hq
    have := hq.1
    omega
  | succ F ih =>
    intro i q κ cs cd hF hi hq hκ hs hl hQ
    have w6 : κ.1 48 3 = nI 282 ↔ zpt c q 6 = true := zPs_iff (k := 6) hT hq.1 (Or.inl ⟨by decide, by decide⟩) hs
    have s1 := hs.1
    have s2 := hs.2.1
    have hR := zRw_f hκ hR0
    by_cases ha : zpt c q 6 = true
    · obtain ⟨z1, z2, z3⟩ := zpt_c hT (zqk_w hq) (by decide) ha
      have hg := hP (zpn q) (zqk_nx hq z2)
      have hg1 : q.1 + 1 ≤ (P (zpn q)).1 := hg.2.1
      have e1 := hl z1
      have e3 := hb0 e1.1
      have hcs : cs ≤ q.1 := by omega
      refine at_iload_n dX8_readBoth_7 rfl ?_
      refine at_sipush dX8_readBoth_8 (v := nI 400) (by decide) ?_
      refine at_geN (tgt := 56) dX8_readBoth_11 (by decide) (by omega) (by omega) (fun c11 => ?_) (fun c11 => ?_)
      · omega
      · refine at_aload_n dX8_readBoth_14 rfl ?_
        refine at_get dX8_readBoth_15 fl_X8_22 (zl_o rfl) rfl ?_
        refine at_sipush dX8_readBoth_18 (v := nI 282) (by decide) ?_
        refine at_icmp_ne (tgt := 56) dX8_readBoth_21 (by decide) (fun c21 => ?_) (fun c21 => ?_)
        · exact absurd (w6.mpr ha) c21
        · refine at_aload_n dX8_readBoth_24 rfl ?_
          refine at_get dX8_readBoth_25 fl_X8_28 (zl_o rfl) rfl ?_
          rw [s1]
          refine at_istore_n dX8_readBoth_28 rfl (by decide) ?_
          refine at_aload_n dX8_readBoth_29 rfl ?_
          refine at_iconst dX8_readBoth_30 (v := nI 5) (by decide) ?_
          refine at_iconst dX8_readBoth_31 (v := nI 0) (by decide) ?_
          refine at_callV2 (d := D - 1) dX8_readBoth_32 mv_X8_122 (zl_o rfl) (Nat.le_of_ble_eq_true rfl) (zq_r0 (by omega) (by omega) (by omega)) ?_
          refine zc_emit (op := 5) (ar := 0) (by decide) (by decide) hs (fun _ => by omega) (fun κ1 g1 g2 => ?_)
          rw [if_pos (by omega)] at g2
          have hR1 := zRw_f g1 hR
          refine at_aload_n dX8_readBoth_35 rfl ?_
          refine at_callV0 (d := D - 1) dX8_readBoth_36 mv_X8_58 (zl_o rfl) (Nat.le_of_ble_eq_true rfl) (zq_r0 (by omega) (by omega) (by omega)) ?_
          refine zc_next hT hR1 (zqk_w hq) g2 (fun _ => z2) (fun κ2 j1 j2 => ?_)
          rw [if_pos z1] at j2
          refine at_aload_n dX8_readBoth_39 rfl ?_
          refine at_iload_n dX8_readBoth_40 rfl ?_
          refine at_callV1 (d := D - 1) dX8_readBoth_41 mv_X8_159 (zl_o rfl) (Nat.le_of_ble_eq_true rfl) (zq_r0 (by omega) (by omega) (by omega)) ?_
          refine hH κ2 (zpn q) (cs + 1) _ _ (zRw_f j1 hR1) (zqk_nx hq z2) j2 (fun _ => ⟨Nat.succ_le_succ hcs, e1.2.2.1⟩) (fun κ3 cs3 cd3 m1 m2 m3 => ?_)
          refine at_aload_n dX8_readBoth_44 rfl ?_
          refine at_iload_n dX8_readBoth_45 rfl ?_
          refine at_iconst dX8_readBoth_46 (v := nI 5) (by decide) ?_
          refine at_callV2 (d := D - 1) dX8_readBoth_47 mv_X8_156 (zl_o rfl) (Nat.le_of_ble_eq_true rfl) (zq_r0 (by omega) (by omega) (by omega)) ?_
          refine zc_land (op := 5) (j := cs) (by decide) s2 m2 (fun κ4 r1 r2 => ?_)
          have hn := ih (i + 1) (P (zpn q)) κ4 cs3 _ (by omega) (by omega) hg.1 (zRf_t r1 (zRf_t m1 (zRf_t j1 (zRf_t g1 hκ)))) r2 (zLp_jp z1 z3 (fun cd a b i j k x1 x2 x3 => zCC_an x1 x2 x3 (Nat.le_refl _) (Nat.le_refl _)) hl m3) (by
            rw [← hQ]
            show _ = if ([6].any (fun k => zpt c q k)) = true then _ else _
            rw [if_pos (by simp [ha])])
          refine at_iincN dX8_readBoth_50 rfl (by decide) ?_
          refine at_goto (tgt := 7) dX8_readBoth_53 (by decide) ?_
          exact at_lv [0, 1, 2] hn
    · have na : ([6].any (fun k => zpt c q k)) = false := by
        simp only [List.any_cons, List.any_nil, Bool.or_false]
        exact Bool.eq_false_iff.mpr ha
      rw [zpL_no na] at hQ
      subst hQ
      have hp := hp κ cs cd hκ hs (zLp_e hl (fun h0 => by
        intro hm
        exact zpt_no ha h0 (List.mem_singleton.mp hm)))
      refine at_iload_n dX8_readBoth_7 rfl ?_
      refine at_sipush dX8_readBoth_8 (v := nI 400) (by decide) ?_
      refine at_geN (tgt := 56) dX8_readBoth_11 (by decide) (by omega) (by omega) (fun c11 => ?_) (fun c11 => ?_)
      · refine at_vret dX8_readBoth_56 rfl (by omega) (by omega) ?_
        exact hp
      · refine at_aload_n dX8_readBoth_14 rfl ?_
        refine at_get dX8_readBoth_15 fl_X8_22 (zl_o rfl) rfl ?_
        refine at_sipush dX8_readBoth_18 (v := nI 282) (by decide) ?_
        refine at_icmp_ne (tgt := 56) dX8_readBoth_21 (by decide) (fun c21 => ?_) (fun c21 => ?_)
        · refine at_vret dX8_readBoth_56 rfl (by omega) (by omega) ?_
          exact hp
        · exact absurd (w6.mp c21) ha
theorem zc_readBoth {d h : Nat} {P : zQ → zQ} {Sp : zX → Nat → Nat → Prop} (hD : 4 ≤ D) (hT : zTm N c v pl tk) (hP : zgd N P) (hH : zHR l G n ρ N pl tk o (D - 1) yX8_readPlain d P Sp h) : zHR l G n ρ N pl tk o D yX8_readBoth d (zpBoth c P) (zSqL c [6] zx_an Sp) h := by
  intro κ q cs cd post hR hq hs hb hp
  refine zq_enter (cc := cX8_readBoth) (nL := 4) (ret := none) cw_X8_readBoth (by decide) rfl (Nat.le_of_ble_eq_true rfl) ?_
  refine at_aload_n dX8_readBoth_0 rfl ?_
  refine at_iload_n dX8_readBoth_1 rfl ?_
  refine at_callV1 (d := D - 1) dX8_readBoth_2 mv_X8_159 (zl_o rfl) (Nat.le_of_ble_eq_true rfl) (zq_r0 (by omega) (by omega) (by omega)) ?_
  refine hH κ q cs cd _ hR hq hs hb (fun κ1 cs1 cd1 g1 g2 g3 => ?_)
  have hn := zc_readBoth_loop (l := l) (G := G) (n := n) (ρ := ρ) (post := post) (d := d) hD hT hP hR hH (zpBoth c P q) hp (fun h0 => (hb h0).1) 402 0 (P q) κ1 cs1 cd1 rfl (Nat.zero_le _) (hP q hq).1 g1 g2 (zLp_0 g3 (Nat.le_refl _)) rfl
  refine at_iconst dX8_readBoth_5 (v := nI 0) (by decide) ?_
  refine at_istore_n dX8_readBoth_6 rfl (by decide) ?_
  exact hn
theorem zc_readTest0_loop {d h : Nat} {P : zQ → zQ} {Sp : zX → Nat → Nat → Prop} {q0 : zQ} {cs0 : Nat} {cd0 : Nat → Nat × Nat} {κ0 : zl_S} {post : Option Value → Nat → (Nat → zq_E) → Prop} (hD : 4 ≤ D) (hT : zTm N c v pl tk) (hP : zgd N P) (hR0 : zRw κ0 N pl tk o)
    (hH : zHR l G n ρ N pl tk o (D - 1) yX8_readBoth d P Sp h) (Q : zQ)
    (hp : ∀ κ' cs' cd', zRf κ' κ0 → zPs κ' tk Q cs' cd' → zRes o (zSqL c [5] zx_or Sp) h q0 Q cs0 cs' cd0 cd' → post none n (zl_h κ' ρ)) (hb0 : q0.2.2 = 0 → cs0 ≤ q0.1) :
    ∀ F i q κ cs cd, F + i = 402 → i ≤ q.1 → zqk N q → zRf κ κ0 → zPs κ tk q cs cd → zLp o c [5] zx_or Sp h q0 cs0 cd0 q cs cd → zpL c [5] P F q = Q → zq_At l G (zq_rm D 0 0) mX8_readTest (zq_QF G post 0 0) 7 [(0, .ref 48), (1, .int (nI d)), (2, .int (nI i))] [] n (zl_h κ ρ) 0 0 := by
  have hN := hT.1
  intro F
  induction F with
  | zero =>
    intro i q κ cs cd hF hi hq
    have := hq.1
    omega
  | succ F ih =>
    intro i q κ cs cd hF hi hq hκ hs hl hQ
    have w5 : κ.1 48 3 = nI 281 ↔ zpt c q 5 = true := zPs_iff (k := 5) hT hq.1 (Or.inl ⟨by decide, by decide⟩) hs
    have s1 := hs.1
    have s2 := hs.2.1
    have hR := zRw_f hκ hR0
    by_cases ha : zpt c q 5 = true
    · obtain ⟨z1, z2, z3⟩ := zpt_c hT (zqk_w hq) (by decide) ha
      have hg := hP (zpn q) (zqk_nx hq z2)
      have hg1 : q.1 + 1 ≤ (P (zpn q)).1 := hg.2.1
      have e1 := hl z1
      have e3 := hb0 e1.1
      have hcs : cs ≤ q.1 := by omega
      refine at_iload_n dX8_readTest_7 rfl ?_
      refine at_sipush dX8_readTest_8 (v := nI 400) (by decide) ?_
      refine at_geN (tgt := 56) dX8_readTest_11 (by decide) (by omega) (by omega) (fun c11 => ?_) (fun c11 => ?_)
      · omega
      · refine at_aload_n dX8_readTest_14 rfl ?_
        refine at_get dX8_readTest_15 fl_X8_22 (zl_o rfl) rfl ?_
        refine at_sipush dX8_readTest_18 (v := nI 281) (by decide) ?_
        refine at_icmp_ne (tgt := 56) dX8_readTest_21 (by decide) (fun c21 => ?_) (fun c21 => ?_)
        · exact absurd (w5.mpr ha) c21
        · refine at_aload_n dX8_readTest_24 rfl ?_
          refine at_get dX8_readTest_25 fl_X8_28 (zl_o rfl) rfl ?_
          rw [s1]
          refine at_istore_n dX8_readTest_28 rfl (by decide) ?_
          refine at_aload_n dX8_readTest_29 rfl ?_
          refine at_iconst dX8_readTest_30 (v := nI 4) (by decide) ?_
          refine at_iconst dX8_readTest_31 (v := nI 0) (by decide) ?_
          refine at_callV2 (d := D - 1) dX8_readTest_32 mv_X8_122 (zl_o rfl) (Nat.le_of_ble_eq_true rfl) (zq_r0 (by omega) (by omega) (by omega)) ?_
          refine zc_emit (op := 4) (ar := 0) (by decide) (by decide) hs (fun _ => by omega) (fun κ1 g1 g2 => ?_)
          rw [if_pos (by omega)] at g2
          have hR1 := zRw_f g1 hR
          refine at_aload_n dX8_readTest_35 rfl ?_
          refine at_callV0 (d := D - 1) dX8_readTest_36 mv_X8_58 (zl_o rfl) (Nat.le_of_ble_eq_true rfl) (zq_r0 (by omega) (by omega) (by omega)) ?_
          refine zc_next hT hR1 (zqk_w hq) g2 (fun _ => z2) (fun κ2 j1 j2 => ?_)
          rw [if_pos z1] at j2
          refine at_aload_n dX8_readTest_39 rfl ?_
          refine at_iload_n dX8_readTest_40 rfl ?_
          refine at_callV1 (d := D - 1) dX8_readTest_41 mv_X8_153 (zl_o rfl) (Nat.le_of_ble_eq_true rfl) (zq_r0 (by omega) (by omega) (by omega)) ?_
          refine hH κ2 (zpn q) (cs + 1) _ _ (zRw_f j1 hR1) (zqk_nx hq z2) j2 (fun _ => ⟨Nat.succ_le_succ hcs, e1.2.2.1⟩) (fun κ3 cs3 cd3 m1 m2 m3 => ?_)
          refine at_aload_n dX8_readTest_44 rfl ?_
          refine at_iload_n dX8_readTest_45 rfl ?_
          refine at_iconst dX8_readTest_46 (v := nI 4) (by decide) ?_
          refine at_callV2 (d := D - 1) dX8_readTest_47 mv_X8_156 (zl_o rfl) (Nat.le_of_ble_eq_true rfl) (zq_r0 (by omega) (by omega) (by omega)) ?_
          refine zc_land (op := 4) (j := cs) (by decide) s2 m2 (fun κ4 r1 r2 => ?_)
          have hn := ih (i + 1) (P (zpn q)) κ4 cs3 _ (by omega) (by omega) hg.1 (zRf_t r1 (zRf_t m1 (zRf_t j1 (zRf_t g1 hκ)))) r2 (zLp_jp z1 z3 (fun cd a b i j k x1 x2 x3 => zCC_or x1 x2 x3 (Nat.le_refl _) (Nat.le_refl _)) hl m3) (by
            rw [← hQ]
            show _ = if ([5].any (fun k => zpt c q k)) = true then _ else _
            rw [if_pos (by simp [ha])])
          refine at_iincN dX8_readTest_50 rfl (by decide) ?_
          refine at_goto (tgt := 7) dX8_readTest_53 (by decide) ?_
          exact at_lv [0, 1, 2] hn
    · have na : ([5].any (fun k => zpt c q k)) = false := by
        simp only [List.any_cons, List.any_nil, Bool.or_false]
        exact Bool.eq_false_iff.mpr ha
      rw [zpL_no na] at hQ
      subst hQ
      have hp := hp κ cs cd hκ hs (zLp_e hl (fun h0 => by
        intro hm
        exact zpt_no ha h0 (List.mem_singleton.mp hm)))
      refine at_iload_n dX8_readTest_7 rfl ?_
      refine at_sipush dX8_readTest_8 (v := nI 400) (by decide) ?_
      refine at_geN (tgt := 56) dX8_readTest_11 (by decide) (by omega) (by omega) (fun c11 => ?_) (fun c11 => ?_)
      · refine at_vret dX8_readTest_56 rfl (by omega) (by omega) ?_
        exact hp
      · refine at_aload_n dX8_readTest_14 rfl ?_
        refine at_get dX8_readTest_15 fl_X8_22 (zl_o rfl) rfl ?_
        refine at_sipush dX8_readTest_18 (v := nI 281) (by decide) ?_
        refine at_icmp_ne (tgt := 56) dX8_readTest_21 (by decide) (fun c21 => ?_) (fun c21 => ?_)
        · refine at_vret dX8_readTest_56 rfl (by omega) (by omega) ?_
          exact hp
        · exact absurd (w5.mp c21) ha
theorem zc_readTest0 {d h : Nat} {P : zQ → zQ} {Sp : zX → Nat → Nat → Prop} (hD : 4 ≤ D) (hT : zTm N c v pl tk) (hP : zgd N P) (hH : zHR l G n ρ N pl tk o (D - 1) yX8_readBoth d P Sp h) : zHR l G n ρ N pl tk o D yX8_readTest d (zpTest c P) (zSqL c [5] zx_or Sp) h := by
  intro κ q cs cd post hR hq hs hb hp
  refine zq_enter (cc := cX8_readTest) (nL := 4) (ret := none) cw_X8_readTest (by decide) rfl (Nat.le_of_ble_eq_true rfl) ?_
  refine at_aload_n dX8_readTest_0 rfl ?_
  refine at_iload_n dX8_readTest_1 rfl ?_
  refine at_callV1 (d := D - 1) dX8_readTest_2 mv_X8_153 (zl_o rfl) (Nat.le_of_ble_eq_true rfl) (zq_r0 (by omega) (by omega) (by omega)) ?_
  refine hH κ q cs cd _ hR hq hs hb (fun κ1 cs1 cd1 g1 g2 g3 => ?_)
  have hn := zc_readTest0_loop (l := l) (G := G) (n := n) (ρ := ρ) (post := post) (d := d) hD hT hP hR hH (zpTest c P q) hp (fun h0 => (hb h0).1) 402 0 (P q) κ1 cs1 cd1 rfl (Nat.zero_le _) (hP q hq).1 g1 g2 (zLp_0 g3 (Nat.le_refl _)) rfl
  refine at_iconst dX8_readTest_5 (v := nI 0) (by decide) ?_
  refine at_istore_n dX8_readTest_6 rfl (by decide) ?_
  exact hn
end ZC26

