/-! ===== the class: the reader reads an order ===== -/
section ZC31
variable {l : Launch} {G : zq_G} {D n : Nat} {ρ f : Nat → zq_E} {post : Option Value → Nat → (Nat → zq_E) → Prop}
variable {N : Nat} {c v pl : Nat → Nat} {tk : Nat → Int32} {κ : zl_S} {q : zQ} {cs : Nat} {cd : Nat → Nat × Nat}
/-- how often, as it is read -/
def zTi (c v : Nat → Nat) (q q' : zQ) (F F' : Nat → Int32) : Prop := q'.2.2 = 0 → q.2.2 = 0 ∧ q.1 ≤ q'.1 ∧ q'.2.1 = q.2.1 ∧
  ((c q.1 ≠ 27 ∧ F' 1 = F 1 ∧ q'.1 = q.1) ∨ (c q.1 = 27 ∧ c (q.1 + 1) = 50 ∧ 1 ≤ v (q.1 + 1) ∧ v (q.1 + 1) ≤ 20 ∧ F' 1 = nI (v (q.1 + 1)) ∧ q'.1 = q.1 + 2))
theorem zc_times {cr : Nat} {F : Nat → Int32} (hD : 2 ≤ D) (hT : zTm N c v pl tk) (hR : zRw κ N pl tk true) (hq : zqk N q) (hs : zPs κ tk q cs cd) (hC : zCl ρ cr F)
    (hp : ∀ κ' F', zRf κ' κ → zPs κ' tk (zpTimes c v pl q) cs cd → (∀ i, i ≠ 1 → F' i = F i) → zTi c v q (zpTimes c v pl q) F F' → post none n (zl_h κ' (va_up ρ cr (zce F')))) : zq_At l G (zq_rm D 0 0) mX8_readOrder (zq_QF G post 0 0) 126 [(0, .ref 48), (1, .ref cr)] [] n (zl_h κ ρ) 0 0 := by
  have w27 : κ.1 48 3 = nI 279 ↔ zpt c q 27 = true := zPs_iff (k := 27) hT hq.1 (Or.inl ⟨by decide, by decide⟩) hs
  unfold zpTimes at hp
  by_cases ha : zpt c q 27 = true
  · rw [if_pos ha] at hp
    obtain ⟨z1, z2, z3⟩ := zpt_c hT (zqk_w hq) (by decide) ha
    refine at_aload_n dX8_readOrder_126 rfl ?_
    refine at_get dX8_readOrder_127 fl_X8_22 (zl_o rfl) rfl ?_
    refine at_sipush dX8_readOrder_130 (v := nI 279) (by decide) ?_
    refine at_icmp_ne (tgt := 151) dX8_readOrder_133 (by decide) (fun c133 => ?_) (fun c133 => ?_)
    · exact absurd (w27.mpr ha) c133
    · refine at_aload_n dX8_readOrder_136 rfl ?_
      refine at_callV0 (d := D - 1) dX8_readOrder_137 mv_X8_58 (zl_o rfl) (Nat.le_of_ble_eq_true rfl) (zq_r0 (by omega) (by omega) (by omega)) ?_
      refine zc_next hT hR (zqk_w hq) hs (fun _ => z2) (fun κ1 g1 g2 => ?_)
      rw [if_pos z1] at g2
      refine at_aload_n dX8_readOrder_140 rfl ?_
      refine at_aload_n dX8_readOrder_141 rfl ?_
      refine at_iconst dX8_readOrder_142 (v := nI 1) (by decide) ?_
      refine at_bipush dX8_readOrder_143 (v := nI 20) (by decide) ?_
      refine at_callV2 (d := D - 1) dX8_readOrder_145 mv_X8_144 (zl_o rfl) (Nat.le_of_ble_eq_true rfl) (zq_r0 (by omega) (by omega) (by omega)) ?_
      refine zc_numberWithin (by omega) (by decide) hT (zRw_f g1 hR) (zqk_w (zqk_nx hq z2)) g2 (fun κ2 j1 j2 => ?_) (by decide)
      refine at_cput dX8_readOrder_148 (pl_X8_147 _) hC (by decide) ?_
      refine at_vret dX8_readOrder_151 rfl (by omega) (by omega) ?_
      refine hp κ2 _ (zRf_t j1 g1) j2 (fun i hi => upd_o _ hi _) (fun h0 => ?_)
      have hok : c (q.1 + 1) = 50 ∧ 1 ≤ v (q.1 + 1) ∧ v (q.1 + 1) ≤ 20 := (by
        apply Classical.byContradiction
        intro hn
        unfold zpnum at h0
        rw [if_pos (show (zpn q).2.2 = 0 from z1), if_neg (show ¬ (c (zpn q).1 = 50 ∧ 1 ≤ v (zpn q).1 ∧ v (zpn q).1 ≤ 20) from hn)] at h0
        exact zpf_bad h0)
      have en : zpnum c v pl (zpn q) 1 20 = zpn (zpn q) := (by unfold zpnum; rw [if_pos (show (zpn q).2.2 = 0 from z1), if_pos (show c (zpn q).1 = 50 ∧ 1 ≤ v (zpn q).1 ∧ v (zpn q).1 ≤ 20 from hok)])
      have er : zrdn c v (zpn q) 1 20 = v (q.1 + 1) := if_pos ⟨z1, hok⟩
      rw [en, er]
      exact ⟨z1, Nat.le_add_right q.1 2, rfl, Or.inr ⟨z3, hok.1, hok.2.1, hok.2.2, upd_s _ _ _, rfl⟩⟩
  · rw [if_neg ha] at hp
    have hp := hp κ F (zRf_r κ) hs (fun _ _ => rfl) (fun h0 => ⟨h0, Nat.le_refl _, rfl, Or.inl ⟨zpt_no ha h0, rfl, rfl⟩⟩)
    rw [zce_0 hC] at hp
    refine at_aload_n dX8_readOrder_126 rfl ?_
    refine at_get dX8_readOrder_127 fl_X8_22 (zl_o rfl) rfl ?_
    refine at_sipush dX8_readOrder_130 (v := nI 279) (by decide) ?_
    refine at_icmp_ne (tgt := 151) dX8_readOrder_133 (by decide) (fun c133 => ?_) (fun c133 => ?_)
    · refine at_vret dX8_readOrder_151 rfl (by omega) (by omega) ?_
      exact hp
    · exact absurd (w27.mp c133) ha
def zqAc (c v pl : Nat → Nat) (q : zQ) : zQ := if zpt c q 22 = true then zpS c v pl 15 21 true 8 (zpmu c pl (zpS c v pl 15 21 true 8 (zpmu c pl (zpS c v pl 15 21 true 8 (zpn q)) 11)) 23) else if zpt c q 24 = true then zpS c v pl 15 21 true 8 (zpn q) else if zpt c q 25 = true then zpS c v pl 15 21 true 8 (zpn q) else zpmu c pl q 26
/-- an order's action, as it is read -/
def zAc (c v : Nat → Nat) (q q' : zQ) (cs cs' : Nat) (cd cd' : Nat → Nat × Nat) (F F' : Nat → Int32) : Prop :=
  q'.2.2 = 0 → q.2.2 = 0 ∧ cs' ≤ q'.1 ∧ q'.2.1 ≤ 50 ∧ cs ≤ cs' ∧ (∀ k, k < cs → cd' k = cd k) ∧
    ((c q.1 = 22 ∧ F' 0 = nI 0 ∧ ∃ a b e1 e2 e3, zSpS c v true 9 e1 (q.1 + 1) a ∧ c a = 11 ∧ zSpS c v true 9 e2 (a + 1) b ∧ c b = 23 ∧ zSpS c v true 9 e3 (b + 1) q'.1 ∧ zHas true cd' cs' (F' 2) e1 ∧ zHas true cd' cs' (F' 3) e2 ∧ zHas true cd' cs' (F' 4) e3) ∨
     (((c q.1 = 24 ∧ F' 0 = nI 1) ∨ (c q.1 = 25 ∧ F' 0 = nI 2)) ∧ (∃ e, zSpS c v true 9 e (q.1 + 1) q'.1 ∧ zHas true cd' cs' (F' 2) e) ∧ F' 3 = F 3 ∧ F' 4 = F 4) ∨
     (c q.1 = 26 ∧ F' 0 = nI 3 ∧ q'.1 = q.1 + 1 ∧ F' 2 = F 2 ∧ F' 3 = F 3 ∧ F' 4 = F 4))
theorem zpmu_ok {k : Nat} (hT : zTm N c v pl tk) (hq : zqk N q) (hk : k ≠ 0) (h : (zpmu c pl q k).2.2 = 0) : q.2.2 = 0 ∧ q.1 < N ∧ c q.1 = k ∧ zpmu c pl q k = zpn q := by
  have hz : zpt c q k = true := by
    apply Classical.byContradiction
    intro hn
    unfold zpmu at h
    rw [if_neg hn] at h
    exact zpf_bad h
  obtain ⟨z1, z2, z3⟩ := zpt_c hT (zqk_w hq) hk hz
  exact ⟨z1, z2, z3, if_pos hz⟩
theorem zc_act {cr : Nat} {F : Nat → Int32} (hD : 32 ≤ D) (hT : zTm N c v pl tk) (hR : zRw κ N pl tk true) (hq : zqk N q) (hs : zPs κ tk q cs cd) (hb : q.2.2 = 0 → cs ≤ q.1 ∧ q.2.1 ≤ 50) (hC : zCl ρ cr F)
    (hn : ∀ κ' cs' cd' F', zRf κ' κ → zPs κ' tk (zqAc c v pl q) cs' cd' → zAc c v q (zqAc c v pl q) cs cs' cd cd' F F' → F' 5 = F 5 → F' 1 = F 1 → zq_At l G (zq_rm D 0 0) mX8_readOrder (zq_QF G post 0 0) 126 [(0, .ref 48), (1, .ref cr)] [] n (zl_h κ' (va_up ρ cr (zce F'))) 0 0) : zq_At l G (zq_rm D 0 0) mX8_readOrder (zq_QF G post 0 0) 0 [(0, .ref 48), (1, .ref cr)] [] n (zl_h κ ρ) 0 0 := by
  have w22 : κ.1 48 3 = nI 274 ↔ zpt c q 22 = true := zPs_iff (k := 22) hT hq.1 (Or.inl ⟨by decide, by decide⟩) hs
  have w24 : κ.1 48 3 = nI 275 ↔ zpt c q 24 = true := zPs_iff (k := 24) hT hq.1 (Or.inl ⟨by decide, by decide⟩) hs
  have w25 : κ.1 48 3 = nI 276 ↔ zpt c q 25 = true := zPs_iff (k := 25) hT hq.1 (Or.inl ⟨by decide, by decide⟩) hs
  have hgS := zgd_S (v := v) (pl := pl) (fw := 15) (lw := 21) (o := true) hT.1 hT.2.1 hT.2.2.2.1 (by decide) 8
  have hgM := fun k (hk : k ≠ 0) => zgd_mu (k := k) hT.1 hT.2.1 hT.2.2.2.1 hk
  by_cases a22 : zpt c q 22 = true
  · obtain ⟨z1, z2, z3⟩ := zpt_c hT (zqk_w hq) (by decide) a22
    have hbb := hb z1
    have he : zqAc c v pl q = zpS c v pl 15 21 true 8 (zpmu c pl (zpS c v pl 15 21 true 8 (zpmu c pl (zpS c v pl 15 21 true 8 (zpn q)) 11)) 23) := if_pos a22
    rw [he] at hn
    have k1 := zqk_nx hq z2
    have k2 := (hgS _ k1).1
    generalize hqa : zpS c v pl 15 21 true 8 (zpn q) = qa at *
    have k3 : zqk N (zpmu c pl qa 11) := (hgM 11 (by decide) qa k2).1
    have m1 := fun h => zpmu_ok (k := 11) hT k2 (by decide) h
    generalize hqb : zpmu c pl qa 11 = qb at *
    have k4 := (hgS qb k3).1
    generalize hqc : zpS c v pl 15 21 true 8 qb = qc at *
    have k5 : zqk N (zpmu c pl qc 23) := (hgM 23 (by decide) qc k4).1
    have m2 := fun h => zpmu_ok (k := 23) hT k4 (by decide) h
    generalize hqd : zpmu c pl qc 23 = qd at *
    refine at_aload_n dX8_readOrder_0 rfl ?_
    refine at_get dX8_readOrder_1 fl_X8_22 (zl_o rfl) rfl ?_
    refine at_sipush dX8_readOrder_4 (v := nI 274) (by decide) ?_
    refine at_icmp_ne (tgt := 60) dX8_readOrder_7 (by decide) (fun c7 => ?_) (fun c7 => ?_)
    · exact absurd (w22.mpr a22) c7
    · refine at_aload_n dX8_readOrder_10 rfl ?_
      refine at_iconst dX8_readOrder_11 (v := nI 0) (by decide) ?_
      refine at_cput dX8_readOrder_12 (pl_X8_126 _) hC (by decide) ?_
      refine at_aload_n dX8_readOrder_15 rfl ?_
      refine at_callV0 (d := D - 1) dX8_readOrder_16 mv_X8_58 (zl_o rfl) (Nat.le_of_ble_eq_true rfl) (zq_r0 (by omega) (by omega) (by omega)) ?_
      refine zc_next hT hR (zqk_w hq) hs (fun _ => z2) (fun κ1 g1 g2 => ?_)
      rw [if_pos z1] at g2
      have hR1 := zRw_f g1 hR
      refine at_aload_n dX8_readOrder_19 rfl ?_
      refine at_aload_n dX8_readOrder_20 rfl ?_
      refine at_callV0 (d := D - 1) dX8_readOrder_21 mv_X8_129 (zl_o rfl) (Nat.le_of_ble_eq_true rfl) (zq_r0 (by omega) (by omega) (by omega)) ?_
      refine zc_wholeSum (o := true) (by omega) hT hR1 k1 g2 (fun _ => ⟨Nat.succ_le_succ hbb.1, hbb.2⟩) (fun κ2 cs2 cd2 i1 i2 i3 => ?_)
      have i2 : zPs κ2 tk (zpS c v pl 15 21 true 8 (zpn q)) cs2 cd2 := i2
      have i3 : zWh true (zSpS c v true 9) (zpn q) (zpS c v pl 15 21 true 8 (zpn q)) cs cs2 cd cd2 := i3
      rw [hqa] at i2 i3
      have hR2 := zRw_f i1 hR1
      have p2 : qb.2.2 = 0 → cs2 + 1 ≤ qb.1 ∧ qb.2.1 ≤ 50 := (fun h0 => by
        obtain ⟨y1, y2, y3, y4⟩ := m1 h0
        obtain ⟨r1, r2, r3, r4⟩ := i3 y1
        have r2 : cs2 + (q.1 + 1) ≤ cs + 1 + qa.1 := r2
        rw [y4]
        exact ⟨by show cs2 + 1 ≤ qa.1 + 1; omega, r3⟩)
      refine at_cput dX8_readOrder_24 (pl_X8_132 _) (zCl_s hC) (by decide) ?_
      refine at_aload_n dX8_readOrder_27 rfl ?_
      refine at_sipush dX8_readOrder_28 (v := nI 260) (by decide) ?_
      refine at_callV1 (d := D - 1) dX8_readOrder_31 mv_X8_135 (zl_o rfl) (Nat.le_of_ble_eq_true rfl) (zq_r0 (by omega) (by omega) (by omega)) ?_
      refine zc_expect (k := 11) (by omega) (Or.inl ⟨by decide, by decide⟩) hT hR2 (zqk_w k2) i2 (fun κ3 u1 u2 => ?_)
      rw [hqb] at u2
      have hR3 := zRw_f u1 hR2
      refine at_aload_n dX8_readOrder_34 rfl ?_
      refine at_aload_n dX8_readOrder_35 rfl ?_
      refine at_callV0 (d := D - 1) dX8_readOrder_36 mv_X8_129 (zl_o rfl) (Nat.le_of_ble_eq_true rfl) (zq_r0 (by omega) (by omega) (by omega)) ?_
      refine zc_wholeSum (o := true) (by omega) hT hR3 k3 u2 p2 (fun κ4 cs4 cd4 x1 x2 x3 => ?_)
      have x2 : zPs κ4 tk (zpS c v pl 15 21 true 8 qb) cs4 cd4 := x2
      have x3 : zWh true (zSpS c v true 9) qb (zpS c v pl 15 21 true 8 qb) cs2 cs4 cd2 cd4 := x3
      rw [hqc] at x2 x3
      have hR4 := zRw_f x1 hR3
      have p4 : qd.2.2 = 0 → cs4 + 1 ≤ qd.1 ∧ qd.2.1 ≤ 50 := (fun h0 => by
        obtain ⟨y1, y2, y3, y4⟩ := m2 h0
        obtain ⟨r1, r2, r3, r4⟩ := x3 y1
        have := p2 r1
        rw [y4]
        exact ⟨by show cs4 + 1 ≤ qc.1 + 1; omega, r3⟩)
      refine at_cput dX8_readOrder_39 (pl_X8_138 _) (zCl_s (zCl_s hC)) (by decide) ?_
      refine at_aload_n dX8_readOrder_42 rfl ?_
      refine at_sipush dX8_readOrder_43 (v := nI 278) (by decide) ?_
      refine at_callV1 (d := D - 1) dX8_readOrder_46 mv_X8_135 (zl_o rfl) (Nat.le_of_ble_eq_true rfl) (zq_r0 (by omega) (by omega) (by omega)) ?_
      refine zc_expect (k := 23) (by omega) (Or.inl ⟨by decide, by decide⟩) hT hR4 (zqk_w k4) x2 (fun κ5 v1 v2 => ?_)
      rw [hqd] at v2
      have hR5 := zRw_f v1 hR4
      refine at_aload_n dX8_readOrder_49 rfl ?_
      refine at_aload_n dX8_readOrder_50 rfl ?_
      refine at_callV0 (d := D - 1) dX8_readOrder_51 mv_X8_129 (zl_o rfl) (Nat.le_of_ble_eq_true rfl) (zq_r0 (by omega) (by omega) (by omega)) ?_
      refine zc_wholeSum (o := true) (by omega) hT hR5 k5 v2 p4 (fun κ6 cs6 cd6 y1 y2 y3 => ?_)
      have y2 : zPs κ6 tk (zpS c v pl 15 21 true 8 qd) cs6 cd6 := y2
      have y3 : zWh true (zSpS c v true 9) qd (zpS c v pl 15 21 true 8 qd) cs4 cs6 cd4 cd6 := y3
      refine at_cput dX8_readOrder_54 (pl_X8_141 _) (zCl_s (zCl_s (zCl_s hC))) (by decide) ?_
      refine at_goto (tgt := 126) dX8_readOrder_57 (by decide) ?_
      rw [zce_up, zce_up, zce_up]
      refine hn κ6 cs6 cd6 _ (zRf_t y1 (zRf_t v1 (zRf_t x1 (zRf_t u1 (zRf_t i1 g1))))) y2 (fun h0 => ?_) rfl rfl
      obtain ⟨r1, r2, r3, r4, r5, e3, r6, r7⟩ := y3 h0
      obtain ⟨b1, b2, b3, b4⟩ := m2 r1
      obtain ⟨t1, t2, t3, t4, t5, e2, t6, t7⟩ := x3 b1
      obtain ⟨d1, d2, d3, d4⟩ := m1 t1
      obtain ⟨s1, s2, s3, s4, s5, e1, s6, s7⟩ := i3 d1
      have b5 : qd.1 = qc.1 + 1 := (by rw [b4]; rfl)
      have d5 : qb.1 = qa.1 + 1 := (by rw [d4]; rfl)
      have pp := p4 r1
      rw [b5] at r6
      rw [d5] at t6
      exact ⟨z1, by omega, r3, by omega, fun k hk => by rw [r5 k (by omega), t5 k (by omega), s5 k hk], Or.inl ⟨z3, rfl, qa.1, qc.1, e1, e2, e3, s6, d3, t6, b3, r6, zHas_ext s7 (by omega) (fun k hk => by rw [r5 k (by omega), t5 k hk]), zHas_ext t7 (by omega) (fun k hk => r5 k hk), r7⟩⟩
  · have sum : ∀ t m, ((t = 24 ∧ m = 1) ∨ (t = 25 ∧ m = 2)) → zpt c q t = true → zqAc c v pl q = zpS c v pl 15 21 true 8 (zpn q) → zq_At l G (zq_rm D 0 0) mX8_readOrder (zq_QF G post 0 0) 99 [(0, .ref 48), (1, .ref cr)] [] n (zl_h κ (va_up ρ cr (zce (upd F 0 (nI m))))) 0 0 := by
      intro t m ht hz he
      obtain ⟨z1, z2, z3⟩ := zpt_c hT (zqk_w hq) (by omega) hz
      rw [he] at hn
      have hbb := hb z1
      refine at_aload_n dX8_readOrder_99 rfl ?_
      refine at_callV0 (d := D - 1) dX8_readOrder_100 mv_X8_58 (zl_o rfl) (Nat.le_of_ble_eq_true rfl) (zq_r0 (by omega) (by omega) (by omega)) ?_
      refine zc_next hT hR (zqk_w hq) hs (fun _ => z2) (fun κ1 g1 g2 => ?_)
      rw [if_pos z1] at g2
      refine at_aload_n dX8_readOrder_103 rfl ?_
      refine at_aload_n dX8_readOrder_104 rfl ?_
      refine at_callV0 (d := D - 1) dX8_readOrder_105 mv_X8_129 (zl_o rfl) (Nat.le_of_ble_eq_true rfl) (zq_r0 (by omega) (by omega) (by omega)) ?_
      refine zc_wholeSum (o := true) (by omega) hT (zRw_f g1 hR) (zqk_nx hq z2) g2 (fun _ => ⟨Nat.succ_le_succ hbb.1, hbb.2⟩) (fun κ2 cs2 cd2 j1 j2 j3 => ?_)
      have j2 : zPs κ2 tk (zpS c v pl 15 21 true 8 (zpn q)) cs2 cd2 := j2
      have j3 : zWh true (zSpS c v true 9) (zpn q) (zpS c v pl 15 21 true 8 (zpn q)) cs cs2 cd cd2 := j3
      refine at_cput dX8_readOrder_108 (pl_X8_132 _) (zCl_s hC) (by decide) ?_
      refine at_goto (tgt := 126) dX8_readOrder_111 (by decide) ?_
      rw [zce_up]
      refine hn κ2 cs2 cd2 _ (zRf_t j1 g1) j2 (fun h0 => ?_) rfl rfl
      obtain ⟨r1, r2, r3, r4, r5, e, r6, r7⟩ := j3 h0
      have r2 : cs2 + (q.1 + 1) ≤ cs + 1 + (zpS c v pl 15 21 true 8 (zpn q)).1 := r2
      exact ⟨z1, by omega, r3, r4, r5, Or.inr (Or.inl ⟨by rcases ht with ⟨h1, h2⟩ | ⟨h1, h2⟩ <;> rw [h1] at z3 <;> rw [h2]; exact Or.inl ⟨z3, rfl⟩; exact Or.inr ⟨z3, rfl⟩, ⟨e, r6, r7⟩, rfl, rfl⟩)⟩
    refine at_aload_n dX8_readOrder_0 rfl ?_
    refine at_get dX8_readOrder_1 fl_X8_22 (zl_o rfl) rfl ?_
    refine at_sipush dX8_readOrder_4 (v := nI 274) (by decide) ?_
    refine at_icmp_ne (tgt := 60) dX8_readOrder_7 (by decide) (fun c7 => ?_) (fun c7 => ?_)
    · refine at_aload_n dX8_readOrder_60 rfl ?_
      refine at_get dX8_readOrder_61 fl_X8_22 (zl_o rfl) rfl ?_
      refine at_sipush dX8_readOrder_64 (v := nI 275) (by decide) ?_
      refine at_icmp_eq (tgt := 80) dX8_readOrder_67 (by decide) (fun c67 => ?_) (fun c67 => ?_)
      · refine at_aload_n dX8_readOrder_80 rfl ?_
        refine at_aload_n dX8_readOrder_81 rfl ?_
        refine at_get dX8_readOrder_82 fl_X8_22 (zl_o rfl) rfl ?_
        refine at_sipush dX8_readOrder_85 (v := nI 275) (by decide) ?_
        refine at_icmp_ne (tgt := 95) dX8_readOrder_88 (by decide) (fun c88 => ?_) (fun c88 => ?_)
        · exact absurd c67 c88
        · refine at_iconst dX8_readOrder_91 (v := nI 1) (by decide) ?_
          refine at_goto (tgt := 96) dX8_readOrder_92 (by decide) ?_
          refine at_cput dX8_readOrder_96 (pl_X8_126 _) hC (by decide) ?_
          exact sum 24 1 (Or.inl ⟨rfl, rfl⟩) (w24.mp c67) ((if_neg a22).trans (if_pos (w24.mp c67)))
      · refine at_aload_n dX8_readOrder_70 rfl ?_
        refine at_get dX8_readOrder_71 fl_X8_22 (zl_o rfl) rfl ?_
        refine at_sipush dX8_readOrder_74 (v := nI 276) (by decide) ?_
        refine at_icmp_ne (tgt := 114) dX8_readOrder_77 (by decide) (fun c77 => ?_) (fun c77 => ?_)
        · refine at_aload_n dX8_readOrder_114 rfl ?_
          refine at_iconst dX8_readOrder_115 (v := nI 3) (by decide) ?_
          refine at_cput dX8_readOrder_116 (pl_X8_126 _) hC (by decide) ?_
          refine at_aload_n dX8_readOrder_119 rfl ?_
          refine at_sipush dX8_readOrder_120 (v := nI 277) (by decide) ?_
          refine at_callV1 (d := D - 1) dX8_readOrder_123 mv_X8_135 (zl_o rfl) (Nat.le_of_ble_eq_true rfl) (zq_r0 (by omega) (by omega) (by omega)) ?_
          refine zc_expect (k := 26) (by omega) (Or.inl ⟨by decide, by decide⟩) hT hR (zqk_w hq) hs (fun κ1 g1 g2 => ?_)
          have he : zqAc c v pl q = zpmu c pl q 26 := (if_neg a22).trans ((if_neg (fun h => c67 (w24.mpr h))).trans (if_neg (fun h => c77 (w25.mpr h))))
          rw [he] at hn
          refine hn κ1 cs cd _ g1 g2 (fun h0 => ?_) rfl rfl
          obtain ⟨z1, z2, z3, z4⟩ := zpmu_ok hT hq (by decide) h0
          have hbb := hb z1
          rw [z4]
          exact ⟨z1, Nat.le_succ_of_le hbb.1, hbb.2, Nat.le_refl _, fun _ _ => rfl, Or.inr (Or.inr ⟨z3, rfl, rfl, rfl, rfl, rfl⟩)⟩
        · refine at_aload_n dX8_readOrder_80 rfl ?_
          refine at_aload_n dX8_readOrder_81 rfl ?_
          refine at_get dX8_readOrder_82 fl_X8_22 (zl_o rfl) rfl ?_
          refine at_sipush dX8_readOrder_85 (v := nI 275) (by decide) ?_
          refine at_icmp_ne (tgt := 95) dX8_readOrder_88 (by decide) (fun c88 => ?_) (fun c88 => ?_)
          · refine at_iconst dX8_readOrder_95 (v := nI 2) (by decide) ?_
            refine at_cput dX8_readOrder_96 (pl_X8_126 _) hC (by decide) ?_
            exact sum 25 2 (Or.inr ⟨rfl, rfl⟩) (w25.mp c77) ((if_neg a22).trans ((if_neg (fun h => c67 (w24.mpr h))).trans (if_pos (w25.mp c77))))
          · exact absurd c88 c67
    · exact absurd (w22.mp c7) a22
end ZC31

