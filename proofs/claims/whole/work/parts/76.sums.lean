/-! ===== the class: the reader reads sums ===== -/
section ZC23
variable {l : Launch} {G : zq_G} {D n : Nat} {ρ f : Nat → zq_E}
variable {N : Nat} {c v pl : Nat → Nat} {tk : Nat → Int32} {o : Bool}
theorem zfw_pos (o : Bool) : 0 < zfw o := by cases o <;> decide
theorem zqk_nx {q : zQ} (h : zqk N q) (hlt : q.1 < N) : zqk N (zpn q) := ⟨hlt, h.2.1, fun e => Nat.le_succ_of_le (h.2.2.1 e), h.2.2.2⟩
theorem zc_readPart {d : Nat} (hD : 4 ≤ D) (hd : d ≤ 8) (hT : zTm N c v pl tk) (hS : d < 8 → zHR l G n ρ N pl tk o (D - 1) yX8_readSum (d + 1) (zpS c v pl (zfw o) (zlwd o) o (7 - d)) (zSpS c v o (8 - d)) (2 * (8 - d) + 1)) :
    zHR l G n ρ N pl tk o D yX8_readPart d (zpP c v pl (zfw o) (zlwd o) o (8 - d)) (zSpPart c v o (zSpS c v o (8 - d))) (2 * (8 - d) + 1) := by
  intro κ q cs cd post hR hqk hs hb hp
  have hq := zqk_w hqk
  by_cases hf : q.2.2 = 0
  · by_cases hc : c q.1 = 191
    · have hlt : q.1 < N := by
        by_cases e : q.1 = N
        · rw [e, hT.2.1] at hc; omega
        · have := hq.1; omega
      have t3 : κ.1 48 3 = nI 91 := (zPs_iff (k := 191) hT hq.1 (Or.inr ⟨by decide, by decide⟩) hs).mpr (by unfold zpt; rw [hf, hc]; rfl)
      by_cases h8 : d = 8
      · have e1 : zpP c v pl (zfw o) (zlwd o) o (8 - d) q = zpf pl q := by
          unfold zpP zpPart
          rw [if_neg (by omega), if_pos hc, if_pos (decide_eq_true (by omega))]
        refine zq_enter (cc := cX8_readPart) (nL := 4) (ret := none) cw_X8_readPart (by decide) rfl (Nat.le_of_ble_eq_true rfl) ?_
        refine at_aload_n dX8_readPart_0 rfl ?_
        refine at_get dX8_readPart_1 fl_X8_22 (zl_o rfl) rfl ?_
        rw [t3]
        refine at_bipush dX8_readPart_4 (v := nI 91) (by decide) ?_
        refine at_neN (tgt := 31) dX8_readPart_6 (by decide) (by omega) (by omega) (fun c6 => ?_) (fun c6 => ?_)
        · exact absurd rfl c6
        · refine at_aload_n dX8_readPart_9 rfl ?_
          refine at_iload_n dX8_readPart_10 rfl ?_
          refine at_callV1 (d := D - 1) dX8_readPart_11 mv_X8_165 (zl_o rfl) (Nat.le_of_ble_eq_true rfl) (zq_r0 (by omega) (by omega) (by omega)) ?_
          refine zc_opens (by omega) hd hT hR hq hs ⟨hf, hlt⟩ (fun κ1 _ g1 g2 => ?_) (fun κ1 h _ _ => by omega)
          have hp := hp κ1 cs cd g1 (by rw [e1]; exact g2) (fun h0 => (zpf_bad (by rw [e1] at h0; exact h0)).elim)
          refine at_if_eqN (tgt := 30) dX8_readPart_14 (by decide) (by omega) (fun c14 => ?_) (fun c14 => ?_)
          · refine at_vret dX8_readPart_30 rfl (by omega) (by omega) ?_
            exact hp
          · exact absurd rfl c14
      · have h7 : 8 - d = (7 - d) + 1 := by omega
        have e1 : zpP c v pl (zfw o) (zlwd o) o (8 - d) q = zpmu c pl (zpS c v pl (zfw o) (zlwd o) o (7 - d) (zpn q)) 193 := by
          unfold zpP zpPart
          rw [if_neg (by omega), if_pos hc, if_neg (by rw [decide_eq_true_eq]; omega), h7]
          rfl
        have hg := (zgd_S (v := v) (pl := pl) (fw := zfw o) (lw := zlwd o) (o := o) hT.1 hT.2.1 hT.2.2.2.1 (zfw_pos o) (7 - d) (zpn q) (zqk_nx hqk hlt)).1
        have hbb := hb hf
        refine zq_enter (cc := cX8_readPart) (nL := 4) (ret := none) cw_X8_readPart (by decide) rfl (Nat.le_of_ble_eq_true rfl) ?_
        refine at_aload_n dX8_readPart_0 rfl ?_
        refine at_get dX8_readPart_1 fl_X8_22 (zl_o rfl) rfl ?_
        rw [t3]
        refine at_bipush dX8_readPart_4 (v := nI 91) (by decide) ?_
        refine at_neN (tgt := 31) dX8_readPart_6 (by decide) (by omega) (by omega) (fun c6 => ?_) (fun c6 => ?_)
        · exact absurd rfl c6
        · refine at_aload_n dX8_readPart_9 rfl ?_
          refine at_iload_n dX8_readPart_10 rfl ?_
          refine at_callV1 (d := D - 1) dX8_readPart_11 mv_X8_165 (zl_o rfl) (Nat.le_of_ble_eq_true rfl) (zq_r0 (by omega) (by omega) (by omega)) ?_
          refine zc_opens (by omega) hd hT hR hq hs ⟨hf, hlt⟩ (fun κ1 h _ _ => by omega) (fun κ1 _ g1 g2 => ?_)
          refine at_if_eqN (tgt := 30) dX8_readPart_14 (by decide) (by omega) (fun c14 => ?_) (fun c14 => ?_)
          · exact absurd c14 (by decide)
          · refine at_aload_n dX8_readPart_17 rfl ?_
            refine at_iload_n dX8_readPart_18 rfl ?_
            refine at_iconst dX8_readPart_19 (v := nI 1) (by decide) ?_
            refine at_iaddN dX8_readPart_20 ?_
            refine at_callV1 (d := D - 1) dX8_readPart_21 mv_X8_150 (zl_o rfl) (Nat.le_of_ble_eq_true rfl) (zq_r0 (by omega) (by omega) (by omega)) ?_
            refine hS (by omega) κ1 (zpn q) cs cd _ (zRw_f g1 hR) (zqk_nx hqk hlt) g2 (fun _ => ⟨by show cs ≤ q.1 + 1; omega, hbb.2⟩) (fun κ2 cs2 cd2 j1 j2 j3 => ?_)
            refine at_aload_n dX8_readPart_24 rfl ?_
            refine at_bipush dX8_readPart_25 (v := nI 93) (by decide) ?_
            refine at_callV1 (d := D - 1) dX8_readPart_27 mv_X8_135 (zl_o rfl) (Nat.le_of_ble_eq_true rfl) (zq_r0 (by omega) (by omega) (by omega)) ?_
            refine zc_expect (k := 193) (by omega) (Or.inr ⟨by decide, by decide⟩) hT (zRw_f j1 (zRw_f g1 hR)) (zqk_w hg) j2 (fun κ3 m1 m2 => ?_)
            have hp := hp κ3 cs2 cd2 (zRf_t m1 (zRf_t j1 g1)) (by rw [e1]; exact m2) (fun h0 => (by
              rw [e1] at h0 ⊢
              have hz : zpt c (zpS c v pl (zfw o) (zlwd o) o (7 - d) (zpn q)) 193 = true := (by
                apply Classical.byContradiction
                intro hn
                unfold zpmu at h0
                rw [if_neg hn] at h0
                exact zpf_bad h0)
              obtain ⟨z1, z2, z3⟩ := zpt_c hT (zqk_w hg) (by decide) hz
              obtain ⟨r1, r2, r3, r4, e, r5, r6⟩ := j3 z1
              have en : zpmu c pl (zpS c v pl (zfw o) (zlwd o) o (7 - d) (zpn q)) 193 = zpn (zpS c v pl (zfw o) (zlwd o) o (7 - d) (zpn q)) := if_pos hz
              rw [en]
              have r2 : cs2 + (q.1 + 1) ≤ cs + (zpS c v pl (zfw o) (zlwd o) o (7 - d) (zpn q)).1 := r2
              exact ⟨hf, by show cs2 + q.1 ≤ cs + ((zpS c v pl (zfw o) (zlwd o) o (7 - d) (zpn q)).1 + 1); omega, r3, r4, e, Or.inl ⟨hc, _, r5, z3, rfl⟩, r6⟩))
            refine at_vret dX8_readPart_30 rfl (by omega) (by omega) ?_
            exact hp
    · have hs1 := zPs_parts (j := q.2.1 + 1) hs hf
      have f1 : zRf (zl_si κ 48 6 (nI (q.2.1 + 1))) κ := zRf_i (zRf_r κ) (by decide)
      have hR1 := zRw_f f1 hR
      have hn := zc_part_66 (l := l) (G := G) (n := n) (ρ := ρ) (post := post) (D := D) (d := 8 - d) (h := 2 * (8 - d) + 1) (S := zSpS c v o (8 - d)) (by omega) (by omega) hT hR1 hq.1 hf hc hs1 (hb hf) (fun κ' cs' cd' r1 r2 r3 => hp κ' cs' cd' (zRf_t r1 f1) r2 r3)
      have t3 : ¬ κ.1 48 3 = nI 91 := fun h => by
        have := (zPs_iff (k := 191) hT hq.1 (Or.inr ⟨by decide, by decide⟩) hs).mp h
        exact hc (zpt_c hT hq (by decide) this).2.2
      have s6 : κ.1 48 6 = nI q.2.1 := by
        rcases hs.2.2 with ⟨a1, a2, a3, a4, a5, a6⟩ | ⟨a1, a2, a3⟩
        · exact a4
        · exact absurd hf a1
      have hqw : zqw N (q.1, q.2.1 + 1, 0) := ⟨hq.1, Nat.zero_le _⟩
      refine zq_enter (cc := cX8_readPart) (nL := 4) (ret := none) cw_X8_readPart (by decide) rfl (Nat.le_of_ble_eq_true rfl) ?_
      cases o with
      | true =>
        refine at_aload_n dX8_readPart_0 rfl ?_
        refine at_get dX8_readPart_1 fl_X8_22 (zl_o rfl) rfl ?_
        refine at_bipush dX8_readPart_4 (v := nI 91) (by decide) ?_
        refine at_icmp_ne (tgt := 31) dX8_readPart_6 (by decide) (fun c6 => ?_) (fun c6 => ?_)
        · refine at_aload_n dX8_readPart_31 rfl ?_
          refine at_dup dX8_readPart_32 rfl ?_
          refine at_get dX8_readPart_33 fl_X8_31 (zl_o rfl) rfl ?_
          rw [s6]
          refine at_iconst dX8_readPart_36 (v := nI 1) (by decide) ?_
          refine at_iaddN dX8_readPart_37 ?_
          refine at_lput dX8_readPart_38 (pl_X8_31 _) (fun i => ⟨_, rfl, Nat.le_of_ble_eq_true rfl, fun v => rfl⟩) rfl rfl ?_
          refine at_aload_n dX8_readPart_41 rfl ?_
          refine at_get dX8_readPart_42 fl_X8_37 (zl_o rfl) rfl ?_
          rw [hR1.2]
          refine at_if_eqB (tgt := 58) dX8_readPart_45 (by decide) (fun c45 => ?_) (fun c45 => ?_)
          · exact absurd c45 (by decide)
          · refine at_aload_n dX8_readPart_48 rfl ?_
            refine at_get dX8_readPart_49 fl_X8_22 (zl_o rfl) rfl ?_
            refine at_callS1 (d := D - 1) dX8_readPart_52 ms_X8_175 (Nat.le_of_ble_eq_true rfl) (zq_r0 (by omega) (by omega) (by omega)) ?_
            refine zc_orderWord (zwR_ord hT hqw hs1) ?_
            refine at_goto (tgt := 65) dX8_readPart_55 (by decide) ?_
            refine at_istore_n dX8_readPart_65 rfl (by decide) ?_
            exact at_lv [0, 2] hn
        · exact absurd c6 t3
      | false =>
        refine at_aload_n dX8_readPart_0 rfl ?_
        refine at_get dX8_readPart_1 fl_X8_22 (zl_o rfl) rfl ?_
        refine at_bipush dX8_readPart_4 (v := nI 91) (by decide) ?_
        refine at_icmp_ne (tgt := 31) dX8_readPart_6 (by decide) (fun c6 => ?_) (fun c6 => ?_)
        · refine at_aload_n dX8_readPart_31 rfl ?_
          refine at_dup dX8_readPart_32 rfl ?_
          refine at_get dX8_readPart_33 fl_X8_31 (zl_o rfl) rfl ?_
          rw [s6]
          refine at_iconst dX8_readPart_36 (v := nI 1) (by decide) ?_
          refine at_iaddN dX8_readPart_37 ?_
          refine at_lput dX8_readPart_38 (pl_X8_31 _) (fun i => ⟨_, rfl, Nat.le_of_ble_eq_true rfl, fun v => rfl⟩) rfl rfl ?_
          refine at_aload_n dX8_readPart_41 rfl ?_
          refine at_get dX8_readPart_42 fl_X8_37 (zl_o rfl) rfl ?_
          rw [hR1.2]
          refine at_if_eqB (tgt := 58) dX8_readPart_45 (by decide) (fun c45 => ?_) (fun c45 => ?_)
          · refine at_aload_n dX8_readPart_58 rfl ?_
            refine at_get dX8_readPart_59 fl_X8_22 (zl_o rfl) rfl ?_
            refine at_callS1 (d := D - 1) dX8_readPart_62 ms_X8_178 (Nat.le_of_ble_eq_true rfl) (zq_r0 (by omega) (by omega) (by omega)) ?_
            refine zc_lawWord (zwR_law hT hqw hs1) ?_
            refine at_istore_n dX8_readPart_65 rfl (by decide) ?_
            exact at_lv [0, 2] hn
          · exact absurd c45 (by decide)
        · exact absurd c6 t3
  · have e1 : zpP c v pl (zfw o) (zlwd o) o (8 - d) q = q := by
      unfold zpP zpPart
      rw [if_pos hf]
    rw [e1] at hp
    exact zc_part_bad (by omega) hT hR hq hs hf (fun κ' cs' cd' r1 r2 => hp κ' cs' cd' r1 r2 (fun h0 => absurd h0 hf))
/-- in a row of things with signs between: what stands, up to here -/
def zLp (o : Bool) (c : Nat → Nat) (ops : List Nat) (mk : Nat → zX → zX → zX) (Sp : zX → Nat → Nat → Prop) (h : Nat) (q0 : zQ) (cs0 : Nat) (cd0 : Nat → Nat × Nat) (q : zQ) (cs : Nat) (cd : Nat → Nat × Nat) : Prop :=
  q.2.2 = 0 → q0.2.2 = 0 ∧ cs + q0.1 ≤ cs0 + q.1 ∧ q.2.1 ≤ 50 ∧ (∀ k, k < cs0 → cd k = cd0 k) ∧ ∃ a, zCC o cd a cs0 cs h ∧ ∀ F e m, zTL c ops mk Sp F a q.1 e m → zSqL c ops mk Sp e q0.1 m
theorem zLp_0 {ops : List Nat} {mk : Nat → zX → zX → zX} {Sp : zX → Nat → Nat → Prop} {h h' : Nat} {q0 q : zQ} {cs0 cs : Nat} {cd0 cd : Nat → Nat × Nat} (hr : zRes o Sp h q0 q cs0 cs cd0 cd) (hh : h ≤ h') : zLp o c ops mk Sp h' q0 cs0 cd0 q cs cd := by
  intro h0
  obtain ⟨r1, r2, r3, r4, e, r5, r6⟩ := hr h0
  exact ⟨r1, r2, r3, r4, e, zCC_ext r6 hh (fun _ _ _ => rfl), fun F e' m hm => ⟨F, e, q.1, r5, hm⟩⟩
theorem zLp_e {ops : List Nat} {mk : Nat → zX → zX → zX} {Sp : zX → Nat → Nat → Prop} {h : Nat} {q0 q : zQ} {cs0 cs : Nat} {cd0 cd : Nat → Nat × Nat} (hl : zLp o c ops mk Sp h q0 cs0 cd0 q cs cd) (hn : q.2.2 = 0 → c q.1 ∉ ops) : zRes o (zSqL c ops mk Sp) h q0 q cs0 cs cd0 cd := by
  intro h0
  obtain ⟨r1, r2, r3, r4, a, r5, r6⟩ := hl h0
  exact ⟨r1, r2, r3, r4, a, r6 1 a q.1 (Or.inl ⟨hn h0, rfl, rfl⟩), r5⟩
/-- one sign more, and what stands behind it -/
theorem zLp_op {ops : List Nat} {Sp : zX → Nat → Nat → Prop} {h hP t : Nat} {q0 q q' : zQ} {cs0 cs cs1 : Nat} {cd0 cd cd1 : Nat → Nat × Nat} (hf : q.2.2 = 0) (ht : zopt t) (hct : c q.1 = t) (hin : t ∈ ops) (hl : zLp o c ops zx_op Sp h q0 cs0 cd0 q cs cd) (hr : zRes o Sp hP (zpn q) q' cs cs1 cd cd1) (hh : hP + 1 ≤ h) : zLp o c ops zx_op Sp h q0 cs0 cd0 q' (cs1 + 1) (zcu cd1 cs1 (zopc t, 0)) := by
  intro h0
  obtain ⟨r1, r2, r3, r4, a, r5, r6⟩ := hl hf
  obtain ⟨s1, s2, s3, s4, e, s5, s6⟩ := hr h0
  have s2 : cs1 + (q.1 + 1) ≤ cs + q'.1 := s2
  have i1 := r5.1
  have i2 := s6.1
  refine ⟨r1, by omega, s3, fun k hk => by rw [zcu_o (by omega), s4 k (by omega), r4 k hk], zx_op t a e, ?_, fun F e' m hm => r6 (F + 1) e' m (Or.inr ⟨by rw [hct]; exact hin, e, q'.1, s5, by rw [hct]; exact hm⟩)⟩
  exact zCC_op ht (zCC_ext r5 (Nat.le_refl _) (fun k k1 k2 => by rw [zcu_o (by omega), s4 k k2])) (zCC_ext s6 (Nat.le_refl _) (fun k k1 k2 => zcu_o (by omega))) (zcu_s _ _ _) (Nat.le_refl _) hh
end ZC23

