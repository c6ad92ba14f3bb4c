/-! ===== the class: the reader reads a clause, whole ===== -/
section ZC35
variable {l : Launch} {G : zq_G} {D n : Nat} {ρ f : Nat → zq_E} {post : Option Value → Nat → (Nat → zq_E) → Prop}
variable {N : Nat} {c v pl : Nat → Nat} {tk : Nat → Int32} {κ : zl_S} {q : zQ} {cs : Nat} {cd : Nat → Nat × Nat} {o : Bool}
/-- a clause's test, as it is read -/
def zIfd (o : Bool) (c v : Nat → Nat) (q q' : zQ) (cs cs' : Nat) (cd cd' : Nat → Nat × Nat) (F F' : Nat → Int32) : Prop :=
  q'.2.2 = 0 → q.2.2 = 0 ∧ cs' ≤ q'.1 ∧ q'.2.1 ≤ 50 ∧ cs ≤ cs' ∧ (∀ k, k < cs → cd' k = cd k) ∧
    ((c q.1 ≠ 4 ∧ F' 5 = F 5 ∧ q'.1 = q.1) ∨ (c q.1 = 4 ∧ ∃ e, zSpT c v o 9 e (q.1 + 1) q'.1 ∧ zHas o cd' cs' (F' 5) e))
theorem zc_if_39 {B cr : Nat} {F : Nat → Int32} (hD : 40 ≤ D) (hT : zTm N c v pl tk) (hR : zRw κ N pl tk o) (hq : zqk N q) (hs : zPs κ tk q cs cd) (hb : q.2.2 = 0 → cs ≤ q.1 ∧ q.2.1 ≤ 50) (hC : zCl ρ cr F)
    (hp : ∀ κ' cs' cd' F', zRf κ' κ → zPs κ' tk (zpIf c v pl (zfw o) (zlwd o) o q) cs' cd' → zIfd o c v q (zpIf c v pl (zfw o) (zlwd o) o q) cs cs' cd cd' F F' → (∀ i, i ≠ 5 → F' i = F i) → post none n (zl_h κ' (va_up ρ cr (zce F')))) :
    zq_At l G (zq_rm D 1 6) mX8_readClause (zq_QF G post 1 6) 39 [(0, .ref 48), (1, .ref B), (2, .ref cr)] [] n (zl_h κ ρ) 1 6 := by
  have w4 : κ.1 48 3 = nI 280 ↔ zpt c q 4 = true := zPs_iff (k := 4) hT hq.1 (Or.inl ⟨by decide, by decide⟩) hs
  have hN := hT.1
  unfold zpIf at hp
  by_cases ha : zpt c q 4 = true
  · rw [if_pos ha] at hp
    obtain ⟨z1, z2, z3⟩ := zpt_c hT (zqk_w hq) (by decide) ha
    have hbb := hb z1
    have k1 := zqk_nx hq z2
    have hg := zgd_T (v := v) (pl := pl) (fw := zfw o) (lw := zlwd o) (o := o) hT.1 hT.2.1 hT.2.2.2.1 (zfw_pos o) 8 _ k1
    refine at_aload_n dX8_readClause_39 rfl ?_
    refine at_get dX8_readClause_40 fl_X8_22 (zl_o rfl) rfl ?_
    refine at_sipush dX8_readClause_43 (v := nI 280) (by decide) ?_
    refine at_icmp_ne (tgt := 72) dX8_readClause_46 (by decide) (fun c46 => ?_) (fun c46 => ?_)
    · exact absurd (w4.mpr ha) c46
    · refine at_aload_n dX8_readClause_49 rfl ?_
      refine at_callV0 (d := D - 1) dX8_readClause_50 mv_X8_58 (zl_o rfl) (Nat.le_of_ble_eq_true rfl) (zq_r0 (by omega) (by omega) (by omega)) ?_
      refine zc_next hT hR (zqk_w hq) hs (fun _ => z2) (fun κ1 g1 g2 => ?_)
      rw [if_pos z1] at g2
      have s1 := g2.1
      have hR1 := zRw_f g1 hR
      refine at_aload_n dX8_readClause_53 rfl ?_
      refine at_aload_n dX8_readClause_54 rfl ?_
      refine at_get dX8_readClause_55 fl_X8_28 (zl_o rfl) rfl ?_
      rw [s1]
      refine at_cput dX8_readClause_58 (pl_X8_111 _) hC (by decide) ?_
      refine at_aload_n dX8_readClause_61 rfl ?_
      refine at_iconst dX8_readClause_62 (v := nI 0) (by decide) ?_
      refine at_callV1 (d := D - 1) dX8_readClause_63 mv_X8_116 (zl_o rfl) (Nat.le_of_ble_eq_true rfl) (zq_r0 (by omega) (by omega) (by omega)) ?_
      refine zc_readTest hT 8 0 _ (by decide) (by omega) κ1 (zpn q) cs cd _ hR1 k1 g2 (fun _ => ⟨Nat.le_succ_of_le hbb.1, hbb.2⟩) (fun κ2 cs2 cd2 j1 j2 j3 => ?_)
      have hlt : (zpT c v pl (zfw o) (zlwd o) o 8 (zpn q)).2.2 = 0 → cs2 < 800 := (fun h0 => by
        have e1 : cs2 + (q.1 + 1) ≤ cs + (zpT c v pl (zfw o) (zlwd o) o 8 (zpn q)).1 := (j3 h0).2.1
        have := hg.1.1
        omega)
      refine at_aload_n dX8_readClause_66 rfl ?_
      refine at_iconst dX8_readClause_67 (v := nI 0) (by decide) ?_
      refine at_iconst dX8_readClause_68 (v := nI 0) (by decide) ?_
      refine at_callV2 (d := D - 1) dX8_readClause_69 mv_X8_122 (zl_o rfl) (Nat.le_of_ble_eq_true rfl) (zq_r0 (by omega) (by omega) (by omega)) ?_
      refine zc_emit (op := 0) (ar := 0) (by decide) (by decide) j2 hlt (fun κ3 m1 m2 => ?_)
      have hp := hp κ3 _ _ (upd F 5 (nI cs)) (zRf_t m1 (zRf_t j1 g1)) m2 (fun h0 => (by
        obtain ⟨r1, r2, r3, r4, r5, e, r6, r7⟩ := zWh_r j3 (by decide) hlt h0
        have e1 : cs2 + (q.1 + 1) ≤ cs + (zpT c v pl (zfw o) (zlwd o) o 8 (zpn q)).1 := (j3 h0).2.1
        have hl := hlt h0
        exact ⟨z1, by rw [if_pos hl]; omega, r3, r4, r5, Or.inr ⟨z3, e, r6, r7⟩⟩)) (fun i hi => upd_o _ hi _)
      refine at_vret dX8_readClause_72 rfl (by omega) (by omega) ?_
      exact hp
  · rw [if_neg ha] at hp
    have hp := hp κ cs cd F (zRf_r κ) hs (fun h0 => ⟨h0, (hb h0).1, (hb h0).2, Nat.le_refl _, fun _ _ => rfl, Or.inl ⟨zpt_no ha h0, rfl, rfl⟩⟩) (fun _ _ => rfl)
    rw [zce_0 hC] at hp
    refine at_aload_n dX8_readClause_39 rfl ?_
    refine at_get dX8_readClause_40 fl_X8_22 (zl_o rfl) rfl ?_
    refine at_sipush dX8_readClause_43 (v := nI 280) (by decide) ?_
    refine at_icmp_ne (tgt := 72) dX8_readClause_46 (by decide) (fun c46 => ?_) (fun c46 => ?_)
    · refine at_vret dX8_readClause_72 rfl (by omega) (by omega) ?_
      exact hp
    · exact absurd (w4.mp c46) ha
end ZC35

