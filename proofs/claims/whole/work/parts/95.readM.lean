/-! ===== the class: the loop over a text's clauses ===== -/
section ZC43
variable {l : Launch} {G : zq_G} {D N : Nat} {c v pl : Nat → Nat} {tk : Nat → Int32} {o : Bool} {post : Option Value → Nat → (Nat → zq_E) → Prop}
theorem zc_read_out {n B j cells slots cs : Nat} {q : zQ} {κ : zl_S} {ρ : Nat → zq_E} {cd : Nat → Nat × Nat} (hj : j < 100000) (hT : zTm N c v pl tk) (hq : zqk N q) (hs : zPs κ tk q cs cd) (ha : ¬ zpt c q 159 = true) (hk : zq_At l G (zq_rm D 15 887) mX8_read (zq_QF G post 15 887) 98 [(0, .ref 48), (4, .ref B)] [] n (zl_h κ ρ) cells slots) : zq_At l G (zq_rm D 15 887) mX8_read (zq_QF G post 15 887) 65 [(0, .ref 48), (4, .ref B), (5, .int (nI j))] [] n (zl_h κ ρ) cells slots := by
  have w59 : κ.1 48 3 = nI 59 ↔ zpt c q 159 = true := zPs_iff (k := 159) hT hq.1 (Or.inr ⟨by decide, by decide⟩) hs
  refine at_iload dX8_read_65 rfl ?_
  refine at_sipush dX8_read_67 (v := nI 400) (by decide) ?_
  refine at_geN (tgt := 98) dX8_read_70 (by decide) (by omega) (by omega) (fun c70 => ?_) (fun c70 => ?_)
  · exact at_lv [0, 4] hk
  · refine at_aload_n dX8_read_73 rfl ?_
    refine at_get dX8_read_74 fl_X8_22 (zl_o rfl) rfl ?_
    refine at_bipush dX8_read_77 (v := nI 59) (by decide) ?_
    refine at_icmp_ne (tgt := 98) dX8_read_79 (by decide) (fun c79 => ?_) (fun c79 => ?_)
    · exact at_lv [0, 4] hk
    · exact absurd (w59.mp c79) ha
theorem zc_read_loop {B : Nat} {one : zQ → zQ} {PC : Nat → Nat → (Nat → Nat × Nat) → Nat → (Nat → Int32) → Prop} {κ0 : zl_S} {ρ0 : Nat → zq_E} (hD : 44 ≤ D) (hT : zTm N c v pl tk) (hR0 : zRw κ0 N pl tk o) (hone : zgd N one) (hB : 70 ≤ B) (hH : zHC l G N pl tk o (D - 1) one PC)
    (hm : ∀ a b cd cd' N N' F, PC a b cd N F → N ≤ N' → (∀ k, k < N → cd' k = cd k) → PC a b cd' N' F) (Q : zQ)
    (hk : ∀ n ρ κ cs cd sz F cells slots, zRf κ κ0 → zPs κ tk Q cs cd → zCls c PC Q cs cd sz F → (∀ k, k < B → ρ k = ρ0 k) → zTb ρ B sz F → n + 8 = B + 2 + sz → 1 ≤ sz → sz ≤ 12 → (Q.2.2 = 0 → cells = 2 + sz ∧ slots = 15 + 6 * sz) → cells ≤ 15 → slots ≤ 93 → zq_At l G (zq_rm D 15 887) mX8_read (zq_QF G post 15 887) 98 [(0, .ref 48), (4, .ref B)] [] n (zl_h κ ρ) cells slots) :
    ∀ f n ρ κ q cs cd sz F, f + sz = 403 → zqk N q → zRf κ κ0 → zPs κ tk q cs cd → zCls c PC q cs cd sz F → (∀ k, k < B → ρ k = ρ0 k) → zTb ρ B sz F → n + 8 = B + 2 + sz → 1 ≤ sz → sz ≤ 12 → zpC2 c pl one f sz q = Q → zq_At l G (zq_rm D 15 887) mX8_read (zq_QF G post 15 887) 65 [(0, .ref 48), (4, .ref B), (5, .int (nI (sz - 1)))] [] n (zl_h κ ρ) (2 + sz) (15 + 6 * sz) := by
  intro f
  induction f with
  | zero => intro n ρ κ q cs cd sz F h1 h2 h3 h4 h5 h6 h7 h8 h9 h10; omega
  | succ f ih =>
    intro n ρ κ q cs cd sz F hf hq hκ hs hcl hρ hX hn h1 h12 hQ
    have w59 : κ.1 48 3 = nI 59 ↔ zpt c q 159 = true := zPs_iff (k := 159) hT hq.1 (Or.inr ⟨by decide, by decide⟩) hs
    have hR := zRw_f hκ hR0
    by_cases ha : zpt c q 159 = true
    · obtain ⟨z1, z2, z3⟩ := zpt_c hT (zqk_w hq) (by decide) ha
      have k1 := zqk_nx hq z2
      obtain ⟨a1, a2, a3⟩ := hcl z1
      unfold zpC2 at hQ
      rw [if_pos ha] at hQ
      by_cases h : sz = 12
      · rw [if_pos h] at hQ
        have e0 : ¬ (zpf pl (zpn q)).2.2 = 0 := fun e => zpf_bad e
        rw [if_neg e0] at hQ
        have nz : ¬ zpt c (zpf pl (zpn q)) 159 = true := fun e => e0 (zpt_c hT (zqw_pf hT (zqk_w k1)) (by decide) e).1
        have eQ : zpf pl (zpn q) = Q := by
          rw [← hQ]
          cases f with
          | zero => rfl
          | succ f => unfold zpC2; rw [if_neg nz]
        refine at_iload dX8_read_65 rfl ?_
        refine at_sipush dX8_read_67 (v := nI 400) (by decide) ?_
        refine at_geN (tgt := 98) dX8_read_70 (by decide) (by omega) (by omega) (fun c70 => ?_) (fun c70 => ?_)
        · omega
        · refine at_aload_n dX8_read_73 rfl ?_
          refine at_get dX8_read_74 fl_X8_22 (zl_o rfl) rfl ?_
          refine at_bipush dX8_read_77 (v := nI 59) (by decide) ?_
          refine at_icmp_ne (tgt := 98) dX8_read_79 (by decide) (fun c79 => ?_) (fun c79 => ?_)
          · exact absurd (w59.mpr ha) c79
          · refine at_aload_n dX8_read_82 rfl ?_
            refine at_callV0 (d := D - 1) dX8_read_83 mv_X8_58 (zl_o rfl) (Nat.le_of_ble_eq_true rfl) (zq_r0 (by omega) (by omega) (by omega)) ?_
            refine zc_next hT hR (zqk_w hq) hs (fun _ => z2) (fun κ1 g1 g2 => ?_)
            rw [if_pos z1] at g2
            subst h
            refine at_aload_n dX8_read_86 rfl ?_
            refine at_aload dX8_read_87 rfl ?_
            refine at_callV1 (d := D - 1) dX8_read_89 mv_X8_54 (zl_o rfl) (Nat.le_of_ble_eq_true rfl) ⟨by show D - 1 + 1 ≤ D; omega, by show 60 * (D - 1) + 59 ≤ 60 * D; omega, by show 2 + 12 + 0 + 1 ≤ 15; omega, by show 15 + 6 * 12 + 0 + 6 ≤ 887; omega⟩ ?_
            refine zc_clause12 (by omega) hT (zRw_f g1 hR) k1 g2 hB hX (fun κ2 j1 j2 => ?_)
            refine at_iincN dX8_read_92 rfl (by decide) ?_
            refine at_goto (tgt := 65) dX8_read_95 (by decide) ?_
            refine at_lv [0, 4, 5] (zc_read_out (j := 12 - 1 + 1) (by decide) hT (zgd_f hT.2.2.2.1 _ k1).1 j2 nz (hk n ρ κ2 cs cd 12 F _ _ (zRf_t j1 (zRf_t g1 hκ)) (by rw [← eQ]; exact j2) (fun e => absurd (by rw [eQ]; exact e) e0) hρ hX hn (by decide) (by decide) (fun e => absurd (by rw [eQ]; exact e) e0) (by omega) (by omega)))
      · rw [if_neg h, if_pos (show (zpn q).2.2 = 0 from z1)] at hQ
        refine at_iload dX8_read_65 rfl ?_
        refine at_sipush dX8_read_67 (v := nI 400) (by decide) ?_
        refine at_geN (tgt := 98) dX8_read_70 (by decide) (by omega) (by omega) (fun c70 => ?_) (fun c70 => ?_)
        · omega
        · refine at_aload_n dX8_read_73 rfl ?_
          refine at_get dX8_read_74 fl_X8_22 (zl_o rfl) rfl ?_
          refine at_bipush dX8_read_77 (v := nI 59) (by decide) ?_
          refine at_icmp_ne (tgt := 98) dX8_read_79 (by decide) (fun c79 => ?_) (fun c79 => ?_)
          · exact absurd (w59.mpr ha) c79
          · refine at_aload_n dX8_read_82 rfl ?_
            refine at_callV0 (d := D - 1) dX8_read_83 mv_X8_58 (zl_o rfl) (Nat.le_of_ble_eq_true rfl) (zq_r0 (by omega) (by omega) (by omega)) ?_
            refine zc_next hT hR (zqk_w hq) hs (fun _ => z2) (fun κ1 g1 g2 => ?_)
            rw [if_pos z1] at g2
            refine at_aload_n dX8_read_86 rfl ?_
            refine at_aload dX8_read_87 rfl ?_
            refine at_callV1 (d := D - 1) dX8_read_89 mv_X8_54 (zl_o rfl) (Nat.le_of_ble_eq_true rfl) ⟨by show D - 1 + 1 ≤ D; omega, by show 60 * (D - 1) + 59 ≤ 60 * D; omega, by show 2 + sz + 0 + 1 ≤ 15; omega, by show 15 + 6 * sz + 0 + 6 ≤ 887; omega⟩ ?_
            refine hH n ρ κ1 (zpn q) cs cd B sz F _ (zRw_f g1 hR) k1 g2 (fun _ => ⟨Nat.le_succ_of_le a1, a2⟩) hB hn hX (by omega) (fun κ2 cs2 cd2 ρ2 F2 j1 j2 j3 j4 j5 => ?_)
            have hnx := ih (n + 1) ρ2 κ2 (one (zpn q)) cs2 cd2 (sz + 1) _ (by omega) (hone _ k1).1 (zRf_t j1 (zRf_t g1 hκ)) j2 (zCls_s hm h1 z1 hcl j3) (fun k hk => (j4 k hk).trans (hρ k hk)) j5 (by omega) (by omega) (by omega) hQ
            refine at_iincN dX8_read_92 rfl (by decide) ?_
            refine at_goto (tgt := 65) dX8_read_95 (by decide) ?_
            rw [show sz + 1 - 1 = sz - 1 + 1 by omega, show 2 + (sz + 1) = 2 + sz + 0 + 1 by omega, show 15 + 6 * (sz + 1) = 15 + 6 * sz + 0 + 6 by omega] at hnx
            exact at_lv [0, 4, 5] hnx
    · have eQ : q = Q := by
        rw [← hQ]
        unfold zpC2
        rw [if_neg ha]
      subst eQ
      exact zc_read_out (by omega) hT hq hs ha (hk n ρ κ cs cd sz F _ _ hκ hs hcl hρ hX hn h1 h12 (fun _ => ⟨rfl, rfl⟩) (by omega) (by omega))
end ZC43

