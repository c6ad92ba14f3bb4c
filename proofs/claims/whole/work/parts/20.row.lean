/-! ===== the Model: rows of bytes ===== -/
/-- the names on the tape from byte s on (k of them): kept, people, how many came, misprints -/
def zrowF (T : Nat → Int32) : Nat → Nat → (Nat → Int32) × Nat × Nat × Nat → (Nat → Int32) × Nat × Nat × Nat
  | 0, _, q => q
  | k + 1, s, q => zrowF T k (s + 4) (if ztold T s ≠ 0 ∧ q.2.1 < 7 then (zadd q.1 q.2.1 (nI (ztold T s)), q.2.1 + 1, q.2.2.1 + 1, q.2.2.2) else (q.1, q.2.1, q.2.2.1, q.2.2.2 + 1))
theorem zadd_73 (K : Nat → Int32) (m : Nat) (x : Int32) : zadd K m x 73 = nI (m + 1) := upd_s _ _ _
theorem znn_ne {x : Nat} (h : x < 2147483648) : znn x = -1 ↔ x = 0 := by
  unfold znn
  by_cases h0 : x = 0
  · rw [if_pos h0]; exact ⟨fun _ => h0, fun _ => rfl⟩
  · rw [if_neg h0]
    refine ⟨fun e => ?_, fun e => absurd e h0⟩
    have h1 : (nI x).toInt = -1 := by rw [e]; rfl
    rw [nI_toInt h] at h1
    omega
theorem ztold_lt (T : Nat → Int32) (s : Nat) : ztold T s < 2147483648 := Nat.lt_of_le_of_lt (ztn_le _ 4 0 0 false) (by decide)
section ZL11
variable {l : Launch} {G : zq_G} {D n : Nat} {σ : zm_S} {ρ : Nat → zq_E} {post : Option Value → Nat → (Nat → zq_E) → Prop}
theorem zm_row_loop {z : Nat} (hD : 3 ≤ D) (hz : z ≤ 400) (Q : (Nat → Int32) × Nat × Nat × Nat) (hk : zq_At l G (zq_rm D 0 0) mX12_row (zq_QF G post 0 0) 125 [(0, .ref 70), (1, .int (nI z)), (2, .int (nI Q.2.2.1))] [] n (zm_h (zm_si (zsK σ Q.1) 7 (nI Q.2.2.2)) ρ) 0 0) : ∀ (k s : Nat) (q : (Nat → Int32) × Nat × Nat × Nat), s + 4 * k ≤ z → z < s + 4 * k + 4 → q.1 73 = nI q.2.1 → q.2.1 ≤ 7 → zrowF (σ.2.1 78) k s q = Q → zq_At l G (zq_rm D 0 0) mX12_row (zq_QF G post 0 0) 40 [(0, .ref 70), (1, .int (nI z)), (2, .int (nI q.2.2.1)), (3, .int (nI s))] [] n (zm_h (zm_si (zsK σ q.1) 7 (nI q.2.2.2)) ρ) 0 0 := by
  intro k
  induction k with
  | zero =>
    intro s q h1 h2 hm hm7 hQ
    obtain rfl : q = Q := hQ
    refine at_iload_n dX12_row_40 rfl ?_
    refine at_iconst dX12_row_41 (v := nI 4) (by decide) ?_
    refine at_iaddN dX12_row_42 ?_
    refine at_iload_n dX12_row_43 rfl ?_
    refine at_gtN (tgt := 125) dX12_row_44 (by decide) (by omega) (by omega) (fun c44 => ?_) (fun c44 => ?_)
    · exact at_lv [0, 1, 2] hk
    · omega
  | succ k ih =>
    intro s q h1 h2 hm hm7 hQ
    unfold zrowF at hQ
    have h78 : (zm_si (zsK σ q.1) 7 (nI q.2.2.2)).2.1 78 = σ.2.1 78 := zsA_o _ (by decide) _
    have h72 : (zm_si (zsK σ q.1) 7 (nI q.2.2.2)).2.1 72 = q.1 := zsK_k _ _
    have htl := ztold_lt (σ.2.1 78) s
    by_cases hc : ztold (σ.2.1 78) s ≠ 0 ∧ q.2.1 < 7
    · rw [if_pos hc] at hQ
      have hn := ih (s + 4) (zadd q.1 q.2.1 (nI (ztold (σ.2.1 78) s)), q.2.1 + 1, q.2.2.1 + 1, q.2.2.2) (by omega) (by omega) (zadd_73 q.1 q.2.1 (nI (ztold (σ.2.1 78) s))) (by show q.2.1 + 1 ≤ 7; omega) hQ
      have hx : znn (ztold (σ.2.1 78) s) = nI (ztold (σ.2.1 78) s) := if_neg hc.1
      refine at_iload_n dX12_row_40 rfl ?_
      refine at_iconst dX12_row_41 (v := nI 4) (by decide) ?_
      refine at_iaddN dX12_row_42 ?_
      refine at_iload_n dX12_row_43 rfl ?_
      refine at_gtN (tgt := 125) dX12_row_44 (by decide) (by omega) (by omega) (fun c44 => ?_) (fun c44 => ?_)
      · omega
      · refine at_aload_n dX12_row_47 rfl ?_
        refine at_iload_n dX12_row_48 rfl ?_
        refine at_callV1 (d := D - 1) dX12_row_49 mv_X12_181 rfl (Nat.le_of_ble_eq_true rfl) (zq_r0 (by omega) (by omega) (by omega)) ?_
        refine zm_toldName (by omega) (by omega) ?_
        rw [h78, hx]
        refine at_istore dX12_row_52 (by decide) ?_
        refine at_iload dX12_row_54 rfl ?_
        refine at_iconst dX12_row_56 (v := -1) rfl ?_
        refine at_icmp_eq (tgt := 73) dX12_row_57 (by decide) (fun c57 => ?_) (fun c57 => ?_)
        · exact absurd ((znn_ne htl).mp (hx.trans c57)) hc.1
        · refine at_aload_n dX12_row_60 rfl ?_
          refine at_callV0 (d := D - 1) dX12_row_61 mv_X12_141 rfl (Nat.le_of_ble_eq_true rfl) (zq_r0 (by omega) (by omega) (by omega)) ?_
          refine zm_many (m := q.2.1) (by rw [h72]; exact hm) ?_
          refine at_bipush dX12_row_64 (v := nI 7) (by decide) ?_
          refine at_geN (tgt := 73) dX12_row_66 (by decide) (by omega) (by omega) (fun c66 => ?_) (fun c66 => ?_)
          · omega
          · refine at_iconst dX12_row_69 (v := nI 1) (by decide) ?_
            refine at_goto (tgt := 74) dX12_row_70 (by decide) ?_
            refine at_istore dX12_row_74 (by decide) ?_
            refine at_iload dX12_row_76 rfl ?_
            refine at_if_eqN (tgt := 87) dX12_row_78 (by decide) (by omega) (fun c78 => ?_) (fun c78 => ?_)
            · omega
            · refine at_aload_n dX12_row_81 rfl ?_
              refine at_iload dX12_row_82 rfl ?_
              refine at_callV1 (d := D - 1) dX12_row_84 mv_X12_148 rfl (Nat.le_of_ble_eq_true rfl) (zq_r0 (by omega) (by omega) (by omega)) ?_
              refine zm_adds (m := q.2.1) (by omega) (by rw [h72]; exact hm) (by omega) ?_
              rw [h72, show zsK (zm_si (zsK σ q.1) 7 (nI q.2.2.2)) (zadd q.1 q.2.1 (nI (ztold (σ.2.1 78) s))) = zm_si (zsK σ (zadd q.1 q.2.1 (nI (ztold (σ.2.1 78) s)))) 7 (nI q.2.2.2) from (zsi_sA _ _ _ _ _).trans (by rw [show zsA (zsK σ q.1) 72 (zadd q.1 q.2.1 (nI (ztold (σ.2.1 78) s))) = _ from zsK_K _ _ _])]
              refine at_iload_n dX12_row_87 rfl ?_
              refine at_iload dX12_row_88 rfl ?_
              refine at_if_eqN (tgt := 97) dX12_row_90 (by decide) (by omega) (fun c90 => ?_) (fun c90 => ?_)
              · omega
              · refine at_iconst dX12_row_93 (v := nI 1) (by decide) ?_
                refine at_goto (tgt := 98) dX12_row_94 (by decide) ?_
                refine at_iaddN dX12_row_98 ?_
                refine at_istore_n dX12_row_99 rfl (by decide) ?_
                refine at_aload_n dX12_row_100 rfl ?_
                refine at_dup dX12_row_101 rfl ?_
                refine at_get dX12_row_102 fl_X12_178 rfl rfl ?_
                rw [zsi_s]
                refine at_iload dX12_row_105 rfl ?_
                refine at_if_eqN (tgt := 114) dX12_row_107 (by decide) (by omega) (fun c107 => ?_) (fun c107 => ?_)
                · omega
                · refine at_iconst dX12_row_110 (v := nI 0) (by decide) ?_
                  refine at_goto (tgt := 115) dX12_row_111 (by decide) ?_
                  refine at_iaddN dX12_row_115 ?_
                  refine at_mput dX12_row_116 (pl_X12_178 _) (fun _ => ⟨_, rfl⟩) rfl rfl ?_
                  rw [zsi_si, Nat.add_zero]
                  refine at_iincN dX12_row_119 rfl (by decide) ?_
                  refine at_goto (tgt := 40) dX12_row_122 (by decide) ?_
                  exact at_lv [0, 1, 2, 3] hn
    · rw [if_neg hc] at hQ
      have hn := ih (s + 4) (q.1, q.2.1, q.2.2.1, q.2.2.2 + 1) (by omega) (by omega) hm hm7 hQ
      refine at_iload_n dX12_row_40 rfl ?_
      refine at_iconst dX12_row_41 (v := nI 4) (by decide) ?_
      refine at_iaddN dX12_row_42 ?_
      refine at_iload_n dX12_row_43 rfl ?_
      refine at_gtN (tgt := 125) dX12_row_44 (by decide) (by omega) (by omega) (fun c44 => ?_) (fun c44 => ?_)
      · omega
      · refine at_aload_n dX12_row_47 rfl ?_
        refine at_iload_n dX12_row_48 rfl ?_
        refine at_callV1 (d := D - 1) dX12_row_49 mv_X12_181 rfl (Nat.le_of_ble_eq_true rfl) (zq_r0 (by omega) (by omega) (by omega)) ?_
        refine zm_toldName (by omega) (by omega) ?_
        rw [h78]
        refine at_istore dX12_row_52 (by decide) ?_
        refine at_iload dX12_row_54 rfl ?_
        refine at_iconst dX12_row_56 (v := -1) rfl ?_
        refine at_icmp_eq (tgt := 73) dX12_row_57 (by decide) (fun c57 => ?_) (fun c57 => ?_)
        · refine at_iconst dX12_row_73 (v := nI 0) (by decide) ?_
          refine at_istore dX12_row_74 (by decide) ?_
          refine at_iload dX12_row_76 rfl ?_
          refine at_if_eqN (tgt := 87) dX12_row_78 (by decide) (by omega) (fun c78 => ?_) (fun c78 => ?_)
          · refine at_iload_n dX12_row_87 rfl ?_
            refine at_iload dX12_row_88 rfl ?_
            refine at_if_eqN (tgt := 97) dX12_row_90 (by decide) (by omega) (fun c90 => ?_) (fun c90 => ?_)
            · refine at_iconst dX12_row_97 (v := nI 0) (by decide) ?_
              refine at_iaddN dX12_row_98 ?_
              refine at_istore_n dX12_row_99 rfl (by decide) ?_
              refine at_aload_n dX12_row_100 rfl ?_
              refine at_dup dX12_row_101 rfl ?_
              refine at_get dX12_row_102 fl_X12_178 rfl rfl ?_
              rw [zsi_s]
              refine at_iload dX12_row_105 rfl ?_
              refine at_if_eqN (tgt := 114) dX12_row_107 (by decide) (by omega) (fun c107 => ?_) (fun c107 => ?_)
              · refine at_iconst dX12_row_114 (v := nI 1) (by decide) ?_
                refine at_iaddN dX12_row_115 ?_
                refine at_mput dX12_row_116 (pl_X12_178 _) (fun _ => ⟨_, rfl⟩) rfl rfl ?_
                rw [zsi_si]
                refine at_iincN dX12_row_119 rfl (by decide) ?_
                refine at_goto (tgt := 40) dX12_row_122 (by decide) ?_
                exact at_lv [0, 1, 2, 3] hn
              · omega
            · omega
          · omega
        · refine at_aload_n dX12_row_60 rfl ?_
          refine at_callV0 (d := D - 1) dX12_row_61 mv_X12_141 rfl (Nat.le_of_ble_eq_true rfl) (zq_r0 (by omega) (by omega) (by omega)) ?_
          refine zm_many (m := q.2.1) (by rw [h72]; exact hm) ?_
          refine at_bipush dX12_row_64 (v := nI 7) (by decide) ?_
          refine at_geN (tgt := 73) dX12_row_66 (by decide) (by omega) (by omega) (fun c66 => ?_) (fun c66 => ?_)
          · refine at_iconst dX12_row_73 (v := nI 0) (by decide) ?_
            refine at_istore dX12_row_74 (by decide) ?_
            refine at_iload dX12_row_76 rfl ?_
            refine at_if_eqN (tgt := 87) dX12_row_78 (by decide) (by omega) (fun c78 => ?_) (fun c78 => ?_)
            · refine at_iload_n dX12_row_87 rfl ?_
              refine at_iload dX12_row_88 rfl ?_
              refine at_if_eqN (tgt := 97) dX12_row_90 (by decide) (by omega) (fun c90 => ?_) (fun c90 => ?_)
              · refine at_iconst dX12_row_97 (v := nI 0) (by decide) ?_
                refine at_iaddN dX12_row_98 ?_
                refine at_istore_n dX12_row_99 rfl (by decide) ?_
                refine at_aload_n dX12_row_100 rfl ?_
                refine at_dup dX12_row_101 rfl ?_
                refine at_get dX12_row_102 fl_X12_178 rfl rfl ?_
                rw [zsi_s]
                refine at_iload dX12_row_105 rfl ?_
                refine at_if_eqN (tgt := 114) dX12_row_107 (by decide) (by omega) (fun c107 => ?_) (fun c107 => ?_)
                · refine at_iconst dX12_row_114 (v := nI 1) (by decide) ?_
                  refine at_iaddN dX12_row_115 ?_
                  refine at_mput dX12_row_116 (pl_X12_178 _) (fun _ => ⟨_, rfl⟩) rfl rfl ?_
                  rw [zsi_si]
                  refine at_iincN dX12_row_119 rfl (by decide) ?_
                  refine at_goto (tgt := 40) dX12_row_122 (by decide) ?_
                  exact at_lv [0, 1, 2, 3] hn
                · omega
              · omega
            · omega
          · exact absurd ⟨fun e => c57 ((znn_ne htl).mpr e), c66⟩ hc
/-- what a row of bytes comes to -/
def zrow (T : Nat → Int32) (z : Nat) (K : Nat → Int32) (m : Nat) : (Nat → Int32) × Nat × Nat × Nat := zrowF T (z / 4) 0 (K, m, 0, if z % 4 = 0 then 0 else 1)
theorem zm_row {z m : Nat} (hD : 4 ≤ D) (h14 : σ.1 14 = nI z) (hz : z ≤ 400) (hm : σ.2.1 72 73 = nI m) (hm7 : m ≤ 7) (hf : z = 0 → post (some (.int (-(nI 6)))) n (zm_h (zref (zm_si σ 14 0) 6) ρ))
    (ht : 0 < z → post (some (.int (nI (zrow (σ.2.1 78) z (σ.2.1 72) m).2.2.1))) n (zm_h (zm_si (zm_si (zm_si (zsK (zm_si σ 14 0) (zrow (σ.2.1 78) z (σ.2.1 72) m).1) 7 (nI (zrow (σ.2.1 78) z (σ.2.1 72) m).2.2.2)) 44 0) 0 0) ρ)) : zq_Runs l G D 0 0 yX12_row [.ref 70] n (zm_h σ ρ) post := by
  have hmod : z % 4 < 4 := Nat.mod_lt _ (by decide)
  refine zq_enter (cc := cX12_row) (nL := 6) (ret := (some .int)) cw_X12_row (by decide) rfl (Nat.le_of_ble_eq_true rfl) ?_
  refine at_aload_n dX12_row_0 rfl ?_
  refine at_get dX12_row_1 fl_X12_175 rfl rfl ?_
  rw [h14]
  refine at_istore_n dX12_row_4 rfl (by decide) ?_
  refine at_aload_n dX12_row_5 rfl ?_
  refine at_iconst dX12_row_6 (v := nI 0) (by decide) ?_
  refine at_mput dX12_row_7 (pl_X12_175 _) (fun _ => ⟨_, rfl⟩) rfl rfl ?_
  refine at_iload_n dX12_row_10 rfl ?_
  refine at_if_neN (tgt := 21) dX12_row_11 (by decide) (by omega) (fun c11 => ?_) (fun c11 => ?_)
  · have hp := ht (by omega)
    have hk : zq_At l G (zq_rm D 0 0) mX12_row (zq_QF G post 0 0) 125 [(0, .ref 70), (1, .int (nI z)), (2, .int (nI (zrow (σ.2.1 78) z (σ.2.1 72) m).2.2.1))] [] n (zm_h (zm_si (zsK (zm_si σ 14 0) (zrow (σ.2.1 78) z (σ.2.1 72) m).1) 7 (nI (zrow (σ.2.1 78) z (σ.2.1 72) m).2.2.2)) ρ) 0 0 := by
      refine at_aload_n dX12_row_125 rfl ?_
      refine at_iload_n dX12_row_126 rfl ?_
      refine at_callV1 (d := D - 1) dX12_row_127 mv_X12_138 rfl (Nat.le_of_ble_eq_true rfl) (zq_r0 (by omega) (by omega) (by omega)) ?_
      refine zm_settled (by omega) ?_
      refine at_iret dX12_row_130 rfl (by omega) (by omega) ?_
      exact hp
    have h0 := zm_row_loop (l := l) (G := G) (D := D) (n := n) (σ := zm_si σ 14 0) (ρ := ρ) (post := post) (z := z) (by omega) hz _ hk (z / 4) 0 _ (by omega) (by omega) hm hm7 rfl
    rw [show zsK (zm_si σ 14 0) (σ.2.1 72) = zm_si σ 14 0 from zsA_0 (zm_si σ 14 0) 72] at h0
    refine at_iconst dX12_row_21 (v := nI 0) (by decide) ?_
    refine at_istore_n dX12_row_22 rfl (by decide) ?_
    refine at_aload_n dX12_row_23 rfl ?_
    refine at_iload_n dX12_row_24 rfl ?_
    refine at_iconst dX12_row_25 (v := nI 4) (by decide) ?_
    refine at_iremN dX12_row_26 (by omega) (by omega) (by omega) ?_
    refine at_if_neN (tgt := 34) dX12_row_27 (by decide) (by omega) (fun c27 => ?_) (fun c27 => ?_)
    · rw [if_neg c27] at h0
      refine at_iconst dX12_row_34 (v := nI 1) (by decide) ?_
      refine at_mput dX12_row_35 (pl_X12_178 _) (fun _ => ⟨_, rfl⟩) rfl rfl ?_
      refine at_iconst dX12_row_38 (v := nI 0) (by decide) ?_
      refine at_istore_n dX12_row_39 rfl (by decide) ?_
      exact h0
    · rw [if_pos c27] at h0
      refine at_iconst dX12_row_30 (v := nI 0) (by decide) ?_
      refine at_goto (tgt := 35) dX12_row_31 (by decide) ?_
      refine at_mput dX12_row_35 (pl_X12_178 _) (fun _ => ⟨_, rfl⟩) rfl rfl ?_
      refine at_iconst dX12_row_38 (v := nI 0) (by decide) ?_
      refine at_istore_n dX12_row_39 rfl (by decide) ?_
      exact h0
  · have hp := hf c11
    refine at_aload_n dX12_row_14 rfl ?_
    refine at_bipush dX12_row_15 (v := -6) (by decide) ?_
    refine at_callV1 (d := D - 1) dX12_row_17 mv_X12_135 rfl (Nat.le_of_ble_eq_true rfl) (zq_r0 (by omega) (by omega) (by omega)) ?_
    refine zm_ref (j := 6) (by decide) ?_
    refine at_iret dX12_row_20 rfl (by omega) (by omega) ?_
    exact hp
end ZL11

