/-! ===== the class: strokes and exchanges ===== -/
theorem zLv_shape {ρ : Nat → zq_E} {v : Value} {Lo : Option (List zLC)} (h : zLv ρ v Lo) : v = .null ∨ ∃ tx, v = .ref tx := h.elim (fun h => Or.inl h.1) (fun ⟨tx, _, h, _⟩ => Or.inr ⟨tx, h⟩)
section ZK10
variable {l : Launch} {G : zq_G} {D n : Nat} {κ κ' : zl_S} {σ : zm_S} {ρ : Nat → zq_E} {K : Nat → Int32} {m hn t z : Nat} {Ls : Nat → List zLC} {Λ : List Nat} {post : Option Value → Nat → (Nat → zq_E) → Prop}
theorem zc_strokeNow (hD : 7 ≤ D) (h : zCI κ ρ n K m hn t Ls Λ) {a b c : Int32}
    (hf : ∀ κ', zdC 0 a b c K m (zLoK K Ls) ≠ 0 → zSc κ' κ → post (some (.int (-(nI (zdC 0 a b c K m (zLoK K Ls)))))) n (zl_h κ' (zm_h σ ρ)))
    (ht : ∀ κ', zdC 0 a b c K m (zLoK K Ls) = 0 → zCI κ' ρ n (zdK 0 a b c K) m hn t Ls (zpush (zdD 0 a b K) Λ) → zDf κ' κ → post (some (.int (zI (zdT 0 a b c K m (zLoK K Ls))))) n (zl_h κ' (zm_h σ ρ))) : zq_Runs l G D 0 0 yX11_strokeNow [.ref 8, .int a, .int b, .int c] n (zl_h κ (zm_h σ ρ)) post := by
  have h0 := h
  obtain ⟨hK, hQ, h16, h43, h44⟩ := h
  have hm7 := hK.1.2.1
  have hN := zQc_N hQ hK
  have hT := zQc_T hQ hK
  have hV := zQc_V σ hQ hK
  have t6 := hK.2.2.2.2.2.2.2.2.2.1
  have hc : zdC 0 a b c K m (zLoK K Ls) = (if (zlies 0 3 b && zlies 1 5 c) = false then 1 else if zix m a = false then 2 else if zlen (zX1 K a.toNatClampNeg) ≤ b.toNatClampNeg ∨ zlt (zX1 K a.toNatClampNeg) b.toNatClampNeg = c.toNatClampNeg ∨ zbar K m a.toNatClampNeg (zX1 K a.toNatClampNeg) (zLoK K Ls) = true then 3 else 0) := rfl
  cases e1 : zlies 0 3 b && zlies 1 5 c with
  | false =>
    rw [e1, if_pos rfl] at hc
    have hp := hf κ (by rw [hc]; decide) (zSc_r κ)
    rw [hc] at hp
    refine zq_enter (cc := cX11_strokeNow) (nL := 6) (ret := (some .int)) cw_X11_strokeNow (by decide) rfl (Nat.le_of_ble_eq_true rfl) ?_
    refine at_iload_n dX11_strokeNow_0 rfl ?_
    refine at_callS1 (d := D - 1) dX11_strokeNow_1 ms_X11_144 (Nat.le_of_ble_eq_true rfl) (zq_r0 (by omega) (by omega) (by omega)) ?_
    refine zc_isLetterPlace ?_
    rw [zix_4]
    refine at_if_eqB (tgt := 14) dX11_strokeNow_4 (by decide) (fun c4 => ?_) (fun c4 => ?_)
    · refine at_iconst dX11_strokeNow_14 (v := -1) rfl ?_
      refine at_iret dX11_strokeNow_15 rfl (by omega) (by omega) ?_
      exact hp
    · refine at_iload_n dX11_strokeNow_7 rfl ?_
      refine at_callS1 (d := D - 1) dX11_strokeNow_8 ms_X11_147 (Nat.le_of_ble_eq_true rfl) (zq_r0 (by omega) (by omega) (by omega)) ?_
      refine zc_isLetter ?_
      refine at_if_neB (tgt := 16) dX11_strokeNow_11 (by decide) (fun c11 => ?_) (fun c11 => ?_)
      · exact absurd e1 (by rw [c4, c11]; decide)
      · refine at_iconst dX11_strokeNow_14 (v := -1) rfl ?_
        refine at_iret dX11_strokeNow_15 rfl (by omega) (by omega) ?_
        exact hp
  | true =>
    rw [e1, if_neg (by decide)] at hc
    rw [Bool.and_eq_true] at e1
    cases e2 : zix m a with
    | false =>
      rw [e2, if_pos rfl] at hc
      have hp := hf κ (by rw [hc]; decide) (zSc_r κ)
      rw [hc] at hp
      refine zq_enter (cc := cX11_strokeNow) (nL := 6) (ret := (some .int)) cw_X11_strokeNow (by decide) rfl (Nat.le_of_ble_eq_true rfl) ?_
      refine at_iload_n dX11_strokeNow_0 rfl ?_
      refine at_callS1 (d := D - 1) dX11_strokeNow_1 ms_X11_144 (Nat.le_of_ble_eq_true rfl) (zq_r0 (by omega) (by omega) (by omega)) ?_
      refine zc_isLetterPlace ?_
      rw [zix_4, e1.1]
      refine at_if_eqB (tgt := 14) dX11_strokeNow_4 (by decide) (fun c4 => ?_) (fun c4 => ?_)
      · cases c4
      · refine at_iload_n dX11_strokeNow_7 rfl ?_
        refine at_callS1 (d := D - 1) dX11_strokeNow_8 ms_X11_147 (Nat.le_of_ble_eq_true rfl) (zq_r0 (by omega) (by omega) (by omega)) ?_
        refine zc_isLetter ?_
        rw [e1.2]
        refine at_if_neB (tgt := 16) dX11_strokeNow_11 (by decide) (fun c11 => ?_) (fun c11 => ?_)
        · refine at_aload_n dX11_strokeNow_16 rfl ?_
          refine at_get dX11_strokeNow_17 fl_X11_12 (zl_o rfl) rfl ?_
          refine at_iload_n dX11_strokeNow_20 rfl ?_
          refine at_callV1 (d := D - 1) dX11_strokeNow_21 mv_X11_120 (zl_q zQ9) (Nat.le_of_ble_eq_true rfl) (zq_r0 (by omega) (by omega) (by omega)) ?_
          refine zc_has zQ9 hQ.1.1 hm7 ?_
          rw [e2]
          refine at_if_neB (tgt := 30) dX11_strokeNow_24 (by decide) (fun c24 => ?_) (fun c24 => ?_)
          · cases c24
          · refine at_bipush dX11_strokeNow_27 (v := -2) (by decide) ?_
            refine at_iret dX11_strokeNow_29 rfl (by omega) (by omega) ?_
            exact hp
        · cases c11
    | true =>
      obtain ⟨p, hp, rfl⟩ := zix_t e2
      have e3 := e1
      obtain ⟨e1a, e1b⟩ := e3
      obtain ⟨q, q0, q3, rfl⟩ := zlies_t (by decide) (by decide) e1a
      obtain ⟨y, y1, y5, rfl⟩ := zlies_t (by decide) (by decide) e1b
      rw [e2, if_neg (by decide), nI_clamp (by omega), nI_clamp (by omega), nI_clamp (by omega)] at hc
      have vp := (hK.1.2.2.1 p hp).2
      have vp5 := vp.2.1
      have hdl := zdg4_lt (zX1 K p) q
      have hx : κ.2.1 (9 + 1) p = nI (zX1 K p) := (hN.2.2.1 p hp).1
      have e4 : zix 4 (nI q) = true := by rw [zix_4]; exact e1a
      have eK : zdK 0 (nI p) (nI q) (nI y) K = upd K p (nI (zwl (zX1 K p) q y)) := by
        unfold zdK
        rw [if_pos rfl, nI_clamp (by omega), nI_clamp (by omega), nI_clamp (by omega)]
      have eT : zdT 0 (nI p) (nI q) (nI y) K m (zLoK K Ls) = ztell (zlwV K m p (zX1 K p) (nI q) (nI y)) 1 1 (zLoK K Ls) := by
        unfold zdT
        rw [if_pos rfl, nI_clamp (by omega)]
      have eD : q < zlen (zX1 K p) → zdD 0 (nI p) (nI q) K = 1000 * 0 + 100 * p + 10 * q + zdg4 (zX1 K p) q := fun hq => by
        unfold zdD
        rw [if_pos rfl, nI_clamp (by omega), nI_clamp (by omega), zdg4_in hq]
        omega
      refine zq_enter (cc := cX11_strokeNow) (nL := 6) (ret := (some .int)) cw_X11_strokeNow (by decide) rfl (Nat.le_of_ble_eq_true rfl) ?_
      refine at_iload_n dX11_strokeNow_0 rfl ?_
      refine at_callS1 (d := D - 1) dX11_strokeNow_1 ms_X11_144 (Nat.le_of_ble_eq_true rfl) (zq_r0 (by omega) (by omega) (by omega)) ?_
      refine zc_isLetterPlace ?_
      rw [e4]
      refine at_if_eqB (tgt := 14) dX11_strokeNow_4 (by decide) (fun c4 => ?_) (fun c4 => ?_)
      · cases c4
      · refine at_iload_n dX11_strokeNow_7 rfl ?_
        refine at_callS1 (d := D - 1) dX11_strokeNow_8 ms_X11_147 (Nat.le_of_ble_eq_true rfl) (zq_r0 (by omega) (by omega) (by omega)) ?_
        refine zc_isLetter ?_
        rw [e1b]
        refine at_if_neB (tgt := 16) dX11_strokeNow_11 (by decide) (fun c11 => ?_) (fun c11 => ?_)
        · refine at_aload_n dX11_strokeNow_16 rfl ?_
          refine at_get dX11_strokeNow_17 fl_X11_12 (zl_o rfl) rfl ?_
          refine at_iload_n dX11_strokeNow_20 rfl ?_
          refine at_callV1 (d := D - 1) dX11_strokeNow_21 mv_X11_120 (zl_q zQ9) (Nat.le_of_ble_eq_true rfl) (zq_r0 (by omega) (by omega) (by omega)) ?_
          refine zc_has zQ9 hQ.1.1 hm7 ?_
          rw [e2]
          refine at_if_neB (tgt := 30) dX11_strokeNow_24 (by decide) (fun c24 => ?_) (fun c24 => ?_)
          · refine at_aload_n dX11_strokeNow_30 rfl ?_
            refine at_get dX11_strokeNow_31 fl_X11_12 (zl_o rfl) rfl ?_
            refine at_get dX11_strokeNow_34 fl_X11_123 (zl_q zQ9) rfl ?_
            refine at_iload_n dX11_strokeNow_37 rfl ?_
            refine at_uld (b := 9) (c := 1) dX11_strokeNow_38 zQ9 (by decide) (by decide) rfl (by show _ < 7; omega) ?_
            rw [hx]
            refine at_iload_n dX11_strokeNow_39 rfl ?_
            refine at_callS2 (d := D - 1) dX11_strokeNow_40 ms_X11_150 (Nat.le_of_ble_eq_true rfl) (zq_r0 (by omega) (by omega) (by omega)) ?_
            refine zc_letterOf (by omega) vp.1 (by omega) ?_
            rw [e4, if_pos rfl, nI_clamp (by omega)]
            refine at_istore dX11_strokeNow_43 (by decide) ?_
            refine at_iload dX11_strokeNow_45 rfl ?_
            refine at_if_eqN (tgt := 78) dX11_strokeNow_47 (by decide) (by omega) (fun c47 => ?_) (fun c47 => ?_)
            · have hle : zlen (zX1 K p) ≤ q := Nat.le_of_not_lt (fun g => by have := zvn_at vp g; rw [zdg4_in g] at c47; omega)
              rw [if_pos (Or.inl hle)] at hc
              have hp := hf κ (by rw [hc]; decide) (zSc_r κ)
              rw [hc] at hp
              refine at_bipush dX11_strokeNow_78 (v := -3) (by decide) ?_
              refine at_iret dX11_strokeNow_80 rfl (by omega) (by omega) ?_
              exact hp
            · have ga : q < zlen (zX1 K p) := Nat.lt_of_not_le (fun g => c47 (zdg4_out g))
              refine at_iload dX11_strokeNow_50 rfl ?_
              refine at_iload_n dX11_strokeNow_52 rfl ?_
              refine at_eqN (tgt := 78) dX11_strokeNow_53 (by decide) (by omega) (by omega) (fun c53 => ?_) (fun c53 => ?_)
              · rw [if_pos (Or.inr (Or.inl (by rw [← zdg4_in ga]; exact c53)))] at hc
                have hp := hf κ (by rw [hc]; decide) (zSc_r κ)
                rw [hc] at hp
                refine at_bipush dX11_strokeNow_78 (v := -3) (by decide) ?_
                refine at_iret dX11_strokeNow_80 rfl (by omega) (by omega) ?_
                exact hp
              · refine at_aload_n dX11_strokeNow_56 rfl ?_
                refine at_get dX11_strokeNow_57 fl_X11_54 (zl_o rfl) rfl ?_
                refine at_aload_n dX11_strokeNow_60 rfl ?_
                refine at_get dX11_strokeNow_61 fl_X11_12 (zl_o rfl) rfl ?_
                refine at_aload_n dX11_strokeNow_64 rfl ?_
                refine at_get dX11_strokeNow_65 fl_X11_12 (zl_o rfl) rfl ?_
                refine at_callV0 (d := D - 1) dX11_strokeNow_68 mv_X11_129 (zl_q zQ9) (Nat.le_of_ble_eq_true rfl) (zq_r0 (by omega) (by omega) (by omega)) ?_
                refine zc_inForce (by omega) zQ9 hQ.1.2.2.1 t6 ?_
                refine at_iload_n dX11_strokeNow_71 rfl ?_
                refine at_callV3 (d := D - 1) dX11_strokeNow_72 mv_X11_137 (zl_o rfl) (Nat.le_of_ble_eq_true rfl) (zq_r0 (by omega) (by omega) (by omega)) ?_
                refine zc_isBarred (by omega) zQ9 hN hT hp hV (fun a1 g1 => ?_)
                generalize hk1 : zl_sA (zl_sA κ 55 g1) 54 a1 = κ1
                have s1 : zSc κ1 κ := by rw [← hk1]; exact zSc_54 (zSc_r κ) a1 g1
                have hQ1 := zQc_s hQ s1
                refine at_if_eqB (tgt := 81) dX11_strokeNow_75 (by decide) (fun c75 => ?_) (fun c75 => ?_)
                · have hz : zdC 0 (nI p) (nI q) (nI y) K m (zLoK K Ls) = 0 := by
                    rw [hc, if_neg (fun g => g.elim (fun g => by omega) (fun g => g.elim (fun g => c53 (by rw [zdg4_in ga]; exact g)) (fun g => by rw [c75] at g; cases g)))]
                  have hV1 := zQc_V σ hQ1 hK
                  refine at_aload_n dX11_strokeNow_81 rfl ?_
                  refine at_get dX11_strokeNow_82 fl_X11_54 (zl_o rfl) rfl ?_
                  refine at_aload_n dX11_strokeNow_85 rfl ?_
                  refine at_get dX11_strokeNow_86 fl_X11_12 (zl_o rfl) rfl ?_
                  refine at_aload_n dX11_strokeNow_89 rfl ?_
                  refine at_get dX11_strokeNow_90 fl_X11_12 (zl_o rfl) rfl ?_
                  refine at_callV0 (d := D - 1) dX11_strokeNow_93 mv_X11_129 (zl_q zQ9) (Nat.le_of_ble_eq_true rfl) (zq_r0 (by omega) (by omega) (by omega)) ?_
                  refine zc_inForce (by omega) zQ9 hQ1.1.2.2.1 t6 ?_
                  refine at_iload_n dX11_strokeNow_96 rfl ?_
                  refine at_iload_n dX11_strokeNow_97 rfl ?_
                  refine at_iload_n dX11_strokeNow_98 rfl ?_
                  refine at_callV5 (d := D - 1) dX11_strokeNow_99 mv_X11_154 (zl_o rfl) (Nat.le_of_ble_eq_true rfl) (zq_r0 (by omega) (by omega) (by omega)) ?_
                  refine zc_strokeCost (by omega) zQ9 (zQc_N hQ1 hK) (zQc_T hQ1 hK) hp ga (zSm_n (by omega)) hV1 (fun a2 g2 => ?_)
                  generalize hk2 : zl_sA (zl_sA κ1 55 g2) 54 a2 = κ2
                  have s2 : zSc κ2 κ := by rw [← hk2]; exact zSc_54 s1 a2 g2
                  have hQ2 := zQc_s hQ s2
                  refine at_istore dX11_strokeNow_102 (by decide) ?_
                  refine at_aload_n dX11_strokeNow_104 rfl ?_
                  refine at_get dX11_strokeNow_105 fl_X11_12 (zl_o rfl) rfl ?_
                  refine at_iload_n dX11_strokeNow_108 rfl ?_
                  refine at_iload_n dX11_strokeNow_109 rfl ?_
                  refine at_iload_n dX11_strokeNow_110 rfl ?_
                  refine at_callV3 (d := D - 1) dX11_strokeNow_111 mv_X11_254 (zl_q zQ9) (Nat.le_of_ble_eq_true rfl) (zq_r0 (by omega) (by omega) (by omega)) ?_
                  refine zc_write (by omega) zQ9 (zQc_N hQ2 hK) hp ga ?_
                  refine at_aload_n dX11_strokeNow_114 rfl ?_
                  refine at_get dX11_strokeNow_115 fl_X11_29 (zl_o rfl) rfl ?_
                  refine at_iconst dX11_strokeNow_118 (v := nI 0) (by decide) ?_
                  refine at_iload_n dX11_strokeNow_119 rfl ?_
                  refine at_iload_n dX11_strokeNow_120 rfl ?_
                  refine at_iload dX11_strokeNow_121 rfl ?_
                  refine at_callV4 (d := D - 1) dX11_strokeNow_123 mv_X11_349 (zl_o rfl) (Nat.le_of_ble_eq_true rfl) (zq_r0 (by omega) (by omega) (by omega)) ?_
                  refine zc_logAdd (κ := zl_sa κ2 (9 + 1) p (nI (zwl (zX1 K p) q y))) (k := 0) (a := p) (b := q) (c := zdg4 (zX1 K p) q) (by omega) (by show κ2.1 43 0 = _; rw [s2.1]; exact h43) h16 (by rw [zla_o _ (by decide), s2.2.1 44 (by decide) (by decide)]; exact h44) (fun g' hg => ?_)
                  rw [eK, eT, eD ga] at ht
                  have hK' := zKW_d hK hz
                  rw [eK] at hK'
                  have hp := ht _ hz (zCI_push hK' (zQc_name hQ2 hm7 hp) hg) (zDf_l (zDf_a (zDf_s s2) (by omega)))
                  refine at_iload dX11_strokeNow_126 rfl ?_
                  refine at_iret dX11_strokeNow_128 rfl (by omega) (by omega) ?_
                  exact hp
                · rw [if_pos (Or.inr (Or.inr c75))] at hc
                  have hp := hf κ1 (by rw [hc]; decide) s1
                  rw [hc] at hp
                  refine at_bipush dX11_strokeNow_78 (v := -3) (by decide) ?_
                  refine at_iret dX11_strokeNow_80 rfl (by omega) (by omega) ?_
                  exact hp
          · cases c24
        · cases c11
theorem zc_swapNow (hD : 7 ≤ D) (h : zCI κ ρ n K m hn t Ls Λ) {a : Int32} (b c : Int32)
    (hf : zdC 1 a b c K m (zLoK K Ls) ≠ 0 → post (some (.int (-(nI (zdC 1 a b c K m (zLoK K Ls)))))) n (zl_h κ (zm_h σ ρ)))
    (ht : ∀ κ', zdC 1 a b c K m (zLoK K Ls) = 0 → zCI κ' ρ n (zdK 1 a b c K) m hn t Ls (zpush (zdD 1 a b K) Λ) → zDf κ' κ → post (some (.int (zI (zdT 1 a b c K m (zLoK K Ls))))) n (zl_h κ' (zm_h σ ρ))) : zq_Runs l G D 0 0 yX11_swapNow [.ref 8, .int a] n (zl_h κ (zm_h σ ρ)) post := by
  obtain ⟨hK, hQ, h16, h43, h44⟩ := h
  have hm7 := hK.1.2.1
  have hN := zQc_N hQ hK
  have hT := zQc_T hQ hK
  have hV := zQc_V σ hQ hK
  have t6 := hK.2.2.2.2.2.2.2.2.2.1
  have hc : zdC 1 a b c K m (zLoK K Ls) = if zix (m - 1) a = false then 2 else 0 := by
    unfold zdC
    rw [if_neg (by decide), if_pos rfl]
  cases e : zix (m - 1) a with
  | false =>
    rw [e, if_pos rfl] at hc
    have hp := hf (by rw [hc]; decide)
    rw [hc] at hp
    cases e1 : zix m a with
    | false =>
      refine zq_enter (cc := cX11_swapNow) (nL := 4) (ret := (some .int)) cw_X11_swapNow (by decide) rfl (Nat.le_of_ble_eq_true rfl) ?_
      refine at_aload_n dX11_swapNow_0 rfl ?_
      refine at_get dX11_swapNow_1 fl_X11_12 (zl_o rfl) rfl ?_
      refine at_iload_n dX11_swapNow_4 rfl ?_
      refine at_callV1 (d := D - 1) dX11_swapNow_5 mv_X11_120 (zl_q zQ9) (Nat.le_of_ble_eq_true rfl) (zq_r0 (by omega) (by omega) (by omega)) ?_
      refine zc_has zQ9 hQ.1.1 hm7 ?_
      rw [e1]
      refine at_if_eqB (tgt := 24) dX11_swapNow_8 (by decide) (fun c8 => ?_) (fun c8 => ?_)
      · refine at_bipush dX11_swapNow_24 (v := -2) (by decide) ?_
        refine at_iret dX11_swapNow_26 rfl (by omega) (by omega) ?_
        exact hp
      · cases c8
    | true =>
      obtain ⟨q, hq, rfl⟩ := zix_t e1
      have hq2 : ¬ q + 1 < m := fun g => by rw [zix_n (by omega), decide_eq_true (by omega)] at e; cases e
      refine zq_enter (cc := cX11_swapNow) (nL := 4) (ret := (some .int)) cw_X11_swapNow (by decide) rfl (Nat.le_of_ble_eq_true rfl) ?_
      refine at_aload_n dX11_swapNow_0 rfl ?_
      refine at_get dX11_swapNow_1 fl_X11_12 (zl_o rfl) rfl ?_
      refine at_iload_n dX11_swapNow_4 rfl ?_
      refine at_callV1 (d := D - 1) dX11_swapNow_5 mv_X11_120 (zl_q zQ9) (Nat.le_of_ble_eq_true rfl) (zq_r0 (by omega) (by omega) (by omega)) ?_
      refine zc_has zQ9 hQ.1.1 hm7 ?_
      rw [e1]
      refine at_if_eqB (tgt := 24) dX11_swapNow_8 (by decide) (fun c8 => ?_) (fun c8 => ?_)
      · cases c8
      · refine at_aload_n dX11_swapNow_11 rfl ?_
        refine at_get dX11_swapNow_12 fl_X11_12 (zl_o rfl) rfl ?_
        refine at_iload_n dX11_swapNow_15 rfl ?_
        refine at_iconst dX11_swapNow_16 (v := nI 1) (by decide) ?_
        refine at_iaddN dX11_swapNow_17 ?_
        refine at_callV1 (d := D - 1) dX11_swapNow_18 mv_X11_120 (zl_q zQ9) (Nat.le_of_ble_eq_true rfl) (zq_r0 (by omega) (by omega) (by omega)) ?_
        refine zc_has zQ9 hQ.1.1 hm7 ?_
        rw [zix_n (by omega), decide_eq_false hq2]
        refine at_if_neB (tgt := 27) dX11_swapNow_21 (by decide) (fun c21 => ?_) (fun c21 => ?_)
        · cases c21
        · refine at_bipush dX11_swapNow_24 (v := -2) (by decide) ?_
          refine at_iret dX11_swapNow_26 rfl (by omega) (by omega) ?_
          exact hp
  | true =>
    obtain ⟨q, hq, rfl⟩ := zix_t e
    rw [e, if_neg (by decide)] at hc
    have w0 := hN.2.2.2 q (by omega)
    have w1 := hN.2.2.2 (q + 1) (by omega)
    have eK : zdK 1 (nI q) b c K = zswp K q := by
      unfold zdK
      rw [if_neg (by decide), if_pos rfl, nI_clamp (by omega)]
    have eT : zdT 1 (nI q) b c K m (zLoK K Ls) = ztell (zlwV K m (zW1 K q) (zX1 K (zW1 K q)) (-1) (-1)) 2 1 (zLoK K Ls) + ztell (zlwV K m (zW1 K (q + 1)) (zX1 K (zW1 K (q + 1))) (-1) (-1)) 2 1 (zLoK K Ls) := by
      unfold zdT
      rw [if_neg (by decide), if_pos rfl, nI_clamp (by omega)]
    have eD : zdD 1 (nI q) b K = 1000 * 1 + 100 * q + 10 * 0 + 0 := by
      unfold zdD
      rw [if_neg (by decide), if_pos rfl, nI_clamp (by omega)]
      omega
    have hK' := zKW_d hK hc
    rw [eK, eT, eD, ← zI_add] at ht
    rw [eK] at hK'
    generalize hvv : va_rf (if zix t (κ.1 9 13) = true then κ.2.2 (9 + 10) (κ.1 9 13).toNatClampNeg else none) = vv at hV
    rcases zLv_shape hV with rfl | ⟨tx, rfl⟩
    all_goals
      refine zq_enter (cc := cX11_swapNow) (nL := 4) (ret := (some .int)) cw_X11_swapNow (by decide) rfl (Nat.le_of_ble_eq_true rfl) ?_
      refine at_aload_n dX11_swapNow_0 rfl ?_
      refine at_get dX11_swapNow_1 fl_X11_12 (zl_o rfl) rfl ?_
      refine at_iload_n dX11_swapNow_4 rfl ?_
      refine at_callV1 (d := D - 1) dX11_swapNow_5 mv_X11_120 (zl_q zQ9) (Nat.le_of_ble_eq_true rfl) (zq_r0 (by omega) (by omega) (by omega)) ?_
      refine zc_has zQ9 hQ.1.1 hm7 ?_
      rw [zix_n (by omega), decide_eq_true (by omega)]
      refine at_if_eqB (tgt := 24) dX11_swapNow_8 (by decide) (fun c8 => ?_) (fun c8 => ?_)
      · cases c8
      · refine at_aload_n dX11_swapNow_11 rfl ?_
        refine at_get dX11_swapNow_12 fl_X11_12 (zl_o rfl) rfl ?_
        refine at_iload_n dX11_swapNow_15 rfl ?_
        refine at_iconst dX11_swapNow_16 (v := nI 1) (by decide) ?_
        refine at_iaddN dX11_swapNow_17 ?_
        refine at_callV1 (d := D - 1) dX11_swapNow_18 mv_X11_120 (zl_q zQ9) (Nat.le_of_ble_eq_true rfl) (zq_r0 (by omega) (by omega) (by omega)) ?_
        refine zc_has zQ9 hQ.1.1 hm7 ?_
        rw [zix_n (by omega), decide_eq_true (by omega)]
        refine at_if_neB (tgt := 27) dX11_swapNow_21 (by decide) (fun c21 => ?_) (fun c21 => ?_)
        · refine at_aload_n dX11_swapNow_27 rfl ?_
          refine at_get dX11_swapNow_28 fl_X11_12 (zl_o rfl) rfl ?_
          refine at_callV0 (d := D - 1) dX11_swapNow_31 mv_X11_129 (zl_q zQ9) (Nat.le_of_ble_eq_true rfl) (zq_r0 (by omega) (by omega) (by omega)) ?_
          refine zc_inForce (by omega) zQ9 hQ.1.2.2.1 t6 ?_
          rw [hvv]
          first | refine at_astore_n dX11_swapNow_34 rfl (by decide) ?_ | refine at_astore_nN dX11_swapNow_34 rfl (by decide) ?_
          refine at_aload_n dX11_swapNow_35 rfl ?_
          refine at_get dX11_swapNow_36 fl_X11_54 (zl_o rfl) rfl ?_
          refine at_aload_n dX11_swapNow_39 rfl ?_
          refine at_get dX11_swapNow_40 fl_X11_12 (zl_o rfl) rfl ?_
          first | refine at_aload_n dX11_swapNow_43 rfl ?_ | refine at_aload_nN dX11_swapNow_43 rfl ?_
          refine at_aload_n dX11_swapNow_44 rfl ?_
          refine at_get dX11_swapNow_45 fl_X11_12 (zl_o rfl) rfl ?_
          refine at_get dX11_swapNow_48 fl_X11_141 (zl_q zQ9) rfl ?_
          refine at_iload_n dX11_swapNow_51 rfl ?_
          refine at_uld (b := 9) (c := 2) dX11_swapNow_52 zQ9 (by decide) (by decide) rfl (by show _ < 7; omega) ?_
          rw [w0.1]
          refine at_callV3 (d := D - 1) dX11_swapNow_53 mv_X11_133 (zl_o rfl) (Nat.le_of_ble_eq_true rfl) (zq_r0 (by omega) (by omega) (by omega)) ?_
          refine zc_stepCost (by omega) zQ9 hN hT w0.2 hV (fun a1 g1 => ?_)
          generalize hk1 : zl_sA (zl_sA κ 55 g1) 54 a1 = κ1
          have s1 : zSc κ1 κ := by rw [← hk1]; exact zSc_54 (zSc_r κ) a1 g1
          have hQ1 := zQc_s hQ s1
          have w1' : κ1.2.1 (9 + 2) (q + 1) = nI (zW1 K (q + 1)) := by rw [s1.2.1 _ (by decide) (by decide)]; exact w1.1
          refine at_aload_n dX11_swapNow_56 rfl ?_
          refine at_get dX11_swapNow_57 fl_X11_54 (zl_o rfl) rfl ?_
          refine at_aload_n dX11_swapNow_60 rfl ?_
          refine at_get dX11_swapNow_61 fl_X11_12 (zl_o rfl) rfl ?_
          first | refine at_aload_n dX11_swapNow_64 rfl ?_ | refine at_aload_nN dX11_swapNow_64 rfl ?_
          refine at_aload_n dX11_swapNow_65 rfl ?_
          refine at_get dX11_swapNow_66 fl_X11_12 (zl_o rfl) rfl ?_
          refine at_get dX11_swapNow_69 fl_X11_141 (zl_q zQ9) rfl ?_
          refine at_iload_n dX11_swapNow_72 rfl ?_
          refine at_iconst dX11_swapNow_73 (v := nI 1) (by decide) ?_
          refine at_iaddN dX11_swapNow_74 ?_
          refine at_uld (b := 9) (c := 2) dX11_swapNow_75 zQ9 (by decide) (by decide) rfl (by show _ < 7; omega) ?_
          rw [w1']
          refine at_callV3 (d := D - 1) dX11_swapNow_76 mv_X11_133 (zl_o rfl) (Nat.le_of_ble_eq_true rfl) (zq_r0 (by omega) (by omega) (by omega)) ?_
          refine zc_stepCost (by omega) zQ9 (zQc_N hQ1 hK) (zQc_T hQ1 hK) w1.2 hV (fun a2 g2 => ?_)
          generalize hk2 : zl_sA (zl_sA κ1 55 g2) 54 a2 = κ2
          have s2 : zSc κ2 κ := by rw [← hk2]; exact zSc_54 s1 a2 g2
          have hQ2 := zQc_s hQ s2
          refine at_iadd dX11_swapNow_79 ?_
          refine at_istore_n dX11_swapNow_80 rfl (by decide) ?_
          refine at_aload_n dX11_swapNow_81 rfl ?_
          refine at_get dX11_swapNow_82 fl_X11_12 (zl_o rfl) rfl ?_
          refine at_iload_n dX11_swapNow_85 rfl ?_
          refine at_callV1 (d := D - 1) dX11_swapNow_86 mv_X11_257 (zl_q zQ9) (Nat.le_of_ble_eq_true rfl) (zq_r0 (by omega) (by omega) (by omega)) ?_
          refine zc_exchange (by omega) zQ9 (zQc_N hQ2 hK) (by omega) ?_
          refine at_aload_n dX11_swapNow_89 rfl ?_
          refine at_get dX11_swapNow_90 fl_X11_29 (zl_o rfl) rfl ?_
          refine at_iconst dX11_swapNow_93 (v := nI 1) (by decide) ?_
          refine at_iload_n dX11_swapNow_94 rfl ?_
          refine at_iconst dX11_swapNow_95 (v := nI 0) (by decide) ?_
          refine at_iconst dX11_swapNow_96 (v := nI 0) (by decide) ?_
          refine at_callV4 (d := D - 1) dX11_swapNow_97 mv_X11_349 (zl_o rfl) (Nat.le_of_ble_eq_true rfl) (zq_r0 (by omega) (by omega) (by omega)) ?_
          refine zc_logAdd (κ := zuX κ2 9 q (zW1 K q) (zW1 K (q + 1))) (k := 1) (a := q) (b := 0) (c := 0) (by omega) (by show κ2.1 43 0 = _; rw [s2.1]; exact h43) h16 (by show zLd ((zuX κ2 9 q (zW1 K q) (zW1 K (q + 1))).2.1 44) Λ; unfold zuX; rw [zla_o _ (by decide), zla_o _ (by decide), zla_o _ (by decide), zla_o _ (by decide), s2.2.1 44 (by decide) (by decide)]; exact h44) (fun g' hg => ?_)
          have hp := ht _ hc (zCI_push hK' (zQc_swp hQ2 hK.1 hK.2.2.1 (by omega)) hg) (zDf_l (by unfold zuX; exact zDf_a (zDf_a (zDf_a (zDf_a (zDf_s s2) (by omega)) (by omega)) (by omega)) (by omega)))
          refine at_iload_n dX11_swapNow_100 rfl ?_
          refine at_iret dX11_swapNow_101 rfl (by omega) (by omega) ?_
          exact hp
        · cases c21
end ZK10

