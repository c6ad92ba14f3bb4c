/-! ===== calls on both sides: counts, the clearest row, mending ===== -/
theorem zlw_eq {t : Nat} {v : Int32} (ht : t < 1000) : zlw t v = (decide (v = -1) || zix t v) := by
  have e1 : (nI t - nI 1).toInt = (t : Int) - 1 := pk_sub_toInt (by omega) (by decide)
  have e2 : (v = -1) ↔ v.toInt = -1 := ⟨fun h => by rw [h]; decide, fun h => by rw [← Int32.ofInt_toInt v, h]; rfl⟩
  have e3 : (-1 : Int32).toInt = -1 := by decide
  unfold zlw zix
  rw [Bool.eq_iff_iff, Bool.and_eq_true, Bool.or_eq_true, Bool.and_eq_true, decide_eq_true_eq, decide_eq_true_eq, decide_eq_true_eq, decide_eq_true_eq, decide_eq_true_eq, Int32.le_iff_toInt_le, Int32.le_iff_toInt_le, e1, e2, e3]
  omega
section ZK5
variable {l : Launch} {G : zq_G} {D n : Nat} {κ : zl_S} {σ : zm_S} {ρ : Nat → zq_E} {K : Nat → Int32} {m hn t z : Nat} {Ls : Nat → List zLC} {Λ : List Nat}
theorem zk_clearest {v : Int32} (hD : 88 ≤ D) (h : zIV n κ σ ρ K m hn t z Ls Λ) : zCase l G D 0 0 yX11_clearest yX12_clearest [.int v] n κ σ ρ := by
  intro P1 h1
  have hm7 := h.2.1.1.2.1
  cases e : zlw m v with
  | false =>
    have e' := e
    rw [zlw_eq (by omega), Bool.or_eq_false_iff, decide_eq_false_iff_not] at e'
    obtain ⟨v1, ex⟩ := e'
    have hp := h1 (.int (-1)) n (zl_h κ (zm_h σ ρ)) (by exact ⟨rfl, _, rfl⟩) (fun P2 h2 => by
      rw [zlm]
      refine zm_clearest (by omega) (zIV_C h) (zIV_Sd h) (fun _ => ?_) (fun f => ?_)
      · rw [← zlm]
        exact h2 _ _ _ _ (zfin h)
      · rw [e] at f; cases f)
    refine zq_enter (cc := cX11_clearest) (nL := 2) (ret := (some .int)) cw_X11_clearest (by decide) rfl (Nat.le_of_ble_eq_true rfl) ?_
    refine at_iload_n dX11_clearest_0 rfl ?_
    refine at_iconst dX11_clearest_1 (v := -1) rfl ?_
    refine at_icmp_eq (tgt := 18) dX11_clearest_2 (by decide) (fun c2 => ?_) (fun c2 => ?_)
    · exact absurd c2 v1
    · refine at_aload_n dX11_clearest_5 rfl ?_
      refine at_get dX11_clearest_6 fl_X11_12 (zl_o rfl) rfl ?_
      refine at_iload_n dX11_clearest_9 rfl ?_
      refine at_callV1 (d := D - 1) dX11_clearest_10 mv_X11_120 (zl_q zQ9) (Nat.le_of_ble_eq_true rfl) (zq_r0 (by omega) (by omega) (by omega)) ?_
      refine zc_has zQ9 h.2.2.1.1.1 hm7 ?_
      rw [ex]
      refine at_if_neB (tgt := 18) dX11_clearest_13 (by decide) (fun c13 => ?_) (fun c13 => ?_)
      · cases c13
      · refine at_iconst dX11_clearest_16 (v := -1) rfl ?_
        refine at_iret dX11_clearest_17 rfl (by omega) (by omega) ?_
        exact hp
  | true =>
    have hp : ∀ κ', zKf κ' κ → P1 (some (.int (if v = -1 then zlast (zclA (sdK K) m).1 else nI ((zclA (sdK K) m).2 v.toNatClampNeg)))) n (zl_h κ' (zm_h σ ρ)) := fun κ' hf => h1 _ n (zl_h κ' (zm_h σ ρ)) (by exact ⟨rfl, _, rfl⟩) (fun P2 h2 => by
      rw [zlm]
      refine zm_clearest (by omega) (zIV_C h) (zIV_Sd h) (fun f => ?_) (fun _ τ ht => ?_)
      · rw [e] at f; cases f
      · rw [← zlm]
        refine h2 _ _ _ _ (zfin (zIV_g (zIV_f h hf) (zMf_E ht) (fun y y1 y5 => ?_)))
        rw [ht.2 76 rfl]
        exact zIV_rk h y y1 y5)
    rcases zlw_t (by omega) e with rfl | ⟨j, hj, rfl⟩
    · rw [if_pos rfl] at hp
      refine zq_enter (cc := cX11_clearest) (nL := 2) (ret := (some .int)) cw_X11_clearest (by decide) rfl (Nat.le_of_ble_eq_true rfl) ?_
      refine at_iload_n dX11_clearest_0 rfl ?_
      refine at_iconst dX11_clearest_1 (v := -1) rfl ?_
      refine at_icmp_eq (tgt := 18) dX11_clearest_2 (by decide) (fun c2 => ?_) (fun c2 => ?_)
      · refine at_aload_n dX11_clearest_18 rfl ?_
        refine at_get dX11_clearest_19 fl_X11_75 (zl_o rfl) rfl ?_
        refine at_aload_n dX11_clearest_22 rfl ?_
        refine at_get dX11_clearest_23 fl_X11_12 (zl_o rfl) rfl ?_
        refine at_callV1 (d := D - 1) dX11_clearest_26 mv_X11_327 (zl_o rfl) (Nat.le_of_ble_eq_true rfl) (zq_r0 (by omega) (by omega) (by omega)) ?_
        refine zc_seek (by omega) zQ9 h.2.2.1.1.1 hm7 (zQc_S h.2.2.1 h.2.1) (fun κ' g1 g2 g3 => ?_)
        have hp := hp κ' (zKf_c g1)
        rw [← g2] at hp
        refine at_iload_n dX11_clearest_29 rfl ?_
        refine at_iconst dX11_clearest_30 (v := -1) rfl ?_
        refine at_icmp_ne (tgt := 44) dX11_clearest_31 (by decide) (fun c31 => ?_) (fun c31 => ?_)
        · exact absurd rfl c31
        · refine at_aload_n dX11_clearest_34 rfl ?_
          refine at_get dX11_clearest_35 fl_X11_75 (zl_o rfl) rfl ?_
          refine at_get dX11_clearest_38 fl_X11_330 (zl_o rfl) rfl ?_
          refine at_goto (tgt := 53) dX11_clearest_41 (by decide) ?_
          refine at_iret dX11_clearest_53 rfl (by omega) (by omega) ?_
          exact hp
      · exact absurd rfl c2
    · have v1 : ¬ nI j = -1 := nI_ne_m1 (by omega)
      rw [if_neg v1, nI_clamp (by omega)] at hp
      refine zq_enter (cc := cX11_clearest) (nL := 2) (ret := (some .int)) cw_X11_clearest (by decide) rfl (Nat.le_of_ble_eq_true rfl) ?_
      refine at_iload_n dX11_clearest_0 rfl ?_
      refine at_iconst dX11_clearest_1 (v := -1) rfl ?_
      refine at_icmp_eq (tgt := 18) dX11_clearest_2 (by decide) (fun c2 => ?_) (fun c2 => ?_)
      · exact absurd c2 v1
      · refine at_aload_n dX11_clearest_5 rfl ?_
        refine at_get dX11_clearest_6 fl_X11_12 (zl_o rfl) rfl ?_
        refine at_iload_n dX11_clearest_9 rfl ?_
        refine at_callV1 (d := D - 1) dX11_clearest_10 mv_X11_120 (zl_q zQ9) (Nat.le_of_ble_eq_true rfl) (zq_r0 (by omega) (by omega) (by omega)) ?_
        refine zc_has zQ9 h.2.2.1.1.1 hm7 ?_
        rw [zix_n (by omega), decide_eq_true hj]
        refine at_if_neB (tgt := 18) dX11_clearest_13 (by decide) (fun c13 => ?_) (fun c13 => ?_)
        · refine at_aload_n dX11_clearest_18 rfl ?_
          refine at_get dX11_clearest_19 fl_X11_75 (zl_o rfl) rfl ?_
          refine at_aload_n dX11_clearest_22 rfl ?_
          refine at_get dX11_clearest_23 fl_X11_12 (zl_o rfl) rfl ?_
          refine at_callV1 (d := D - 1) dX11_clearest_26 mv_X11_327 (zl_o rfl) (Nat.le_of_ble_eq_true rfl) (zq_r0 (by omega) (by omega) (by omega)) ?_
          refine zc_seek (by omega) zQ9 h.2.2.1.1.1 hm7 (zQc_S h.2.2.1 h.2.1) (fun κ' g1 g2 g3 => ?_)
          have hp := hp κ' (zKf_c g1)
          rw [← g3 j hj] at hp
          refine at_iload_n dX11_clearest_29 rfl ?_
          refine at_iconst dX11_clearest_30 (v := -1) rfl ?_
          refine at_icmp_ne (tgt := 44) dX11_clearest_31 (by decide) (fun c31 => ?_) (fun c31 => ?_)
          · refine at_aload_n dX11_clearest_44 rfl ?_
            refine at_get dX11_clearest_45 fl_X11_75 (zl_o rfl) rfl ?_
            refine at_get dX11_clearest_48 fl_X11_333 (zl_o rfl) rfl ?_
            refine at_iload_n dX11_clearest_51 rfl ?_
            refine at_lald2 (a := 67) dX11_clearest_52 rfl rfl (by show _ < 7; omega) (by decide) ?_
            refine at_iret dX11_clearest_53 rfl (by omega) (by omega) ?_
            exact hp
          · exact absurd c31 v1
        · cases c13
theorem zk_mend {v : Int32} (hD : 88 ≤ D) (h : zIV n κ σ ρ K m hn t z Ls Λ) : zCase l G D 0 0 yX11_mend yX12_mend [.int v] n κ σ ρ := by
  intro P1 h1
  have hm7 := h.2.1.1.2.1
  have hN := zQc_N h.2.2.1 h.2.1
  have hT := zQc_T h.2.2.1 h.2.1
  have hL := zQc_L h.2.2.1 h.2.1
  have hV := zQc_V σ h.2.2.1 h.2.1
  have s72 := zKW_sm h.2.1
  have eK := h.1.2.2.1
  have hrs := zrs_le (zmc K m (zX1 K) (zW1 K) (zLoK K Ls) (alK K)) m 0 0
  cases e : decide (nI 0 ≤ v) && decide (v ≤ nI m) with
  | false =>
    have hp := h1 (.int (-1)) n (zl_h κ (zm_h σ ρ)) (by exact ⟨rfl, _, rfl⟩) (fun P2 h2 => by
      rw [zlm]
      refine zm_mend (Lo := zLoK K Ls) (by omega) (zIV_C h) (by rw [eK]; exact s72.1) (by rw [eK]; exact s72.2) (by rw [eK]; exact zKW_F h.2.1) (zIV_al h).1 (zIV_al h).2 (fun _ => ?_) (fun j τ hj ej _ => ?_)
      · rw [← zlm]
        exact h2 _ _ _ _ (zfin h)
      · have := zlies_i (a := 0) (b := m) (by decide) (by omega) (Nat.zero_le j) hj
        rw [ej] at e
        rw [show (decide (nI 0 ≤ nI j) && decide (nI j ≤ nI m)) = true from this] at e
        cases e)
    have hge : ∀ x : Int32, ¬ x < 0 → ¬ nI m < x → (decide (nI 0 ≤ x) && decide (x ≤ nI m)) = true := fun x a b => by
      rw [decide_eq_true (show nI 0 ≤ x from Int32.not_lt.mp a), decide_eq_true (Int32.not_lt.mp b)]
      rfl
    refine zq_enter (cc := cX11_mend) (nL := 3) (ret := (some .int)) cw_X11_mend (by decide) rfl (Nat.le_of_ble_eq_true rfl) ?_
    refine at_iload_n dX11_mend_0 rfl ?_
    refine at_if_lt (tgt := 15) dX11_mend_1 (by decide) (fun c1 => ?_) (fun c1 => ?_)
    · refine at_iconst dX11_mend_15 (v := -1) rfl ?_
      refine at_iret dX11_mend_16 rfl (by omega) (by omega) ?_
      exact hp
    · refine at_iload_n dX11_mend_4 rfl ?_
      refine at_aload_n dX11_mend_5 rfl ?_
      refine at_get dX11_mend_6 fl_X11_12 (zl_o rfl) rfl ?_
      refine at_get dX11_mend_9 fl_X11_288 (zl_q zQ9) rfl ?_
      rw [h.2.2.1.1.1]
      refine at_icmp_le (tgt := 17) dX11_mend_12 (by decide) (fun c12 => ?_) (fun c12 => ?_)
      · exact absurd (hge v c1 (Int32.not_lt.mpr c12)) (by rw [e]; decide)
      · refine at_iconst dX11_mend_15 (v := -1) rfl ?_
        refine at_iret dX11_mend_16 rfl (by omega) (by omega) ?_
        exact hp
  | true =>
    obtain ⟨j, j0, hj, rfl⟩ := zlies_n (by decide) (by omega) e
    have hp : ∀ κ', zKf κ' κ → P1 (some (.int (zmdA (alK K) (zmc K m (zX1 K) (zW1 K) (zLoK K Ls) (alK K)) m j))) n (zl_h κ' (zm_h σ ρ)) := fun κ' hf => h1 _ n (zl_h κ' (zm_h σ ρ)) (by exact ⟨rfl, _, rfl⟩) (fun P2 h2 => by
      rw [zlm]
      refine zm_mend (Lo := zLoK K Ls) (by omega) (zIV_C h) (by rw [eK]; exact s72.1) (by rw [eK]; exact s72.2) (by rw [eK]; exact zKW_F h.2.1) (zIV_al h).1 (zIV_al h).2 (fun f => ?_) (fun j' τ hj' ej ht => ?_)
      · rw [e] at f; cases f
      · rw [show j' = j from ((nI_eq (by omega) (by omega)).mp ej).symm, ← zlm, eK]
        refine h2 _ _ _ _ (zfin (zIV_g (zIV_f h hf) (zMf_M ht) (fun y y1 y5 => ?_)))
        rw [ht.2.1 76 (by decide) (by decide) (by decide) (by decide) (by decide)]
        exact zIV_rk h y y1 y5)
    unfold zmdA at hp
    have hsum : ∀ i, i < m → ∀ r, r < 780 → min 1000000 (zS4 fun k => zPRv K m (zX1 K) (zW1 K) (zLoK K Ls) i k (zdg4 (znm (alK K) r) k)) = zmc K m (zX1 K) (zW1 K) (zLoK K Ls) (alK K) i r := fun i hi r hr => zPRv_sum (h.2.1.1.2.2.1 _ (h.2.1.1.2.2.2 i hi).2).2 (h.2.1.2.1.2.1) hr
    refine zq_enter (cc := cX11_mend) (nL := 3) (ret := (some .int)) cw_X11_mend (by decide) rfl (Nat.le_of_ble_eq_true rfl) ?_
    refine at_iload_n dX11_mend_0 rfl ?_
    refine at_if_ltN (tgt := 15) dX11_mend_1 (by decide) (by omega) (fun c1 => ?_) (fun c1 => ?_)
    · exact c1.elim
    · refine at_iload_n dX11_mend_4 rfl ?_
      refine at_aload_n dX11_mend_5 rfl ?_
      refine at_get dX11_mend_6 fl_X11_12 (zl_o rfl) rfl ?_
      refine at_get dX11_mend_9 fl_X11_288 (zl_q zQ9) rfl ?_
      rw [h.2.2.1.1.1]
      refine at_leN (tgt := 17) dX11_mend_12 (by decide) (by omega) (by omega) (fun c12 => ?_) (fun c12 => ?_)
      · refine at_aload_n dX11_mend_17 rfl ?_
        refine at_get dX11_mend_18 fl_X11_68 (zl_o rfl) rfl ?_
        refine at_aload_n dX11_mend_21 rfl ?_
        refine at_get dX11_mend_22 fl_X11_12 (zl_o rfl) rfl ?_
        refine at_aload_n dX11_mend_25 rfl ?_
        refine at_get dX11_mend_26 fl_X11_12 (zl_o rfl) rfl ?_
        refine at_callV0 (d := D - 1) dX11_mend_29 mv_X11_129 (zl_q zQ9) (Nat.le_of_ble_eq_true rfl) (zq_r0 (by omega) (by omega) (by omega)) ?_
        refine zc_inForce (by omega) zQ9 h.2.2.1.1.2.2.1 h.2.1.2.2.2.2.2.2.2.2.2.1 ?_
        refine at_aload_n dX11_mend_32 rfl ?_
        refine at_get dX11_mend_33 fl_X11_54 (zl_o rfl) rfl ?_
        refine at_callV3 (d := D - 1) dX11_mend_36 mv_X11_313 (zl_o rfl) (Nat.le_of_ble_eq_true rfl) (zq_r0 (by omega) (by omega) (by omega)) ?_
        refine zc_leastCost (by omega) zQ9 hN hT hL hV (fun κ' g1 g2 g3 => ?_)
        have hp := hp κ' (zKf_m g1)
        have hL' : zQL κ' 9 (alK K) := fun k hk => by rw [g1.2.1 (9 + 5) (by decide) (by decide) (by decide) (by decide)]; exact hL k hk
        have hm' : κ'.1 9 0 = nI m := by rw [g1.1 9]; exact h.2.2.1.1.1
        unfold zlcR
        refine at_istore_n dX11_mend_39 rfl (by decide) ?_
        refine at_iload_n dX11_mend_40 rfl ?_
        refine at_if_eqN (tgt := 49) dX11_mend_41 (by decide) (by omega) (fun c41 => ?_) (fun c41 => ?_)
        · rw [if_pos c41] at hp
          refine at_iload_n dX11_mend_49 rfl ?_
          refine at_iret dX11_mend_50 rfl (by omega) (by omega) ?_
          exact hp
        · refine at_iload_n dX11_mend_44 rfl ?_
          refine at_iconst dX11_mend_45 (v := -1) rfl ?_
          refine at_icmp_ne (tgt := 51) dX11_mend_46 (by decide) (fun c46 => ?_) (fun c46 => ?_)
          · have hc : ¬ zrs (zmc K m (zX1 K) (zW1 K) (zLoK K Ls) (alK K)) m 0 0 = 1000000 := fun g => by
              rw [if_pos g] at c46
              exact absurd rfl c46
            rw [if_neg hc, if_neg c41] at hp
            refine at_aload_n dX11_mend_51 rfl ?_
            refine at_get dX11_mend_52 fl_X11_68 (zl_o rfl) rfl ?_
            refine at_aload_n dX11_mend_55 rfl ?_
            refine at_get dX11_mend_56 fl_X11_12 (zl_o rfl) rfl ?_
            refine at_iload_n dX11_mend_59 rfl ?_
            refine at_iconst dX11_mend_60 (v := nI 1) (by decide) ?_
            refine at_isubN dX11_mend_61 (by omega) ?_
            refine at_callV2 (d := D - 1) dX11_mend_62 mv_X11_317 (zl_o rfl) (Nat.le_of_ble_eq_true rfl) (zq_r0 (by omega) (by omega) (by omega)) ?_
            refine zc_nameFor (by omega) zQ9 hm' hm7 (by omega) hL' g2 hsum (fun _ _ _ => zPRv_le _ _ _ _ _ _ _ _) g3 (by omega) ?_
            rw [show j - 1 + 1 = j by omega]
            refine at_iret dX11_mend_65 rfl (by omega) (by omega) ?_
            exact hp
          · have hc : zrs (zmc K m (zX1 K) (zW1 K) (zLoK K Ls) (alK K)) m 0 0 = 1000000 := by
              by_cases g : zrs (zmc K m (zX1 K) (zW1 K) (zLoK K Ls) (alK K)) m 0 0 = 1000000
              · exact g
              · rw [if_neg g] at c46
                exact absurd c46 (nI_ne_m1 (by omega))
            rw [if_pos hc] at hp
            rw [if_pos hc]
            refine at_iload_n dX11_mend_49 rfl ?_
            refine at_iret dX11_mend_50 rfl (by omega) (by omega) ?_
            exact hp
      · omega
end ZK5
section ZK6
variable {l : Launch} {G : zq_G} {D n : Nat} {κ : zl_S} {σ : zm_S} {ρ : Nat → zq_E} {K : Nat → Int32} {m hn t z : Nat} {Ls : Nat → List zLC} {Λ : List Nat}
theorem zLawAt_c {K K' : Nat → Int32} {u : Nat} {L : List zLC} (h : zLawAt K u L) (e : ∀ j, 77 ≤ j → K' j = K j) : zLawAt K' u L := by
  obtain ⟨E, cd, vl, g1, g2, g3, g4, g5, g6⟩ := h
  exact ⟨E, cd, vl, g1, (e (77 + u) (by omega)).trans g2, g3, g4, fun k hk => ⟨(e _ (by omega)).trans (g5 k hk).1, (e _ (by omega)).trans (g5 k hk).2⟩, g6⟩
theorem zk_compare {v : Int32} (hD : 88 ≤ D) (h : zIV n κ σ ρ K m hn t z Ls Λ) : zCase l G D 0 0 yX11_compare yX12_compare [.int v] n κ σ ρ := by
  intro P1 h1
  have hm7 := h.2.1.1.2.1
  have hN := zQc_N h.2.2.1 h.2.1
  have hT := zQc_T h.2.2.1 h.2.1
  have hL := zQc_L h.2.2.1 h.2.1
  have s72 := zKW_sm h.2.1
  have eK := h.1.2.2.1
  have h75 : K 75 = nI t := h.2.1.2.2.2.2.2.2.2.2.1
  have t6 : t ≤ 6 := h.2.1.2.2.2.2.2.2.2.2.2.1
  have hlaw := h.2.1.2.2.2.2.2.2.2.2.2.2.2
  cases e : zlw t v with
  | false =>
    have e' := e
    rw [zlw_eq (by omega), Bool.or_eq_false_iff, decide_eq_false_iff_not] at e'
    obtain ⟨v1, ex⟩ := e'
    have hp := h1 (.int (-1)) n (zl_h κ (zm_h σ ρ)) (by exact ⟨rfl, _, rfl⟩) (fun P2 h2 => by
      rw [zlm]
      refine zm_compare (Lo := none) (by omega) (zIV_C h) (by rw [eK]; exact s72.1) (by rw [eK]; exact s72.2) (by rw [eK]; exact h75) (fun f => ?_) (zIV_al h).1 (zIV_al h).2 (fun _ => ?_) (fun τ f _ => ?_)
      · rw [e] at f; cases f
      · rw [← zlm]
        exact h2 _ _ _ _ (zfin h)
      · rw [e] at f; cases f)
    refine zq_enter (cc := cX11_compare) (nL := 2) (ret := (some .int)) cw_X11_compare (by decide) rfl (Nat.le_of_ble_eq_true rfl) ?_
    refine at_iload_n dX11_compare_0 rfl ?_
    refine at_iconst dX11_compare_1 (v := -1) rfl ?_
    refine at_icmp_eq (tgt := 18) dX11_compare_2 (by decide) (fun c2 => ?_) (fun c2 => ?_)
    · exact absurd c2 v1
    · refine at_aload_n dX11_compare_5 rfl ?_
      refine at_get dX11_compare_6 fl_X11_12 (zl_o rfl) rfl ?_
      refine at_iload_n dX11_compare_9 rfl ?_
      refine at_callV1 (d := D - 1) dX11_compare_10 mv_X11_216 (zl_q zQ9) (Nat.le_of_ble_eq_true rfl) (zq_r0 (by omega) (by omega) (by omega)) ?_
      refine zc_hasLaw zQ9 h.2.2.1.1.2.2.1 t6 ?_
      rw [ex]
      refine at_if_neB (tgt := 18) dX11_compare_13 (by decide) (fun c13 => ?_) (fun c13 => ?_)
      · cases c13
      · refine at_iconst dX11_compare_16 (v := -1) rfl ?_
        refine at_iret dX11_compare_17 rfl (by omega) (by omega) ?_
        exact hp
  | true =>
    have huu : upd (upd K 76 v) 76 (K 76) = K := by
      funext j
      by_cases g : j = 76
      · subst g; rw [upd_s]
      · rw [upd_o _ g, upd_o _ g]
    have hpL : ∀ Lo, zForce (upd K 76 v) Lo → ∀ κ', zKf κ' κ → P1 (some (.int (zlcR (zmc K m (zX1 K) (zW1 K) Lo (alK K)) m))) n (zl_h κ' (zm_h σ ρ)) := fun Lo hLo κ' hf => h1 _ n (zl_h κ' (zm_h σ ρ)) (by exact ⟨rfl, _, rfl⟩) (fun P2 h2 => by
      rw [zlm]
      refine zm_compare (Lo := Lo) (by omega) (zIV_C h) (by rw [eK]; exact s72.1) (by rw [eK]; exact s72.2) (by rw [eK]; exact h75) (fun _ => by rw [eK]; exact hLo) (zIV_al h).1 (zIV_al h).2 (fun f => ?_) (fun τ _ ht => ?_)
      · rw [e] at f; cases f
      · rw [← zlm, eK, huu, show zmdA (alK K) (zmc (upd K 76 v) m (zX1 K) (zW1 K) Lo (alK K)) m 0 = zlcR (zmc K m (zX1 K) (zW1 K) Lo (alK K)) m by rw [zmc_c (upd_o _ (by decide) _) (upd_o _ (by decide) _) (fun k hk => upd_o _ (by omega) _)]; rfl]
        have hM := zMf_M ht
        have hs : ∀ a, a ≠ 72 → (zsK τ K).2.1 a = τ.2.1 a := fun a ha => zsA_o _ ha _
        refine h2 _ _ _ _ (zfin (zIV_g (zIV_f h hf) ⟨fun k hk => hM.1 k hk, fun a ha => ?_⟩ (fun y y1 y5 => ?_)))
        · by_cases g : a = 72
          · subst g; rw [zsK_k, eK]
          · rw [hs a g, hM.2 a ha]; exact zsA_o _ g _
        · rw [hs 76 (by decide), ht.2.1 76 (by decide) (by decide) (by decide) (by decide) (by decide)]
          exact zIV_rk h y y1 y5)
    rcases zlw_t (by omega) e with rfl | ⟨j, hj, rfl⟩
    · have hp := hpL none (Or.inl ⟨upd_s _ _ _, rfl⟩)
      refine zq_enter (cc := cX11_compare) (nL := 2) (ret := (some .int)) cw_X11_compare (by decide) rfl (Nat.le_of_ble_eq_true rfl) ?_
      refine at_iload_n dX11_compare_0 rfl ?_
      refine at_iconst dX11_compare_1 (v := -1) rfl ?_
      refine at_icmp_eq (tgt := 18) dX11_compare_2 (by decide) (fun c2 => ?_) (fun c2 => ?_)
      · refine at_aload_n dX11_compare_18 rfl ?_
        refine at_get dX11_compare_19 fl_X11_68 (zl_o rfl) rfl ?_
        refine at_aload_n dX11_compare_22 rfl ?_
        refine at_get dX11_compare_23 fl_X11_12 (zl_o rfl) rfl ?_
        refine at_aload_n dX11_compare_26 rfl ?_
        refine at_get dX11_compare_27 fl_X11_12 (zl_o rfl) rfl ?_
        refine at_iload_n dX11_compare_30 rfl ?_
        refine at_callV1 (d := D - 1) dX11_compare_31 mv_X11_320 (zl_q zQ9) (Nat.le_of_ble_eq_true rfl) (zq_r0 (by omega) (by omega) (by omega)) ?_
        refine zc_lawOf (by omega) zQ9 h.2.2.1.1.2.2.1 t6 ?_
        rw [zix_lt0 (by decide), if_neg (by decide)]
        refine at_aload_n dX11_compare_34 rfl ?_
        refine at_get dX11_compare_35 fl_X11_54 (zl_o rfl) rfl ?_
        refine at_callV3 (d := D - 1) dX11_compare_38 mv_X11_313 (zl_o rfl) (Nat.le_of_ble_eq_true rfl) (zq_r0 (by omega) (by omega) (by omega)) ?_
        refine zc_leastCost (Lo := none) (by omega) zQ9 hN hT hL (Or.inl ⟨rfl, rfl⟩) (fun κ' g1 g2 g3 => ?_)
        have hp := hp κ' (zKf_m g1)
        refine at_iret dX11_compare_41 rfl (by omega) (by omega) ?_
        exact hp
      · exact absurd rfl c2
    · have v1 : ¬ nI j = -1 := nI_ne_m1 (by omega)
      obtain ⟨tx, x1, x2⟩ := zQc_V1 σ h.2.2.1 hj
      have hp := hpL (some (Ls j)) (Or.inr ⟨j, Ls j, by omega, upd_s _ _ _, zLawAt_c (hlaw j hj) (fun q hq => upd_o _ (by omega) _), rfl⟩)
      refine zq_enter (cc := cX11_compare) (nL := 2) (ret := (some .int)) cw_X11_compare (by decide) rfl (Nat.le_of_ble_eq_true rfl) ?_
      refine at_iload_n dX11_compare_0 rfl ?_
      refine at_iconst dX11_compare_1 (v := -1) rfl ?_
      refine at_icmp_eq (tgt := 18) dX11_compare_2 (by decide) (fun c2 => ?_) (fun c2 => ?_)
      · exact absurd c2 v1
      · refine at_aload_n dX11_compare_5 rfl ?_
        refine at_get dX11_compare_6 fl_X11_12 (zl_o rfl) rfl ?_
        refine at_iload_n dX11_compare_9 rfl ?_
        refine at_callV1 (d := D - 1) dX11_compare_10 mv_X11_216 (zl_q zQ9) (Nat.le_of_ble_eq_true rfl) (zq_r0 (by omega) (by omega) (by omega)) ?_
        refine zc_hasLaw zQ9 h.2.2.1.1.2.2.1 t6 ?_
        rw [zix_n (by omega), decide_eq_true hj]
        refine at_if_neB (tgt := 18) dX11_compare_13 (by decide) (fun c13 => ?_) (fun c13 => ?_)
        · refine at_aload_n dX11_compare_18 rfl ?_
          refine at_get dX11_compare_19 fl_X11_68 (zl_o rfl) rfl ?_
          refine at_aload_n dX11_compare_22 rfl ?_
          refine at_get dX11_compare_23 fl_X11_12 (zl_o rfl) rfl ?_
          refine at_aload_n dX11_compare_26 rfl ?_
          refine at_get dX11_compare_27 fl_X11_12 (zl_o rfl) rfl ?_
          refine at_iload_n dX11_compare_30 rfl ?_
          refine at_callV1 (d := D - 1) dX11_compare_31 mv_X11_320 (zl_q zQ9) (Nat.le_of_ble_eq_true rfl) (zq_r0 (by omega) (by omega) (by omega)) ?_
          refine zc_lawOf (by omega) zQ9 h.2.2.1.1.2.2.1 t6 ?_
          rw [zix_n (by omega), decide_eq_true hj, if_pos rfl, nI_clamp (by omega), x1]
          refine at_aload_n dX11_compare_34 rfl ?_
          refine at_get dX11_compare_35 fl_X11_54 (zl_o rfl) rfl ?_
          refine at_callV3 (d := D - 1) dX11_compare_38 mv_X11_313 (zl_o rfl) (Nat.le_of_ble_eq_true rfl) (zq_r0 (by omega) (by omega) (by omega)) ?_
          refine zc_leastCost (Lo := some (Ls j)) (by omega) zQ9 hN hT hL x2 (fun κ' g1 g2 g3 => ?_)
          have hp := hp κ' (zKf_m g1)
          refine at_iret dX11_compare_41 rfl (by omega) (by omega) ?_
          exact hp
        · cases c13
theorem zk_count {v : Int32} (hD : 88 ≤ D) (h : zIV n κ σ ρ K m hn t z Ls Λ) : zCase l G D 0 0 yX11_count yX12_count [.int v] n κ σ ρ := by
  intro P1 h1
  have hN := zQc_N h.2.2.1 h.2.1
  have eK := h.1.2.2.1
  have hC := h.2.1.1
  have hp := h1 (.int (zcntA σ m (zrkK K) v)) n (zl_h κ (zm_h σ ρ)) (by exact ⟨rfl, _, rfl⟩) (fun P2 h2 => by
    rw [zlm]
    refine zm_count (by omega) (by rw [eK]; exact hC) (fun y y1 y5 => ⟨zIV_rk h y y1 y5, zrkN_lt _ _⟩) ?_
    rw [← zlm]
    exact h2 _ _ _ _ (zfin h))
  obtain ⟨x1, x2, x3, x4, x5, x6, x7, x8, x9⟩ := h.2.2.2.2.2.1
  obtain ⟨b1, b2, b3, b4⟩ := h.2.2.1.1
  obtain ⟨w1, w2, w3⟩ := h.2.2.1.2.2.2.2.2.2.2.1
  have w1 : κ.2.1 (9 + 7) 0 = K 19 := w1
  have w2 : κ.2.1 (9 + 7) 1 = K 71 := w2
  have w3 : κ.2.1 (9 + 7) 2 = K 72 := w3
  unfold zcntA at hp
  rw [eK] at hp
  refine zq_enter (cc := cX11_count) (nL := 2) (ret := (some .int)) cw_X11_count (by decide) rfl (Nat.le_of_ble_eq_true rfl) ?_
  refine at_iload_n dX11_count_0 rfl ?_
  rcases zsw (x := v) 14 (by decide) with ⟨j, hj, rfl⟩ | hv
  · rcases (show j = 0 ∨ j = 1 ∨ j = 2 ∨ j = 3 ∨ j = 4 ∨ j = 5 ∨ j = 6 ∨ j = 7 ∨ j = 8 ∨ j = 9 ∨ j = 10 ∨ j = 11 ∨ j = 12 ∨ j = 13 ∨ j = 14 by omega) with rfl | rfl | rfl | rfl | rfl | rfl | rfl | rfl | rfl | rfl | rfl | rfl | rfl | rfl | rfl
    · refine at_tableIn (tgt := 76) dX11_count_1 (by decide) (by decide) rfl (by decide) ?_
      rw [if_pos rfl, ← b1] at hp
      refine at_aload_n dX11_count_76 rfl ?_
      refine at_get dX11_count_77 fl_X11_12 (zl_o rfl) rfl ?_
      refine at_get dX11_count_80 fl_X11_288 (zl_q zQ9) rfl ?_
      refine at_iret dX11_count_83 rfl (by omega) (by omega) ?_
      exact hp
    · refine at_tableIn (tgt := 84) dX11_count_1 (by decide) (by decide) rfl (by decide) ?_
      rw [if_neg (by decide), if_pos rfl] at hp
      refine at_aload_n dX11_count_84 rfl ?_
      refine at_get dX11_count_85 fl_X11_12 (zl_o rfl) rfl ?_
      refine at_iconst dX11_count_88 (v := -1) rfl ?_
      refine at_callV1 (d := D - 1) dX11_count_89 mv_X11_273 (zl_q zQ9) (Nat.le_of_ble_eq_true rfl) (zq_r0 (by omega) (by omega) (by omega)) ?_
      refine zc_breakAt (by omega) zQ9 hN (zQc_O h.2.2.1 h.2.1) ?_
      refine at_iret dX11_count_92 rfl (by omega) (by omega) ?_
      exact hp
    · refine at_tableIn (tgt := 93) dX11_count_1 (by decide) (by decide) rfl (by decide) ?_
      rw [if_neg (by decide), if_neg (by decide), if_pos rfl, h.2.1.2.2.2.2.2.2.2.1.1, ← b2] at hp
      refine at_aload_n dX11_count_93 rfl ?_
      refine at_get dX11_count_94 fl_X11_12 (zl_o rfl) rfl ?_
      refine at_get dX11_count_97 fl_X11_300 (zl_q zQ9) rfl ?_
      refine at_iret dX11_count_100 rfl (by omega) (by omega) ?_
      exact hp
    · refine at_tableIn (tgt := 101) dX11_count_1 (by decide) (by decide) rfl (by decide) ?_
      rw [if_neg (by decide), if_neg (by decide), if_neg (by decide), if_pos rfl, h.2.1.2.2.2.2.2.2.2.2.1, ← b3] at hp
      refine at_aload_n dX11_count_101 rfl ?_
      refine at_get dX11_count_102 fl_X11_12 (zl_o rfl) rfl ?_
      refine at_get dX11_count_105 fl_X11_182 (zl_q zQ9) rfl ?_
      refine at_iret dX11_count_108 rfl (by omega) (by omega) ?_
      exact hp
    · refine at_tableIn (tgt := 109) dX11_count_1 (by decide) (by decide) rfl (by decide) ?_
      rw [if_neg (by decide), if_neg (by decide), if_neg (by decide), if_neg (by decide), if_pos rfl, h.2.2.2.1.2.1, ← h.2.2.2.1.2.2.2.2.1] at hp
      refine at_aload_n dX11_count_109 rfl ?_
      refine at_get dX11_count_110 fl_X11_29 (zl_o rfl) rfl ?_
      refine at_get dX11_count_113 fl_X11_238 (zl_o rfl) rfl ?_
      refine at_iret dX11_count_116 rfl (by omega) (by omega) ?_
      exact hp
    · refine at_tableIn (tgt := 117) dX11_count_1 (by decide) (by decide) rfl (by decide) ?_
      rw [if_neg (by decide), if_neg (by decide), if_neg (by decide), if_neg (by decide), if_neg (by decide), if_pos rfl, h.2.2.2.2.1.1, ← h.2.2.2.2.1.2.2.1] at hp
      refine at_aload_n dX11_count_117 rfl ?_
      refine at_get dX11_count_118 fl_X11_40 (zl_o rfl) rfl ?_
      refine at_iret dX11_count_121 rfl (by omega) (by omega) ?_
      exact hp
    · refine at_tableIn (tgt := 122) dX11_count_1 (by decide) (by decide) rfl (by decide) ?_
      rw [if_neg (by decide), if_neg (by decide), if_neg (by decide), if_neg (by decide), if_neg (by decide), if_neg (by decide), if_pos rfl, ← x5] at hp
      refine at_aload_n dX11_count_122 rfl ?_
      refine at_get dX11_count_123 fl_X11_82 (zl_o rfl) rfl ?_
      refine at_iload_n dX11_count_126 rfl ?_
      refine at_bipush dX11_count_127 (v := nI 6) (by decide) ?_
      refine at_isubN dX11_count_129 (by decide) ?_
      refine at_lald2 (a := 69) dX11_count_130 rfl rfl (by show _ < 5; omega) (by decide) ?_
      refine at_iret dX11_count_131 rfl (by omega) (by omega) ?_
      exact hp
    · refine at_tableIn (tgt := 122) dX11_count_1 (by decide) (by decide) rfl (by decide) ?_
      rw [if_neg (by decide), if_neg (by decide), if_neg (by decide), if_neg (by decide), if_neg (by decide), if_neg (by decide), if_neg (by decide), if_pos rfl, ← x6] at hp
      refine at_aload_n dX11_count_122 rfl ?_
      refine at_get dX11_count_123 fl_X11_82 (zl_o rfl) rfl ?_
      refine at_iload_n dX11_count_126 rfl ?_
      refine at_bipush dX11_count_127 (v := nI 6) (by decide) ?_
      refine at_isubN dX11_count_129 (by decide) ?_
      refine at_lald2 (a := 69) dX11_count_130 rfl rfl (by show _ < 5; omega) (by decide) ?_
      refine at_iret dX11_count_131 rfl (by omega) (by omega) ?_
      exact hp
    · refine at_tableIn (tgt := 122) dX11_count_1 (by decide) (by decide) rfl (by decide) ?_
      rw [if_neg (by decide), if_neg (by decide), if_neg (by decide), if_neg (by decide), if_neg (by decide), if_neg (by decide), if_neg (by decide), if_neg (by decide), if_pos rfl, ← x7] at hp
      refine at_aload_n dX11_count_122 rfl ?_
      refine at_get dX11_count_123 fl_X11_82 (zl_o rfl) rfl ?_
      refine at_iload_n dX11_count_126 rfl ?_
      refine at_bipush dX11_count_127 (v := nI 6) (by decide) ?_
      refine at_isubN dX11_count_129 (by decide) ?_
      refine at_lald2 (a := 69) dX11_count_130 rfl rfl (by show _ < 5; omega) (by decide) ?_
      refine at_iret dX11_count_131 rfl (by omega) (by omega) ?_
      exact hp
    · refine at_tableIn (tgt := 122) dX11_count_1 (by decide) (by decide) rfl (by decide) ?_
      rw [if_neg (by decide), if_neg (by decide), if_neg (by decide), if_neg (by decide), if_neg (by decide), if_neg (by decide), if_neg (by decide), if_neg (by decide), if_neg (by decide), if_pos rfl, ← x8] at hp
      refine at_aload_n dX11_count_122 rfl ?_
      refine at_get dX11_count_123 fl_X11_82 (zl_o rfl) rfl ?_
      refine at_iload_n dX11_count_126 rfl ?_
      refine at_bipush dX11_count_127 (v := nI 6) (by decide) ?_
      refine at_isubN dX11_count_129 (by decide) ?_
      refine at_lald2 (a := 69) dX11_count_130 rfl rfl (by show _ < 5; omega) (by decide) ?_
      refine at_iret dX11_count_131 rfl (by omega) (by omega) ?_
      exact hp
    · refine at_tableIn (tgt := 122) dX11_count_1 (by decide) (by decide) rfl (by decide) ?_
      rw [if_neg (by decide), if_neg (by decide), if_neg (by decide), if_neg (by decide), if_neg (by decide), if_neg (by decide), if_neg (by decide), if_neg (by decide), if_neg (by decide), if_neg (by decide), if_pos rfl, ← x9] at hp
      refine at_aload_n dX11_count_122 rfl ?_
      refine at_get dX11_count_123 fl_X11_82 (zl_o rfl) rfl ?_
      refine at_iload_n dX11_count_126 rfl ?_
      refine at_bipush dX11_count_127 (v := nI 6) (by decide) ?_
      refine at_isubN dX11_count_129 (by decide) ?_
      refine at_lald2 (a := 69) dX11_count_130 rfl rfl (by show _ < 5; omega) (by decide) ?_
      refine at_iret dX11_count_131 rfl (by omega) (by omega) ?_
      exact hp
    · refine at_tableIn (tgt := 132) dX11_count_1 (by decide) (by decide) rfl (by decide) ?_
      rw [if_neg (by decide), if_neg (by decide), if_neg (by decide), if_neg (by decide), if_neg (by decide), if_neg (by decide), if_neg (by decide), if_neg (by decide), if_neg (by decide), if_neg (by decide), if_neg (by decide), if_pos rfl, ← b4] at hp
      refine at_aload_n dX11_count_132 rfl ?_
      refine at_get dX11_count_133 fl_X11_12 (zl_o rfl) rfl ?_
      refine at_get dX11_count_136 fl_X11_219 (zl_q zQ9) rfl ?_
      refine at_iret dX11_count_139 rfl (by omega) (by omega) ?_
      exact hp
    · refine at_tableIn (tgt := 140) dX11_count_1 (by decide) (by decide) rfl (by decide) ?_
      rw [if_neg (by decide), if_neg (by decide), if_neg (by decide), if_neg (by decide), if_neg (by decide), if_neg (by decide), if_neg (by decide), if_neg (by decide), if_neg (by decide), if_neg (by decide), if_neg (by decide), if_neg (by decide), if_pos rfl, ← w1] at hp
      refine at_aload_n dX11_count_140 rfl ?_
      refine at_get dX11_count_141 fl_X11_12 (zl_o rfl) rfl ?_
      refine at_get dX11_count_144 fl_X11_172 (zl_q zQ9) rfl ?_
      refine at_iload_n dX11_count_147 rfl ?_
      refine at_bipush dX11_count_148 (v := nI 12) (by decide) ?_
      refine at_isubN dX11_count_150 (by decide) ?_
      refine at_uld (b := 9) (c := 7) dX11_count_151 zQ9 (by decide) (by decide) rfl (by show _ < 3; omega) ?_
      refine at_iret dX11_count_152 rfl (by omega) (by omega) ?_
      exact hp
    · refine at_tableIn (tgt := 140) dX11_count_1 (by decide) (by decide) rfl (by decide) ?_
      rw [if_neg (by decide), if_neg (by decide), if_neg (by decide), if_neg (by decide), if_neg (by decide), if_neg (by decide), if_neg (by decide), if_neg (by decide), if_neg (by decide), if_neg (by decide), if_neg (by decide), if_neg (by decide), if_neg (by decide), if_pos rfl, ← w2] at hp
      refine at_aload_n dX11_count_140 rfl ?_
      refine at_get dX11_count_141 fl_X11_12 (zl_o rfl) rfl ?_
      refine at_get dX11_count_144 fl_X11_172 (zl_q zQ9) rfl ?_
      refine at_iload_n dX11_count_147 rfl ?_
      refine at_bipush dX11_count_148 (v := nI 12) (by decide) ?_
      refine at_isubN dX11_count_150 (by decide) ?_
      refine at_uld (b := 9) (c := 7) dX11_count_151 zQ9 (by decide) (by decide) rfl (by show _ < 3; omega) ?_
      refine at_iret dX11_count_152 rfl (by omega) (by omega) ?_
      exact hp
    · refine at_tableIn (tgt := 140) dX11_count_1 (by decide) (by decide) rfl (by decide) ?_
      rw [if_neg (by decide), if_neg (by decide), if_neg (by decide), if_neg (by decide), if_neg (by decide), if_neg (by decide), if_neg (by decide), if_neg (by decide), if_neg (by decide), if_neg (by decide), if_neg (by decide), if_neg (by decide), if_neg (by decide), if_neg (by decide), if_pos rfl, ← w3] at hp
      refine at_aload_n dX11_count_140 rfl ?_
      refine at_get dX11_count_141 fl_X11_12 (zl_o rfl) rfl ?_
      refine at_get dX11_count_144 fl_X11_172 (zl_q zQ9) rfl ?_
      refine at_iload_n dX11_count_147 rfl ?_
      refine at_bipush dX11_count_148 (v := nI 12) (by decide) ?_
      refine at_isubN dX11_count_150 (by decide) ?_
      refine at_uld (b := 9) (c := 7) dX11_count_151 zQ9 (by decide) (by decide) rfl (by show _ < 3; omega) ?_
      refine at_iret dX11_count_152 rfl (by omega) (by omega) ?_
      exact hp
  · refine at_tableOut (tgt := 153) dX11_count_1 hv (by decide) ?_
    rw [if_neg (zsw_ne hv (by decide) (by decide)), if_neg (zsw_ne hv (by decide) (by decide)), if_neg (zsw_ne hv (by decide) (by decide)), if_neg (zsw_ne hv (by decide) (by decide)), if_neg (zsw_ne hv (by decide) (by decide)), if_neg (zsw_ne hv (by decide) (by decide)), if_neg (zsw_ne hv (by decide) (by decide)), if_neg (zsw_ne hv (by decide) (by decide)), if_neg (zsw_ne hv (by decide) (by decide)), if_neg (zsw_ne hv (by decide) (by decide)), if_neg (zsw_ne hv (by decide) (by decide)), if_neg (zsw_ne hv (by decide) (by decide)), if_neg (zsw_ne hv (by decide) (by decide)), if_neg (zsw_ne hv (by decide) (by decide)), if_neg (zsw_ne hv (by decide) (by decide))] at hp
    refine at_iconst dX11_count_153 (v := -1) rfl ?_
    refine at_iret dX11_count_154 rfl (by omega) (by omega) ?_
    exact hp
end ZK6

