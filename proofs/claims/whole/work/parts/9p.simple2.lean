/-! ===== calls on both sides: taught, heard, in force ===== -/
section ZK13
variable {l : Launch} {G : zq_G} {D n b : Nat} {κ κ' : zl_S} {σ τ : zm_S} {ρ : Nat → zq_E} {K K' : Nat → Int32} {m hn t z : Nat} {Ls : Nat → List zLC} {Λ Λ' : List Nat} {Lo : Option (List zLC)} {post : Option Value → Nat → (Nat → zq_E) → Prop}
theorem zKW_g {hn' t' : Nat} {Ls' : Nat → List zLC} (h : zKW K m hn t Ls) (e : ∀ j, j < 19 → K' j = K j) (e73 : K' 73 = K 73) (h19 : ∃ d, d ≤ 999 ∧ K' 19 = nI d) (h71 : ∃ s, s ≤ 10 ∧ K' 71 = nI s) (h72 : ∃ q, q ≤ 9 ∧ K' 72 = nI q)
    (hsd : ∀ p y, p < m → 1 ≤ y → y ≤ 5 → K' (20 + 5 * p + y - 1) = nI (sdK K' p y) ∧ 1 ≤ sdK K' p y ∧ sdK K' p y ≤ 5)
    (hh : K' 74 = nI hn' ∧ hn' ≤ 8 ∧ ∀ i, i < hn' → K' (55 + 2 * i) = nI (haK K' i) ∧ K' (55 + 2 * i + 1) = nI (hbK K' i) ∧ haK K' i < m ∧ hbK K' i < m)
    (hl : K' 75 = nI t' ∧ t' ≤ 6 ∧ (K' 76 = -1 ∨ ∃ u, u < t' ∧ K' 76 = nI u) ∧ ∀ u, u < t' → zLawAt K' u (Ls' u)) : zKW K' m hn' t' Ls' := by
  have hm := h.1.2.1
  exact ⟨zCk_hi h.1 e73 (fun j hj => e j (by omega)), (zAl_c h.2.1 (fun k hk => e _ (by omega))).1, zInj_c h.2.2.1 (fun k hk => e _ (by omega)), h19, h71, h72, hsd, hh, hl⟩
theorem zKW_sd (h : zKW K m hn t Ls) (e : ∀ j, 20 ≤ j → j < 55 → K' j = K j) : ∀ p y, p < m → 1 ≤ y → y ≤ 5 → K' (20 + 5 * p + y - 1) = nI (sdK K' p y) ∧ 1 ≤ sdK K' p y ∧ sdK K' p y ≤ 5 := by
  intro p y hp y1 y5
  have hm := h.1.2.1
  unfold sdK
  rw [e _ (by omega) (by omega)]
  exact h.2.2.2.2.2.2.1 p y hp y1 y5
theorem zKW_hh (h : zKW K m hn t Ls) (e : ∀ j, 55 ≤ j → j < 71 → K' j = K j) (e74 : K' 74 = K 74) : K' 74 = nI hn ∧ hn ≤ 8 ∧ ∀ i, i < hn → K' (55 + 2 * i) = nI (haK K' i) ∧ K' (55 + 2 * i + 1) = nI (hbK K' i) ∧ haK K' i < m ∧ hbK K' i < m := by
  obtain ⟨g1, g2, g3⟩ := h.2.2.2.2.2.2.2.1
  refine ⟨e74.trans g1, g2, fun i hi => ?_⟩
  unfold haK hbK
  rw [e _ (by omega) (by omega), e _ (by omega) (by omega)]
  exact g3 i hi
theorem zKW_ll (h : zKW K m hn t Ls) (e : ∀ j, 75 ≤ j → K' j = K j) : K' 75 = nI t ∧ t ≤ 6 ∧ (K' 76 = -1 ∨ ∃ u, u < t ∧ K' 76 = nI u) ∧ ∀ u, u < t → zLawAt K' u (Ls u) := by
  obtain ⟨g4, g5, g6, g7⟩ := h.2.2.2.2.2.2.2.2
  exact ⟨(e 75 (by decide)).trans g4, g5, by rw [e 76 (by decide)]; exact g6, fun u hu => zLawAt_c (g7 u hu) (fun j hj => e j (by omega))⟩
theorem zIV_LG (h : zIV n κ σ ρ K m hn t z Ls Λ) (e : ∀ j, j < 20 → K' j = K j) (k43 : κ'.1 43 = κ.1 43) (k44 : κ'.2.1 44 = κ.2.1 44) (s44 : τ.1 44 = σ.1 44) (s94 : τ.2.1 94 = σ.2.1 94) : zLG κ' τ K' m Λ := by
  obtain ⟨a1, a2, a3, a4, a5, a6⟩ := h.2.2.2.1
  obtain ⟨r1, r2⟩ := zUL_20 h.2.1.1.2.1 e a4 a3
  exact ⟨a1, s44.trans a2, by rw [s94]; exact r1, r2, by rw [k43]; exact a5, by rw [k44]; exact a6⟩
theorem zLG_0 (m : Nat) (k43 : κ'.1 43 0 = nI 0) (s44 : τ.1 44 = 0) : zLG κ' τ K' m [] := ⟨Nat.zero_le _, s44, trivial, trivial, k43, fun i hi => absurd hi (Nat.not_lt_zero _)⟩
theorem zk_says {p h' y : Int32} (hD : 88 ≤ D) (h : zIV n κ σ ρ K m hn t z Ls Λ) : zCase l G D 0 0 yX11_says yX12_says [.int p, .int h', .int y] n κ σ ρ := by
  intro P1 h1
  have hm7 := h.2.1.1.2.1
  have eK := h.1.2.2.1
  have hm : σ.2.1 72 73 = nI m := by rw [eK]; exact h.2.1.1.1
  cases e : zlies 1 5 h' && zlies 1 5 y with
  | false =>
    have hp := h1 (.int (-(nI 1))) n (zl_h (zlref κ 1) (zm_h σ ρ)) (by exact ⟨rfl, _, rfl⟩) (fun P2 h2 => by
      rw [zlm]
      refine zm_says (by omega) hm hm7 (fun _ => ?_) (fun f => ?_) (fun j a b hj a1 a5 b1 b5 ej ea eb => ?_)
      · rw [← zlm]
        exact h2 _ _ _ _ (zfin (zIV_ref h (by omega)))
      · rw [show ((decide (nI 1 ≤ h') && decide (h' ≤ nI 5)) && (decide (nI 1 ≤ y) && decide (y ≤ nI 5))) = false from e] at f; cases f
      · rw [ea, eb, zlies_i (by decide) (by decide) a1 a5, zlies_i (by decide) (by decide) b1 b5] at e; cases e)
    refine zq_enter (cc := cX11_says) (nL := 5) (ret := (some .int)) cw_X11_says (by decide) rfl (Nat.le_of_ble_eq_true rfl) ?_
    refine at_iload_n dX11_says_0 rfl ?_
    refine at_callS1 (d := D - 1) dX11_says_1 ms_X11_147 (Nat.le_of_ble_eq_true rfl) (zq_r0 (by omega) (by omega) (by omega)) ?_
    refine zc_isLetter ?_
    refine at_if_eqB (tgt := 14) dX11_says_4 (by decide) (fun c4 => ?_) (fun c4 => ?_)
    · refine at_aload_n dX11_says_14 rfl ?_
      refine at_iconst dX11_says_15 (v := -1) rfl ?_
      refine at_callV1 (d := D - 1) dX11_says_16 mv_X11_103 (zl_o rfl) (Nat.le_of_ble_eq_true rfl) (zq_r0 (by omega) (by omega) (by omega)) ?_
      refine zc_refuse (q := 1) (by omega) ?_
      refine at_iret dX11_says_19 rfl (by omega) (by omega) ?_
      exact hp
    · refine at_iload_n dX11_says_7 rfl ?_
      refine at_callS1 (d := D - 1) dX11_says_8 ms_X11_147 (Nat.le_of_ble_eq_true rfl) (zq_r0 (by omega) (by omega) (by omega)) ?_
      refine zc_isLetter ?_
      refine at_if_neB (tgt := 20) dX11_says_11 (by decide) (fun c11 => ?_) (fun c11 => ?_)
      · exact absurd e (by rw [c4, c11]; decide)
      · refine at_aload_n dX11_says_14 rfl ?_
        refine at_iconst dX11_says_15 (v := -1) rfl ?_
        refine at_callV1 (d := D - 1) dX11_says_16 mv_X11_103 (zl_o rfl) (Nat.le_of_ble_eq_true rfl) (zq_r0 (by omega) (by omega) (by omega)) ?_
        refine zc_refuse (q := 1) (by omega) ?_
        refine at_iret dX11_says_19 rfl (by omega) (by omega) ?_
        exact hp
  | true =>
    have e' := e
    rw [Bool.and_eq_true] at e'
    cases ep : zix m p with
    | false =>
      have hp := h1 (.int (-(nI 2))) n (zl_h (zlref κ 2) (zm_h σ ρ)) (by exact ⟨rfl, _, rfl⟩) (fun P2 h2 => by
        rw [zlm]
        refine zm_says (by omega) hm hm7 (fun f => ?_) (fun _ _ => ?_) (fun j a b hj a1 a5 b1 b5 ej ea eb => ?_)
        · rw [show ((decide (nI 1 ≤ h') && decide (h' ≤ nI 5)) && (decide (nI 1 ≤ y) && decide (y ≤ nI 5))) = true from e] at f; cases f
        · rw [← zlm]
          exact h2 _ _ _ _ (zfin (zIV_ref h (by omega)))
        · rw [ej, zix_n (by omega), decide_eq_true hj] at ep; cases ep)
      refine zq_enter (cc := cX11_says) (nL := 5) (ret := (some .int)) cw_X11_says (by decide) rfl (Nat.le_of_ble_eq_true rfl) ?_
      refine at_iload_n dX11_says_0 rfl ?_
      refine at_callS1 (d := D - 1) dX11_says_1 ms_X11_147 (Nat.le_of_ble_eq_true rfl) (zq_r0 (by omega) (by omega) (by omega)) ?_
      refine zc_isLetter ?_
      rw [e'.1]
      refine at_if_eqB (tgt := 14) dX11_says_4 (by decide) (fun c4 => ?_) (fun c4 => ?_)
      · cases c4
      · refine at_iload_n dX11_says_7 rfl ?_
        refine at_callS1 (d := D - 1) dX11_says_8 ms_X11_147 (Nat.le_of_ble_eq_true rfl) (zq_r0 (by omega) (by omega) (by omega)) ?_
        refine zc_isLetter ?_
        rw [e'.2]
        refine at_if_neB (tgt := 20) dX11_says_11 (by decide) (fun c11 => ?_) (fun c11 => ?_)
        · refine at_aload_n dX11_says_20 rfl ?_
          refine at_get dX11_says_21 fl_X11_12 (zl_o rfl) rfl ?_
          refine at_iload_n dX11_says_24 rfl ?_
          refine at_callV1 (d := D - 1) dX11_says_25 mv_X11_120 (zl_q zQ9) (Nat.le_of_ble_eq_true rfl) (zq_r0 (by omega) (by omega) (by omega)) ?_
          refine zc_has zQ9 h.2.2.1.1.1 hm7 ?_
          rw [ep]
          refine at_if_neB (tgt := 38) dX11_says_28 (by decide) (fun c28 => ?_) (fun c28 => ?_)
          · cases c28
          · refine at_aload_n dX11_says_31 rfl ?_
            refine at_bipush dX11_says_32 (v := -2) (by decide) ?_
            refine at_callV1 (d := D - 1) dX11_says_34 mv_X11_103 (zl_o rfl) (Nat.le_of_ble_eq_true rfl) (zq_r0 (by omega) (by omega) (by omega)) ?_
            refine zc_refuse (q := 2) (by omega) ?_
            refine at_iret dX11_says_37 rfl (by omega) (by omega) ?_
            exact hp
        · cases c11
    | true =>
      obtain ⟨j, hj, rfl⟩ := zix_t ep
      obtain ⟨a, a1, a5, rfl⟩ := zlies_t (by decide) (by decide) e'.1
      obtain ⟨b, b1, b5, rfl⟩ := zlies_t (by decide) (by decide) e'.2
      have ea : 20 + 5 * j + a - 1 = 20 + (5 * j + a - 1) := by omega
      have hrow : κ.2.1 (9 + 4) (5 * j + a - 1) = K (20 + (5 * j + a - 1)) := h.2.2.1.2.2.2.2.1 _ (by omega)
      have ko : ∀ q, q ≠ 20 + (5 * j + a - 1) → upd K (20 + (5 * j + a - 1)) (nI b) q = K q := fun q hq => upd_o _ hq _
      have hKW : zKW (upd K (20 + (5 * j + a - 1)) (nI b)) m hn t Ls := by
        refine zKW_g h.2.1 (fun q hq => ko q (by omega)) (ko 73 (by omega)) ?_ ?_ ?_ (fun p' y' hp' y1 y5 => ?_) (zKW_hh h.2.1 (fun q q1 q2 => ko q (by omega)) (ko 74 (by omega))) (zKW_ll h.2.1 (fun q hq => ko q (by omega)))
        · rw [ko 19 (by omega)]; exact h.2.1.2.2.2.1
        · rw [ko 71 (by omega)]; exact h.2.1.2.2.2.2.1
        · rw [ko 72 (by omega)]; exact h.2.1.2.2.2.2.2.1
        · unfold sdK
          by_cases g : 20 + 5 * p' + y' - 1 = 20 + (5 * j + a - 1)
          · rw [g, upd_s, nI_clamp (by omega)]; exact ⟨rfl, b1, b5⟩
          · rw [ko _ g]; exact h.2.1.2.2.2.2.2.2.1 p' y' hp' y1 y5
      have hp := h1 (.int (K (20 + (5 * j + a - 1)))) n (zl_h (zl_si (zl_sa κ (9 + 4) (5 * j + a - 1) (nI b)) 8 18 (nI 0)) (zm_h σ ρ)) (by exact ⟨rfl, _, rfl⟩) (fun P2 h2 => by
        rw [zlm]
        refine zm_says (by omega) hm hm7 (fun f => ?_) (fun _ f => ?_) (fun j' a' b' hj' a1' a5' b1' b5' ej ea' eb => ?_)
        · rw [show ((decide (nI 1 ≤ nI a) && decide (nI a ≤ nI 5)) && (decide (nI 1 ≤ nI b) && decide (nI b ≤ nI 5))) = true from e] at f; cases f
        · rw [ep] at f; cases f
        · rw [show j' = j from ((nI_eq (by omega) (by omega)).mp ej).symm, show a' = a from ((nI_eq (by omega) (by omega)).mp ea').symm, show b' = b from ((nI_eq (by omega) (by omega)).mp eb).symm, eK, ea, ← zlm]
          refine h2 _ _ _ _ (zfin (zIV_acc (zIV_mk (κ' := zl_sa κ (9 + 4) (5 * j + a - 1) (nI b)) (τ := zsK σ (upd K (20 + (5 * j + a - 1)) (nI b))) h hKW (zQc_say h.2.2.1 hm7 (by omega)) (zIV_LG h (fun q hq => ko q (by omega)) rfl (zla_o _ (by decide) _ _) rfl (zsA_o _ (by decide) _)) (zsK_k _ _) (fun y y1 y5 => ?_) rfl rfl (fun q hq => zla_o _ (by omega) _ _) (congrFun (zla_o _ (by decide) _ _) 0) rfl (fun _ _ => rfl) (fun q hq => zsA_o _ (by omega) _))))
          rw [show (zsK σ (upd K (20 + (5 * j + a - 1)) (nI b))).2.1 76 = σ.2.1 76 from zsA_o _ (by decide) _, zrkK_c (fun q hq => ko _ (by omega))]
          exact zIV_rk h y y1 y5)
      rw [← hrow] at hp
      refine zq_enter (cc := cX11_says) (nL := 5) (ret := (some .int)) cw_X11_says (by decide) rfl (Nat.le_of_ble_eq_true rfl) ?_
      refine at_iload_n dX11_says_0 rfl ?_
      refine at_callS1 (d := D - 1) dX11_says_1 ms_X11_147 (Nat.le_of_ble_eq_true rfl) (zq_r0 (by omega) (by omega) (by omega)) ?_
      refine zc_isLetter ?_
      rw [e'.1]
      refine at_if_eqB (tgt := 14) dX11_says_4 (by decide) (fun c4 => ?_) (fun c4 => ?_)
      · cases c4
      · refine at_iload_n dX11_says_7 rfl ?_
        refine at_callS1 (d := D - 1) dX11_says_8 ms_X11_147 (Nat.le_of_ble_eq_true rfl) (zq_r0 (by omega) (by omega) (by omega)) ?_
        refine zc_isLetter ?_
        rw [e'.2]
        refine at_if_neB (tgt := 20) dX11_says_11 (by decide) (fun c11 => ?_) (fun c11 => ?_)
        · refine at_aload_n dX11_says_20 rfl ?_
          refine at_get dX11_says_21 fl_X11_12 (zl_o rfl) rfl ?_
          refine at_iload_n dX11_says_24 rfl ?_
          refine at_callV1 (d := D - 1) dX11_says_25 mv_X11_120 (zl_q zQ9) (Nat.le_of_ble_eq_true rfl) (zq_r0 (by omega) (by omega) (by omega)) ?_
          refine zc_has zQ9 h.2.2.1.1.1 hm7 ?_
          rw [ep]
          refine at_if_neB (tgt := 38) dX11_says_28 (by decide) (fun c28 => ?_) (fun c28 => ?_)
          · refine at_aload_n dX11_says_38 rfl ?_
            refine at_get dX11_says_39 fl_X11_12 (zl_o rfl) rfl ?_
            refine at_iload_n dX11_says_42 rfl ?_
            refine at_iload_n dX11_says_43 rfl ?_
            refine at_callV2 (d := D - 1) dX11_says_44 mv_X11_158 (zl_q zQ9) (Nat.le_of_ble_eq_true rfl) (zq_r0 (by omega) (by omega) (by omega)) ?_
            refine zc_said (by omega) zQ9 h.2.2.1.1.1 hm7 hj a1 a5 ?_
            refine at_istore dX11_says_47 (by decide) ?_
            refine at_aload_n dX11_says_49 rfl ?_
            refine at_get dX11_says_50 fl_X11_12 (zl_o rfl) rfl ?_
            refine at_iload_n dX11_says_53 rfl ?_
            refine at_iload_n dX11_says_54 rfl ?_
            refine at_iload_n dX11_says_55 rfl ?_
            refine at_callV3 (d := D - 1) dX11_says_56 mv_X11_161 (zl_q zQ9) (Nat.le_of_ble_eq_true rfl) (zq_r0 (by omega) (by omega) (by omega)) ?_
            refine zc_teach (by omega) zQ9 h.2.2.1.1.1 hm7 hj a1 a5 ?_
            refine at_aload_n dX11_says_59 rfl ?_
            refine at_iload dX11_says_60 rfl ?_
            refine at_callV1 (d := D - 1) dX11_says_62 mv_X11_117 (zl_o rfl) (Nat.le_of_ble_eq_true rfl) (zq_r0 (by omega) (by omega) (by omega)) ?_
            refine zc_accept ?_
            refine at_iret dX11_says_65 rfl (by omega) (by omega) ?_
            exact hp
          · cases c28
        · cases c11
end ZK13

