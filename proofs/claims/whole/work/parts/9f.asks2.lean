/-! ===== calls on both sides: what is only asked, of people ===== -/
theorem zKf_54 {κ' κ : zl_S} (h : zKf κ' κ) (a g : Nat → Int32) : zKf (zl_sA (zl_sA κ' 55 g) 54 a) κ := zKf_A (a := 54) (zKf_A (a := 55) h g (by decide)) a (by decide)
section ZK3
variable {l : Launch} {G : zq_G} {D n : Nat} {κ : zl_S} {σ : zm_S} {ρ : Nat → zq_E} {K : Nat → Int32} {m hn t z : Nat} {Ls : Nat → List zLC} {Λ : List Nat}
theorem zc_from_loop {y : Nat} {P1 : Option Value → Nat → (Nat → zq_E) → Prop} {sd : Nat → Nat → Nat} {x w : Nat → Nat} (hD : 3 ≤ D) (hN : zQN κ 9 m x w) (hS : zQS κ 9 m sd) (hy : y < 2147483648) (hw : ∀ u, 1 ≤ u → u ≤ 5 → zwh w sd m 0 u ≤ 5) : ∀ k u s : Nat, u + k = 6 → 1 ≤ u → P1 (some (.int (nI (zfrF (zwh w sd m 0) y k u s)))) n (zl_h κ ρ) → zq_At l G (zq_rm D 0 0) mX11_from (zq_QF G P1 0 0) 13 [(0, .ref 8), (1, .int (nI y)), (2, .int (nI s)), (3, .int (nI u))] [] n (zl_h κ ρ) 0 0 := by
  intro k
  induction k with
  | zero =>
    intro u s hu h1 hp
    obtain rfl : u = 6 := hu
    refine at_iload_n dX11_from_13 rfl ?_
    refine at_iconst dX11_from_14 (v := nI 5) (by decide) ?_
    refine at_gtN (tgt := 44) dX11_from_15 (by decide) (by omega) (by omega) (fun c15 => ?_) (fun c15 => ?_)
    · refine at_iload_n dX11_from_44 rfl ?_
      refine at_iret dX11_from_45 rfl (by omega) (by omega) ?_
      exact hp
    · omega
  | succ k ih =>
    intro u s hu h1 hp
    have hin := hw u h1 (by omega)
    unfold zfrF at hp
    refine at_iload_n dX11_from_13 rfl ?_
    refine at_iconst dX11_from_14 (v := nI 5) (by decide) ?_
    refine at_gtN (tgt := 44) dX11_from_15 (by decide) (by omega) (by omega) (fun c15 => ?_) (fun c15 => ?_)
    · omega
    · refine at_aload_n dX11_from_18 rfl ?_
      refine at_get dX11_from_19 fl_X11_12 (zl_o rfl) rfl ?_
      refine at_iload_n dX11_from_22 rfl ?_
      refine at_callV1 (d := D - 1) dX11_from_23 mv_X11_324 (zl_q zQ9) (Nat.le_of_ble_eq_true rfl) (zq_r0 (by omega) (by omega) (by omega)) ?_
      refine zc_toldAlong (by omega) zQ9 hN hS h1 (by omega) ?_
      refine at_iload_n dX11_from_26 rfl ?_
      refine at_neN (tgt := 38) dX11_from_27 (by decide) (by omega) (by omega) (fun c27 => ?_) (fun c27 => ?_)
      · rw [if_neg c27, Nat.or_zero] at hp
        have hn := ih (u + 1) _ (by omega) (by omega) hp
        refine at_iincN dX11_from_38 rfl (by decide) ?_
        refine at_goto (tgt := 13) dX11_from_41 (by decide) ?_
        exact hn
      · rw [if_pos c27] at hp
        have hn := ih (u + 1) _ (by omega) (by omega) hp
        refine at_iload_n dX11_from_30 rfl ?_
        refine at_iconst dX11_from_31 (v := nI 1) (by decide) ?_
        refine at_iload_n dX11_from_32 rfl ?_
        refine at_iconst dX11_from_33 (v := nI 1) (by decide) ?_
        refine at_isubN dX11_from_34 (by omega) ?_
        refine at_ishl dX11_from_35 ?_
        rw [zshl1 (by omega)]
        refine at_ior dX11_from_36 ?_
        rw [zor]
        refine at_istore_n dX11_from_37 rfl (by decide) ?_
        refine at_iincN dX11_from_38 rfl (by decide) ?_
        refine at_goto (tgt := 13) dX11_from_41 (by decide) ?_
        exact hn
theorem zk_from {v : Int32} (hD : 88 ≤ D) (h : zIV n κ σ ρ K m hn t z Ls Λ) : zCase l G D 0 0 yX11_from yX12_from [.int v] n κ σ ρ := by
  intro P1 h1
  cases e : zlies 1 5 v with
  | false =>
    have hp := h1 (.int (-1)) n (zl_h κ (zm_h σ ρ)) (by exact ⟨rfl, _, rfl⟩) (fun P2 h2 => by
      rw [zlm]
      refine zm_from (by omega) (zIV_C h) (zIV_Sd h) (fun _ => ?_) (fun y y1 y5 ey => ?_)
      · rw [← zlm]
        exact h2 _ _ _ _ (zfin h)
      · rw [ey, zlies_i (by decide) (by decide) y1 y5] at e; cases e)
    refine zq_enter (cc := cX11_from) (nL := 4) (ret := (some .int)) cw_X11_from (by decide) rfl (Nat.le_of_ble_eq_true rfl) ?_
    refine at_iload_n dX11_from_0 rfl ?_
    refine at_callS1 (d := D - 1) dX11_from_1 ms_X11_147 (Nat.le_of_ble_eq_true rfl) (zq_r0 (by omega) (by omega) (by omega)) ?_
    refine zc_isLetter ?_
    rw [e]
    refine at_if_neB (tgt := 9) dX11_from_4 (by decide) (fun c4 => ?_) (fun c4 => ?_)
    · cases c4
    · refine at_iconst dX11_from_7 (v := -1) rfl ?_
      refine at_iret dX11_from_8 rfl (by omega) (by omega) ?_
      exact hp
  | true =>
    obtain ⟨y, y1, y5, rfl⟩ := zlies_t (by decide) (by decide) e
    have hp := h1 (.int (nI (zfrF (zwh (zW1 K) (sdK K) m 0) y 5 1 0))) n (zl_h κ (zm_h σ ρ)) (by exact ⟨rfl, _, rfl⟩) (fun P2 h2 => by
      rw [zlm]
      refine zm_from (by omega) (zIV_C h) (zIV_Sd h) (fun f => ?_) (fun y' a1 a5 ey => ?_)
      · rw [show (decide (nI 1 ≤ nI y) && decide (nI y ≤ nI 5)) = true from e] at f; cases f
      · rw [show y' = y from ((nI_eq (by omega) (by omega)).mp ey).symm, ← zlm]
        exact h2 _ _ _ _ (zfin h))
    have hlp := zc_from_loop (l := l) (G := G) (D := D) (n := n) (κ := κ) (ρ := zm_h σ ρ) (P1 := P1) (by omega) (zQc_N h.2.2.1 h.2.1) (zQc_S h.2.2.1 h.2.1) (y := y) (by omega) (fun u u1 u5 => (zwh_in (zIV_Sd h) (fun k hk => (h.2.1.1.2.2.2 k hk).2) m 0 u (by omega) u1 u5).2) 5 1 0 rfl (Nat.le_refl _) hp
    refine zq_enter (cc := cX11_from) (nL := 4) (ret := (some .int)) cw_X11_from (by decide) rfl (Nat.le_of_ble_eq_true rfl) ?_
    refine at_iload_n dX11_from_0 rfl ?_
    refine at_callS1 (d := D - 1) dX11_from_1 ms_X11_147 (Nat.le_of_ble_eq_true rfl) (zq_r0 (by omega) (by omega) (by omega)) ?_
    refine zc_isLetter ?_
    rw [e]
    refine at_if_neB (tgt := 9) dX11_from_4 (by decide) (fun c4 => ?_) (fun c4 => ?_)
    · refine at_iconst dX11_from_9 (v := nI 0) (by decide) ?_
      refine at_istore_n dX11_from_10 rfl (by decide) ?_
      refine at_iconst dX11_from_11 (v := nI 1) (by decide) ?_
      refine at_istore_n dX11_from_12 rfl (by decide) ?_
      exact hlp
    · cases c4
theorem zk_drawn {p v : Int32} (hD : 88 ≤ D) (h : zIV n κ σ ρ K m hn t z Ls Λ) : zCase l G D 0 0 yX11_drawn yX12_drawn [.int p, .int v] n κ σ ρ := by
  intro P1 h1
  obtain ⟨M, M7, M1, M2, M3⟩ := h.2.2.2.2.2.2.1
  have h53 : (σ.1 53 = -1 ∧ M = 0) ∨ (σ.1 53 = nI M ∧ M ≤ 7) := M1.elim Or.inl (fun e => Or.inr ⟨e, M7⟩)
  cases e : zix M p with
  | false =>
    have hp := h1 (.int (-1)) n (zl_h κ (zm_h σ ρ)) (by exact ⟨rfl, _, rfl⟩) (fun P2 h2 => by
      rw [zlm]
      refine zm_drawn (by omega) h53 (fun _ => ?_) (fun j hj ej _ => ?_) (fun j hj ej _ => ?_)
      · rw [← zlm]
        exact h2 _ _ _ _ (zfin h)
      · rw [ej, zix_n (by omega), decide_eq_true hj] at e; cases e
      · rw [ej, zix_n (by omega), decide_eq_true hj] at e; cases e)
    refine zq_enter (cc := cX11_drawn) (nL := 3) (ret := (some .int)) cw_X11_drawn (by decide) rfl (Nat.le_of_ble_eq_true rfl) ?_
    refine at_aload_n dX11_drawn_0 rfl ?_
    refine at_get dX11_drawn_1 fl_X11_23 (zl_o rfl) rfl ?_
    refine at_iload_n dX11_drawn_4 rfl ?_
    refine at_callV1 (d := D - 1) dX11_drawn_5 mv_X11_120 (zl_q zQ32) (Nat.le_of_ble_eq_true rfl) (zq_r0 (by omega) (by omega) (by omega)) ?_
    refine zc_has zQ32 M2 M7 ?_
    rw [e]
    refine at_if_neB (tgt := 13) dX11_drawn_8 (by decide) (fun c8 => ?_) (fun c8 => ?_)
    · cases c8
    · refine at_iconst dX11_drawn_11 (v := -1) rfl ?_
      refine at_iret dX11_drawn_12 rfl (by omega) (by omega) ?_
      exact hp
  | true =>
    obtain ⟨j, hj, rfl⟩ := zix_t e
    have hx : κ.2.1 (32 + 1) j = σ.2.1 97 j := (M3 j hj).1
    have hy : κ.2.1 (32 + 3) j = zplace (σ.2.1 97) (nI j) M := (M3 j hj).2
    by_cases v0 : v = nI 0
    · subst v0
      have hp := h1 (.int (σ.2.1 97 j)) n (zl_h κ (zm_h σ ρ)) (by exact ⟨rfl, _, rfl⟩) (fun P2 h2 => by
        rw [zlm]
        refine zm_drawn (by omega) h53 (fun f => ?_) (fun j' hj' ej _ => ?_) (fun j' hj' ej f => absurd f (by decide))
        · rw [e] at f; exact absurd f (by decide)
        · rw [show j' = j from ((nI_eq (by omega) (by omega)).mp ej).symm, ← zlm]
          exact h2 _ _ _ _ (zfin h))
      rw [← hx] at hp
      refine zq_enter (cc := cX11_drawn) (nL := 3) (ret := (some .int)) cw_X11_drawn (by decide) rfl (Nat.le_of_ble_eq_true rfl) ?_
      refine at_aload_n dX11_drawn_0 rfl ?_
      refine at_get dX11_drawn_1 fl_X11_23 (zl_o rfl) rfl ?_
      refine at_iload_n dX11_drawn_4 rfl ?_
      refine at_callV1 (d := D - 1) dX11_drawn_5 mv_X11_120 (zl_q zQ32) (Nat.le_of_ble_eq_true rfl) (zq_r0 (by omega) (by omega) (by omega)) ?_
      refine zc_has zQ32 M2 M7 ?_
      rw [e]
      refine at_if_neB (tgt := 13) dX11_drawn_8 (by decide) (fun c8 => ?_) (fun c8 => ?_)
      · refine at_iload_n dX11_drawn_13 rfl ?_
        refine at_if_neN (tgt := 27) dX11_drawn_14 (by decide) (by omega) (fun c14 => ?_) (fun c14 => ?_)
        · exact absurd rfl c14
        · refine at_aload_n dX11_drawn_17 rfl ?_
          refine at_get dX11_drawn_18 fl_X11_23 (zl_o rfl) rfl ?_
          refine at_get dX11_drawn_21 fl_X11_123 (zl_q zQ32) rfl ?_
          refine at_iload_n dX11_drawn_24 rfl ?_
          refine at_uld (b := 32) (c := 1) dX11_drawn_25 zQ32 (by decide) (by decide) rfl (by show _ < 7; omega) ?_
          refine at_iret dX11_drawn_26 rfl (by omega) (by omega) ?_
          exact hp
      · cases c8
    · by_cases v1 : v = nI 1
      · subst v1
        have hp := h1 (.int (zplace (σ.2.1 97) (nI j) M)) n (zl_h κ (zm_h σ ρ)) (by exact ⟨rfl, _, rfl⟩) (fun P2 h2 => by
          rw [zlm]
          refine zm_drawn (by omega) h53 (fun f => ?_) (fun j' hj' ej f => absurd f (by decide)) (fun j' hj' ej _ => ?_)
          · rw [e] at f; exact absurd f (by decide)
          · rw [← zlm]
            exact h2 _ _ _ _ (zfin h))
        rw [← hy] at hp
        refine zq_enter (cc := cX11_drawn) (nL := 3) (ret := (some .int)) cw_X11_drawn (by decide) rfl (Nat.le_of_ble_eq_true rfl) ?_
        refine at_aload_n dX11_drawn_0 rfl ?_
        refine at_get dX11_drawn_1 fl_X11_23 (zl_o rfl) rfl ?_
        refine at_iload_n dX11_drawn_4 rfl ?_
        refine at_callV1 (d := D - 1) dX11_drawn_5 mv_X11_120 (zl_q zQ32) (Nat.le_of_ble_eq_true rfl) (zq_r0 (by omega) (by omega) (by omega)) ?_
        refine zc_has zQ32 M2 M7 ?_
        rw [e]
        refine at_if_neB (tgt := 13) dX11_drawn_8 (by decide) (fun c8 => ?_) (fun c8 => ?_)
        · refine at_iload_n dX11_drawn_13 rfl ?_
          refine at_if_neN (tgt := 27) dX11_drawn_14 (by decide) (by omega) (fun c14 => ?_) (fun c14 => ?_)
          · refine at_iload_n dX11_drawn_27 rfl ?_
            refine at_iconst dX11_drawn_28 (v := nI 1) (by decide) ?_
            refine at_neN (tgt := 44) dX11_drawn_29 (by decide) (by omega) (by omega) (fun c29 => ?_) (fun c29 => ?_)
            · exact absurd rfl c29
            · refine at_aload_n dX11_drawn_32 rfl ?_
              refine at_get dX11_drawn_33 fl_X11_23 (zl_o rfl) rfl ?_
              refine at_get dX11_drawn_36 fl_X11_126 (zl_q zQ32) rfl ?_
              refine at_iload_n dX11_drawn_39 rfl ?_
              refine at_uld (b := 32) (c := 3) dX11_drawn_40 zQ32 (by decide) (by decide) rfl (by show _ < 7; omega) ?_
              refine at_goto (tgt := 45) dX11_drawn_41 (by decide) ?_
              refine at_iret dX11_drawn_45 rfl (by omega) (by omega) ?_
              exact hp
          · exact absurd c14 (by decide)
        · cases c8
      · have hp := h1 (.int (-1)) n (zl_h κ (zm_h σ ρ)) (by exact ⟨rfl, _, rfl⟩) (fun P2 h2 => by
          rw [zlm]
          refine zm_drawn (by omega) h53 (fun f => ?_) (fun j' hj' ej f => absurd f v0) (fun j' hj' ej f => absurd f v1)
          rw [← zlm]
          exact h2 _ _ _ _ (zfin h))
        refine zq_enter (cc := cX11_drawn) (nL := 3) (ret := (some .int)) cw_X11_drawn (by decide) rfl (Nat.le_of_ble_eq_true rfl) ?_
        refine at_aload_n dX11_drawn_0 rfl ?_
        refine at_get dX11_drawn_1 fl_X11_23 (zl_o rfl) rfl ?_
        refine at_iload_n dX11_drawn_4 rfl ?_
        refine at_callV1 (d := D - 1) dX11_drawn_5 mv_X11_120 (zl_q zQ32) (Nat.le_of_ble_eq_true rfl) (zq_r0 (by omega) (by omega) (by omega)) ?_
        refine zc_has zQ32 M2 M7 ?_
        rw [e]
        refine at_if_neB (tgt := 13) dX11_drawn_8 (by decide) (fun c8 => ?_) (fun c8 => ?_)
        · refine at_iload_n dX11_drawn_13 rfl ?_
          refine at_if_ne (tgt := 27) dX11_drawn_14 (by decide) (fun c14 => ?_) (fun c14 => ?_)
          · refine at_iload_n dX11_drawn_27 rfl ?_
            refine at_iconst dX11_drawn_28 (v := nI 1) (by decide) ?_
            refine at_icmp_ne (tgt := 44) dX11_drawn_29 (by decide) (fun c29 => ?_) (fun c29 => ?_)
            · refine at_iconst dX11_drawn_44 (v := -1) rfl ?_
              refine at_iret dX11_drawn_45 rfl (by omega) (by omega) ?_
              exact hp
            · exact absurd c29 v1
          · exact absurd c14 v0
        · cases c8
theorem zk_of {p v : Int32} (hD : 88 ≤ D) (h : zIV n κ σ ρ K m hn t z Ls Λ) : zCase l G D 0 0 yX11_of yX12_of [.int p, .int v] n κ σ ρ := by
  intro P1 h1
  have hm7 := h.2.1.1.2.1
  have hN := zQc_N h.2.2.1 h.2.1
  have hT := zQc_T h.2.2.1 h.2.1
  have hV := zQc_V σ h.2.2.1 h.2.1
  have s72 := zKW_sm h.2.1
  have eK := h.1.2.2.1
  cases e : zix m p with
  | false =>
    have hp := h1 (.int (-1)) n (zl_h κ (zm_h σ ρ)) (by exact ⟨rfl, _, rfl⟩) (fun P2 h2 => by
      rw [zlm]
      refine zm_of (Lo := zLoK K Ls) (by omega) (zIV_C h) (by rw [eK]; exact s72.1) (by rw [eK]; exact s72.2) (by rw [eK]; exact zKW_F h.2.1) (fun _ => ?_) (fun j τ hj ej _ => ?_)
      · rw [← zlm]
        exact h2 _ _ _ _ (zfin h)
      · rw [ej, zix_n (by omega), decide_eq_true hj] at e; cases e)
    refine zq_enter (cc := cX11_of) (nL := 3) (ret := (some .int)) cw_X11_of (by decide) rfl (Nat.le_of_ble_eq_true rfl) ?_
    refine at_aload_n dX11_of_0 rfl ?_
    refine at_get dX11_of_1 fl_X11_12 (zl_o rfl) rfl ?_
    refine at_iload_n dX11_of_4 rfl ?_
    refine at_callV1 (d := D - 1) dX11_of_5 mv_X11_120 (zl_q zQ9) (Nat.le_of_ble_eq_true rfl) (zq_r0 (by omega) (by omega) (by omega)) ?_
    refine zc_has zQ9 h.2.2.1.1.1 hm7 ?_
    rw [e]
    refine at_if_neB (tgt := 13) dX11_of_8 (by decide) (fun c8 => ?_) (fun c8 => ?_)
    · cases c8
    · refine at_iconst dX11_of_11 (v := -1) rfl ?_
      refine at_iret dX11_of_12 rfl (by omega) (by omega) ?_
      exact hp
  | true =>
    obtain ⟨j, hj, rfl⟩ := zix_t e
    have hp : ∀ κ', zKf κ' κ → P1 (some (.int (zofA K m j (zX1 K j) v (zLoK K Ls)))) n (zl_h κ' (zm_h σ ρ)) := fun κ' hf => h1 _ n (zl_h κ' (zm_h σ ρ)) (by exact ⟨rfl, _, rfl⟩) (fun P2 h2 => by
      rw [zlm]
      refine zm_of (Lo := zLoK K Ls) (by omega) (zIV_C h) (by rw [eK]; exact s72.1) (by rw [eK]; exact s72.2) (by rw [eK]; exact zKW_F h.2.1) (fun f => ?_) (fun j' τ hj' ej ht => ?_)
      · rw [e] at f; cases f
      · rw [show j' = j from ((nI_eq (by omega) (by omega)).mp ej).symm, ← zlm, eK]
        refine h2 _ _ _ _ (zfin (zIV_g (zIV_f h hf) (zMf_T ht) (fun y y1 y5 => ?_)))
        rw [ht.2.1 76 (by decide)]
        exact zIV_rk h y y1 y5)
    unfold zofA at hp
    refine zq_enter (cc := cX11_of) (nL := 3) (ret := (some .int)) cw_X11_of (by decide) rfl (Nat.le_of_ble_eq_true rfl) ?_
    refine at_aload_n dX11_of_0 rfl ?_
    refine at_get dX11_of_1 fl_X11_12 (zl_o rfl) rfl ?_
    refine at_iload_n dX11_of_4 rfl ?_
    refine at_callV1 (d := D - 1) dX11_of_5 mv_X11_120 (zl_q zQ9) (Nat.le_of_ble_eq_true rfl) (zq_r0 (by omega) (by omega) (by omega)) ?_
    refine zc_has zQ9 h.2.2.1.1.1 hm7 ?_
    rw [e]
    refine at_if_neB (tgt := 13) dX11_of_8 (by decide) (fun c8 => ?_) (fun c8 => ?_)
    · refine at_iload_n dX11_of_13 rfl ?_
      rcases zsw (x := v) 3 (by decide) with ⟨q, hq, rfl⟩ | hv
      · rcases (show q = 0 ∨ q = 1 ∨ q = 2 ∨ q = 3 by omega) with rfl | rfl | rfl | rfl
        · refine at_tableIn (tgt := 44) dX11_of_14 (by decide) (by decide) rfl (by decide) ?_
          have hp := hp κ (zKf_r κ)
          rw [if_pos rfl, ← h.2.2.1.2.1 j hj] at hp
          refine at_aload_n dX11_of_44 rfl ?_
          refine at_get dX11_of_45 fl_X11_12 (zl_o rfl) rfl ?_
          refine at_get dX11_of_48 fl_X11_123 (zl_q zQ9) rfl ?_
          refine at_iload_n dX11_of_51 rfl ?_
          refine at_uld (b := 9) (c := 1) dX11_of_52 zQ9 (by decide) (by decide) rfl (by show _ < 7; omega) ?_
          refine at_iret dX11_of_53 rfl (by omega) (by omega) ?_
          exact hp
        · refine at_tableIn (tgt := 54) dX11_of_14 (by decide) (by decide) rfl (by decide) ?_
          have hp := hp κ (zKf_r κ)
          rw [if_neg (by decide), if_pos rfl, ← h.2.2.1.2.2.2.1 j hj] at hp
          refine at_aload_n dX11_of_54 rfl ?_
          refine at_get dX11_of_55 fl_X11_12 (zl_o rfl) rfl ?_
          refine at_get dX11_of_58 fl_X11_126 (zl_q zQ9) rfl ?_
          refine at_iload_n dX11_of_61 rfl ?_
          refine at_uld (b := 9) (c := 3) dX11_of_62 zQ9 (by decide) (by decide) rfl (by show _ < 7; omega) ?_
          refine at_iret dX11_of_63 rfl (by omega) (by omega) ?_
          exact hp
        · refine at_tableIn (tgt := 64) dX11_of_14 (by decide) (by decide) rfl (by decide) ?_
          rw [if_neg (by decide), if_neg (by decide), if_pos rfl] at hp
          refine at_aload_n dX11_of_64 rfl ?_
          refine at_get dX11_of_65 fl_X11_54 (zl_o rfl) rfl ?_
          refine at_aload_n dX11_of_68 rfl ?_
          refine at_get dX11_of_69 fl_X11_12 (zl_o rfl) rfl ?_
          refine at_aload_n dX11_of_72 rfl ?_
          refine at_get dX11_of_73 fl_X11_12 (zl_o rfl) rfl ?_
          refine at_callV0 (d := D - 1) dX11_of_76 mv_X11_129 (zl_q zQ9) (Nat.le_of_ble_eq_true rfl) (zq_r0 (by omega) (by omega) (by omega)) ?_
          refine zc_inForce (by omega) zQ9 h.2.2.1.1.2.2.1 h.2.1.2.2.2.2.2.2.2.2.2.1 ?_
          refine at_iload_n dX11_of_79 rfl ?_
          refine at_callV3 (d := D - 1) dX11_of_80 mv_X11_133 (zl_o rfl) (Nat.le_of_ble_eq_true rfl) (zq_r0 (by omega) (by omega) (by omega)) ?_
          refine zc_stepCost (by omega) zQ9 hN hT hj hV (fun a g => ?_)
          have hp := hp _ (zKf_54 (zKf_r κ) a g)
          refine at_iret dX11_of_83 rfl (by omega) (by omega) ?_
          exact hp
        · refine at_tableIn (tgt := 84) dX11_of_14 (by decide) (by decide) rfl (by decide) ?_
          rw [if_neg (by decide), if_neg (by decide), if_neg (by decide), if_pos rfl] at hp
          refine at_aload_n dX11_of_84 rfl ?_
          refine at_get dX11_of_85 fl_X11_54 (zl_o rfl) rfl ?_
          refine at_aload_n dX11_of_88 rfl ?_
          refine at_get dX11_of_89 fl_X11_12 (zl_o rfl) rfl ?_
          refine at_aload_n dX11_of_92 rfl ?_
          refine at_get dX11_of_93 fl_X11_12 (zl_o rfl) rfl ?_
          refine at_callV0 (d := D - 1) dX11_of_96 mv_X11_129 (zl_q zQ9) (Nat.le_of_ble_eq_true rfl) (zq_r0 (by omega) (by omega) (by omega)) ?_
          refine zc_inForce (by omega) zQ9 h.2.2.1.1.2.2.1 h.2.1.2.2.2.2.2.2.2.2.2.1 ?_
          refine at_iload_n dX11_of_99 rfl ?_
          refine at_callV3 (d := D - 1) dX11_of_100 mv_X11_137 (zl_o rfl) (Nat.le_of_ble_eq_true rfl) (zq_r0 (by omega) (by omega) (by omega)) ?_
          refine zc_isBarred (by omega) zQ9 hN hT hj hV (fun a g => ?_)
          have hp := hp _ (zKf_54 (zKf_r κ) a g)
          refine at_if_eqB (tgt := 110) dX11_of_103 (by decide) (fun c103 => ?_) (fun c103 => ?_)
          · rw [c103] at hp
            refine at_iconst dX11_of_110 (v := nI 0) (by decide) ?_
            refine at_iret dX11_of_111 rfl (by omega) (by omega) ?_
            exact hp
          · rw [c103] at hp
            refine at_iconst dX11_of_106 (v := nI 1) (by decide) ?_
            refine at_goto (tgt := 111) dX11_of_107 (by decide) ?_
            refine at_iret dX11_of_111 rfl (by omega) (by omega) ?_
            exact hp
      · refine at_tableOut (tgt := 112) dX11_of_14 hv (by decide) ?_
        have hp := hp κ (zKf_r κ)
        rw [if_neg (zsw_ne hv (by decide) (by decide)), if_neg (zsw_ne hv (by decide) (by decide)), if_neg (zsw_ne hv (by decide) (by decide)), if_neg (zsw_ne hv (by decide) (by decide))] at hp
        refine at_iconst dX11_of_112 (v := -1) rfl ?_
        refine at_iret dX11_of_113 rfl (by omega) (by omega) ?_
        exact hp
    · cases c8
end ZK3

