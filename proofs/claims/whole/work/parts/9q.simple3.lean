/-! ===== calls on both sides: terms, heard, forgotten, in force, the tape's end ===== -/
def zhi (j : Nat) : Nat := if j = 0 then 999 else if j = 1 then 10 else 9
theorem zhi_h {j : Nat} (hj : j < 3) : zq_high j = nI (zhi j) := by
  rcases (show j = 0 ∨ j = 1 ∨ j = 2 by omega) with rfl | rfl | rfl <;> rfl
theorem zhi_le (j : Nat) : zhi j ≤ 999 := by unfold zhi; split; omega; split <;> omega
theorem zterm_n {j : Nat} {v : Int32} (hj : j < 3) : zterm (nI j) v = zlies 0 (zhi j) v := by
  unfold zterm zlies zhi
  rcases (show j = 0 ∨ j = 1 ∨ j = 2 by omega) with rfl | rfl | rfl
  · rw [decide_eq_true (show nI 0 = nI 0 from rfl), decide_eq_false (show ¬ nI 0 = nI 1 by decide), decide_eq_false (show ¬ nI 0 = nI 2 by decide), Bool.true_and, Bool.false_and, Bool.false_and, Bool.or_false, Bool.or_false, if_pos rfl]
  · rw [decide_eq_true (show nI 1 = nI 1 from rfl), decide_eq_false (show ¬ nI 1 = nI 0 by decide), decide_eq_false (show ¬ nI 1 = nI 2 by decide), Bool.true_and, Bool.false_and, Bool.false_and, Bool.false_or, Bool.or_false, if_neg (by decide), if_pos rfl]
  · rw [decide_eq_true (show nI 2 = nI 2 from rfl), decide_eq_false (show ¬ nI 2 = nI 0 by decide), decide_eq_false (show ¬ nI 2 = nI 1 by decide), Bool.true_and, Bool.false_and, Bool.false_and, Bool.false_or, Bool.false_or, if_neg (by decide), if_neg (by decide)]
theorem zterm_o {w v : Int32} (h : zix 3 w = false) : zterm w v = false := by
  have hne : ∀ j, j < 3 → ¬ w = nI j := fun j hj e => by rw [e, zix_n (by omega), decide_eq_true hj] at h; cases h
  unfold zterm
  rw [decide_eq_false (hne 0 (by decide)), decide_eq_false (hne 1 (by decide)), decide_eq_false (hne 2 (by decide)), Bool.false_and, Bool.false_and, Bool.false_and]
  rfl
section ZK14
variable {l : Launch} {G : zq_G} {D n b : Nat} {κ κ' : zl_S} {σ τ : zm_S} {ρ : Nat → zq_E} {K K' : Nat → Int32} {m hn t z : Nat} {Ls : Nat → List zLC} {Λ Λ' : List Nat} {Lo : Option (List zLC)} {post : Option Value → Nat → (Nat → zq_E) → Prop}
theorem zk_terms {w v : Int32} (hD : 88 ≤ D) (h : zIV n κ σ ρ K m hn t z Ls Λ) : zCase l G D 0 0 yX11_terms yX12_terms [.int w, .int v] n κ σ ρ := by
  intro P1 h1
  have hm7 := h.2.1.1.2.1
  have eK := h.1.2.2.1
  have hbad : zterm w v = false → P1 (some (.int (-(nI 1)))) n (zl_h (zlref κ 1) (zm_h σ ρ)) := fun e => h1 _ n _ (by exact ⟨rfl, _, rfl⟩) (fun P2 h2 => by
    rw [zlm]
    refine zm_terms (by omega) (fun _ => ?_) (fun j x _ _ f _ => ?_)
    · rw [← zlm]
      exact h2 _ _ _ _ (zfin (zIV_ref h (by omega)))
    · rw [e] at f; cases f)
  cases ew : zix 3 w with
  | false =>
    have hp := hbad (zterm_o ew)
    have hge : ¬ w < 0 → ¬ nI 3 ≤ w → False := fun a b => by rw [zix_and (by decide) a b] at ew; cases ew
    refine zq_enter (cc := cX11_terms) (nL := 4) (ret := (some .int)) cw_X11_terms (by decide) rfl (Nat.le_of_ble_eq_true rfl) ?_
    refine at_iload_n dX11_terms_0 rfl ?_
    refine at_if_lt (tgt := 25) dX11_terms_1 (by decide) (fun c1 => ?_) (fun c1 => ?_)
    · refine at_aload_n dX11_terms_25 rfl ?_
      refine at_iconst dX11_terms_26 (v := -1) rfl ?_
      refine at_callV1 (d := D - 1) dX11_terms_27 mv_X11_103 (zl_o rfl) (Nat.le_of_ble_eq_true rfl) (zq_r0 (by omega) (by omega) (by omega)) ?_
      refine zc_refuse (q := 1) (by omega) ?_
      refine at_iret dX11_terms_30 rfl (by omega) (by omega) ?_
      exact hp
    · refine at_iload_n dX11_terms_4 rfl ?_
      refine at_gets dX11_terms_5 sl_X11_169 ?_
      refine at_tlen dX11_terms_8 rfl (by decide) (v := nI 3) rfl ?_
      refine at_icmp_ge (tgt := 25) dX11_terms_9 (by decide) (fun c9 => ?_) (fun c9 => ?_)
      · refine at_aload_n dX11_terms_25 rfl ?_
        refine at_iconst dX11_terms_26 (v := -1) rfl ?_
        refine at_callV1 (d := D - 1) dX11_terms_27 mv_X11_103 (zl_o rfl) (Nat.le_of_ble_eq_true rfl) (zq_r0 (by omega) (by omega) (by omega)) ?_
        refine zc_refuse (q := 1) (by omega) ?_
        refine at_iret dX11_terms_30 rfl (by omega) (by omega) ?_
        exact hp
      · exact (hge c1 c9).elim
  | true =>
    obtain ⟨j, hj, rfl⟩ := zix_t ew
    have hh9 := zhi_le j
    cases ev : zlies 0 (zhi j) v with
    | false =>
      have hp := hbad (by rw [zterm_n hj]; exact ev)
      have hge : ¬ v < 0 → ¬ nI (zhi j) < v → False := fun a b => by
        unfold zlies at ev
        rw [decide_eq_true (show nI 0 ≤ v from Int32.not_lt.mp a), decide_eq_true (Int32.not_lt.mp b)] at ev; cases ev
      refine zq_enter (cc := cX11_terms) (nL := 4) (ret := (some .int)) cw_X11_terms (by decide) rfl (Nat.le_of_ble_eq_true rfl) ?_
      refine at_iload_n dX11_terms_0 rfl ?_
      refine at_if_ltN (tgt := 25) dX11_terms_1 (by decide) (by omega) (fun c1 => ?_) (fun c1 => ?_)
      · exact c1.elim
      · refine at_iload_n dX11_terms_4 rfl ?_
        refine at_gets dX11_terms_5 sl_X11_169 ?_
        refine at_tlen dX11_terms_8 rfl (by decide) (v := nI 3) rfl ?_
        refine at_geN (tgt := 25) dX11_terms_9 (by decide) (by omega) (by omega) (fun c9 => ?_) (fun c9 => ?_)
        · omega
        · refine at_iload_n dX11_terms_12 rfl ?_
          refine at_if_lt (tgt := 25) dX11_terms_13 (by decide) (fun c13 => ?_) (fun c13 => ?_)
          · refine at_aload_n dX11_terms_25 rfl ?_
            refine at_iconst dX11_terms_26 (v := -1) rfl ?_
            refine at_callV1 (d := D - 1) dX11_terms_27 mv_X11_103 (zl_o rfl) (Nat.le_of_ble_eq_true rfl) (zq_r0 (by omega) (by omega) (by omega)) ?_
            refine zc_refuse (q := 1) (by omega) ?_
            refine at_iret dX11_terms_30 rfl (by omega) (by omega) ?_
            exact hp
          · refine at_iload_n dX11_terms_16 rfl ?_
            refine at_gets dX11_terms_17 sl_X11_169 ?_
            refine at_iload_n dX11_terms_20 rfl ?_
            refine at_tldN dX11_terms_21 rfl (by decide) (by decide) rfl (by omega) ?_
            rw [zhi_h hj]
            refine at_icmp_le (tgt := 31) dX11_terms_22 (by decide) (fun c22 => ?_) (fun c22 => ?_)
            · exact (hge c13 (Int32.not_lt.mpr c22)).elim
            · refine at_aload_n dX11_terms_25 rfl ?_
              refine at_iconst dX11_terms_26 (v := -1) rfl ?_
              refine at_callV1 (d := D - 1) dX11_terms_27 mv_X11_103 (zl_o rfl) (Nat.le_of_ble_eq_true rfl) (zq_r0 (by omega) (by omega) (by omega)) ?_
              refine zc_refuse (q := 1) (by omega) ?_
              refine at_iret dX11_terms_30 rfl (by omega) (by omega) ?_
              exact hp
    | true =>
      obtain ⟨x, x0, x9, rfl⟩ := zlies_t (by decide) (by omega) ev
      have eT : zterm (nI j) (nI x) = true := by rw [zterm_n hj]; exact ev
      have htA : ztAt j = 19 ∨ ztAt j = 71 ∨ ztAt j = 72 := by rcases (show j = 0 ∨ j = 1 ∨ j = 2 by omega) with rfl | rfl | rfl <;> simp [ztAt]
      have ko : ∀ q, q ≠ 19 → q ≠ 71 → q ≠ 72 → upd K (ztAt j) (nI x) q = K q := fun q h1 h2 h3 => upd_o _ (by omega) _
      have hKW : zKW (upd K (ztAt j) (nI x)) m hn t Ls := by
        refine zKW_g h.2.1 (fun q hq => ko q (by omega) (by omega) (by omega)) (ko 73 (by omega) (by omega) (by omega)) ?_ ?_ ?_ (zKW_sd h.2.1 (fun q q1 q2 => ko q (by omega) (by omega) (by omega))) (zKW_hh h.2.1 (fun q q1 q2 => ko q (by omega) (by omega) (by omega)) (ko 74 (by omega) (by omega) (by omega))) (zKW_ll h.2.1 (fun q hq => ko q (by omega) (by omega) (by omega)))
        · rcases (show j = 0 ∨ j = 1 ∨ j = 2 by omega) with rfl | rfl | rfl
          · exact ⟨x, x9, upd_s _ _ _⟩
          · rw [show upd K (ztAt 1) (nI x) 19 = K 19 from upd_o _ (by decide) _]; exact h.2.1.2.2.2.1
          · rw [show upd K (ztAt 2) (nI x) 19 = K 19 from upd_o _ (by decide) _]; exact h.2.1.2.2.2.1
        · rcases (show j = 0 ∨ j = 1 ∨ j = 2 by omega) with rfl | rfl | rfl
          · rw [show upd K (ztAt 0) (nI x) 71 = K 71 from upd_o _ (by decide) _]; exact h.2.1.2.2.2.2.1
          · exact ⟨x, x9, upd_s _ _ _⟩
          · rw [show upd K (ztAt 2) (nI x) 71 = K 71 from upd_o _ (by decide) _]; exact h.2.1.2.2.2.2.1
        · rcases (show j = 0 ∨ j = 1 ∨ j = 2 by omega) with rfl | rfl | rfl
          · rw [show upd K (ztAt 0) (nI x) 72 = K 72 from upd_o _ (by decide) _]; exact h.2.1.2.2.2.2.2.1
          · rw [show upd K (ztAt 1) (nI x) 72 = K 72 from upd_o _ (by decide) _]; exact h.2.1.2.2.2.2.2.1
          · exact ⟨x, x9, upd_s _ _ _⟩
      have hold : κ.2.1 (9 + 7) j = K (ztAt j) := by
        obtain ⟨q1, q2, q3⟩ := h.2.2.1.2.2.2.2.2.2.2.1
        rcases (show j = 0 ∨ j = 1 ∨ j = 2 by omega) with rfl | rfl | rfl
        · exact q1
        · exact q2
        · exact q3
      have hp := h1 (.int (K (ztAt j))) n (zl_h (zl_si (zl_si (zl_sa κ (9 + 7) j (nI x)) 43 0 (nI 0)) 8 18 (nI 0)) (zm_h σ ρ)) (by exact ⟨rfl, _, rfl⟩) (fun P2 h2 => by
        rw [zlm]
        refine zm_terms (by omega) (fun f => ?_) (fun j' x' ej ex _ hj' => ?_)
        · rw [eT] at f; cases f
        · rw [show j' = j from ((nI_eq (by omega) (by omega)).mp ej).symm, ← ex, eK, ← zlm]
          refine h2 _ _ _ _ (zfin (zIV_acc (zIV_mk (κ' := zl_si (zl_sa κ (9 + 7) j (nI x)) 43 0 (nI 0)) (τ := zm_si (zsK σ (upd K (ztAt j) (nI x))) 44 0) (Λ' := []) h hKW (zQc_f (zQc_term h.2.2.1 hm7 h.2.1.2.2.2.2.2.2.2.1.2.1 hj) (zsi2_o _ (by decide) _ _) (fun _ _ _ => rfl) rfl) (zLG_0 m (zsi2_s _ _ _ _) (zsi_s _ _ _)) (zsK_k _ _) (fun y y1 y5 => ?_) (zsi2_o _ (by decide) _ _) (zsi2_o _ (by decide) _ _) (fun q hq => zla_o κ (by omega) _ _) (congrFun (zla_o κ (by decide) _ _) 0) rfl (fun q hq => zsi_o _ (by omega) _) (fun q hq => zsA_o σ (by omega) _))))
          rw [show (zm_si (zsK σ (upd K (ztAt j) (nI x))) 44 0).2.1 76 = σ.2.1 76 from zsA_o σ (by decide) _, zrkK_c (fun q hq => ko _ (by omega) (by omega) (by omega))]
          exact zIV_rk h y y1 y5)
      rw [← hold] at hp
      refine zq_enter (cc := cX11_terms) (nL := 4) (ret := (some .int)) cw_X11_terms (by decide) rfl (Nat.le_of_ble_eq_true rfl) ?_
      refine at_iload_n dX11_terms_0 rfl ?_
      refine at_if_ltN (tgt := 25) dX11_terms_1 (by decide) (by omega) (fun c1 => ?_) (fun c1 => ?_)
      · exact c1.elim
      · refine at_iload_n dX11_terms_4 rfl ?_
        refine at_gets dX11_terms_5 sl_X11_169 ?_
        refine at_tlen dX11_terms_8 rfl (by decide) (v := nI 3) rfl ?_
        refine at_geN (tgt := 25) dX11_terms_9 (by decide) (by omega) (by omega) (fun c9 => ?_) (fun c9 => ?_)
        · omega
        · refine at_iload_n dX11_terms_12 rfl ?_
          refine at_if_ltN (tgt := 25) dX11_terms_13 (by decide) (by omega) (fun c13 => ?_) (fun c13 => ?_)
          · exact c13.elim
          · refine at_iload_n dX11_terms_16 rfl ?_
            refine at_gets dX11_terms_17 sl_X11_169 ?_
            refine at_iload_n dX11_terms_20 rfl ?_
            refine at_tldN dX11_terms_21 rfl (by decide) (by decide) rfl (by omega) ?_
            rw [zhi_h hj]
            refine at_leN (tgt := 31) dX11_terms_22 (by decide) (by omega) (by omega) (fun c22 => ?_) (fun c22 => ?_)
            · refine at_aload_n dX11_terms_31 rfl ?_
              refine at_get dX11_terms_32 fl_X11_12 (zl_o rfl) rfl ?_
              refine at_get dX11_terms_35 fl_X11_172 (zl_q zQ9) rfl ?_
              refine at_iload_n dX11_terms_38 rfl ?_
              refine at_uld (b := 9) (c := 7) dX11_terms_39 zQ9 (by decide) (by decide) rfl (by show _ < 3; omega) ?_
              refine at_istore_n dX11_terms_40 rfl (by decide) ?_
              refine at_aload_n dX11_terms_41 rfl ?_
              refine at_get dX11_terms_42 fl_X11_12 (zl_o rfl) rfl ?_
              refine at_get dX11_terms_45 fl_X11_172 (zl_q zQ9) rfl ?_
              refine at_iload_n dX11_terms_48 rfl ?_
              refine at_iload_n dX11_terms_49 rfl ?_
              refine at_ust (b := 9) (c := 7) dX11_terms_50 zQ9 (by decide) (by decide) rfl (by show _ < 3; omega) ?_
              refine at_aload_n dX11_terms_51 rfl ?_
              refine at_get dX11_terms_52 fl_X11_29 (zl_o rfl) rfl ?_
              refine at_callV0 (d := D - 1) dX11_terms_55 mv_X11_111 (zl_o rfl) (Nat.le_of_ble_eq_true rfl) (zq_r0 (by omega) (by omega) (by omega)) ?_
              refine zc_logClear ?_
              refine at_aload_n dX11_terms_58 rfl ?_
              refine at_iload_n dX11_terms_59 rfl ?_
              refine at_callV1 (d := D - 1) dX11_terms_60 mv_X11_117 (zl_o rfl) (Nat.le_of_ble_eq_true rfl) (zq_r0 (by omega) (by omega) (by omega)) ?_
              refine zc_accept ?_
              refine at_iret dX11_terms_63 rfl (by omega) (by omega) ?_
              exact hp
            · omega
theorem zQc_g {hn' t' : Nat} {Ls' : Nat → List zLC} (h : zQc κ ρ n b K m hn t Ls) (hm : m ≤ 7) (i0 : κ'.1 b 0 = κ.1 b 0) (h2 : ∀ c, 1 ≤ c → c ≤ 7 → κ'.2.1 (b + c) = κ.2.1 (b + c)) (e : ∀ j, j < 55 → K' j = K j) (e71 : K' 71 = K 71) (e72 : K' 72 = K 72) (i8 : κ'.1 b 8 = nI hn') (h8 : ∀ j, j < hn' → κ'.2.1 (b + 8) j = K' (55 + 2 * j) ∧ κ'.2.1 (b + 9) j = K' (55 + 2 * j + 1)) (i11 : κ'.1 b 11 = nI t') (i13 : κ'.1 b 13 = K' 76)
    (ht : ∀ u, u < t' → ∃ tx, κ'.2.2 (b + 10) u = some tx ∧ zLx ρ n tx (Ls' u)) (ht2 : ∀ u, u < 6 → κ'.2.2 (b + 10) u = none ∨ ∃ tx fs, κ'.2.2 (b + 10) u = some tx ∧ 98 ≤ tx ∧ tx < n + 8 ∧ ρ tx = .inr (10, fs)) : zQc κ' ρ n b K' m hn' t' Ls' := by
  obtain ⟨⟨j0, j8, j11, j13⟩, a1, a2, a3, a4, a5, a6, a7, a8, a9, a10⟩ := h
  refine ⟨⟨i0.trans j0, i8, i11, i13⟩, fun p hp => ?_, fun q hq => ?_, fun p hp => ?_, fun q hq => ?_, fun q hq => ?_, ?_, ?_, h8, ht, ht2⟩
  · show κ'.2.1 (b + 1) p = _
    rw [h2 1 (by decide) (by decide), e _ (by omega)]; exact a1 p hp
  · show κ'.2.1 (b + 2) q = _
    rw [h2 2 (by decide) (by decide), e _ (by omega)]; exact a2 q hq
  · show κ'.2.1 (b + 3) p = _
    rw [h2 3 (by decide) (by decide), zplace_c m (fun q _ => e _ (by omega))]; exact a3 p hp
  · show κ'.2.1 (b + 4) q = _
    rw [h2 4 (by decide) (by decide), e _ (by omega)]; exact a4 q hq
  · show κ'.2.1 (b + 5) q = _
    rw [h2 5 (by decide) (by decide), e _ (by omega)]; exact a5 q hq
  · show zOrd (κ'.2.1 (b + 6)) _
    rw [h2 6 (by decide) (by decide), zrkK_c (fun q _ => e _ (by omega))]; exact a6
  · show κ'.2.1 (b + 7) 0 = _ ∧ κ'.2.1 (b + 7) 1 = _ ∧ κ'.2.1 (b + 7) 2 = _
    rw [h2 7 (by decide) (by decide), e 19 (by decide), e71, e72]; exact a7
theorem zk_heard {p q : Int32} (hD : 88 ≤ D) (h : zIV n κ σ ρ K m hn t z Ls Λ) : zCase l G D 0 0 yX11_heard yX12_heard [.int p, .int q] n κ σ ρ := by
  intro P1 h1
  have hm7 := h.2.1.1.2.1
  have eK := h.1.2.2.1
  have hm : σ.2.1 72 73 = nI m := by rw [eK]; exact h.2.1.1.1
  obtain ⟨g74, g8, g3⟩ := h.2.1.2.2.2.2.2.2.2.1
  have hh : σ.2.1 72 74 = nI hn := by rw [eK]; exact g74
  have hmod := fun (P2 : Option Value → Nat → (Nat → zq_E) → Prop) (κ' : zl_S) => zm_heard (l := l) (G := G) (D := D) (n := n) (σ := σ) (ρ := zl_h κ' ρ) (post := P2) (p := p) (q := q) (by omega) hm hm7 hh g8
  by_cases e1 : p = q
  · have hp := h1 (.int (-(nI 1))) n (zl_h (zlref κ 1) (zm_h σ ρ)) (by exact ⟨rfl, _, rfl⟩) (fun P2 h2 => by
      rw [zlm]
      refine hmod P2 _ (fun _ => ?_) (fun f => absurd e1 f) (fun f => absurd e1 f) (fun a b _ _ hab ea eb => ?_)
      · rw [← zlm]
        exact h2 _ _ _ _ (zfin (zIV_ref h (by omega)))
      · exact absurd ((nI_eq (by omega) (by omega)).mp (ea.symm.trans (e1.trans eb))) hab)
    refine zq_enter (cc := cX11_heard) (nL := 3) (ret := (some .int)) cw_X11_heard (by decide) rfl (Nat.le_of_ble_eq_true rfl) ?_
    refine at_iload_n dX11_heard_0 rfl ?_
    refine at_iload_n dX11_heard_1 rfl ?_
    refine at_icmp_ne (tgt := 11) dX11_heard_2 (by decide) (fun c2 => ?_) (fun c2 => ?_)
    · exact absurd e1 c2
    · refine at_aload_n dX11_heard_5 rfl ?_
      refine at_iconst dX11_heard_6 (v := -1) rfl ?_
      refine at_callV1 (d := D - 1) dX11_heard_7 mv_X11_103 (zl_o rfl) (Nat.le_of_ble_eq_true rfl) (zq_r0 (by omega) (by omega) (by omega)) ?_
      refine zc_refuse (q := 1) (by omega) ?_
      refine at_iret dX11_heard_10 rfl (by omega) (by omega) ?_
      exact hp
  · cases e2 : zix m p && zix m q with
    | false =>
      have hp := h1 (.int (-(nI 2))) n (zl_h (zlref κ 2) (zm_h σ ρ)) (by exact ⟨rfl, _, rfl⟩) (fun P2 h2 => by
        rw [zlm]
        refine hmod P2 _ (fun f => absurd f e1) (fun _ _ => ?_) (fun _ f => ?_) (fun a b ha hb hab ea eb => ?_)
        · rw [← zlm]
          exact h2 _ _ _ _ (zfin (zIV_ref h (by omega)))
        · rw [e2] at f; cases f
        · rw [ea, eb, zix_n (by omega), zix_n (by omega), decide_eq_true ha, decide_eq_true hb] at e2; cases e2)
      refine zq_enter (cc := cX11_heard) (nL := 3) (ret := (some .int)) cw_X11_heard (by decide) rfl (Nat.le_of_ble_eq_true rfl) ?_
      refine at_iload_n dX11_heard_0 rfl ?_
      refine at_iload_n dX11_heard_1 rfl ?_
      refine at_icmp_ne (tgt := 11) dX11_heard_2 (by decide) (fun c2 => ?_) (fun c2 => ?_)
      · refine at_aload_n dX11_heard_11 rfl ?_
        refine at_get dX11_heard_12 fl_X11_12 (zl_o rfl) rfl ?_
        refine at_iload_n dX11_heard_15 rfl ?_
        refine at_callV1 (d := D - 1) dX11_heard_16 mv_X11_120 (zl_q zQ9) (Nat.le_of_ble_eq_true rfl) (zq_r0 (by omega) (by omega) (by omega)) ?_
        refine zc_has zQ9 h.2.2.1.1.1 hm7 ?_
        refine at_if_eqB (tgt := 33) dX11_heard_19 (by decide) (fun c19 => ?_) (fun c19 => ?_)
        · refine at_aload_n dX11_heard_33 rfl ?_
          refine at_bipush dX11_heard_34 (v := -2) (by decide) ?_
          refine at_callV1 (d := D - 1) dX11_heard_36 mv_X11_103 (zl_o rfl) (Nat.le_of_ble_eq_true rfl) (zq_r0 (by omega) (by omega) (by omega)) ?_
          refine zc_refuse (q := 2) (by omega) ?_
          refine at_iret dX11_heard_39 rfl (by omega) (by omega) ?_
          exact hp
        · refine at_aload_n dX11_heard_22 rfl ?_
          refine at_get dX11_heard_23 fl_X11_12 (zl_o rfl) rfl ?_
          refine at_iload_n dX11_heard_26 rfl ?_
          refine at_callV1 (d := D - 1) dX11_heard_27 mv_X11_120 (zl_q zQ9) (Nat.le_of_ble_eq_true rfl) (zq_r0 (by omega) (by omega) (by omega)) ?_
          refine zc_has zQ9 h.2.2.1.1.1 hm7 ?_
          refine at_if_neB (tgt := 40) dX11_heard_30 (by decide) (fun c30 => ?_) (fun c30 => ?_)
          · exact absurd e2 (by rw [c19, c30]; decide)
          · refine at_aload_n dX11_heard_33 rfl ?_
            refine at_bipush dX11_heard_34 (v := -2) (by decide) ?_
            refine at_callV1 (d := D - 1) dX11_heard_36 mv_X11_103 (zl_o rfl) (Nat.le_of_ble_eq_true rfl) (zq_r0 (by omega) (by omega) (by omega)) ?_
            refine zc_refuse (q := 2) (by omega) ?_
            refine at_iret dX11_heard_39 rfl (by omega) (by omega) ?_
            exact hp
      · exact absurd c2 e1
    | true =>
      have e3 := e2
      rw [Bool.and_eq_true] at e3
      obtain ⟨e3p, e3q⟩ := e3
      by_cases e8 : hn = 8
      · have hp := h1 (.int (-(nI 5))) n (zl_h (zlref κ 5) (zm_h σ ρ)) (by exact ⟨rfl, _, rfl⟩) (fun P2 h2 => by
          rw [zlm]
          refine hmod P2 _ (fun f => absurd f e1) (fun _ f => ?_) (fun _ _ _ => ?_) (fun a b ha hb hab ea eb f => absurd f (by omega))
          · rw [e2] at f; cases f
          · rw [← zlm]
            exact h2 _ _ _ _ (zfin (zIV_ref h (by omega))))
        refine zq_enter (cc := cX11_heard) (nL := 3) (ret := (some .int)) cw_X11_heard (by decide) rfl (Nat.le_of_ble_eq_true rfl) ?_
        refine at_iload_n dX11_heard_0 rfl ?_
        refine at_iload_n dX11_heard_1 rfl ?_
        refine at_icmp_ne (tgt := 11) dX11_heard_2 (by decide) (fun c2 => ?_) (fun c2 => ?_)
        · refine at_aload_n dX11_heard_11 rfl ?_
          refine at_get dX11_heard_12 fl_X11_12 (zl_o rfl) rfl ?_
          refine at_iload_n dX11_heard_15 rfl ?_
          refine at_callV1 (d := D - 1) dX11_heard_16 mv_X11_120 (zl_q zQ9) (Nat.le_of_ble_eq_true rfl) (zq_r0 (by omega) (by omega) (by omega)) ?_
          refine zc_has zQ9 h.2.2.1.1.1 hm7 ?_
          rw [e3p]
          refine at_if_eqB (tgt := 33) dX11_heard_19 (by decide) (fun c19 => ?_) (fun c19 => ?_)
          · cases c19
          · refine at_aload_n dX11_heard_22 rfl ?_
            refine at_get dX11_heard_23 fl_X11_12 (zl_o rfl) rfl ?_
            refine at_iload_n dX11_heard_26 rfl ?_
            refine at_callV1 (d := D - 1) dX11_heard_27 mv_X11_120 (zl_q zQ9) (Nat.le_of_ble_eq_true rfl) (zq_r0 (by omega) (by omega) (by omega)) ?_
            refine zc_has zQ9 h.2.2.1.1.1 hm7 ?_
            rw [e3q]
            refine at_if_neB (tgt := 40) dX11_heard_30 (by decide) (fun c30 => ?_) (fun c30 => ?_)
            · refine at_aload_n dX11_heard_40 rfl ?_
              refine at_get dX11_heard_41 fl_X11_12 (zl_o rfl) rfl ?_
              refine at_get dX11_heard_44 fl_X11_300 (zl_q zQ9) rfl ?_
              rw [h.2.2.1.1.2.1]
              refine at_bipush dX11_heard_47 (v := nI 8) (by decide) ?_
              refine at_ltN (tgt := 59) dX11_heard_49 (by decide) (by omega) (by omega) (fun c49 => ?_) (fun c49 => ?_)
              · omega
              · refine at_aload_n dX11_heard_52 rfl ?_
                refine at_bipush dX11_heard_53 (v := -5) (by decide) ?_
                refine at_callV1 (d := D - 1) dX11_heard_55 mv_X11_103 (zl_o rfl) (Nat.le_of_ble_eq_true rfl) (zq_r0 (by omega) (by omega) (by omega)) ?_
                refine zc_refuse (q := 5) (by omega) ?_
                refine at_iret dX11_heard_58 rfl (by omega) (by omega) ?_
                exact hp
            · cases c30
        · exact absurd c2 e1
      · obtain ⟨a, ha, rfl⟩ := zix_t e3p
        obtain ⟨b', hb, rfl⟩ := zix_t e3q
        have ko : ∀ j, j ≠ 55 + 2 * hn → j ≠ 55 + 2 * hn + 1 → j ≠ 74 → upd (upd (upd K (55 + 2 * hn) (nI a)) (55 + 2 * hn + 1) (nI b')) 74 (nI (hn + 1)) j = K j := fun j j1 j2 j3 => by rw [upd_o _ j3, upd_o _ j2, upd_o _ j1]
        have k0 : upd (upd (upd K (55 + 2 * hn) (nI a)) (55 + 2 * hn + 1) (nI b')) 74 (nI (hn + 1)) (55 + 2 * hn) = nI a := by rw [upd_o _ (by omega), upd_o _ (by omega), upd_s]
        have k1 : upd (upd (upd K (55 + 2 * hn) (nI a)) (55 + 2 * hn + 1) (nI b')) 74 (nI (hn + 1)) (55 + 2 * hn + 1) = nI b' := by rw [upd_o _ (by omega), upd_s]
        have k4 : upd (upd (upd K (55 + 2 * hn) (nI a)) (55 + 2 * hn + 1) (nI b')) 74 (nI (hn + 1)) 74 = nI (hn + 1) := upd_s _ _ _
        generalize hK' : upd (upd (upd K (55 + 2 * hn) (nI a)) (55 + 2 * hn + 1) (nI b')) 74 (nI (hn + 1)) = K' at *
        have hKW : zKW K' m (hn + 1) t Ls := by
          refine zKW_g h.2.1 (fun j hj => ko j (by omega) (by omega) (by omega)) (ko 73 (by omega) (by omega) (by omega)) ?_ ?_ ?_ (zKW_sd h.2.1 (fun j j1 j2 => ko j (by omega) (by omega) (by omega))) ⟨k4, by omega, fun i hi => ?_⟩ (zKW_ll h.2.1 (fun j hj => ko j (by omega) (by omega) (by omega)))
          · rw [ko 19 (by omega) (by omega) (by omega)]; exact h.2.1.2.2.2.1
          · rw [ko 71 (by omega) (by omega) (by omega)]; exact h.2.1.2.2.2.2.1
          · rw [ko 72 (by omega) (by omega) (by omega)]; exact h.2.1.2.2.2.2.2.1
          · unfold haK hbK
            by_cases g : i = hn
            · rw [g, k0, k1, nI_clamp (by omega), nI_clamp (by omega)]; exact ⟨rfl, rfl, ha, hb⟩
            · rw [ko (55 + 2 * i) (by omega) (by omega) (by omega), ko (55 + 2 * i + 1) (by omega) (by omega) (by omega)]; exact g3 i (by omega)
        generalize hκ' : zl_si (zl_sa (zl_sa κ (9 + 8) hn (nI a)) (9 + 9) hn (nI b')) 9 8 (nI (hn + 1)) = κ'
        have c1 : ∀ o, o ≠ 9 → κ'.1 o = κ.1 o := fun o ho => by rw [← hκ']; exact zsi2_o _ ho _ _
        have c2 : ∀ j, j ≠ 8 → κ'.1 9 j = κ.1 9 j := fun j hj => by rw [← hκ']; exact zsi2_k _ 9 hj _
        have c3 : ∀ c, c ≠ 17 → c ≠ 18 → κ'.2.1 c = κ.2.1 c := fun c h1 h2 => by
          rw [← hκ']
          show (zl_sa (zl_sa κ (9 + 8) hn (nI a)) (9 + 9) hn (nI b')).2.1 c = _
          rw [zla_o _ (by omega), zla_o _ (by omega)]
        have c4 : κ'.2.1 (9 + 8) = upd (κ.2.1 (9 + 8)) hn (nI a) := by
          rw [← hκ']
          show (zl_sa (zl_sa κ (9 + 8) hn (nI a)) (9 + 9) hn (nI b')).2.1 (9 + 8) = _
          rw [zla_o _ (by decide), zla_s]
        have c5 : κ'.2.1 (9 + 9) = upd (κ.2.1 (9 + 9)) hn (nI b') := by
          rw [← hκ']
          show (zl_sa (zl_sa κ (9 + 8) hn (nI a)) (9 + 9) hn (nI b')).2.1 (9 + 9) = _
          rw [zla_s, zla_o _ (by decide)]
        have c6 : κ'.2.2 = κ.2.2 := by rw [← hκ']; rfl
        have hQ' : zQc κ' ρ n 9 K' m (hn + 1) t Ls := by
          refine zQc_g h.2.2.1 hm7 (c2 0 (by decide)) (fun c h1 h7 => c3 _ (by omega) (by omega)) (fun j hj => ko j (by omega) (by omega) (by omega)) (ko 71 (by omega) (by omega) (by omega)) (ko 72 (by omega) (by omega) (by omega)) (by rw [← hκ']; exact zsi2_s _ _ _ _) (fun j hj => ?_) ((c2 11 (by decide)).trans h.2.2.1.1.2.2.1) ((c2 13 (by decide)).trans (h.2.2.1.1.2.2.2.trans (ko 76 (by omega) (by omega) (by omega)).symm)) (by rw [c6]; exact h.2.2.1.2.2.2.2.2.2.2.2.2.1) (by rw [c6]; exact h.2.2.1.2.2.2.2.2.2.2.2.2.2)
          rw [c4, c5]
          by_cases g : j = hn
          · rw [g, upd_s, upd_s, k0, k1]; exact ⟨rfl, rfl⟩
          · rw [upd_o _ g, upd_o _ g, ko (55 + 2 * j) (by omega) (by omega) (by omega), ko (55 + 2 * j + 1) (by omega) (by omega) (by omega)]
            exact h.2.2.1.2.2.2.2.2.2.2.2.1 j (by omega)
        have hp := h1 (.int (nI (hn + 1))) n (zl_h (zl_si κ' 8 18 (nI 0)) (zm_h σ ρ)) (by exact ⟨rfl, _, rfl⟩) (fun P2 h2 => by
          rw [zlm]
          refine hmod P2 _ (fun f => absurd f e1) (fun _ f => ?_) (fun _ _ f => absurd f e8) (fun a' b2 ha' hb2 hab ea eb _ => ?_)
          · rw [e2] at f; cases f
          · rw [eK, hK', ← zlm]
            refine h2 _ _ _ _ (zfin (zIV_acc (zIV_mk (τ := zsK σ K') h hKW hQ' (zIV_LG h (fun j hj => ko j (by omega) (by omega) (by omega)) (c1 43 (by decide)) (c3 44 (by decide) (by decide)) rfl (zsA_o _ (by decide) _)) (zsK_k _ _) (fun y y1 y5 => ?_) (c1 8 (by decide)) (c1 32 (by decide)) (fun j hj => c3 j (by omega) (by omega)) (congrFun (c3 57 (by decide) (by decide)) 0) (by rw [c6]) (fun _ _ => rfl) (fun j hj => zsA_o _ (by omega) _))))
            rw [show (zsK σ K').2.1 76 = σ.2.1 76 from zsA_o _ (by decide) _, zrkK_c (fun j hj => ko _ (by omega) (by omega) (by omega))]
            exact zIV_rk h y y1 y5)
        refine zq_enter (cc := cX11_heard) (nL := 3) (ret := (some .int)) cw_X11_heard (by decide) rfl (Nat.le_of_ble_eq_true rfl) ?_
        refine at_iload_n dX11_heard_0 rfl ?_
        refine at_iload_n dX11_heard_1 rfl ?_
        refine at_icmp_ne (tgt := 11) dX11_heard_2 (by decide) (fun c2 => ?_) (fun c2 => ?_)
        · refine at_aload_n dX11_heard_11 rfl ?_
          refine at_get dX11_heard_12 fl_X11_12 (zl_o rfl) rfl ?_
          refine at_iload_n dX11_heard_15 rfl ?_
          refine at_callV1 (d := D - 1) dX11_heard_16 mv_X11_120 (zl_q zQ9) (Nat.le_of_ble_eq_true rfl) (zq_r0 (by omega) (by omega) (by omega)) ?_
          refine zc_has zQ9 h.2.2.1.1.1 hm7 ?_
          rw [e3p]
          refine at_if_eqB (tgt := 33) dX11_heard_19 (by decide) (fun c19 => ?_) (fun c19 => ?_)
          · cases c19
          · refine at_aload_n dX11_heard_22 rfl ?_
            refine at_get dX11_heard_23 fl_X11_12 (zl_o rfl) rfl ?_
            refine at_iload_n dX11_heard_26 rfl ?_
            refine at_callV1 (d := D - 1) dX11_heard_27 mv_X11_120 (zl_q zQ9) (Nat.le_of_ble_eq_true rfl) (zq_r0 (by omega) (by omega) (by omega)) ?_
            refine zc_has zQ9 h.2.2.1.1.1 hm7 ?_
            rw [e3q]
            refine at_if_neB (tgt := 40) dX11_heard_30 (by decide) (fun c30 => ?_) (fun c30 => ?_)
            · refine at_aload_n dX11_heard_40 rfl ?_
              refine at_get dX11_heard_41 fl_X11_12 (zl_o rfl) rfl ?_
              refine at_get dX11_heard_44 fl_X11_300 (zl_q zQ9) rfl ?_
              rw [h.2.2.1.1.2.1]
              refine at_bipush dX11_heard_47 (v := nI 8) (by decide) ?_
              refine at_ltN (tgt := 59) dX11_heard_49 (by decide) (by omega) (by omega) (fun c49 => ?_) (fun c49 => ?_)
              · refine at_aload_n dX11_heard_59 rfl ?_
                refine at_aload_n dX11_heard_60 rfl ?_
                refine at_get dX11_heard_61 fl_X11_12 (zl_o rfl) rfl ?_
                refine at_iload_n dX11_heard_64 rfl ?_
                refine at_iload_n dX11_heard_65 rfl ?_
                refine at_callV2 (d := D - 1) dX11_heard_66 mv_X11_303 (zl_q zQ9) (Nat.le_of_ble_eq_true rfl) (zq_r0 (by omega) (by omega) (by omega)) ?_
                refine zc_hear zQ9 h.2.2.1.1.2.1 (by omega) ?_
                rw [hκ']
                refine at_callV1 (d := D - 1) dX11_heard_69 mv_X11_117 (zl_o rfl) (Nat.le_of_ble_eq_true rfl) (zq_r0 (by omega) (by omega) (by omega)) ?_
                refine zc_accept ?_
                refine at_iret dX11_heard_72 rfl (by omega) (by omega) ?_
                exact hp
              · omega
            · cases c30
        · exact absurd c2 e1
end ZK14

