/-! ===== weeks on both sides ===== -/
section ZK26
variable {l : Launch} {G : zq_G} {D n n' b : Nat} {κ κ' : zl_S} {σ τ : zm_S} {ρ ρ' : Nat → zq_E} {K K' : Nat → Int32} {m hn t z : Nat} {Ls : Nat → List zLC} {Λ Λ' : List Nat} {post : Option Value → Nat → (Nat → zq_E) → Prop}
theorem zIV_pp (h : zIV n κ σ ρ K m hn t z Ls Λ) (hf : zPf κ' κ) (s1 : ∀ k, k = 0 ∨ k = 7 ∨ k = 14 ∨ k = 15 ∨ k = 44 ∨ k = 45 → τ.1 k = σ.1 k) (s2 : ∀ a, (71 ≤ a ∧ a ≤ 74) ∨ a = 77 ∨ a = 78 ∨ a = 94 → τ.2.1 a = σ.2.1 a) (hr : ∀ y, 1 ≤ y → y ≤ 5 → τ.2.1 76 y = nI (zrkK K y)) (hP : zPP κ' τ) : zIV n κ' τ ρ K m hn t z Ls Λ := by
  obtain ⟨⟨a1, a2, a3, a4⟩, b1, c1, d1, e1, f1, g1, i1⟩ := h
  refine ⟨⟨a1, (congrFun (hf.2.1 57 (by omega) (by omega) (by omega)) 0).trans a2, (s2 72 (by omega)).trans a3, hr⟩, b1, zQc_f c1 (hf.1 9 (by decide)) (fun c h1 h9 => hf.2.1 _ (by omega) (by omega) (by omega)) (hf.2.2 _ (by decide)), ?_, ?_, ?_, hP, ?_⟩
  · unfold zLG at d1 ⊢
    rw [hf.1 43 (by decide), hf.2.1 44 (by omega) (by omega) (by omega), s1 44 (by omega), s2 94 (by omega)]
    exact d1
  · unfold zTT zWr at e1 ⊢
    rw [hf.1 8 (by decide), hf.2.1 47 (by omega) (by omega) (by omega), s1 14 (by omega), s2 78 (by omega), s2 77 (by omega)]
    exact e1
  · unfold zST at f1 ⊢
    rw [hf.1 8 (by decide), hf.2.1 69 (by omega) (by omega) (by omega), s1 0 (by omega), s1 15 (by omega), s1 45 (by omega), s1 7 (by omega), s2 71 (by omega)]
    exact f1
  · unfold zIM zI1 at i1 ⊢
    rw [hf.2.2 20 (by decide), s2 73 (by omega), s2 74 (by omega)]
    exact i1
theorem zk_weeks {sd v : Int32} (hD : 88 ≤ D) (h : zIV n κ σ ρ K m hn t z Ls Λ) : zCase l G D 0 0 yX11_weeks yX12_weeks [.int sd, .int v] n κ σ ρ := by
  intro P1 h1
  have hm7 := h.2.1.1.2.1
  have eK := h.1.2.2.1
  have s72 := zKW_sm h.2.1
  obtain ⟨d, d9, ed⟩ := h.2.1.2.2.2.1
  have hmod := fun (P2 : Option Value → Nat → (Nat → zq_E) → Prop) (κ' : zl_S) => zm_weeks (l := l) (G := G) (D := D) (n := n) (σ := σ) (ρ := zl_h κ' ρ) (post := P2) (sd := sd) (v := v) (rk := zrkK K) (al := alK K) (Lo := zLoK K Ls) (d := d) (m := m) (by omega) (by rw [eK]; exact h.2.1.1) (fun y y1 y5 => ⟨zIV_rk h y y1 y5, zrkN_lt _ _⟩) (zIV_al h).1 (zIV_al h).2 (by rw [eK]; exact s72.1) (by rw [eK]; exact ed) d9 (by rw [eK]; exact zKW_F h.2.1)
  cases e : zlies 0 1000000 sd && zlies 1 60 v with
  | false =>
    have hp := h1 (.int (-(nI 1))) n (zl_h (zlref κ 1) (zm_h σ ρ)) (by exact ⟨rfl, _, rfl⟩) (fun P2 h2 => by
      rw [zlm]
      refine hmod P2 _ (fun _ => ?_) (fun f => ?_) (fun a b τ a1 b1 b2 ea eb _ _ => ?_)
      · rw [← zlm]
        exact h2 _ _ _ _ (zfin (zIV_ref h (by omega)))
      · rw [show ((decide (nI 0 ≤ sd) && decide (sd ≤ nI 1000000)) && (decide (nI 1 ≤ v) && decide (v ≤ nI 60))) = false from e] at f; cases f
      · rw [ea, eb, zlies_i (by decide) (by decide) (Nat.zero_le _) a1, zlies_i (by decide) (by decide) b1 b2] at e; cases e)
    have hge : ¬ sd < 0 → ¬ nI 1000000 < sd → ¬ v < nI 1 → ¬ nI 60 < v → False := fun q1 q2 q3 q4 => by
      unfold zlies at e
      rw [decide_eq_true (show nI 0 ≤ sd from Int32.not_lt.mp q1), decide_eq_true (Int32.not_lt.mp q2), decide_eq_true (Int32.not_lt.mp q3), decide_eq_true (Int32.not_lt.mp q4)] at e; cases e
    refine zq_enter (cc := cX11_weeks) (nL := 8) (ret := (some .int)) cw_X11_weeks (by decide) rfl (Nat.le_of_ble_eq_true rfl) ?_
    refine at_iload_n dX11_weeks_0 rfl ?_
    refine at_if_lt (tgt := 22) dX11_weeks_1 (by decide) (fun c1 => ?_) (fun c1 => ?_)
    · refine at_aload_n dX11_weeks_22 rfl ?_
      refine at_iconst dX11_weeks_23 (v := -1) rfl ?_
      refine at_callV1 (d := D - 1) dX11_weeks_24 mv_X11_103 (zl_o rfl) (Nat.le_of_ble_eq_true rfl) (zq_r0 (by omega) (by omega) (by omega)) ?_
      refine zc_refuse (q := 1) (by omega) ?_
      refine at_iret dX11_weeks_27 rfl (by omega) (by omega) ?_
      exact hp
    · refine at_iload_n dX11_weeks_4 rfl ?_
      refine at_ldcw dX11_weeks_5 (v := nI 1000000) kc_X11_342 ?_
      refine at_icmp_gt (tgt := 22) dX11_weeks_8 (by decide) (fun c8 => ?_) (fun c8 => ?_)
      · refine at_aload_n dX11_weeks_22 rfl ?_
        refine at_iconst dX11_weeks_23 (v := -1) rfl ?_
        refine at_callV1 (d := D - 1) dX11_weeks_24 mv_X11_103 (zl_o rfl) (Nat.le_of_ble_eq_true rfl) (zq_r0 (by omega) (by omega) (by omega)) ?_
        refine zc_refuse (q := 1) (by omega) ?_
        refine at_iret dX11_weeks_27 rfl (by omega) (by omega) ?_
        exact hp
      · refine at_iload_n dX11_weeks_11 rfl ?_
        refine at_iconst dX11_weeks_12 (v := nI 1) (by decide) ?_
        refine at_icmp_lt (tgt := 22) dX11_weeks_13 (by decide) (fun c13 => ?_) (fun c13 => ?_)
        · refine at_aload_n dX11_weeks_22 rfl ?_
          refine at_iconst dX11_weeks_23 (v := -1) rfl ?_
          refine at_callV1 (d := D - 1) dX11_weeks_24 mv_X11_103 (zl_o rfl) (Nat.le_of_ble_eq_true rfl) (zq_r0 (by omega) (by omega) (by omega)) ?_
          refine zc_refuse (q := 1) (by omega) ?_
          refine at_iret dX11_weeks_27 rfl (by omega) (by omega) ?_
          exact hp
        · refine at_iload_n dX11_weeks_16 rfl ?_
          refine at_bipush dX11_weeks_17 (v := nI 60) (by decide) ?_
          refine at_icmp_le (tgt := 28) dX11_weeks_19 (by decide) (fun c19 => ?_) (fun c19 => ?_)
          · exact (hge c1 c8 c13 (Int32.not_lt.mpr c19)).elim
          · refine at_aload_n dX11_weeks_22 rfl ?_
            refine at_iconst dX11_weeks_23 (v := -1) rfl ?_
            refine at_callV1 (d := D - 1) dX11_weeks_24 mv_X11_103 (zl_o rfl) (Nat.le_of_ble_eq_true rfl) (zq_r0 (by omega) (by omega) (by omega)) ?_
            refine zc_refuse (q := 1) (by omega) ?_
            refine at_iret dX11_weeks_27 rfl (by omega) (by omega) ?_
            exact hp
  | true =>
    have e' := e
    rw [Bool.and_eq_true] at e'
    obtain ⟨a, a0, a1, rfl⟩ := zlies_t (by decide) (by decide) e'.1
    obtain ⟨bb, b1, b2, rfl⟩ := zlies_t (by decide) (by decide) e'.2
    by_cases m0 : m = 0
    · have hp := h1 (.int (-(nI 3))) n (zl_h (zlref κ 3) (zm_h σ ρ)) (by exact ⟨rfl, _, rfl⟩) (fun P2 h2 => by
        rw [zlm]
        refine hmod P2 _ (fun f => ?_) (fun _ _ => ?_) (fun _ _ _ _ _ _ _ _ f _ => absurd f (by omega))
        · rw [show ((decide (nI 0 ≤ nI a) && decide (nI a ≤ nI 1000000)) && (decide (nI 1 ≤ nI bb) && decide (nI bb ≤ nI 60))) = true from e] at f; cases f
        · rw [← zlm]
          exact h2 _ _ _ _ (zfin (zIV_ref h (by omega))))
      refine zq_enter (cc := cX11_weeks) (nL := 8) (ret := (some .int)) cw_X11_weeks (by decide) rfl (Nat.le_of_ble_eq_true rfl) ?_
      refine at_iload_n dX11_weeks_0 rfl ?_
      refine at_if_ltN (tgt := 22) dX11_weeks_1 (by decide) (by omega) (fun c1 => ?_) (fun c1 => ?_)
      · exact c1.elim
      · refine at_iload_n dX11_weeks_4 rfl ?_
        refine at_ldcw dX11_weeks_5 (v := nI 1000000) kc_X11_342 ?_
        refine at_gtN (tgt := 22) dX11_weeks_8 (by decide) (by omega) (by omega) (fun c8 => ?_) (fun c8 => ?_)
        · omega
        · refine at_iload_n dX11_weeks_11 rfl ?_
          refine at_iconst dX11_weeks_12 (v := nI 1) (by decide) ?_
          refine at_ltN (tgt := 22) dX11_weeks_13 (by decide) (by omega) (by omega) (fun c13 => ?_) (fun c13 => ?_)
          · omega
          · refine at_iload_n dX11_weeks_16 rfl ?_
            refine at_bipush dX11_weeks_17 (v := nI 60) (by decide) ?_
            refine at_leN (tgt := 28) dX11_weeks_19 (by decide) (by omega) (by omega) (fun c19 => ?_) (fun c19 => ?_)
            · refine at_aload_n dX11_weeks_28 rfl ?_
              refine at_get dX11_weeks_29 fl_X11_12 (zl_o rfl) rfl ?_
              refine at_get dX11_weeks_32 fl_X11_288 (zl_q zQ9) rfl ?_
              rw [h.2.2.1.1.1]
              refine at_if_neN (tgt := 45) dX11_weeks_35 (by decide) (by omega) (fun c35 => ?_) (fun c35 => ?_)
              · exact absurd m0 c35
              · refine at_aload_n dX11_weeks_38 rfl ?_
                refine at_bipush dX11_weeks_39 (v := -3) (by decide) ?_
                refine at_callV1 (d := D - 1) dX11_weeks_41 mv_X11_103 (zl_o rfl) (Nat.le_of_ble_eq_true rfl) (zq_r0 (by omega) (by omega) (by omega)) ?_
                refine zc_refuse (q := 3) (by omega) ?_
                refine at_iret dX11_weeks_44 rfl (by omega) (by omega) ?_
                exact hp
            · omega
    · have hp : ∀ κ', zPf κ' κ → zQc κ' ρ n 32 (zwk (zLoK K Ls) (zrkK K) m bb K a 0).1 m hn t Ls → P1 (some (.int (nI (zwk (zLoK K Ls) (zrkK K) m bb K a 0).2))) n (zl_h (zl_si κ' 8 18 (nI 0)) (zm_h σ ρ)) := fun κ' hf hQ => h1 _ n _ (by exact ⟨rfl, _, rfl⟩) (fun P2 h2 => by
        rw [zlm]
        refine hmod P2 _ (fun f => ?_) (fun _ f => absurd f m0) (fun a' b' τ _ _ _ ea eb _ hW => ?_)
        · rw [show ((decide (nI 0 ≤ nI a) && decide (nI a ≤ nI 1000000)) && (decide (nI 1 ≤ nI bb) && decide (nI bb ≤ nI 60))) = true from e] at f; cases f
        · rw [show a' = a from ((nI_eq (by omega) (by omega)).mp ea).symm, show b' = bb from ((nI_eq (by omega) (by omega)).mp eb).symm, eK] at hW ⊢
          rw [← zlm]
          generalize zwk (zLoK K Ls) (zrkK K) m bb K a 0 = Q at *
          obtain ⟨w1, w2, w3, w4, w5, w6⟩ := hW
          have hPP : zPP κ' (zm_si τ 0 (σ.1 0)) := by
            refine ⟨m, hm7, Or.inr ((zsi_o _ (by decide) _).trans w3), hQ.1.1, fun p hp => ⟨?_, ?_⟩⟩
            · show κ'.2.1 (32 + 1) p = τ.2.1 97 p
              rw [w6 p (by omega)]
              exact hQ.2.1 p hp
            · show κ'.2.1 (32 + 3) p = zplace (τ.2.1 97) (nI p) m
              rw [zplace_c m (fun q hq => w6 (7 + q) (by omega))]
              exact hQ.2.2.2.1 p hp
          have hiv := zIV_acc (zIV_pp (τ := zm_si τ 0 (σ.1 0)) h hf (fun k hk => by
              by_cases k0 : k = 0
              · rw [k0, zsi_s]
              · rw [zsi_o _ k0]
                refine w1 k ?_ k0 (by omega)
                rcases hk with rfl | rfl | rfl | rfl | rfl | rfl <;> rfl) (fun q hq => by
              refine w4 q ?_ (by omega) (by omega)
              rcases (show q = 71 ∨ q = 72 ∨ q = 73 ∨ q = 74 ∨ q = 77 ∨ q = 78 ∨ q = 94 by omega) with rfl | rfl | rfl | rfl | rfl | rfl | rfl <;> rfl) w5 hPP)
          rw [zsi_si, show zm_si τ 0 0 = τ from Prod.ext (by
            funext k
            show upd τ.1 0 0 k = τ.1 k
            by_cases k0 : k = 0
            · rw [k0, upd_s, w2]
            · rw [upd_o _ k0]) rfl] at hiv
          exact h2 _ _ _ _ (zfin hiv))
      clear hmod
      have hQ9 := h.2.2.1
      refine zq_enter (cc := cX11_weeks) (nL := 8) (ret := (some .int)) cw_X11_weeks (by decide) rfl (Nat.le_of_ble_eq_true rfl) ?_
      refine at_iload_n dX11_weeks_0 rfl ?_
      refine at_if_ltN (tgt := 22) dX11_weeks_1 (by decide) (by omega) (fun c1 => ?_) (fun c1 => ?_)
      · exact c1.elim
      · refine at_iload_n dX11_weeks_4 rfl ?_
        refine at_ldcw dX11_weeks_5 (v := nI 1000000) kc_X11_342 ?_
        refine at_gtN (tgt := 22) dX11_weeks_8 (by decide) (by omega) (by omega) (fun c8 => ?_) (fun c8 => ?_)
        · omega
        · refine at_iload_n dX11_weeks_11 rfl ?_
          refine at_iconst dX11_weeks_12 (v := nI 1) (by decide) ?_
          refine at_ltN (tgt := 22) dX11_weeks_13 (by decide) (by omega) (by omega) (fun c13 => ?_) (fun c13 => ?_)
          · omega
          · refine at_iload_n dX11_weeks_16 rfl ?_
            refine at_bipush dX11_weeks_17 (v := nI 60) (by decide) ?_
            refine at_leN (tgt := 28) dX11_weeks_19 (by decide) (by omega) (by omega) (fun c19 => ?_) (fun c19 => ?_)
            · refine at_aload_n dX11_weeks_28 rfl ?_
              refine at_get dX11_weeks_29 fl_X11_12 (zl_o rfl) rfl ?_
              refine at_get dX11_weeks_32 fl_X11_288 (zl_q zQ9) rfl ?_
              rw [h.2.2.1.1.1]
              refine at_if_neN (tgt := 45) dX11_weeks_35 (by decide) (by omega) (fun c35 => ?_) (fun c35 => ?_)
              · refine at_aload_n dX11_weeks_45 rfl ?_
                refine at_get dX11_weeks_46 fl_X11_23 (zl_o rfl) rfl ?_
                refine at_aload_n dX11_weeks_49 rfl ?_
                refine at_get dX11_weeks_50 fl_X11_12 (zl_o rfl) rfl ?_
                refine at_callV1 (d := D - 1) dX11_weeks_53 mv_X11_196 (zl_q zQ32) (Nat.le_of_ble_eq_true rfl) (zq_r0 (by omega) (by omega) (by omega)) ?_
                refine zc_copyFrom (by omega) (Or.inr (by omega)) (zUA_c zQ32) (zUA_c zQ9) (fun j hj => ?_) (fun i2 A2 T2 hE => ?_)
                · rcases hQ9.2.2.2.2.2.2.2.2.2.2 j hj with e | ⟨tx, fs, e1, e2, e3, e4⟩
                  · exact Or.inl e
                  · exact Or.inr ⟨tx, fs, e1, (by rw [zl_hi _ _ (Or.inr (by omega)), zm_hx _ _ (Or.inr e2)]; exact e4), Or.inr (by omega)⟩
                rw [zcpQ_h zQ32]
                have hf0 : zPf (zcpQ κ 32 i2 A2 T2) κ := ⟨fun o ho => zcpQ_io κ 32 i2 A2 T2 ho, fun q h1 h2 h3 => zcpQ_ro κ 32 i2 A2 T2 (by omega), fun q hq => zcpQ_to κ 32 i2 A2 T2 (by omega)⟩
                have hQ32 : zQc (zcpQ κ 32 i2 A2 T2) ρ n 32 K m hn t Ls := by
                  have := zQR_e hQ9 hm7 h.2.1.2.2.2.2.2.2.2.1.2.1 h.2.1.2.2.2.2.2.2.2.2.2.1 hE
                  unfold zQc
                  rw [zcpQ_i κ 32 i2 A2 T2, zcpQ_t κ 32 i2 A2 T2]
                  refine zQR_e this hm7 h.2.1.2.2.2.2.2.2.2.1.2.1 h.2.1.2.2.2.2.2.2.2.2.2.1 ⟨⟨rfl, rfl, rfl, rfl⟩, fun c j c1 c9 _ => ?_, fun _ _ => rfl⟩
                  show (zcpQ κ 32 i2 A2 T2).2.1 (32 + c) j = _
                  rw [zcpQ_r κ 32 i2 A2 T2 c1 c9]
                have hl := zc_weeks_loop (l := l) (G := G) (D := D) (n := n) (σ := σ) (ρ := ρ) (post := P1) (κ := κ) (rk := zrkK K) (Lo := zLoK K Ls) (bb := bb) (hn := hn) (t := t) (Ls := Ls) (by omega) (Nat.pos_of_ne_zero m0) b2 h.2.2.1.1.1 (zwk (zLoK K Ls) (zrkK K) m bb K a 0) (fun κ' hf hKQ hQQ hc => by
                  have hp := hp κ' hf hQQ
                  refine at_aload_n dX11_weeks_160 rfl ?_
                  refine at_iload dX11_weeks_161 rfl ?_
                  refine at_callV1 (d := D - 1) dX11_weeks_163 mv_X11_117 (zl_o rfl) (Nat.le_of_ble_eq_true rfl) (zq_r0 (by omega) (by omega) (by omega)) ?_
                  refine zc_accept ?_
                  refine at_iret dX11_weeks_166 rfl (by omega) (by omega) ?_
                  exact hp
                  ) bb 0 K a 0 _ (Nat.zero_add _) (Nat.le_refl _) (by omega) hf0 h.2.1 rfl rfl hQ32 rfl
                refine at_iload_n dX11_weeks_56 rfl ?_
                refine at_istore_n dX11_weeks_57 rfl (by decide) ?_
                refine at_iconst dX11_weeks_58 (v := nI 0) (by decide) ?_
                refine at_istore dX11_weeks_59 (by decide) ?_
                refine at_iconst dX11_weeks_61 (v := nI 0) (by decide) ?_
                refine at_istore dX11_weeks_62 (by decide) ?_
                exact at_lv [0, 2, 3, 4, 5] hl
              · exact absurd c35 m0
            · omega
end ZK26

