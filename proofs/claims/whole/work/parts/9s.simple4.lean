/-! ===== calls on both sides: fed, forgotten, in force ===== -/
section ZK16
variable {l : Launch} {G : zq_G} {D n b : Nat} {κ κ' : zl_S} {σ τ : zm_S} {ρ : Nat → zq_E} {K K' : Nat → Int32} {m hn t z : Nat} {Ls : Nat → List zLC} {Λ Λ' : List Nat} {Lo : Option (List zLC)} {post : Option Value → Nat → (Nat → zq_E) → Prop}
theorem zpf_2 (κ : zl_S) (U U' : Nat → Int32) (v w : Int32) : zl_si (zl_sA (zl_si (zl_sA κ 47 U) 8 7 v) 47 U') 8 7 w = zl_si (zl_sA κ 47 U') 8 7 w := by
  rw [show zl_sA (zl_si (zl_sA κ 47 U) 8 7 v) 47 U' = zl_si (zl_sA (zl_sA κ 47 U) 47 U') 8 7 v from rfl, zlA_A, zsi2_2]
theorem zk_feed {a b c d e : Int32} (hD : 88 ≤ D) (h : zIV n κ σ ρ K m hn t z Ls Λ) : zCase l G D 0 0 yX11_feed yX12_feed [.int a, .int b, .int c, .int d, .int e] n κ σ ρ := by
  intro P1 h1
  obtain ⟨t1, t2, t3, t4, t5⟩ := h.2.2.2.2.1
  by_cases hz : 380 < z
  · have hp := h1 (.int (-1)) n (zl_h κ (zm_h σ ρ)) (by exact ⟨rfl, _, rfl⟩) (fun P2 h2 => by
      rw [zlm]
      refine zm_feed t1 t2 (fun _ => ?_) (fun f => absurd f (by omega))
      rw [← zlm]
      exact h2 _ _ _ _ (zfin h))
    refine zq_enter (cc := cX11_feed) (nL := 6) (ret := (some .int)) cw_X11_feed (by decide) rfl (Nat.le_of_ble_eq_true rfl) ?_
    refine at_aload_n dX11_feed_0 rfl ?_
    refine at_get dX11_feed_1 fl_X11_40 (zl_o rfl) rfl ?_
    rw [t3]
    refine at_sipush dX11_feed_4 (v := nI 380) (by decide) ?_
    refine at_leN (tgt := 12) dX11_feed_7 (by decide) (by omega) (by omega) (fun c7 => ?_) (fun c7 => ?_)
    · omega
    · refine at_iconst dX11_feed_10 (v := -1) rfl ?_
      refine at_iret dX11_feed_11 rfl (by omega) (by omega) ?_
      exact hp
  · have hp : ∀ U, (∀ j, j < z → U j = κ.2.1 47 j) → (∀ i k, i < 5 → k < 4 → U (z + 4 * i + k) = nI (zub (zf5 a b c d e i) k)) → P1 (some (.int (nI (z + 20)))) n (zl_h (zl_si (zl_sA κ 47 U) 8 7 (nI (z + 20))) (zm_h σ ρ)) := fun U u1 u2 => h1 _ n _ (by exact ⟨rfl, _, rfl⟩) (fun P2 h2 => by
      rw [zlm]
      refine zm_feed t1 t2 (fun f => absurd f (by omega)) (fun _ F T' v1 v2 => ?_)
      rw [← zlm]
      refine h2 _ _ _ _ (zfin (zIV_tp h (by omega) (fun j hj => ?_)))
      rcases Nat.lt_or_ge j z with g | g
      · obtain ⟨x, x1, x2, x3⟩ := t4 j g
        exact ⟨x, x1, (u1 j g).trans x2, (v1 j g).trans x3⟩
      · obtain ⟨i, k, hi, hk, rfl⟩ : ∃ i k, i < 5 ∧ k < 4 ∧ j = z + 4 * i + k := ⟨(j - z) / 4, (j - z) % 4, by omega, by omega, by omega⟩
        refine ⟨zub (zf5 a b c d e i) k, zub_lt _ _, u2 i k hi hk, ?_⟩
        rw [zub_by _ hk, show z + 4 * i + k = z + (4 * i + k) by omega, v2 (4 * i + k) (by omega)]
        unfold zby
        rw [show (4 * i + k) / 4 = i by omega, show (4 * i + k) % 4 = k by omega])
    have e7 : ∀ (U : Nat → Int32) (x : Nat), (zl_si (zl_sA κ 47 U) 8 7 (nI x)).1 8 7 = nI x := fun U x => zsi2_s _ _ _ _
    have e47 : ∀ (U : Nat → Int32) (x : Nat), (zl_si (zl_sA κ 47 U) 8 7 (nI x)).2.1 47 = U := fun U x => zlA_s _ _ _
    refine zq_enter (cc := cX11_feed) (nL := 6) (ret := (some .int)) cw_X11_feed (by decide) rfl (Nat.le_of_ble_eq_true rfl) ?_
    refine at_aload_n dX11_feed_0 rfl ?_
    refine at_get dX11_feed_1 fl_X11_40 (zl_o rfl) rfl ?_
    rw [t3]
    refine at_sipush dX11_feed_4 (v := nI 380) (by decide) ?_
    refine at_leN (tgt := 12) dX11_feed_7 (by decide) (by omega) (by omega) (fun c7 => ?_) (fun c7 => ?_)
    · refine at_aload_n dX11_feed_12 rfl ?_
      refine at_iload_n dX11_feed_13 rfl ?_
      refine at_callV1 (d := D - 1) dX11_feed_14 mv_X11_175 (zl_o rfl) (Nat.le_of_ble_eq_true rfl) (zq_r0 (by omega) (by omega) (by omega)) ?_
      refine zc_putFour t3 (by omega) (fun U1 p1 p2 => ?_)
      refine at_aload_n dX11_feed_17 rfl ?_
      refine at_iload_n dX11_feed_18 rfl ?_
      refine at_callV1 (d := D - 1) dX11_feed_19 mv_X11_175 (zl_o rfl) (Nat.le_of_ble_eq_true rfl) (zq_r0 (by omega) (by omega) (by omega)) ?_
      refine zc_putFour (e7 U1 (z + 4)) (by omega) (fun U2 q1 q2 => ?_)
      rw [zpf_2]
      rw [e47] at q1
      refine at_aload_n dX11_feed_22 rfl ?_
      refine at_iload_n dX11_feed_23 rfl ?_
      refine at_callV1 (d := D - 1) dX11_feed_24 mv_X11_175 (zl_o rfl) (Nat.le_of_ble_eq_true rfl) (zq_r0 (by omega) (by omega) (by omega)) ?_
      refine zc_putFour (e7 U2 (z + 4 + 4)) (by omega) (fun U3 r1 r2 => ?_)
      rw [zpf_2]
      rw [e47] at r1
      refine at_aload_n dX11_feed_27 rfl ?_
      refine at_iload dX11_feed_28 rfl ?_
      refine at_callV1 (d := D - 1) dX11_feed_30 mv_X11_175 (zl_o rfl) (Nat.le_of_ble_eq_true rfl) (zq_r0 (by omega) (by omega) (by omega)) ?_
      refine zc_putFour (e7 U3 (z + 4 + 4 + 4)) (by omega) (fun U4 s1 s2 => ?_)
      rw [zpf_2]
      rw [e47] at s1
      refine at_aload_n dX11_feed_33 rfl ?_
      refine at_iload dX11_feed_34 rfl ?_
      refine at_callV1 (d := D - 1) dX11_feed_36 mv_X11_175 (zl_o rfl) (Nat.le_of_ble_eq_true rfl) (zq_r0 (by omega) (by omega) (by omega)) ?_
      refine zc_putFour (e7 U4 (z + 4 + 4 + 4 + 4)) (by omega) (fun U5 w1 w2 => ?_)
      rw [zpf_2]
      rw [e47] at w1
      have hp := hp U5 (fun j hj => by rw [w1 j (by omega), s1 j (by omega), r1 j (by omega), q1 j (by omega), p1 j hj]) (fun i k hi hk => by
        rcases (show i = 0 ∨ i = 1 ∨ i = 2 ∨ i = 3 ∨ i = 4 by omega) with rfl | rfl | rfl | rfl | rfl
        · rw [w1 _ (by omega), s1 _ (by omega), r1 _ (by omega), q1 _ (by omega)]; exact p2 k hk
        · rw [w1 _ (by omega), s1 _ (by omega), r1 _ (by omega)]; exact q2 k hk
        · rw [w1 _ (by omega), s1 _ (by omega)]; exact r2 k hk
        · rw [w1 _ (by omega)]; exact s2 k hk
        · exact w2 k hk)
      refine at_aload_n dX11_feed_39 rfl ?_
      refine at_get dX11_feed_40 fl_X11_40 (zl_o rfl) rfl ?_
      rw [e7]
      refine at_iret dX11_feed_43 rfl (by omega) (by omega) ?_
      exact hp
    · omega
theorem zk_forget (hD : 88 ≤ D) (h : zIV n κ σ ρ K m hn t z Ls Λ) : zCase l G D 0 0 yX11_forget yX12_forget [] n κ σ ρ := by
  intro P1 h1
  have hm7 := h.2.1.1.2.1
  have eK := h.1.2.2.1
  have ko : ∀ j, j ≠ 74 → upd K 74 (nI 0) j = K j := fun j hj => upd_o _ hj _
  have hKW : zKW (upd K 74 (nI 0)) m 0 t Ls := by
    refine zKW_g h.2.1 (fun j hj => ko j (by omega)) (ko 73 (by decide)) ?_ ?_ ?_ (zKW_sd h.2.1 (fun j j1 j2 => ko j (by omega))) ⟨upd_s _ _ _, by decide, fun i hi => absurd hi (Nat.not_lt_zero _)⟩ (zKW_ll h.2.1 (fun j hj => ko j (by omega)))
    · rw [ko 19 (by decide)]; exact h.2.1.2.2.2.1
    · rw [ko 71 (by decide)]; exact h.2.1.2.2.2.2.1
    · rw [ko 72 (by decide)]; exact h.2.1.2.2.2.2.2.1
  have c1 : ∀ o, o ≠ 9 → (zl_si κ 9 8 (nI 0)).1 o = κ.1 o := fun o ho => zsi2_o _ ho _ _
  have c2 : ∀ j, j ≠ 8 → (zl_si κ 9 8 (nI 0)).1 9 j = κ.1 9 j := fun j hj => zsi2_k _ 9 hj _
  have hQ' : zQc (zl_si κ 9 8 (nI 0)) ρ n 9 (upd K 74 (nI 0)) m 0 t Ls := zQc_g h.2.2.1 hm7 (c2 0 (by decide)) (fun _ _ _ => rfl) (fun j hj => ko j (by omega)) (ko 71 (by decide)) (ko 72 (by decide)) (zsi2_s _ _ _ _) (fun j hj => absurd hj (Nat.not_lt_zero _)) ((c2 11 (by decide)).trans h.2.2.1.1.2.2.1) ((c2 13 (by decide)).trans (h.2.2.1.1.2.2.2.trans (ko 76 (by decide)).symm)) h.2.2.1.2.2.2.2.2.2.2.2.2.1 h.2.2.1.2.2.2.2.2.2.2.2.2.2
  have hp := h1 (.int (nI hn)) n (zl_h (zl_si κ 9 8 (nI 0)) (zm_h σ ρ)) (by exact ⟨rfl, _, rfl⟩) (fun P2 h2 => by
    rw [zlm]
    refine zm_forget ?_
    rw [eK, h.2.1.2.2.2.2.2.2.2.1.1, ← zlm]
    refine h2 _ _ _ _ (zfin (zIV_mk (τ := zsK σ (upd K 74 (nI 0))) h hKW hQ' (zIV_LG h (fun j hj => ko j (by omega)) (c1 43 (by decide)) rfl rfl (zsA_o _ (by decide) _)) (zsK_k _ _) (fun y y1 y5 => ?_) (c1 8 (by decide)) (c1 32 (by decide)) (fun _ _ => rfl) rfl rfl (fun _ _ => rfl) (fun j hj => zsA_o _ (by omega) _)))
    rw [show (zsK σ (upd K 74 (nI 0))).2.1 76 = σ.2.1 76 from zsA_o _ (by decide) _, zrkK_c (fun j hj => ko _ (by omega))]
    exact zIV_rk h y y1 y5)
  rw [← h.2.2.1.1.2.1] at hp
  refine zq_enter (cc := cX11_forget) (nL := 2) (ret := (some .int)) cw_X11_forget (by decide) rfl (Nat.le_of_ble_eq_true rfl) ?_
  refine at_aload_n dX11_forget_0 rfl ?_
  refine at_get dX11_forget_1 fl_X11_12 (zl_o rfl) rfl ?_
  refine at_get dX11_forget_4 fl_X11_300 (zl_q zQ9) rfl ?_
  refine at_istore_n dX11_forget_7 rfl (by decide) ?_
  refine at_aload_n dX11_forget_8 rfl ?_
  refine at_get dX11_forget_9 fl_X11_12 (zl_o rfl) rfl ?_
  refine at_iconst dX11_forget_12 (v := nI 0) (by decide) ?_
  refine at_lput dX11_forget_13 (pl_X11_300 _) (zl_Iq zQ9 (by decide)) rfl rfl ?_
  refine at_iload_n dX11_forget_16 rfl ?_
  refine at_iret dX11_forget_17 rfl (by omega) (by omega) ?_
  exact hp
theorem zk_force {v : Int32} (hD : 88 ≤ D) (h : zIV n κ σ ρ K m hn t z Ls Λ) : zCase l G D 0 0 yX11_force yX12_force [.int v] n κ σ ρ := by
  intro P1 h1
  have hm7 := h.2.1.1.2.1
  have eK := h.1.2.2.1
  obtain ⟨l1, l2, l3, l4⟩ := h.2.1.2.2.2.2.2.2.2.2
  have hlt : σ.2.1 72 75 = nI t := by rw [eK]; exact l1
  cases e : zlw t v with
  | false =>
    have e' := e
    rw [zlw_eq (by omega), Bool.or_eq_false_iff, decide_eq_false_iff_not] at e'
    obtain ⟨v1, ex⟩ := e'
    have hp := h1 (.int (-(nI 2))) n (zl_h (zlref κ 2) (zm_h σ ρ)) (by exact ⟨rfl, _, rfl⟩) (fun P2 h2 => by
      rw [zlm]
      refine zm_force (by omega) hlt (fun _ => ?_) (fun f => ?_)
      · rw [← zlm]
        exact h2 _ _ _ _ (zfin (zIV_ref h (by omega)))
      · rw [e] at f; cases f)
    refine zq_enter (cc := cX11_force) (nL := 3) (ret := (some .int)) cw_X11_force (by decide) rfl (Nat.le_of_ble_eq_true rfl) ?_
    refine at_iload_n dX11_force_0 rfl ?_
    refine at_iconst dX11_force_1 (v := -1) rfl ?_
    refine at_icmp_eq (tgt := 23) dX11_force_2 (by decide) (fun c2 => ?_) (fun c2 => ?_)
    · exact absurd c2 v1
    · refine at_aload_n dX11_force_5 rfl ?_
      refine at_get dX11_force_6 fl_X11_12 (zl_o rfl) rfl ?_
      refine at_iload_n dX11_force_9 rfl ?_
      refine at_callV1 (d := D - 1) dX11_force_10 mv_X11_216 (zl_q zQ9) (Nat.le_of_ble_eq_true rfl) (zq_r0 (by omega) (by omega) (by omega)) ?_
      refine zc_hasLaw zQ9 h.2.2.1.1.2.2.1 l2 ?_
      rw [ex]
      refine at_if_neB (tgt := 23) dX11_force_13 (by decide) (fun c13 => ?_) (fun c13 => ?_)
      · cases c13
      · refine at_aload_n dX11_force_16 rfl ?_
        refine at_bipush dX11_force_17 (v := -2) (by decide) ?_
        refine at_callV1 (d := D - 1) dX11_force_19 mv_X11_103 (zl_o rfl) (Nat.le_of_ble_eq_true rfl) (zq_r0 (by omega) (by omega) (by omega)) ?_
        refine zc_refuse (q := 2) (by omega) ?_
        refine at_iret dX11_force_22 rfl (by omega) (by omega) ?_
        exact hp
  | true =>
    have ko : ∀ j, j ≠ 76 → upd K 76 v j = K j := fun j hj => upd_o _ hj _
    have hin := zlw_t (by omega) e
    have hKW : zKW (upd K 76 v) m hn t Ls := by
      refine zKW_g h.2.1 (fun j hj => ko j (by omega)) (ko 73 (by decide)) ?_ ?_ ?_ (zKW_sd h.2.1 (fun j j1 j2 => ko j (by omega))) (zKW_hh h.2.1 (fun j j1 j2 => ko j (by omega)) (ko 74 (by decide))) ⟨(ko 75 (by decide)).trans l1, l2, by rw [upd_s]; exact hin, fun u hu => zLawAt_c (l4 u hu) (fun j hj => ko j (by omega))⟩
      · rw [ko 19 (by decide)]; exact h.2.1.2.2.2.1
      · rw [ko 71 (by decide)]; exact h.2.1.2.2.2.2.1
      · rw [ko 72 (by decide)]; exact h.2.1.2.2.2.2.2.1
    have c1 : ∀ o, o ≠ 9 → (zl_si κ 9 13 v).1 o = κ.1 o := fun o ho => zsi2_o _ ho _ _
    have c2 : ∀ j, j ≠ 13 → (zl_si κ 9 13 v).1 9 j = κ.1 9 j := fun j hj => zsi2_k _ 9 hj _
    have hQ' : zQc (zl_si κ 9 13 v) ρ n 9 (upd K 76 v) m hn t Ls := zQc_g h.2.2.1 hm7 (c2 0 (by decide)) (fun _ _ _ => rfl) (fun j hj => ko j (by omega)) (ko 71 (by decide)) (ko 72 (by decide)) ((c2 8 (by decide)).trans h.2.2.1.1.2.1) (fun j hj => by
      have := h.2.1.2.2.2.2.2.2.2.1.2.1
      rw [ko (55 + 2 * j) (by omega), ko (55 + 2 * j + 1) (by omega)]
      exact h.2.2.1.2.2.2.2.2.2.2.2.1 j hj) ((c2 11 (by decide)).trans h.2.2.1.1.2.2.1) ((zsi2_s _ _ _ _).trans (upd_s _ _ _).symm) h.2.2.1.2.2.2.2.2.2.2.2.2.1 h.2.2.1.2.2.2.2.2.2.2.2.2.2
    have hp := h1 (.int (K 76)) n (zl_h (zl_si (zl_si κ 9 13 v) 8 18 (nI 0)) (zm_h σ ρ)) (by exact ⟨rfl, _, rfl⟩) (fun P2 h2 => by
      rw [zlm]
      refine zm_force (by omega) hlt (fun f => ?_) (fun _ => ?_)
      · rw [e] at f; cases f
      · rw [eK, ← zlm]
        refine h2 _ _ _ _ (zfin (zIV_acc (zIV_mk (τ := zsK σ (upd K 76 v)) h hKW hQ' (zIV_LG h (fun j hj => ko j (by omega)) (c1 43 (by decide)) rfl rfl (zsA_o _ (by decide) _)) (zsK_k _ _) (fun y y1 y5 => ?_) (c1 8 (by decide)) (c1 32 (by decide)) (fun _ _ => rfl) rfl rfl (fun _ _ => rfl) (fun j hj => zsA_o _ (by omega) _))))
        rw [show (zsK σ (upd K 76 v)).2.1 76 = σ.2.1 76 from zsA_o _ (by decide) _, zrkK_c (fun j hj => ko _ (by omega))]
        exact zIV_rk h y y1 y5)
    rw [← h.2.2.1.1.2.2.2] at hp
    rcases hin with rfl | ⟨j, hj, rfl⟩
    · refine zq_enter (cc := cX11_force) (nL := 3) (ret := (some .int)) cw_X11_force (by decide) rfl (Nat.le_of_ble_eq_true rfl) ?_
      refine at_iload_n dX11_force_0 rfl ?_
      refine at_iconst dX11_force_1 (v := -1) rfl ?_
      refine at_icmp_eq (tgt := 23) dX11_force_2 (by decide) (fun c2 => ?_) (fun c2 => ?_)
      · refine at_aload_n dX11_force_23 rfl ?_
        refine at_get dX11_force_24 fl_X11_12 (zl_o rfl) rfl ?_
        refine at_get dX11_force_27 fl_X11_219 (zl_q zQ9) rfl ?_
        refine at_istore_n dX11_force_30 rfl (by decide) ?_
        refine at_aload_n dX11_force_31 rfl ?_
        refine at_get dX11_force_32 fl_X11_12 (zl_o rfl) rfl ?_
        refine at_iload_n dX11_force_35 rfl ?_
        refine at_lput dX11_force_36 (pl_X11_219 _) (zl_Iq zQ9 (by decide)) rfl rfl ?_
        refine at_aload_n dX11_force_39 rfl ?_
        refine at_iload_n dX11_force_40 rfl ?_
        refine at_callV1 (d := D - 1) dX11_force_41 mv_X11_117 (zl_o rfl) (Nat.le_of_ble_eq_true rfl) (zq_r0 (by omega) (by omega) (by omega)) ?_
        refine zc_accept ?_
        refine at_iret dX11_force_44 rfl (by omega) (by omega) ?_
        exact hp
      · exact absurd rfl c2
    · have v1 : ¬ nI j = -1 := nI_ne_m1 (by omega)
      refine zq_enter (cc := cX11_force) (nL := 3) (ret := (some .int)) cw_X11_force (by decide) rfl (Nat.le_of_ble_eq_true rfl) ?_
      refine at_iload_n dX11_force_0 rfl ?_
      refine at_iconst dX11_force_1 (v := -1) rfl ?_
      refine at_icmp_eq (tgt := 23) dX11_force_2 (by decide) (fun c2 => ?_) (fun c2 => ?_)
      · exact absurd c2 v1
      · refine at_aload_n dX11_force_5 rfl ?_
        refine at_get dX11_force_6 fl_X11_12 (zl_o rfl) rfl ?_
        refine at_iload_n dX11_force_9 rfl ?_
        refine at_callV1 (d := D - 1) dX11_force_10 mv_X11_216 (zl_q zQ9) (Nat.le_of_ble_eq_true rfl) (zq_r0 (by omega) (by omega) (by omega)) ?_
        refine zc_hasLaw zQ9 h.2.2.1.1.2.2.1 l2 ?_
        rw [zix_n (by omega), decide_eq_true hj]
        refine at_if_neB (tgt := 23) dX11_force_13 (by decide) (fun c13 => ?_) (fun c13 => ?_)
        · refine at_aload_n dX11_force_23 rfl ?_
          refine at_get dX11_force_24 fl_X11_12 (zl_o rfl) rfl ?_
          refine at_get dX11_force_27 fl_X11_219 (zl_q zQ9) rfl ?_
          refine at_istore_n dX11_force_30 rfl (by decide) ?_
          refine at_aload_n dX11_force_31 rfl ?_
          refine at_get dX11_force_32 fl_X11_12 (zl_o rfl) rfl ?_
          refine at_iload_n dX11_force_35 rfl ?_
          refine at_lput dX11_force_36 (pl_X11_219 _) (zl_Iq zQ9 (by decide)) rfl rfl ?_
          refine at_aload_n dX11_force_39 rfl ?_
          refine at_iload_n dX11_force_40 rfl ?_
          refine at_callV1 (d := D - 1) dX11_force_41 mv_X11_117 (zl_o rfl) (Nat.le_of_ble_eq_true rfl) (zq_r0 (by omega) (by omega) (by omega)) ?_
          refine zc_accept ?_
          refine at_iret dX11_force_44 rfl (by omega) (by omega) ?_
          exact hp
        · cases c13
end ZK16

