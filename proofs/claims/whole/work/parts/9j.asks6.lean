/-! ===== calls on both sides: what was heard ===== -/
section ZK8
variable {l : Launch} {G : zq_G} {D n : Nat} {κ : zl_S} {σ : zm_S} {ρ : Nat → zq_E} {K : Nat → Int32} {m hn t z : Nat} {Ls : Nat → List zLC} {Λ : List Nat}
theorem zDm_t {κ' : zl_S} {N : Nat} {dm : Nat → Nat} (h : zDm κ' N dm) (hN : N < 8) (h1 : dm N / 10 ≤ 5) (h2 : dm N % 10 ≤ 5) : zDm (zl_si (zl_sa κ' 58 N (nI (dm N))) 56 2 (nI (N + 1))) (N + 1) dm := by
  have := zDm_s h hN h1 h2
  have e0 : (fun j => if j = N then dm N else dm j) = dm := by
    funext j
    by_cases e : j = N
    · rw [if_pos e, e]
    · rw [if_neg e]
  rw [e0] at this
  exact this
theorem zc_dh_loop {P1 : Option Value → Nat → (Nat → zq_E) → Prop} {x w ha hb : Nat → Nat} (hD : 3 ≤ D) (hQ : zQN κ 9 m x w) (h8 : hn ≤ 8) (hh : κ.1 9 8 = nI hn) (hha : ∀ i, i < hn → κ.2.1 (9 + 8) i = nI (ha i) ∧ κ.2.1 (9 + 9) i = nI (hb i) ∧ ha i < m ∧ hb i < m)
    (hp : ∀ κ', zKf κ' κ → zDm κ' hn (fun i => zdf (x (ha i)) (x (hb i))) → P1 none n (zl_h κ' ρ)) :
    ∀ f i κ', i + f = hn → zKf κ' κ → zDm κ' i (fun i => zdf (x (ha i)) (x (hb i))) → zq_At l G (zq_rm D 0 0) mX11_demandHeard (zq_QF G P1 0 0) 9 [(0, .ref 8), (1, .int (nI i))] [] n (zl_h κ' ρ) 0 0 := by
  have hm7 := hQ.2.1
  intro f
  induction f with
  | zero =>
    intro i κ' hi hf hM
    obtain rfl : i = hn := hi
    have hp := hp κ' hf hM
    refine at_iload_n dX11_demandHeard_9 rfl ?_
    refine at_aload_n dX11_demandHeard_10 rfl ?_
    refine at_get dX11_demandHeard_11 fl_X11_12 (zl_o rfl) rfl ?_
    refine at_get dX11_demandHeard_14 fl_X11_300 (zl_q zQ9) rfl ?_
    rw [show κ'.1 9 8 = nI i by rw [(zKf_q hf).1]; exact hh]
    refine at_geN (tgt := 74) dX11_demandHeard_17 (by decide) (by omega) (by omega) (fun c17 => ?_) (fun c17 => ?_)
    · refine at_vret dX11_demandHeard_74 rfl (by omega) (by omega) ?_
      exact hp
    · omega
  | succ f ih =>
    intro i κ' hi hf hM
    obtain ⟨a1, a2, a3, a4⟩ := hha i (by omega)
    have va := (hQ.2.2.1 _ a3).2
    have vb := (hQ.2.2.1 _ a4).2
    have va5 := va.2.1
    have vb5 := vb.2.1
    have hQ' := zQN_f hf hQ
    have e8 : κ'.2.1 (9 + 8) i = nI (ha i) := by rw [(zKf_q hf).2 8 (by decide) (by decide)]; exact a1
    have e9 : κ'.2.1 (9 + 9) i = nI (hb i) := by rw [(zKf_q hf).2 9 (by decide) (by decide)]; exact a2
    have hn' := ih (i + 1) _ (by omega) (zKf_d hf i _ _) (zDm_t hM (by omega) (zdf_5 va vb).1 (zdf_5 va vb).2)
    refine at_iload_n dX11_demandHeard_9 rfl ?_
    refine at_aload_n dX11_demandHeard_10 rfl ?_
    refine at_get dX11_demandHeard_11 fl_X11_12 (zl_o rfl) rfl ?_
    refine at_get dX11_demandHeard_14 fl_X11_300 (zl_q zQ9) rfl ?_
    rw [show κ'.1 9 8 = nI hn by rw [(zKf_q hf).1]; exact hh]
    refine at_geN (tgt := 74) dX11_demandHeard_17 (by decide) (by omega) (by omega) (fun c17 => ?_) (fun c17 => ?_)
    · omega
    · refine at_iload_n dX11_demandHeard_20 rfl ?_
      refine at_bipush dX11_demandHeard_21 (v := nI 8) (by decide) ?_
      refine at_geN (tgt := 74) dX11_demandHeard_23 (by decide) (by omega) (by omega) (fun c23 => ?_) (fun c23 => ?_)
      · omega
      · refine at_aload_n dX11_demandHeard_26 rfl ?_
        refine at_get dX11_demandHeard_27 fl_X11_61 (zl_o rfl) rfl ?_
        refine at_aload_n dX11_demandHeard_30 rfl ?_
        refine at_get dX11_demandHeard_31 fl_X11_12 (zl_o rfl) rfl ?_
        refine at_aload_n dX11_demandHeard_34 rfl ?_
        refine at_get dX11_demandHeard_35 fl_X11_12 (zl_o rfl) rfl ?_
        refine at_get dX11_demandHeard_38 fl_X11_390 (zl_q zQ9) rfl ?_
        refine at_iload_n dX11_demandHeard_41 rfl ?_
        refine at_uld (b := 9) (c := 8) dX11_demandHeard_42 zQ9 (by decide) (by decide) rfl (by show _ < 8; omega) ?_
        rw [e8]
        refine at_callV1 (d := D - 1) dX11_demandHeard_43 mv_X11_393 (zl_q zQ9) (Nat.le_of_ble_eq_true rfl) (zq_r0 (by omega) (by omega) (by omega)) ?_
        refine zc_nameOf (by omega) zQ9 hQ' a3 ?_
        refine at_aload_n dX11_demandHeard_46 rfl ?_
        refine at_get dX11_demandHeard_47 fl_X11_12 (zl_o rfl) rfl ?_
        refine at_aload_n dX11_demandHeard_50 rfl ?_
        refine at_get dX11_demandHeard_51 fl_X11_12 (zl_o rfl) rfl ?_
        refine at_get dX11_demandHeard_54 fl_X11_396 (zl_q zQ9) rfl ?_
        refine at_iload_n dX11_demandHeard_57 rfl ?_
        refine at_uld (b := 9) (c := 9) dX11_demandHeard_58 zQ9 (by decide) (by decide) rfl (by show _ < 8; omega) ?_
        rw [e9]
        refine at_callV1 (d := D - 1) dX11_demandHeard_59 mv_X11_393 (zl_q zQ9) (Nat.le_of_ble_eq_true rfl) (zq_r0 (by omega) (by omega) (by omega)) ?_
        refine zc_nameOf (by omega) zQ9 hQ' a4 ?_
        refine at_callS2 (d := D - 1) dX11_demandHeard_62 ms_X11_263 (Nat.le_of_ble_eq_true rfl) (zq_r0 (by omega) (by omega) (by omega)) ?_
        refine zc_differ (by omega) va.1 (by omega) vb.1 (by omega) ?_
        refine at_callV1 (d := D - 1) dX11_demandHeard_65 mv_X11_294 (zl_o rfl) (Nat.le_of_ble_eq_true rfl) (zq_r0 (by omega) (by omega) (by omega)) ?_
        refine zc_demand hM.1 (by omega) ?_
        refine at_iincN dX11_demandHeard_68 rfl (by decide) ?_
        refine at_goto (tgt := 9) dX11_demandHeard_71 (by decide) ?_
        exact hn'
theorem zc_demandHeard {P1 : Option Value → Nat → (Nat → zq_E) → Prop} {x w ha hb : Nat → Nat} (hD : 3 ≤ D) (hQ : zQN κ 9 m x w) (h8 : hn ≤ 8) (hh : κ.1 9 8 = nI hn) (hha : ∀ i, i < hn → κ.2.1 (9 + 8) i = nI (ha i) ∧ κ.2.1 (9 + 9) i = nI (hb i) ∧ ha i < m ∧ hb i < m)
    (hp : ∀ κ', zKf κ' κ → zDm κ' hn (fun i => zdf (x (ha i)) (x (hb i))) → P1 none n (zl_h κ' ρ)) : zq_Runs l G D 0 0 yX11_demandHeard [.ref 8] n (zl_h κ ρ) P1 := by
  have hl := zc_dh_loop (l := l) (G := G) (D := D) (n := n) (ρ := ρ) (P1 := P1) hD hQ h8 hh hha hp hn 0 (zl_si κ 56 2 (nI 0)) (Nat.zero_add _) (zKf_i (o := 56) (zKf_r κ) (by decide)) ⟨zsi2_s _ _ _ _, by omega, fun i hi => absurd hi (Nat.not_lt_zero _)⟩
  refine zq_enter (cc := cX11_demandHeard) (nL := 2) (ret := none) cw_X11_demandHeard (by decide) rfl (Nat.le_of_ble_eq_true rfl) ?_
  refine at_aload_n dX11_demandHeard_0 rfl ?_
  refine at_get dX11_demandHeard_1 fl_X11_61 (zl_o rfl) rfl ?_
  refine at_callV0 (d := D - 1) dX11_demandHeard_4 mv_X11_287 (zl_o rfl) (Nat.le_of_ble_eq_true rfl) (zq_r0 (by omega) (by omega) (by omega)) ?_
  refine zc_aClear ?_
  refine at_iconst dX11_demandHeard_7 (v := nI 0) (by decide) ?_
  refine at_istore_n dX11_demandHeard_8 rfl (by decide) ?_
  exact hl
theorem zmA_as {rk x ha hb : Nat → Nat} {N : Nat} (hr : zri rk) (hv : ∀ i, i < N → zvn (x (ha i)) ∧ zvn (x (hb i))) : ∀ k i, i + k = N → zmA rk (fun i => zdf (x (ha i)) (x (hb i))) k i = zasF rk x ha hb k i
  | 0, _, _ => rfl
  | k + 1, i, hi => by
    obtain ⟨va, vb⟩ := hv i (by omega)
    unfold zmA zasF
    rw [zmt_df hr va vb, zmA_as hr hv k (i + 1) (by omega)]
    cases zah rk (x (ha i)) (x (hb i)) with
    | false => rw [if_neg (by decide), Bool.false_and]
    | true => rw [if_pos rfl, Bool.true_and]
theorem zIV_hh (h : zIV n κ σ ρ K m hn t z Ls Λ) : ∀ i, i < hn → κ.2.1 (9 + 8) i = nI (haK K i) ∧ κ.2.1 (9 + 9) i = nI (hbK K i) ∧ haK K i < m ∧ hbK K i < m := by
  intro i hi
  obtain ⟨a1, a2, a3, a4⟩ := h.2.1.2.2.2.2.2.2.2.1.2.2 i hi
  obtain ⟨b1, b2⟩ := h.2.2.1.2.2.2.2.2.2.2.2.1 i hi
  exact ⟨b1.trans a1, b2.trans a2, a3, a4⟩
theorem zk_fits {v : Int32} (hD : 88 ≤ D) (h : zIV n κ σ ρ K m hn t z Ls Λ) : zCase l G D 0 0 yX11_fits yX12_fits [.int v] n κ σ ρ := by
  intro P1 h1
  have hm7 := h.2.1.1.2.1
  have hN := zQc_N h.2.2.1 h.2.1
  have hhh := zIV_hh h
  have e : zrtR (fun p => zasF (zrkN (zal p)) (zX1 K) (haK K) (hbK K) hn 0) v = zrtR (fun p => zmA (zrkN (zal p)) (fun i => zdf (zX1 K (haK K i)) (zX1 K (hbK K i))) hn 0) v := zrtR_c (fun q hq => (zmA_as (zrkN_inj (zal_pm hq)) (fun i hi => ⟨(hN.2.2.1 _ (hhh i hi).2.2.1).2, (hN.2.2.1 _ (hhh i hi).2.2.2).2⟩) hn 0 (Nat.zero_add _)).symm)
  have hp : ∀ κ', zKf κ' κ → P1 (some (.int (zrtR (fun p => zasF (zrkN (zal p)) (zX1 K) (haK K) (hbK K) hn 0) v))) n (zl_h κ' (zm_h σ ρ)) := fun κ' hf => h1 _ n (zl_h κ' (zm_h σ ρ)) (by exact ⟨rfl, _, rfl⟩) (fun P2 h2 => by
    rw [zlm]
    refine zm_fits (by omega) (zIV_C h) (zIV_H h) (zIV_al h).1 (zIV_al h).2 (fun _ _ _ => rfl) (fun g hh hr => ?_)
    rw [← zlm]
    refine h2 _ _ _ _ (zfin (zIV_g (zIV_f h hf) (zMf_a2 σ g hh) (fun y y1 y5 => ?_)))
    rw [zsA_s]
    exact hr y y1 y5)
  rw [e] at hp
  refine zq_enter (cc := cX11_fits) (nL := 2) (ret := (some .int)) cw_X11_fits (by decide) rfl (Nat.le_of_ble_eq_true rfl) ?_
  refine at_aload_n dX11_fits_0 rfl ?_
  refine at_callV0 (d := D - 1) dX11_fits_1 mv_X11_306 (zl_o rfl) (Nat.le_of_ble_eq_true rfl) (zq_r0 (by omega) (by omega) (by omega)) ?_
  refine zc_demandHeard (by omega) hN h.2.1.2.2.2.2.2.2.2.1.2.1 h.2.2.1.1.2.1 hhh (fun κ' hf hM => ?_)
  refine at_aload_n dX11_fits_4 rfl ?_
  refine at_get dX11_fits_5 fl_X11_61 (zl_o rfl) rfl ?_
  refine at_iload_n dX11_fits_8 rfl ?_
  refine at_callV1 (d := D - 1) dX11_fits_9 mv_X11_297 (zl_o rfl) (Nat.le_of_ble_eq_true rfl) (zq_r0 (by omega) (by omega) (by omega)) ?_
  refine zc_found (by omega) hM (by rw [hf.2.2.1]; exact h.1.2.1) (fun g g0 => ?_)
  have hp := hp _ (zKf_7 (g := g) hf (by rw [g0, h.1.2.1]))
  refine at_iret dX11_fits_12 rfl (by omega) (by omega) ?_
  exact hp
theorem zk_ask {v : Int32} (hD : 88 ≤ D) (h : zIV n κ σ ρ K m hn t z Ls Λ) : zCase l G D 0 0 yX11_ask yX12_ask [.int v] n κ σ ρ := by
  intro P1 h1
  have hm7 := h.2.1.1.2.1
  have hN := zQc_N h.2.2.1 h.2.1
  have hhh := zIV_hh h
  have hmod := fun (P2 : Option Value → Nat → (Nat → zq_E) → Prop) (κ' : zl_S) => zm_ask (l := l) (G := G) (D := D) (n := n) (σ := σ) (ρ := zl_h κ' ρ) (post := P2) (v := v) (by omega) (zIV_C h) (zIV_H h) (zIV_al h).1 (zIV_al h).2
  by_cases hv : v = nI 0 ∨ v = nI 1
  · have hok : ∀ q, q < 120 → zmA (zrkN (zal q)) (fun i => zdf (zX1 K (haK K i)) (zX1 K (hbK K i))) hn 0 = zasF (zrkN (zal q)) (zX1 K) (haK K) (hbK K) hn 0 := fun q hq => zmA_as (zrkN_inj (zal_pm hq)) (fun i hi => ⟨(hN.2.2.1 _ (hhh i hi).2.2.1).2, (hN.2.2.1 _ (hhh i hi).2.2.2).2⟩) hn 0 (Nat.zero_add _)
    have e1 : zNf (fun i => zdf (zX1 K (haK K i)) (zX1 K (hbK K i))) hn = zcnt (fun a => zasF (zrkN (zal a)) (zX1 K) (haK K) (hbK K) hn 0) 120 := zcnt_c 120 (fun j hj => hok j hj)
    have e2 : zTf (zX1 K) (fun i => zdf (zX1 K (haK K i)) (zX1 K (hbK K i))) hn = zT (zX1 K) (haK K) (hbK K) hn 120 := by
      funext p q
      exact zcnt_c 120 (fun j hj => by rw [hok j hj])
    have hval : ∀ wh, v = nI wh → wh < 2 → (if (zask (zX1 K) (haK K) (hbK K) m hn).1 = 0 ∨ v = nI 0 then zlast (zask (zX1 K) (haK K) (hbK K) m hn).1 else nI (zask (zX1 K) (haK K) (hbK K) m hn).2) = zbtA (zX1 K) (fun i => zdf (zX1 K (haK K i)) (zX1 K (hbK K i))) hn m wh := by
      intro wh ew h2
      unfold zbtA zask
      rw [e1, e2]
      generalize zcnt (fun a => zasF (zrkN (zal a)) (zX1 K) (haK K) (hbK K) hn 0) 120 = c
      by_cases hc : c = 0
      · have r1 : c = 0 ∨ (zkO (zX1 K) (zT (zX1 K) (haK K) (hbK K) hn 120) c m m 0 (0, 1000000)).1 = 0 := Or.inl hc
        rw [if_pos r1, if_pos hc]
        have l1 : (0, 1000000).1 = 0 ∨ v = nI 0 := Or.inl rfl
        rw [if_pos l1]
        rfl
      · rw [if_neg hc]
        generalize zkO (zX1 K) (zT (zX1 K) (haK K) (hbK K) hn 120) c m m 0 (0, 1000000) = s
        by_cases hs : s.1 = 0
        · have r1 : c = 0 ∨ s.1 = 0 := Or.inr hs
          have l1 : s.1 = 0 ∨ v = nI 0 := Or.inl hs
          rw [if_pos r1, if_pos l1, hs]
          rfl
        · have r1 : ¬ (c = 0 ∨ s.1 = 0) := fun g => g.elim hc hs
          rw [if_neg r1]
          rcases (show wh = 0 ∨ wh = 1 by omega) with rfl | rfl
          · have l1 : s.1 = 0 ∨ v = nI 0 := Or.inr ew
            rw [if_pos l1, if_pos rfl]
          · have l1 : ¬ (s.1 = 0 ∨ v = nI 0) := fun g => g.elim hs (fun g => by rw [ew] at g; exact absurd g (by decide))
            rw [if_neg l1, if_neg (by decide)]
    have hp : ∀ wh, v = nI wh → wh < 2 → ∀ κ', zKf κ' κ → P1 (some (.int (zbtA (zX1 K) (fun i => zdf (zX1 K (haK K i)) (zX1 K (hbK K i))) hn m wh))) n (zl_h κ' (zm_h σ ρ)) := fun wh ew h2' κ' hf => h1 _ n (zl_h κ' (zm_h σ ρ)) (by exact ⟨rfl, _, rfl⟩) (fun P2 h2 => by
      rw [zlm]
      refine hmod P2 κ' (fun f => ?_) (fun A g hh hr _ => ?_)
      · rw [ew] at f
        have := zlies_i (a := 0) (b := 1) (x := wh) (by decide) (by decide) (Nat.zero_le _) (by omega)
        rw [show (decide (nI 0 ≤ nI wh) && decide (nI wh ≤ nI 1)) = true from this] at f
        cases f
      · rw [hval wh ew h2', ← zlm]
        refine h2 _ _ _ _ (zfin (zIV_g (zIV_f h hf) ⟨fun _ _ => rfl, fun a ha => by rw [zsA_o _ (by omega), zsA_o _ (by omega), zsA_o _ (by omega)]⟩ (fun y y1 y5 => ?_)))
        rw [zsA_s]
        exact hr y y1 y5)
    clear hmod hval
    rcases hv with rfl | rfl
    · have hp := hp 0 rfl (by decide)
      refine zq_enter (cc := cX11_ask) (nL := 2) (ret := (some .int)) cw_X11_ask (by decide) rfl (Nat.le_of_ble_eq_true rfl) ?_
      refine at_iload_n dX11_ask_0 rfl ?_
      refine at_if_eqN (tgt := 11) dX11_ask_1 (by decide) (by omega) (fun c1 => ?_) (fun c1 => ?_)
      · refine at_aload_n dX11_ask_11 rfl ?_
        refine at_callV0 (d := D - 1) dX11_ask_12 mv_X11_306 (zl_o rfl) (Nat.le_of_ble_eq_true rfl) (zq_r0 (by omega) (by omega) (by omega)) ?_
        refine zc_demandHeard (by omega) hN h.2.1.2.2.2.2.2.2.2.1.2.1 h.2.2.1.1.2.1 hhh (fun κ' hf hM => ?_)
        refine at_aload_n dX11_ask_15 rfl ?_
        refine at_get dX11_ask_16 fl_X11_61 (zl_o rfl) rfl ?_
        refine at_aload_n dX11_ask_19 rfl ?_
        refine at_get dX11_ask_20 fl_X11_12 (zl_o rfl) rfl ?_
        refine at_iload_n dX11_ask_23 rfl ?_
        refine at_callV2 (d := D - 1) dX11_ask_24 mv_X11_309 (zl_o rfl) (Nat.le_of_ble_eq_true rfl) (zq_r0 (by omega) (by omega) (by omega)) ?_
        refine zc_bestTwo (wh := 0) (by omega) (by decide) zQ9 (zQN_f hf hN) hM (by rw [hf.2.2.1]; exact h.1.2.1) (fun d t g g0 => ?_)
        have hp := hp _ (zKf_7 (g := g) (zKf_A (a := 60) (zKf_A (a := 59) hf d (by decide)) t (by decide)) (by rw [g0, h.1.2.1]))
        refine at_iret dX11_ask_27 rfl (by omega) (by omega) ?_
        exact hp
      · exact absurd rfl c1
    · have hp := hp 1 rfl (by decide)
      refine zq_enter (cc := cX11_ask) (nL := 2) (ret := (some .int)) cw_X11_ask (by decide) rfl (Nat.le_of_ble_eq_true rfl) ?_
      refine at_iload_n dX11_ask_0 rfl ?_
      refine at_if_eqN (tgt := 11) dX11_ask_1 (by decide) (by omega) (fun c1 => ?_) (fun c1 => ?_)
      · omega
      · refine at_iload_n dX11_ask_4 rfl ?_
        refine at_iconst dX11_ask_5 (v := nI 1) (by decide) ?_
        refine at_eqN (tgt := 11) dX11_ask_6 (by decide) (by omega) (by omega) (fun c6 => ?_) (fun c6 => ?_)
        · refine at_aload_n dX11_ask_11 rfl ?_
          refine at_callV0 (d := D - 1) dX11_ask_12 mv_X11_306 (zl_o rfl) (Nat.le_of_ble_eq_true rfl) (zq_r0 (by omega) (by omega) (by omega)) ?_
          refine zc_demandHeard (by omega) hN h.2.1.2.2.2.2.2.2.2.1.2.1 h.2.2.1.1.2.1 hhh (fun κ' hf hM => ?_)
          refine at_aload_n dX11_ask_15 rfl ?_
          refine at_get dX11_ask_16 fl_X11_61 (zl_o rfl) rfl ?_
          refine at_aload_n dX11_ask_19 rfl ?_
          refine at_get dX11_ask_20 fl_X11_12 (zl_o rfl) rfl ?_
          refine at_iload_n dX11_ask_23 rfl ?_
          refine at_callV2 (d := D - 1) dX11_ask_24 mv_X11_309 (zl_o rfl) (Nat.le_of_ble_eq_true rfl) (zq_r0 (by omega) (by omega) (by omega)) ?_
          refine zc_bestTwo (wh := 1) (by omega) (by decide) zQ9 (zQN_f hf hN) hM (by rw [hf.2.2.1]; exact h.1.2.1) (fun d t g g0 => ?_)
          have hp := hp _ (zKf_7 (g := g) (zKf_A (a := 60) (zKf_A (a := 59) hf d (by decide)) t (by decide)) (by rw [g0, h.1.2.1]))
          refine at_iret dX11_ask_27 rfl (by omega) (by omega) ?_
          exact hp
        · exact absurd rfl c6
  · have hl : (decide (nI 0 ≤ v) && decide (v ≤ nI 1)) = false := by
      cases e : (decide (nI 0 ≤ v) && decide (v ≤ nI 1)) with
      | false => rfl
      | true =>
        obtain ⟨x, x1, x2, rfl⟩ := zlies_n (by decide) (by decide) e
        rcases (show x = 0 ∨ x = 1 by omega) with rfl | rfl
        · exact absurd (Or.inl rfl) hv
        · exact absurd (Or.inr rfl) hv
    have hp := h1 (.int (-1)) n (zl_h κ (zm_h σ ρ)) (by exact ⟨rfl, _, rfl⟩) (fun P2 h2 => by
      rw [zlm]
      refine hmod P2 κ (fun _ => ?_) (fun A g hh hr f => absurd f hv)
      rw [← zlm]
      exact h2 _ _ _ _ (zfin h))
    refine zq_enter (cc := cX11_ask) (nL := 2) (ret := (some .int)) cw_X11_ask (by decide) rfl (Nat.le_of_ble_eq_true rfl) ?_
    refine at_iload_n dX11_ask_0 rfl ?_
    refine at_if_eq (tgt := 11) dX11_ask_1 (by decide) (fun c1 => ?_) (fun c1 => ?_)
    · exact absurd (Or.inl c1) hv
    · refine at_iload_n dX11_ask_4 rfl ?_
      refine at_iconst dX11_ask_5 (v := nI 1) (by decide) ?_
      refine at_icmp_eq (tgt := 11) dX11_ask_6 (by decide) (fun c6 => ?_) (fun c6 => ?_)
      · exact absurd (Or.inr c6) hv
      · refine at_iconst dX11_ask_9 (v := -1) rfl ?_
        refine at_iret dX11_ask_10 rfl (by omega) (by omega) ?_
        exact hp
end ZK8

