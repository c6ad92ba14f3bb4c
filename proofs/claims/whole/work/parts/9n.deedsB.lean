/-! ===== calls on both sides: deeds ===== -/
theorem zdC_in {h : Nat} {a b c : Int32} {K : Nat → Int32} {m : Nat} {Lo : Option (List zLC)} (g : zdC h a b c K m Lo ≠ 0) : zdC h a b c K m Lo = 1 ∨ zdC h a b c K m Lo = 2 ∨ zdC h a b c K m Lo = 3 := by
  unfold zdC at *
  split at g <;> (try split at g) <;> (try split at g) <;> (try split at g) <;> simp_all
section ZK11
variable {l : Launch} {G : zq_G} {D n : Nat} {κ κ' : zl_S} {σ τ : zm_S} {ρ : Nat → zq_E} {K K' : Nat → Int32} {m hn t z : Nat} {Ls : Nat → List zLC} {Λ Λ' : List Nat} {Lo : Option (List zLC)} {post : Option Value → Nat → (Nat → zq_E) → Prop}
theorem zm_strokeS {a b c : Int32} (hD : 77 ≤ D) (hS : zMS σ m Lo K Λ) (hf : ∀ τ, zdC 0 a b c K m Lo ≠ 0 → zTe τ σ → post (some (.int (-(nI (zdC 0 a b c K m Lo))))) n (zm_h (zref τ (zdC 0 a b c K m Lo)) ρ))
    (ht : ∀ τ, zdC 0 a b c K m Lo = 0 → zMS τ m Lo (zdK 0 a b c K) (zpush (zdD 0 a b K) Λ) → zOt τ σ → post (some (.int (zI (zdT 0 a b c K m Lo)))) n (zm_h (zm_si τ 0 0) ρ)) : zq_Runs l G D 0 0 yX12_stroke [.ref 70, .int a, .int b, .int c] n (zm_h σ ρ) post := by
  refine zq_enter (cc := cX12_stroke) (nL := 4) (ret := (some .int)) cw_X12_stroke (by decide) rfl (Nat.le_of_ble_eq_true rfl) ?_
  refine at_aload_n dX12_stroke_0 rfl ?_
  refine at_aload_n dX12_stroke_1 rfl ?_
  refine at_iload_n dX12_stroke_2 rfl ?_
  refine at_iload_n dX12_stroke_3 rfl ?_
  refine at_iload_n dX12_stroke_4 rfl ?_
  refine at_callV3 (d := D - 1) dX12_stroke_5 mv_X12_464 rfl (Nat.le_of_ble_eq_true rfl) (zq_r0 (by omega) (by omega) (by omega)) ?_
  refine zm_strokesK (by omega) hS (fun τ e s => ?_) (fun τ e s1 s2 => ?_)
  · have hp := hf τ e s
    have hq := zdC_in e
    refine at_callV1 (d := D - 1) dX12_stroke_8 mv_X12_467 rfl (Nat.le_of_ble_eq_true rfl) (zq_r0 (by omega) (by omega) (by omega)) ?_
    refine zm_goodOr_n (by omega) (by omega) (by omega) ?_
    refine at_iret dX12_stroke_11 rfl (by omega) (by omega) ?_
    exact hp
  · have hp := ht τ e s1 s2
    have hb := zdT_b hS.2.1 e
    refine at_callV1 (d := D - 1) dX12_stroke_8 mv_X12_467 rfl (Nat.le_of_ble_eq_true rfl) (zq_r0 (by omega) (by omega) (by omega)) ?_
    refine zm_goodOr_p (by omega) (zI_ge (by omega) (by omega)) ?_
    refine at_iret dX12_stroke_11 rfl (by omega) (by omega) ?_
    exact hp
theorem zm_swapS {a : Int32} (b c : Int32) (hD : 77 ≤ D) (hS : zMS σ m Lo K Λ) (hf : ∀ τ, zdC 1 a b c K m Lo ≠ 0 → zTe τ σ → post (some (.int (-(nI (zdC 1 a b c K m Lo))))) n (zm_h (zref τ (zdC 1 a b c K m Lo)) ρ))
    (ht : ∀ τ, zdC 1 a b c K m Lo = 0 → zMS τ m Lo (zdK 1 a b c K) (zpush (zdD 1 a b K) Λ) → zOt τ σ → post (some (.int (zI (zdT 1 a b c K m Lo)))) n (zm_h (zm_si τ 0 0) ρ)) : zq_Runs l G D 0 0 yX12_swap [.ref 70, .int a] n (zm_h σ ρ) post := by
  refine zq_enter (cc := cX12_swap) (nL := 2) (ret := (some .int)) cw_X12_swap (by decide) rfl (Nat.le_of_ble_eq_true rfl) ?_
  refine at_aload_n dX12_swap_0 rfl ?_
  refine at_aload_n dX12_swap_1 rfl ?_
  refine at_iload_n dX12_swap_2 rfl ?_
  refine at_callV1 (d := D - 1) dX12_swap_3 mv_X12_470 rfl (Nat.le_of_ble_eq_true rfl) (zq_r0 (by omega) (by omega) (by omega)) ?_
  refine zm_swapsK (b := b) (c := c) (by omega) hS (fun τ e s => ?_) (fun τ e s1 s2 => ?_)
  · have hp := hf τ e s
    have hq := zdC_in e
    refine at_callV1 (d := D - 1) dX12_swap_6 mv_X12_467 rfl (Nat.le_of_ble_eq_true rfl) (zq_r0 (by omega) (by omega) (by omega)) ?_
    refine zm_goodOr_n (by omega) (by omega) (by omega) ?_
    refine at_iret dX12_swap_9 rfl (by omega) (by omega) ?_
    exact hp
  · have hp := ht τ e s1 s2
    have hb := zdT_b hS.2.1 e
    refine at_callV1 (d := D - 1) dX12_swap_6 mv_X12_467 rfl (Nat.le_of_ble_eq_true rfl) (zq_r0 (by omega) (by omega) (by omega)) ?_
    refine zm_goodOr_p (by omega) (zI_ge (by omega) (by omega)) ?_
    refine at_iret dX12_swap_9 rfl (by omega) (by omega) ?_
    exact hp
theorem zm_decreeS {a : Int32} (b c : Int32) (hD : 77 ≤ D) (hS : zMS σ m Lo K Λ) (hf : ∀ τ, zdC 2 a b c K m Lo ≠ 0 → zTe τ σ → post (some (.int (-(nI (zdC 2 a b c K m Lo))))) n (zm_h (zref τ (zdC 2 a b c K m Lo)) ρ))
    (ht : ∀ τ, zdC 2 a b c K m Lo = 0 → zMS τ m Lo (zdK 2 a b c K) (zpush (zdD 2 a b K) Λ) → zOt τ σ → post (some (.int (zI (zdT 2 a b c K m Lo)))) n (zm_h (zm_si τ 0 0) ρ)) : zq_Runs l G D 0 0 yX12_decree [.ref 70, .int a] n (zm_h σ ρ) post := by
  refine zq_enter (cc := cX12_decree) (nL := 2) (ret := (some .int)) cw_X12_decree (by decide) rfl (Nat.le_of_ble_eq_true rfl) ?_
  refine at_aload_n dX12_decree_0 rfl ?_
  refine at_aload_n dX12_decree_1 rfl ?_
  refine at_iload_n dX12_decree_2 rfl ?_
  refine at_callV1 (d := D - 1) dX12_decree_3 mv_X12_473 rfl (Nat.le_of_ble_eq_true rfl) (zq_r0 (by omega) (by omega) (by omega)) ?_
  refine zm_decreesK (b := b) (c := c) (by omega) hS (fun τ e s => ?_) (fun τ e s1 s2 => ?_)
  · have hp := hf τ e s
    have hq := zdC_in e
    refine at_callV1 (d := D - 1) dX12_decree_6 mv_X12_467 rfl (Nat.le_of_ble_eq_true rfl) (zq_r0 (by omega) (by omega) (by omega)) ?_
    refine zm_goodOr_n (by omega) (by omega) (by omega) ?_
    refine at_iret dX12_decree_9 rfl (by omega) (by omega) ?_
    exact hp
  · have hp := ht τ e s1 s2
    have hb := zdT_b hS.2.1 e
    refine at_callV1 (d := D - 1) dX12_decree_6 mv_X12_467 rfl (Nat.le_of_ble_eq_true rfl) (zq_r0 (by omega) (by omega) (by omega)) ?_
    refine zm_goodOr_p (by omega) (zI_ge (by omega) (by omega)) ?_
    refine at_iret dX12_decree_9 rfl (by omega) (by omega) ?_
    exact hp
theorem zm_passS (a b c : Int32) (hD : 77 ≤ D) (hS : zMS σ m Lo K Λ) (hf : ∀ τ, zdC 3 a b c K m Lo ≠ 0 → zTe τ σ → post (some (.int (-(nI (zdC 3 a b c K m Lo))))) n (zm_h (zref τ (zdC 3 a b c K m Lo)) ρ))
    (ht : ∀ τ, zdC 3 a b c K m Lo = 0 → zMS τ m Lo (zdK 3 a b c K) (zpush (zdD 3 a b K) Λ) → zOt τ σ → post (some (.int (zI (zdT 3 a b c K m Lo)))) n (zm_h (zm_si τ 0 0) ρ)) : zq_Runs l G D 0 0 yX12_pass [.ref 70] n (zm_h σ ρ) post := by
  refine zq_enter (cc := cX12_pass) (nL := 1) (ret := (some .int)) cw_X12_pass (by decide) rfl (Nat.le_of_ble_eq_true rfl) ?_
  refine at_aload_n dX12_pass_0 rfl ?_
  refine at_aload_n dX12_pass_1 rfl ?_
  refine at_callV0 (d := D - 1) dX12_pass_2 mv_X12_476 rfl (Nat.le_of_ble_eq_true rfl) (zq_r0 (by omega) (by omega) (by omega)) ?_
  refine zm_passesK (a := a) (b := b) (c := c) (by omega) hS (fun τ e s => ?_) (fun τ e s1 s2 => ?_)
  · have hp := hf τ e s
    have hq := zdC_in e
    refine at_callV1 (d := D - 1) dX12_pass_5 mv_X12_467 rfl (Nat.le_of_ble_eq_true rfl) (zq_r0 (by omega) (by omega) (by omega)) ?_
    refine zm_goodOr_n (by omega) (by omega) (by omega) ?_
    refine at_iret dX12_pass_8 rfl (by omega) (by omega) ?_
    exact hp
  · have hp := ht τ e s1 s2
    have hb := zdT_b hS.2.1 e
    refine at_callV1 (d := D - 1) dX12_pass_5 mv_X12_467 rfl (Nat.le_of_ble_eq_true rfl) (zq_r0 (by omega) (by omega) (by omega)) ?_
    refine zm_goodOr_p (by omega) (zI_ge (by omega) (by omega)) ?_
    refine at_iret dX12_pass_8 rfl (by omega) (by omega) ?_
    exact hp
theorem zIV_CI (h : zIV n κ σ ρ K m hn t z Ls Λ) : zCI κ ρ n K m hn t Ls Λ := ⟨h.2.1, h.2.2.1, h.2.2.2.1.1, h.2.2.2.1.2.2.2.2.1, h.2.2.2.1.2.2.2.2.2⟩
theorem zIV_MS (h : zIV n κ σ ρ K m hn t z Ls Λ) : zMS σ m (zLoK K Ls) K Λ := ⟨h.1.2.2.1, zKW_KI h.2.1, h.1.2.2.2, h.2.2.2.1.1, h.2.2.2.1.2.1, h.2.2.2.1.2.2.1, h.2.2.2.1.2.2.2.1⟩
/-- what isn't of what is kept -/
theorem zIV_mk {m' hn' t' : Nat} {Ls' : Nat → List zLC} (h : zIV n κ σ ρ K m hn t z Ls Λ) (hK : zKW K' m' hn' t' Ls') (hQ : zQc κ' ρ n 9 K' m' hn' t' Ls') (hG : zLG κ' τ K' m' Λ') (h72 : τ.2.1 72 = K') (hr : ∀ y, 1 ≤ y → y ≤ 5 → τ.2.1 76 y = nI (zrkK K' y))
    (k8 : κ'.1 8 = κ.1 8) (k32 : κ'.1 32 = κ.1 32) (kr : ∀ a, a = 33 ∨ a = 35 ∨ a = 47 ∨ a = 69 → κ'.2.1 a = κ.2.1 a) (k57 : κ'.2.1 57 0 = κ.2.1 57 0) (k20 : κ'.2.2 20 = κ.2.2 20)
    (s1 : ∀ k, k = 0 ∨ k = 7 ∨ k = 14 ∨ k = 15 ∨ k = 45 ∨ k = 53 → τ.1 k = σ.1 k) (s2 : ∀ a, a = 71 ∨ a = 73 ∨ a = 74 ∨ a = 77 ∨ a = 78 ∨ a = 97 → τ.2.1 a = σ.2.1 a) : zIV n κ' τ ρ K' m' hn' t' z Ls' Λ' := by
  obtain ⟨⟨a1, a2, a3, a4⟩, b1, c1, d1, e1, f1, g1, i1⟩ := h
  refine ⟨⟨a1, k57.trans a2, h72, hr⟩, hK, hQ, hG, ?_, ?_, ?_, ?_⟩
  · unfold zTT zWr at e1 ⊢
    rw [s1 14 (by omega), k8, kr 47 (by omega), s2 78 (by omega), s2 77 (by omega)]
    exact e1
  · unfold zST at f1 ⊢
    rw [k8, s1 0 (by omega), s1 15 (by omega), s1 45 (by omega), s1 7 (by omega), kr 69 (by omega), s2 71 (by omega)]
    exact f1
  · unfold zPP at g1 ⊢
    rw [s1 53 (by omega), k32, kr 33 (by omega), kr 35 (by omega), s2 97 (by omega)]
    exact g1
  · unfold zIM zI1 at i1 ⊢
    rw [k20, s2 73 (by omega), s2 74 (by omega)]
    exact i1
theorem zIV_deed (h : zIV n κ σ ρ K m hn t z Ls Λ) (hci : zCI κ' ρ n K' m hn t Ls Λ') (hdf : zDf κ' κ) (hms : zMS τ m Lo K' Λ') (hot : zOt τ σ) : zIV n (zl_si κ' 8 18 (nI 0)) (zm_si τ 0 0) ρ K' m hn t z Ls Λ' :=
  zIV_acc (zIV_mk h hci.1 hci.2.1 ⟨hci.2.2.1, hms.2.2.2.2.1, hms.2.2.2.2.2.1, hms.2.2.2.2.2.2, hci.2.2.2.1, hci.2.2.2.2⟩ hms.1 hms.2.2.1 (hdf.1 8 (by decide) (by decide)) (hdf.1 32 (by decide) (by decide)) (fun a ha => hdf.2.1 a (by omega) (by omega) (by omega) (by omega)) (congrFun (hdf.2.1 57 (by omega) (by omega) (by omega) (by omega)) 0) (by rw [hdf.2.2]) (fun k hk => hot.1 k (by omega) (by omega)) (fun a ha => hot.2.1 a (by omega) (by omega) (by omega) (by omega)))
theorem zIV_no {q : Nat} (h : zIV n κ σ ρ K m hn t z Ls Λ) (hs : zSc κ' κ) (ht : zTe τ σ) (hq : q = 1 ∨ q = 2 ∨ q = 3) : zIV n (zlref κ' q) (zref τ q) ρ K m hn t z Ls Λ := by
  refine zIV_g (zIV_ref (zIV_f h (zKf_s hs)) (by omega)) (zMf_T (zref_Te q ht)) (fun y y1 y5 => ?_)
  rw [show (zref τ q).2.1 76 = τ.2.1 76 from zsA_o (zm_si τ 0 (-(nI q))) (by decide) _, ht.2.1 76 (by decide)]
  exact zIV_rk h y y1 y5
theorem zk_stroke {a b c : Int32} (hD : 88 ≤ D) (h : zIV n κ σ ρ K m hn t z Ls Λ) : zCase l G D 0 0 yX11_stroke yX12_stroke [.int a, .int b, .int c] n κ σ ρ := by
  intro P1 h1
  refine zq_enter (cc := cX11_stroke) (nL := 4) (ret := (some .int)) cw_X11_stroke (by decide) rfl (Nat.le_of_ble_eq_true rfl) ?_
  refine at_aload_n dX11_stroke_0 rfl ?_
  refine at_aload_n dX11_stroke_1 rfl ?_
  refine at_iload_n dX11_stroke_2 rfl ?_
  refine at_iload_n dX11_stroke_3 rfl ?_
  refine at_iload_n dX11_stroke_4 rfl ?_
  refine at_callV3 (d := D - 1) dX11_stroke_5 mv_X11_222 (zl_o rfl) (Nat.le_of_ble_eq_true rfl) (zq_r0 (by omega) (by omega) (by omega)) ?_
  refine zc_strokeNow (by omega) (zIV_CI h) (fun κ' e s => ?_) (fun κ' e s1 s2 => ?_)
  · have hq := zdC_in e
    have hp := h1 (.int (-(nI (zdC 0 a b c K m (zLoK K Ls))))) n (zl_h (zlref κ' (zdC 0 a b c K m (zLoK K Ls))) (zm_h σ ρ)) (by exact ⟨rfl, _, rfl⟩) (fun P2 h2 => by
      rw [zlm]
      refine zm_strokeS (by omega) (zIV_MS h) (fun τ _ ht => ?_) (fun τ e' _ _ => absurd e' e)
      rw [← zlm]
      exact h2 _ _ _ _ (zfin (zIV_no h s ht hq)))
    refine at_callV1 (d := D - 1) dX11_stroke_8 mv_X11_226 (zl_o rfl) (Nat.le_of_ble_eq_true rfl) (zq_r0 (by omega) (by omega) (by omega)) ?_
    refine zc_settle_n (by omega) (by omega) ?_
    refine at_iret dX11_stroke_11 rfl (by omega) (by omega) ?_
    exact hp
  · have hb := zdT_b (zKW_KI h.2.1) e
    have hp := h1 (.int (zI (zdT 0 a b c K m (zLoK K Ls)))) n (zl_h (zl_si κ' 8 18 (nI 0)) (zm_h σ ρ)) (by exact ⟨rfl, _, rfl⟩) (fun P2 h2 => by
      rw [zlm]
      refine zm_strokeS (by omega) (zIV_MS h) (fun τ e' _ => absurd e e') (fun τ _ t1 t2 => ?_)
      rw [← zlm]
      exact h2 _ _ _ _ (zfin (zIV_deed h s1 s2 t1 t2)))
    refine at_callV1 (d := D - 1) dX11_stroke_8 mv_X11_226 (zl_o rfl) (Nat.le_of_ble_eq_true rfl) (zq_r0 (by omega) (by omega) (by omega)) ?_
    refine zc_settle_p (by omega) (zI_ge (by omega) (by omega)) ?_
    refine at_iret dX11_stroke_11 rfl (by omega) (by omega) ?_
    exact hp
theorem zk_swap {a : Int32} (hD : 88 ≤ D) (h : zIV n κ σ ρ K m hn t z Ls Λ) : zCase l G D 0 0 yX11_swap yX12_swap [.int a] n κ σ ρ := by
  intro P1 h1
  refine zq_enter (cc := cX11_swap) (nL := 2) (ret := (some .int)) cw_X11_swap (by decide) rfl (Nat.le_of_ble_eq_true rfl) ?_
  refine at_aload_n dX11_swap_0 rfl ?_
  refine at_aload_n dX11_swap_1 rfl ?_
  refine at_iload_n dX11_swap_2 rfl ?_
  refine at_callV1 (d := D - 1) dX11_swap_3 mv_X11_229 (zl_o rfl) (Nat.le_of_ble_eq_true rfl) (zq_r0 (by omega) (by omega) (by omega)) ?_
  refine zc_swapNow (by omega) (zIV_CI h) 0 0 (fun e => ?_) (fun κ' e s1 s2 => ?_)
  · have hq := zdC_in e
    have hp := h1 (.int (-(nI (zdC 1 a 0 0 K m (zLoK K Ls))))) n (zl_h (zlref κ (zdC 1 a 0 0 K m (zLoK K Ls))) (zm_h σ ρ)) (by exact ⟨rfl, _, rfl⟩) (fun P2 h2 => by
      rw [zlm]
      refine zm_swapS 0 0 (by omega) (zIV_MS h) (fun τ _ ht => ?_) (fun τ e' _ _ => absurd e' e)
      rw [← zlm]
      exact h2 _ _ _ _ (zfin (zIV_no h (zSc_r κ) ht hq)))
    refine at_callV1 (d := D - 1) dX11_swap_6 mv_X11_226 (zl_o rfl) (Nat.le_of_ble_eq_true rfl) (zq_r0 (by omega) (by omega) (by omega)) ?_
    refine zc_settle_n (by omega) (by omega) ?_
    refine at_iret dX11_swap_9 rfl (by omega) (by omega) ?_
    exact hp
  · have hb := zdT_b (zKW_KI h.2.1) e
    have hp := h1 (.int (zI (zdT 1 a 0 0 K m (zLoK K Ls)))) n (zl_h (zl_si κ' 8 18 (nI 0)) (zm_h σ ρ)) (by exact ⟨rfl, _, rfl⟩) (fun P2 h2 => by
      rw [zlm]
      refine zm_swapS 0 0 (by omega) (zIV_MS h) (fun τ e' _ => absurd e e') (fun τ _ t1 t2 => ?_)
      rw [← zlm]
      exact h2 _ _ _ _ (zfin (zIV_deed h s1 s2 t1 t2)))
    refine at_callV1 (d := D - 1) dX11_swap_6 mv_X11_226 (zl_o rfl) (Nat.le_of_ble_eq_true rfl) (zq_r0 (by omega) (by omega) (by omega)) ?_
    refine zc_settle_p (by omega) (zI_ge (by omega) (by omega)) ?_
    refine at_iret dX11_swap_9 rfl (by omega) (by omega) ?_
    exact hp
theorem zk_decree {a : Int32} (hD : 88 ≤ D) (h : zIV n κ σ ρ K m hn t z Ls Λ) : zCase l G D 0 0 yX11_decree yX12_decree [.int a] n κ σ ρ := by
  intro P1 h1
  refine zq_enter (cc := cX11_decree) (nL := 2) (ret := (some .int)) cw_X11_decree (by decide) rfl (Nat.le_of_ble_eq_true rfl) ?_
  refine at_aload_n dX11_decree_0 rfl ?_
  refine at_aload_n dX11_decree_1 rfl ?_
  refine at_iload_n dX11_decree_2 rfl ?_
  refine at_callV1 (d := D - 1) dX11_decree_3 mv_X11_232 (zl_o rfl) (Nat.le_of_ble_eq_true rfl) (zq_r0 (by omega) (by omega) (by omega)) ?_
  refine zc_decreeNow (by omega) (zIV_CI h) 0 0 (fun e => ?_) (fun κ' e s1 s2 => ?_)
  · have hq := zdC_in e
    have hp := h1 (.int (-(nI (zdC 2 a 0 0 K m (zLoK K Ls))))) n (zl_h (zlref κ (zdC 2 a 0 0 K m (zLoK K Ls))) (zm_h σ ρ)) (by exact ⟨rfl, _, rfl⟩) (fun P2 h2 => by
      rw [zlm]
      refine zm_decreeS 0 0 (by omega) (zIV_MS h) (fun τ _ ht => ?_) (fun τ e' _ _ => absurd e' e)
      rw [← zlm]
      exact h2 _ _ _ _ (zfin (zIV_no h (zSc_r κ) ht hq)))
    refine at_callV1 (d := D - 1) dX11_decree_6 mv_X11_226 (zl_o rfl) (Nat.le_of_ble_eq_true rfl) (zq_r0 (by omega) (by omega) (by omega)) ?_
    refine zc_settle_n (by omega) (by omega) ?_
    refine at_iret dX11_decree_9 rfl (by omega) (by omega) ?_
    exact hp
  · have hb := zdT_b (zKW_KI h.2.1) e
    have hp := h1 (.int (zI (zdT 2 a 0 0 K m (zLoK K Ls)))) n (zl_h (zl_si κ' 8 18 (nI 0)) (zm_h σ ρ)) (by exact ⟨rfl, _, rfl⟩) (fun P2 h2 => by
      rw [zlm]
      refine zm_decreeS 0 0 (by omega) (zIV_MS h) (fun τ e' _ => absurd e e') (fun τ _ t1 t2 => ?_)
      rw [← zlm]
      exact h2 _ _ _ _ (zfin (zIV_deed h s1 s2 t1 t2)))
    refine at_callV1 (d := D - 1) dX11_decree_6 mv_X11_226 (zl_o rfl) (Nat.le_of_ble_eq_true rfl) (zq_r0 (by omega) (by omega) (by omega)) ?_
    refine zc_settle_p (by omega) (zI_ge (by omega) (by omega)) ?_
    refine at_iret dX11_decree_9 rfl (by omega) (by omega) ?_
    exact hp
theorem zk_pass (hD : 88 ≤ D) (h : zIV n κ σ ρ K m hn t z Ls Λ) : zCase l G D 0 0 yX11_pass yX12_pass [] n κ σ ρ := by
  intro P1 h1
  refine zq_enter (cc := cX11_pass) (nL := 1) (ret := (some .int)) cw_X11_pass (by decide) rfl (Nat.le_of_ble_eq_true rfl) ?_
  refine at_aload_n dX11_pass_0 rfl ?_
  refine at_aload_n dX11_pass_1 rfl ?_
  refine at_callV0 (d := D - 1) dX11_pass_2 mv_X11_235 (zl_o rfl) (Nat.le_of_ble_eq_true rfl) (zq_r0 (by omega) (by omega) (by omega)) ?_
  refine zc_passNow (by omega) (zIV_CI h) 0 0 0 (fun e => ?_) (fun κ' e s1 s2 => ?_)
  · have hq := zdC_in e
    have hp := h1 (.int (-(nI (zdC 3 0 0 0 K m (zLoK K Ls))))) n (zl_h (zlref κ (zdC 3 0 0 0 K m (zLoK K Ls))) (zm_h σ ρ)) (by exact ⟨rfl, _, rfl⟩) (fun P2 h2 => by
      rw [zlm]
      refine zm_passS 0 0 0 (by omega) (zIV_MS h) (fun τ _ ht => ?_) (fun τ e' _ _ => absurd e' e)
      rw [← zlm]
      exact h2 _ _ _ _ (zfin (zIV_no h (zSc_r κ) ht hq)))
    refine at_callV1 (d := D - 1) dX11_pass_5 mv_X11_226 (zl_o rfl) (Nat.le_of_ble_eq_true rfl) (zq_r0 (by omega) (by omega) (by omega)) ?_
    refine zc_settle_n (by omega) (by omega) ?_
    refine at_iret dX11_pass_8 rfl (by omega) (by omega) ?_
    exact hp
  · have hb := zdT_b (zKW_KI h.2.1) e
    have hp := h1 (.int (zI (zdT 3 0 0 0 K m (zLoK K Ls)))) n (zl_h (zl_si κ' 8 18 (nI 0)) (zm_h σ ρ)) (by exact ⟨rfl, _, rfl⟩) (fun P2 h2 => by
      rw [zlm]
      refine zm_passS 0 0 0 (by omega) (zIV_MS h) (fun τ e' _ => absurd e e') (fun τ _ t1 t2 => ?_)
      rw [← zlm]
      exact h2 _ _ _ _ (zfin (zIV_deed h s1 s2 t1 t2)))
    refine at_callV1 (d := D - 1) dX11_pass_5 mv_X11_226 (zl_o rfl) (Nat.le_of_ble_eq_true rfl) (zq_r0 (by omega) (by omega) (by omega)) ?_
    refine zc_settle_p (by omega) (zI_ge (by omega) (by omega)) ?_
    refine at_iret dX11_pass_8 rfl (by omega) (by omega) ?_
    exact hp
end ZK11

