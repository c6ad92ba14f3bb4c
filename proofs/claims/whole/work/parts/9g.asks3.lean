/-! ===== calls on both sides: what is only asked, of costs ===== -/
theorem dX11_clearest_0 : decode cX11_clearest 0 = .ok (.iload_n 1, 1) := by decide +kernel
theorem dX11_clearest_1 : decode cX11_clearest 1 = .ok (.iconst (-1), 1) := by decide +kernel
theorem dX11_clearest_2 : decode cX11_clearest 2 = .ok (.if_icmp .eq 16, 3) := by decide +kernel
theorem dX11_clearest_5 : decode cX11_clearest 5 = .ok (.aload_n 0, 1) := by decide +kernel
theorem dX11_clearest_6 : decode cX11_clearest 6 = .ok (.getfield 12, 3) := by decide +kernel
theorem dX11_clearest_9 : decode cX11_clearest 9 = .ok (.iload_n 1, 1) := by decide +kernel
theorem dX11_clearest_10 : decode cX11_clearest 10 = .ok (.invokevirtual 120, 3) := by decide +kernel
theorem dX11_clearest_13 : decode cX11_clearest 13 = .ok (.ifCond .ne 5, 3) := by decide +kernel
theorem dX11_clearest_16 : decode cX11_clearest 16 = .ok (.iconst (-1), 1) := by decide +kernel
theorem dX11_clearest_17 : decode cX11_clearest 17 = .ok (.ireturn, 1) := by decide +kernel
theorem dX11_clearest_18 : decode cX11_clearest 18 = .ok (.aload_n 0, 1) := by decide +kernel
theorem dX11_clearest_19 : decode cX11_clearest 19 = .ok (.getfield 75, 3) := by decide +kernel
theorem dX11_clearest_22 : decode cX11_clearest 22 = .ok (.aload_n 0, 1) := by decide +kernel
theorem dX11_clearest_23 : decode cX11_clearest 23 = .ok (.getfield 12, 3) := by decide +kernel
theorem dX11_clearest_26 : decode cX11_clearest 26 = .ok (.invokevirtual 327, 3) := by decide +kernel
theorem dX11_clearest_29 : decode cX11_clearest 29 = .ok (.iload_n 1, 1) := by decide +kernel
theorem dX11_clearest_30 : decode cX11_clearest 30 = .ok (.iconst (-1), 1) := by decide +kernel
theorem dX11_clearest_31 : decode cX11_clearest 31 = .ok (.if_icmp .ne 13, 3) := by decide +kernel
theorem dX11_clearest_34 : decode cX11_clearest 34 = .ok (.aload_n 0, 1) := by decide +kernel
theorem dX11_clearest_35 : decode cX11_clearest 35 = .ok (.getfield 75, 3) := by decide +kernel
theorem dX11_clearest_38 : decode cX11_clearest 38 = .ok (.getfield 330, 3) := by decide +kernel
theorem dX11_clearest_41 : decode cX11_clearest 41 = .ok (.goto 12, 3) := by decide +kernel
theorem dX11_clearest_44 : decode cX11_clearest 44 = .ok (.aload_n 0, 1) := by decide +kernel
theorem dX11_clearest_45 : decode cX11_clearest 45 = .ok (.getfield 75, 3) := by decide +kernel
theorem dX11_clearest_48 : decode cX11_clearest 48 = .ok (.getfield 333, 3) := by decide +kernel
theorem dX11_clearest_51 : decode cX11_clearest 51 = .ok (.iload_n 1, 1) := by decide +kernel
theorem dX11_clearest_52 : decode cX11_clearest 52 = .ok (.iaload, 1) := by decide +kernel
theorem dX11_clearest_53 : decode cX11_clearest 53 = .ok (.ireturn, 1) := by decide +kernel
abbrev mX11_clearest : zq_M := (cX11_clearest, RX11, "clearest", (some .int), 2)
theorem dX11_mend_0 : decode cX11_mend 0 = .ok (.iload_n 1, 1) := by decide +kernel
theorem dX11_mend_1 : decode cX11_mend 1 = .ok (.ifCond .lt 14, 3) := by decide +kernel
theorem dX11_mend_4 : decode cX11_mend 4 = .ok (.iload_n 1, 1) := by decide +kernel
theorem dX11_mend_5 : decode cX11_mend 5 = .ok (.aload_n 0, 1) := by decide +kernel
theorem dX11_mend_6 : decode cX11_mend 6 = .ok (.getfield 12, 3) := by decide +kernel
theorem dX11_mend_9 : decode cX11_mend 9 = .ok (.getfield 288, 3) := by decide +kernel
theorem dX11_mend_12 : decode cX11_mend 12 = .ok (.if_icmp .le 5, 3) := by decide +kernel
theorem dX11_mend_15 : decode cX11_mend 15 = .ok (.iconst (-1), 1) := by decide +kernel
theorem dX11_mend_16 : decode cX11_mend 16 = .ok (.ireturn, 1) := by decide +kernel
theorem dX11_mend_17 : decode cX11_mend 17 = .ok (.aload_n 0, 1) := by decide +kernel
theorem dX11_mend_18 : decode cX11_mend 18 = .ok (.getfield 68, 3) := by decide +kernel
theorem dX11_mend_21 : decode cX11_mend 21 = .ok (.aload_n 0, 1) := by decide +kernel
theorem dX11_mend_22 : decode cX11_mend 22 = .ok (.getfield 12, 3) := by decide +kernel
theorem dX11_mend_25 : decode cX11_mend 25 = .ok (.aload_n 0, 1) := by decide +kernel
theorem dX11_mend_26 : decode cX11_mend 26 = .ok (.getfield 12, 3) := by decide +kernel
theorem dX11_mend_29 : decode cX11_mend 29 = .ok (.invokevirtual 129, 3) := by decide +kernel
theorem dX11_mend_32 : decode cX11_mend 32 = .ok (.aload_n 0, 1) := by decide +kernel
theorem dX11_mend_33 : decode cX11_mend 33 = .ok (.getfield 54, 3) := by decide +kernel
theorem dX11_mend_36 : decode cX11_mend 36 = .ok (.invokevirtual 313, 3) := by decide +kernel
theorem dX11_mend_39 : decode cX11_mend 39 = .ok (.istore_n 2, 1) := by decide +kernel
theorem dX11_mend_40 : decode cX11_mend 40 = .ok (.iload_n 1, 1) := by decide +kernel
theorem dX11_mend_41 : decode cX11_mend 41 = .ok (.ifCond .eq 8, 3) := by decide +kernel
theorem dX11_mend_44 : decode cX11_mend 44 = .ok (.iload_n 2, 1) := by decide +kernel
theorem dX11_mend_45 : decode cX11_mend 45 = .ok (.iconst (-1), 1) := by decide +kernel
theorem dX11_mend_46 : decode cX11_mend 46 = .ok (.if_icmp .ne 5, 3) := by decide +kernel
theorem dX11_mend_49 : decode cX11_mend 49 = .ok (.iload_n 2, 1) := by decide +kernel
theorem dX11_mend_50 : decode cX11_mend 50 = .ok (.ireturn, 1) := by decide +kernel
theorem dX11_mend_51 : decode cX11_mend 51 = .ok (.aload_n 0, 1) := by decide +kernel
theorem dX11_mend_52 : decode cX11_mend 52 = .ok (.getfield 68, 3) := by decide +kernel
theorem dX11_mend_55 : decode cX11_mend 55 = .ok (.aload_n 0, 1) := by decide +kernel
theorem dX11_mend_56 : decode cX11_mend 56 = .ok (.getfield 12, 3) := by decide +kernel
theorem dX11_mend_59 : decode cX11_mend 59 = .ok (.iload_n 1, 1) := by decide +kernel
theorem dX11_mend_60 : decode cX11_mend 60 = .ok (.iconst 1, 1) := by decide +kernel
theorem dX11_mend_61 : decode cX11_mend 61 = .ok (.isub, 1) := by decide +kernel
theorem dX11_mend_62 : decode cX11_mend 62 = .ok (.invokevirtual 317, 3) := by decide +kernel
theorem dX11_mend_65 : decode cX11_mend 65 = .ok (.ireturn, 1) := by decide +kernel
abbrev mX11_mend : zq_M := (cX11_mend, RX11, "mend", (some .int), 3)
theorem dX11_compare_0 : decode cX11_compare 0 = .ok (.iload_n 1, 1) := by decide +kernel
theorem dX11_compare_1 : decode cX11_compare 1 = .ok (.iconst (-1), 1) := by decide +kernel
theorem dX11_compare_2 : decode cX11_compare 2 = .ok (.if_icmp .eq 16, 3) := by decide +kernel
theorem dX11_compare_5 : decode cX11_compare 5 = .ok (.aload_n 0, 1) := by decide +kernel
theorem dX11_compare_6 : decode cX11_compare 6 = .ok (.getfield 12, 3) := by decide +kernel
theorem dX11_compare_9 : decode cX11_compare 9 = .ok (.iload_n 1, 1) := by decide +kernel
theorem dX11_compare_10 : decode cX11_compare 10 = .ok (.invokevirtual 216, 3) := by decide +kernel
theorem dX11_compare_13 : decode cX11_compare 13 = .ok (.ifCond .ne 5, 3) := by decide +kernel
theorem dX11_compare_16 : decode cX11_compare 16 = .ok (.iconst (-1), 1) := by decide +kernel
theorem dX11_compare_17 : decode cX11_compare 17 = .ok (.ireturn, 1) := by decide +kernel
theorem dX11_compare_18 : decode cX11_compare 18 = .ok (.aload_n 0, 1) := by decide +kernel
theorem dX11_compare_19 : decode cX11_compare 19 = .ok (.getfield 68, 3) := by decide +kernel
theorem dX11_compare_22 : decode cX11_compare 22 = .ok (.aload_n 0, 1) := by decide +kernel
theorem dX11_compare_23 : decode cX11_compare 23 = .ok (.getfield 12, 3) := by decide +kernel
theorem dX11_compare_26 : decode cX11_compare 26 = .ok (.aload_n 0, 1) := by decide +kernel
theorem dX11_compare_27 : decode cX11_compare 27 = .ok (.getfield 12, 3) := by decide +kernel
theorem dX11_compare_30 : decode cX11_compare 30 = .ok (.iload_n 1, 1) := by decide +kernel
theorem dX11_compare_31 : decode cX11_compare 31 = .ok (.invokevirtual 320, 3) := by decide +kernel
theorem dX11_compare_34 : decode cX11_compare 34 = .ok (.aload_n 0, 1) := by decide +kernel
theorem dX11_compare_35 : decode cX11_compare 35 = .ok (.getfield 54, 3) := by decide +kernel
theorem dX11_compare_38 : decode cX11_compare 38 = .ok (.invokevirtual 313, 3) := by decide +kernel
theorem dX11_compare_41 : decode cX11_compare 41 = .ok (.ireturn, 1) := by decide +kernel
abbrev mX11_compare : zq_M := (cX11_compare, RX11, "compare", (some .int), 2)
theorem zplace_c {K K' : Nat → Int32} {p : Int32} : ∀ m, (∀ k, k < m → K' (7 + k) = K (7 + k)) → zplace K' p m = zplace K p m
  | 0, _ => rfl
  | m + 1, h => by
    unfold zplace
    rw [h m (by omega), zplace_c m (fun k hk => h k (by omega))]
theorem zlwV_c {K K' : Nat → Int32} {m p x : Nat} {kk yy : Int32} (h1 : K' 72 = K 72) (h2 : K' 19 = K 19) (h3 : ∀ k, k < m → K' (7 + k) = K (7 + k)) : zlwV K' m p x kk yy = zlwV K m p x kk yy := by
  unfold zlwV zAskG
  rw [h1, h2, zplace_c m h3]
theorem zbar_c {K K' : Nat → Int32} {m p x : Nat} {Lo : Option (List zLC)} (h1 : K' 72 = K 72) (h2 : K' 19 = K 19) (h3 : ∀ k, k < m → K' (7 + k) = K (7 + k)) : zbar K' m p x Lo = zbar K m p x Lo := by
  unfold zbar
  rw [zlwV_c h1 h2 h3]
theorem zmc_c {K K' : Nat → Int32} {m : Nat} {x w al : Nat → Nat} {Lo : Option (List zLC)} (h1 : K' 72 = K 72) (h2 : K' 19 = K 19) (h3 : ∀ k, k < m → K' (7 + k) = K (7 + k)) : zmc K' m x w Lo al = zmc K m x w Lo al := by
  funext j r
  unfold zmc zlcv
  rw [zbar_c h1 h2 h3]
  congr 1
  funext k y
  rw [zlwV_c h1 h2 h3]
theorem zKf_m {κ' κ : zl_S} (h : zMd κ' κ) : zKf κ' κ := ⟨fun o _ => h.1 o, fun a ha => h.2.1 a (by omega) (by omega) (by omega) (by omega), congrFun (h.2.1 57 (by decide) (by decide) (by decide) (by decide)) 0, by rw [h.2.2], by rw [h.2.2]⟩
theorem zKf_c {κ' κ : zl_S} (h : zLc κ' κ) : zKf κ' κ := ⟨fun o ho => h.1 o (by omega), fun a ha => h.2.1 a (by omega) (by omega) (by omega), congrFun (h.2.1 57 (by decide) (by decide) (by decide)) 0, by rw [h.2.2], by rw [h.2.2]⟩
theorem zMf_E {σ' σ : zm_S} (h : zEs σ' σ) : zMf σ' σ := by
  refine ⟨fun k hk => h.1 k ?_, fun a ha => h.2 a ?_⟩
  · rcases hk with rfl | rfl | rfl | rfl | rfl | rfl | rfl <;> rfl
  · rcases (show a = 71 ∨ a = 72 ∨ a = 73 ∨ a = 74 ∨ a = 77 ∨ a = 78 ∨ a = 94 ∨ a = 97 by omega) with rfl | rfl | rfl | rfl | rfl | rfl | rfl | rfl <;> rfl
section ZK4
variable {l : Launch} {G : zq_G} {D n : Nat} {κ : zl_S} {σ : zm_S} {ρ : Nat → zq_E} {K : Nat → Int32} {m hn t z : Nat} {Ls : Nat → List zLC} {Λ : List Nat}
theorem zk_asks {p k y : Int32} (hD : 88 ≤ D) (h : zIV n κ σ ρ K m hn t z Ls Λ) : zCase l G D 0 0 yX11_asks yX12_asks [.int p, .int k, .int y] n κ σ ρ := by
  intro P1 h1
  have hm7 := h.2.1.1.2.1
  have hN := zQc_N h.2.2.1 h.2.1
  have hT := zQc_T h.2.2.1 h.2.1
  have hV := zQc_V σ h.2.2.1 h.2.1
  have s72 := zKW_sm h.2.1
  have eK := h.1.2.2.1
  have hmod := fun (P2 : Option Value → Nat → (Nat → zq_E) → Prop) (κ' : zl_S) => zm_asks (l := l) (G := G) (D := D) (n := n) (σ := σ) (ρ := zl_h κ' ρ) (post := P2) (p := p) (k := k) (y := y) (Lo := zLoK K Ls) (by omega) (zIV_C h) (by rw [eK]; exact s72.1) (by rw [eK]; exact s72.2) (by rw [eK]; exact zKW_F h.2.1)
  cases e : zix m p with
  | false =>
    have hp := h1 (.int (-1)) n (zl_h κ (zm_h σ ρ)) (by exact ⟨rfl, _, rfl⟩) (fun P2 h2 => by
      rw [zlm]
      refine hmod P2 κ (fun _ => ?_) (fun j hj ej _ => ?_) (fun j τ hj ej _ _ => ?_)
      · rw [← zlm]
        exact h2 _ _ _ _ (zfin h)
      · rw [ej, zix_n (by omega), decide_eq_true hj] at e; cases e
      · rw [ej, zix_n (by omega), decide_eq_true hj] at e; cases e)
    refine zq_enter (cc := cX11_asks) (nL := 5) (ret := (some .int)) cw_X11_asks (by decide) rfl (Nat.le_of_ble_eq_true rfl) ?_
    refine at_aload_n dX11_asks_0 rfl ?_
    refine at_get dX11_asks_1 fl_X11_12 (zl_o rfl) rfl ?_
    refine at_iload_n dX11_asks_4 rfl ?_
    refine at_callV1 (d := D - 1) dX11_asks_5 mv_X11_120 (zl_q zQ9) (Nat.le_of_ble_eq_true rfl) (zq_r0 (by omega) (by omega) (by omega)) ?_
    refine zc_has zQ9 h.2.2.1.1.1 hm7 ?_
    rw [e]
    refine at_if_eqB (tgt := 25) dX11_asks_8 (by decide) (fun c8 => ?_) (fun c8 => ?_)
    · refine at_iconst dX11_asks_25 (v := -1) rfl ?_
      refine at_iret dX11_asks_26 rfl (by omega) (by omega) ?_
      exact hp
    · cases c8
  | true =>
    obtain ⟨j, hj, rfl⟩ := zix_t e
    have vj := (h.2.1.1.2.2.1 j hj).2
    have vj5 := vj.2.1
    have hbad : zaskOk (zX1 K j) k y = false → P1 (some (.int (-1))) n (zl_h κ (zm_h σ ρ)) := fun g => h1 (.int (-1)) n (zl_h κ (zm_h σ ρ)) (by exact ⟨rfl, _, rfl⟩) (fun P2 h2 => by
      rw [zlm]
      refine hmod P2 κ (fun _ => ?_) (fun j hj ej _ => ?_) (fun j' τ hj' ej f _ => ?_)
      · rw [← zlm]
        exact h2 _ _ _ _ (zfin h)
      · rw [← zlm]
        exact h2 _ _ _ _ (zfin h)
      · rw [show j' = j from ((nI_eq (by omega) (by omega)).mp ej).symm, g] at f; cases f)
    have hgood : zaskOk (zX1 K j) k y = true → ∀ κ', zKf κ' κ → P1 (some (.int (zI (ztell (zlwV K m j (zX1 K j) k y) 1 1 (zLoK K Ls))))) n (zl_h κ' (zm_h σ ρ)) := fun g κ' hf => h1 _ n (zl_h κ' (zm_h σ ρ)) (by exact ⟨rfl, _, rfl⟩) (fun P2 h2 => by
      rw [zlm]
      refine hmod P2 κ' (fun f => ?_) (fun j' hj' ej f => ?_) (fun j' τ hj' ej _ ht => ?_)
      · rw [e] at f; cases f
      · rw [show j' = j from ((nI_eq (by omega) (by omega)).mp ej).symm, g] at f; cases f
      · rw [show j' = j from ((nI_eq (by omega) (by omega)).mp ej).symm, ← zlm, eK]
        refine h2 _ _ _ _ (zfin (zIV_g (zIV_f h hf) (zMf_T ht) (fun y y1 y5 => ?_)))
        rw [ht.2.1 76 (by decide)]
        exact zIV_rk h y y1 y5)
    clear hmod
    cases ek : zix 4 k with
    | false =>
      have hp := hbad (by
        cases g : zaskOk (zX1 K j) k y with
        | false => rfl
        | true =>
          unfold zaskOk at g
          rw [Bool.and_eq_true, Bool.and_eq_true] at g
          obtain ⟨a, a1, rfl⟩ := zix_t g.1.2
          have := zlen_le (zX1 K j)
          rw [zix_n (by omega), decide_eq_true (by omega)] at ek
          cases ek)
      refine zq_enter (cc := cX11_asks) (nL := 5) (ret := (some .int)) cw_X11_asks (by decide) rfl (Nat.le_of_ble_eq_true rfl) ?_
      refine at_aload_n dX11_asks_0 rfl ?_
      refine at_get dX11_asks_1 fl_X11_12 (zl_o rfl) rfl ?_
      refine at_iload_n dX11_asks_4 rfl ?_
      refine at_callV1 (d := D - 1) dX11_asks_5 mv_X11_120 (zl_q zQ9) (Nat.le_of_ble_eq_true rfl) (zq_r0 (by omega) (by omega) (by omega)) ?_
      refine zc_has zQ9 h.2.2.1.1.1 hm7 ?_
      rw [e]
      refine at_if_eqB (tgt := 25) dX11_asks_8 (by decide) (fun c8 => ?_) (fun c8 => ?_)
      · cases c8
      · refine at_iload_n dX11_asks_11 rfl ?_
        refine at_callS1 (d := D - 1) dX11_asks_12 ms_X11_144 (Nat.le_of_ble_eq_true rfl) (zq_r0 (by omega) (by omega) (by omega)) ?_
        refine zc_isLetterPlace ?_
        rw [ek]
        refine at_if_eqB (tgt := 25) dX11_asks_15 (by decide) (fun c15 => ?_) (fun c15 => ?_)
        · refine at_iconst dX11_asks_25 (v := -1) rfl ?_
          refine at_iret dX11_asks_26 rfl (by omega) (by omega) ?_
          exact hp
        · cases c15
    | true =>
      obtain ⟨a, a4, rfl⟩ := zix_t ek
      cases ey : zlies 1 5 y with
      | false =>
        have hp := hbad (by
          unfold zaskOk
          rw [show (decide (nI 1 ≤ y) && decide (y ≤ nI 5)) = false from ey]
          rfl)
        refine zq_enter (cc := cX11_asks) (nL := 5) (ret := (some .int)) cw_X11_asks (by decide) rfl (Nat.le_of_ble_eq_true rfl) ?_
        refine at_aload_n dX11_asks_0 rfl ?_
        refine at_get dX11_asks_1 fl_X11_12 (zl_o rfl) rfl ?_
        refine at_iload_n dX11_asks_4 rfl ?_
        refine at_callV1 (d := D - 1) dX11_asks_5 mv_X11_120 (zl_q zQ9) (Nat.le_of_ble_eq_true rfl) (zq_r0 (by omega) (by omega) (by omega)) ?_
        refine zc_has zQ9 h.2.2.1.1.1 hm7 ?_
        rw [e]
        refine at_if_eqB (tgt := 25) dX11_asks_8 (by decide) (fun c8 => ?_) (fun c8 => ?_)
        · cases c8
        · refine at_iload_n dX11_asks_11 rfl ?_
          refine at_callS1 (d := D - 1) dX11_asks_12 ms_X11_144 (Nat.le_of_ble_eq_true rfl) (zq_r0 (by omega) (by omega) (by omega)) ?_
          refine zc_isLetterPlace ?_
          rw [ek]
          refine at_if_eqB (tgt := 25) dX11_asks_15 (by decide) (fun c15 => ?_) (fun c15 => ?_)
          · cases c15
          · refine at_iload_n dX11_asks_18 rfl ?_
            refine at_callS1 (d := D - 1) dX11_asks_19 ms_X11_147 (Nat.le_of_ble_eq_true rfl) (zq_r0 (by omega) (by omega) (by omega)) ?_
            refine zc_isLetter ?_
            rw [ey]
            refine at_if_neB (tgt := 27) dX11_asks_22 (by decide) (fun c22 => ?_) (fun c22 => ?_)
            · cases c22
            · refine at_iconst dX11_asks_25 (v := -1) rfl ?_
              refine at_iret dX11_asks_26 rfl (by omega) (by omega) ?_
              exact hp
      | true =>
        obtain ⟨b, b1, b5, rfl⟩ := zlies_t (by decide) (by decide) ey
        have hdl := zdg4_lt (zX1 K j) a
        have ok : zaskOk (zX1 K j) (nI a) (nI b) = (decide (a < zlen (zX1 K j)) && !decide (zlt (zX1 K j) a = b)) := by
          have hlt := zlt_lt (zX1 K j) a
          unfold zaskOk
          rw [show (decide (nI 1 ≤ nI b) && decide (nI b ≤ nI 5)) = true from ey, zix_n (by omega), Bool.true_and, nI_clamp (by omega)]
          congr 2
          exact decide_eq_decide.mpr (nI_eq (by omega) (by omega))
        rw [ok] at hbad hgood
        have hx : κ.2.1 (9 + 1) j = nI (zX1 K j) := (hN.2.2.1 j hj).1
        refine zq_enter (cc := cX11_asks) (nL := 5) (ret := (some .int)) cw_X11_asks (by decide) rfl (Nat.le_of_ble_eq_true rfl) ?_
        refine at_aload_n dX11_asks_0 rfl ?_
        refine at_get dX11_asks_1 fl_X11_12 (zl_o rfl) rfl ?_
        refine at_iload_n dX11_asks_4 rfl ?_
        refine at_callV1 (d := D - 1) dX11_asks_5 mv_X11_120 (zl_q zQ9) (Nat.le_of_ble_eq_true rfl) (zq_r0 (by omega) (by omega) (by omega)) ?_
        refine zc_has zQ9 h.2.2.1.1.1 hm7 ?_
        rw [e]
        refine at_if_eqB (tgt := 25) dX11_asks_8 (by decide) (fun c8 => ?_) (fun c8 => ?_)
        · cases c8
        · refine at_iload_n dX11_asks_11 rfl ?_
          refine at_callS1 (d := D - 1) dX11_asks_12 ms_X11_144 (Nat.le_of_ble_eq_true rfl) (zq_r0 (by omega) (by omega) (by omega)) ?_
          refine zc_isLetterPlace ?_
          rw [ek]
          refine at_if_eqB (tgt := 25) dX11_asks_15 (by decide) (fun c15 => ?_) (fun c15 => ?_)
          · cases c15
          · refine at_iload_n dX11_asks_18 rfl ?_
            refine at_callS1 (d := D - 1) dX11_asks_19 ms_X11_147 (Nat.le_of_ble_eq_true rfl) (zq_r0 (by omega) (by omega) (by omega)) ?_
            refine zc_isLetter ?_
            rw [ey]
            refine at_if_neB (tgt := 27) dX11_asks_22 (by decide) (fun c22 => ?_) (fun c22 => ?_)
            · refine at_aload_n dX11_asks_27 rfl ?_
              refine at_get dX11_asks_28 fl_X11_12 (zl_o rfl) rfl ?_
              refine at_get dX11_asks_31 fl_X11_123 (zl_q zQ9) rfl ?_
              refine at_iload_n dX11_asks_34 rfl ?_
              refine at_uld (b := 9) (c := 1) dX11_asks_35 zQ9 (by decide) (by decide) rfl (by show _ < 7; omega) ?_
              rw [hx]
              refine at_iload_n dX11_asks_36 rfl ?_
              refine at_callS2 (d := D - 1) dX11_asks_37 ms_X11_150 (Nat.le_of_ble_eq_true rfl) (zq_r0 (by omega) (by omega) (by omega)) ?_
              refine zc_letterOf (by omega) vj.1 (by omega) ?_
              rw [ek, if_pos rfl, nI_clamp (by omega)]
              refine at_istore dX11_asks_40 (by decide) ?_
              refine at_iload dX11_asks_42 rfl ?_
              refine at_if_eqN (tgt := 53) dX11_asks_44 (by decide) (by omega) (fun c44 => ?_) (fun c44 => ?_)
              · have hp := hbad (by
                  by_cases g : a < zlen (zX1 K j)
                  · rw [zdg4_in g] at c44
                    have := zvn_at vj g
                    omega
                  · rw [decide_eq_false g]; rfl)
                refine at_iconst dX11_asks_53 (v := -1) rfl ?_
                refine at_iret dX11_asks_54 rfl (by omega) (by omega) ?_
                exact hp
              · have ga : a < zlen (zX1 K j) := Nat.lt_of_not_le (fun g => c44 (zdg4_out g))
                refine at_iload dX11_asks_47 rfl ?_
                refine at_iload_n dX11_asks_49 rfl ?_
                refine at_neN (tgt := 55) dX11_asks_50 (by decide) (by omega) (by omega) (fun c50 => ?_) (fun c50 => ?_)
                · have hp := hgood (by rw [zdg4_in ga] at c50; rw [decide_eq_true ga, decide_eq_false c50]; rfl)
                  refine at_aload_n dX11_asks_55 rfl ?_
                  refine at_get dX11_asks_56 fl_X11_54 (zl_o rfl) rfl ?_
                  refine at_aload_n dX11_asks_59 rfl ?_
                  refine at_get dX11_asks_60 fl_X11_12 (zl_o rfl) rfl ?_
                  refine at_aload_n dX11_asks_63 rfl ?_
                  refine at_get dX11_asks_64 fl_X11_12 (zl_o rfl) rfl ?_
                  refine at_callV0 (d := D - 1) dX11_asks_67 mv_X11_129 (zl_q zQ9) (Nat.le_of_ble_eq_true rfl) (zq_r0 (by omega) (by omega) (by omega)) ?_
                  refine zc_inForce (by omega) zQ9 h.2.2.1.1.2.2.1 h.2.1.2.2.2.2.2.2.2.2.2.1 ?_
                  refine at_iload_n dX11_asks_70 rfl ?_
                  refine at_iload_n dX11_asks_71 rfl ?_
                  refine at_iload_n dX11_asks_72 rfl ?_
                  refine at_callV5 (d := D - 1) dX11_asks_73 mv_X11_154 (zl_o rfl) (Nat.le_of_ble_eq_true rfl) (zq_r0 (by omega) (by omega) (by omega)) ?_
                  refine zc_strokeCost (by omega) zQ9 hN hT hj ga (zSm_n (by omega)) hV (fun a1 g1 => ?_)
                  have hp := hp _ (zKf_54 (zKf_r κ) a1 g1)
                  refine at_iret dX11_asks_76 rfl (by omega) (by omega) ?_
                  exact hp
                · have hp := hbad (by rw [zdg4_in ga] at c50; rw [decide_eq_true c50, Bool.not_true, Bool.and_false])
                  refine at_iconst dX11_asks_53 (v := -1) rfl ?_
                  refine at_iret dX11_asks_54 rfl (by omega) (by omega) ?_
                  exact hp
            · cases c22
end ZK4

