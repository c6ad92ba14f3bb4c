/-! ===== the Model's weeks (their loop), counts ===== -/
/-- alike but for a reckoning, what is kept and the latest draw -/
def zTw (σ τ : zm_S) : Prop := (∀ k, (k < 23 ∨ 26 < k) → k ≠ 54 → σ.1 k = τ.1 k) ∧ (∀ a, a ≠ 83 → a ≠ 72 → σ.2.1 a = τ.2.1 a)
theorem zTw_r (σ : zm_S) : zTw σ σ := ⟨fun _ _ _ => rfl, fun _ _ _ => rfl⟩
theorem zTw_t {σ τ υ : zm_S} (h : zTw σ τ) (g : zTw τ υ) : zTw σ υ := ⟨fun k h1 h2 => (h.1 k h1 h2).trans (g.1 k h1 h2), fun k h1 h2 => (h.2 k h1 h2).trans (g.2 k h1 h2)⟩
section ZL34
variable {l : Launch} {G : zq_G} {D n m : Nat} {σ : zm_S} {ρ : Nat → zq_E} {post : Option Value → Nat → (Nat → zq_E) → Prop} {rk al : Nat → Nat} {Lo : Option (List zLC)}
theorem zm_weeks_loop {N : Nat} {sd0 : Int32} (hD : 76 ≤ D) (hN : N ≤ 60) (h0 : 0 < m) (hr : ∀ y, 1 ≤ y → y ≤ 5 → σ.2.1 76 y = nI (rk y) ∧ rk y < 5) (h72 : zSm (σ.2.1 72 72)) (hF : zForce (σ.2.1 72) Lo) (Q : (Nat → Int32) × Nat)
    (hk : ∀ τ, zTw τ σ → τ.2.1 72 = Q.1 → (∀ j, 14 ≤ j → j ≠ 19 → Q.1 j = σ.2.1 72 j) → Q.2 ≤ N → ∀ i, zq_At l G (zq_rm D 0 0) mX12_weeks (zq_QF G post 0 0) 107 [(0, .ref 70), (1, .int sd0), (2, .int (nI N)), (3, .int (nI Q.2)), (4, .int i)] [] n (zm_h τ ρ) 0 0) :
    ∀ (f k : Nat) (K : Nat → Int32) (s c d : Nat) (τ : zm_S), k + f = N → zTw τ σ → τ.2.1 72 = K → τ.1 54 = nI s → s ≤ 1000002 → zCk K m → K 19 = nI d → d ≤ 999 → (∀ j, 14 ≤ j → j ≠ 19 → K j = σ.2.1 72 j) → c ≤ k → zwk Lo rk m f K s c = Q → zq_At l G (zq_rm D 0 0) mX12_weeks (zq_QF G post 0 0) 63 [(0, .ref 70), (1, .int sd0), (2, .int (nI N)), (3, .int (nI c)), (4, .int (nI k))] [] n (zm_h τ ρ) 0 0 := by
  intro f
  induction f with
  | zero =>
    intro k K s c d τ hkN t1 t2 t3 hs hC hd h9 ho hc hQ
    obtain rfl : k = N := hkN
    subst hQ
    refine at_iload dX12_weeks_63 rfl ?_
    refine at_iload_n dX12_weeks_65 rfl ?_
    refine at_geN (tgt := 107) dX12_weeks_66 (by decide) (by omega) (by omega) (fun c66 => ?_) (fun c66 => ?_)
    · exact hk τ t1 t2 ho hc _
    · omega
  | succ f ih =>
    intro k K s c d τ hkN t1 t2 t3 hs hC hd h9 ho hc hQ
    unfold zwk at hQ
    rw [hd, nI_clamp (by omega)] at hQ
    subst t2
    have hCt : zC τ m (zX1 (τ.2.1 72)) (zW1 (τ.2.1 72)) rk := zC_of hC (fun y h1 h5 => by rw [t1.2 76 (by decide) (by decide)]; exact hr y h1 h5)
    have s3 := zdrw_lt (zdrw (zdrw s))
    refine at_iload dX12_weeks_63 rfl ?_
    refine at_iload_n dX12_weeks_65 rfl ?_
    refine at_geN (tgt := 107) dX12_weeks_66 (by decide) (by omega) (by omega) (fun c66 => ?_) (fun c66 => ?_)
    · omega
    · refine at_aload_n dX12_weeks_69 rfl ?_
      refine at_get dX12_weeks_70 fl_X12_42 rfl rfl ?_
      refine at_bipush dX12_weeks_73 (v := nI 19) (by decide) ?_
      refine at_mald (a := 72) dX12_weeks_75 (by decide) (by decide) (by decide) (by decide) rfl rfl (by show _ < 5684; omega) (by decide) ?_
      refine at_sipush dX12_weeks_76 (v := nI 999) (by decide) ?_
      rw [hd]
      refine at_geN (tgt := 107) dX12_weeks_79 (by decide) (by omega) (by omega) (fun c79 => ?_) (fun c79 => ?_)
      · rw [if_pos c79] at hQ; subst hQ
        exact hk τ t1 rfl ho (by show c ≤ _; omega) _
      · rw [if_neg (by omega)] at hQ
        have hCd := zdayS_C (Lo := Lo) (s := s) hC h0
        refine at_aload_n dX12_weeks_82 rfl ?_
        refine at_callV0 (d := D - 1) dX12_weeks_83 mv_X12_528 rfl (Nat.le_of_ble_eq_true rfl) (zq_r0 (by omega) (by omega) (by omega)) ?_
        refine zm_dayIsDrawn (by omega) hCt h0 (by rw [ho 72 (by decide) (by decide)]; exact h72) hd (by omega) (zForce_c hF (fun j hj => ho j (by omega) (by omega))) t3 hs (fun υ u1 => ?_)
        have u72 : υ.2.1 72 = zdayS Lo m s (τ.2.1 72) := (u1.2.1 72 (by decide)).trans (zsK_k _ _)
        have hCu : zC υ m (zX1 (υ.2.1 72)) (zW1 (υ.2.1 72)) rk := zC_of (by rw [u72]; exact hCd) (fun y h1 h5 => by rw [show υ.2.1 76 = τ.2.1 76 from (u1.2.1 76 (by decide)).trans (zsA_o _ (by decide) _), t1.2 76 (by decide) (by decide)]; exact hr y h1 h5)
        refine at_iload_n dX12_weeks_86 rfl ?_
        refine at_aload_n dX12_weeks_87 rfl ?_
        refine at_callV0 (d := D - 1) dX12_weeks_88 mv_X12_389 rfl (Nat.le_of_ble_eq_true rfl) (zq_r0 (by omega) (by omega) (by omega)) ?_
        refine zm_isRight (by omega) hCu ?_
        refine at_if_eqB (tgt := 98) dX12_weeks_91 (by decide) (fun c91 => ?_) (fun c91 => ?_)
        · rw [u72] at c91; rw [c91] at hQ
          refine at_iconst dX12_weeks_98 (v := nI 0) (by decide) ?_
          refine at_iaddN dX12_weeks_99 ?_
          refine at_istore_n dX12_weeks_100 rfl (by decide) ?_
          refine at_iincN dX12_weeks_101 rfl (by decide) ?_
          refine at_goto (tgt := 63) dX12_weeks_104 (by decide) ?_
          refine ih (k + 1) _ _ _ (d + 1) υ (by omega) (zTw_t (τ := τ) ⟨fun k h1 h2 => (u1.1 k h1).trans (zsi_o _ h2 _), fun a h1 h2 => (u1.2.1 a h1).trans (zsA_o τ h2 _)⟩ t1) u72 ((u1.1 54 (by omega)).trans (zsi_s _ _ _)) (by omega) hCd ?_ (by omega) (fun j h1 h2 => ?_) (by omega) hQ
          · unfold zdayS
            rw [upd_s, hd, nI_clamp (by omega)]
          · rw [zdayS_o hC.2.1 h0 h1 h2]; exact ho j h1 h2
        · rw [u72] at c91; rw [c91] at hQ
          refine at_iconst dX12_weeks_94 (v := nI 1) (by decide) ?_
          refine at_goto (tgt := 99) dX12_weeks_95 (by decide) ?_
          refine at_iaddN dX12_weeks_99 ?_
          refine at_istore_n dX12_weeks_100 rfl (by decide) ?_
          refine at_iincN dX12_weeks_101 rfl (by decide) ?_
          refine at_goto (tgt := 63) dX12_weeks_104 (by decide) ?_
          refine ih (k + 1) _ _ _ (d + 1) υ (by omega) (zTw_t (τ := τ) ⟨fun k h1 h2 => (u1.1 k h1).trans (zsi_o _ h2 _), fun a h1 h2 => (u1.2.1 a h1).trans (zsA_o τ h2 _)⟩ t1) u72 ((u1.1 54 (by omega)).trans (zsi_s _ _ _)) (by omega) hCd ?_ (by omega) (fun j h1 h2 => ?_) (by omega) hQ
          · unfold zdayS
            rw [upd_s, hd, nI_clamp (by omega)]
          · rw [zdayS_o hC.2.1 h0 h1 h2]; exact ho j h1 h2
theorem zm_weeks_cp {N c : Nat} {sd0 : Int32} (hk : zq_At l G (zq_rm D 0 0) mX12_weeks (zq_QF G post 0 0) 137 [(0, .ref 70), (1, .int sd0), (2, .int (nI N)), (3, .int (nI c)), (4, .int (nI 20))] [] n (zm_h (zsA σ 97 (zcp (σ.2.1 97) (σ.2.1 72) 0 0 20)) ρ) 0 0) : ∀ f i : Nat, i + f = 20 → zq_At l G (zq_rm D 0 0) mX12_weeks (zq_QF G post 0 0) 110 [(0, .ref 70), (1, .int sd0), (2, .int (nI N)), (3, .int (nI c)), (4, .int (nI i))] [] n (zm_h (zsA σ 97 (zcp (σ.2.1 97) (σ.2.1 72) 0 0 i)) ρ) 0 0 := by
  intro f
  induction f with
  | zero =>
    intro i hi
    obtain rfl : i = 20 := hi
    refine at_iload dX12_weeks_110 rfl ?_
    refine at_bipush dX12_weeks_112 (v := nI 20) (by decide) ?_
    refine at_geN (tgt := 137) dX12_weeks_114 (by decide) (by omega) (by omega) (fun c114 => ?_) (fun c114 => ?_)
    · exact hk
    · omega
  | succ f ih =>
    intro i hi
    have hn := ih (i + 1) (by omega)
    unfold zcp at hn
    rw [Nat.zero_add i] at hn
    refine at_iload dX12_weeks_110 rfl ?_
    refine at_bipush dX12_weeks_112 (v := nI 20) (by decide) ?_
    refine at_geN (tgt := 137) dX12_weeks_114 (by decide) (by omega) (by omega) (fun c114 => ?_) (fun c114 => ?_)
    · omega
    · refine at_aload_n dX12_weeks_117 rfl ?_
      refine at_get dX12_weeks_118 fl_X12_126 rfl rfl ?_
      refine at_iload dX12_weeks_121 rfl ?_
      refine at_aload_n dX12_weeks_123 rfl ?_
      refine at_get dX12_weeks_124 fl_X12_42 rfl rfl ?_
      refine at_iload dX12_weeks_127 rfl ?_
      refine at_mald (a := 72) dX12_weeks_129 (by decide) (by decide) (by decide) (by decide) rfl rfl (by show _ < 5684; omega) (by decide) ?_
      rw [zsA_o _ (by decide)]
      refine at_mast (a := 97) dX12_weeks_130 (by decide) (by decide) (by decide) (by decide) rfl rfl (by show _ < 20; omega) (by decide) ?_
      rw [zsA_a]
      refine at_iincN dX12_weeks_131 rfl (by decide) ?_
      refine at_goto (tgt := 110) dX12_weeks_134 (by decide) ?_
      exact hn
/-- what weeks leaves: K behind them, who was there -/
def zWk (σ : zm_S) (m : Nat) (al : Nat → Nat) (K' : Nat → Int32) (τ : zm_S) : Prop :=
  (∀ k, zJi k = false → k ≠ 0 → k ≠ 53 → τ.1 k = σ.1 k) ∧ τ.1 0 = 0 ∧ τ.1 53 = nI m ∧ (∀ a, zJa a = false → a ≠ 76 → a ≠ 97 → τ.2.1 a = σ.2.1 a) ∧ (∀ y, 1 ≤ y → y ≤ 5 → τ.2.1 76 y = nI (zrkN al y)) ∧ ∀ j, j < 20 → τ.2.1 97 j = K' j
theorem zm_weeks {sd v : Int32} {d : Nat} (hD : 80 ≤ D) (hC : zCk (σ.2.1 72) m) (hr : ∀ y, 1 ≤ y → y ≤ 5 → σ.2.1 76 y = nI (rk y) ∧ rk y < 5) (hal : ∀ k, k < 5 → σ.2.1 72 (14 + k) = nI (al k) ∧ al k < 6) (hpm : zpm al) (h72 : zSm (σ.2.1 72 72)) (h19 : σ.2.1 72 19 = nI d) (hd : d ≤ 999) (hF : zForce (σ.2.1 72) Lo)
    (hf1 : ((decide (nI 0 ≤ sd) && decide (sd ≤ nI 1000000)) && (decide (nI 1 ≤ v) && decide (v ≤ nI 60))) = false → post (some (.int (-(nI 1)))) n (zm_h (zref σ 1) ρ)) (hf2 : ((decide (nI 0 ≤ sd) && decide (sd ≤ nI 1000000)) && (decide (nI 1 ≤ v) && decide (v ≤ nI 60))) = true → m = 0 → post (some (.int (-(nI 3)))) n (zm_h (zref σ 3) ρ))
    (ht : ∀ a b τ, a ≤ 1000000 → 1 ≤ b → b ≤ 60 → sd = nI a → v = nI b → 0 < m → zWk σ m al (zwk Lo rk m b (σ.2.1 72) a 0).1 τ → post (some (.int (nI (zwk Lo rk m b (σ.2.1 72) a 0).2))) n (zm_h τ ρ)) : zq_Runs l G D 0 0 yX12_weeks [.ref 70, .int sd, .int v] n (zm_h σ ρ) post := by
  have hm7 := hC.2.1
  refine zq_enter (cc := cX12_weeks) (nL := 5) (ret := (some .int)) cw_X12_weeks (by decide) rfl (Nat.le_of_ble_eq_true rfl) ?_
  refine at_iload_n dX12_weeks_0 rfl ?_
  refine at_iconst dX12_weeks_1 (v := nI 0) (by decide) ?_
  refine at_ldc dX12_weeks_2 (v := nI 1000000) kc_X12_196 ?_
  refine at_callS3 (d := D - 1) dX12_weeks_4 ms_X12_18 (Nat.le_of_ble_eq_true rfl) (zq_r0 (by omega) (by omega) (by omega)) ?_
  refine zm_lies ?_
  refine at_if_eqB (tgt := 20) dX12_weeks_7 (by decide) (fun c7 => ?_) (fun c7 => ?_)
  · have hp := hf1 (by rw [c7]; rfl)
    refine at_aload_n dX12_weeks_20 rfl ?_
    refine at_iconst dX12_weeks_21 (v := -1) rfl ?_
    refine at_callV1 (d := D - 1) dX12_weeks_22 mv_X12_135 rfl (Nat.le_of_ble_eq_true rfl) (zq_r0 (by omega) (by omega) (by omega)) ?_
    refine zm_ref (j := 1) (by decide) ?_
    refine at_iret dX12_weeks_25 rfl (by omega) (by omega) ?_
    exact hp
  · refine at_iload_n dX12_weeks_10 rfl ?_
    refine at_iconst dX12_weeks_11 (v := nI 1) (by decide) ?_
    refine at_bipush dX12_weeks_12 (v := nI 60) (by decide) ?_
    refine at_callS3 (d := D - 1) dX12_weeks_14 ms_X12_18 (Nat.le_of_ble_eq_true rfl) (zq_r0 (by omega) (by omega) (by omega)) ?_
    refine zm_lies ?_
    refine at_if_neB (tgt := 26) dX12_weeks_17 (by decide) (fun c17 => ?_) (fun c17 => ?_)
    · refine at_aload_n dX12_weeks_26 rfl ?_
      refine at_callV0 (d := D - 1) dX12_weeks_27 mv_X12_141 rfl (Nat.le_of_ble_eq_true rfl) (zq_r0 (by omega) (by omega) (by omega)) ?_
      refine zm_many hC.1 ?_
      refine at_if_neN (tgt := 40) dX12_weeks_30 (by decide) (by omega) (fun c30 => ?_) (fun c30 => ?_)
      · obtain ⟨a, -, ha, rfl⟩ := zlies_n (by decide) (by decide) c7
        obtain ⟨b, hb1, hb, rfl⟩ := zlies_n (by decide) (by decide) c17
        have hp := fun τ => ht a b τ ha hb1 hb rfl rfl (by omega)
        refine at_aload_n dX12_weeks_40 rfl ?_
        refine at_iload_n dX12_weeks_41 rfl ?_
        refine at_mput dX12_weeks_42 (pl_X12_518 _) (fun _ => ⟨_, rfl⟩) rfl rfl ?_
        refine at_aload_n dX12_weeks_45 rfl ?_
        refine at_aload_n dX12_weeks_46 rfl ?_
        refine at_callV0 (d := D - 1) dX12_weeks_47 mv_X12_141 rfl (Nat.le_of_ble_eq_true rfl) (zq_r0 (by omega) (by omega) (by omega)) ?_
        refine zm_many hC.1 ?_
        refine at_mput dX12_weeks_50 (pl_X12_129 _) (fun _ => ⟨_, rfl⟩) rfl rfl ?_
        refine at_aload_n dX12_weeks_53 rfl ?_
        refine at_iconst dX12_weeks_54 (v := nI 0) (by decide) ?_
        refine at_callV1 (d := D - 1) dX12_weeks_55 mv_X12_479 rfl (Nat.le_of_ble_eq_true rfl) (zq_r0 (by omega) (by omega) (by omega)) ?_
        refine zm_laysAside (by decide) ?_
        refine at_iconst dX12_weeks_58 (v := nI 0) (by decide) ?_
        refine at_istore_n dX12_weeks_59 rfl (by decide) ?_
        refine at_iconst dX12_weeks_60 (v := nI 0) (by decide) ?_
        refine at_istore dX12_weeks_61 (by decide) ?_
        refine zm_weeks_loop (by omega) hb (by omega) (fun y h1 h5 => ?_) ?_ ?_ (zwk Lo rk m b (σ.2.1 72) a 0) (fun τ t1 t2 t3 t4 i => ?_) b 0 (σ.2.1 72) a 0 d _ (Nat.zero_add _) (zTw_r _) ?_ ?_ (by omega) hC h19 hd (fun j h1 h2 => ?_) (Nat.le_refl _) rfl
        · show (zsA σ 75 _).2.1 76 y = _ ∧ _
          rw [zsA_o _ (by decide)]; exact hr y h1 h5
        · show zSm ((zsA σ 75 _).2.1 72 72)
          rw [zsA_o _ (by decide)]; exact h72
        · show zForce ((zsA σ 75 _).2.1 72) Lo
          rw [zsA_o _ (by decide)]; exact hF
        · have t3' : ∀ j, 14 ≤ j → j ≠ 19 → τ.2.1 72 j = σ.2.1 72 j := fun j h1 h2 => by
            rw [t2, t3 j h1 h2]
            show (zsA σ 75 _).2.1 72 j = _
            rw [zsA_o _ (by decide)]
          have t75 : ∀ j, j < 20 → τ.2.1 75 j = σ.2.1 72 j := fun j hj => by
            rw [t1.2 75 (by decide) (by decide)]
            show (zsA σ 75 _).2.1 75 j = _
            rw [zsA_s, zcp_at, if_pos (by omega), Nat.mul_zero, Nat.sub_zero, Nat.zero_add]
            rfl
          have hgo := zm_weeks_cp (l := l) (G := G) (D := D) (n := n) (ρ := ρ) (post := post) (σ := τ) (N := b) (sd0 := nI a) (c := (zwk Lo rk m b (σ.2.1 72) a 0).2) (by
            have h0 : ∀ k, k < 5 → zcp ((zsA τ 97 (zcp (τ.2.1 97) (τ.2.1 72) 0 0 20)).2.1 72) ((zsA τ 97 (zcp (τ.2.1 97) (τ.2.1 72) 0 0 20)).2.1 75) 0 (20 * 0) 20 (14 + k) = nI (al k) ∧ al k < 6 := by
              intro k hk
              rw [zcp_at, if_pos (by omega), zsA_o _ (by decide), Nat.mul_zero, Nat.sub_zero, Nat.zero_add, t75 _ (by omega)]
              exact hal k hk
            refine at_aload_n dX12_weeks_137 rfl ?_
            refine at_iconst dX12_weeks_138 (v := nI 0) (by decide) ?_
            refine at_callV1 (d := D - 1) dX12_weeks_139 mv_X12_488 rfl (Nat.le_of_ble_eq_true rfl) (zq_r0 (by omega) (by omega) (by omega)) ?_
            refine zm_takesBack (b := 0) (by decide) (by omega) h0 ?_
            refine at_aload_n dX12_weeks_142 rfl ?_
            refine at_iload_n dX12_weeks_143 rfl ?_
            refine at_callV1 (d := D - 1) dX12_weeks_144 mv_X12_14 rfl (Nat.le_of_ble_eq_true rfl) (zq_r0 (by omega) (by omega) (by omega)) ?_
            refine zm_good ?_
            refine at_iret dX12_weeks_147 rfl (by omega) (by omega) ?_
            refine hp _ ⟨fun k h1 h2 h3 => ?_, rfl, ?_, fun a h1 h2 h3 => ?_, fun y h1 h5 => ?_, fun j hj => ?_⟩
            · rw [zsi_o _ h2]
              have hk54 : k ≠ 54 := by rintro rfl; cases h1
              have hk26 : k < 23 ∨ 26 < k := by
                rcases (show k < 23 ∨ 26 < k ∨ (k = 23 ∨ k = 24 ∨ k = 25 ∨ k = 26) by omega) with h | h | (rfl | rfl | rfl | rfl)
                · exact Or.inl h
                · exact Or.inr h
                all_goals cases h1
              show τ.1 k = _
              rw [t1.1 k hk26 hk54]
              show (zm_si (zm_si σ 54 _) 53 _).1 k = _
              rw [zsi_o _ h3, zsi_o _ hk54]
            · rw [zsi_o _ (by decide)]
              show τ.1 53 = _
              rw [t1.1 53 (by omega) (by decide)]
              exact zsi_s (zm_si σ 54 (nI a)) 53 (nI m)
            · have n83 : a ≠ 83 := by rintro rfl; cases h1
              have n75 : a ≠ 75 := by rintro rfl; cases h1
              show (zsA (zsA _ 72 _) 76 _).2.1 a = _
              rw [zsA_o _ h2]
              by_cases e : a = 72
              · subst e
                rw [zsA_s]
                funext j
                rw [zcp_at, zsA_o _ (by decide), zsA_o _ (by decide)]
                by_cases hj : j < 20
                · rw [if_pos (by omega), Nat.mul_zero, Nat.sub_zero, Nat.zero_add]; exact t75 j hj
                · rw [if_neg (by omega)]; exact t3' j (by omega) (by omega)
              · rw [zsA_o _ e, zsA_o _ h3, t1.2 a n83 e]
                show (zsA σ 75 _).2.1 a = _
                rw [zsA_o _ n75]
            · show (zsA (zsA _ 72 _) 76 _).2.1 76 y = _
              rw [zsA_s]; exact zrk_at hpm _ h1 h5
            · show (zsA (zsA _ 72 _) 76 _).2.1 97 j = _
              rw [zsA_o _ (by decide), zsA_o _ (by decide), zsA_s, zcp_at, if_pos (by omega), Nat.sub_zero, Nat.zero_add, t2]
            ) 20 0 rfl
          rw [show zcp (τ.2.1 97) (τ.2.1 72) 0 0 0 = τ.2.1 97 from rfl, zsA_0] at hgo
          refine at_iconst dX12_weeks_107 (v := nI 0) (by decide) ?_
          refine at_istore dX12_weeks_108 (by decide) ?_
          exact hgo
        · show (zsA σ 75 _).2.1 72 = _
          rw [zsA_o _ (by decide)]
        · show (zm_si (zm_si σ 54 (nI a)) 53 (nI m)).1 54 = _
          rw [zsi_o _ (by decide), zsi_s]
        · show _ = (zsA σ 75 _).2.1 72 j
          rw [zsA_o _ (by decide)]
      · have hp := hf2 (by rw [c7, c17]; rfl) c30
        refine at_aload_n dX12_weeks_33 rfl ?_
        refine at_bipush dX12_weeks_34 (v := -3) (by decide) ?_
        refine at_callV1 (d := D - 1) dX12_weeks_36 mv_X12_135 rfl (Nat.le_of_ble_eq_true rfl) (zq_r0 (by omega) (by omega) (by omega)) ?_
        refine zm_ref (j := 3) (by decide) ?_
        refine at_iret dX12_weeks_39 rfl (by omega) (by omega) ?_
        exact hp
    · have hp := hf1 (by rw [c17, Bool.and_false])
      refine at_aload_n dX12_weeks_20 rfl ?_
      refine at_iconst dX12_weeks_21 (v := -1) rfl ?_
      refine at_callV1 (d := D - 1) dX12_weeks_22 mv_X12_135 rfl (Nat.le_of_ble_eq_true rfl) (zq_r0 (by omega) (by omega) (by omega)) ?_
      refine zm_ref (j := 1) (by decide) ?_
      refine at_iret dX12_weeks_25 rfl (by omega) (by omega) ?_
      exact hp
/-- the answer of count -/
def zcntA (σ : zm_S) (m : Nat) (rk : Nat → Nat) (v : Int32) : Int32 :=
  if v = nI 0 then nI m else if v = nI 1 then zfind (zbk rk (zX1 (σ.2.1 72)) (zW1 (σ.2.1 72))) (-1) (m - 1) 0 0 else if v = nI 2 then σ.2.1 72 74 else if v = nI 3 then σ.2.1 72 75 else if v = nI 4 then σ.1 44 else if v = nI 5 then σ.1 14
  else if v = nI 6 then σ.2.1 71 1 else if v = nI 7 then σ.2.1 71 2 else if v = nI 8 then σ.2.1 71 3 else if v = nI 9 then σ.2.1 71 5 else if v = nI 10 then σ.2.1 71 6 else if v = nI 11 then σ.2.1 72 76 else if v = nI 12 then σ.2.1 72 19 else if v = nI 13 then σ.2.1 72 71 else if v = nI 14 then σ.2.1 72 72 else -1
theorem zm_count {v : Int32} (hD : 10 ≤ D) (hC : zCk (σ.2.1 72) m) (hr : ∀ y, 1 ≤ y → y ≤ 5 → σ.2.1 76 y = nI (rk y) ∧ rk y < 5) (hp : post (some (.int (zcntA σ m rk v))) n (zm_h σ ρ)) : zq_Runs l G D 0 0 yX12_count [.ref 70, .int v] n (zm_h σ ρ) post := by
  have hm7 := hC.2.1
  have hCt := zC_of hC hr
  unfold zcntA at hp
  refine zq_enter (cc := cX12_count) (nL := 2) (ret := (some .int)) cw_X12_count (by decide) rfl (Nat.le_of_ble_eq_true rfl) ?_
  refine at_iload_n dX12_count_0 rfl ?_
  rcases zsw (x := v) 14 (by decide) with ⟨j, hj, rfl⟩ | h
  · rcases (show j = 0 ∨ j = 1 ∨ j = 2 ∨ j = 3 ∨ j = 4 ∨ j = 5 ∨ j = 6 ∨ j = 7 ∨ j = 8 ∨ j = 9 ∨ j = 10 ∨ j = 11 ∨ j = 12 ∨ j = 13 ∨ j = 14 by omega) with rfl | rfl | rfl | rfl | rfl | rfl | rfl | rfl | rfl | rfl | rfl | rfl | rfl | rfl | rfl
    · refine at_tableIn (tgt := 76) dX12_count_1 (by decide) (by decide) rfl (by decide) ?_
      rw [if_pos rfl] at hp
      refine at_aload_n dX12_count_76 rfl ?_
      refine at_callV0 (d := D - 1) dX12_count_77 mv_X12_141 rfl (Nat.le_of_ble_eq_true rfl) (zq_r0 (by omega) (by omega) (by omega)) ?_
      refine zm_many hC.1 ?_
      refine at_iret dX12_count_80 rfl (by omega) (by omega) ?_
      exact hp
    · refine at_tableIn (tgt := 81) dX12_count_1 (by decide) (by decide) rfl (by decide) ?_
      rw [if_neg (by decide), if_pos rfl] at hp
      refine at_aload_n dX12_count_81 rfl ?_
      refine at_iconst dX12_count_82 (v := -1) rfl ?_
      refine at_callV1 (d := D - 1) dX12_count_83 mv_X12_334 rfl (Nat.le_of_ble_eq_true rfl) (zq_r0 (by omega) (by omega) (by omega)) ?_
      refine zm_breaks (by omega) hCt ?_
      rw [if_neg (by decide)]
      refine at_iret dX12_count_86 rfl (by omega) (by omega) ?_
      exact hp
    · refine at_tableIn (tgt := 87) dX12_count_1 (by decide) (by decide) rfl (by decide) ?_
      rw [if_neg (by decide), if_neg (by decide), if_pos rfl] at hp
      refine at_aload_n dX12_count_87 rfl ?_
      refine at_get dX12_count_88 fl_X12_42 rfl rfl ?_
      refine at_bipush dX12_count_91 (v := nI 74) (by decide) ?_
      refine at_mald (a := 72) dX12_count_93 (by decide) (by decide) (by decide) (by decide) rfl rfl (by show _ < 5684; omega) (by decide) ?_
      refine at_iret dX12_count_94 rfl (by omega) (by omega) ?_
      exact hp
    · refine at_tableIn (tgt := 95) dX12_count_1 (by decide) (by decide) rfl (by decide) ?_
      rw [if_neg (by decide), if_neg (by decide), if_neg (by decide), if_pos rfl] at hp
      refine at_aload_n dX12_count_95 rfl ?_
      refine at_get dX12_count_96 fl_X12_42 rfl rfl ?_
      refine at_bipush dX12_count_99 (v := nI 75) (by decide) ?_
      refine at_mald (a := 72) dX12_count_101 (by decide) (by decide) (by decide) (by decide) rfl rfl (by show _ < 5684; omega) (by decide) ?_
      refine at_iret dX12_count_102 rfl (by omega) (by omega) ?_
      exact hp
    · refine at_tableIn (tgt := 103) dX12_count_1 (by decide) (by decide) rfl (by decide) ?_
      rw [if_neg (by decide), if_neg (by decide), if_neg (by decide), if_neg (by decide), if_pos rfl] at hp
      refine at_aload_n dX12_count_103 rfl ?_
      refine at_get dX12_count_104 fl_X12_11 rfl rfl ?_
      refine at_iret dX12_count_107 rfl (by omega) (by omega) ?_
      exact hp
    · refine at_tableIn (tgt := 108) dX12_count_1 (by decide) (by decide) rfl (by decide) ?_
      rw [if_neg (by decide), if_neg (by decide), if_neg (by decide), if_neg (by decide), if_neg (by decide), if_pos rfl] at hp
      refine at_aload_n dX12_count_108 rfl ?_
      refine at_get dX12_count_109 fl_X12_175 rfl rfl ?_
      refine at_iret dX12_count_112 rfl (by omega) (by omega) ?_
      exact hp
    · refine at_tableIn (tgt := 113) dX12_count_1 (by decide) (by decide) rfl (by decide) ?_
      rw [if_neg (by decide), if_neg (by decide), if_neg (by decide), if_neg (by decide), if_neg (by decide), if_neg (by decide), if_pos rfl] at hp
      refine at_aload_n dX12_count_113 rfl ?_
      refine at_get dX12_count_114 fl_X12_7 rfl rfl ?_
      refine at_iload_n dX12_count_117 rfl ?_
      refine at_iconst dX12_count_118 (v := nI 5) (by decide) ?_
      refine at_isubN dX12_count_119 (by decide) ?_
      refine at_mald (a := 71) dX12_count_120 (by decide) (by decide) (by decide) (by decide) rfl rfl (by show _ < 7; omega) (by decide) ?_
      refine at_iret dX12_count_121 rfl (by omega) (by omega) ?_
      exact hp
    · refine at_tableIn (tgt := 113) dX12_count_1 (by decide) (by decide) rfl (by decide) ?_
      rw [if_neg (by decide), if_neg (by decide), if_neg (by decide), if_neg (by decide), if_neg (by decide), if_neg (by decide), if_neg (by decide), if_pos rfl] at hp
      refine at_aload_n dX12_count_113 rfl ?_
      refine at_get dX12_count_114 fl_X12_7 rfl rfl ?_
      refine at_iload_n dX12_count_117 rfl ?_
      refine at_iconst dX12_count_118 (v := nI 5) (by decide) ?_
      refine at_isubN dX12_count_119 (by decide) ?_
      refine at_mald (a := 71) dX12_count_120 (by decide) (by decide) (by decide) (by decide) rfl rfl (by show _ < 7; omega) (by decide) ?_
      refine at_iret dX12_count_121 rfl (by omega) (by omega) ?_
      exact hp
    · refine at_tableIn (tgt := 113) dX12_count_1 (by decide) (by decide) rfl (by decide) ?_
      rw [if_neg (by decide), if_neg (by decide), if_neg (by decide), if_neg (by decide), if_neg (by decide), if_neg (by decide), if_neg (by decide), if_neg (by decide), if_pos rfl] at hp
      refine at_aload_n dX12_count_113 rfl ?_
      refine at_get dX12_count_114 fl_X12_7 rfl rfl ?_
      refine at_iload_n dX12_count_117 rfl ?_
      refine at_iconst dX12_count_118 (v := nI 5) (by decide) ?_
      refine at_isubN dX12_count_119 (by decide) ?_
      refine at_mald (a := 71) dX12_count_120 (by decide) (by decide) (by decide) (by decide) rfl rfl (by show _ < 7; omega) (by decide) ?_
      refine at_iret dX12_count_121 rfl (by omega) (by omega) ?_
      exact hp
    · refine at_tableIn (tgt := 122) dX12_count_1 (by decide) (by decide) rfl (by decide) ?_
      rw [if_neg (by decide), if_neg (by decide), if_neg (by decide), if_neg (by decide), if_neg (by decide), if_neg (by decide), if_neg (by decide), if_neg (by decide), if_neg (by decide), if_pos rfl] at hp
      refine at_aload_n dX12_count_122 rfl ?_
      refine at_get dX12_count_123 fl_X12_7 rfl rfl ?_
      refine at_iconst dX12_count_126 (v := nI 5) (by decide) ?_
      refine at_mald (a := 71) dX12_count_127 (by decide) (by decide) (by decide) (by decide) rfl rfl (by show _ < 7; omega) (by decide) ?_
      refine at_iret dX12_count_128 rfl (by omega) (by omega) ?_
      exact hp
    · refine at_tableIn (tgt := 129) dX12_count_1 (by decide) (by decide) rfl (by decide) ?_
      rw [if_neg (by decide), if_neg (by decide), if_neg (by decide), if_neg (by decide), if_neg (by decide), if_neg (by decide), if_neg (by decide), if_neg (by decide), if_neg (by decide), if_neg (by decide), if_pos rfl] at hp
      refine at_aload_n dX12_count_129 rfl ?_
      refine at_get dX12_count_130 fl_X12_7 rfl rfl ?_
      refine at_bipush dX12_count_133 (v := nI 6) (by decide) ?_
      refine at_mald (a := 71) dX12_count_135 (by decide) (by decide) (by decide) (by decide) rfl rfl (by show _ < 7; omega) (by decide) ?_
      refine at_iret dX12_count_136 rfl (by omega) (by omega) ?_
      exact hp
    · refine at_tableIn (tgt := 137) dX12_count_1 (by decide) (by decide) rfl (by decide) ?_
      rw [if_neg (by decide), if_neg (by decide), if_neg (by decide), if_neg (by decide), if_neg (by decide), if_neg (by decide), if_neg (by decide), if_neg (by decide), if_neg (by decide), if_neg (by decide), if_neg (by decide), if_pos rfl] at hp
      refine at_aload_n dX12_count_137 rfl ?_
      refine at_get dX12_count_138 fl_X12_42 rfl rfl ?_
      refine at_bipush dX12_count_141 (v := nI 76) (by decide) ?_
      refine at_mald (a := 72) dX12_count_143 (by decide) (by decide) (by decide) (by decide) rfl rfl (by show _ < 5684; omega) (by decide) ?_
      refine at_iret dX12_count_144 rfl (by omega) (by omega) ?_
      exact hp
    · refine at_tableIn (tgt := 145) dX12_count_1 (by decide) (by decide) rfl (by decide) ?_
      rw [if_neg (by decide), if_neg (by decide), if_neg (by decide), if_neg (by decide), if_neg (by decide), if_neg (by decide), if_neg (by decide), if_neg (by decide), if_neg (by decide), if_neg (by decide), if_neg (by decide), if_neg (by decide), if_pos rfl] at hp
      refine at_aload_n dX12_count_145 rfl ?_
      refine at_get dX12_count_146 fl_X12_42 rfl rfl ?_
      refine at_iload_n dX12_count_149 rfl ?_
      refine at_bipush dX12_count_150 (v := nI 12) (by decide) ?_
      refine at_isubN dX12_count_152 (by decide) ?_
      refine at_callS1 (d := D - 1) dX12_count_153 ms_X12_172 (Nat.le_of_ble_eq_true rfl) (zq_r0 (by omega) (by omega) (by omega)) ?_
      refine zm_termAt (j := 0) (by decide) ?_
      refine at_mald (a := 72) dX12_count_156 (by decide) (by decide) (by decide) (by decide) rfl rfl (by decide) (by decide) ?_
      refine at_iret dX12_count_157 rfl (by omega) (by omega) ?_
      exact hp
    · refine at_tableIn (tgt := 145) dX12_count_1 (by decide) (by decide) rfl (by decide) ?_
      rw [if_neg (by decide), if_neg (by decide), if_neg (by decide), if_neg (by decide), if_neg (by decide), if_neg (by decide), if_neg (by decide), if_neg (by decide), if_neg (by decide), if_neg (by decide), if_neg (by decide), if_neg (by decide), if_neg (by decide), if_pos rfl] at hp
      refine at_aload_n dX12_count_145 rfl ?_
      refine at_get dX12_count_146 fl_X12_42 rfl rfl ?_
      refine at_iload_n dX12_count_149 rfl ?_
      refine at_bipush dX12_count_150 (v := nI 12) (by decide) ?_
      refine at_isubN dX12_count_152 (by decide) ?_
      refine at_callS1 (d := D - 1) dX12_count_153 ms_X12_172 (Nat.le_of_ble_eq_true rfl) (zq_r0 (by omega) (by omega) (by omega)) ?_
      refine zm_termAt (j := 1) (by decide) ?_
      refine at_mald (a := 72) dX12_count_156 (by decide) (by decide) (by decide) (by decide) rfl rfl (by decide) (by decide) ?_
      refine at_iret dX12_count_157 rfl (by omega) (by omega) ?_
      exact hp
    · refine at_tableIn (tgt := 145) dX12_count_1 (by decide) (by decide) rfl (by decide) ?_
      rw [if_neg (by decide), if_neg (by decide), if_neg (by decide), if_neg (by decide), if_neg (by decide), if_neg (by decide), if_neg (by decide), if_neg (by decide), if_neg (by decide), if_neg (by decide), if_neg (by decide), if_neg (by decide), if_neg (by decide), if_neg (by decide), if_pos rfl] at hp
      refine at_aload_n dX12_count_145 rfl ?_
      refine at_get dX12_count_146 fl_X12_42 rfl rfl ?_
      refine at_iload_n dX12_count_149 rfl ?_
      refine at_bipush dX12_count_150 (v := nI 12) (by decide) ?_
      refine at_isubN dX12_count_152 (by decide) ?_
      refine at_callS1 (d := D - 1) dX12_count_153 ms_X12_172 (Nat.le_of_ble_eq_true rfl) (zq_r0 (by omega) (by omega) (by omega)) ?_
      refine zm_termAt (j := 2) (by decide) ?_
      refine at_mald (a := 72) dX12_count_156 (by decide) (by decide) (by decide) (by decide) rfl rfl (by decide) (by decide) ?_
      refine at_iret dX12_count_157 rfl (by omega) (by omega) ?_
      exact hp
  · refine at_tableOut (tgt := 158) dX12_count_1 h (by decide) ?_
    rw [if_neg (zsw_ne h (j := 0) (by decide) (by decide)), if_neg (zsw_ne h (j := 1) (by decide) (by decide)), if_neg (zsw_ne h (j := 2) (by decide) (by decide)), if_neg (zsw_ne h (j := 3) (by decide) (by decide)), if_neg (zsw_ne h (j := 4) (by decide) (by decide)), if_neg (zsw_ne h (j := 5) (by decide) (by decide)), if_neg (zsw_ne h (j := 6) (by decide) (by decide)), if_neg (zsw_ne h (j := 7) (by decide) (by decide)), if_neg (zsw_ne h (j := 8) (by decide) (by decide)), if_neg (zsw_ne h (j := 9) (by decide) (by decide)), if_neg (zsw_ne h (j := 10) (by decide) (by decide)), if_neg (zsw_ne h (j := 11) (by decide) (by decide)), if_neg (zsw_ne h (j := 12) (by decide) (by decide)), if_neg (zsw_ne h (j := 13) (by decide) (by decide)), if_neg (zsw_ne h (j := 14) (by decide) (by decide))] at hp
    refine at_iconst dX12_count_158 (v := -1) rfl ?_
    refine at_iret dX12_count_159 rfl (by omega) (by omega) ?_
    exact hp
end ZL34

