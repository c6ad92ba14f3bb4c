/-! ===== the Model's orders, the call ===== -/
/-- alike but for what a call of orders leaves -/
def zOr (τ σ : zm_S) : Prop := (∀ k, zJi k = false → k ≠ 0 → k ≠ 14 → k ≠ 15 → k ≠ 44 → k ≠ 45 → τ.1 k = σ.1 k) ∧ (∀ a, zJa a = false → a ≠ 71 → a ≠ 72 → a ≠ 76 → a ≠ 94 → τ.2.1 a = σ.2.1 a)
/-- what is kept once the text of orders is laid -/
def zKL (K : Nat → Int32) (T : Nat → Int32) (z : Nat) : Nat → Int32 := zlaid K (fun j => nI (zcN T z j)) (fun j => nI (zvN T z j)) 6 (zTok T z).length
theorem zKL_lo {K T : Nat → Int32} {z j : Nat} (hN : (zTok T z).length ≤ 400) (hj : j < 83) : zKL K T z j = K j := by
  unfold zKL
  rw [zlaid_at _ _ _ hN, if_neg (by omega), if_neg (by omega), if_neg (by omega)]
theorem zKL_F {K T : Nat → Int32} {z : Nat} {Lo : Option (List zLC)} (hN : (zTok T z).length ≤ 400) (h : zForce K Lo) : zForce (zKL K T z) Lo := by
  refine zForce_c2 h (zKL_lo hN (by decide)) (fun u hu => zKL_lo hN (by omega)) (fun u k hu hk => ?_)
  unfold zKL
  rw [zlaid_at _ _ _ hN, zlaid_at _ _ _ hN, if_neg (by omega), if_neg (by omega), if_neg (by omega), if_neg (by omega), if_neg (by omega), if_neg (by omega)]
  exact ⟨rfl, rfl⟩
theorem zcN_0 {T : Nat → Int32} {z k : Nat} (h : (zTok T z).length ≤ k) : zcN T z k = 0 := by unfold zcN; rw [List.getElem?_eq_none h]
theorem zcN_lt (T : Nat → Int32) (z k : Nat) : zcN T z k < 1000 := by
  unfold zcN
  split
  · exact zcode_lt _ _ _
  · decide
theorem zKL_Tx {K T : Nat → Int32} {z : Nat} (hN : (zTok T z).length ≤ 400) : zTx (zKL K T z) (zTok T z).length (zcN T z) (zvN T z) := by
  refine ⟨hN, fun k hk => zcN_0 hk, zcN_lt T z, fun k hk => ?_⟩
  unfold zKL
  rw [zlaid_at _ _ _ hN, zlaid_at _ _ _ hN, if_pos (by omega), if_neg (by omega), if_pos (by omega), show 84 + (2400 + k) - 2484 = k by omega, show 2884 + (2400 + k) - 5284 = k by omega]
  exact ⟨rfl, rfl⟩
theorem zJi_26 {k : Nat} (h : zJi k = false) : (k < 23 ∨ 26 < k) ∧ k ≠ 28 ∧ k ≠ 29 ∧ (k < 46 ∨ 50 < k) := by
  refine ⟨?_, (by rintro rfl; cases h), (by rintro rfl; cases h), ?_⟩
  · rcases (show k < 23 ∨ 26 < k ∨ (k = 23 ∨ k = 24 ∨ k = 25 ∨ k = 26) by omega) with g | g | (rfl | rfl | rfl | rfl)
    · exact Or.inl g
    · exact Or.inr g
    all_goals cases h
  · rcases (show k < 46 ∨ 50 < k ∨ (k = 46 ∨ k = 47 ∨ k = 48 ∨ k = 49 ∨ k = 50) by omega) with g | g | (rfl | rfl | rfl | rfl | rfl)
    · exact Or.inl g
    · exact Or.inr g
    all_goals cases h
section ZL41
variable {l : Launch} {G : zq_G} {D n m : Nat} {σ : zm_S} {ρ : Nat → zq_E} {post : Option Value → Nat → (Nat → zq_E) → Prop} {Lo : Option (List zLC)} {K : Nat → Int32} {Λ : List Nat}
theorem zm_orders {z : Nat} {Os : List zOC} (hD : 85 ≤ D) (hw : zWr σ) (h14 : σ.1 14 = nI z) (hz : z ≤ 400) (hS : zMS σ m Lo K Λ)
    (hf1 : ∀ τ, (zRd (σ.2.1 78) z true).2.2 ≠ 0 → zEs τ (zref (zm_si (zm_si (zm_si σ 45 (-1)) 14 0) 15 (zlast (zRd (σ.2.1 78) z true).2.2)) 6) → post (some (.int (-(nI 6)))) n (zm_h τ ρ))
    (hO : (zRd (σ.2.1 78) z true).2.2 = 0 → zSpOs (zcN (σ.2.1 78) z) (zvN (σ.2.1 78) z) (zTok (σ.2.1 78) z).length Os 0)
    (hf2 : ∀ τ i, (zRd (σ.2.1 78) z true).2.2 = 0 → zrunsF m Lo Os 0 (zKL K (σ.2.1 78) z, Λ, 0, -1) = .inr i → zOr τ σ → zMS τ m Lo (zKL K (σ.2.1 78) z) Λ → τ.1 0 = -(nI 3) → τ.1 14 = 0 → τ.1 15 = -1 → τ.1 45 = nI i → τ.2.1 71 = upd (σ.2.1 71) 3 (σ.2.1 71 3 + nI 1) → post (some (.int (-(nI 3)))) n (zm_h τ ρ))
    (ht : ∀ τ S', (zRd (σ.2.1 78) z true).2.2 = 0 → zrunsF m Lo Os 0 (zKL K (σ.2.1 78) z, Λ, 0, -1) = .inl S' → zOr τ σ → zMS τ m Lo S'.1 S'.2.1 → τ.1 0 = 0 → τ.1 14 = 0 → τ.1 15 = -1 → τ.1 45 = -1 → τ.2.1 71 = σ.2.1 71 → (∀ q, 20 ≤ q → S'.1 q = zKL K (σ.2.1 78) z q) → post (some (.int (nI S'.2.2.1))) n (zm_h τ ρ)) : zq_Runs l G D 0 0 yX12_orders [.ref 70] n (zm_h σ ρ) post := by
  have hm7 := hS.2.1.1.2.1
  have hA := hS.2.1.2.1
  refine zq_enter (cc := cX12_orders) (nL := 5) (ret := (some .int)) cw_X12_orders (by decide) rfl (Nat.le_of_ble_eq_true rfl) ?_
  refine at_aload_n dX12_orders_0 rfl ?_
  refine at_iconst dX12_orders_1 (v := -1) rfl ?_
  refine at_mput dX12_orders_2 (pl_X12_120 _) (fun _ => ⟨_, rfl⟩) rfl rfl ?_
  refine at_aload_n dX12_orders_5 rfl ?_
  refine at_iconst dX12_orders_6 (v := nI 1) (by decide) ?_
  rw [show (nI 1 : Int32) = zb true from rfl]
  refine at_callV1 (d := D - 1) dX12_orders_7 mv_X12_273 rfl (Nat.le_of_ble_eq_true rfl) (zq_r0 (by omega) (by omega) (by omega)) ?_
  refine zm_readsAs (σ := zm_si σ 45 (-1)) (o := true) (by omega) hw h14 hz (fun τ hτ => ?_)
  obtain ⟨g1, g2, g3, g4⟩ := hτ
  have g1 : zEs τ (zm_si (zm_si (zm_si σ 45 (-1)) 14 0) 15 (zlast (zRd (σ.2.1 78) z true).2.2)) := g1
  have g2 : τ.1 19 = nI (zTok (σ.2.1 78) z).length := g2
  have g3 : (zTok (σ.2.1 78) z).length ≤ z := g3
  have g4 : ∀ j, j < (zTok (σ.2.1 78) z).length → τ.2.1 80 j = nI (zcN (σ.2.1 78) z j) ∧ τ.2.1 81 j = nI (zvN (σ.2.1 78) z j) := g4
  rw [show (zm_si σ 45 (-1)).2.1 78 = σ.2.1 78 from rfl]
  have e72 : τ.2.1 72 = σ.2.1 72 := g1.2 72 rfl
  refine at_if_neB (tgt := 20) dX12_orders_10 (by decide) (fun c10 => ?_) (fun c10 => ?_)
  · have hz0 := of_decide_eq_true c10
    have hO := hO hz0
    have hf2 := fun τ i => hf2 τ i hz0
    have ht := fun τ S' => ht τ S' hz0
    rw [hz0] at g1
    have hN : (zTok (σ.2.1 78) z).length ≤ 400 := by omega
    generalize hEE : (zTok (σ.2.1 78) z).length = E at *
    refine at_aload_n dX12_orders_20 rfl ?_
    refine at_iconst dX12_orders_21 (v := nI 1) (by decide) ?_
    refine at_callV1 (d := D - 1) dX12_orders_22 mv_X12_479 rfl (Nat.le_of_ble_eq_true rfl) (zq_r0 (by omega) (by omega) (by omega)) ?_
    refine zm_laysAside (b := 1) (by decide) ?_
    refine at_iconst dX12_orders_25 (v := nI 0) (by decide) ?_
    refine at_istore_n dX12_orders_26 rfl (by decide) ?_
    have hgo := zm_or_cp (l := l) (G := G) (D := D) (n := n) (ρ := ρ) (post := post) (K := K) (σ := zsA τ 75 (zcp (τ.2.1 75) (τ.2.1 72) (20 * 1) 0 20)) (by
      -- what stands there then
      have h44 : τ.1 44 = nI Λ.length := (g1.1 44 rfl).trans hS.2.2.2.2.1
      generalize hυ : zsA (zsA τ 75 (zcp (τ.2.1 75) (τ.2.1 72) (20 * 1) 0 20)) 95 (zcp ((zsA τ 75 (zcp (τ.2.1 75) (τ.2.1 72) (20 * 1) 0 20)).2.1 95) ((zsA τ 75 (zcp (τ.2.1 75) (τ.2.1 72) (20 * 1) 0 20)).2.1 94) 0 0 336) = υ
      have u1 : υ.1 = τ.1 := by rw [← hυ]; rfl
      have u2 : ∀ a, a ≠ 75 → a ≠ 95 → υ.2.1 a = τ.2.1 a := fun a a1 a2 => by rw [← hυ, zsA_o _ a2, zsA_o _ a1]
      have u75 : ∀ j, j < 20 → υ.2.1 75 (20 + j) = σ.2.1 72 j := fun j hj => by rw [← hυ, zsA_o _ (by decide), zsA_s, zcp_at, if_pos (by omega), e72, show 0 + (20 + j - 20 * 1) = j by omega]
      have u95 : ∀ j, j < 336 → υ.2.1 95 j = σ.2.1 94 j := fun j hj => by rw [← hυ, zsA_s, zcp_at, if_pos (by omega), zsA_o _ (by decide), show 0 + (j - 0) = j by omega, g1.2 94 rfl]; rfl
      have v72 : υ.2.1 72 = σ.2.1 72 := (u2 72 (by decide) (by decide)).trans e72
      have hK1 : zlaid (σ.2.1 72) (fun j => nI (zcN (σ.2.1 78) z j)) (fun j => nI (zvN (σ.2.1 78) z j)) 6 E = zKL K (σ.2.1 78) z := by unfold zKL; rw [hEE, hS.1]
      have hKlo : ∀ j, j < 83 → zKL K (σ.2.1 78) z j = K j := fun j hj => zKL_lo (by rw [hEE]; exact hN) hj
      have hKF : zForce (zKL K (σ.2.1 78) z) Lo := zKL_F (by rw [hEE]; exact hN) hS.2.1.2.2.2.2.2
      have hKT : zTx (zKL K (σ.2.1 78) z) E (zcN (σ.2.1 78) z) (zvN (σ.2.1 78) z) := by have := zKL_Tx (K := K) (T := σ.2.1 78) (z := z) (by rw [hEE]; exact hN); rw [hEE] at this; exact this
      have hk83 : zKL K (σ.2.1 78) z 83 = nI E := by unfold zKL; rw [hEE, zlaid_at _ _ _ hN, if_neg (by omega), if_neg (by omega), if_pos rfl]
      generalize zKL K (σ.2.1 78) z = K1 at *
      have u2' : ∀ a, zJa a = false → υ.2.1 a = σ.2.1 a := fun a ha => (u2 a (by rintro rfl; cases ha) (by rintro rfl; cases ha)).trans (g1.2 a ha)
      have hrk : ∀ y, 1 ≤ y → y ≤ 5 → υ.2.1 76 y = nI (zrkK K y) := fun y a b => by rw [u2' 76 rfl]; exact hS.2.2.1 y a b
      have h94 : υ.2.1 94 = σ.2.1 94 := u2' 94 rfl
      refine at_aload_n dX12_orders_52 rfl ?_
      refine at_get dX12_orders_53 fl_X12_11 rfl rfl ?_
      rw [u1, h44]
      refine at_istore_n dX12_orders_56 rfl (by decide) ?_
      refine at_aload_n dX12_orders_57 rfl ?_
      refine at_bipush dX12_orders_58 (v := nI 6) (by decide) ?_
      refine at_callV1 (d := D - 1) dX12_orders_60 mv_X12_277 rfl (Nat.le_of_ble_eq_true rfl) (zq_r0 (by omega) (by omega) (by omega)) ?_
      refine zm_lays (t := 6) (N := E) (by decide) hN (by rw [u1]; exact g2) (fun j hj => (by rw [u2 80 (by decide) (by decide)]; exact (g4 j hj).1 : υ.2.1 80 j = (fun j => nI (zcN (σ.2.1 78) z j)) j)) (fun j hj => (by rw [u2 81 (by decide) (by decide)]; exact (g4 j hj).2 : υ.2.1 81 j = (fun j => nI (zvN (σ.2.1 78) z j)) j)) ?_
      rw [v72, hK1]
      refine at_aload_n dX12_orders_63 rfl ?_
      refine at_iconst dX12_orders_64 (v := nI 0) (by decide) ?_
      refine at_mput dX12_orders_65 (pl_X12_328 _) (fun _ => ⟨_, rfl⟩) rfl rfl ?_
      refine at_aload_n dX12_orders_68 rfl ?_
      refine at_iconst dX12_orders_69 (v := -1) rfl ?_
      refine at_mput dX12_orders_70 (pl_X12_331 _) (fun _ => ⟨_, rfl⟩) rfl rfl ?_
      refine at_aload_n dX12_orders_73 rfl ?_
      refine at_sipush dX12_orders_74 (v := nI 2400) (by decide) ?_
      refine at_mput dX12_orders_77 (pl_X12_482 _) (fun _ => ⟨_, rfl⟩) rfl rfl ?_
      refine at_aload_n dX12_orders_80 rfl ?_
      refine at_get dX12_orders_81 fl_X12_482 rfl rfl ?_
      rw [show (zm_si (zm_si (zm_si (zsK υ K1) 28 (nI 0)) 29 (-1)) 46 (nI 2400)).1 46 = nI 2400 from rfl]
      refine at_aload_n dX12_orders_84 rfl ?_
      refine at_get dX12_orders_85 fl_X12_42 rfl rfl ?_
      refine at_bipush dX12_orders_88 (v := nI 83) (by decide) ?_
      refine at_mald (a := 72) dX12_orders_90 (by decide) (by decide) (by decide) (by decide) rfl rfl (by show _ < 5684; omega) (by decide) ?_
      rw [show (zm_si (zm_si (zm_si (zsK υ K1) 28 (nI 0)) 29 (-1)) 46 (nI 2400)).2.1 72 = K1 from zsK_k υ K1, hk83]
      refine at_iaddN dX12_orders_91 ?_
      refine at_istore_n dX12_orders_92 rfl (by decide) ?_
      refine at_iconst dX12_orders_93 (v := nI 0) (by decide) ?_
      refine at_istore_n dX12_orders_94 rfl (by decide) ?_
      generalize hω : zm_si (zm_si (zm_si (zsK υ K1) 28 (nI 0)) 29 (-1)) 46 (nI 2400) = ω
      have w1 : ∀ k, k ≠ 28 → k ≠ 29 → k ≠ 46 → ω.1 k = τ.1 k := fun k a1 a2 a3 => by rw [← hω, zsi_o _ a3, zsi_o _ a2, zsi_o _ a1]; exact congrFun u1 k
      have w2 : ∀ a, a ≠ 72 → ω.2.1 a = υ.2.1 a := fun a ha => by rw [← hω]; exact zsA_o _ ha _
      have w72 : ω.2.1 72 = K1 := by rw [← hω]; exact zsK_k υ K1
      have hMS : zMS ω m Lo K1 Λ := zMS_K hS w72 (by rw [w2 76 (by decide)]; exact hrk) (fun j _ => by rw [w2 94 (by decide), h94]) ((w1 44 (by decide) (by decide) (by decide)).trans (g1.1 44 rfl)) (fun j hj => hKlo j (by omega)) hKF
      refine zm_orders_loop (σ := ω) (E := E) (cd := zcN (σ.2.1 78) z) (vl := zvN (σ.2.1 78) z) (by omega) (zrunsF m Lo Os 0 (K1, Λ, 0, -1)) K1 (fun ψ k v e ek p1 p2 => ?_) (fun ψ S' v w e p1 p2 p3 => ?_) Os 0 0 (K1, Λ, 0, -1) ω hO ⟨hMS, by rw [← hω]; rfl, by show 0 ≤ _; omega, by rw [← hω]; rfl, by show (-1 : Int) ≤ -1; omega, by show (-1 : Int) ≤ 99; omega⟩ hKT (zRo_r ω) (by rw [← hω]; rfl) (fun _ _ => rfl) (Nat.le_refl _) (Nat.le_refl _) (by omega) rfl
      · -- it can't be
        have q75 : ∀ j, j < 20 → ψ.2.1 75 (20 + j) = σ.2.1 72 j := fun j hj => by rw [p1.2 75 (by decide) (by decide) (by decide) (by decide), w2 75 (by decide)]; exact u75 j hj
        have q95 : ∀ j, j < 336 → ψ.2.1 95 j = σ.2.1 94 j := fun j hj => by rw [p1.2 95 (by decide) (by decide) (by decide) (by decide), w2 95 (by decide)]; exact u95 j hj
        have hback : zcp (ψ.2.1 72) (ψ.2.1 75) 0 (20 * 1) 20 = K1 := by
          funext j
          rw [zcp_at]
          by_cases hj : j < 20
          · rw [if_pos (by omega), show 20 * 1 + (j - 0) = 20 + j by omega, q75 j hj, hKlo j (by omega), hS.1]
          · rw [if_neg (by omega)]; exact p2 j (by omega)
        have hal : ∀ k, k < 5 → zcp (ψ.2.1 72) (ψ.2.1 75) 0 (20 * 1) 20 (14 + k) = nI (alK K k) ∧ alK K k < 6 := fun k hk => by
          rw [hback, hKlo _ (by omega)]
          exact ⟨hA.1 k hk, by have := (hA.2.1 k hk).2; omega⟩
        refine at_aload_n dX12_orders_114 rfl ?_
        refine at_iconst dX12_orders_115 (v := nI 1) (by decide) ?_
        refine at_callV1 (d := D - 1) dX12_orders_116 mv_X12_488 rfl (Nat.le_of_ble_eq_true rfl) (zq_r0 (by omega) (by omega) (by omega)) ?_
        refine zm_takesBack (b := 1) (by decide) (by omega) hal ?_
        refine at_iconst dX12_orders_119 (v := nI 0) (by decide) ?_
        refine at_istore dX12_orders_120 (by decide) ?_
        rw [hback]
        have hgo := zm_or_back (l := l) (G := G) (D := D) (n := n) (ρ := ρ) (post := post) (a := nI Λ.length) (b := v) (c := nI k) (σ := zsA (zsA ψ 72 K1) 76 (zrk (ψ.2.1 76) (alK K) 5)) (by
          generalize hχ : zsA (zsA (zsA ψ 72 K1) 76 (zrk (ψ.2.1 76) (alK K) 5)) 94 (zcp ((zsA (zsA ψ 72 K1) 76 (zrk (ψ.2.1 76) (alK K) 5)).2.1 94) ((zsA (zsA ψ 72 K1) 76 (zrk (ψ.2.1 76) (alK K) 5)).2.1 95) 0 0 336) = χ
          have x1 : χ.1 = ψ.1 := by rw [← hχ]; rfl
          have x2 : ∀ a, a ≠ 72 → a ≠ 76 → a ≠ 94 → χ.2.1 a = ψ.2.1 a := fun a a1 a2 a3 => by rw [← hχ, zsA_o _ a3, zsA_o _ a2, zsA_o _ a1]
          have x72 : χ.2.1 72 = K1 := by rw [← hχ, zsA_o _ (by decide), zsA_o _ (by decide), zsA_s]
          have x76 : ∀ y, 1 ≤ y → y ≤ 5 → χ.2.1 76 y = nI (zrkK K y) := fun y a b => by rw [← hχ, zsA_o _ (by decide), zsA_s]; exact zrk_at hA.2 _ a b
          have x94 : ∀ j, j < 336 → χ.2.1 94 j = σ.2.1 94 j := fun j hj => by rw [← hχ, zsA_s, zcp_at, if_pos (by omega), zsA_o _ (by decide), zsA_o _ (by decide), show 0 + (j - 0) = j by omega]; exact q95 j hj
          have x71 : χ.2.1 71 = σ.2.1 71 := by rw [x2 71 (by decide) (by decide) (by decide), p1.2 71 (by decide) (by decide) (by decide) (by decide), w2 71 (by decide), u2' 71 rfl]
          have xi : ∀ k, zJi k = false → k ≠ 44 → χ.1 k = τ.1 k := fun k a1 a2 => by
            obtain ⟨b1, b2, b3, b4⟩ := zJi_26 a1
            rw [x1, p1.1 k b1 b2 b3 a2 b4, w1 k b2 b3 (by omega)]
          have hp := hf2 (zref (zm_si (zm_si χ 44 (nI Λ.length)) 45 (nI k)) 3) k e ⟨fun k' a1 a2 a3 a4 a5 a6 => ?_, fun a a1 a2 a3 a4 a5 => ?_⟩ ?_ rfl ?_ ?_ rfl ?_
          refine at_aload_n dX12_orders_150 rfl ?_
          refine at_iload_n dX12_orders_151 rfl ?_
          refine at_mput dX12_orders_152 (pl_X12_11 _) (fun _ => ⟨_, rfl⟩) rfl rfl ?_
          refine at_aload_n dX12_orders_155 rfl ?_
          refine at_iload_n dX12_orders_156 rfl ?_
          refine at_mput dX12_orders_157 (pl_X12_120 _) (fun _ => ⟨_, rfl⟩) rfl rfl ?_
          refine at_aload_n dX12_orders_160 rfl ?_
          refine at_bipush dX12_orders_161 (v := -3) (by decide) ?_
          refine at_callV1 (d := D - 1) dX12_orders_163 mv_X12_135 rfl (Nat.le_of_ble_eq_true rfl) (zq_r0 (by omega) (by omega) (by omega)) ?_
          refine zm_ref (j := 3) (by decide) ?_
          refine at_iret dX12_orders_166 rfl (by omega) (by omega) ?_
          exact hp
          · show upd _ _ _ k' = _
            rw [upd_o _ a2]
            show (zm_si (zm_si χ 44 _) 45 _).1 k' = _
            rw [zsi_o _ a6, zsi_o _ a5, xi k' a1 a5, g1.1 k' a1, zsi_o _ a4, zsi_o _ a3, zsi_o _ a6]
          · show (zm_sa (zm_si (zm_si (zm_si χ 44 _) 45 _) 0 _) 71 3 _).2.1 a = _
            rw [zm_sa_o _ a2]
            show χ.2.1 a = _
            rw [x2 a a3 a4 a5, p1.2 a (by rintro rfl; cases a1) a3 a4 a5, w2 a a3, u2' a a1]
          · refine zMS_K hS ?_ ?_ ?_ ?_ (fun j hj => hKlo j (by omega)) hKF
            · show (zm_sa (zm_si (zm_si (zm_si χ 44 _) 45 _) 0 _) 71 3 _).2.1 72 = _
              rw [zm_sa_o _ (by decide)]; exact x72
            · intro y a b
              show (zm_sa (zm_si (zm_si (zm_si χ 44 _) 45 _) 0 _) 71 3 _).2.1 76 y = _
              rw [zm_sa_o _ (by decide)]; exact x76 y a b
            · intro j hj
              show (zm_sa (zm_si (zm_si (zm_si χ 44 _) 45 _) 0 _) 71 3 _).2.1 94 j = _
              rw [zm_sa_o _ (by decide)]; exact x94 j hj
            · show upd (upd (upd χ.1 44 (nI Λ.length)) 45 (nI k)) 0 (-(nI 3)) 44 = _
              rw [upd_o _ (by decide), upd_o _ (by decide), upd_s]; exact hS.2.2.2.2.1.symm
          · show upd (upd (upd χ.1 44 (nI Λ.length)) 45 (nI k)) 0 (-(nI 3)) 14 = _
            rw [upd_o _ (by decide), upd_o _ (by decide), upd_o _ (by decide), xi 14 rfl (by decide), g1.1 14 rfl, zsi_o _ (by decide), zsi_s]
          · show upd (upd (upd χ.1 44 (nI Λ.length)) 45 (nI k)) 0 (-(nI 3)) 15 = _
            rw [upd_o _ (by decide), upd_o _ (by decide), upd_o _ (by decide), xi 15 rfl (by decide), g1.1 15 rfl, zsi_s]; rfl
          · show (zm_sa (zm_si (zm_si (zm_si χ 44 _) 45 _) 0 _) 71 3 _).2.1 71 = _
            rw [zm_sa_s]
            show upd (χ.2.1 71) 3 (χ.2.1 71 3 + nI 1) = _
            rw [x71]
          ) 336 0 rfl
        rw [show zcp ((zsA (zsA ψ 72 K1) 76 (zrk (ψ.2.1 76) (alK K) 5)).2.1 94) ((zsA (zsA ψ 72 K1) 76 (zrk (ψ.2.1 76) (alK K) 5)).2.1 95) 0 0 0 = (zsA (zsA ψ 72 K1) 76 (zrk (ψ.2.1 76) (alK K) 5)).2.1 94 from rfl, zsA_0] at hgo
        exact hgo
      · have hp := ht (zm_si ψ 0 0) S' e ⟨fun k' a1 a2 a3 a4 a5 a6 => ?_, fun a a1 a2 a3 a4 a5 => ?_⟩ p2.1 rfl ?_ ?_ ?_ ?_ p3
        refine at_aload_n dX12_orders_173 rfl ?_
        refine at_aload_n dX12_orders_174 rfl ?_
        refine at_get dX12_orders_175 fl_X12_328 rfl rfl ?_
        rw [p2.2.1]
        refine at_callV1 (d := D - 1) dX12_orders_178 mv_X12_14 rfl (Nat.le_of_ble_eq_true rfl) (zq_r0 (by omega) (by omega) (by omega)) ?_
        refine zm_good ?_
        refine at_iret dX12_orders_181 rfl (by omega) (by omega) ?_
        exact hp
        · obtain ⟨b1, b2, b3, b4⟩ := zJi_26 a1
          rw [zsi_o _ a2, p1.1 k' b1 b2 b3 a5 b4, w1 k' b2 b3 (by omega), g1.1 k' a1, zsi_o _ a4, zsi_o _ a3, zsi_o _ a6]
        · show ψ.2.1 a = _
          rw [p1.2 a (by rintro rfl; cases a1) a3 a4 a5, w2 a a3, u2' a a1]
        · rw [zsi_o _ (by decide), p1.1 14 (by omega) (by decide) (by decide) (by decide) (by omega), w1 14 (by decide) (by decide) (by decide), g1.1 14 rfl, zsi_o _ (by decide), zsi_s]
        · rw [zsi_o _ (by decide), p1.1 15 (by omega) (by decide) (by decide) (by decide) (by omega), w1 15 (by decide) (by decide) (by decide), g1.1 15 rfl, zsi_s]; rfl
        · rw [zsi_o _ (by decide), p1.1 45 (by omega) (by decide) (by decide) (by decide) (by omega), w1 45 (by decide) (by decide) (by decide), g1.1 45 rfl, zsi_o _ (by decide), zsi_o _ (by decide), zsi_s]
        · show ψ.2.1 71 = _
          rw [p1.2 71 (by decide) (by decide) (by decide) (by decide), w2 71 (by decide), u2' 71 rfl]
      ) 336 0 rfl
    rw [show zcp ((zsA τ 75 (zcp (τ.2.1 75) (τ.2.1 72) (20 * 1) 0 20)).2.1 95) ((zsA τ 75 (zcp (τ.2.1 75) (τ.2.1 72) (20 * 1) 0 20)).2.1 94) 0 0 0 = (zsA τ 75 (zcp (τ.2.1 75) (τ.2.1 72) (20 * 1) 0 20)).2.1 95 from rfl, zsA_0] at hgo
    exact hgo
  · have hp := hf1 _ (of_decide_eq_false c10) (zEs_ref _ g1)
    refine at_aload_n dX12_orders_13 rfl ?_
    refine at_bipush dX12_orders_14 (v := -6) (by decide) ?_
    refine at_callV1 (d := D - 1) dX12_orders_16 mv_X12_135 rfl (Nat.le_of_ble_eq_true rfl) (zq_r0 (by omega) (by omega) (by omega)) ?_
    refine zm_ref (j := 6) (by decide) ?_
    refine at_iret dX12_orders_19 rfl (by omega) (by omega) ?_
    exact hp
end ZL41

