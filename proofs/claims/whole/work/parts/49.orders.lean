/-! ===== the Model's orders ===== -/
theorem zSpO_in {cd vl : Nat → Nat} {c : zOC} {i j E : Nat} (hE : ∀ k, E ≤ k → cd k = 0) (h : zSpO cd vl c i j) : i < E ∧ j ≤ E ∧ c.1 ≤ 3 ∧ c.2.2.1 ≤ 20 ∧ ∀ W : Nat → Nat → Int, (∀ c k, -1000000000 ≤ W c k ∧ W c k ≤ 1000000000) → zBe W c.2.1.1 ∧ zBe W c.2.1.2.1 ∧ zBe W c.2.1.2.2 := by
  have hlt : ∀ k, cd k ≠ 0 → k < E := fun k hk => Nat.lt_of_not_le fun g => hk (hE k g)
  obtain ⟨hd, ⟨e0, e1, e2⟩, tm, T⟩ := c
  obtain ⟨k, k', hs, ht, hT⟩ := h
  dsimp only at hs ht hT ⊢
  have hI := zIn_S (vl := vl) (o := true) hE 9
  have hIT := zIn_T (vl := vl) (o := true) hE 9
  have hz : ∀ W : Nat → Nat → Int, zBe W (zx_num 0) := fun W x hx => by cases hx; omega
  have h1 : i < E ∧ k ≤ E ∧ hd ≤ 3 ∧ ∀ W : Nat → Nat → Int, (∀ c k, -1000000000 ≤ W c k ∧ W c k ≤ 1000000000) → zBe W e0 ∧ zBe W e1 ∧ zBe W e2 := by
    rcases hs with ⟨g, rfl, a, b, s0, -, s1, -, s2⟩ | ⟨g1, g, s0, g3⟩ | ⟨g, rfl, rfl, g3⟩
    · exact ⟨hlt i (by omega), (hI _ _ _ s2).2, by omega, fun W hW => ⟨zBn_S hW 9 _ _ _ s0, zBn_S hW 9 _ _ _ s1, zBn_S hW 9 _ _ _ s2⟩⟩
    · cases g3
      exact ⟨hlt i (by unfold zhd at g; rcases g1 with rfl | rfl <;> simp at g <;> omega), (hI _ _ _ s0).2, by omega, fun W hW => ⟨zBn_S hW 9 _ _ _ s0, hz W, hz W⟩⟩
    · cases g3
      exact ⟨hlt i (by omega), hlt i (by omega), by omega, fun W hW => ⟨hz W, hz W, hz W⟩⟩
  have h2 : k' ≤ E ∧ tm ≤ 20 := by
    rcases ht with ⟨-, rfl, rfl⟩ | ⟨-, g, -, g2, rfl, rfl⟩
    · exact ⟨h1.2.1, by omega⟩
    · have := hlt (k + 1) (by omega)
      omega
  refine ⟨h1.1, ?_, h1.2.2.1, h2.2, h1.2.2.2⟩
  rcases hT with ⟨-, -, rfl⟩ | ⟨-, g⟩
  · exact h2.1
  · exact (hIT _ _ _ g).2
theorem zMS_G {σ τ : zm_S} {m : Nat} {Lo : Option (List zLC)} {K : Nat → Int32} {Λ : List Nat} (h : zMS σ m Lo K Λ) (g : zGs τ σ) : zMS τ m Lo K Λ := by
  obtain ⟨h1, h2, h3, h4, h5, h6, h7⟩ := h
  exact ⟨by rw [g.2]; exact h1, h2, by rw [g.2]; exact h3, h4, (g.1 44 (by omega) (by omega)).trans h5, by rw [g.2]; exact h6, h7⟩
theorem zRM_G {σ τ : zm_S} {m : Nat} {Lo : Option (List zLC)} {S : zRS} (h : zRM σ m Lo S) (g : zGs τ σ) : zRM τ m Lo S := ⟨zMS_G h.1 g, (g.1 28 (by omega) (by omega)).trans h.2.1, h.2.2.1, (g.1 29 (by omega) (by omega)).trans h.2.2.2.1, h.2.2.2.2⟩
theorem zdK_hi {h : Nat} {a b c : Int32} {K : Nat → Int32} {m : Nat} {Lo : Option (List zLC)} (hK : zKI K m Lo) (hC : zdC h a b c K m Lo = 0) {j : Nat} (hj : 20 ≤ j) : zdK h a b c K j = K j := by
  obtain ⟨g1, g2, g3, -⟩ := zd_ok hK hC
  have := zinv_hi hK.1.2.1 g2 hj
  rw [g3] at this
  exact this.symm
theorem zone3_ok {m h : Nat} {Lo : Option (List zLC)} {S S' : zRS} {a b d : Int} (hK : zKI S.1 m Lo) (hl : -1 ≤ S.2.2.2 ∧ S.2.2.2 ≤ 99) (e : zone3 m Lo h S a b d = some S') : S'.2.2.1 = S.2.2.1 + 1 ∧ (-1 ≤ S'.2.2.2 ∧ S'.2.2.2 ≤ 99) ∧ ∀ j, 20 ≤ j → S'.1 j = S.1 j := by
  unfold zone3 at e
  split at e
  · next hC =>
    cases e
    refine ⟨rfl, ?_, fun j hj => zdK_hi hK hC hj⟩
    show _ ≤ (if h = 0 then _ else _) ∧ (if h = 0 then _ else _) ≤ _
    split
    · next h0 =>
      have := zdT_b hK hC
      have := this.2.2 h0
      omega
    · exact hl
  · cases e
section ZL39
variable {l : Launch} {G : zq_G} {D n m E : Nat} {σ : zm_S} {ρ : Nat → zq_E} {post : Option Value → Nat → (Nat → zq_E) → Prop} {cd vl : Nat → Nat} {Lo : Option (List zLC)} {S : zRS}
/-- the text of the orders -/
def zTx (K : Nat → Int32) (E : Nat) (cd vl : Nat → Nat) : Prop := E ≤ 400 ∧ (∀ k, E ≤ k → cd k = 0) ∧ (∀ k, cd k < 1000) ∧ ∀ k, k < E → K (84 + (2400 + k)) = nI (cd k) ∧ K (2884 + (2400 + k)) = nI (vl k)
theorem zTx_c {K K' : Nat → Int32} (h : zTx K E cd vl) (e : ∀ j, 20 ≤ j → K' j = K j) : zTx K' E cd vl := ⟨h.1, h.2.1, h.2.2.1, fun k hk => ⟨(e _ (by omega)).trans (h.2.2.2 k hk).1, (e _ (by omega)).trans (h.2.2.2 k hk).2⟩⟩
theorem zm_ga {τ : zm_S} {lv : Bool} {c : zOC} {i j : Nat} (hD : 70 ≤ D) (hR : zRM τ m Lo S) (hT : zTx S.1 E cd vl) (h46 : τ.1 46 = nI (2400 + i)) (hc : zSpO cd vl c i j) (hp : ∀ υ, zGA τ 2400 j (zovW m S) lv c υ → post none n (zm_h υ ρ)) : zq_Runs l G D 0 0 yX12_goesAlong [.ref 70, .int (nI (2400 + E)), .int (zb lv)] n (zm_h τ ρ) post := by
  have e72 := hR.1.1
  have hs := zKI_72 hR.1.2.1
  have hE := hT.1
  refine zm_goesAlong hD (by omega) hT.2.1 hT.2.2.1 (by rw [e72]; exact hT.2.2.2) (zMS_C hR.1) (by rw [e72]; exact hs.2) (by rw [hR.2.1]; exact zSm_n (by have := hR.2.2.1; omega)) (by rw [hR.2.2.2.1]; unfold zSm; rw [zI_toInt (by have := hR.2.2.2.2; omega) (by have := hR.2.2.2.2; omega)]; have := hR.2.2.2.2; omega) h46 hc (fun υ u => hp υ ?_)
  rw [zovW_V hR] at u
  exact u
theorem zm_runs_loop {c : zOC} {i j : Nat} (hD : 80 ≤ D) (hc : zSpO cd vl c i j) (hE0 : ∀ k, E ≤ k → cd k = 0) (R : Option zRS) (K0 : Nat → Int32) (d0 : Nat) (hd0 : d0 + 20 ≤ 100000)
    (hf : ∀ τ, R = none → zRo τ σ → (∀ q, 20 ≤ q → τ.2.1 72 q = K0 q) → post (some (.int (zb false))) n (zm_h τ ρ))
    (ht : ∀ τ S', R = some S' → zRo τ σ → zRM τ m Lo S' → (∀ q, 20 ≤ q → S'.1 q = K0 q) → S'.2.2.1 ≤ d0 + 20 → τ.1 46 = nI (2400 + (j + 1)) → post (some (.int (zb true))) n (zm_h τ ρ)) :
    ∀ (f k : Nat) (S : zRS) (τ : zm_S), k + f = c.2.2.1 → zRM τ m Lo S → zTx S.1 E cd vl → zRo τ σ → τ.1 46 = nI (2400 + i) → (∀ q, 20 ≤ q → S.1 q = K0 q) → S.2.2.1 ≤ d0 + k → ztimes m Lo c f S = R → zq_At l G (zq_rm D 0 0) mX12_runs (zq_QF G post 0 0) 19 [(0, .ref 70), (1, .int (nI (2400 + E))), (2, .int (nI c.2.2.1)), (3, .int (nI (2400 + (j + 1)))), (4, .int (nI k))] [] n (zm_h τ ρ) 0 0 := by
  obtain ⟨hiE, hjE, hc3, htm, hBe⟩ := zSpO_in hE0 hc
  intro f
  induction f with
  | zero =>
    intro k S τ hk hR hT hRo h46 hK hd hQ
    obtain rfl : k = c.2.2.1 := hk
    have hp := ht (zm_si τ 46 (nI (2400 + (j + 1)))) S hQ.symm (zRo_i (by omega) hRo) hR hK (by omega) (zsi_s _ _ _)
    refine at_iload dX12_runs_19 rfl ?_
    refine at_iload_n dX12_runs_21 rfl ?_
    refine at_geN (tgt := 73) dX12_runs_22 (by decide) (by omega) (by omega) (fun c22 => ?_) (fun c22 => ?_)
    · refine at_aload_n dX12_runs_73 rfl ?_
      refine at_iload_n dX12_runs_74 rfl ?_
      refine at_mput dX12_runs_75 (pl_X12_482 _) (fun _ => ⟨_, rfl⟩) rfl rfl ?_
      refine at_iconst dX12_runs_78 (v := nI 1) (by decide) ?_
      refine at_zret dX12_runs_79 rfl (by omega) (by omega) (by first | exact Or.inl rfl | exact Or.inr rfl | assumption) ?_
      exact hp
    · omega
  | succ f ih =>
    intro k S τ hk hR hT hRo h46 hK hd hQ
    have hW : ∀ c k, -1000000000 ≤ zovW m S c k ∧ zovW m S c k ≤ 1000000000 := by
      rw [← zovW_V hR]
      have hs := zKI_72 hR.1.2.1
      exact zovV_b (zMS_C hR.1) (by rw [hR.1.1]; exact hs.2) (by rw [hR.2.1]; exact zSm_n (by have := hR.2.2.1; omega)) (by rw [hR.2.2.2.1]; unfold zSm; rw [zI_toInt (by have := hR.2.2.2.2; omega) (by have := hR.2.2.2.2; omega)]; have := hR.2.2.2.2; omega)
    obtain ⟨b0, b1, b2⟩ := hBe _ hW
    have hQ1 : ztimes m Lo c (f + 1) S = (zone m Lo c S).bind (ztimes m Lo c f) := rfl
    rw [hQ1] at hQ
    unfold zone at hQ
    refine at_iload dX12_runs_19 rfl ?_
    refine at_iload_n dX12_runs_21 rfl ?_
    refine at_geN (tgt := 73) dX12_runs_22 (by decide) (by omega) (by omega) (fun c22 => ?_) (fun c22 => ?_)
    · omega
    · refine at_aload_n dX12_runs_25 rfl ?_
      refine at_iload_n dX12_runs_26 rfl ?_
      refine at_iconst dX12_runs_27 (v := nI 1) (by decide) ?_
      refine at_callV2 (d := D - 1) dX12_runs_28 mv_X12_509 rfl (Nat.le_of_ble_eq_true rfl) (zq_r0 (by omega) (by omega) (by omega)) ?_
      refine zm_ga (lv := true) (by omega) hR hT h46 hc (fun υ u => ?_)
      obtain ⟨u1, u2, u3, u4, u5⟩ := u
      obtain ⟨u5, u6, u7, u8⟩ := u5 rfl
      have hRu := zRM_G hR u1
      have hRou := zRo_t (zRo_G u1) hRo
      have h46u := (u1.1 46 (by omega) (by omega)).trans h46
      refine at_aload_n dX12_runs_31 rfl ?_
      refine at_get dX12_runs_32 fl_X12_500 rfl rfl ?_
      rw [u6]
      refine at_if_neB (tgt := 41) dX12_runs_35 (by decide) (fun c35 => ?_) (fun c35 => ?_)
      · rw [if_pos (of_decide_eq_true c35)] at hQ
        refine at_aload_n dX12_runs_41 rfl ?_
        refine at_get dX12_runs_42 fl_X12_494 rfl rfl ?_
        rw [u5]
        refine at_if_eqB (tgt := 55) dX12_runs_45 (by decide) (fun c45 => ?_) (fun c45 => ?_)
        · have hp := hf υ (by
            rw [← hQ]
            unfold zall3 at c45
            cases e0 : c.2.1.1 (zovW m S) with
            | none => rfl
            | some a =>
              cases e1 : c.2.1.2.1 (zovW m S) with
              | none => rfl
              | some b =>
                cases e2 : c.2.1.2.2 (zovW m S) with
                | none => rfl
                | some d => rw [e0, e1, e2] at c45; cases c45) hRou (fun q hq => by rw [hRu.1.1]; exact hK q hq)
          refine at_iconst dX12_runs_55 (v := nI 0) (by decide) ?_
          refine at_zret dX12_runs_56 rfl (by omega) (by omega) (by first | exact Or.inl rfl | exact Or.inr rfl | assumption) ?_
          exact hp
        · obtain ⟨a, e0⟩ : ∃ a, c.2.1.1 (zovW m S) = some a := by
            cases e0 : c.2.1.1 (zovW m S) with
            | none => unfold zall3 at c45; rw [e0] at c45; cases c45
            | some a => exact ⟨a, rfl⟩
          obtain ⟨b, e1⟩ : ∃ a, c.2.1.2.1 (zovW m S) = some a := by
            cases e1 : c.2.1.2.1 (zovW m S) with
            | none => unfold zall3 at c45; rw [e0, e1] at c45; cases c45
            | some a => exact ⟨a, rfl⟩
          obtain ⟨d, e2⟩ : ∃ a, c.2.1.2.2 (zovW m S) = some a := by
            cases e2 : c.2.1.2.2 (zovW m S) with
            | none => unfold zall3 at c45; rw [e0, e1, e2] at c45; cases c45
            | some a => exact ⟨a, rfl⟩
          rw [e0, e1, e2] at hQ
          have hQ : (zone3 m Lo c.1 S a b d).bind (ztimes m Lo c f) = R := hQ
          refine at_aload_n dX12_runs_48 rfl ?_
          refine at_callV0 (d := D - 1) dX12_runs_49 mv_X12_513 rfl (Nat.le_of_ble_eq_true rfl) (zq_r0 (by omega) (by omega) (by omega)) ?_
          refine zm_obeys (by omega) hRu hc3 (b0 a e0) (b1 b e1) (b2 d e2) u4 (fun h => u7 h a e0) (fun h => ⟨(u8 h).1 b e1, (u8 h).2 d e2⟩) (fun υ2 q g1 g2 g3 g4 g5 => ?_) (fun υ2 S' v g1 g2 g3 g4 g5 g7 g6 => ?_)
          · rw [g1] at hQ
            have hp := hf υ2 hQ.symm (zRo_t g4 hRou) (fun q hq => by rw [g5]; exact hK q hq)
            refine at_if_ge (tgt := 57) dX12_runs_52 (by decide) (fun c52 => ?_) (fun c52 => ?_)
            · exact absurd c52 (zneg_lt g2 g3)
            · refine at_iconst dX12_runs_55 (v := nI 0) (by decide) ?_
              refine at_zret dX12_runs_56 rfl (by omega) (by omega) (by first | exact Or.inl rfl | exact Or.inr rfl | assumption) ?_
              exact hp
          · rw [g1] at hQ
            have hQ : ztimes m Lo c f S' = R := hQ
            obtain ⟨s1, s2, s3⟩ := zone3_ok hR.1.2.1 hR.2.2.2.2 g1
            have hn := ih (k + 1) S' (zm_si υ2 28 (nI S'.2.2.1)) (by omega) ⟨g4, zsi_s _ _ _, by omega, g6, s2⟩ (zTx_c hT s3) (zRo_i (by omega) (zRo_t g3 hRou)) ((zsi_o _ (by decide) _).trans (g7.trans h46u)) (fun q hq => (s3 q hq).trans (hK q hq)) (by omega) hQ
            refine at_if_ge (tgt := 57) dX12_runs_52 (by decide) (fun c52 => ?_) (fun c52 => ?_)
            · refine at_aload_n dX12_runs_57 rfl ?_
              refine at_dup dX12_runs_58 rfl ?_
              refine at_get dX12_runs_59 fl_X12_328 rfl rfl ?_
              rw [g5, hRu.2.1]
              refine at_iconst dX12_runs_62 (v := nI 1) (by decide) ?_
              refine at_iaddN dX12_runs_63 ?_
              refine at_mput dX12_runs_64 (pl_X12_328 _) (fun _ => ⟨_, rfl⟩) rfl rfl ?_
              first | rw [s1] at hn | skip
              refine at_iincN dX12_runs_67 rfl (by decide) ?_
              refine at_goto (tgt := 19) dX12_runs_70 (by decide) ?_
              exact hn
            · exact absurd g2 c52
      · rw [if_neg (of_decide_eq_false c35)] at hQ
        have hn := ih (k + 1) S υ (by omega) hRu hT hRou h46u hK (by omega) hQ
        refine at_goto (tgt := 67) dX12_runs_38 (by decide) ?_
        first | rw [s1] at hn | skip
        refine at_iincN dX12_runs_67 rfl (by decide) ?_
        refine at_goto (tgt := 19) dX12_runs_70 (by decide) ?_
        exact hn
end ZL39

