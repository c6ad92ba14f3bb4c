/-! ===== the Model reckons parts, words, whole sums ===== -/
/-- what words come to -/
def zWv (l : Launch) (G : zq_G) (n : Nat) (σ : zm_S) (ρ : Nat → zq_E) (o : Bool) (w : Nat → Nat → Int) : Prop :=
  (∀ c k, -1000000000 ≤ w c k ∧ w c k ≤ 1000000000) ∧ (o = false → ∀ c, 8 ≤ c → c ≤ 15 → σ.2.1 83 (c - 8) = zI (w c 0)) ∧
  (o = true → ∀ (D c k i : Nat) (b : Bool) (post : Option Value → Nat → (Nat → zq_E) → Prop), 12 ≤ D → 15 ≤ c → c ≤ 21 → k ≤ 6 → post (some (.int (zI (w c k)))) n (zm_h (zg σ i b) ρ) → zq_Runs l G D 0 0 yX12_orderValue [.ref 70, .int (nI c), .int (nI k)] n (zm_h (zg σ i b) ρ) post)
theorem zbs_so {w : Nat → Nat → Int} {lv b : Bool} {e : zX} {x : Int} (h : e w = some x) : zbs w lv b e = b := by
  unfold zbs
  rw [h]
  simp
theorem zL_n {x : Nat} (h : x < 2147483648) : (nI x).toInt64 = zL x := by rw [← zI_n, zL_I (by omega) (by omega)]
section ZL23
variable {l : Launch} {G : zq_G} {n B E : Nat} {cd vl : Nat → Nat} {o : Bool} {w : Nat → Nat → Int} {σ : zm_S} {ρ : Nat → zq_E}
theorem zm_partOf {D : Nat} {S : zX → Nat → Nat → Prop} (hD : 13 ≤ D) (hR : zRun σ B E cd vl o) (hW : zWv l G n σ ρ o w) (hI : zIn E S) (HS : zHV l G n B w σ ρ (D - 1) yX12_sumOf S) : zHV l G n B w σ ρ D yX12_partOf (zSpPart cd vl o S) := by
  intro e i j lv b post h hp
  have hE := hR.2.2.1
  have hlt : ∀ k, cd k ≠ 0 → k < E := fun k hk => Nat.lt_of_not_le fun g => hk (hR.2.2.2.1 k g)
  have h26 : ∀ i b, (zg σ i b).1 26 = zb o := fun i b => (zg_o σ i b (by decide) (by decide)).trans hR.2.1
  refine zq_enter (cc := cX12_partOf) (nL := 4) (ret := (some .long)) cw_X12_partOf (by decide) rfl (Nat.le_of_ble_eq_true rfl) ?_
  rcases h with ⟨h1, k, h2, h3, rfl⟩ | ⟨h1, h2, rfl, rfl⟩ | ⟨ho, h1, h2, rfl, rfl⟩ | ⟨ho, h1, h2, rfl, rfl⟩ | ⟨ho, h1, h2, h3, rfl, rfl⟩
  · have g := hlt i (by omega)
    refine at_aload_n dX12_partOf_0 rfl ?_
    refine at_bipush dX12_partOf_1 (v := nI 91) (by decide) ?_
    refine at_callS1 (d := D - 1) dX12_partOf_3 ms_X12_245 (Nat.le_of_ble_eq_true rfl) (zq_r0 (by omega) (by omega) (by omega)) ?_
    refine zm_sign ?_
    refine at_callV1 (d := D - 1) dX12_partOf_6 mv_X12_310 rfl (Nat.le_of_ble_eq_true rfl) (zq_r0 (by omega) (by omega) (by omega)) ?_
    refine zm_passes0 (by omega) hR (by omega) (by decide) ?_
    rw [if_pos h1, decide_eq_true h1]
    refine at_if_eqB (tgt := 30) dX12_partOf_9 (by decide) (fun c9 => ?_) (fun c9 => ?_)
    · cases c9
    · refine at_aload_n dX12_partOf_12 rfl ?_
      refine at_iload_n dX12_partOf_13 rfl ?_
      refine at_callV1 (d := D - 1) dX12_partOf_14 mv_X12_313 rfl (Nat.le_of_ble_eq_true rfl) (zq_r0 (by omega) (by omega) (by omega)) ?_
      refine HS e (i + 1) k lv b _ h2 ?_
      refine at_lstore_n dX12_partOf_17 rfl (by decide) ?_
      refine at_aload_n dX12_partOf_18 rfl ?_
      refine at_dup dX12_partOf_19 rfl ?_
      refine at_get dX12_partOf_20 fl_X12_286 rfl rfl ?_
      rw [zg_23]
      refine at_iconst dX12_partOf_23 (v := nI 1) (by decide) ?_
      refine at_iaddN dX12_partOf_24 ?_
      refine at_mput dX12_partOf_25 (pl_X12_286 _) (fun _ => ⟨_, rfl⟩) rfl rfl ?_
      rw [zg_s23, Nat.add_assoc B k 1]
      refine at_lload_n dX12_partOf_28 rfl ?_
      refine at_lret dX12_partOf_29 rfl (by omega) (by omega) ?_
      exact hp
  · have g := hlt i (by omega)
    have g2 := (hR.2.2.2.2.2 i g).2
    rw [zbs_so (show zx_num (vl i) w = some (vl i : Int) from rfl)] at hp
    have hp0 : (lv = false ∨ b = true) → post (some (.long 0)) n (zm_h (zg σ (B + (i + 1)) b) ρ) := fun h => by rw [zvl_0 h] at hp; exact hp
    refine at_aload_n dX12_partOf_0 rfl ?_
    refine at_bipush dX12_partOf_1 (v := nI 91) (by decide) ?_
    refine at_callS1 (d := D - 1) dX12_partOf_3 ms_X12_245 (Nat.le_of_ble_eq_true rfl) (zq_r0 (by omega) (by omega) (by omega)) ?_
    refine zm_sign ?_
    refine at_callV1 (d := D - 1) dX12_partOf_6 mv_X12_310 rfl (Nat.le_of_ble_eq_true rfl) (zq_r0 (by omega) (by omega) (by omega)) ?_
    refine zm_passes0 (by omega) hR (by omega) (by decide) ?_
    rw [if_neg (by omega), decide_eq_false (by omega)]
    refine at_if_eqB (tgt := 30) dX12_partOf_9 (by decide) (fun c9 => ?_) (fun c9 => ?_)
    · refine at_aload_n dX12_partOf_30 rfl ?_
      refine at_aload_n dX12_partOf_31 rfl ?_
      refine at_get dX12_partOf_32 fl_X12_286 rfl rfl ?_
      rw [zg_23]
      refine at_callV1 (d := D - 1) dX12_partOf_35 mv_X12_289 rfl (Nat.le_of_ble_eq_true rfl) (zq_r0 (by omega) (by omega) (by omega)) ?_
      refine zm_codeAt hR (by omega) ?_
      rw [h1]
      refine at_istore_n dX12_partOf_38 rfl (by decide) ?_
      refine at_iconst dX12_partOf_39 (v := nI 0) (by decide) ?_
      refine at_istore_n dX12_partOf_40 rfl (by decide) ?_
      refine at_aload_n dX12_partOf_41 rfl ?_
      refine at_dup dX12_partOf_42 rfl ?_
      refine at_get dX12_partOf_43 fl_X12_286 rfl rfl ?_
      rw [zg_23]
      refine at_iconst dX12_partOf_46 (v := nI 1) (by decide) ?_
      refine at_iaddN dX12_partOf_47 ?_
      refine at_mput dX12_partOf_48 (pl_X12_286 _) (fun _ => ⟨_, rfl⟩) rfl rfl ?_
      rw [zg_s23, Nat.add_assoc B i 1]
      refine at_aload_n dX12_partOf_51 rfl ?_
      refine at_get dX12_partOf_52 fl_X12_316 rfl rfl ?_
      rw [h26]
      refine at_if_eqB (tgt := 94) dX12_partOf_55 (by decide) (fun c55 => ?_) (fun c55 => ?_)
      · refine at_iload_n dX12_partOf_94 rfl ?_
        refine at_if_eqB (tgt := 105) dX12_partOf_95 (by decide) (fun c95 => ?_) (fun c95 => ?_)
        · have hp := hp0 (Or.inl c95)
          refine at_lconst dX12_partOf_105 (v := 0) rfl ?_
          refine at_lret dX12_partOf_106 rfl (by omega) (by omega) ?_
          exact hp
        · refine at_aload_n dX12_partOf_98 rfl ?_
          refine at_get dX12_partOf_99 fl_X12_296 rfl rfl ?_
          rw [zg_25]
          refine at_if_eqB (tgt := 107) dX12_partOf_102 (by decide) (fun c102 => ?_) (fun c102 => ?_)
          · rw [c95, c102, zvl_s (show zx_num (vl i) w = some (vl i : Int) from rfl)] at hp; rw [c102]
            refine at_iload_n dX12_partOf_107 rfl ?_
            refine at_bipush dX12_partOf_108 (v := nI 50) (by decide) ?_
            refine at_neN (tgt := 130) dX12_partOf_110 (by decide) (by omega) (by omega) (fun c110 => ?_) (fun c110 => ?_)
            · omega
            · refine at_aload_n dX12_partOf_113 rfl ?_
              refine at_get dX12_partOf_114 fl_X12_42 rfl rfl ?_
              refine at_sipush dX12_partOf_117 (v := nI 2884) (by decide) ?_
              refine at_aload_n dX12_partOf_120 rfl ?_
              skip
              refine at_get dX12_partOf_121 fl_X12_286 rfl rfl ?_
              rw [zg_23]
              refine at_iaddN dX12_partOf_124 ?_
              refine at_iconst dX12_partOf_125 (v := nI 1) (by decide) ?_
              refine at_isubN dX12_partOf_126 (by omega) ?_
              refine at_mald (a := 72) dX12_partOf_127 (by decide) (by decide) (by decide) (by decide) rfl (congrArg nI (show 2884 + (B + (i + 1)) - 1 = 2884 + (B + i) by omega)) (by show _ < 5684; omega) (by decide) ?_
              rw [zg_2, g2]
              refine at_i2l dX12_partOf_128 ?_
              rw [zL_n (by omega)]
              refine at_lret dX12_partOf_129 rfl (by omega) (by omega) ?_
              exact hp
          · have hp := hp0 (Or.inr c102)
            refine at_lconst dX12_partOf_105 (v := 0) rfl ?_
            refine at_lret dX12_partOf_106 rfl (by omega) (by omega) ?_
            exact hp
      · refine at_iload_n dX12_partOf_58 rfl ?_
        refine at_bipush dX12_partOf_59 (v := nI 20) (by decide) ?_
        refine at_eqN (tgt := 70) dX12_partOf_61 (by decide) (by omega) (by omega) (fun c61 => ?_) (fun c61 => ?_)
        · omega
        · refine at_iload_n dX12_partOf_64 rfl ?_
          refine at_bipush dX12_partOf_65 (v := nI 21) (by decide) ?_
          refine at_neN (tgt := 94) dX12_partOf_67 (by decide) (by omega) (by omega) (fun c67 => ?_) (fun c67 => ?_)
          · refine at_iload_n dX12_partOf_94 rfl ?_
            refine at_if_eqB (tgt := 105) dX12_partOf_95 (by decide) (fun c95 => ?_) (fun c95 => ?_)
            · have hp := hp0 (Or.inl c95)
              refine at_lconst dX12_partOf_105 (v := 0) rfl ?_
              refine at_lret dX12_partOf_106 rfl (by omega) (by omega) ?_
              exact hp
            · refine at_aload_n dX12_partOf_98 rfl ?_
              refine at_get dX12_partOf_99 fl_X12_296 rfl rfl ?_
              rw [zg_25]
              refine at_if_eqB (tgt := 107) dX12_partOf_102 (by decide) (fun c102 => ?_) (fun c102 => ?_)
              · rw [c95, c102, zvl_s (show zx_num (vl i) w = some (vl i : Int) from rfl)] at hp; rw [c102]
                refine at_iload_n dX12_partOf_107 rfl ?_
                refine at_bipush dX12_partOf_108 (v := nI 50) (by decide) ?_
                refine at_neN (tgt := 130) dX12_partOf_110 (by decide) (by omega) (by omega) (fun c110 => ?_) (fun c110 => ?_)
                · omega
                · refine at_aload_n dX12_partOf_113 rfl ?_
                  refine at_get dX12_partOf_114 fl_X12_42 rfl rfl ?_
                  refine at_sipush dX12_partOf_117 (v := nI 2884) (by decide) ?_
                  refine at_aload_n dX12_partOf_120 rfl ?_
                  skip
                  refine at_get dX12_partOf_121 fl_X12_286 rfl rfl ?_
                  rw [zg_23]
                  refine at_iaddN dX12_partOf_124 ?_
                  refine at_iconst dX12_partOf_125 (v := nI 1) (by decide) ?_
                  refine at_isubN dX12_partOf_126 (by omega) ?_
                  refine at_mald (a := 72) dX12_partOf_127 (by decide) (by decide) (by decide) (by decide) rfl (congrArg nI (show 2884 + (B + (i + 1)) - 1 = 2884 + (B + i) by omega)) (by show _ < 5684; omega) (by decide) ?_
                  rw [zg_2, g2]
                  refine at_i2l dX12_partOf_128 ?_
                  rw [zL_n (by omega)]
                  refine at_lret dX12_partOf_129 rfl (by omega) (by omega) ?_
                  exact hp
              · have hp := hp0 (Or.inr c102)
                refine at_lconst dX12_partOf_105 (v := 0) rfl ?_
                refine at_lret dX12_partOf_106 rfl (by omega) (by omega) ?_
                exact hp
          · omega
    · cases c9
  · have g := hlt i (by omega)
    have g2 := hW.2.1 ho (cd i) h1 h2
    have g3 := hW.1 (cd i) 0
    rw [zbs_so (show zx_wd (cd i) 0 w = some (w (cd i) 0) from rfl)] at hp
    have hp0 : (lv = false ∨ b = true) → post (some (.long 0)) n (zm_h (zg σ (B + (i + 1)) b) ρ) := fun h => by rw [zvl_0 h] at hp; exact hp
    refine at_aload_n dX12_partOf_0 rfl ?_
    refine at_bipush dX12_partOf_1 (v := nI 91) (by decide) ?_
    refine at_callS1 (d := D - 1) dX12_partOf_3 ms_X12_245 (Nat.le_of_ble_eq_true rfl) (zq_r0 (by omega) (by omega) (by omega)) ?_
    refine zm_sign ?_
    refine at_callV1 (d := D - 1) dX12_partOf_6 mv_X12_310 rfl (Nat.le_of_ble_eq_true rfl) (zq_r0 (by omega) (by omega) (by omega)) ?_
    refine zm_passes0 (by omega) hR (by omega) (by decide) ?_
    rw [if_neg (by omega), decide_eq_false (by omega)]
    refine at_if_eqB (tgt := 30) dX12_partOf_9 (by decide) (fun c9 => ?_) (fun c9 => ?_)
    · refine at_aload_n dX12_partOf_30 rfl ?_
      refine at_aload_n dX12_partOf_31 rfl ?_
      refine at_get dX12_partOf_32 fl_X12_286 rfl rfl ?_
      rw [zg_23]
      refine at_callV1 (d := D - 1) dX12_partOf_35 mv_X12_289 rfl (Nat.le_of_ble_eq_true rfl) (zq_r0 (by omega) (by omega) (by omega)) ?_
      refine zm_codeAt hR (by omega) ?_
      refine at_istore_n dX12_partOf_38 rfl (by decide) ?_
      refine at_iconst dX12_partOf_39 (v := nI 0) (by decide) ?_
      refine at_istore_n dX12_partOf_40 rfl (by decide) ?_
      refine at_aload_n dX12_partOf_41 rfl ?_
      refine at_dup dX12_partOf_42 rfl ?_
      refine at_get dX12_partOf_43 fl_X12_286 rfl rfl ?_
      rw [zg_23]
      refine at_iconst dX12_partOf_46 (v := nI 1) (by decide) ?_
      refine at_iaddN dX12_partOf_47 ?_
      refine at_mput dX12_partOf_48 (pl_X12_286 _) (fun _ => ⟨_, rfl⟩) rfl rfl ?_
      rw [zg_s23, Nat.add_assoc B i 1]
      refine at_aload_n dX12_partOf_51 rfl ?_
      refine at_get dX12_partOf_52 fl_X12_316 rfl rfl ?_
      rw [h26]
      refine at_if_eqB (tgt := 94) dX12_partOf_55 (by decide) (fun c55 => ?_) (fun c55 => ?_)
      · refine at_iload_n dX12_partOf_94 rfl ?_
        refine at_if_eqB (tgt := 105) dX12_partOf_95 (by decide) (fun c95 => ?_) (fun c95 => ?_)
        · have hp := hp0 (Or.inl c95)
          refine at_lconst dX12_partOf_105 (v := 0) rfl ?_
          refine at_lret dX12_partOf_106 rfl (by omega) (by omega) ?_
          exact hp
        · refine at_aload_n dX12_partOf_98 rfl ?_
          refine at_get dX12_partOf_99 fl_X12_296 rfl rfl ?_
          rw [zg_25]
          refine at_if_eqB (tgt := 107) dX12_partOf_102 (by decide) (fun c102 => ?_) (fun c102 => ?_)
          · rw [c95, c102, zvl_s (show zx_wd (cd i) 0 w = some (w (cd i) 0) from rfl)] at hp; rw [c102]
            refine at_iload_n dX12_partOf_107 rfl ?_
            refine at_bipush dX12_partOf_108 (v := nI 50) (by decide) ?_
            refine at_neN (tgt := 130) dX12_partOf_110 (by decide) (by omega) (by omega) (fun c110 => ?_) (fun c110 => ?_)
            · refine at_aload_n dX12_partOf_130 rfl ?_
              refine at_get dX12_partOf_131 fl_X12_316 rfl rfl ?_
              rw [h26]
              refine at_if_eqB (tgt := 147) dX12_partOf_134 (by decide) (fun c134 => ?_) (fun c134 => ?_)
              · refine at_aload_n dX12_partOf_147 rfl ?_
                refine at_get dX12_partOf_148 fl_X12_80 rfl rfl ?_
                refine at_iload_n dX12_partOf_151 rfl ?_
                refine at_bipush dX12_partOf_152 (v := nI 8) (by decide) ?_
                refine at_isubN dX12_partOf_154 (by omega) ?_
                refine at_mald (a := 83) dX12_partOf_155 (by decide) (by decide) (by decide) (by decide) rfl rfl (by show _ < 8; omega) (by decide) ?_
                rw [zg_2, g2]
                refine at_i2l dX12_partOf_156 ?_
                rw [zL_I (by omega) (by omega)]
                refine at_lret dX12_partOf_157 rfl (by omega) (by omega) ?_
                exact hp
              · rw [ho] at c134; cases c134
            · omega
          · have hp := hp0 (Or.inr c102)
            refine at_lconst dX12_partOf_105 (v := 0) rfl ?_
            refine at_lret dX12_partOf_106 rfl (by omega) (by omega) ?_
            exact hp
      · rw [ho] at c55; cases c55
    · cases c9
  · have g := hlt i (by omega)
    have g2 := fun D i' b post hD => hW.2.2 ho D (cd i) 0 i' b post hD h1 (by omega) (by omega)
    have g3 := hW.1 (cd i) 0
    rw [zbs_so (show zx_wd (cd i) 0 w = some (w (cd i) 0) from rfl)] at hp
    have hp0 : (lv = false ∨ b = true) → post (some (.long 0)) n (zm_h (zg σ (B + (i + 1)) b) ρ) := fun h => by rw [zvl_0 h] at hp; exact hp
    refine at_aload_n dX12_partOf_0 rfl ?_
    refine at_bipush dX12_partOf_1 (v := nI 91) (by decide) ?_
    refine at_callS1 (d := D - 1) dX12_partOf_3 ms_X12_245 (Nat.le_of_ble_eq_true rfl) (zq_r0 (by omega) (by omega) (by omega)) ?_
    refine zm_sign ?_
    refine at_callV1 (d := D - 1) dX12_partOf_6 mv_X12_310 rfl (Nat.le_of_ble_eq_true rfl) (zq_r0 (by omega) (by omega) (by omega)) ?_
    refine zm_passes0 (by omega) hR (by omega) (by decide) ?_
    rw [if_neg (by omega), decide_eq_false (by omega)]
    refine at_if_eqB (tgt := 30) dX12_partOf_9 (by decide) (fun c9 => ?_) (fun c9 => ?_)
    · refine at_aload_n dX12_partOf_30 rfl ?_
      refine at_aload_n dX12_partOf_31 rfl ?_
      refine at_get dX12_partOf_32 fl_X12_286 rfl rfl ?_
      rw [zg_23]
      refine at_callV1 (d := D - 1) dX12_partOf_35 mv_X12_289 rfl (Nat.le_of_ble_eq_true rfl) (zq_r0 (by omega) (by omega) (by omega)) ?_
      refine zm_codeAt hR (by omega) ?_
      refine at_istore_n dX12_partOf_38 rfl (by decide) ?_
      refine at_iconst dX12_partOf_39 (v := nI 0) (by decide) ?_
      refine at_istore_n dX12_partOf_40 rfl (by decide) ?_
      refine at_aload_n dX12_partOf_41 rfl ?_
      refine at_dup dX12_partOf_42 rfl ?_
      refine at_get dX12_partOf_43 fl_X12_286 rfl rfl ?_
      rw [zg_23]
      refine at_iconst dX12_partOf_46 (v := nI 1) (by decide) ?_
      refine at_iaddN dX12_partOf_47 ?_
      refine at_mput dX12_partOf_48 (pl_X12_286 _) (fun _ => ⟨_, rfl⟩) rfl rfl ?_
      rw [zg_s23, Nat.add_assoc B i 1]
      refine at_aload_n dX12_partOf_51 rfl ?_
      refine at_get dX12_partOf_52 fl_X12_316 rfl rfl ?_
      rw [h26]
      refine at_if_eqB (tgt := 94) dX12_partOf_55 (by decide) (fun c55 => ?_) (fun c55 => ?_)
      · rw [ho] at c55; cases c55
      · refine at_iload_n dX12_partOf_58 rfl ?_
        refine at_bipush dX12_partOf_59 (v := nI 20) (by decide) ?_
        refine at_eqN (tgt := 70) dX12_partOf_61 (by decide) (by omega) (by omega) (fun c61 => ?_) (fun c61 => ?_)
        · omega
        · refine at_iload_n dX12_partOf_64 rfl ?_
          refine at_bipush dX12_partOf_65 (v := nI 21) (by decide) ?_
          refine at_neN (tgt := 94) dX12_partOf_67 (by decide) (by omega) (by omega) (fun c67 => ?_) (fun c67 => ?_)
          · refine at_iload_n dX12_partOf_94 rfl ?_
            refine at_if_eqB (tgt := 105) dX12_partOf_95 (by decide) (fun c95 => ?_) (fun c95 => ?_)
            · have hp := hp0 (Or.inl c95)
              refine at_lconst dX12_partOf_105 (v := 0) rfl ?_
              refine at_lret dX12_partOf_106 rfl (by omega) (by omega) ?_
              exact hp
            · refine at_aload_n dX12_partOf_98 rfl ?_
              refine at_get dX12_partOf_99 fl_X12_296 rfl rfl ?_
              rw [zg_25]
              refine at_if_eqB (tgt := 107) dX12_partOf_102 (by decide) (fun c102 => ?_) (fun c102 => ?_)
              · rw [c95, c102, zvl_s (show zx_wd (cd i) 0 w = some (w (cd i) 0) from rfl)] at hp; rw [c102]
                refine at_iload_n dX12_partOf_107 rfl ?_
                refine at_bipush dX12_partOf_108 (v := nI 50) (by decide) ?_
                refine at_neN (tgt := 130) dX12_partOf_110 (by decide) (by omega) (by omega) (fun c110 => ?_) (fun c110 => ?_)
                · refine at_aload_n dX12_partOf_130 rfl ?_
                  refine at_get dX12_partOf_131 fl_X12_316 rfl rfl ?_
                  rw [h26]
                  refine at_if_eqB (tgt := 147) dX12_partOf_134 (by decide) (fun c134 => ?_) (fun c134 => ?_)
                  · rw [ho] at c134; cases c134
                  · refine at_aload_n dX12_partOf_137 rfl ?_
                    refine at_iload_n dX12_partOf_138 rfl ?_
                    refine at_iload_n dX12_partOf_139 rfl ?_
                    refine at_callV2 (d := D - 1) dX12_partOf_140 mv_X12_319 rfl (Nat.le_of_ble_eq_true rfl) (zq_r0 (by omega) (by omega) (by omega)) ?_
                    refine g2 _ _ _ _ (by omega) ?_
                    refine at_i2l dX12_partOf_143 ?_
                    rw [zL_I (by omega) (by omega)]
                    refine at_goto (tgt := 157) dX12_partOf_144 (by decide) ?_
                    refine at_lret dX12_partOf_157 rfl (by omega) (by omega) ?_
                    exact hp
                · omega
              · have hp := hp0 (Or.inr c102)
                refine at_lconst dX12_partOf_105 (v := 0) rfl ?_
                refine at_lret dX12_partOf_106 rfl (by omega) (by omega) ?_
                exact hp
          · omega
    · cases c9
  · have g := hlt (i + 1) (by omega)
    have gi := hR.2.2.2.2.1 i
    have g4 := (hR.2.2.2.2.2 (i + 1) g).2
    have g2 := fun D i' b post hD => hW.2.2 ho D (cd i) (vl (i + 1)) i' b post hD (by omega) (by omega) h3
    have g3 := hW.1 (cd i) (vl (i + 1))
    rw [zbs_so (show zx_wd (cd i) (vl (i + 1)) w = some (w (cd i) (vl (i + 1))) from rfl)] at hp
    have hp0 : (lv = false ∨ b = true) → post (some (.long 0)) n (zm_h (zg σ (B + (i + 2)) b) ρ) := fun h => by rw [zvl_0 h] at hp; exact hp
    refine at_aload_n dX12_partOf_0 rfl ?_
    refine at_bipush dX12_partOf_1 (v := nI 91) (by decide) ?_
    refine at_callS1 (d := D - 1) dX12_partOf_3 ms_X12_245 (Nat.le_of_ble_eq_true rfl) (zq_r0 (by omega) (by omega) (by omega)) ?_
    refine zm_sign ?_
    refine at_callV1 (d := D - 1) dX12_partOf_6 mv_X12_310 rfl (Nat.le_of_ble_eq_true rfl) (zq_r0 (by omega) (by omega) (by omega)) ?_
    refine zm_passes0 (by omega) hR (by omega) (by decide) ?_
    rw [if_neg (by omega), decide_eq_false (by omega)]
    refine at_if_eqB (tgt := 30) dX12_partOf_9 (by decide) (fun c9 => ?_) (fun c9 => ?_)
    · refine at_aload_n dX12_partOf_30 rfl ?_
      refine at_aload_n dX12_partOf_31 rfl ?_
      refine at_get dX12_partOf_32 fl_X12_286 rfl rfl ?_
      rw [zg_23]
      refine at_callV1 (d := D - 1) dX12_partOf_35 mv_X12_289 rfl (Nat.le_of_ble_eq_true rfl) (zq_r0 (by omega) (by omega) (by omega)) ?_
      refine zm_codeAt hR (by omega) ?_
      refine at_istore_n dX12_partOf_38 rfl (by decide) ?_
      refine at_iconst dX12_partOf_39 (v := nI 0) (by decide) ?_
      refine at_istore_n dX12_partOf_40 rfl (by decide) ?_
      refine at_aload_n dX12_partOf_41 rfl ?_
      refine at_dup dX12_partOf_42 rfl ?_
      refine at_get dX12_partOf_43 fl_X12_286 rfl rfl ?_
      rw [zg_23]
      refine at_iconst dX12_partOf_46 (v := nI 1) (by decide) ?_
      refine at_iaddN dX12_partOf_47 ?_
      refine at_mput dX12_partOf_48 (pl_X12_286 _) (fun _ => ⟨_, rfl⟩) rfl rfl ?_
      rw [zg_s23, Nat.add_assoc B i 1]
      refine at_aload_n dX12_partOf_51 rfl ?_
      refine at_get dX12_partOf_52 fl_X12_316 rfl rfl ?_
      rw [h26]
      refine at_if_eqB (tgt := 94) dX12_partOf_55 (by decide) (fun c55 => ?_) (fun c55 => ?_)
      · rw [ho] at c55; cases c55
      · refine at_iload_n dX12_partOf_58 rfl ?_
        refine at_bipush dX12_partOf_59 (v := nI 20) (by decide) ?_
        refine at_eqN (tgt := 70) dX12_partOf_61 (by decide) (by omega) (by omega) (fun c61 => ?_) (fun c61 => ?_)
        · refine at_aload_n dX12_partOf_70 rfl ?_
          refine at_get dX12_partOf_71 fl_X12_42 rfl rfl ?_
          refine at_sipush dX12_partOf_74 (v := nI 2884) (by decide) ?_
          refine at_aload_n dX12_partOf_77 rfl ?_
          refine at_get dX12_partOf_78 fl_X12_286 rfl rfl ?_
          rw [zg_23]
          refine at_iaddN dX12_partOf_81 ?_
          refine at_mald (a := 72) dX12_partOf_82 (by decide) (by decide) (by decide) (by decide) rfl rfl (by show _ < 5684; omega) (by decide) ?_
          rw [zg_2, g4]
          refine at_istore_n dX12_partOf_83 rfl (by decide) ?_
          refine at_aload_n dX12_partOf_84 rfl ?_
          refine at_dup dX12_partOf_85 rfl ?_
          refine at_get dX12_partOf_86 fl_X12_286 rfl rfl ?_
          rw [zg_23]
          refine at_iconst dX12_partOf_89 (v := nI 1) (by decide) ?_
          refine at_iaddN dX12_partOf_90 ?_
          refine at_mput dX12_partOf_91 (pl_X12_286 _) (fun _ => ⟨_, rfl⟩) rfl rfl ?_
          rw [zg_s23, Nat.add_assoc B (i + 1) 1]
          refine at_iload_n dX12_partOf_94 rfl ?_
          refine at_if_eqB (tgt := 105) dX12_partOf_95 (by decide) (fun c95 => ?_) (fun c95 => ?_)
          · have hp := hp0 (Or.inl c95)
            refine at_lconst dX12_partOf_105 (v := 0) rfl ?_
            refine at_lret dX12_partOf_106 rfl (by omega) (by omega) ?_
            exact hp
          · refine at_aload_n dX12_partOf_98 rfl ?_
            refine at_get dX12_partOf_99 fl_X12_296 rfl rfl ?_
            rw [zg_25]
            refine at_if_eqB (tgt := 107) dX12_partOf_102 (by decide) (fun c102 => ?_) (fun c102 => ?_)
            · rw [c95, c102, zvl_s (show zx_wd (cd i) (vl (i + 1)) w = some (w (cd i) (vl (i + 1))) from rfl)] at hp; rw [c102]
              refine at_iload_n dX12_partOf_107 rfl ?_
              refine at_bipush dX12_partOf_108 (v := nI 50) (by decide) ?_
              refine at_neN (tgt := 130) dX12_partOf_110 (by decide) (by omega) (by omega) (fun c110 => ?_) (fun c110 => ?_)
              · refine at_aload_n dX12_partOf_130 rfl ?_
                refine at_get dX12_partOf_131 fl_X12_316 rfl rfl ?_
                rw [h26]
                refine at_if_eqB (tgt := 147) dX12_partOf_134 (by decide) (fun c134 => ?_) (fun c134 => ?_)
                · rw [ho] at c134; cases c134
                · refine at_aload_n dX12_partOf_137 rfl ?_
                  refine at_iload_n dX12_partOf_138 rfl ?_
                  refine at_iload_n dX12_partOf_139 rfl ?_
                  refine at_callV2 (d := D - 1) dX12_partOf_140 mv_X12_319 rfl (Nat.le_of_ble_eq_true rfl) (zq_r0 (by omega) (by omega) (by omega)) ?_
                  refine g2 _ _ _ _ (by omega) ?_
                  refine at_i2l dX12_partOf_143 ?_
                  rw [zL_I (by omega) (by omega)]
                  refine at_goto (tgt := 157) dX12_partOf_144 (by decide) ?_
                  refine at_lret dX12_partOf_157 rfl (by omega) (by omega) ?_
                  exact hp
              · omega
            · have hp := hp0 (Or.inr c102)
              refine at_lconst dX12_partOf_105 (v := 0) rfl ?_
              refine at_lret dX12_partOf_106 rfl (by omega) (by omega) ?_
              exact hp
        · refine at_iload_n dX12_partOf_64 rfl ?_
          refine at_bipush dX12_partOf_65 (v := nI 21) (by decide) ?_
          refine at_neN (tgt := 94) dX12_partOf_67 (by decide) (by omega) (by omega) (fun c67 => ?_) (fun c67 => ?_)
          · omega
          · refine at_aload_n dX12_partOf_70 rfl ?_
            refine at_get dX12_partOf_71 fl_X12_42 rfl rfl ?_
            refine at_sipush dX12_partOf_74 (v := nI 2884) (by decide) ?_
            refine at_aload_n dX12_partOf_77 rfl ?_
            refine at_get dX12_partOf_78 fl_X12_286 rfl rfl ?_
            rw [zg_23]
            refine at_iaddN dX12_partOf_81 ?_
            refine at_mald (a := 72) dX12_partOf_82 (by decide) (by decide) (by decide) (by decide) rfl rfl (by show _ < 5684; omega) (by decide) ?_
            rw [zg_2, g4]
            refine at_istore_n dX12_partOf_83 rfl (by decide) ?_
            refine at_aload_n dX12_partOf_84 rfl ?_
            refine at_dup dX12_partOf_85 rfl ?_
            refine at_get dX12_partOf_86 fl_X12_286 rfl rfl ?_
            rw [zg_23]
            refine at_iconst dX12_partOf_89 (v := nI 1) (by decide) ?_
            refine at_iaddN dX12_partOf_90 ?_
            refine at_mput dX12_partOf_91 (pl_X12_286 _) (fun _ => ⟨_, rfl⟩) rfl rfl ?_
            rw [zg_s23, Nat.add_assoc B (i + 1) 1]
            refine at_iload_n dX12_partOf_94 rfl ?_
            refine at_if_eqB (tgt := 105) dX12_partOf_95 (by decide) (fun c95 => ?_) (fun c95 => ?_)
            · have hp := hp0 (Or.inl c95)
              refine at_lconst dX12_partOf_105 (v := 0) rfl ?_
              refine at_lret dX12_partOf_106 rfl (by omega) (by omega) ?_
              exact hp
            · refine at_aload_n dX12_partOf_98 rfl ?_
              refine at_get dX12_partOf_99 fl_X12_296 rfl rfl ?_
              rw [zg_25]
              refine at_if_eqB (tgt := 107) dX12_partOf_102 (by decide) (fun c102 => ?_) (fun c102 => ?_)
              · rw [c95, c102, zvl_s (show zx_wd (cd i) (vl (i + 1)) w = some (w (cd i) (vl (i + 1))) from rfl)] at hp; rw [c102]
                refine at_iload_n dX12_partOf_107 rfl ?_
                refine at_bipush dX12_partOf_108 (v := nI 50) (by decide) ?_
                refine at_neN (tgt := 130) dX12_partOf_110 (by decide) (by omega) (by omega) (fun c110 => ?_) (fun c110 => ?_)
                · refine at_aload_n dX12_partOf_130 rfl ?_
                  refine at_get dX12_partOf_131 fl_X12_316 rfl rfl ?_
                  rw [h26]
                  refine at_if_eqB (tgt := 147) dX12_partOf_134 (by decide) (fun c134 => ?_) (fun c134 => ?_)
                  · rw [ho] at c134; cases c134
                  · refine at_aload_n dX12_partOf_137 rfl ?_
                    refine at_iload_n dX12_partOf_138 rfl ?_
                    refine at_iload_n dX12_partOf_139 rfl ?_
                    refine at_callV2 (d := D - 1) dX12_partOf_140 mv_X12_319 rfl (Nat.le_of_ble_eq_true rfl) (zq_r0 (by omega) (by omega) (by omega)) ?_
                    refine g2 _ _ _ _ (by omega) ?_
                    refine at_i2l dX12_partOf_143 ?_
                    rw [zL_I (by omega) (by omega)]
                    refine at_goto (tgt := 157) dX12_partOf_144 (by decide) ?_
                    refine at_lret dX12_partOf_157 rfl (by omega) (by omega) ?_
                    exact hp
                · omega
              · have hp := hp0 (Or.inr c102)
                refine at_lconst dX12_partOf_105 (v := 0) rfl ?_
                refine at_lret dX12_partOf_106 rfl (by omega) (by omega) ?_
                exact hp
    · cases c9
/-- a whole sum -/
theorem zm_sumS (hR : zRun σ B E cd vl o) (hW : zWv l G n σ ρ o w) : ∀ d D : Nat, 3 * d + 13 ≤ D → zHV l G n B w σ ρ D yX12_sumOf (zSpS cd vl o d)
  | 0, D, _ => fun _ _ _ _ _ _ h => h.elim
  | d + 1, D, hD => by
    have hI := zIn_part (vl := vl) (o := o) hR.2.2.2.1 (zIn_S (vl := vl) (o := o) hR.2.2.2.1 d)
    have hB := zBn_part (cd := cd) (vl := vl) (o := o) hW.1 (zBn_S (cd := cd) (vl := vl) (o := o) hW.1 d)
    exact zm_sumOf (by omega) hR (zIn_sq hI) (zBn_sq hB) (zm_termOf (by omega) hR hI hB (zm_partOf (by omega) hR hW (zIn_S hR.2.2.2.1 d) (zm_sumS hR hW d (D - 1 - 1 - 1) (by omega))))
end ZL23

