/-! ===== the Model: what names cost ===== -/
/-- alike but for a reckoning and the costs of letters -/
def zTl (σ τ : zm_S) : Prop := (∀ k, k < 23 ∨ 26 < k → σ.1 k = τ.1 k) ∧ (∀ a, a ≠ 83 → a ≠ 89 → σ.2.1 a = τ.2.1 a) ∧ σ.2.2 = τ.2.2
theorem zTl_r (σ : zm_S) : zTl σ σ := ⟨fun _ _ => rfl, fun _ _ _ => rfl, rfl⟩
theorem zTl_t {σ τ υ : zm_S} (h : zTl σ τ) (g : zTl τ υ) : zTl σ υ := ⟨fun k hk => (h.1 k hk).trans (g.1 k hk), fun k h1 h2 => (h.2.1 k h1 h2).trans (g.2.1 k h1 h2), h.2.2.trans g.2.2⟩
theorem zTl_e {σ τ : zm_S} (h : zTe σ τ) : zTl σ τ := ⟨h.1, fun a h1 _ => h.2.1 a h1, h.2.2⟩
theorem zTl_a {σ τ : zm_S} {i : Nat} {v : Int32} (h : zTl σ τ) : zTl (zm_sa σ 89 i v) τ := ⟨h.1, fun j h1 h2 => by rw [zm_sa_o _ h2]; exact h.2.1 j h1 h2, h.2.2⟩
/-- what letter k of the name x of p costs to become y -/
def zlcv (K : Nat → Int32) (m p x : Nat) (Lo : Option (List zLC)) (k y : Nat) : Nat := if zlt x k = y then 0 else (ztell (zlwV K m p x (nI k) (nI y)) 1 1 Lo).toNat
theorem zlcv_le (K : Nat → Int32) (m p x : Nat) (Lo : Option (List zLC)) (k y : Nat) : zlcv K m p x Lo k y ≤ 99 := by
  unfold zlcv
  split
  · omega
  · have := ztell_b (W := zlwV K m p x (nI k) (nI y)) (h := 1) (t := 1) Lo (by omega)
    omega
theorem zI_nn {x : Int} (h : 0 ≤ x) : zI x = nI x.toNat := by rw [← zI_n, Int.toNat_of_nonneg h]
theorem dX12_laysLetterCosts_0 : decode cX12_laysLetterCosts 0 = .ok (.aload_n 0, 1) := by decide +kernel
theorem dX12_laysLetterCosts_1 : decode cX12_laysLetterCosts 1 = .ok (.getfield 42, 3) := by decide +kernel
theorem dX12_laysLetterCosts_4 : decode cX12_laysLetterCosts 4 = .ok (.iconst 0, 1) := by decide +kernel
theorem dX12_laysLetterCosts_5 : decode cX12_laysLetterCosts 5 = .ok (.iload_n 1, 1) := by decide +kernel
theorem dX12_laysLetterCosts_6 : decode cX12_laysLetterCosts 6 = .ok (.iadd, 1) := by decide +kernel
theorem dX12_laysLetterCosts_7 : decode cX12_laysLetterCosts 7 = .ok (.iaload, 1) := by decide +kernel
theorem dX12_laysLetterCosts_8 : decode cX12_laysLetterCosts 8 = .ok (.istore_n 2, 1) := by decide +kernel
theorem dX12_laysLetterCosts_9 : decode cX12_laysLetterCosts 9 = .ok (.iconst 0, 1) := by decide +kernel
theorem dX12_laysLetterCosts_10 : decode cX12_laysLetterCosts 10 = .ok (.istore_n 3, 1) := by decide +kernel
theorem dX12_laysLetterCosts_11 : decode cX12_laysLetterCosts 11 = .ok (.iload_n 3, 1) := by decide +kernel
theorem dX12_laysLetterCosts_12 : decode cX12_laysLetterCosts 12 = .ok (.iload_n 2, 1) := by decide +kernel
theorem dX12_laysLetterCosts_13 : decode cX12_laysLetterCosts 13 = .ok (.invokestatic 22, 3) := by decide +kernel
theorem dX12_laysLetterCosts_16 : decode cX12_laysLetterCosts 16 = .ok (.if_icmp .ge 58, 3) := by decide +kernel
theorem dX12_laysLetterCosts_19 : decode cX12_laysLetterCosts 19 = .ok (.iconst 1, 1) := by decide +kernel
theorem dX12_laysLetterCosts_20 : decode cX12_laysLetterCosts 20 = .ok (.istore 4, 2) := by decide +kernel
theorem dX12_laysLetterCosts_22 : decode cX12_laysLetterCosts 22 = .ok (.iload 4, 2) := by decide +kernel
theorem dX12_laysLetterCosts_24 : decode cX12_laysLetterCosts 24 = .ok (.iconst 5, 1) := by decide +kernel
theorem dX12_laysLetterCosts_25 : decode cX12_laysLetterCosts 25 = .ok (.if_icmp .gt 43, 3) := by decide +kernel
theorem dX12_laysLetterCosts_28 : decode cX12_laysLetterCosts 28 = .ok (.aload_n 0, 1) := by decide +kernel
theorem dX12_laysLetterCosts_29 : decode cX12_laysLetterCosts 29 = .ok (.getfield 98, 3) := by decide +kernel
theorem dX12_laysLetterCosts_32 : decode cX12_laysLetterCosts 32 = .ok (.bipush 6, 2) := by decide +kernel
theorem dX12_laysLetterCosts_34 : decode cX12_laysLetterCosts 34 = .ok (.iload_n 3, 1) := by decide +kernel
theorem dX12_laysLetterCosts_35 : decode cX12_laysLetterCosts 35 = .ok (.imul, 1) := by decide +kernel
theorem dX12_laysLetterCosts_36 : decode cX12_laysLetterCosts 36 = .ok (.iload 4, 2) := by decide +kernel
theorem dX12_laysLetterCosts_38 : decode cX12_laysLetterCosts 38 = .ok (.iadd, 1) := by decide +kernel
theorem dX12_laysLetterCosts_39 : decode cX12_laysLetterCosts 39 = .ok (.iload_n 2, 1) := by decide +kernel
theorem dX12_laysLetterCosts_40 : decode cX12_laysLetterCosts 40 = .ok (.iload_n 3, 1) := by decide +kernel
theorem dX12_laysLetterCosts_41 : decode cX12_laysLetterCosts 41 = .ok (.invokestatic 28, 3) := by decide +kernel
theorem dX12_laysLetterCosts_44 : decode cX12_laysLetterCosts 44 = .ok (.iload 4, 2) := by decide +kernel
theorem dX12_laysLetterCosts_46 : decode cX12_laysLetterCosts 46 = .ok (.if_icmp .ne 7, 3) := by decide +kernel
theorem dX12_laysLetterCosts_49 : decode cX12_laysLetterCosts 49 = .ok (.iconst 0, 1) := by decide +kernel
theorem dX12_laysLetterCosts_50 : decode cX12_laysLetterCosts 50 = .ok (.goto 11, 3) := by decide +kernel
theorem dX12_laysLetterCosts_53 : decode cX12_laysLetterCosts 53 = .ok (.aload_n 0, 1) := by decide +kernel
theorem dX12_laysLetterCosts_54 : decode cX12_laysLetterCosts 54 = .ok (.iload_n 1, 1) := by decide +kernel
theorem dX12_laysLetterCosts_55 : decode cX12_laysLetterCosts 55 = .ok (.iload_n 3, 1) := by decide +kernel
theorem dX12_laysLetterCosts_56 : decode cX12_laysLetterCosts 56 = .ok (.iload 4, 2) := by decide +kernel
theorem dX12_laysLetterCosts_58 : decode cX12_laysLetterCosts 58 = .ok (.invokevirtual 164, 3) := by decide +kernel
theorem dX12_laysLetterCosts_61 : decode cX12_laysLetterCosts 61 = .ok (.iastore, 1) := by decide +kernel
theorem dX12_laysLetterCosts_62 : decode cX12_laysLetterCosts 62 = .ok (.iinc 4 1, 3) := by decide +kernel
theorem dX12_laysLetterCosts_65 : decode cX12_laysLetterCosts 65 = .ok (.goto (-43), 3) := by decide +kernel
theorem dX12_laysLetterCosts_68 : decode cX12_laysLetterCosts 68 = .ok (.iinc 3 1, 3) := by decide +kernel
theorem dX12_laysLetterCosts_71 : decode cX12_laysLetterCosts 71 = .ok (.goto (-60), 3) := by decide +kernel
theorem dX12_laysLetterCosts_74 : decode cX12_laysLetterCosts 74 = .ok (.return_, 1) := by decide +kernel
abbrev mX12_laysLetterCosts : zq_M := (cX12_laysLetterCosts, RX12, "laysLetterCosts", none, 5)
theorem dX12_laysCosts_0 : decode cX12_laysCosts 0 = .ok (.aload_n 0, 1) := by decide +kernel
theorem dX12_laysCosts_1 : decode cX12_laysCosts 1 = .ok (.getfield 42, 3) := by decide +kernel
theorem dX12_laysCosts_4 : decode cX12_laysCosts 4 = .ok (.bipush 7, 2) := by decide +kernel
theorem dX12_laysCosts_6 : decode cX12_laysCosts 6 = .ok (.iload_n 1, 1) := by decide +kernel
theorem dX12_laysCosts_7 : decode cX12_laysCosts 7 = .ok (.iadd, 1) := by decide +kernel
theorem dX12_laysCosts_8 : decode cX12_laysCosts 8 = .ok (.iaload, 1) := by decide +kernel
theorem dX12_laysCosts_9 : decode cX12_laysCosts 9 = .ok (.istore_n 2, 1) := by decide +kernel
theorem dX12_laysCosts_10 : decode cX12_laysCosts 10 = .ok (.aload_n 0, 1) := by decide +kernel
theorem dX12_laysCosts_11 : decode cX12_laysCosts 11 = .ok (.getfield 42, 3) := by decide +kernel
theorem dX12_laysCosts_14 : decode cX12_laysCosts 14 = .ok (.iconst 0, 1) := by decide +kernel
theorem dX12_laysCosts_15 : decode cX12_laysCosts 15 = .ok (.iload_n 2, 1) := by decide +kernel
theorem dX12_laysCosts_16 : decode cX12_laysCosts 16 = .ok (.iadd, 1) := by decide +kernel
theorem dX12_laysCosts_17 : decode cX12_laysCosts 17 = .ok (.iaload, 1) := by decide +kernel
theorem dX12_laysCosts_18 : decode cX12_laysCosts 18 = .ok (.istore_n 3, 1) := by decide +kernel
theorem dX12_laysCosts_19 : decode cX12_laysCosts 19 = .ok (.aload_n 0, 1) := by decide +kernel
theorem dX12_laysCosts_20 : decode cX12_laysCosts 20 = .ok (.iload_n 2, 1) := by decide +kernel
theorem dX12_laysCosts_21 : decode cX12_laysCosts 21 = .ok (.invokevirtual 161, 3) := by decide +kernel
theorem dX12_laysCosts_24 : decode cX12_laysCosts 24 = .ok (.istore 4, 2) := by decide +kernel
theorem dX12_laysCosts_26 : decode cX12_laysCosts 26 = .ok (.aload_n 0, 1) := by decide +kernel
theorem dX12_laysCosts_27 : decode cX12_laysCosts 27 = .ok (.iload_n 2, 1) := by decide +kernel
theorem dX12_laysCosts_28 : decode cX12_laysCosts 28 = .ok (.invokevirtual 410, 3) := by decide +kernel
theorem dX12_laysCosts_31 : decode cX12_laysCosts 31 = .ok (.iconst 0, 1) := by decide +kernel
theorem dX12_laysCosts_32 : decode cX12_laysCosts 32 = .ok (.istore 5, 2) := by decide +kernel
theorem dX12_laysCosts_34 : decode cX12_laysCosts 34 = .ok (.iload 5, 2) := by decide +kernel
theorem dX12_laysCosts_36 : decode cX12_laysCosts 36 = .ok (.sipush 780, 3) := by decide +kernel
theorem dX12_laysCosts_39 : decode cX12_laysCosts 39 = .ok (.if_icmp .ge 118, 3) := by decide +kernel
theorem dX12_laysCosts_42 : decode cX12_laysCosts 42 = .ok (.aload_n 0, 1) := by decide +kernel
theorem dX12_laysCosts_43 : decode cX12_laysCosts 43 = .ok (.getfield 89, 3) := by decide +kernel
theorem dX12_laysCosts_46 : decode cX12_laysCosts 46 = .ok (.iload 5, 2) := by decide +kernel
theorem dX12_laysCosts_48 : decode cX12_laysCosts 48 = .ok (.iaload, 1) := by decide +kernel
theorem dX12_laysCosts_49 : decode cX12_laysCosts 49 = .ok (.invokestatic 22, 3) := by decide +kernel
theorem dX12_laysCosts_52 : decode cX12_laysCosts 52 = .ok (.iload_n 3, 1) := by decide +kernel
theorem dX12_laysCosts_53 : decode cX12_laysCosts 53 = .ok (.invokestatic 22, 3) := by decide +kernel
theorem dX12_laysCosts_56 : decode cX12_laysCosts 56 = .ok (.if_icmp .ne 23, 3) := by decide +kernel
theorem dX12_laysCosts_59 : decode cX12_laysCosts 59 = .ok (.iload 4, 2) := by decide +kernel
theorem dX12_laysCosts_61 : decode cX12_laysCosts 61 = .ok (.ifCond .eq 14, 3) := by decide +kernel
theorem dX12_laysCosts_64 : decode cX12_laysCosts 64 = .ok (.aload_n 0, 1) := by decide +kernel
theorem dX12_laysCosts_65 : decode cX12_laysCosts 65 = .ok (.getfield 89, 3) := by decide +kernel
theorem dX12_laysCosts_68 : decode cX12_laysCosts 68 = .ok (.iload 5, 2) := by decide +kernel
theorem dX12_laysCosts_70 : decode cX12_laysCosts 70 = .ok (.iaload, 1) := by decide +kernel
theorem dX12_laysCosts_71 : decode cX12_laysCosts 71 = .ok (.iload_n 3, 1) := by decide +kernel
theorem dX12_laysCosts_72 : decode cX12_laysCosts 72 = .ok (.if_icmp .ne 7, 3) := by decide +kernel
theorem dX12_laysCosts_75 : decode cX12_laysCosts 75 = .ok (.iconst 0, 1) := by decide +kernel
theorem dX12_laysCosts_76 : decode cX12_laysCosts 76 = .ok (.goto 5, 3) := by decide +kernel
theorem dX12_laysCosts_79 : decode cX12_laysCosts 79 = .ok (.ldc 196, 2) := by decide +kernel
theorem dX12_laysCosts_81 : decode cX12_laysCosts 81 = .ok (.istore 6, 2) := by decide +kernel
theorem dX12_laysCosts_83 : decode cX12_laysCosts 83 = .ok (.iconst 0, 1) := by decide +kernel
theorem dX12_laysCosts_84 : decode cX12_laysCosts 84 = .ok (.istore 7, 2) := by decide +kernel
theorem dX12_laysCosts_86 : decode cX12_laysCosts 86 = .ok (.iload 7, 2) := by decide +kernel
theorem dX12_laysCosts_88 : decode cX12_laysCosts 88 = .ok (.iload_n 3, 1) := by decide +kernel
theorem dX12_laysCosts_89 : decode cX12_laysCosts 89 = .ok (.invokestatic 22, 3) := by decide +kernel
theorem dX12_laysCosts_92 : decode cX12_laysCosts 92 = .ok (.if_icmp .ge 44, 3) := by decide +kernel
theorem dX12_laysCosts_95 : decode cX12_laysCosts 95 = .ok (.iload 6, 2) := by decide +kernel
theorem dX12_laysCosts_97 : decode cX12_laysCosts 97 = .ok (.ldc 196, 2) := by decide +kernel
theorem dX12_laysCosts_99 : decode cX12_laysCosts 99 = .ok (.if_icmp .ge 37, 3) := by decide +kernel
theorem dX12_laysCosts_102 : decode cX12_laysCosts 102 = .ok (.iload 6, 2) := by decide +kernel
theorem dX12_laysCosts_104 : decode cX12_laysCosts 104 = .ok (.aload_n 0, 1) := by decide +kernel
theorem dX12_laysCosts_105 : decode cX12_laysCosts 105 = .ok (.getfield 98, 3) := by decide +kernel
theorem dX12_laysCosts_108 : decode cX12_laysCosts 108 = .ok (.bipush 6, 2) := by decide +kernel
theorem dX12_laysCosts_110 : decode cX12_laysCosts 110 = .ok (.iload 7, 2) := by decide +kernel
theorem dX12_laysCosts_112 : decode cX12_laysCosts 112 = .ok (.imul, 1) := by decide +kernel
theorem dX12_laysCosts_113 : decode cX12_laysCosts 113 = .ok (.aload_n 0, 1) := by decide +kernel
theorem dX12_laysCosts_114 : decode cX12_laysCosts 114 = .ok (.getfield 89, 3) := by decide +kernel
theorem dX12_laysCosts_117 : decode cX12_laysCosts 117 = .ok (.iload 5, 2) := by decide +kernel
theorem dX12_laysCosts_119 : decode cX12_laysCosts 119 = .ok (.iaload, 1) := by decide +kernel
theorem dX12_laysCosts_120 : decode cX12_laysCosts 120 = .ok (.iload 7, 2) := by decide +kernel
theorem dX12_laysCosts_122 : decode cX12_laysCosts 122 = .ok (.invokestatic 28, 3) := by decide +kernel
theorem dX12_laysCosts_125 : decode cX12_laysCosts 125 = .ok (.iadd, 1) := by decide +kernel
theorem dX12_laysCosts_126 : decode cX12_laysCosts 126 = .ok (.iaload, 1) := by decide +kernel
theorem dX12_laysCosts_127 : decode cX12_laysCosts 127 = .ok (.iadd, 1) := by decide +kernel
theorem dX12_laysCosts_128 : decode cX12_laysCosts 128 = .ok (.istore 6, 2) := by decide +kernel
theorem dX12_laysCosts_130 : decode cX12_laysCosts 130 = .ok (.iinc 7 1, 3) := by decide +kernel
theorem dX12_laysCosts_133 : decode cX12_laysCosts 133 = .ok (.goto (-47), 3) := by decide +kernel
theorem dX12_laysCosts_136 : decode cX12_laysCosts 136 = .ok (.aload_n 0, 1) := by decide +kernel
theorem dX12_laysCosts_137 : decode cX12_laysCosts 137 = .ok (.getfield 92, 3) := by decide +kernel
theorem dX12_laysCosts_140 : decode cX12_laysCosts 140 = .ok (.sipush 780, 3) := by decide +kernel
theorem dX12_laysCosts_143 : decode cX12_laysCosts 143 = .ok (.iload_n 1, 1) := by decide +kernel
theorem dX12_laysCosts_144 : decode cX12_laysCosts 144 = .ok (.imul, 1) := by decide +kernel
theorem dX12_laysCosts_145 : decode cX12_laysCosts 145 = .ok (.iload 5, 2) := by decide +kernel
theorem dX12_laysCosts_147 : decode cX12_laysCosts 147 = .ok (.iadd, 1) := by decide +kernel
theorem dX12_laysCosts_148 : decode cX12_laysCosts 148 = .ok (.iload 6, 2) := by decide +kernel
theorem dX12_laysCosts_150 : decode cX12_laysCosts 150 = .ok (.iastore, 1) := by decide +kernel
theorem dX12_laysCosts_151 : decode cX12_laysCosts 151 = .ok (.iinc 5 1, 3) := by decide +kernel
theorem dX12_laysCosts_154 : decode cX12_laysCosts 154 = .ok (.goto (-120), 3) := by decide +kernel
theorem dX12_laysCosts_157 : decode cX12_laysCosts 157 = .ok (.return_, 1) := by decide +kernel
abbrev mX12_laysCosts : zq_M := (cX12_laysCosts, RX12, "laysCosts", none, 8)
section ZL30
variable {l : Launch} {G : zq_G} {n m : Nat} {σ : zm_S} {ρ : Nat → zq_E} {x w rk : Nat → Nat} {Lo : Option (List zLC)}
theorem zm_llc_in {D p k : Nat} {post : Option Value → Nat → (Nat → zq_E) → Prop} (hD : 73 ≤ D) (hC : zC σ m x w rk) (hpm : p < m) (hk : k < zlen (x p)) (h72 : zSm (σ.2.1 72 72)) (h19 : zSm (σ.2.1 72 19)) (hF : zForce (σ.2.1 72) Lo)
    (hq : ∀ τ, zTl τ σ → (∀ a y, a < k + 1 → 1 ≤ y → y ≤ 5 → τ.2.1 89 (6 * a + y) = nI (zlcv (σ.2.1 72) m p (x p) Lo a y)) → zq_At l G (zq_rm D 0 0) mX12_laysLetterCosts (zq_QF G post 0 0) 68 [(0, .ref 70), (1, .int (nI p)), (2, .int (nI (x p))), (3, .int (nI k))] [] n (zm_h τ ρ) 0 0) :
    ∀ f y : Nat, y + f = 6 → 1 ≤ y → ∀ τ, zTl τ σ → (∀ a z, (a < k ∨ (a = k ∧ z < y)) → 1 ≤ z → z ≤ 5 → τ.2.1 89 (6 * a + z) = nI (zlcv (σ.2.1 72) m p (x p) Lo a z)) → zq_At l G (zq_rm D 0 0) mX12_laysLetterCosts (zq_QF G post 0 0) 22 [(0, .ref 70), (1, .int (nI p)), (2, .int (nI (x p))), (3, .int (nI k)), (4, .int (nI y))] [] n (zm_h τ ρ) 0 0 := by
  intro f
  have hl4 := zlen_le (x p)
  have hm7 := hC.2.1
  have hx5 := (hC.2.2.1 p hpm).2.2.1
  induction f with
  | zero =>
    intro y hy h1 τ ht he
    obtain rfl : y = 6 := hy
    refine at_iload dX12_laysLetterCosts_22 rfl ?_
    refine at_iconst dX12_laysLetterCosts_24 (v := nI 5) (by decide) ?_
    refine at_gtN (tgt := 68) dX12_laysLetterCosts_25 (by decide) (by omega) (by omega) (fun c25 => ?_) (fun c25 => ?_)
    · exact at_lv [0, 1, 2, 3] (hq τ ht (fun a z ha h1 h5 => he a z (by omega) h1 h5))
    · omega
  | succ f ih =>
    intro y hy h1 τ ht he
    have hCt : zC τ m x w rk := zC_congr hC (ht.2.1 72 (by decide) (by decide)) (ht.2.1 76 (by decide) (by decide))
    have e72 := ht.2.1 72 (by decide) (by decide)
    have hl10 := zlt_lt (x p) k
    have hv : zlcv (σ.2.1 72) m p (x p) Lo k y = if zlt (x p) k = y then 0 else (ztell (zlwV (σ.2.1 72) m p (x p) (nI k) (nI y)) 1 1 Lo).toNat := rfl
    have hnx : ∀ τ', zTl τ' σ → (∀ j, τ'.2.1 89 j = τ.2.1 89 j) → zq_At l G (zq_rm D 0 0) mX12_laysLetterCosts (zq_QF G post 0 0) 22 [(0, .ref 70), (1, .int (nI p)), (2, .int (nI (x p))), (3, .int (nI k)), (4, .int (nI (y + 1)))] [] n (zm_h (zm_sa τ' 89 (6 * k + y) (nI (zlcv (σ.2.1 72) m p (x p) Lo k y))) ρ) 0 0 := by
      intro τ' ht' h89
      refine ih (y + 1) (by omega) (by omega) _ (zTl_a ht') (fun a z ha h1 h5 => ?_)
      rw [zm_sa_s]
      by_cases e : 6 * a + z = 6 * k + y
      · obtain ⟨rfl, rfl⟩ : a = k ∧ z = y := by omega
        rw [upd_s]
      · rw [upd_o _ e, h89]
        exact he a z (by omega) h1 h5
    refine at_iload dX12_laysLetterCosts_22 rfl ?_
    refine at_iconst dX12_laysLetterCosts_24 (v := nI 5) (by decide) ?_
    refine at_gtN (tgt := 68) dX12_laysLetterCosts_25 (by decide) (by omega) (by omega) (fun c25 => ?_) (fun c25 => ?_)
    · omega
    · refine at_aload_n dX12_laysLetterCosts_28 rfl ?_
      refine at_get dX12_laysLetterCosts_29 fl_X12_98 rfl rfl ?_
      refine at_bipush dX12_laysLetterCosts_32 (v := nI 6) (by decide) ?_
      refine at_iload_n dX12_laysLetterCosts_34 rfl ?_
      refine at_imulN dX12_laysLetterCosts_35 ?_
      refine at_iload dX12_laysLetterCosts_36 rfl ?_
      refine at_iaddN dX12_laysLetterCosts_38 ?_
      refine at_iload_n dX12_laysLetterCosts_39 rfl ?_
      refine at_iload_n dX12_laysLetterCosts_40 rfl ?_
      refine at_callS2 (d := D - 1) dX12_laysLetterCosts_41 ms_X12_28 (Nat.le_of_ble_eq_true rfl) (zq_r0 (by omega) (by omega) (by omega)) ?_
      refine zm_letterAt (by omega) (by omega) (by omega) ?_
      refine at_iload dX12_laysLetterCosts_44 rfl ?_
      refine at_neN (tgt := 53) dX12_laysLetterCosts_46 (by decide) (by omega) (by omega) (fun c46 => ?_) (fun c46 => ?_)
      · rw [if_neg c46] at hv
        refine at_aload_n dX12_laysLetterCosts_53 rfl ?_
        refine at_iload_n dX12_laysLetterCosts_54 rfl ?_
        refine at_iload_n dX12_laysLetterCosts_55 rfl ?_
        refine at_iload dX12_laysLetterCosts_56 rfl ?_
        refine at_callV3 (d := D - 1) dX12_laysLetterCosts_58 mv_X12_164 rfl (Nat.le_of_ble_eq_true rfl) (zq_r0 (by omega) (by omega) (by omega)) ?_
        refine zm_strokeOf (by omega) hCt hpm (Or.inr ⟨k, hk, rfl⟩) (zSm_n (by omega)) (by rw [e72]; exact h72) (by rw [e72]; exact h19) (by rw [e72]; exact hF) (fun τ' ht' => ?_)
        have hnx := hnx τ' (zTl_t (zTl_e ht') ht) (fun j => by rw [ht'.2.1 89 (by decide)])
        rw [e72, zI_nn (ztell_b _ (by omega)).1, ← hv]
        refine at_mast (a := 89) dX12_laysLetterCosts_61 (by decide) (by decide) (by decide) (by decide) rfl rfl (by show _ < 24; omega) (by decide) ?_
        refine at_iincN dX12_laysLetterCosts_62 rfl (by decide) ?_
        refine at_goto (tgt := 22) dX12_laysLetterCosts_65 (by decide) ?_
        exact hnx
      · rw [if_pos c46] at hv
        have hnx := hnx τ ht (fun _ => rfl)
        rw [hv] at hnx
        refine at_iconst dX12_laysLetterCosts_49 (v := nI 0) (by decide) ?_
        refine at_goto (tgt := 61) dX12_laysLetterCosts_50 (by decide) ?_
        refine at_mast (a := 89) dX12_laysLetterCosts_61 (by decide) (by decide) (by decide) (by decide) rfl rfl (by show _ < 24; omega) (by decide) ?_
        refine at_iincN dX12_laysLetterCosts_62 rfl (by decide) ?_
        refine at_goto (tgt := 22) dX12_laysLetterCosts_65 (by decide) ?_
        exact hnx
theorem zm_llc_out {D p : Nat} {post : Option Value → Nat → (Nat → zq_E) → Prop} (hD : 73 ≤ D) (hC : zC σ m x w rk) (hpm : p < m) (h72 : zSm (σ.2.1 72 72)) (h19 : zSm (σ.2.1 72 19)) (hF : zForce (σ.2.1 72) Lo)
    (hp : ∀ τ, zTl τ σ → (∀ a y, a < zlen (x p) → 1 ≤ y → y ≤ 5 → τ.2.1 89 (6 * a + y) = nI (zlcv (σ.2.1 72) m p (x p) Lo a y)) → post none n (zm_h τ ρ)) :
    ∀ f k : Nat, k + f = zlen (x p) → ∀ τ, zTl τ σ → (∀ a z, a < k → 1 ≤ z → z ≤ 5 → τ.2.1 89 (6 * a + z) = nI (zlcv (σ.2.1 72) m p (x p) Lo a z)) → zq_At l G (zq_rm D 0 0) mX12_laysLetterCosts (zq_QF G post 0 0) 11 [(0, .ref 70), (1, .int (nI p)), (2, .int (nI (x p))), (3, .int (nI k))] [] n (zm_h τ ρ) 0 0 := by
  intro f
  have hl4 := zlen_le (x p)
  have hx5 := (hC.2.2.1 p hpm).2.2.1
  induction f with
  | zero =>
    intro k hk τ ht he
    obtain rfl : k = zlen (x p) := hk
    have hp := hp τ ht he
    refine at_iload_n dX12_laysLetterCosts_11 rfl ?_
    refine at_iload_n dX12_laysLetterCosts_12 rfl ?_
    refine at_callS1 (d := D - 1) dX12_laysLetterCosts_13 ms_X12_22 (Nat.le_of_ble_eq_true rfl) (zq_r0 (by omega) (by omega) (by omega)) ?_
    refine zm_lengthOf (by omega) ?_
    refine at_geN (tgt := 74) dX12_laysLetterCosts_16 (by decide) (by omega) (by omega) (fun c16 => ?_) (fun c16 => ?_)
    · refine at_vret dX12_laysLetterCosts_74 rfl (by omega) (by omega) ?_
      exact hp
    · omega
  | succ f ih =>
    intro k hk τ ht he
    refine at_iload_n dX12_laysLetterCosts_11 rfl ?_
    refine at_iload_n dX12_laysLetterCosts_12 rfl ?_
    refine at_callS1 (d := D - 1) dX12_laysLetterCosts_13 ms_X12_22 (Nat.le_of_ble_eq_true rfl) (zq_r0 (by omega) (by omega) (by omega)) ?_
    refine zm_lengthOf (by omega) ?_
    refine at_geN (tgt := 74) dX12_laysLetterCosts_16 (by decide) (by omega) (by omega) (fun c16 => ?_) (fun c16 => ?_)
    · omega
    · refine at_iconst dX12_laysLetterCosts_19 (v := nI 1) (by decide) ?_
      refine at_istore dX12_laysLetterCosts_20 (by decide) ?_
      refine zm_llc_in hD hC hpm (by omega) h72 h19 hF (fun τ' t1 t2 => ?_) 5 1 rfl (Nat.le_refl 1) τ ht (fun a z ha h1 h5 => he a z (by omega) h1 h5)
      have hn := ih (k + 1) (by omega) τ' t1 (fun a z ha => t2 a z ha)
      refine at_iincN dX12_laysLetterCosts_68 rfl (by decide) ?_
      refine at_goto (tgt := 11) dX12_laysLetterCosts_71 (by decide) ?_
      exact hn
theorem zm_laysLetterCosts {D p : Nat} {post : Option Value → Nat → (Nat → zq_E) → Prop} (hD : 73 ≤ D) (hC : zC σ m x w rk) (hpm : p < m) (h72 : zSm (σ.2.1 72 72)) (h19 : zSm (σ.2.1 72 19)) (hF : zForce (σ.2.1 72) Lo)
    (hp : ∀ τ, zTl τ σ → (∀ a y, a < zlen (x p) → 1 ≤ y → y ≤ 5 → τ.2.1 89 (6 * a + y) = nI (zlcv (σ.2.1 72) m p (x p) Lo a y)) → post none n (zm_h τ ρ)) : zq_Runs l G D 0 0 yX12_laysLetterCosts [.ref 70, .int (nI p)] n (zm_h σ ρ) post := by
  have hm7 := hC.2.1
  have g := (hC.2.2.1 p hpm).1
  refine zq_enter (cc := cX12_laysLetterCosts) (nL := 5) (ret := none) cw_X12_laysLetterCosts (by decide) rfl (Nat.le_of_ble_eq_true rfl) ?_
  refine at_aload_n dX12_laysLetterCosts_0 rfl ?_
  refine at_get dX12_laysLetterCosts_1 fl_X12_42 rfl rfl ?_
  refine at_iconst dX12_laysLetterCosts_4 (v := nI 0) (by decide) ?_
  refine at_iload_n dX12_laysLetterCosts_5 rfl ?_
  refine at_iaddN dX12_laysLetterCosts_6 ?_
  refine at_mald (a := 72) dX12_laysLetterCosts_7 (by decide) (by decide) (by decide) (by decide) rfl rfl (by show _ < 5684; omega) (by decide) ?_
  rw [Nat.zero_add p, g]
  refine at_istore_n dX12_laysLetterCosts_8 rfl (by decide) ?_
  refine at_iconst dX12_laysLetterCosts_9 (v := nI 0) (by decide) ?_
  refine at_istore_n dX12_laysLetterCosts_10 rfl (by decide) ?_
  exact zm_llc_out hD hC hpm h72 h19 hF hp (zlen (x p)) 0 (Nat.zero_add _) σ (zTl_r σ) (fun a z ha => absurd ha (Nat.not_lt_zero _))
/-- what the letters of y cost together, the first k of them -/
def zlsum (lc : Nat → Nat → Nat) (y : Nat) : Nat → Nat
  | 0 => 0
  | k + 1 => zlsum lc y k + lc k (zlt y k)
theorem zlsum_le {lc : Nat → Nat → Nat} (h : ∀ k y, lc k y ≤ 99) (y : Nat) : ∀ k, zlsum lc y k ≤ 99 * k
  | 0 => Nat.le_refl _
  | k + 1 => by
    have := zlsum_le h y k
    have := h k (zlt y k)
    show zlsum lc y k + _ ≤ _
    omega
/-- what it costs that the name x becomes y; held: it may not be changed -/
def zcst (held : Bool) (x y : Nat) (lc : Nat → Nat → Nat) : Nat := if zlen y = zlen x ∧ (held = false ∨ y = x) then zlsum lc y (zlen x) else 1000000
/-- alike but for a reckoning and the tables of costs -/
def zTc (σ τ : zm_S) : Prop := (∀ k, k < 23 ∨ 26 < k → σ.1 k = τ.1 k) ∧ (∀ a, a ≠ 83 → a ≠ 89 → a ≠ 87 → σ.2.1 a = τ.2.1 a) ∧ σ.2.2 = τ.2.2
theorem zTc_r (σ : zm_S) : zTc σ σ := ⟨fun _ _ => rfl, fun _ _ _ _ => rfl, rfl⟩
theorem zTc_t {σ τ υ : zm_S} (h : zTc σ τ) (g : zTc τ υ) : zTc σ υ := ⟨fun k hk => (h.1 k hk).trans (g.1 k hk), fun k h1 h2 h3 => (h.2.1 k h1 h2 h3).trans (g.2.1 k h1 h2 h3), h.2.2.trans g.2.2⟩
theorem zTc_l {σ τ : zm_S} (h : zTl σ τ) : zTc σ τ := ⟨h.1, fun a h1 h2 _ => h.2.1 a h1 h2, h.2.2⟩
theorem zTc_a {σ τ : zm_S} {i : Nat} {v : Int32} (h : zTc σ τ) : zTc (zm_sa σ 87 i v) τ := ⟨h.1, fun j h1 h2 h3 => by rw [zm_sa_o _ h3]; exact h.2.1 j h1 h2 h3, h.2.2⟩
theorem zm_lc_in {D j p i y : Nat} {h : Int32} {xp : Nat} {lc : Nat → Nat → Nat} {post : Option Value → Nat → (Nat → zq_E) → Prop} {τ : zm_S} (hD : 3 ≤ D) (hi : i < 780) (hx : xp < 10000) (hy : zvn y) (hlen : zlen y = zlen xp) (h86 : τ.2.1 86 i = nI y) (hlc : ∀ a z, a < zlen xp → 1 ≤ z → z ≤ 5 → τ.2.1 89 (6 * a + z) = nI (lc a z)) (hb : ∀ a z, lc a z ≤ 99)
    (hq : zq_At l G (zq_rm D 0 0) mX12_laysCosts (zq_QF G post 0 0) 136 [(0, .ref 70), (1, .int (nI j)), (2, .int (nI p)), (3, .int (nI xp)), (4, .int h), (5, .int (nI i)), (6, .int (nI (zlsum lc y (zlen xp))))] [] n (zm_h τ ρ) 0 0) :
    ∀ f k : Nat, k + f = zlen xp → zq_At l G (zq_rm D 0 0) mX12_laysCosts (zq_QF G post 0 0) 86 [(0, .ref 70), (1, .int (nI j)), (2, .int (nI p)), (3, .int (nI xp)), (4, .int h), (5, .int (nI i)), (6, .int (nI (zlsum lc y k))), (7, .int (nI k))] [] n (zm_h τ ρ) 0 0 := by
  intro f
  have hl4 := zlen_le xp
  have hy5 := hy.2.1
  induction f with
  | zero =>
    intro k hk
    obtain rfl : k = zlen xp := hk
    refine at_iload dX12_laysCosts_86 rfl ?_
    refine at_iload_n dX12_laysCosts_88 rfl ?_
    refine at_callS1 (d := D - 1) dX12_laysCosts_89 ms_X12_22 (Nat.le_of_ble_eq_true rfl) (zq_r0 (by omega) (by omega) (by omega)) ?_
    refine zm_lengthOf (by omega) ?_
    refine at_geN (tgt := 136) dX12_laysCosts_92 (by decide) (by omega) (by omega) (fun c92 => ?_) (fun c92 => ?_)
    · exact at_lv [0, 1, 2, 3, 4, 5, 6] hq
    · omega
  | succ f ih =>
    intro k hk
    have hn := ih (k + 1) (by omega)
    unfold zlsum at hn
    have hs := zlsum_le hb y k
    have hz := zvn_at hy (k := k) (by omega)
    refine at_iload dX12_laysCosts_86 rfl ?_
    refine at_iload_n dX12_laysCosts_88 rfl ?_
    refine at_callS1 (d := D - 1) dX12_laysCosts_89 ms_X12_22 (Nat.le_of_ble_eq_true rfl) (zq_r0 (by omega) (by omega) (by omega)) ?_
    refine zm_lengthOf (by omega) ?_
    refine at_geN (tgt := 136) dX12_laysCosts_92 (by decide) (by omega) (by omega) (fun c92 => ?_) (fun c92 => ?_)
    · omega
    · refine at_iload dX12_laysCosts_95 rfl ?_
      refine at_ldc dX12_laysCosts_97 (v := nI 1000000) kc_X12_196 ?_
      refine at_geN (tgt := 136) dX12_laysCosts_99 (by decide) (by omega) (by omega) (fun c99 => ?_) (fun c99 => ?_)
      · omega
      · refine at_iload dX12_laysCosts_102 rfl ?_
        refine at_aload_n dX12_laysCosts_104 rfl ?_
        refine at_get dX12_laysCosts_105 fl_X12_98 rfl rfl ?_
        refine at_bipush dX12_laysCosts_108 (v := nI 6) (by decide) ?_
        refine at_iload dX12_laysCosts_110 rfl ?_
        refine at_imulN dX12_laysCosts_112 ?_
        refine at_aload_n dX12_laysCosts_113 rfl ?_
        refine at_get dX12_laysCosts_114 fl_X12_89 rfl rfl ?_
        refine at_iload dX12_laysCosts_117 rfl ?_
        refine at_mald (a := 86) dX12_laysCosts_119 (by decide) (by decide) (by decide) (by decide) rfl rfl (by show _ < 780; omega) (by decide) ?_
        rw [h86]
        refine at_iload dX12_laysCosts_120 rfl ?_
        refine at_callS2 (d := D - 1) dX12_laysCosts_122 ms_X12_28 (Nat.le_of_ble_eq_true rfl) (zq_r0 (by omega) (by omega) (by omega)) ?_
        refine zm_letterAt (by omega) (by omega) (by omega) ?_
        refine at_iaddN dX12_laysCosts_125 ?_
        refine at_mald (a := 89) dX12_laysCosts_126 (by decide) (by decide) (by decide) (by decide) rfl rfl (by show _ < 24; omega) (by decide) ?_
        rw [hlc k (zlt y k) (by omega) hz.1 hz.2]
        refine at_iaddN dX12_laysCosts_127 ?_
        refine at_istore dX12_laysCosts_128 (by decide) ?_
        refine at_iincN dX12_laysCosts_130 rfl (by decide) ?_
        refine at_goto (tgt := 86) dX12_laysCosts_133 (by decide) ?_
        exact hn
theorem zm_lc_out {D j p xp : Nat} {held : Bool} {lc : Nat → Nat → Nat} {nm : Nat → Nat} {post : Option Value → Nat → (Nat → zq_E) → Prop} (hD : 3 ≤ D) (hj : j < 7) (hx : xp < 10000) (hnm : ∀ r, r < 780 → zvn (nm r)) (h86 : ∀ r, r < 780 → σ.2.1 86 r = nI (nm r)) (hlc : ∀ a z, a < zlen xp → 1 ≤ z → z ≤ 5 → σ.2.1 89 (6 * a + z) = nI (lc a z)) (hb : ∀ a z, lc a z ≤ 99)
    (hp : ∀ g, (∀ r, r < 780 → g (780 * j + r) = nI (zcst held xp (nm r) lc)) → (∀ a, (a < 780 * j ∨ 780 * (j + 1) ≤ a) → g a = σ.2.1 87 a) → post none n (zm_h (zsA σ 87 g) ρ)) :
    ∀ f i : Nat, i + f = 780 → ∀ g, (∀ r, r < i → g (780 * j + r) = nI (zcst held xp (nm r) lc)) → (∀ a, (a < 780 * j ∨ 780 * (j + 1) ≤ a) → g a = σ.2.1 87 a) → zq_At l G (zq_rm D 0 0) mX12_laysCosts (zq_QF G post 0 0) 34 [(0, .ref 70), (1, .int (nI j)), (2, .int (nI p)), (3, .int (nI xp)), (4, .int (zb held)), (5, .int (nI i))] [] n (zm_h (zsA σ 87 g) ρ) 0 0 := by
  intro f
  have hl4 := zlen_le xp
  induction f with
  | zero =>
    intro i hi g h1 h2
    obtain rfl : i = 780 := hi
    have hp := hp g h1 h2
    refine at_iload dX12_laysCosts_34 rfl ?_
    refine at_sipush dX12_laysCosts_36 (v := nI 780) (by decide) ?_
    refine at_geN (tgt := 157) dX12_laysCosts_39 (by decide) (by omega) (by omega) (fun c39 => ?_) (fun c39 => ?_)
    · refine at_vret dX12_laysCosts_157 rfl (by omega) (by omega) ?_
      exact hp
    · omega
  | succ f ih =>
    intro i hi g h1 h2
    have hy := hnm i (by omega)
    have hy5 := hy.2.1
    have g86 : (zsA σ 87 g).2.1 86 i = nI (nm i) := by rw [zsA_o _ (by decide)]; exact h86 i (by omega)
    have hlc' : ∀ a z, a < zlen xp → 1 ≤ z → z ≤ 5 → (zsA σ 87 g).2.1 89 (6 * a + z) = nI (lc a z) := by
      intro a z q1 q2 q3
      rw [zsA_o _ (by decide)]
      exact hlc a z q1 q2 q3
    have hly := zlen_le (nm i)
    have hn : ∀ v, v = zcst held xp (nm i) lc → zq_At l G (zq_rm D 0 0) mX12_laysCosts (zq_QF G post 0 0) 136 [(0, .ref 70), (1, .int (nI j)), (2, .int (nI p)), (3, .int (nI xp)), (4, .int (zb held)), (5, .int (nI i)), (6, .int (nI v))] [] n (zm_h (zsA σ 87 g) ρ) 0 0 := by
      rintro v rfl
      have hn := ih (i + 1) (by omega) (upd g (780 * j + i) (nI (zcst held xp (nm i) lc))) (fun r hr => by
        by_cases e : r = i
        · subst e; rw [upd_s]
        · rw [upd_o _ (by omega)]; exact h1 r (by omega)) (fun a ha => by rw [upd_o _ (by omega)]; exact h2 a ha)
      refine at_aload_n dX12_laysCosts_136 rfl ?_
      refine at_get dX12_laysCosts_137 fl_X12_92 rfl rfl ?_
      refine at_sipush dX12_laysCosts_140 (v := nI 780) (by decide) ?_
      refine at_iload_n dX12_laysCosts_143 rfl ?_
      refine at_imulN dX12_laysCosts_144 ?_
      refine at_iload dX12_laysCosts_145 rfl ?_
      refine at_iaddN dX12_laysCosts_147 ?_
      refine at_iload dX12_laysCosts_148 rfl ?_
      refine at_mast (a := 87) dX12_laysCosts_150 (by decide) (by decide) (by decide) (by decide) rfl rfl (by show _ < 5460; omega) (by decide) ?_
      rw [zsA_a]
      refine at_iincN dX12_laysCosts_151 rfl (by decide) ?_
      refine at_goto (tgt := 34) dX12_laysCosts_154 (by decide) ?_
      exact at_lv [0, 1, 2, 3, 4, 5] hn
    unfold zcst at hn
    refine at_iload dX12_laysCosts_34 rfl ?_
    refine at_sipush dX12_laysCosts_36 (v := nI 780) (by decide) ?_
    refine at_geN (tgt := 157) dX12_laysCosts_39 (by decide) (by omega) (by omega) (fun c39 => ?_) (fun c39 => ?_)
    · omega
    · refine at_aload_n dX12_laysCosts_42 rfl ?_
      refine at_get dX12_laysCosts_43 fl_X12_89 rfl rfl ?_
      refine at_iload dX12_laysCosts_46 rfl ?_
      refine at_mald (a := 86) dX12_laysCosts_48 (by decide) (by decide) (by decide) (by decide) rfl rfl (by show _ < 780; omega) (by decide) ?_
      rw [g86]
      refine at_callS1 (d := D - 1) dX12_laysCosts_49 ms_X12_22 (Nat.le_of_ble_eq_true rfl) (zq_r0 (by omega) (by omega) (by omega)) ?_
      refine zm_lengthOf (by omega) ?_
      refine at_iload_n dX12_laysCosts_52 rfl ?_
      refine at_callS1 (d := D - 1) dX12_laysCosts_53 ms_X12_22 (Nat.le_of_ble_eq_true rfl) (zq_r0 (by omega) (by omega) (by omega)) ?_
      refine zm_lengthOf (by omega) ?_
      refine at_neN (tgt := 79) dX12_laysCosts_56 (by decide) (by omega) (by omega) (fun c56 => ?_) (fun c56 => ?_)
      · have hn := hn 1000000 (if_neg (fun h => c56 h.1)).symm
        refine at_ldc dX12_laysCosts_79 (v := nI 1000000) kc_X12_196 ?_
        refine at_istore dX12_laysCosts_81 (by decide) ?_
        refine at_iconst dX12_laysCosts_83 (v := nI 0) (by decide) ?_
        refine at_istore dX12_laysCosts_84 (by decide) ?_
        refine at_iload dX12_laysCosts_86 rfl ?_
        refine at_iload_n dX12_laysCosts_88 rfl ?_
        refine at_callS1 (d := D - 1) dX12_laysCosts_89 ms_X12_22 (Nat.le_of_ble_eq_true rfl) (zq_r0 (by omega) (by omega) (by omega)) ?_
        refine zm_lengthOf (by omega) ?_
        refine at_geN (tgt := 136) dX12_laysCosts_92 (by decide) (by omega) (by omega) (fun c92 => ?_) (fun c92 => ?_)
        · omega
        · refine at_iload dX12_laysCosts_95 rfl ?_
          refine at_ldc dX12_laysCosts_97 (v := nI 1000000) kc_X12_196 ?_
          refine at_geN (tgt := 136) dX12_laysCosts_99 (by decide) (by omega) (by omega) (fun c99 => ?_) (fun c99 => ?_)
          · exact at_lv [0, 1, 2, 3, 4, 5, 6] hn
          · omega
      · refine at_iload dX12_laysCosts_59 rfl ?_
        refine at_if_eqB (tgt := 75) dX12_laysCosts_61 (by decide) (fun c61 => ?_) (fun c61 => ?_)
        · have hn := hn _ (if_pos ⟨c56, Or.inl c61⟩).symm
          refine at_iconst dX12_laysCosts_75 (v := nI 0) (by decide) ?_
          refine at_goto (tgt := 81) dX12_laysCosts_76 (by decide) ?_
          refine at_istore dX12_laysCosts_81 (by decide) ?_
          refine at_iconst dX12_laysCosts_83 (v := nI 0) (by decide) ?_
          refine at_istore dX12_laysCosts_84 (by decide) ?_
          exact zm_lc_in hD (by omega) hx hy c56 g86 hlc' hb hn (zlen xp) 0 (Nat.zero_add _)
        · refine at_aload_n dX12_laysCosts_64 rfl ?_
          refine at_get dX12_laysCosts_65 fl_X12_89 rfl rfl ?_
          refine at_iload dX12_laysCosts_68 rfl ?_
          refine at_mald (a := 86) dX12_laysCosts_70 (by decide) (by decide) (by decide) (by decide) rfl rfl (by show _ < 780; omega) (by decide) ?_
          rw [g86]
          refine at_iload_n dX12_laysCosts_71 rfl ?_
          refine at_neN (tgt := 79) dX12_laysCosts_72 (by decide) (by omega) (by omega) (fun c72 => ?_) (fun c72 => ?_)
          · have hn := hn 1000000 (if_neg (fun h => by
              rcases h.2 with h | h
              · rw [c61] at h; cases h
              · exact c72 h)).symm
            refine at_ldc dX12_laysCosts_79 (v := nI 1000000) kc_X12_196 ?_
            refine at_istore dX12_laysCosts_81 (by decide) ?_
            refine at_iconst dX12_laysCosts_83 (v := nI 0) (by decide) ?_
            refine at_istore dX12_laysCosts_84 (by decide) ?_
            refine at_iload dX12_laysCosts_86 rfl ?_
            refine at_iload_n dX12_laysCosts_88 rfl ?_
            refine at_callS1 (d := D - 1) dX12_laysCosts_89 ms_X12_22 (Nat.le_of_ble_eq_true rfl) (zq_r0 (by omega) (by omega) (by omega)) ?_
            refine zm_lengthOf (by omega) ?_
            refine at_geN (tgt := 136) dX12_laysCosts_92 (by decide) (by omega) (by omega) (fun c92 => ?_) (fun c92 => ?_)
            · omega
            · refine at_iload dX12_laysCosts_95 rfl ?_
              refine at_ldc dX12_laysCosts_97 (v := nI 1000000) kc_X12_196 ?_
              refine at_geN (tgt := 136) dX12_laysCosts_99 (by decide) (by omega) (by omega) (fun c99 => ?_) (fun c99 => ?_)
              · exact at_lv [0, 1, 2, 3, 4, 5, 6] hn
              · omega
          · have hn := hn _ (if_pos ⟨c56, Or.inr c72⟩).symm
            refine at_iconst dX12_laysCosts_75 (v := nI 0) (by decide) ?_
            refine at_goto (tgt := 81) dX12_laysCosts_76 (by decide) ?_
            refine at_istore dX12_laysCosts_81 (by decide) ?_
            refine at_iconst dX12_laysCosts_83 (v := nI 0) (by decide) ?_
            refine at_istore dX12_laysCosts_84 (by decide) ?_
            exact zm_lc_in hD (by omega) hx hy c56 g86 hlc' hb hn (zlen xp) 0 (Nat.zero_add _)
theorem zm_laysCosts {D j : Nat} {nm : Nat → Nat} {post : Option Value → Nat → (Nat → zq_E) → Prop} (hD : 75 ≤ D) (hC : zC σ m x w rk) (hj : j < m) (h72 : zSm (σ.2.1 72 72)) (h19 : zSm (σ.2.1 72 19)) (hF : zForce (σ.2.1 72) Lo) (hnm : ∀ r, r < 780 → zvn (nm r)) (h86 : ∀ r, r < 780 → σ.2.1 86 r = nI (nm r))
    (hp : ∀ τ, zTc τ σ → (∀ r, r < 780 → τ.2.1 87 (780 * j + r) = nI (zcst (zbar (σ.2.1 72) m (w j) (x (w j)) Lo) (x (w j)) (nm r) (zlcv (σ.2.1 72) m (w j) (x (w j)) Lo))) → (∀ a, (a < 780 * j ∨ 780 * (j + 1) ≤ a) → τ.2.1 87 a = σ.2.1 87 a) → post none n (zm_h τ ρ)) : zq_Runs l G D 0 0 yX12_laysCosts [.ref 70, .int (nI j)] n (zm_h σ ρ) post := by
  have hm7 := hC.2.1
  obtain ⟨a1, a2⟩ := hC.2.2.2.1 j hj
  obtain ⟨b1, b2⟩ := hC.2.2.1 (w j) a2
  have hx5 := b2.2.1
  refine zq_enter (cc := cX12_laysCosts) (nL := 8) (ret := none) cw_X12_laysCosts (by decide) rfl (Nat.le_of_ble_eq_true rfl) ?_
  refine at_aload_n dX12_laysCosts_0 rfl ?_
  refine at_get dX12_laysCosts_1 fl_X12_42 rfl rfl ?_
  refine at_bipush dX12_laysCosts_4 (v := nI 7) (by decide) ?_
  refine at_iload_n dX12_laysCosts_6 rfl ?_
  refine at_iaddN dX12_laysCosts_7 ?_
  refine at_mald (a := 72) dX12_laysCosts_8 (by decide) (by decide) (by decide) (by decide) rfl rfl (by show _ < 5684; omega) (by decide) ?_
  rw [a1]
  refine at_istore_n dX12_laysCosts_9 rfl (by decide) ?_
  refine at_aload_n dX12_laysCosts_10 rfl ?_
  refine at_get dX12_laysCosts_11 fl_X12_42 rfl rfl ?_
  refine at_iconst dX12_laysCosts_14 (v := nI 0) (by decide) ?_
  refine at_iload_n dX12_laysCosts_15 rfl ?_
  refine at_iaddN dX12_laysCosts_16 ?_
  refine at_mald (a := 72) dX12_laysCosts_17 (by decide) (by decide) (by decide) (by decide) rfl rfl (by show _ < 5684; omega) (by decide) ?_
  rw [Nat.zero_add (w j), b1]
  refine at_istore_n dX12_laysCosts_18 rfl (by decide) ?_
  refine at_aload_n dX12_laysCosts_19 rfl ?_
  refine at_iload_n dX12_laysCosts_20 rfl ?_
  refine at_callV1 (d := D - 1) dX12_laysCosts_21 mv_X12_161 rfl (Nat.le_of_ble_eq_true rfl) (zq_r0 (by omega) (by omega) (by omega)) ?_
  refine zm_isBarred (by omega) hC a2 h72 h19 hF (fun τ t1 => ?_)
  have e72 := t1.2.1 72 (by decide)
  have hCt := zC_congr hC e72 (t1.2.1 76 (by decide))
  refine at_istore dX12_laysCosts_24 (by decide) ?_
  refine at_aload_n dX12_laysCosts_26 rfl ?_
  refine at_iload_n dX12_laysCosts_27 rfl ?_
  refine at_callV1 (d := D - 1) dX12_laysCosts_28 mv_X12_410 rfl (Nat.le_of_ble_eq_true rfl) (zq_r0 (by omega) (by omega) (by omega)) ?_
  refine zm_laysLetterCosts (by omega) hCt a2 (by rw [e72]; exact h72) (by rw [e72]; exact h19) (by rw [e72]; exact hF) (fun υ u1 u2 => ?_)
  rw [e72] at u2
  refine at_iconst dX12_laysCosts_31 (v := nI 0) (by decide) ?_
  refine at_istore dX12_laysCosts_32 (by decide) ?_
  have hgo := zm_lc_out (l := l) (G := G) (n := n) (ρ := ρ) (D := D) (j := j) (σ := υ) (p := w j) (xp := x (w j)) (held := zbar (σ.2.1 72) m (w j) (x (w j)) Lo) (nm := nm) (post := post) (by omega) (by omega) (by omega) hnm (fun r hr => by rw [u1.2.1 86 (by decide) (by decide), t1.2.1 86 (by decide)]; exact h86 r hr) u2 (zlcv_le _ _ _ _ _) (fun g q1 q2 => hp _ ⟨fun k hk => (u1.1 k hk).trans (t1.1 k hk), fun a z1 z2 z3 => by rw [zsA_o _ z3, u1.2.1 a z1 z2, t1.2.1 a z1], u1.2.2.trans t1.2.2⟩ (fun r hr => by rw [zsA_s]; exact q1 r hr) (fun a ha => by rw [zsA_s, q2 a ha, u1.2.1 87 (by decide) (by decide), t1.2.1 87 (by decide)])) 780 0 rfl (υ.2.1 87) (fun r hr => absurd hr (Nat.not_lt_zero _)) (fun _ _ => rfl)
  rw [zsA_0] at hgo
  exact hgo
end ZL30

