/-! ===== the class: all prices, the least costs ===== -/
def zPRv (K : Nat → Int32) (m : Nat) (x w : Nat → Nat) (Lo : Option (List zLC)) (j k d : Nat) : Nat := zpr (zbar K m (w j) (x (w j)) Lo) (x (w j)) (zlcv K m (w j) (x (w j)) Lo) k d
theorem zPRv_sum {K : Nat → Int32} {m : Nat} {x w : Nat → Nat} {Lo : Option (List zLC)} {al : Nat → Nat} {j r : Nat} (hx : zvn (x (w j))) (hal : ∀ k, k < 5 → 1 ≤ al k ∧ al k ≤ 5) (hr : r < 780) : min 1000000 (zS4 fun k => zPRv K m x w Lo j k (zdg4 (znm al r) k)) = zmc K m x w Lo al j r := by
  unfold zmc
  exact zpr_sum hx (znm_vn hal hr) (fun k => if_pos rfl) (zlcv_le _ _ _ _ _)
theorem zPRv_le (K : Nat → Int32) (m : Nat) (x w : Nat → Nat) (Lo : Option (List zLC)) (j k d : Nat) : zPRv K m x w Lo j k d ≤ 1000000 := by
  unfold zPRv zpr
  split
  · omega
  · split
    · have := zlcv_le K m (w j) (x (w j)) Lo k d
      omega
    · omega
section ZC16
variable {l : Launch} {G : zq_G} {D n b m : Nat} {κ : zl_S} {ρ : Nat → zq_E} {post : Option Value → Nat → (Nat → zq_E) → Prop} {x w al : Nat → Nat} {K : Nat → Int32} {Lo : Option (List zLC)} {v : Value}
theorem zc_sp_in {j k : Nat} (hD : 5 ≤ D) (hb : zQb b) (hQ : zQN κ b m x w) (hT : zQT κ b m K) (hjm : j < m) (hk : k < 4) (hV : zLv ρ v Lo)
    (hn : ∀ κ', zMd κ' κ → zPr κ' (24 * j + 6 * (k + 1)) (zPRv K m x w Lo) → zq_At l G (zq_rm D 0 0) mX5_setPrices (zq_QF G post 0 0) 32 [(0, .ref 61), (1, .ref b), (2, v), (3, .ref 52), (4, .int (nI j)), (5, .int (nI (w j))), (6, .int (zb (zbar K m (w j) (x (w j)) Lo))), (7, .int (nI (k + 1)))] [] n (zl_h κ' ρ) 0 0) :
    ∀ f d κ', d + f = 6 → zMd κ' κ → zPr κ' (24 * j + 6 * k + d) (zPRv K m x w Lo) → zq_At l G (zq_rm D 0 0) mX5_setPrices (zq_QF G post 0 0) 67 [(0, .ref 61), (1, .ref b), (2, v), (3, .ref 52), (4, .int (nI j)), (5, .int (nI (w j))), (6, .int (zb (zbar K m (w j) (x (w j)) Lo))), (7, .int (nI k)), (8, .int (nI (zdg4 (x (w j)) k))), (9, .int (nI (24 * j + 6 * k))), (10, .int (nI d))] [] n (zl_h κ' ρ) 0 0 := by
  have hm7 := hQ.2.1
  obtain ⟨hw1, hwm⟩ := hQ.2.2.2 j hjm
  have hv := (hQ.2.2.1 _ hwm).2
  have hd9 := zdg4_lt (x (w j)) k
  have hsh : v = .null ∨ ∃ t, v = .ref t := by rcases hV with ⟨h, -⟩ | ⟨t, -, h, -⟩; exact Or.inl h; exact Or.inr ⟨t, h⟩
  intro f
  induction f with
  | zero =>
    intro d κ' hd hM hP
    obtain rfl : d = 6 := hd
    have hn := hn κ' hM (by rw [show 24 * j + 6 * (k + 1) = 24 * j + 6 * k + 6 by omega]; exact hP)
    refine at_iload dX5_setPrices_67 rfl ?_
    refine at_iconst dX5_setPrices_69 (v := nI 5) (by decide) ?_
    refine at_gtN (tgt := 137) dX5_setPrices_70 (by decide) (by omega) (by omega) (fun c70 => ?_) (fun c70 => ?_)
    · refine at_iincN dX5_setPrices_137 rfl (by decide) ?_
      refine at_goto (tgt := 32) dX5_setPrices_140 (by decide) ?_
      exact at_lv [0, 1, 2, 3, 4, 5, 6, 7] hn
    · omega
  | succ f ih =>
    intro d κ' hd hM hP
    have fin : ∀ κ2 V, zMd κ2 κ → zPr κ2 (24 * j + 6 * k + d) (zPRv K m x w Lo) → V = zPRv K m x w Lo j k d → zq_At l G (zq_rm D 0 0) mX5_setPrices (zq_QF G post 0 0) 119 [(0, .ref 61), (1, .ref b), (2, v), (3, .ref 52), (4, .int (nI j)), (5, .int (nI (w j))), (6, .int (zb (zbar K m (w j) (x (w j)) Lo))), (7, .int (nI k)), (8, .int (nI (zdg4 (x (w j)) k))), (9, .int (nI (24 * j + 6 * k))), (10, .int (nI d)), (11, .int (nI V))] [] n (zl_h κ2 ρ) 0 0 := by
      intro κ2 V h1 h2 h3
      have hn := ih (d + 1) (zl_sa κ2 63 (24 * j + 6 * k + d) (nI V)) (by omega) (zMd_A h1 (by decide)) (zPr_s hk (by omega) h2 h3)
      refine at_aload_n dX5_setPrices_119 rfl ?_
      refine at_get dX5_setPrices_120 fl_X5_15 (zl_o rfl) rfl ?_
      refine at_iload dX5_setPrices_123 rfl ?_
      refine at_iload dX5_setPrices_125 rfl ?_
      refine at_iaddN dX5_setPrices_127 ?_
      refine at_iload dX5_setPrices_128 rfl ?_
      refine at_last2 (a := 63) dX5_setPrices_130 rfl rfl (by show _ < 168; omega) (by decide) ?_
      refine at_iincN dX5_setPrices_131 rfl (by decide) ?_
      refine at_goto (tgt := 67) dX5_setPrices_134 (by decide) ?_
      exact at_lv [0, 1, 2, 3, 4, 5, 6, 7, 8, 9, 10] hn
    have hpv : zPRv K m x w Lo j k d = if d = zdg4 (x (w j)) k then 0 else if d ≠ 0 ∧ zdg4 (x (w j)) k ≠ 0 ∧ zbar K m (w j) (x (w j)) Lo = false then zlcv K m (w j) (x (w j)) Lo k d else 1000000 := rfl
    generalize hzp : zPRv K m x w Lo j k d = zp at *
    have hz5 : zdg4 (x (w j)) k ≠ 0 → k < zlen (x (w j)) ∧ zdg4 (x (w j)) k = zlt (x (w j)) k := by
      intro h
      by_cases c : k < zlen (x (w j))
      · exact ⟨c, zdg4_in c⟩
      · exact absurd (zdg4_out (by omega)) h
    rcases hsh with rfl | ⟨t, rfl⟩
    all_goals
      refine at_iload dX5_setPrices_67 rfl ?_
      refine at_iconst dX5_setPrices_69 (v := nI 5) (by decide) ?_
      refine at_gtN (tgt := 137) dX5_setPrices_70 (by decide) (by omega) (by omega) (fun c70 => ?_) (fun c70 => ?_)
      · omega
      · refine at_ldc dX5_setPrices_73 (v := nI 1000000) kc_X5_28 ?_
        refine at_istore dX5_setPrices_75 (by decide) ?_
        refine at_iload dX5_setPrices_77 rfl ?_
        refine at_iload dX5_setPrices_79 rfl ?_
        refine at_neN (tgt := 90) dX5_setPrices_81 (by decide) (by omega) (by omega) (fun c81 => ?_) (fun c81 => ?_)
        · refine at_iload dX5_setPrices_90 rfl ?_
          refine at_if_eqN (tgt := 119) dX5_setPrices_92 (by decide) (by omega) (fun c92 => ?_) (fun c92 => ?_)
          · exact fin κ' 1000000 hM hP (by rw [hpv, if_neg c81, if_neg (fun h => h.1 c92)])
          · refine at_iload dX5_setPrices_95 rfl ?_
            refine at_if_eqN (tgt := 119) dX5_setPrices_97 (by decide) (by omega) (fun c97 => ?_) (fun c97 => ?_)
            · exact fin κ' 1000000 hM hP (by rw [hpv, if_neg c81, if_neg (fun h => h.2.1 c97)])
            · refine at_iload dX5_setPrices_100 rfl ?_
              refine at_if_neB (tgt := 119) dX5_setPrices_102 (by decide) (fun c102 => ?_) (fun c102 => ?_)
              · exact fin κ' 1000000 hM hP (by rw [hpv, if_neg c81, if_neg (fun h => by rw [c102] at h; exact absurd h.2.2 (by decide))])
              · refine at_aload_n dX5_setPrices_105 rfl ?_
                refine at_aload_n dX5_setPrices_106 rfl ?_
                first | refine at_aload_n dX5_setPrices_107 rfl ?_ | refine at_aload_nN dX5_setPrices_107 rfl ?_
                refine at_iload dX5_setPrices_108 rfl ?_
                refine at_iload dX5_setPrices_110 rfl ?_
                refine at_iload dX5_setPrices_112 rfl ?_
                refine at_callV5 (d := D - 1) dX5_setPrices_114 mv_X5_56 (zl_o rfl) (Nat.le_of_ble_eq_true rfl) (zq_r0 (by omega) (by omega) (by omega)) ?_
                refine zc_strokeCost (K := K) (by omega) hb (zMd_N hM hb hQ) (zMd_T hM hb hT) hwm (hz5 c97).1 (zSm_n (by omega)) hV (fun a g => ?_)
                have hlv : ztell (zlwV K m (w j) (x (w j)) (nI k) (nI d)) 1 1 Lo = (zlcv K m (w j) (x (w j)) Lo k d : Nat) := (by
                  have := ztell_b (W := zlwV K m (w j) (x (w j)) (nI k) (nI d)) (h := 1) (t := 1) Lo (by decide)
                  unfold zlcv
                  rw [if_neg (by rw [← (hz5 c97).2]; exact fun h => c81 h.symm), Int.toNat_of_nonneg this.1])
                rw [hlv, zI_n]
                refine at_istore dX5_setPrices_117 (by decide) ?_
                exact fin _ _ (zMd_A (zMd_A hM (by decide)) (by decide)) (fun j' k' d' h1 h2 h3 => by rw [zlA_o _ (by decide), zlA_o _ (by decide)]; exact hP j' k' d' h1 h2 h3) (by rw [hpv, if_neg c81, if_pos ⟨c92, c97, c102⟩])
        · refine at_iconst dX5_setPrices_84 (v := nI 0) (by decide) ?_
          refine at_istore dX5_setPrices_85 (by decide) ?_
          refine at_goto (tgt := 119) dX5_setPrices_87 (by decide) ?_
          exact fin κ' 0 hM hP (by rw [hpv, if_pos c81])
end ZC16

