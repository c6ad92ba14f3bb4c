/-! ===== the class: all prices, the least costs ===== -/
def zPRv (K : Nat → Int32) (m : Nat) (x w : Nat → Nat) (Lo : Option (List zLC)) (j k d : Nat) : Nat := zpr (zbar K m (w j) (x (w j)) Lo) (x (w j)) (zlcv K m (w j) (x (w j)) Lo) k d
theorem zPRv_sum {K : Nat → Int32} {m : Nat} {x w : Nat → Nat} {Lo : Option (List zLC)} {al : Nat → Nat} {j r : Nat} (hx : zvn (x (w j))) (hal : ∀ k, k < 5 → 1 ≤ al k ∧ al k ≤ 5) (hr : r < 780) : min 1000000 (zS4 fun k => zPRv K m x w Lo j k (zdg4 (znm al r) k)) = zmc K m x w Lo al j r := by
  unfold zmc
  exact zpr_sum hx (znm_vn hal hr) (fun k => if_pos rfl) (zlcv_le _ _ _ _ _)
theorem zPRv_le (K : Nat → Int32) (m : Nat) (x w : Nat → Nat) (Lo : Option (List zLC)) (j k d : Nat) : zPRv K m x w Lo j k d ≤ 1000000 := by
  unfold zPRv zpr
  split
  · omega
  · split
    · have := zlcv_le K m (w j) (x (w j)) Lo k d
      omega
    · omega
section ZC16
variable {l : Launch} {G : zq_G} {D n b m : Nat} {κ : zl_S} {ρ : Nat → zq_E} {post : Option Value → Nat → (Nat → zq_E) → Prop} {x w al : Nat → Nat} {K : Nat → Int32} {Lo : Option (List zLC)} {v : Value}
theorem zc_sp_in {j k : Nat} (hD : 5 ≤ D) (hb : zQb b) (hQ : zQN κ b m x w) (hT : zQT κ b m K) (hjm : j < m) (hk : k < 4) (hV : zLv ρ v Lo)
    (hn : ∀ κ', zMd κ' κ → zPr κ' (24 * j + 6 * (k + 1)) (zPRv K m x w Lo) → zq_At l G (zq_rm D 0 0) mX5_setPrices (zq_QF G post 0 0) 32 [(0, .ref 61), (1, .ref b), (2, v), (3, .ref 52), (4, .int (nI j)), (5, .int (nI (w j))), (6, .int (zb (zbar K m (w j) (x (w j)) Lo))), (7, .int (nI (k + 1)))] [] n (zl_h κ' ρ) 0 0) :
    ∀ f d κ', d + f = 6 → zMd κ' κ → zPr κ' (24 * j + 6 * k + d) (zPRv K m x w Lo) → zq_At l G (zq_rm D 0 0) mX5_setPrices (zq_QF G post 0 0) 67 [(0, .ref 61), (1, .ref b), (2, v), (3, .ref 52), (4, .int (nI j)), (5, .int (nI (w j))), (6, .int (zb (zbar K m (w j) (x (w j)) Lo))), (7, .int (nI k)), (8, .int (nI (zdg4 (x (w j)) k))), (9, .int (nI (24 * j + 6 * k))), (10, .int (nI d))] [] n (zl_h κ' ρ) 0 0 := by
  have hm7 := hQ.2.1
  obtain ⟨hw1, hwm⟩ := hQ.2.2.2 j hjm
  have hv := (hQ.2.2.1 _ hwm).2
  have hd9 := zdg4_lt (x (w j)) k
  have hsh : v = .null ∨ ∃ t, v = .ref t := by rcases hV with ⟨h, -⟩ | ⟨t, -, h, -⟩; exact Or.inl h; exact Or.inr ⟨t, h⟩
  intro f
  induction f with
  | zero =>
    intro d κ' hd hM hP
    obtain rfl : d = 6 := hd
    have hn := hn κ' hM (by rw [show 24 * j + 6 * (k + 1) = 24 * j + 6 * k + 6 by omega]; exact hP)
    refine at_iload dX5_setPrices_67 rfl ?_
    refine at_iconst dX5_setPrices_69 (v := nI 5) (by decide) ?_
    refine at_gtN (tgt := 137) dX5_setPrices_70 (by decide) (by omega) (by omega) (fun c70 => ?_) (fun c70 => ?_)
    · refine at_iincN dX5_setPrices_137 rfl (by decide) ?_
      refine at_goto (tgt := 32) dX5_setPrices_140 (by decide) ?_
      exact at_lv [0, 1, 2, 3, 4, 5, 6, 7] hn
    · omega
  | succ f ih =>
    intro d κ' hd hM hP
    have fin : ∀ κ2 V, zMd κ2 κ → zPr κ2 (24 * j + 6 * k + d) (zPRv K m x w Lo) → V = zPRv K m x w Lo j k d → zq_At l G (zq_rm D 0 0) mX5_setPrices (zq_QF G post 0 0) 119 [(0, .ref 61), (1, .ref b), (2, v), (3, .ref 52), (4, .int (nI j)), (5, .int (nI (w j))), (6, .int (zb (zbar K m (w j) (x (w j)) Lo))), (7, .int (nI k)), (8, .int (nI (zdg4 (x (w j)) k))), (9, .int (nI (24 * j + 6 * k))), (10, .int (nI d)), (11, .int (nI V))] [] n (zl_h κ2 ρ) 0 0 := by
      intro κ2 V h1 h2 h3
      have hn := ih (d + 1) (zl_sa κ2 63 (24 * j + 6 * k + d) (nI V)) (by omega) (zMd_A h1 (by decide)) (zPr_s hk (by omega) h2 h3)
      refine at_aload_n dX5_setPrices_119 rfl ?_
      refine at_get dX5_setPrices_120 fl_X5_15 (zl_o rfl) rfl ?_
      refine at_iload dX5_setPrices_123 rfl ?_
      refine at_iload dX5_setPrices_125 rfl ?_
      refine at_iaddN dX5_setPrices_127 ?_
      refine at_iload dX5_setPrices_128 rfl ?_
      refine at_last2 (a := 63) dX5_setPrices_130 rfl rfl (by show _ < 168; omega) (by decide) ?_
      refine at_iincN dX5_setPrices_131 rfl (by decide) ?_
      refine at_goto (tgt := 67) dX5_setPrices_134 (by decide) ?_
      exact at_lv [0, 1, 2, 3, 4, 5, 6, 7, 8, 9, 10] hn
    have hpv : zPRv K m x w Lo j k d = if d = zdg4 (x (w j)) k then 0 else if d ≠ 0 ∧ zdg4 (x (w j)) k ≠ 0 ∧ zbar K m (w j) (x (w j)) Lo = false then zlcv K m (w j) (x (w j)) Lo k d else 1000000 := rfl
    generalize hzp : zPRv K m x w Lo j k d = zp at *
    have hz5 : zdg4 (x (w j)) k ≠ 0 → k < zlen (x (w j)) ∧ zdg4 (x (w j)) k = zlt (x (w j)) k := by
      intro h
      by_cases c : k < zlen (x (w j))
      · exact ⟨c, zdg4_in c⟩
      · exact absurd (zdg4_out (by omega)) h
    rcases hsh with rfl | ⟨t, rfl⟩
    all_goals
      refine at_iload dX5_setPrices_67 rfl ?_
      refine at_iconst dX5_setPrices_69 (v := nI 5) (by decide) ?_
      refine at_gtN (tgt := 137) dX5_setPrices_70 (by decide) (by omega) (by omega) (fun c70 => ?_) (fun c70 => ?_)
      · omega
      · refine at_ldc dX5_setPrices_73 (v := nI 1000000) kc_X5_28 ?_
        refine at_istore dX5_setPrices_75 (by decide) ?_
        refine at_iload dX5_setPrices_77 rfl ?_
        refine at_iload dX5_setPrices_79 rfl ?_
        refine at_neN (tgt := 90) dX5_setPrices_81 (by decide) (by omega) (by omega) (fun c81 => ?_) (fun c81 => ?_)
        · refine at_iload dX5_setPrices_90 rfl ?_
          refine at_if_eqN (tgt := 119) dX5_setPrices_92 (by decide) (by omega) (fun c92 => ?_) (fun c92 => ?_)
          · exact fin κ' 1000000 hM hP (by rw [hpv, if_neg c81, if_neg (fun h => h.1 c92)])
          · refine at_iload dX5_setPrices_95 rfl ?_
            refine at_if_eqN (tgt := 119) dX5_setPrices_97 (by decide) (by omega) (fun c97 => ?_) (fun c97 => ?_)
            · exact fin κ' 1000000 hM hP (by rw [hpv, if_neg c81, if_neg (fun h => h.2.1 c97)])
            · refine at_iload dX5_setPrices_100 rfl ?_
              refine at_if_neB (tgt := 119) dX5_setPrices_102 (by decide) (fun c102 => ?_) (fun c102 => ?_)
              · exact fin κ' 1000000 hM hP (by rw [hpv, if_neg c81, if_neg (fun h => by rw [c102] at h; exact absurd h.2.2 (by decide))])
              · refine at_aload_n dX5_setPrices_105 rfl ?_
                refine at_aload_n dX5_setPrices_106 rfl ?_
                first | refine at_aload_n dX5_setPrices_107 rfl ?_ | refine at_aload_nN dX5_setPrices_107 rfl ?_
                refine at_iload dX5_setPrices_108 rfl ?_
                refine at_iload dX5_setPrices_110 rfl ?_
                refine at_iload dX5_setPrices_112 rfl ?_
                refine at_callV5 (d := D - 1) dX5_setPrices_114 mv_X5_56 (zl_o rfl) (Nat.le_of_ble_eq_true rfl) (zq_r0 (by omega) (by omega) (by omega)) ?_
                refine zc_strokeCost (K := K) (by omega) hb (zMd_N hM hb hQ) (zMd_T hM hb hT) hwm (hz5 c97).1 (zSm_n (by omega)) hV (fun a g => ?_)
                have hlv : ztell (zlwV K m (w j) (x (w j)) (nI k) (nI d)) 1 1 Lo = (zlcv K m (w j) (x (w j)) Lo k d : Nat) := (by
                  have := ztell_b (W := zlwV K m (w j) (x (w j)) (nI k) (nI d)) (h := 1) (t := 1) Lo (by decide)
                  unfold zlcv
                  rw [if_neg (by rw [← (hz5 c97).2]; exact fun h => c81 h.symm), Int.toNat_of_nonneg this.1])
                rw [hlv, zI_n]
                refine at_istore dX5_setPrices_117 (by decide) ?_
                exact fin _ _ (zMd_A (zMd_A hM (by decide)) (by decide)) (fun j' k' d' h1 h2 h3 => by rw [zlA_o _ (by decide), zlA_o _ (by decide)]; exact hP j' k' d' h1 h2 h3) (by rw [hpv, if_neg c81, if_pos ⟨c92, c97, c102⟩])
        · refine at_iconst dX5_setPrices_84 (v := nI 0) (by decide) ?_
          refine at_istore dX5_setPrices_85 (by decide) ?_
          refine at_goto (tgt := 119) dX5_setPrices_87 (by decide) ?_
          exact fin κ' 0 hM hP (by rw [hpv, if_pos c81])
theorem zc_sp_out {j : Nat} (hD : 5 ≤ D) (hb : zQb b) (hQ : zQN κ b m x w) (hT : zQT κ b m K) (hjm : j < m) (hV : zLv ρ v Lo)
    (hp : ∀ κ', zMd κ' κ → zPr κ' (24 * (j + 1)) (zPRv K m x w Lo) → post none n (zl_h κ' ρ)) :
    ∀ f k κ', k + f = 4 → zMd κ' κ → zPr κ' (24 * j + 6 * k) (zPRv K m x w Lo) → zq_At l G (zq_rm D 0 0) mX5_setPrices (zq_QF G post 0 0) 32 [(0, .ref 61), (1, .ref b), (2, v), (3, .ref 52), (4, .int (nI j)), (5, .int (nI (w j))), (6, .int (zb (zbar K m (w j) (x (w j)) Lo))), (7, .int (nI k))] [] n (zl_h κ' ρ) 0 0 := by
  have hm7 := hQ.2.1
  obtain ⟨hw1, hwm⟩ := hQ.2.2.2 j hjm
  have hv := (hQ.2.2.1 _ hwm).2
  intro f
  induction f with
  | zero =>
    intro k κ' hk hM hP
    obtain rfl : k = 4 := hk
    have hp := hp κ' hM hP
    refine at_iload dX5_setPrices_32 rfl ?_
    refine at_iconst dX5_setPrices_34 (v := nI 4) (by decide) ?_
    refine at_geN (tgt := 143) dX5_setPrices_35 (by decide) (by omega) (by omega) (fun c35 => ?_) (fun c35 => ?_)
    · refine at_vret dX5_setPrices_143 rfl (by omega) (by omega) ?_
      exact hp
    · omega
  | succ f ih =>
    intro k κ' hk hM hP
    have hn := zc_sp_in (l := l) (G := G) (n := n) (post := post) (κ := κ) (D := D) (k := k) hD hb hQ hT hjm (by omega) hV (fun κ2 h1 h2 => ih (k + 1) κ2 (by omega) h1 h2) 6 0 κ' rfl hM hP
    have hle : nI (if zix 4 (nI k) = true then zdg4 (x (w j)) (nI k).toNatClampNeg else 0) = nI (zdg4 (x (w j)) k) := by
      rw [zix_n (by omega), if_pos (decide_eq_true (by omega)), nI_clamp (by omega)]
    refine at_iload dX5_setPrices_32 rfl ?_
    refine at_iconst dX5_setPrices_34 (v := nI 4) (by decide) ?_
    refine at_geN (tgt := 143) dX5_setPrices_35 (by decide) (by omega) (by omega) (fun c35 => ?_) (fun c35 => ?_)
    · omega
    · refine at_aload_n dX5_setPrices_38 rfl ?_
      refine at_iload dX5_setPrices_39 rfl ?_
      refine at_callV1 (d := D - 1) dX5_setPrices_41 mv_X5_46 (zl_q hb) (Nat.le_of_ble_eq_true rfl) (zq_r0 (by omega) (by omega) (by omega)) ?_
      refine zc_nameOf (by omega) hb (zMd_N hM hb hQ) hwm ?_
      refine at_iload dX5_setPrices_44 rfl ?_
      refine at_callS2 (d := D - 1) dX5_setPrices_46 ms_X5_50 (Nat.le_of_ble_eq_true rfl) (zq_r0 (by omega) (by omega) (by omega)) ?_
      refine zc_letterOf (by omega) (by have := hv.1; omega) (by have := hv.2.1; omega) ?_
      rw [hle]
      refine at_istore dX5_setPrices_49 (by decide) ?_
      refine at_iload dX5_setPrices_51 rfl ?_
      refine at_bipush dX5_setPrices_53 (v := nI 24) (by decide) ?_
      refine at_imulN dX5_setPrices_55 ?_
      refine at_iload dX5_setPrices_56 rfl ?_
      refine at_bipush dX5_setPrices_58 (v := nI 6) (by decide) ?_
      refine at_imulN dX5_setPrices_60 ?_
      refine at_iaddN dX5_setPrices_61 ?_
      rw [show j * 24 + k * 6 = 24 * j + 6 * k by omega]
      refine at_istore dX5_setPrices_62 (by decide) ?_
      refine at_iconst dX5_setPrices_64 (v := nI 0) (by decide) ?_
      refine at_istore dX5_setPrices_65 (by decide) ?_
      exact hn
theorem zc_setPrices {j : Nat} (hD : 6 ≤ D) (hb : zQb b) (hQ : zQN κ b m x w) (hT : zQT κ b m K) (hjm : j < m) (hV : zLv ρ v Lo) (hP : zPr κ (24 * j) (zPRv K m x w Lo))
    (hp : ∀ κ', zMd κ' κ → zPr κ' (24 * (j + 1)) (zPRv K m x w Lo) → post none n (zl_h κ' ρ)) : zq_Runs l G D 0 0 yX5_setPrices [.ref 61, .ref b, v, .ref 52, .int (nI j)] n (zl_h κ ρ) post := by
  have hm7 := hQ.2.1
  obtain ⟨hw1, hwm⟩ := hQ.2.2.2 j hjm
  have hsh : v = .null ∨ ∃ t, v = .ref t := by rcases hV with ⟨h, -⟩ | ⟨t, -, h, -⟩; exact Or.inl h; exact Or.inr ⟨t, h⟩
  have hix : zix m (nI j) = true := by rw [zix_n (by omega)]; exact decide_eq_true hjm
  have hn : ∀ a g, zq_At l G (zq_rm D 0 0) mX5_setPrices (zq_QF G post 0 0) 32 [(0, .ref 61), (1, .ref b), (2, v), (3, .ref 52), (4, .int (nI j)), (5, .int (nI (w j))), (6, .int (zb (zbar K m (w j) (x (w j)) Lo))), (7, .int (nI 0))] [] n (zl_h (zl_sA (zl_sA κ 55 g) 54 a) ρ) 0 0 := fun a g => zc_sp_out (by omega) hb hQ hT hjm hV hp 4 0 _ rfl (zMd_A (zMd_A (zMd_r κ) (by decide)) (by decide)) (fun j' k' d' h1 h2 h3 => by rw [zlA_o _ (by decide), zlA_o _ (by decide)]; exact hP j' k' d' h1 h2 h3)
  rcases hsh with rfl | ⟨t, rfl⟩
  all_goals
    refine zq_enter (cc := cX5_setPrices) (nL := 12) (ret := none) cw_X5_setPrices (by decide) rfl (Nat.le_of_ble_eq_true rfl) ?_
    refine at_aload_n dX5_setPrices_0 rfl ?_
    refine at_iload dX5_setPrices_1 rfl ?_
    refine at_callV1 (d := D - 1) dX5_setPrices_3 mv_X5_33 (zl_q hb) (Nat.le_of_ble_eq_true rfl) (zq_r0 (by omega) (by omega) (by omega)) ?_
    refine zc_has hb hQ.1 hm7 ?_
    rw [hix]
    refine at_if_neB (tgt := 10) dX5_setPrices_6 (by decide) (fun c6 => ?_) (fun c6 => ?_)
    · refine at_aload_n dX5_setPrices_10 rfl ?_
      refine at_get dX5_setPrices_11 fl_X5_37 (zl_q hb) rfl ?_
      refine at_iload dX5_setPrices_14 rfl ?_
      refine at_uld (b := b) (c := 2) dX5_setPrices_16 hb (by decide) (by decide) rfl (by show _ < 7; omega) ?_
      rw [hw1]
      refine at_istore dX5_setPrices_17 (by decide) ?_
      refine at_aload_n dX5_setPrices_19 rfl ?_
      refine at_aload_n dX5_setPrices_20 rfl ?_
      first | refine at_aload_n dX5_setPrices_21 rfl ?_ | refine at_aload_nN dX5_setPrices_21 rfl ?_
      refine at_iload dX5_setPrices_22 rfl ?_
      refine at_callV3 (d := D - 1) dX5_setPrices_24 mv_X5_40 (zl_o rfl) (Nat.le_of_ble_eq_true rfl) (zq_r0 (by omega) (by omega) (by omega)) ?_
      refine zc_isBarred (K := K) (by omega) hb hQ hT hwm hV (fun a g => ?_)
      refine at_istore dX5_setPrices_27 (by decide) ?_
      refine at_iconst dX5_setPrices_29 (v := nI 0) (by decide) ?_
      refine at_istore dX5_setPrices_30 (by decide) ?_
      exact hn a g
    · exact absurd c6 (by decide)
/-- the least costs of the ranks from r on -/
def zLe (g : Nat → Int32) (m : Nat) (c : Nat → Nat → Nat) (r : Nat) : Prop := ∀ j r', j ≤ m → r ≤ r' → r' ≤ 780 → g (781 * j + r') = nI (zrs c m j r')
theorem zc_sl_loop {r y : Nat} {c : Nat → Nat → Nat} {pr : Nat → Nat → Nat → Nat} (hD : 2 ≤ D) (hb : zQb b) (hm7 : m ≤ 7) (hr : r < 780) (hy : zvn y) (hP : zPr κ (24 * m) pr) (hpl : ∀ j k d, pr j k d ≤ 1000000) (hc : ∀ j, j < m → min 1000000 (zS4 fun k => pr j k (zdg4 y k)) = c j r)
    (hp : ∀ g, zLe g m c r → post none n (zl_h (zl_sA κ 62 g) ρ)) :
    ∀ i g, i ≤ m → zLe g m c (r + 1) → (∀ j, i ≤ j → j ≤ m → g (781 * j + r) = nI (zrs c m j r)) → zq_At l G (zq_rm D 0 0) mX5_setLeast (zq_QF G post 0 0) 47 [(0, .ref 61), (1, .ref b), (2, .int (nI r)), (3, .int (nI (zpad y))), (4, .int (nI i - 1))] [] n (zl_h (zl_sA κ 62 g) ρ) 0 0 := by
  intro i
  induction i with
  | zero =>
    intro g hi hg hd
    have hp := hp g (fun j r' h1 h2 h3 => by
      by_cases e : r' = r
      · subst e; exact hd j (Nat.zero_le _) h1
      · exact hg j r' h1 (by omega) h3)
    refine at_iload dX5_setLeast_47 rfl ?_
    refine at_if_lt (tgt := 110) dX5_setLeast_49 (by decide) (fun c49 => ?_) (fun c49 => ?_)
    · refine at_vret dX5_setLeast_110 rfl (by omega) (by omega) ?_
      exact hp
    · exact absurd c49 (by decide)
  | succ i ih =>
    intro g hi hg hd
    rw [nI_pred]
    have v1 := hd (i + 1) (Nat.le_refl _) (by omega)
    have v2 := hg i (r + 1) (by omega) (Nat.le_refl _) (by omega)
    have b1 := zrs_le c m (i + 1) r
    have b2 := zrs_le c m i (r + 1)
    have hs := zrs_s c (m := m) (j := i) (r := r) (by omega) hr
    unfold zwn at hs
    rw [← hc i (by omega)] at hs
    have bS : (zS4 fun k => pr i k (zdg4 y k)) ≤ 4000000 := by
      show pr i 0 (zdg4 y 0) + pr i 1 (zdg4 y 1) + pr i 2 (zdg4 y 2) + pr i 3 (zdg4 y 3) ≤ 4000000
      have := hpl i 0 (zdg4 y 0)
      have := hpl i 1 (zdg4 y 1)
      have := hpl i 2 (zdg4 y 2)
      have := hpl i 3 (zdg4 y 3)
      omega
    generalize hS : (zS4 fun k => pr i k (zdg4 y k)) = S at *
    have hmin : min (zrs c m i (r + 1)) (S + zrs c m (i + 1) r) = zrs c m i r := by omega
    have hn := ih (upd g (781 * i + r) (nI (zrs c m i r))) (by omega) (fun j r' h1 h2 h3 => by
        rw [upd_o _ (by omega)]; exact hg j r' h1 h2 h3) (fun j h1 h2 => by
        by_cases e : j = i
        · subst e; rw [upd_s]
        · rw [upd_o _ (by omega)]; exact hd j (by omega) h2)
    refine at_iload dX5_setLeast_47 rfl ?_
    refine at_if_ltN (tgt := 110) dX5_setLeast_49 (by decide) (by omega) (fun c49 => ?_) (fun c49 => ?_)
    · exact c49.elim
    · refine at_iload dX5_setLeast_52 rfl ?_
      refine at_sipush dX5_setLeast_54 (v := nI 781) (by decide) ?_
      refine at_imulN dX5_setLeast_57 ?_
      refine at_iload_n dX5_setLeast_58 rfl ?_
      refine at_iaddN dX5_setLeast_59 ?_
      rw [show i * 781 + r = 781 * i + r by omega]
      refine at_istore dX5_setLeast_60 (by decide) ?_
      refine at_aload_n dX5_setLeast_62 rfl ?_
      refine at_iload dX5_setLeast_63 rfl ?_
      refine at_iload_n dX5_setLeast_65 rfl ?_
      refine at_callV2 (d := D - 1) dX5_setLeast_66 mv_X5_72 (zl_o rfl) (Nat.le_of_ble_eq_true rfl) (zq_r0 (by omega) (by omega) (by omega)) ?_
      refine zc_price (m := m) (pr := pr) (by omega) hm7 hy (fun j' k' d' h1 h2 h3 => by rw [zlA_o _ (by decide)]; exact hP j' k' d' h1 h2 h3) ?_
      rw [hS]
      refine at_aload_n dX5_setLeast_69 rfl ?_
      refine at_get dX5_setLeast_70 fl_X5_11 (zl_o rfl) rfl ?_
      refine at_iload dX5_setLeast_73 rfl ?_
      refine at_sipush dX5_setLeast_75 (v := nI 781) (by decide) ?_
      refine at_iaddN dX5_setLeast_78 ?_
      rw [show 781 * i + r + 781 = 781 * (i + 1) + r by omega]
      refine at_lald2 (a := 62) dX5_setLeast_79 rfl rfl (by show _ < 6248; omega) (by decide) ?_
      rw [zlA_s, v1]
      refine at_iaddN dX5_setLeast_80 ?_
      refine at_istore dX5_setLeast_81 (by decide) ?_
      refine at_aload_n dX5_setLeast_83 rfl ?_
      refine at_get dX5_setLeast_84 fl_X5_11 (zl_o rfl) rfl ?_
      refine at_iload dX5_setLeast_87 rfl ?_
      refine at_iload dX5_setLeast_89 rfl ?_
      refine at_aload_n dX5_setLeast_91 rfl ?_
      refine at_get dX5_setLeast_92 fl_X5_11 (zl_o rfl) rfl ?_
      refine at_iload dX5_setLeast_95 rfl ?_
      refine at_iconst dX5_setLeast_97 (v := nI 1) (by decide) ?_
      refine at_iaddN dX5_setLeast_98 ?_
      refine at_lald2 (a := 62) dX5_setLeast_99 rfl rfl (by show _ < 6248; omega) (by decide) ?_
      rw [show 781 * i + r + 1 = 781 * i + (r + 1) by omega, zlA_s, v2]
      refine at_mmin dX5_setLeast_100 (ms_X5_67.1.resolve_right (by decide)) (Nat.le_of_ble_eq_true rfl) ⟨by show 1 ≤ D; omega, by show 21 ≤ 60 * D; omega, by omega, by omega⟩ ?_
      rw [zless (by omega) (by omega), hmin]
      refine at_last2 (a := 62) dX5_setLeast_103 rfl rfl (by show _ < 6248; omega) (by decide) ?_
      rw [zlA_a]
      refine at_iinc dX5_setLeast_104 rfl rfl (by decide) ?_
      rw [show nI i + Int32.ofInt (-1) = nI i - 1 from (by rw [Int32.sub_eq_add_neg]; rfl)]
      refine at_goto (tgt := 47) dX5_setLeast_107 (by decide) ?_
      exact at_lv [0, 1, 2, 3, 4] hn
end ZC16

