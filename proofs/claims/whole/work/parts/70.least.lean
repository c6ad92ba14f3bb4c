/-! ===== the class: the least cost, the names it takes ===== -/
section ZC17
variable {l : Launch} {G : zq_G} {D n b m : Nat} {κ : zl_S} {ρ : Nat → zq_E} {post : Option Value → Nat → (Nat → zq_E) → Prop} {x w al : Nat → Nat} {K : Nat → Int32} {Lo : Option (List zLC)} {v : Value}
def zQL (κ : zl_S) (b : Nat) (al : Nat → Nat) : Prop := ∀ k, k < 5 → κ.2.1 (b + 5) k = nI (al k) ∧ 1 ≤ al k ∧ al k ≤ 5
theorem zc_setLeast {r : Nat} {c : Nat → Nat → Nat} {pr : Nat → Nat → Nat → Nat} (hD : 3 ≤ D) (hb : zQb b) (hm : κ.1 b 0 = nI m) (hm7 : m ≤ 7) (hL : zQL κ b al) (hr : r < 780) (hP : zPr κ (24 * m) pr) (hpl : ∀ j k d, pr j k d ≤ 1000000) (hc : ∀ j, j < m → min 1000000 (zS4 fun k => pr j k (zdg4 (znm al r) k)) = c j r) (hg : zLe (κ.2.1 62) m c (r + 1))
    (hp : ∀ g, zLe g m c r → post none n (zl_h (zl_sA κ 62 g) ρ)) : zq_Runs l G D 0 0 yX5_setLeast [.ref 61, .ref b, .int (nI r)] n (zl_h κ ρ) post := by
  have hal : ∀ k, k < 5 → 1 ≤ al k ∧ al k ≤ 5 := fun k hk => (hL k hk).2
  have hq := zl_qA (c := 5) hb (by decide) (by decide)
  have hn := zc_sl_loop (l := l) (G := G) (D := D) (n := n) (b := b) (post := post) (by omega) hb hm7 hr (znm_vn hal hr) hP hpl hc hp m (upd (κ.2.1 62) (781 * m + r) (nI 0)) (Nat.le_refl _) (fun j r' h1 h2 h3 => by
    rw [upd_o _ (by omega)]; exact hg j r' h1 h2 h3) (fun j h1 h2 => by
    obtain rfl : j = m := by omega
    rw [upd_s, zrs_m])
  have mn : (if nI 7 < nI m then nI 7 else nI m) = nI m := if_neg (fun h => by have := (zn_lt (by decide) (by omega)).mp h; omega)
  have hm2 : ∀ g, (zl_sA κ 62 g).1 b 0 = nI m := fun g => hm
  refine zq_enter (cc := cX5_setLeast) (nL := 7) (ret := none) cw_X5_setLeast (by decide) rfl (Nat.le_of_ble_eq_true rfl) ?_
  refine at_iload_n dX5_setLeast_0 rfl ?_
  refine at_aload_n dX5_setLeast_1 rfl ?_
  refine at_get dX5_setLeast_2 fl_X5_60 (zl_q hb) rfl ?_
  refine at_callS2 (d := D - 1) dX5_setLeast_5 ms_X5_63 (Nat.le_of_ble_eq_true rfl) (zq_r0 (by omega) (by omega) (by omega)) ?_
  refine zc_nameOfRank hr hq.1 hq.2 hL ?_
  refine at_istore_n dX5_setLeast_8 rfl (by decide) ?_
  refine at_aload_n dX5_setLeast_9 rfl ?_
  refine at_get dX5_setLeast_10 fl_X5_18 (zl_q hb) rfl ?_
  rw [hm]
  refine at_bipush dX5_setLeast_13 (v := nI 7) (by decide) ?_
  refine at_gtN (tgt := 34) dX5_setLeast_15 (by decide) (by omega) (by omega) (fun c15 => ?_) (fun c15 => ?_)
  · omega
  · refine at_aload_n dX5_setLeast_18 rfl ?_
    refine at_get dX5_setLeast_19 fl_X5_11 (zl_o rfl) rfl ?_
    refine at_aload_n dX5_setLeast_22 rfl ?_
    refine at_get dX5_setLeast_23 fl_X5_18 (zl_q hb) rfl ?_
    rw [hm]
    refine at_sipush dX5_setLeast_26 (v := nI 781) (by decide) ?_
    refine at_imulN dX5_setLeast_29 ?_
    refine at_iload_n dX5_setLeast_30 rfl ?_
    refine at_iaddN dX5_setLeast_31 ?_
    refine at_iconst dX5_setLeast_32 (v := nI 0) (by decide) ?_
    rw [show m * 781 + r = 781 * m + r by omega]
    refine at_last2 (a := 62) dX5_setLeast_33 rfl rfl (by show _ < 6248; omega) (by decide) ?_
    rw [show zl_sa κ 62 (781 * m + r) (nI 0) = zl_sA κ 62 (upd (κ.2.1 62) (781 * m + r) (nI 0)) from rfl]
    refine at_aload_n dX5_setLeast_34 rfl ?_
    refine at_get dX5_setLeast_35 fl_X5_18 (zl_q hb) rfl ?_
    rw [hm2]
    refine at_bipush dX5_setLeast_38 (v := nI 7) (by decide) ?_
    refine at_mmin dX5_setLeast_40 (ms_X5_67.1.resolve_right (by decide)) (Nat.le_of_ble_eq_true rfl) ⟨by show 1 ≤ D; omega, by show 21 ≤ 60 * D; omega, by omega, by omega⟩ ?_
    rw [mn]
    refine at_iconst dX5_setLeast_43 (v := nI 1) (by decide) ?_
    refine at_isub dX5_setLeast_44 ?_
    refine at_istore dX5_setLeast_45 (by decide) ?_
    exact hn
theorem zMd_L {κ' κ : zl_S} (h : zMd κ' κ) (hb : zQb b) (hQ : zQL κ b al) : zQL κ' b al := by
  unfold zQL at *
  rw [zMd_b h hb (by decide)]
  exact hQ
/-- what the least cost is: -1, if it can't be -/
def zlcR (c : Nat → Nat → Nat) (m : Nat) : Int32 := if zrs c m 0 0 = 1000000 then -1 else nI (zrs c m 0 0)
theorem zc_lc_3 (hD : 4 ≤ D) (hb : zQb b) (hQ : zQN κ b m x w) (hL : zQL κ b al)
    (hp : ∀ κ', zMd κ' κ → zPr κ' (24 * m) (zPRv K m x w Lo) → zLe (κ'.2.1 62) m (zmc K m x w Lo al) 0 → post (some (.int (zlcR (zmc K m x w Lo al) m))) n (zl_h κ' ρ)) :
    ∀ i κ', i ≤ 780 → zMd κ' κ → zPr κ' (24 * m) (zPRv K m x w Lo) → zLe (κ'.2.1 62) m (zmc K m x w Lo al) i → zq_At l G (zq_rm D 0 0) mX5_leastCost (zq_QF G post 0 0) 87 [(0, .ref 61), (1, .ref b), (4, .int (nI i - 1))] [] n (zl_h κ' ρ) 0 0 := by
  have hal : ∀ k, k < 5 → 1 ≤ al k ∧ al k ≤ 5 := fun k hk => (hL k hk).2
  have hm7 := hQ.2.1
  intro i
  induction i with
  | zero =>
    intro κ' hi hM hP hg
    have hp := hp κ' hM hP hg
    have v0 := hg 0 0 (Nat.zero_le _) (Nat.le_refl _) (by decide)
    have b0 := zrs_le (zmc K m x w Lo al) m 0 0
    unfold zlcR at hp
    rw [Nat.mul_zero, Nat.zero_add] at v0
    generalize zrs (zmc K m x w Lo al) m 0 0 = z at *
    refine at_iload dX5_leastCost_87 rfl ?_
    refine at_if_lt (tgt := 105) dX5_leastCost_89 (by decide) (fun c89 => ?_) (fun c89 => ?_)
    · refine at_aload_n dX5_leastCost_105 rfl ?_
      refine at_get dX5_leastCost_106 fl_X5_11 (zl_o rfl) rfl ?_
      refine at_iconst dX5_leastCost_109 (v := nI 0) (by decide) ?_
      refine at_lald2 (a := 62) dX5_leastCost_110 rfl rfl (by show _ < 6248; omega) (by decide) ?_
      rw [v0]
      refine at_istore dX5_leastCost_111 (by decide) ?_
      refine at_iload dX5_leastCost_113 rfl ?_
      refine at_ldc dX5_leastCost_115 (v := nI 1000000) kc_X5_28 ?_
      refine at_geN (tgt := 125) dX5_leastCost_117 (by decide) (by omega) (by omega) (fun c117 => ?_) (fun c117 => ?_)
      · rw [if_pos (by omega)] at hp
        refine at_iconst dX5_leastCost_125 (v := -1) rfl ?_
        refine at_iret dX5_leastCost_126 rfl (by omega) (by omega) ?_
        exact hp
      · rw [if_neg (by omega)] at hp
        refine at_iload dX5_leastCost_120 rfl ?_
        refine at_goto (tgt := 126) dX5_leastCost_122 (by decide) ?_
        refine at_iret dX5_leastCost_126 rfl (by omega) (by omega) ?_
        exact hp
    · exact absurd c89 (by decide)
  | succ i ih =>
    intro κ' hi hM hP hg
    rw [nI_pred]
    refine at_iload dX5_leastCost_87 rfl ?_
    refine at_if_ltN (tgt := 105) dX5_leastCost_89 (by decide) (by omega) (fun c89 => ?_) (fun c89 => ?_)
    · exact c89.elim
    · refine at_aload_n dX5_leastCost_92 rfl ?_
      refine at_aload_n dX5_leastCost_93 rfl ?_
      refine at_iload dX5_leastCost_94 rfl ?_
      refine at_callV2 (d := D - 1) dX5_leastCost_96 mv_X5_29 (zl_o rfl) (Nat.le_of_ble_eq_true rfl) (zq_r0 (by omega) (by omega) (by omega)) ?_
      refine zc_setLeast (c := zmc K m x w Lo al) (by omega) hb (zMd_N hM hb hQ).1 hm7 (zMd_L hM hb hL) (by omega) hP (zPRv_le K m x w Lo) (fun j hj => zPRv_sum (hQ.2.2.1 _ (hQ.2.2.2 j hj).2).2 hal (by omega)) hg (fun g hg' => ?_)
      have hn := ih (zl_sA κ' 62 g) (by omega) (zMd_A hM (by decide)) (fun j' k' d' h1 h2 h3 => by rw [zlA_o _ (by decide)]; exact hP j' k' d' h1 h2 h3) (by rw [zlA_s]; exact hg')
      refine at_iinc dX5_leastCost_99 rfl rfl (by decide) ?_
      rw [show nI i + Int32.ofInt (-1) = nI i - 1 from (by rw [Int32.sub_eq_add_neg]; rfl)]
      refine at_goto (tgt := 87) dX5_leastCost_102 (by decide) ?_
      exact at_lv [0, 1, 4] hn
theorem zc_lc_2 {v2 : Value} (hD : 4 ≤ D) (hb : zQb b) (hQ : zQN κ b m x w) (hL : zQL κ b al)
    (hp : ∀ κ', zMd κ' κ → zPr κ' (24 * m) (zPRv K m x w Lo) → zLe (κ'.2.1 62) m (zmc K m x w Lo al) 0 → post (some (.int (zlcR (zmc K m x w Lo al) m))) n (zl_h κ' ρ)) :
    ∀ f j κ', j + f = m + 1 → zMd κ' κ → zPr κ' (24 * m) (zPRv K m x w Lo) → (∀ j', j' < j → κ'.2.1 62 (781 * j' + 780) = nI (zrs (zmc K m x w Lo al) m j' 780)) → zq_At l G (zq_rm D 0 0) mX5_leastCost (zq_QF G post 0 0) 30 [(0, .ref 61), (1, .ref b), (4, .int (nI j))] [] n (zl_h κ' ρ) 0 0 := by
  have hm7 := hQ.2.1
  intro f
  induction f with
  | zero =>
    intro j κ' hj hM hP hg
    obtain rfl : j = m + 1 := hj
    have hmx := (zMd_N hM hb hQ).1
    have hn := zc_lc_3 (l := l) (G := G) (n := n) (post := post) (D := D) hD hb hQ hL hp 780 κ' (Nat.le_refl _) hM hP (fun j r' h1 h2 h3 => by
      obtain rfl : r' = 780 := by omega
      exact hg j (by omega))
    refine at_iload dX5_leastCost_30 rfl ?_
    refine at_aload_n dX5_leastCost_32 rfl ?_
    refine at_get dX5_leastCost_33 fl_X5_18 (zl_q hb) rfl ?_
    rw [hmx]
    refine at_gtN (tgt := 82) dX5_leastCost_36 (by decide) (by omega) (by omega) (fun c36 => ?_) (fun c36 => ?_)
    · refine at_sipush dX5_leastCost_82 (v := nI 779) (by decide) ?_
      refine at_istore dX5_leastCost_85 (by decide) ?_
      exact at_lv [0, 1, 4] hn
    · omega
  | succ f ih =>
    intro j κ' hj hM hP hg
    have hmx := (zMd_N hM hb hQ).1
    have hnx : ∀ v, v = nI (zrs (zmc K m x w Lo al) m j 780) → zq_At l G (zq_rm D 0 0) mX5_leastCost (zq_QF G post 0 0) 30 [(0, .ref 61), (1, .ref b), (4, .int (nI (j + 1)))] [] n (zl_h (zl_sa κ' 62 (j * 781 + 780) v) ρ) 0 0 := by
      intro v hv
      refine ih (j + 1) _ (by omega) (zMd_A hM (by decide)) (fun j' k' d' h1 h2 h3 => by rw [zla_o _ (by decide)]; exact hP j' k' d' h1 h2 h3) (fun j' h1 => ?_)
      rw [zla_s]
      by_cases e : j' = j
      · subst e; rw [show j' * 781 + 780 = 781 * j' + 780 by omega, upd_s, hv]
      · rw [upd_o _ (by omega)]; exact hg j' (by omega)
    refine at_iload dX5_leastCost_30 rfl ?_
    refine at_aload_n dX5_leastCost_32 rfl ?_
    refine at_get dX5_leastCost_33 fl_X5_18 (zl_q hb) rfl ?_
    rw [hmx]
    refine at_gtN (tgt := 82) dX5_leastCost_36 (by decide) (by omega) (by omega) (fun c36 => ?_) (fun c36 => ?_)
    · omega
    · refine at_iload dX5_leastCost_39 rfl ?_
      refine at_bipush dX5_leastCost_41 (v := nI 7) (by decide) ?_
      refine at_gtN (tgt := 82) dX5_leastCost_43 (by decide) (by omega) (by omega) (fun c43 => ?_) (fun c43 => ?_)
      · omega
      · refine at_aload_n dX5_leastCost_46 rfl ?_
        refine at_get dX5_leastCost_47 fl_X5_11 (zl_o rfl) rfl ?_
        refine at_iload dX5_leastCost_50 rfl ?_
        refine at_sipush dX5_leastCost_52 (v := nI 781) (by decide) ?_
        refine at_imulN dX5_leastCost_55 ?_
        refine at_sipush dX5_leastCost_56 (v := nI 780) (by decide) ?_
        refine at_iaddN dX5_leastCost_59 ?_
        refine at_iload dX5_leastCost_60 rfl ?_
        refine at_aload_n dX5_leastCost_62 rfl ?_
        refine at_get dX5_leastCost_63 fl_X5_18 (zl_q hb) rfl ?_
        rw [hmx]
        refine at_neN (tgt := 73) dX5_leastCost_66 (by decide) (by omega) (by omega) (fun c66 => ?_) (fun c66 => ?_)
        · refine at_ldc dX5_leastCost_73 (v := nI 1000000) kc_X5_28 ?_
          refine at_last2 (a := 62) dX5_leastCost_75 rfl rfl (by show _ < 6248; omega) (by decide) ?_
          refine at_iincN dX5_leastCost_76 rfl (by decide) ?_
          refine at_goto (tgt := 30) dX5_leastCost_79 (by decide) ?_
          exact at_lv [0, 1, 4] (hnx _ (by rw [zrs_e _ (by omega)]))
        · refine at_iconst dX5_leastCost_69 (v := nI 0) (by decide) ?_
          refine at_goto (tgt := 75) dX5_leastCost_70 (by decide) ?_
          refine at_last2 (a := 62) dX5_leastCost_75 rfl rfl (by show _ < 6248; omega) (by decide) ?_
          refine at_iincN dX5_leastCost_76 rfl (by decide) ?_
          refine at_goto (tgt := 30) dX5_leastCost_79 (by decide) ?_
          exact at_lv [0, 1, 4] (hnx _ (by rw [c66, zrs_m]))
theorem zc_lc_1 (hD : 7 ≤ D) (hb : zQb b) (hQ : zQN κ b m x w) (hT : zQT κ b m K) (hL : zQL κ b al) (hV : zLv ρ v Lo)
    (hp : ∀ κ', zMd κ' κ → zPr κ' (24 * m) (zPRv K m x w Lo) → zLe (κ'.2.1 62) m (zmc K m x w Lo al) 0 → post (some (.int (zlcR (zmc K m x w Lo al) m))) n (zl_h κ' ρ)) :
    ∀ f j κ', j + f = m → zMd κ' κ → zPr κ' (24 * j) (zPRv K m x w Lo) → zq_At l G (zq_rm D 0 0) mX5_leastCost (zq_QF G post 0 0) 3 [(0, .ref 61), (1, .ref b), (2, v), (3, .ref 52), (4, .int (nI j))] [] n (zl_h κ' ρ) 0 0 := by
  have hm7 := hQ.2.1
  have hsh : v = .null ∨ ∃ t, v = .ref t := by rcases hV with ⟨h, -⟩ | ⟨t, -, h, -⟩; exact Or.inl h; exact Or.inr ⟨t, h⟩
  intro f
  induction f with
  | zero =>
    intro j κ' hj hM hP
    obtain rfl : j = m := hj
    have hmx := (zMd_N hM hb hQ).1
    have hn := zc_lc_2 (l := l) (G := G) (n := n) (post := post) (D := D) (v2 := .null) (by omega) hb hQ hL hp (j + 1) 0 κ' (by omega) hM hP (fun j' h => absurd h (Nat.not_lt_zero _))
    refine at_iload dX5_leastCost_3 rfl ?_
    refine at_aload_n dX5_leastCost_5 rfl ?_
    refine at_get dX5_leastCost_6 fl_X5_18 (zl_q hb) rfl ?_
    rw [hmx]
    refine at_geN (tgt := 27) dX5_leastCost_9 (by decide) (by omega) (by omega) (fun c9 => ?_) (fun c9 => ?_)
    · refine at_iconst dX5_leastCost_27 (v := nI 0) (by decide) ?_
      refine at_istore dX5_leastCost_28 (by decide) ?_
      exact at_lv [0, 1, 4] hn
    · omega
  | succ f ih =>
    intro j κ' hj hM hP
    have hmx := (zMd_N hM hb hQ).1
    have ih := fun κ2 h1 h2 => ih (j + 1) κ2 (by omega) h1 h2
    rcases hsh with rfl | ⟨t, rfl⟩
    all_goals
      refine at_iload dX5_leastCost_3 rfl ?_
      refine at_aload_n dX5_leastCost_5 rfl ?_
      refine at_get dX5_leastCost_6 fl_X5_18 (zl_q hb) rfl ?_
      rw [hmx]
      refine at_geN (tgt := 27) dX5_leastCost_9 (by decide) (by omega) (by omega) (fun c9 => ?_) (fun c9 => ?_)
      · omega
      · refine at_aload_n dX5_leastCost_12 rfl ?_
        refine at_aload_n dX5_leastCost_13 rfl ?_
        first | refine at_aload_n dX5_leastCost_14 rfl ?_ | refine at_aload_nN dX5_leastCost_14 rfl ?_
        refine at_aload_n dX5_leastCost_15 rfl ?_
        refine at_iload dX5_leastCost_16 rfl ?_
        refine at_callV4 (d := D - 1) dX5_leastCost_18 mv_X5_24 (zl_o rfl) (Nat.le_of_ble_eq_true rfl) (zq_r0 (by omega) (by omega) (by omega)) ?_
        refine zc_setPrices (K := K) (x := x) (w := w) (m := m) (by omega) hb (zMd_N hM hb hQ) (zMd_T hM hb hT) (by omega) hV hP (fun κ2 h1 h2 => ?_)
        have hn := ih κ2 (zMd_t h1 hM) h2
        refine at_iincN dX5_leastCost_21 rfl (by decide) ?_
        refine at_goto (tgt := 3) dX5_leastCost_24 (by decide) ?_
        exact at_lv [0, 1, 2, 3, 4] hn
theorem zc_leastCost (hD : 8 ≤ D) (hb : zQb b) (hQ : zQN κ b m x w) (hT : zQT κ b m K) (hL : zQL κ b al) (hV : zLv ρ v Lo)
    (hp : ∀ κ', zMd κ' κ → zPr κ' (24 * m) (zPRv K m x w Lo) → zLe (κ'.2.1 62) m (zmc K m x w Lo al) 0 → post (some (.int (zlcR (zmc K m x w Lo al) m))) n (zl_h κ' ρ)) : zq_Runs l G D 0 0 yX5_leastCost [.ref 61, .ref b, v, .ref 52] n (zl_h κ ρ) post := by
  have hsh : v = .null ∨ ∃ t, v = .ref t := by rcases hV with ⟨h, -⟩ | ⟨t, -, h, -⟩; exact Or.inl h; exact Or.inr ⟨t, h⟩
  have hn := zc_lc_1 (l := l) (G := G) (n := n) (post := post) (D := D) (by omega) hb hQ hT hL hV hp m 0 κ (by omega) (zMd_r κ) (fun j k d _ _ h => absurd h (Nat.not_lt_zero _))
  rcases hsh with rfl | ⟨t, rfl⟩
  all_goals
    refine zq_enter (cc := cX5_leastCost) (nL := 5) (ret := (some .int)) cw_X5_leastCost (by decide) rfl (Nat.le_of_ble_eq_true rfl) ?_
    refine at_iconst dX5_leastCost_0 (v := nI 0) (by decide) ?_
    refine at_istore dX5_leastCost_1 (by decide) ?_
    exact hn
theorem zff_s (W R : Nat → Nat) (f i : Nat) : zff W R (f + 1) i = if W i = R i then i else zff W R f (i + 1) := rfl
theorem zc_nf_in {j t i0 : Nat} {c : Nat → Nat → Nat} {pr : Nat → Nat → Nat → Nat} (hD : 2 ≤ D) (hb : zQb b) (hm7 : m ≤ 7) (hjm : j < m) (hL : zQL κ b al) (hP : zPr κ (24 * m) pr) (hc : ∀ j, j < m → ∀ r, r < 780 → min 1000000 (zS4 fun k => pr j k (zdg4 (znm al r) k)) = c j r) (hpl : ∀ j k d, pr j k d ≤ 1000000) (hg : zLe (κ.2.1 62) m c 0) (hdu : zrs c m j i0 < 1000000) :
    ∀ f i, i + f = 780 → i < 780 → zrs c m j i = zrs c m j i0 → zq_At l G (zq_rm D 0 0) mX5_nameFor (zq_QF G post 0 0) 98 [(0, .ref 61), (1, .ref b), (2, .int (nI t)), (3, .int (nI (zff (zwn c m j) (zrs c m j) f i))), (4, .int (nI j)), (6, .int (nI (zpad (znm al (zff (zwn c m j) (zrs c m j) f i)))))] [] n (zl_h κ ρ) 0 0 →
      zq_At l G (zq_rm D 0 0) mX5_nameFor (zq_QF G post 0 0) 46 [(0, .ref 61), (1, .ref b), (2, .int (nI t)), (3, .int (nI i)), (4, .int (nI j)), (5, .int (nI (zrs c m j i0))), (6, .int (nI (zpad (znm al i))))] [] n (zl_h κ ρ) 0 0 := by
  have hal : ∀ k, k < 5 → 1 ≤ al k ∧ al k ≤ 5 := fun k hk => (hL k hk).2
  have hq := zl_qA (c := 5) hb (by decide) (by decide)
  intro f
  induction f with
  | zero => intro i h1 h2; omega
  | succ f ih =>
    intro i hi h780 hd hn
    rw [zff_s] at hn
    have hnx := zrs_nx (c := c) hjm h780 (by omega)
    have v1 := hg (j + 1) i (by omega) (Nat.zero_le _) (by omega)
    have b1 := zrs_le c m (j + 1) i
    have hci := hc j hjm i h780
    have hwn : zwn c m j i = min 1000000 (c j i + zrs c m (j + 1) i) := rfl
    rw [← hci] at hwn
    have bS : (zS4 fun k => pr j k (zdg4 (znm al i) k)) ≤ 4000000 := by
      show pr j 0 (zdg4 (znm al i) 0) + pr j 1 (zdg4 (znm al i) 1) + pr j 2 (zdg4 (znm al i) 2) + pr j 3 (zdg4 (znm al i) 3) ≤ 4000000
      have := hpl j 0 (zdg4 (znm al i) 0)
      have := hpl j 1 (zdg4 (znm al i) 1)
      have := hpl j 2 (zdg4 (znm al i) 2)
      have := hpl j 3 (zdg4 (znm al i) 3)
      omega
    generalize hS : (zS4 fun k => pr j k (zdg4 (znm al i) k)) = S at *
    refine at_iload_n dX5_nameFor_46 rfl ?_
    refine at_sipush dX5_nameFor_47 (v := nI 779) (by decide) ?_
    refine at_geN (tgt := 98) dX5_nameFor_50 (by decide) (by omega) (by omega) (fun c50 => ?_) (fun c50 => ?_)
    · rw [if_pos (by
        apply Classical.byContradiction
        intro h
        have := hnx h
        omega)] at hn
      exact at_lv [0, 1, 2, 3, 4, 6] hn
    · refine at_aload_n dX5_nameFor_53 rfl ?_
      refine at_iload dX5_nameFor_54 rfl ?_
      refine at_iload dX5_nameFor_56 rfl ?_
      refine at_callV2 (d := D - 1) dX5_nameFor_58 mv_X5_72 (zl_o rfl) (Nat.le_of_ble_eq_true rfl) (zq_r0 (by omega) (by omega) (by omega)) ?_
      refine zc_price (m := m) (pr := pr) hjm hm7 (znm_vn hal h780) hP ?_
      rw [hS]
      refine at_aload_n dX5_nameFor_61 rfl ?_
      refine at_get dX5_nameFor_62 fl_X5_11 (zl_o rfl) rfl ?_
      refine at_iload dX5_nameFor_65 rfl ?_
      refine at_iconst dX5_nameFor_67 (v := nI 1) (by decide) ?_
      refine at_iaddN dX5_nameFor_68 ?_
      refine at_sipush dX5_nameFor_69 (v := nI 781) (by decide) ?_
      refine at_imulN dX5_nameFor_72 ?_
      refine at_iload_n dX5_nameFor_73 rfl ?_
      refine at_iaddN dX5_nameFor_74 ?_
      rw [show (j + 1) * 781 + i = 781 * (j + 1) + i by omega]
      refine at_lald2 (a := 62) dX5_nameFor_75 rfl rfl (by show _ < 6248; omega) (by decide) ?_
      rw [v1]
      refine at_iaddN dX5_nameFor_76 ?_
      refine at_iload dX5_nameFor_77 rfl ?_
      refine at_eqN (tgt := 98) dX5_nameFor_79 (by decide) (by omega) (by omega) (fun c79 => ?_) (fun c79 => ?_)
      · rw [if_pos (by omega)] at hn
        exact at_lv [0, 1, 2, 3, 4, 6] hn
      · have hne : zwn c m j i ≠ zrs c m j i := (by omega)
        rw [if_neg hne] at hn
        have he := zrs_s c (m := m) hjm h780
        have hn := ih (i + 1) (by omega) (by omega) (by omega) hn
        refine at_iincN dX5_nameFor_82 rfl (by decide) ?_
        refine at_iload_n dX5_nameFor_85 rfl ?_
        refine at_aload_n dX5_nameFor_86 rfl ?_
        refine at_get dX5_nameFor_87 fl_X5_60 (zl_q hb) rfl ?_
        refine at_callS2 (d := D - 1) dX5_nameFor_90 ms_X5_63 (Nat.le_of_ble_eq_true rfl) (zq_r0 (by omega) (by omega) (by omega)) ?_
        refine zc_nameOfRank (r := i + 1) (by omega) hq.1 hq.2 hL ?_
        refine at_istore dX5_nameFor_93 (by decide) ?_
        refine at_goto (tgt := 46) dX5_nameFor_95 (by decide) ?_
        exact hn
theorem zc_nf_loop {t : Nat} {c : Nat → Nat → Nat} {pr : Nat → Nat → Nat → Nat} (hD : 3 ≤ D) (hb : zQb b) (hm : κ.1 b 0 = nI m) (hm7 : m ≤ 7) (htm : t < m) (hL : zQL κ b al) (hP : zPr κ (24 * m) pr) (hc : ∀ j, j < m → ∀ r, r < 780 → min 1000000 (zS4 fun k => pr j k (zdg4 (znm al r) k)) = c j r) (hpl : ∀ j k d, pr j k d ≤ 1000000) (hg : zLe (κ.2.1 62) m c 0) (h0 : zrs c m 0 0 < 1000000)
    (hp : post (some (.int (nI (znm al (zfi c m (t + 1)))))) n (zl_h κ ρ)) :
    ∀ f j, j + f = t → zq_At l G (zq_rm D 0 0) mX5_nameFor (zq_QF G post 0 0) 5 [(0, .ref 61), (1, .ref b), (2, .int (nI t)), (3, .int (nI (zfi c m j))), (4, .int (nI j))] [] n (zl_h κ ρ) 0 0 := by
  have hal : ∀ k, k < 5 → 1 ≤ al k ∧ al k ≤ 5 := fun k hk => (hL k hk).2
  have hq := zl_qA (c := 5) hb (by decide) (by decide)
  have key : ∀ j, j ≤ t → (zq_At l G (zq_rm D 0 0) mX5_nameFor (zq_QF G post 0 0) 98 [(0, .ref 61), (1, .ref b), (2, .int (nI t)), (3, .int (nI (zfi c m (j + 1)))), (4, .int (nI j)), (6, .int (nI (zpad (znm al (zfi c m (j + 1))))))] [] n (zl_h κ ρ) 0 0) → zq_At l G (zq_rm D 0 0) mX5_nameFor (zq_QF G post 0 0) 5 [(0, .ref 61), (1, .ref b), (2, .int (nI t)), (3, .int (nI (zfi c m j))), (4, .int (nI j))] [] n (zl_h κ ρ) 0 0 := by
    intro j hj hn
    have hok := zfi_ok h0 j (by omega)
    have v0 := hg j (zfi c m j) (by omega) (Nat.zero_le _) (by omega)
    have hn2 := zc_nf_in (l := l) (G := G) (n := n) (post := post) (D := D) (t := t) (i0 := zfi c m j) (by omega) hb hm7 (by omega) hL hP hc hpl hg hok.2 (780 - zfi c m j) (zfi c m j) (by omega) hok.1 rfl hn
    refine at_iload dX5_nameFor_5 rfl ?_
    refine at_aload_n dX5_nameFor_7 rfl ?_
    refine at_get dX5_nameFor_8 fl_X5_18 (zl_q hb) rfl ?_
    rw [hm]
    refine at_geN (tgt := 116) dX5_nameFor_11 (by decide) (by omega) (by omega) (fun c11 => ?_) (fun c11 => ?_)
    · omega
    · refine at_iload dX5_nameFor_14 rfl ?_
      refine at_bipush dX5_nameFor_16 (v := nI 7) (by decide) ?_
      refine at_geN (tgt := 116) dX5_nameFor_18 (by decide) (by omega) (by omega) (fun c18 => ?_) (fun c18 => ?_)
      · omega
      · refine at_aload_n dX5_nameFor_21 rfl ?_
        refine at_get dX5_nameFor_22 fl_X5_11 (zl_o rfl) rfl ?_
        refine at_iload dX5_nameFor_25 rfl ?_
        refine at_sipush dX5_nameFor_27 (v := nI 781) (by decide) ?_
        refine at_imulN dX5_nameFor_30 ?_
        refine at_iload_n dX5_nameFor_31 rfl ?_
        refine at_iaddN dX5_nameFor_32 ?_
        rw [show j * 781 + zfi c m j = 781 * j + zfi c m j by omega]
        refine at_lald2 (a := 62) dX5_nameFor_33 rfl rfl (by show _ < 6248; omega) (by decide) ?_
        rw [v0]
        refine at_istore dX5_nameFor_34 (by decide) ?_
        refine at_iload_n dX5_nameFor_36 rfl ?_
        refine at_aload_n dX5_nameFor_37 rfl ?_
        refine at_get dX5_nameFor_38 fl_X5_60 (zl_q hb) rfl ?_
        refine at_callS2 (d := D - 1) dX5_nameFor_41 ms_X5_63 (Nat.le_of_ble_eq_true rfl) (zq_r0 (by omega) (by omega) (by omega)) ?_
        refine zc_nameOfRank hok.1 hq.1 hq.2 hL ?_
        refine at_istore dX5_nameFor_44 (by decide) ?_
        exact hn2
  intro f
  induction f with
  | zero =>
    intro j hj
    obtain rfl : j = t := hj
    have hok := zfi_ok h0 (j + 1) (by omega)
    refine key j (Nat.le_refl _) ?_
    refine at_iload dX5_nameFor_98 rfl ?_
    refine at_iload_n dX5_nameFor_100 rfl ?_
    refine at_neN (tgt := 110) dX5_nameFor_101 (by decide) (by omega) (by omega) (fun c101 => ?_) (fun c101 => ?_)
    · omega
    · refine at_iload dX5_nameFor_104 rfl ?_
      refine at_callS1 (d := D - 1) dX5_nameFor_106 ms_X5_81 (Nat.le_of_ble_eq_true rfl) (zq_r0 (by omega) (by omega) (by omega)) ?_
      refine zc_withoutZeros (znm_vn hal hok.1) ?_
      refine at_iret dX5_nameFor_109 rfl (by omega) (by omega) ?_
      exact hp
  | succ f ih =>
    intro j hj
    have hn := ih (j + 1) (by omega)
    refine key j (by omega) ?_
    refine at_iload dX5_nameFor_98 rfl ?_
    refine at_iload_n dX5_nameFor_100 rfl ?_
    refine at_neN (tgt := 110) dX5_nameFor_101 (by decide) (by omega) (by omega) (fun c101 => ?_) (fun c101 => ?_)
    · refine at_iincN dX5_nameFor_110 rfl (by decide) ?_
      refine at_goto (tgt := 5) dX5_nameFor_113 (by decide) ?_
      exact at_lv [0, 1, 2, 3, 4] hn
    · omega
theorem zc_nameFor {t : Nat} {c : Nat → Nat → Nat} {pr : Nat → Nat → Nat → Nat} (hD : 4 ≤ D) (hb : zQb b) (hm : κ.1 b 0 = nI m) (hm7 : m ≤ 7) (htm : t < m) (hL : zQL κ b al) (hP : zPr κ (24 * m) pr) (hc : ∀ j, j < m → ∀ r, r < 780 → min 1000000 (zS4 fun k => pr j k (zdg4 (znm al r) k)) = c j r) (hpl : ∀ j k d, pr j k d ≤ 1000000) (hg : zLe (κ.2.1 62) m c 0) (h0 : zrs c m 0 0 < 1000000)
    (hp : post (some (.int (nI (znm al (zfi c m (t + 1)))))) n (zl_h κ ρ)) : zq_Runs l G D 0 0 yX5_nameFor [.ref 61, .ref b, .int (nI t)] n (zl_h κ ρ) post := by
  have hn := zc_nf_loop (l := l) (G := G) (n := n) (post := post) (D := D) (by omega) hb hm hm7 htm hL hP hc hpl hg h0 hp t 0 (by omega)
  refine zq_enter (cc := cX5_nameFor) (nL := 7) (ret := (some .int)) cw_X5_nameFor (by decide) rfl (Nat.le_of_ble_eq_true rfl) ?_
  refine at_iconst dX5_nameFor_0 (v := nI 0) (by decide) ?_
  refine at_istore_n dX5_nameFor_1 rfl (by decide) ?_
  refine at_iconst dX5_nameFor_2 (v := nI 0) (by decide) ?_
  refine at_istore dX5_nameFor_3 (by decide) ?_
  exact hn
end ZC17

