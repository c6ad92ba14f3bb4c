/-! ===== the class: prices ===== -/
/-- what it costs that letter k of x becomes d (0: none there) -/
def zpr (held : Bool) (x : Nat) (lc : Nat → Nat → Nat) (k d : Nat) : Nat := if d = zdg4 x k then 0 else if d ≠ 0 ∧ zdg4 x k ≠ 0 ∧ held = false then lc k d else 1000000
def zS4 (f : Nat → Nat) : Nat := f 0 + f 1 + f 2 + f 3
theorem zS4_big {f : Nat → Nat} {k : Nat} (hk : k < 4) (h : f k = 1000000) : min 1000000 (zS4 f) = 1000000 := by
  unfold zS4
  rcases (show k = 0 ∨ k = 1 ∨ k = 2 ∨ k = 3 by omega) with rfl | rfl | rfl | rfl <;> omega
theorem zS4_sum {f : Nat → Nat} {lc : Nat → Nat → Nat} {y L : Nat} (h1 : 1 ≤ L) (h4 : L ≤ 4) (hf : ∀ k, k < L → f k = lc k (zlt y k)) (h0 : ∀ k, L ≤ k → k < 4 → f k = 0) : zS4 f = zlsum lc y L := by
  unfold zS4
  rcases (show L = 1 ∨ L = 2 ∨ L = 3 ∨ L = 4 by omega) with rfl | rfl | rfl | rfl
  · rw [hf 0 (by decide), h0 1 (by decide) (by decide), h0 2 (by decide) (by decide), h0 3 (by decide) (by decide)]
    simp [zlsum]
  · rw [hf 0 (by decide), hf 1 (by decide), h0 2 (by decide) (by decide), h0 3 (by decide) (by decide)]
    simp [zlsum]
  · rw [hf 0 (by decide), hf 1 (by decide), hf 2 (by decide), h0 3 (by decide) (by decide)]
    simp [zlsum]
  · rw [hf 0 (by decide), hf 1 (by decide), hf 2 (by decide), hf 3 (by decide)]
    simp [zlsum]
theorem zdg4_in {x k : Nat} (h : k < zlen x) : zdg4 x k = zlt x k := if_pos h
theorem zdg4_out {x k : Nat} (h : zlen x ≤ k) : zdg4 x k = 0 := if_neg (by omega)
theorem zdg4_le {x : Nat} (h : zvn x) (k : Nat) : zdg4 x k ≤ 5 := by
  by_cases c : k < zlen x
  · rw [zdg4_in c]; exact (zvn_at h c).2
  · rw [zdg4_out (by omega)]; omega
theorem zlen_14 (x : Nat) : 1 ≤ zlen x ∧ zlen x ≤ 4 := by rcases zlen_cs x with ⟨e, _⟩ | ⟨e, _⟩ | ⟨e, _⟩ | ⟨e, _⟩ <;> omega
theorem zpr_sum {held : Bool} {x y : Nat} {lc : Nat → Nat → Nat} (hx : zvn x) (hy : zvn y) (h0 : ∀ k, lc k (zlt x k) = 0) (h99 : ∀ k z, lc k z ≤ 99) : min 1000000 (zS4 fun k => zpr held x lc k (zdg4 y k)) = zcst held x y lc := by
  have lx := zlen_14 x
  have ly := zlen_14 y
  unfold zcst
  by_cases e : zlen y = zlen x
  · by_cases c : held = false ∨ y = x
    · rw [if_pos ⟨e, c⟩, zS4_sum (lc := lc) (y := y) (L := zlen x) lx.1 lx.2 (fun k hk => ?_) (fun k h1 h2 => ?_)]
      · have := zlsum_le h99 y (zlen x)
        omega
      · show zpr held x lc k (zdg4 y k) = _
        unfold zpr
        rw [zdg4_in (by omega), zdg4_in hk]
        by_cases q : zlt y k = zlt x k
        · rw [if_pos q, q, h0]
        · rw [if_neg q]
          have a1 := zvn_at hx hk
          have a2 := zvn_at hy (k := k) (by omega)
          rcases c with c | c
          · rw [if_pos ⟨by omega, by omega, c⟩]
          · rw [c] at q; exact absurd rfl q
      · show zpr held x lc k (zdg4 y k) = _
        unfold zpr
        rw [zdg4_out (by omega), zdg4_out (by omega), if_pos rfl]
    · rw [if_neg (fun h => c h.2)]
      have : ∃ j, j < zlen x ∧ zlt x j ≠ zlt y j := by
        apply Classical.byContradiction
        intro hn
        apply c
        refine Or.inr (zlt_ext hx hy e.symm (fun j hj => ?_)).symm
        apply Classical.byContradiction
        intro h
        exact hn ⟨j, hj, h⟩
      obtain ⟨j, hj, hne⟩ := this
      refine zS4_big (k := j) (by omega) ?_
      show zpr held x lc j (zdg4 y j) = _
      unfold zpr
      rw [zdg4_in (by omega), zdg4_in hj, if_neg (fun h => hne h.symm), if_neg (fun h => c (Or.inl h.2.2))]
  · rw [if_neg (fun h => e h.1)]
    by_cases c : zlen x < zlen y
    · refine zS4_big (k := zlen x) (by omega) ?_
      show zpr held x lc _ (zdg4 y _) = _
      unfold zpr
      have a2 := zvn_at hy c
      rw [zdg4_in c, zdg4_out (x := x) (Nat.le_refl _), if_neg (by omega), if_neg (fun h => h.2.1 rfl)]
    · refine zS4_big (k := zlen y) (by omega) ?_
      show zpr held x lc _ (zdg4 y _) = _
      unfold zpr
      have a2 := zvn_at hx (k := zlen y) (by omega)
      rw [zdg4_out (x := y) (Nat.le_refl _), zdg4_in (x := x) (by omega), if_neg (by omega), if_neg (fun h => h.1 rfl)]
/-- alike but for the tables of mending -/
def zMd (κ' κ : zl_S) : Prop := (∀ o, κ'.1 o = κ.1 o) ∧ (∀ a, a ≠ 54 → a ≠ 55 → a ≠ 62 → a ≠ 63 → κ'.2.1 a = κ.2.1 a) ∧ κ'.2.2 = κ.2.2
theorem zMd_r (κ : zl_S) : zMd κ κ := ⟨fun _ => rfl, fun _ _ _ _ _ => rfl, rfl⟩
theorem zMd_A {κ' κ : zl_S} {a : Nat} {g : Nat → Int32} (h : zMd κ' κ) (ha : a = 54 ∨ a = 55 ∨ a = 62 ∨ a = 63) : zMd (zl_sA κ' a g) κ := ⟨h.1, fun c h1 h2 h3 h4 => by rw [zlA_o _ (by omega)]; exact h.2.1 c h1 h2 h3 h4, h.2.2⟩
theorem zMd_t {κ1 κ2 κ : zl_S} (h : zMd κ1 κ2) (g : zMd κ2 κ) : zMd κ1 κ := ⟨fun o => (h.1 o).trans (g.1 o), fun a h1 h2 h3 h4 => (h.2.1 a h1 h2 h3 h4).trans (g.2.1 a h1 h2 h3 h4), h.2.2.trans g.2.2⟩
theorem zMd_b {κ' κ : zl_S} (h : zMd κ' κ) {b c : Nat} (hb : zQb b) (hc : c ≤ 10) : κ'.2.1 (b + c) = κ.2.1 (b + c) := by
  have : b ≤ 32 := by rcases hb with rfl | rfl | rfl <;> decide
  exact h.2.1 _ (by omega) (by omega) (by omega) (by omega)
theorem zMd_N {κ' κ : zl_S} (h : zMd κ' κ) {b m : Nat} {x w : Nat → Nat} (hb : zQb b) (hQ : zQN κ b m x w) : zQN κ' b m x w := by
  unfold zQN at *
  rw [h.1, zMd_b h hb (by decide), zMd_b h hb (by decide)]
  exact hQ
theorem zMd_T {κ' κ : zl_S} (h : zMd κ' κ) {b m : Nat} {K : Nat → Int32} (hb : zQb b) (hQ : zQT κ b m K) : zQT κ' b m K := by
  unfold zQT at *
  rw [zMd_b h hb (by decide), zMd_b h hb (by decide)]
  exact hQ
/-- the prices up to T -/
def zPr (κ : zl_S) (T : Nat) (pr : Nat → Nat → Nat → Nat) : Prop := ∀ j k d, k < 4 → d ≤ 5 → 24 * j + 6 * k + d < T → κ.2.1 63 (24 * j + 6 * k + d) = nI (pr j k d)
theorem zPr_s {κ : zl_S} {pr : Nat → Nat → Nat → Nat} {j k d v : Nat} (hk : k < 4) (hd : d ≤ 5) (h : zPr κ (24 * j + 6 * k + d) pr) (hv : v = pr j k d) : zPr (zl_sa κ 63 (24 * j + 6 * k + d) (nI v)) (24 * j + 6 * k + d + 1) pr := by
  intro j' k' d' h1 h2 h3
  rw [zla_s]
  by_cases e : 24 * j' + 6 * k' + d' = 24 * j + 6 * k + d
  · obtain rfl : j' = j := by omega
    obtain rfl : k' = k := by omega
    obtain rfl : d' = d := by omega
    rw [upd_s, hv]
  · rw [upd_o _ e]
    exact h j' k' d' h1 h2 (by omega)
section ZC15
variable {l : Launch} {G : zq_G} {D n b m : Nat} {κ : zl_S} {ρ : Nat → zq_E} {post : Option Value → Nat → (Nat → zq_E) → Prop} {x w al : Nat → Nat} {K : Nat → Int32} {Lo : Option (List zLC)} {v : Value}
theorem zc_price {j y : Nat} {pr : Nat → Nat → Nat → Nat} (hj : j < m) (hm : m ≤ 7) (hy : zvn y) (hP : zPr κ (24 * m) pr) (hp : post (some (.int (nI (zS4 fun k => pr j k (zdg4 y k))))) n (zl_h κ ρ)) : zq_Runs l G D 0 0 yX5_price [.ref 61, .int (nI j), .int (nI (zpad y))] n (zl_h κ ρ) post := by
  have hy1 := hy.1
  have hy5 := hy.2.1
  have hlt := zpad_lt' hy
  have q0 := zpad_dg (k := 0) hy1 (by omega) (by decide)
  have q1 := zpad_dg (k := 1) hy1 (by omega) (by decide)
  have q2 := zpad_dg (k := 2) hy1 (by omega) (by decide)
  have q3 := zpad_dg (k := 3) hy1 (by omega) (by decide)
  have q0 : zpad y / 1000 = zdg4 y 0 := by rw [← q0]; show _ = zpad y / 1000 % 10; omega
  have q1 : zpad y / 100 % 10 = zdg4 y 1 := q1
  have q2 : zpad y / 10 % 10 = zdg4 y 2 := q2
  have q3 : zpad y % 10 = zdg4 y 3 := by rw [← q3]; show _ = zpad y / 1 % 10; rw [Nat.div_one]
  have l0 := zdg4_le hy 0
  have l1 := zdg4_le hy 1
  have l2 := zdg4_le hy 2
  have l3 := zdg4_le hy 3
  have v0 := hP j 0 (zdg4 y 0) (by decide) l0 (by omega)
  have v1 := hP j 1 (zdg4 y 1) (by decide) l1 (by omega)
  have v2 := hP j 2 (zdg4 y 2) (by decide) l2 (by omega)
  have v3 := hP j 3 (zdg4 y 3) (by decide) l3 (by omega)
  refine zq_enter (cc := cX5_price) (nL := 4) (ret := (some .int)) cw_X5_price (by decide) rfl (Nat.le_of_ble_eq_true rfl) ?_
  refine at_iload_n dX5_price_0 rfl ?_
  refine at_bipush dX5_price_1 (v := nI 24) (by decide) ?_
  refine at_imulN dX5_price_3 ?_
  refine at_istore_n dX5_price_4 rfl (by decide) ?_
  refine at_aload_n dX5_price_5 rfl ?_
  refine at_get dX5_price_6 fl_X5_15 (zl_o rfl) rfl ?_
  refine at_iload_n dX5_price_9 rfl ?_
  refine at_iload_n dX5_price_10 rfl ?_
  refine at_sipush dX5_price_11 (v := nI 1000) (by decide) ?_
  refine at_idivN dX5_price_14 (by omega) (by decide) (by decide) ?_
  rw [q0]
  refine at_iaddN dX5_price_15 ?_
  rw [show j * 24 + zdg4 y 0 = 24 * j + 6 * 0 + zdg4 y 0 by omega]
  refine at_lald2 (a := 63) dX5_price_16 rfl rfl (by show _ < 168; omega) (by decide) ?_
  rw [v0]
  refine at_aload_n dX5_price_17 rfl ?_
  refine at_get dX5_price_18 fl_X5_15 (zl_o rfl) rfl ?_
  refine at_iload_n dX5_price_21 rfl ?_
  refine at_iconst dX5_price_22 (v := nI 5) (by decide) ?_
  refine at_iaddN dX5_price_23 ?_
  refine at_iconst dX5_price_24 (v := nI 1) (by decide) ?_
  refine at_iaddN dX5_price_25 ?_
  refine at_iload_n dX5_price_26 rfl ?_
  refine at_bipush dX5_price_27 (v := nI 100) (by decide) ?_
  refine at_idivN dX5_price_29 (by omega) (by decide) (by decide) ?_
  refine at_bipush dX5_price_30 (v := nI 10) (by decide) ?_
  refine at_iremN dX5_price_32 (by omega) (by decide) (by decide) ?_
  rw [q1]
  refine at_iaddN dX5_price_33 ?_
  rw [show j * 24 + 5 + 1 + zdg4 y 1 = 24 * j + 6 * 1 + zdg4 y 1 by omega]
  refine at_lald2 (a := 63) dX5_price_34 rfl rfl (by show _ < 168; omega) (by decide) ?_
  rw [v1]
  refine at_iaddN dX5_price_35 ?_
  refine at_aload_n dX5_price_36 rfl ?_
  refine at_get dX5_price_37 fl_X5_15 (zl_o rfl) rfl ?_
  refine at_iload_n dX5_price_40 rfl ?_
  refine at_bipush dX5_price_41 (v := nI 12) (by decide) ?_
  refine at_iaddN dX5_price_43 ?_
  refine at_iload_n dX5_price_44 rfl ?_
  refine at_bipush dX5_price_45 (v := nI 10) (by decide) ?_
  refine at_idivN dX5_price_47 (by omega) (by decide) (by decide) ?_
  refine at_bipush dX5_price_48 (v := nI 10) (by decide) ?_
  refine at_iremN dX5_price_50 (by omega) (by decide) (by decide) ?_
  rw [q2]
  refine at_iaddN dX5_price_51 ?_
  rw [show j * 24 + 12 + zdg4 y 2 = 24 * j + 6 * 2 + zdg4 y 2 by omega]
  refine at_lald2 (a := 63) dX5_price_52 rfl rfl (by show _ < 168; omega) (by decide) ?_
  rw [v2]
  refine at_iaddN dX5_price_53 ?_
  refine at_aload_n dX5_price_54 rfl ?_
  refine at_get dX5_price_55 fl_X5_15 (zl_o rfl) rfl ?_
  refine at_iload_n dX5_price_58 rfl ?_
  refine at_bipush dX5_price_59 (v := nI 18) (by decide) ?_
  refine at_iaddN dX5_price_61 ?_
  refine at_iload_n dX5_price_62 rfl ?_
  refine at_bipush dX5_price_63 (v := nI 10) (by decide) ?_
  refine at_iremN dX5_price_65 (by omega) (by decide) (by decide) ?_
  rw [q3]
  refine at_iaddN dX5_price_66 ?_
  rw [show j * 24 + 18 + zdg4 y 3 = 24 * j + 6 * 3 + zdg4 y 3 by omega]
  refine at_lald2 (a := 63) dX5_price_67 rfl rfl (by show _ < 168; omega) (by decide) ?_
  rw [v3]
  refine at_iaddN dX5_price_68 ?_
  refine at_iret dX5_price_69 rfl (by omega) (by omega) ?_
  exact hp
theorem zc_withoutZeros {y : Nat} (hy : zvn y) (hp : post (some (.int (nI y))) n (zl_h κ ρ)) : zq_Runs l G D 0 0 yX5_withoutZeros [.int (nI (zpad y))] n (zl_h κ ρ) post := by
  have l4 := zlen_14 y
  have hb := hy.2.1
  have h1 := hy.1
  have hlast : y % 10 ≠ 0 := by
    have := (zvn_at hy (k := zlen y - 1) (by omega)).1
    unfold zlt at this
    rw [Nat.sub_self, Nat.pow_zero, Nat.div_one] at this
    omega
  have loop : ∀ t k, t + zlen y = 5 - k → 1 ≤ k → zq_At l G (zq_rm D 0 0) mX5_withoutZeros (zq_QF G post 0 0) 4 [(0, .int (nI (zpad y))), (1, .int (nI (y * 10 ^ t))), (2, .int (nI k))] [] n (zl_h κ ρ) 0 0 := by
    intro t
    induction t with
    | zero =>
      intro k hk h1k
      rw [Nat.pow_zero, Nat.mul_one]
      refine at_iload_n dX5_withoutZeros_4 rfl ?_
      refine at_iconst dX5_withoutZeros_5 (v := nI 4) (by decide) ?_
      refine at_geN (tgt := 27) dX5_withoutZeros_6 (by decide) (by omega) (by omega) (fun c6 => ?_) (fun c6 => ?_)
      · refine at_iload_n dX5_withoutZeros_27 rfl ?_
        refine at_iret dX5_withoutZeros_28 rfl (by omega) (by omega) ?_
        exact hp
      · refine at_iload_n dX5_withoutZeros_9 rfl ?_
        refine at_bipush dX5_withoutZeros_10 (v := nI 10) (by decide) ?_
        refine at_iremN dX5_withoutZeros_12 (by omega) (by decide) (by decide) ?_
        refine at_if_neN (tgt := 27) dX5_withoutZeros_13 (by decide) (by omega) (fun c13 => ?_) (fun c13 => ?_)
        · refine at_iload_n dX5_withoutZeros_27 rfl ?_
          refine at_iret dX5_withoutZeros_28 rfl (by omega) (by omega) ?_
          exact hp
        · exact absurd c13 hlast
    | succ t ih =>
      intro k hk h1k
      have hn := ih (k + 1) (by omega) (by omega)
      have ht : y * 10 ^ (t + 1) = 10 * (y * 10 ^ t) := by rw [Nat.pow_succ, Nat.mul_comm (10 ^ t) 10, ← Nat.mul_assoc, Nat.mul_comm y 10, Nat.mul_assoc]
      have htb : y * 10 ^ t ≤ 5555 * 1000 := Nat.mul_le_mul hb (Nat.le_trans (Nat.pow_le_pow_right (by decide) (show t ≤ 3 by omega)) (by decide))
      rw [ht]
      generalize y * 10 ^ t = z at *
      refine at_iload_n dX5_withoutZeros_4 rfl ?_
      refine at_iconst dX5_withoutZeros_5 (v := nI 4) (by decide) ?_
      refine at_geN (tgt := 27) dX5_withoutZeros_6 (by decide) (by omega) (by omega) (fun c6 => ?_) (fun c6 => ?_)
      · omega
      · refine at_iload_n dX5_withoutZeros_9 rfl ?_
        refine at_bipush dX5_withoutZeros_10 (v := nI 10) (by decide) ?_
        refine at_iremN dX5_withoutZeros_12 (by omega) (by decide) (by decide) ?_
        rw [show 10 * z % 10 = 0 by omega]
        refine at_if_neN (tgt := 27) dX5_withoutZeros_13 (by decide) (by omega) (fun c13 => ?_) (fun c13 => ?_)
        · exact (c13 rfl).elim
        · refine at_iload_n dX5_withoutZeros_16 rfl ?_
          refine at_bipush dX5_withoutZeros_17 (v := nI 10) (by decide) ?_
          refine at_idivN dX5_withoutZeros_19 (by omega) (by decide) (by decide) ?_
          rw [show 10 * z / 10 = z by omega]
          refine at_istore_n dX5_withoutZeros_20 rfl (by decide) ?_
          refine at_iincN dX5_withoutZeros_21 rfl (by decide) ?_
          refine at_goto (tgt := 4) dX5_withoutZeros_24 (by decide) ?_
          exact hn
  have h := loop (4 - zlen y) 1 (by omega) (by decide)
  refine zq_enter (cc := cX5_withoutZeros) (nL := 3) (ret := (some .int)) cw_X5_withoutZeros (by decide) rfl (Nat.le_of_ble_eq_true rfl) ?_
  refine at_iload_n dX5_withoutZeros_0 rfl ?_
  refine at_istore_n dX5_withoutZeros_1 rfl (by decide) ?_
  refine at_iconst dX5_withoutZeros_2 (v := nI 1) (by decide) ?_
  refine at_istore_n dX5_withoutZeros_3 rfl (by decide) ?_
  exact h
end ZC15

