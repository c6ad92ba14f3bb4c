/-! ===== the Model: the fewest out, which two to ask for ===== -/
theorem zC_congr {σ σ' : zm_S} {m : Nat} {x w rk : Nat → Nat} (hC : zC σ m x w rk) (h72 : σ'.2.1 72 = σ.2.1 72) (h76 : σ'.2.1 76 = σ.2.1 76) : zC σ' m x w rk := by
  unfold zC
  rw [h72, h76]
  exact hC
theorem zH_congr {σ σ' : zm_S} {m hn : Nat} {ha hb : Nat → Nat} (hH : zH σ m hn ha hb) (h72 : σ'.2.1 72 = σ.2.1 72) : zH σ' m hn ha hb := by
  unfold zH
  rw [h72]
  exact hH
theorem zbest_ne (ok : Nat → Bool) : ∀ k s b, (b ≠ 0 ∨ ∃ t, s ≤ t ∧ t < s + k ∧ ok t = true) → zbest ok k s b ≠ 0
  | 0, s, b, h => by
    rcases h with h | ⟨t, h1, h2, -⟩
    · exact h
    · omega
  | k + 1, s, b, h => by
    unfold zbest
    apply zbest_ne
    by_cases hc : (b = 0 ∨ zpop s 7 < zpop (b - 1) 7) ∧ ok s = true
    · rw [if_pos hc]; exact Or.inl (by omega)
    · rw [if_neg hc]
      rcases h with h | ⟨t, h1, h2, h3⟩
      · exact Or.inl h
      · by_cases e : t = s
        · subst e
          left
          intro hb
          exact hc ⟨Or.inl hb, h3⟩
        · exact Or.inr ⟨t, by omega, by omega, h3⟩
theorem zfull {m p : Nat} (hm : m ≤ 7) (hp : p < m) : (2 ^ m - 1) / 2 ^ p % 2 = 1 := by
  rcases (show m = 0 ∨ m = 1 ∨ m = 2 ∨ m = 3 ∨ m = 4 ∨ m = 5 ∨ m = 6 ∨ m = 7 by omega) with rfl | rfl | rfl | rfl | rfl | rfl | rfl | rfl <;> rcases (show p = 0 ∨ p = 1 ∨ p = 2 ∨ p = 3 ∨ p = 4 ∨ p = 5 ∨ p = 6 by omega) with rfl | rfl | rfl | rfl | rfl | rfl | rfl <;> first | decide | omega
theorem zrwF_full (rk x w : Nat → Nat) {m : Nat} (hm : m ≤ 7) : ∀ k p q, p + k = m → zrwF rk x w (2 ^ m - 1) k p q = true
  | 0, _, _, _ => rfl
  | k + 1, p, q, h => by
    unfold zrwF
    rw [if_pos (zfull hm (by omega))]
    exact zrwF_full rk x w hm k (p + 1) q (by omega)
/-- the places of the fewest who step out -/
def zout (rk x w : Nat → Nat) (m : Nat) : Nat := zbest (fun s => zrwF rk x w s m 0 0) (2 ^ m) 0 0 - 1
/-- how many of the first k are so -/
def zcnt (P : Nat → Bool) : Nat → Nat
  | 0 => 0
  | k + 1 => zcnt P k + if P k = true then 1 else 0
theorem zcnt_le (P : Nat → Bool) : ∀ k, zcnt P k ≤ k
  | 0 => Nat.le_refl _
  | k + 1 => by
    have := zcnt_le P k
    unfold zcnt
    split <;> omega
theorem zbest_le (ok : Nat → Bool) : ∀ k s b, b ≤ s → zbest ok k s b ≤ s + k
  | 0, s, b, h => h
  | k + 1, s, b, h => by
    unfold zbest
    have := zbest_le ok k (s + 1) (if (b = 0 ∨ zpop s 7 < zpop (b - 1) 7) ∧ ok s = true then s + 1 else b) (by split <;> omega)
    omega
section ZL7
variable {l : Launch} {G : zq_G} {D n m hn : Nat} {σ : zm_S} {ρ : Nat → zq_E} {post : Option Value → Nat → (Nat → zq_E) → Prop} {x w rk al ha hb : Nat → Nat}
theorem zm_out {v : Int32} (hD : 8 ≤ D) (hC : zC σ m x w rk) (hf : (decide (nI 0 ≤ v) && decide (v ≤ nI 1)) = false → post (some (.int (-1))) n (zm_h σ ρ)) (h0 : v = nI 0 → post (some (.int (nI (zpop (zout rk x w m) 7)))) n (zm_h σ ρ)) (h1 : v = nI 1 → post (some (.int (nI (zout rk x w m)))) n (zm_h σ ρ)) : zq_Runs l G D 0 0 yX12_out [.ref 70, .int v] n (zm_h σ ρ) post := by
  have hm7 := hC.2.1
  have h128 : 2 ^ m ≤ 2 ^ 7 := Nat.pow_le_pow_right (by decide) hm7
  have hpos : 0 < 2 ^ m := Nat.pow_pos (by decide)
  have hne : zbest (fun s => zrwF rk x w s m 0 0) (2 ^ m) 0 0 ≠ 0 := zbest_ne _ _ _ _ (Or.inr ⟨2 ^ m - 1, by omega, by omega, zrwF_full rk x w hm7 m 0 0 (Nat.zero_add _)⟩)
  have hle : zbest (fun s => zrwF rk x w s m 0 0) (2 ^ m) 0 0 ≤ 0 + 2 ^ m := zbest_le _ _ _ _ (Nat.le_refl _)
  unfold zout at h0 h1
  refine zq_enter (cc := cX12_out) (nL := 4) (ret := (some .int)) cw_X12_out (by decide) rfl (Nat.le_of_ble_eq_true rfl) ?_
  refine at_iload_n dX12_out_0 rfl ?_
  refine at_iconst dX12_out_1 (v := nI 0) (by decide) ?_
  refine at_iconst dX12_out_2 (v := nI 1) (by decide) ?_
  refine at_callS3 (d := D - 1) dX12_out_3 ms_X12_18 (Nat.le_of_ble_eq_true rfl) (zq_r0 (by omega) (by omega) (by omega)) ?_
  refine zm_lies ?_
  refine at_if_neB (tgt := 11) dX12_out_6 (by decide) (fun c6 => ?_) (fun c6 => ?_)
  · refine at_iconst dX12_out_11 (v := -1) rfl ?_
    refine at_istore_n dX12_out_12 rfl (by decide) ?_
    refine at_iconst dX12_out_13 (v := nI 0) (by decide) ?_
    refine at_istore_n dX12_out_14 rfl (by decide) ?_
    obtain ⟨b, -, hb, rfl⟩ := zlies_n (by decide) (by decide) c6
    refine zm_out_loop (by omega) hC (2 ^ m) 0 0 (Nat.zero_add _) (Nat.le_refl _) ?_
    generalize zbest (fun s => zrwF rk x w s m 0 0) (2 ^ m) 0 0 = B at *
    obtain ⟨B, rfl⟩ : ∃ r, B = r + 1 := ⟨B - 1, by omega⟩
    refine at_iload_n dX12_out_57 rfl ?_
    refine at_if_neN (tgt := 68) dX12_out_58 (by decide) (by omega) (fun c58 => ?_) (fun c58 => ?_)
    · have hp := h1 (by rw [show b = 1 by omega])
      refine at_iload_n dX12_out_68 rfl ?_
      refine at_iret dX12_out_69 rfl (by omega) (by omega) ?_
      exact hp
    · have hp := h0 (by rw [c58])
      refine at_iload_n dX12_out_61 rfl ?_
      refine at_callS1 (d := D - 1) dX12_out_62 ms_X12_380 (Nat.le_of_ble_eq_true rfl) (zq_r0 (by omega) (by omega) (by omega)) ?_
      refine zm_ones (by omega) ?_
      refine at_goto (tgt := 69) dX12_out_65 (by decide) ?_
      refine at_iret dX12_out_69 rfl (by omega) (by omega) ?_
      exact hp
  · have hp := hf c6
    refine at_iconst dX12_out_9 (v := -1) rfl ?_
    refine at_iret dX12_out_10 rfl (by omega) (by omega) ?_
    exact hp
/-- the table of pairs within a round: pairs up to (p, q) are counted -/
def zlab (m p q : Nat) (T : Nat → Nat → Nat) (E : Nat → Nat → Bool) (A : Nat → Int32) : Prop := ∀ a b, a < b → b < m → A (7 * a + b) = nI (T a b + if (a < p ∨ (a = p ∧ b < q)) ∧ E a b = true then 1 else 0)
theorem zm_lab_q {p : Nat} {T : Nat → Nat → Nat} {g h : Nat → Int32} {c k0 : Nat} (hD : 6 ≤ D) (hm7 : m ≤ 7) (hC : ∀ A, zC (zsA (zsA (zsA σ 85 A) 84 g) 76 h) m x w rk) (hpm : p < m) : ∀ (k q : Nat) (A : Nat → Int32), q + k = m → p < q → zlab m p q T (fun a b => zah rk (x a) (x b)) A → (∀ A', zlab m p m T (fun a b => zah rk (x a) (x b)) A' → zq_At l G (zq_rm D 0 0) mX12_laysAheadBy (zq_QF G post 0 0) 109 [(0, .ref 70), (1, .int (nI c)), (2, .int (nI k0)), (3, .int (nI p)), (4, .int (nI m))] [] n (zm_h (zsA (zsA (zsA σ 85 A') 84 g) 76 h) ρ) 0 0) → zq_At l G (zq_rm D 0 0) mX12_laysAheadBy (zq_QF G post 0 0) 64 [(0, .ref 70), (1, .int (nI c)), (2, .int (nI k0)), (3, .int (nI p)), (4, .int (nI q))] [] n (zm_h (zsA (zsA (zsA σ 85 A) 84 g) 76 h) ρ) 0 0 := by
  intro k
  induction k with
  | zero =>
    intro q A hq hpq hA hk
    obtain rfl : q = m := hq
    have hm := (hC A).1
    refine at_iload dX12_laysAheadBy_64 rfl ?_
    refine at_aload_n dX12_laysAheadBy_66 rfl ?_
    refine at_callV0 (d := D - 1) dX12_laysAheadBy_67 mv_X12_141 rfl (Nat.le_of_ble_eq_true rfl) (zq_r0 (by omega) (by omega) (by omega)) ?_
    refine zm_many hm ?_
    refine at_geN (tgt := 109) dX12_laysAheadBy_70 (by decide) (by omega) (by omega) (fun c70 => ?_) (fun c70 => ?_)
    · exact hk A hA
    · omega
  | succ k ih =>
    intro q A hq hpq hA hk
    have hm := (hC A).1
    have e0 := hA p q hpq (by omega)
    rw [if_neg (by omega), Nat.add_zero] at e0
    refine at_iload dX12_laysAheadBy_64 rfl ?_
    refine at_aload_n dX12_laysAheadBy_66 rfl ?_
    refine at_callV0 (d := D - 1) dX12_laysAheadBy_67 mv_X12_141 rfl (Nat.le_of_ble_eq_true rfl) (zq_r0 (by omega) (by omega) (by omega)) ?_
    refine zm_many hm ?_
    refine at_geN (tgt := 109) dX12_laysAheadBy_70 (by decide) (by omega) (by omega) (fun c70 => ?_) (fun c70 => ?_)
    · omega
    · refine at_aload_n dX12_laysAheadBy_73 rfl ?_
      refine at_get dX12_laysAheadBy_74 fl_X12_86 rfl rfl ?_
      refine at_bipush dX12_laysAheadBy_77 (v := nI 7) (by decide) ?_
      refine at_iload_n dX12_laysAheadBy_79 rfl ?_
      refine at_imulN dX12_laysAheadBy_80 ?_
      refine at_iload dX12_laysAheadBy_81 rfl ?_
      refine at_iaddN dX12_laysAheadBy_83 ?_
      refine at_dup2 dX12_laysAheadBy_84 rfl rfl ?_
      refine at_mald (a := 85) dX12_laysAheadBy_85 (by decide) (by decide) (by decide) (by decide) rfl rfl (by show _ < 49; omega) (by decide) ?_
      rw [zsA_o _ (by decide), zsA_o _ (by decide), zsA_s, e0]
      refine at_aload_n dX12_laysAheadBy_86 rfl ?_
      refine at_iload_n dX12_laysAheadBy_87 rfl ?_
      refine at_iload dX12_laysAheadBy_88 rfl ?_
      refine at_callV2 (d := D - 1) dX12_laysAheadBy_90 mv_X12_368 rfl (Nat.le_of_ble_eq_true rfl) (zq_r0 (by omega) (by omega) (by omega)) ?_
      refine zm_comparesTwo (by omega) (hC A) (by omega) (by omega) (fun r hr1 hr2 => ?_)
      refine at_if_ge (tgt := 100) dX12_laysAheadBy_93 (by decide) (fun c93 => ?_) (fun c93 => ?_)
      · have hE : zah rk (x p) (x q) = false := by rw [← hr1]; exact decide_eq_false (Int32.not_lt.mpr c93)
        refine at_iconst dX12_laysAheadBy_100 (v := nI 0) (by decide) ?_
        refine at_iaddN dX12_laysAheadBy_101 ?_
        refine at_mast (a := 85) dX12_laysAheadBy_102 (by decide) (by decide) (by decide) (by decide) rfl rfl (by show _ < 49; omega) (by decide) ?_
        rw [zsA_sw _ (by decide), zsA_sw _ (by decide), zsA_a]
        refine at_iincN dX12_laysAheadBy_103 rfl (by decide) ?_
        refine at_goto (tgt := 64) dX12_laysAheadBy_106 (by decide) ?_
        refine ih (q + 1) _ (by omega) (by omega) (fun a b hab hb => ?_) hk
        by_cases hx : a = p ∧ b = q
        · obtain ⟨rfl, rfl⟩ := hx
          rw [upd_s]
          simp [hE]
        · rw [upd_o _ (by omega), hA a b hab hb]
          congr 2
          by_cases hy : (a < p ∨ (a = p ∧ b < q)) ∧ zah rk (x a) (x b) = true
          · rw [if_pos hy, if_pos ⟨by omega, hy.2⟩]
          · rw [if_neg hy, if_neg (fun hh => hy ⟨by omega, hh.2⟩)]
      · have hE : zah rk (x p) (x q) = true := by rw [← hr1]; exact decide_eq_true (Int32.not_le.mp c93)
        refine at_iconst dX12_laysAheadBy_96 (v := nI 1) (by decide) ?_
        refine at_goto (tgt := 101) dX12_laysAheadBy_97 (by decide) ?_
        refine at_iaddN dX12_laysAheadBy_101 ?_
        refine at_mast (a := 85) dX12_laysAheadBy_102 (by decide) (by decide) (by decide) (by decide) rfl rfl (by show _ < 49; omega) (by decide) ?_
        rw [zsA_sw _ (by decide), zsA_sw _ (by decide), zsA_a]
        refine at_iincN dX12_laysAheadBy_103 rfl (by decide) ?_
        refine at_goto (tgt := 64) dX12_laysAheadBy_106 (by decide) ?_
        refine ih (q + 1) _ (by omega) (by omega) (fun a b hab hb => ?_) hk
        by_cases hx : a = p ∧ b = q
        · obtain ⟨rfl, rfl⟩ := hx
          rw [upd_s]
          simp [hE]
        · rw [upd_o _ (by omega), hA a b hab hb]
          congr 2
          by_cases hy : (a < p ∨ (a = p ∧ b < q)) ∧ zah rk (x a) (x b) = true
          · rw [if_pos hy, if_pos ⟨by omega, hy.2⟩]
          · rw [if_neg hy, if_neg (fun hh => hy ⟨by omega, hh.2⟩)]
theorem zm_lab_p {T : Nat → Nat → Nat} {g h : Nat → Int32} {c k0 : Nat} (hD : 6 ≤ D) (hm7 : m ≤ 7) (hC : ∀ A, zC (zsA (zsA (zsA σ 85 A) 84 g) 76 h) m x w rk) : ∀ (k p : Nat) (A : Nat → Int32), p + k = m → zlab m p (p + 1) T (fun a b => zah rk (x a) (x b)) A → (∀ A', zlab m m (m + 1) T (fun a b => zah rk (x a) (x b)) A' → zq_At l G (zq_rm D 0 0) mX12_laysAheadBy (zq_QF G post 0 0) 115 [(0, .ref 70), (1, .int (nI c)), (2, .int (nI k0))] [] n (zm_h (zsA (zsA (zsA σ 85 A') 84 g) 76 h) ρ) 0 0) → zq_At l G (zq_rm D 0 0) mX12_laysAheadBy (zq_QF G post 0 0) 51 [(0, .ref 70), (1, .int (nI c)), (2, .int (nI k0)), (3, .int (nI p))] [] n (zm_h (zsA (zsA (zsA σ 85 A) 84 g) 76 h) ρ) 0 0 := by
  intro k
  induction k with
  | zero =>
    intro p A hp hA hk
    obtain rfl : p = m := hp
    have hm := (hC A).1
    refine at_iload_n dX12_laysAheadBy_51 rfl ?_
    refine at_aload_n dX12_laysAheadBy_52 rfl ?_
    refine at_callV0 (d := D - 1) dX12_laysAheadBy_53 mv_X12_141 rfl (Nat.le_of_ble_eq_true rfl) (zq_r0 (by omega) (by omega) (by omega)) ?_
    refine zm_many hm ?_
    refine at_geN (tgt := 115) dX12_laysAheadBy_56 (by decide) (by omega) (by omega) (fun c56 => ?_) (fun c56 => ?_)
    · exact at_lv [0, 1, 2] (hk A hA)
    · omega
  | succ k ih =>
    intro p A hp hA hk
    have hm := (hC A).1
    refine at_iload_n dX12_laysAheadBy_51 rfl ?_
    refine at_aload_n dX12_laysAheadBy_52 rfl ?_
    refine at_callV0 (d := D - 1) dX12_laysAheadBy_53 mv_X12_141 rfl (Nat.le_of_ble_eq_true rfl) (zq_r0 (by omega) (by omega) (by omega)) ?_
    refine zm_many hm ?_
    refine at_geN (tgt := 115) dX12_laysAheadBy_56 (by decide) (by omega) (by omega) (fun c56 => ?_) (fun c56 => ?_)
    · omega
    · refine at_iload_n dX12_laysAheadBy_59 rfl ?_
      refine at_iconst dX12_laysAheadBy_60 (v := nI 1) (by decide) ?_
      refine at_iaddN dX12_laysAheadBy_61 ?_
      refine at_istore dX12_laysAheadBy_62 (by decide) ?_
      refine zm_lab_q hD hm7 hC (by omega) (m - (p + 1)) (p + 1) A (by omega) (by omega) hA (fun A' hA' => ?_)
      refine at_iincN dX12_laysAheadBy_109 rfl (by decide) ?_
      refine at_goto (tgt := 51) dX12_laysAheadBy_112 (by decide) ?_
      refine at_lv [0, 1, 2, 3] (ih (p + 1) A' (by omega) (fun a b hab hb => ?_) hk)
      rw [hA' a b hab hb]
      congr 2
      by_cases hy : (a < p ∨ (a = p ∧ b < m)) ∧ zah rk (x a) (x b) = true
      · rw [if_pos hy, if_pos ⟨by omega, hy.2⟩]
      · rw [if_neg hy, if_neg (fun hh => hy ⟨by omega, hh.2⟩)]
/-- of the first k alphabets: how many fit and put p ahead of q -/
def zT (x ha hb : Nat → Nat) (hn k p q : Nat) : Nat := zcnt (fun a => zasF (zrkN (zal a)) x ha hb hn 0 && zah (zrkN (zal a)) (x p) (x q)) k
theorem zm_lab_loop (hD : 8 ≤ D) (hC : zC σ m x w rk) (hH : zH σ m hn ha hb) (hal : ∀ k, k < 5 → σ.2.1 72 (14 + k) = nI (al k) ∧ al k < 6) (hpm : zpm al)
    (hp : ∀ A g h : Nat → Int32, (∀ a b, a < b → b < m → A (7 * a + b) = nI (zT x ha hb hn 120 a b)) → (∀ y, 1 ≤ y → y ≤ 5 → h y = nI (zrkN al y)) → post (some (.int (nI (zcnt (fun a => zasF (zrkN (zal a)) x ha hb hn 0) 120)))) n (zm_h (zsA (zsA (zsA σ 85 A) 84 g) 76 h) ρ)) :
    ∀ (k p : Nat) (A g h : Nat → Int32), p + k = 120 → (∀ a b, a < b → b < m → A (7 * a + b) = nI (zT x ha hb hn p a b)) → zq_At l G (zq_rm D 0 0) mX12_laysAheadBy (zq_QF G post 0 0) 25 [(0, .ref 70), (1, .int (nI (zcnt (fun a => zasF (zrkN (zal a)) x ha hb hn 0) p))), (2, .int (nI p))] [] n (zm_h (zsA (zsA (zsA σ 85 A) 84 g) 76 h) ρ) 0 0 := by
  have hm7 := hC.2.1
  intro k
  induction k with
  | zero =>
    intro p A g h hi hA
    obtain rfl : p = 120 := hi
    have hp2 := hp A g (zrk h al 5) hA (fun y h1 h5 => zrk_at hpm h h1 h5)
    refine at_iload_n dX12_laysAheadBy_25 rfl ?_
    refine at_bipush dX12_laysAheadBy_26 (v := nI 120) (by decide) ?_
    refine at_geN (tgt := 121) dX12_laysAheadBy_28 (by decide) (by omega) (by omega) (fun c28 => ?_) (fun c28 => ?_)
    · refine at_aload_n dX12_laysAheadBy_121 rfl ?_
      refine at_callV0 (d := D - 1) dX12_laysAheadBy_122 mv_X12_132 rfl (Nat.le_of_ble_eq_true rfl) (zq_r0 (by omega) (by omega) (by omega)) ?_
      refine zm_laysRank (al := al) (fun k hk => by rw [zsA_o _ (by decide), zsA_o _ (by decide), zsA_o _ (by decide)]; exact hal k hk) ?_
      rw [show zsR (zsA (zsA (zsA σ 85 A) 84 g) 76 h) (zrk ((zsA (zsA (zsA σ 85 A) 84 g) 76 h).2.1 76) al 5) = zsA (zsA (zsA σ 85 A) 84 g) 76 (zrk h al 5) by rw [zsA_s]; exact zsA_A _ _ _ _]
      refine at_iload_n dX12_laysAheadBy_125 rfl ?_
      refine at_iret dX12_laysAheadBy_126 rfl (by omega) (by omega) ?_
      exact hp2
    · omega
  | succ k ih =>
    intro p A g h hi hA
    have hC2 : ∀ A, zC (zsA (zsA (zsA σ 85 A) 84 (zod g (zal p) 5)) 76 (zrk h (zal p) 5)) m x w (zrkN (zal p)) := fun A => zC_alph (σ := zsA σ 85 A) (zC_congr hC (zsA_o _ (by decide) _) (zsA_o _ (by decide) _)) (k := p) (by omega) (fun y h1 h5 => zrk_at (zal_pm (by omega)) h h1 h5)
    have hH2 : zH (zsA (zsA (zsA σ 85 A) 84 (zod g (zal p) 5)) 76 (zrk h (zal p) 5)) m hn ha hb := zH_alph (zH_congr hH (zsA_o _ (by decide) _))
    have hc : zcnt (fun a => zasF (zrkN (zal a)) x ha hb hn 0) (p + 1) = zcnt (fun a => zasF (zrkN (zal a)) x ha hb hn 0) p + if zasF (zrkN (zal p)) x ha hb hn 0 = true then 1 else 0 := rfl
    refine at_iload_n dX12_laysAheadBy_25 rfl ?_
    refine at_bipush dX12_laysAheadBy_26 (v := nI 120) (by decide) ?_
    refine at_geN (tgt := 121) dX12_laysAheadBy_28 (by decide) (by omega) (by omega) (fun c28 => ?_) (fun c28 => ?_)
    · omega
    · refine at_aload_n dX12_laysAheadBy_31 rfl ?_
      refine at_iload_n dX12_laysAheadBy_32 rfl ?_
      refine at_callV1 (d := D - 1) dX12_laysAheadBy_33 mv_X12_386 rfl (Nat.le_of_ble_eq_true rfl) (zq_r0 (by omega) (by omega) (by omega)) ?_
      refine zm_laysAlphabet (by omega) (by omega) ?_
      rw [show (zsA (zsA (zsA σ 85 A) 84 g) 76 h).2.1 84 = g by rw [zsA_o _ (by decide), zsA_s], zsA_s, zsAA]
      refine at_aload_n dX12_laysAheadBy_36 rfl ?_
      refine at_callV0 (d := D - 1) dX12_laysAheadBy_37 mv_X12_395 rfl (Nat.le_of_ble_eq_true rfl) (zq_r0 (by omega) (by omega) (by omega)) ?_
      refine zm_isAllSo (by omega) (hC2 A) hH2 ?_
      refine at_if_neB (tgt := 46) dX12_laysAheadBy_40 (by decide) (fun c40 => ?_) (fun c40 => ?_)
      · rw [if_pos c40] at hc
        refine at_iincN dX12_laysAheadBy_46 rfl (by decide) ?_
        refine at_iconst dX12_laysAheadBy_49 (v := nI 0) (by decide) ?_
        refine at_istore_n dX12_laysAheadBy_50 rfl (by decide) ?_
        refine zm_lab_p (T := zT x ha hb hn p) (by omega) hm7 hC2 m 0 A (Nat.zero_add _) (fun a b hab hb => ?_) (fun A' hA' => ?_)
        · rw [if_neg (by omega), Nat.add_zero]; exact hA a b hab hb
        · have hn2 := ih (p + 1) A' (zod g (zal p) 5) (zrk h (zal p) 5) (by omega) (fun a b hab hb => by
            rw [hA' a b hab hb]
            unfold zT
            rw [show ∀ P : Nat → Bool, zcnt P (p + 1) = zcnt P p + if P p = true then 1 else 0 from fun _ => rfl]
            congr 2
            rw [c40, Bool.true_and]
            by_cases hz : zah (zrkN (zal p)) (x a) (x b) = true
            · rw [if_pos ⟨by omega, hz⟩, if_pos hz]
            · rw [if_neg (fun hh => hz hh.2), if_neg hz])
          rw [hc] at hn2
          refine at_iincN dX12_laysAheadBy_115 rfl (by decide) ?_
          refine at_goto (tgt := 25) dX12_laysAheadBy_118 (by decide) ?_
          exact hn2
      · rw [if_neg (by rw [c40]; decide), Nat.add_zero] at hc
        have hn2 := ih (p + 1) A (zod g (zal p) 5) (zrk h (zal p) 5) (by omega) (fun a b hab hb => by
          rw [hA a b hab hb]
          unfold zT
          rw [show ∀ P : Nat → Bool, zcnt P (p + 1) = zcnt P p + if P p = true then 1 else 0 from fun _ => rfl, if_neg (by rw [c40]; simp), Nat.add_zero])
        rw [hc] at hn2
        refine at_goto (tgt := 115) dX12_laysAheadBy_43 (by decide) ?_
        refine at_iincN dX12_laysAheadBy_115 rfl (by decide) ?_
        refine at_goto (tgt := 25) dX12_laysAheadBy_118 (by decide) ?_
        exact hn2
theorem zm_lab0 {c : Int32} : ∀ (k i : Nat) (A : Nat → Int32), i + k = 49 → (∀ j, j < i → A j = nI 0) → (∀ A', (∀ j, j < 49 → A' j = nI 0) → zq_At l G (zq_rm D 0 0) mX12_laysAheadBy (zq_QF G post 0 0) 21 [(0, .ref 70), (1, .int (nI 49))] [] n (zm_h (zsA σ 85 A') ρ) 0 0) → zq_At l G (zq_rm D 0 0) mX12_laysAheadBy (zq_QF G post 0 0) 2 [(0, .ref 70), (1, .int (nI i))] [] n (zm_h (zsA σ 85 A) ρ) 0 0 := by
  intro k
  induction k with
  | zero =>
    intro i A hi hA hk
    obtain rfl : i = 49 := hi
    refine at_iload_n dX12_laysAheadBy_2 rfl ?_
    refine at_bipush dX12_laysAheadBy_3 (v := nI 49) (by decide) ?_
    refine at_geN (tgt := 21) dX12_laysAheadBy_5 (by decide) (by omega) (by omega) (fun c5 => ?_) (fun c5 => ?_)
    · exact hk A hA
    · omega
  | succ k ih =>
    intro i A hi hA hk
    refine at_iload_n dX12_laysAheadBy_2 rfl ?_
    refine at_bipush dX12_laysAheadBy_3 (v := nI 49) (by decide) ?_
    refine at_geN (tgt := 21) dX12_laysAheadBy_5 (by decide) (by omega) (by omega) (fun c5 => ?_) (fun c5 => ?_)
    · omega
    · refine at_aload_n dX12_laysAheadBy_8 rfl ?_
      refine at_get dX12_laysAheadBy_9 fl_X12_86 rfl rfl ?_
      refine at_iload_n dX12_laysAheadBy_12 rfl ?_
      refine at_iconst dX12_laysAheadBy_13 (v := nI 0) (by decide) ?_
      refine at_mast (a := 85) dX12_laysAheadBy_14 (by decide) (by decide) (by decide) (by decide) rfl rfl (by show _ < 49; omega) (by decide) ?_
      rw [zsA_a]
      refine at_iincN dX12_laysAheadBy_15 rfl (by decide) ?_
      refine at_goto (tgt := 2) dX12_laysAheadBy_18 (by decide) ?_
      refine ih (i + 1) _ (by omega) (fun j hj => ?_) hk
      by_cases e : j = i
      · subst e; rw [upd_s]
      · rw [upd_o _ e]; exact hA j (by omega)
theorem zm_laysAheadBy (hD : 9 ≤ D) (hC : zC σ m x w rk) (hH : zH σ m hn ha hb) (hal : ∀ k, k < 5 → σ.2.1 72 (14 + k) = nI (al k) ∧ al k < 6) (hpm : zpm al)
    (hp : ∀ A g h : Nat → Int32, (∀ a b, a < b → b < m → A (7 * a + b) = nI (zT x ha hb hn 120 a b)) → (∀ y, 1 ≤ y → y ≤ 5 → h y = nI (zrkN al y)) → post (some (.int (nI (zcnt (fun a => zasF (zrkN (zal a)) x ha hb hn 0) 120)))) n (zm_h (zsA (zsA (zsA σ 85 A) 84 g) 76 h) ρ)) : zq_Runs l G D 0 0 yX12_laysAheadBy [.ref 70] n (zm_h σ ρ) post := by
  have hm7 := hC.2.1
  refine zq_enter (cc := cX12_laysAheadBy) (nL := 5) (ret := (some .int)) cw_X12_laysAheadBy (by decide) rfl (Nat.le_of_ble_eq_true rfl) ?_
  have h0 := zm_lab0 (l := l) (G := G) (D := D) (n := n) (σ := σ) (ρ := ρ) (post := post) (c := 0) 49 0 (σ.2.1 85) rfl (fun j hj => absurd hj (Nat.not_lt_zero _)) (fun A' hA' => by
    have h1 := zm_lab_loop (l := l) (G := G) (D := D) (n := n) (ρ := ρ) (by omega) hC hH hal hpm hp 120 0 A' (σ.2.1 84) (σ.2.1 76) rfl (fun a b hab hb => hA' _ (by omega))
    rw [show zsA (zsA (zsA σ 85 A') 84 (σ.2.1 84)) 76 (σ.2.1 76) = zsA σ 85 A' by
      rw [show σ.2.1 84 = (zsA σ 85 A').2.1 84 from (zsA_o _ (by decide) _).symm, zsA_0, show σ.2.1 76 = (zsA σ 85 A').2.1 76 from (zsA_o _ (by decide) _).symm, zsA_0]] at h1
    refine at_iconst dX12_laysAheadBy_21 (v := nI 0) (by decide) ?_
    refine at_istore_n dX12_laysAheadBy_22 rfl (by decide) ?_
    refine at_iconst dX12_laysAheadBy_23 (v := nI 0) (by decide) ?_
    refine at_istore_n dX12_laysAheadBy_24 rfl (by decide) ?_
    exact h1
    )
  rw [zsA_0] at h0
  refine at_iconst dX12_laysAheadBy_0 (v := nI 0) (by decide) ?_
  refine at_istore_n dX12_laysAheadBy_1 rfl (by decide) ?_
  exact h0
/-- the best pair of those with p, from q on (k of them): b - 1 so far, ls its count; N fit, T a b of them put a ahead of b -/
def zkI (x : Nat → Nat) (T : Nat → Nat → Nat) (N p : Nat) : Nat → Nat → Nat × Nat → Nat × Nat
  | 0, _, s => s
  | k + 1, q, s => zkI x T N p k (q + 1) (if x p = x q ∨ s.2 ≤ max (T p q) (N - T p q) then s else (10 * p + q + 1, max (T p q) (N - T p q)))
def zkO (x : Nat → Nat) (T : Nat → Nat → Nat) (N m : Nat) : Nat → Nat → Nat × Nat → Nat × Nat
  | 0, _, s => s
  | k + 1, p, s => zkO x T N m k (p + 1) (zkI x T N p (m - (p + 1)) (p + 1) s)
def zkS (s : Nat × Nat) : Prop := s.1 ≤ 1000 ∧ s.2 ≤ 1000000
theorem zkI_S (x : Nat → Nat) (T : Nat → Nat → Nat) {N p : Nat} (hN : N ≤ 120) (hp : p < 7) (hT : ∀ a b, T a b ≤ N) : ∀ k q s, q + k ≤ 7 → zkS s → zkS (zkI x T N p k q s)
  | 0, _, _, _, h => h
  | k + 1, q, s, hq, h => by
    unfold zkI
    refine zkI_S x T hN hp hT k (q + 1) _ (by omega) ?_
    split
    · exact h
    · refine ⟨by show 10 * p + q + 1 ≤ 1000; omega, ?_⟩
      show max (T p q) (N - T p q) ≤ 1000000
      have := hT p q
      omega
theorem zkO_S (x : Nat → Nat) (T : Nat → Nat → Nat) {N m : Nat} (hN : N ≤ 120) (hm : m ≤ 7) (hT : ∀ a b, T a b ≤ N) : ∀ k p s, p + k ≤ m → zkS s → zkS (zkO x T N m k p s)
  | 0, _, _, _, h => h
  | k + 1, p, s, hp, h => by
    unfold zkO
    exact zkO_S x T hN hm hT k (p + 1) _ (by omega) (zkI_S x T hN (by omega) hT _ _ _ (by omega) h)
theorem zm_ask_q {v : Int32} {N p : Nat} {T : Nat → Nat → Nat} (hD : 2 ≤ D) (hC : zC σ m x w rk) (hN : N ≤ 120) (hT : ∀ a b, T a b ≤ N) (hA : ∀ a b, a < b → b < m → σ.2.1 85 (7 * a + b) = nI (T a b)) (hpm : p < m) : ∀ (k q : Nat) (s : Nat × Nat), q + k = m → p < q → zkS s → (∀ lv7 lv8 : Int32, zq_At l G (zq_rm D 0 0) mX12_ask (zq_QF G post 0 0) 129 [(0, .ref 70), (1, .int v), (2, .int (nI N)), (3, .int (zlast (zkI x T N p k q s).1)), (4, .int (nI (zkI x T N p k q s).2)), (5, .int (nI p))] [] n (zm_h σ ρ) 0 0) → zq_At l G (zq_rm D 0 0) mX12_ask (zq_QF G post 0 0) 44 [(0, .ref 70), (1, .int v), (2, .int (nI N)), (3, .int (zlast s.1)), (4, .int (nI s.2)), (5, .int (nI p)), (6, .int (nI q))] [] n (zm_h σ ρ) 0 0 := by
  have hm := hC.1
  have hm7 := hC.2.1
  intro k
  induction k with
  | zero =>
    intro q s hq hpq hs hk
    obtain rfl : q = m := hq
    refine at_iload dX12_ask_44 rfl ?_
    refine at_aload_n dX12_ask_46 rfl ?_
    refine at_callV0 (d := D - 1) dX12_ask_47 mv_X12_141 rfl (Nat.le_of_ble_eq_true rfl) (zq_r0 (by omega) (by omega) (by omega)) ?_
    refine zm_many hm ?_
    refine at_geN (tgt := 129) dX12_ask_50 (by decide) (by omega) (by omega) (fun c50 => ?_) (fun c50 => ?_)
    · exact at_lv [0, 1, 2, 3, 4, 5] (hk 0 0)
    · omega
  | succ k ih =>
    intro q s hq hpq hs hk
    have hTp := hT p q
    have hmx : max (T p q) (N - T p q) ≤ 120 := by omega
    have e : (if nI (N - T p q) < nI (T p q) then nI (T p q) else nI (N - T p q)) = nI (max (T p q) (N - T p q)) := by
      by_cases h : N - T p q < T p q
      · rw [if_pos (nI_lt h (by omega)), Nat.max_eq_left (by omega)]
      · rw [if_neg (nI_nlt (by omega) (by omega)), Nat.max_eq_right (by omega)]
    have hx1 := (hC.2.2.1 p hpm)
    have hx2 := (hC.2.2.1 q (by omega))
    have hv1 := hx1.2.2.1
    have hv2 := hx2.2.2.1
    have hs1 := hs.1
    have hs2 := hs.2
    unfold zkI at hk
    refine at_iload dX12_ask_44 rfl ?_
    refine at_aload_n dX12_ask_46 rfl ?_
    refine at_callV0 (d := D - 1) dX12_ask_47 mv_X12_141 rfl (Nat.le_of_ble_eq_true rfl) (zq_r0 (by omega) (by omega) (by omega)) ?_
    refine zm_many hm ?_
    refine at_geN (tgt := 129) dX12_ask_50 (by decide) (by omega) (by omega) (fun c50 => ?_) (fun c50 => ?_)
    · omega
    · refine at_aload_n dX12_ask_53 rfl ?_
      refine at_get dX12_ask_54 fl_X12_86 rfl rfl ?_
      refine at_bipush dX12_ask_57 (v := nI 7) (by decide) ?_
      refine at_iload dX12_ask_59 rfl ?_
      refine at_imulN dX12_ask_61 ?_
      refine at_iload dX12_ask_62 rfl ?_
      refine at_iaddN dX12_ask_64 ?_
      refine at_mald (a := 85) dX12_ask_65 (by decide) (by decide) (by decide) (by decide) rfl rfl (by show _ < 49; omega) (by decide) ?_
      rw [hA p q hpq (by omega)]
      refine at_istore dX12_ask_66 (by decide) ?_
      refine at_iload dX12_ask_68 rfl ?_
      refine at_iload_n dX12_ask_70 rfl ?_
      refine at_iload dX12_ask_71 rfl ?_
      refine at_isubN dX12_ask_73 (by omega) ?_
      refine at_callS2 (d := D - 1) dX12_ask_74 ms_X12_401 (Nat.le_of_ble_eq_true rfl) (zq_r0 (by omega) (by omega) (by omega)) ?_
      refine zm_greater ?_
      rw [e]
      refine at_istore dX12_ask_77 (by decide) ?_
      refine at_aload_n dX12_ask_79 rfl ?_
      refine at_get dX12_ask_80 fl_X12_42 rfl rfl ?_
      refine at_iconst dX12_ask_83 (v := nI 0) (by decide) ?_
      refine at_iload dX12_ask_84 rfl ?_
      refine at_iaddN dX12_ask_86 ?_
      refine at_mald (a := 72) dX12_ask_87 (by decide) (by decide) (by decide) (by decide) rfl rfl (by show _ < 5684; omega) (by decide) ?_
      rw [Nat.zero_add p, hx1.1]
      refine at_aload_n dX12_ask_88 rfl ?_
      refine at_get dX12_ask_89 fl_X12_42 rfl rfl ?_
      refine at_iconst dX12_ask_92 (v := nI 0) (by decide) ?_
      refine at_iload dX12_ask_93 rfl ?_
      refine at_iaddN dX12_ask_95 ?_
      refine at_mald (a := 72) dX12_ask_96 (by decide) (by decide) (by decide) (by decide) rfl rfl (by show _ < 5684; omega) (by decide) ?_
      rw [Nat.zero_add q, hx2.1]
      refine at_eqN (tgt := 123) dX12_ask_97 (by decide) (by omega) (by omega) (fun c97 => ?_) (fun c97 => ?_)
      · rw [if_pos (Or.inl c97)] at hk
        have hnx := ih (q + 1) s (by omega) (by omega) hs hk
        refine at_iincN dX12_ask_123 rfl (by decide) ?_
        refine at_goto (tgt := 44) dX12_ask_126 (by decide) ?_
        exact at_lv [0, 1, 2, 3, 4, 5, 6] hnx
      · refine at_iload dX12_ask_100 rfl ?_
        refine at_iload dX12_ask_102 rfl ?_
        refine at_ltN (tgt := 110) dX12_ask_104 (by decide) (by omega) (by omega) (fun c104 => ?_) (fun c104 => ?_)
        · rw [if_neg (fun h => by rcases h with h | h <;> omega)] at hk
          have hnx := ih (q + 1) (10 * p + q + 1, max (T p q) (N - T p q)) (by omega) (by omega) ⟨by show 10 * p + q + 1 ≤ 1000; omega, by show max (T p q) (N - T p q) ≤ 1000000; omega⟩ hk
          refine at_iload dX12_ask_110 rfl ?_
          refine at_istore dX12_ask_112 (by decide) ?_
          refine at_bipush dX12_ask_114 (v := nI 10) (by decide) ?_
          refine at_iload dX12_ask_116 rfl ?_
          refine at_imulN dX12_ask_118 ?_
          refine at_iload dX12_ask_119 rfl ?_
          refine at_iaddN dX12_ask_121 ?_
          refine at_istore_n dX12_ask_122 rfl (by decide) ?_
          refine at_iincN dX12_ask_123 rfl (by decide) ?_
          refine at_goto (tgt := 44) dX12_ask_126 (by decide) ?_
          exact at_lv [0, 1, 2, 3, 4, 5, 6] hnx
        · rw [if_pos (Or.inr c104)] at hk
          have hnx := ih (q + 1) s (by omega) (by omega) hs hk
          refine at_goto (tgt := 123) dX12_ask_107 (by decide) ?_
          refine at_iincN dX12_ask_123 rfl (by decide) ?_
          refine at_goto (tgt := 44) dX12_ask_126 (by decide) ?_
          exact at_lv [0, 1, 2, 3, 4, 5, 6] hnx
theorem zm_ask_p {v : Int32} {N : Nat} {T : Nat → Nat → Nat} (hD : 2 ≤ D) (hC : zC σ m x w rk) (hN : N ≤ 120) (hT : ∀ a b, T a b ≤ N) (hA : ∀ a b, a < b → b < m → σ.2.1 85 (7 * a + b) = nI (T a b)) : ∀ (k p : Nat) (s : Nat × Nat), p + k = m → zkS s → zq_At l G (zq_rm D 0 0) mX12_ask (zq_QF G post 0 0) 135 [(0, .ref 70), (1, .int v), (2, .int (nI N)), (3, .int (zlast (if N = 0 then s else zkO x T N m k p s).1)), (4, .int (nI (if N = 0 then s else zkO x T N m k p s).2))] [] n (zm_h σ ρ) 0 0 → zq_At l G (zq_rm D 0 0) mX12_ask (zq_QF G post 0 0) 25 [(0, .ref 70), (1, .int v), (2, .int (nI N)), (3, .int (zlast s.1)), (4, .int (nI s.2)), (5, .int (nI p))] [] n (zm_h σ ρ) 0 0 := by
  have hm := hC.1
  have hm7 := hC.2.1
  intro k
  induction k with
  | zero =>
    intro p s hp hs hk
    obtain rfl : p = m := hp
    rw [show (if N = 0 then s else zkO x T N p 0 p s) = s by split <;> rfl] at hk
    refine at_iload dX12_ask_25 rfl ?_
    refine at_aload_n dX12_ask_27 rfl ?_
    refine at_callV0 (d := D - 1) dX12_ask_28 mv_X12_141 rfl (Nat.le_of_ble_eq_true rfl) (zq_r0 (by omega) (by omega) (by omega)) ?_
    refine zm_many hm ?_
    refine at_geN (tgt := 135) dX12_ask_31 (by decide) (by omega) (by omega) (fun c31 => ?_) (fun c31 => ?_)
    · exact at_lv [0, 1, 2, 3, 4] hk
    · omega
  | succ k ih =>
    intro p s hp hs hk
    by_cases hN0 : N = 0
    · rw [if_pos hN0] at hk
      subst hN0
      refine at_iload dX12_ask_25 rfl ?_
      refine at_aload_n dX12_ask_27 rfl ?_
      refine at_callV0 (d := D - 1) dX12_ask_28 mv_X12_141 rfl (Nat.le_of_ble_eq_true rfl) (zq_r0 (by omega) (by omega) (by omega)) ?_
      refine zm_many hm ?_
      refine at_geN (tgt := 135) dX12_ask_31 (by decide) (by omega) (by omega) (fun c31 => ?_) (fun c31 => ?_)
      · omega
      · refine at_iload_n dX12_ask_34 rfl ?_
        refine at_if_le (tgt := 135) dX12_ask_35 (by decide) (fun c35 => ?_) (fun c35 => ?_)
        · exact at_lv [0, 1, 2, 3, 4] hk
        · exact absurd (by decide) c35
    · rw [if_neg hN0] at hk
      unfold zkO at hk
      refine at_iload dX12_ask_25 rfl ?_
      refine at_aload_n dX12_ask_27 rfl ?_
      refine at_callV0 (d := D - 1) dX12_ask_28 mv_X12_141 rfl (Nat.le_of_ble_eq_true rfl) (zq_r0 (by omega) (by omega) (by omega)) ?_
      refine zm_many hm ?_
      refine at_geN (tgt := 135) dX12_ask_31 (by decide) (by omega) (by omega) (fun c31 => ?_) (fun c31 => ?_)
      · omega
      · refine at_iload_n dX12_ask_34 rfl ?_
        refine at_if_le (tgt := 135) dX12_ask_35 (by decide) (fun c35 => ?_) (fun c35 => ?_)
        · exact absurd c35 (nI_nle (by omega) (by omega))
        · refine at_iload dX12_ask_38 rfl ?_
          refine at_iconst dX12_ask_40 (v := nI 1) (by decide) ?_
          refine at_iaddN dX12_ask_41 ?_
          refine at_istore dX12_ask_42 (by decide) ?_
          refine zm_ask_q hD hC hN hT hA (by omega) (m - (p + 1)) (p + 1) s (by omega) (by omega) hs (fun _ _ => ?_)
          refine at_iincN dX12_ask_129 rfl (by decide) ?_
          refine at_goto (tgt := 25) dX12_ask_132 (by decide) ?_
          exact ih (p + 1) _ (by omega) (zkI_S x T hN (by omega) hT _ _ _ (by omega) hs) (by rw [if_neg hN0]; exact hk)
/-- which two to ask for (b - 1, b 0: none), and the count -/
def zask (x ha hb : Nat → Nat) (m hn : Nat) : Nat × Nat := if zcnt (fun a => zasF (zrkN (zal a)) x ha hb hn 0) 120 = 0 then (0, 1000000) else zkO x (zT x ha hb hn 120) (zcnt (fun a => zasF (zrkN (zal a)) x ha hb hn 0) 120) m m 0 (0, 1000000)
theorem zcnt_and (P Q : Nat → Bool) : ∀ k, zcnt (fun a => P a && Q a) k ≤ zcnt P k
  | 0 => Nat.le_refl _
  | k + 1 => by
    have h := zcnt_and P Q k
    show zcnt _ k + (if (P k && Q k) = true then 1 else 0) ≤ zcnt P k + if P k = true then 1 else 0
    cases P k with
    | false => simp; exact h
    | true => simp only [Bool.true_and, if_true]; split <;> omega
theorem zm_ask {v : Int32} (hD : 10 ≤ D) (hC : zC σ m x w rk) (hH : zH σ m hn ha hb) (hal : ∀ k, k < 5 → σ.2.1 72 (14 + k) = nI (al k) ∧ al k < 6) (hpm : zpm al) (hf : (decide (nI 0 ≤ v) && decide (v ≤ nI 1)) = false → post (some (.int (-1))) n (zm_h σ ρ))
    (ht : ∀ A g h : Nat → Int32, (∀ y, 1 ≤ y → y ≤ 5 → h y = nI (zrkN al y)) → (v = nI 0 ∨ v = nI 1) → post (some (.int (if (zask x ha hb m hn).1 = 0 ∨ v = nI 0 then zlast (zask x ha hb m hn).1 else nI (zask x ha hb m hn).2))) n (zm_h (zsA (zsA (zsA σ 85 A) 84 g) 76 h) ρ)) : zq_Runs l G D 0 0 yX12_ask [.ref 70, .int v] n (zm_h σ ρ) post := by
  have hm7 := hC.2.1
  have hN := zcnt_le (fun a => zasF (zrkN (zal a)) x ha hb hn 0) 120
  have hT : ∀ a b, zT x ha hb hn 120 a b ≤ zcnt (fun a => zasF (zrkN (zal a)) x ha hb hn 0) 120 := fun a b => zcnt_and _ _ _
  unfold zask at ht
  refine zq_enter (cc := cX12_ask) (nL := 9) (ret := (some .int)) cw_X12_ask (by decide) rfl (Nat.le_of_ble_eq_true rfl) ?_
  refine at_iload_n dX12_ask_0 rfl ?_
  refine at_iconst dX12_ask_1 (v := nI 0) (by decide) ?_
  refine at_iconst dX12_ask_2 (v := nI 1) (by decide) ?_
  refine at_callS3 (d := D - 1) dX12_ask_3 ms_X12_18 (Nat.le_of_ble_eq_true rfl) (zq_r0 (by omega) (by omega) (by omega)) ?_
  refine zm_lies ?_
  refine at_if_neB (tgt := 11) dX12_ask_6 (by decide) (fun c6 => ?_) (fun c6 => ?_)
  · refine at_aload_n dX12_ask_11 rfl ?_
    refine at_callV0 (d := D - 1) dX12_ask_12 mv_X12_398 rfl (Nat.le_of_ble_eq_true rfl) (zq_r0 (by omega) (by omega) (by omega)) ?_
    refine zm_laysAheadBy (by omega) hC hH hal hpm (fun A g h hA hh => ?_)
    refine at_istore_n dX12_ask_15 rfl (by decide) ?_
    refine at_iconst dX12_ask_16 (v := -1) rfl ?_
    refine at_istore_n dX12_ask_17 rfl (by decide) ?_
    refine at_ldc dX12_ask_18 (v := nI 1000000) kc_X12_196 ?_
    refine at_istore dX12_ask_20 (by decide) ?_
    refine at_iconst dX12_ask_22 (v := nI 0) (by decide) ?_
    refine at_istore dX12_ask_23 (by decide) ?_
    obtain ⟨b, -, hb2, rfl⟩ := zlies_n (by decide) (by decide) c6
    have hC3 : zC (zsA (zsA (zsA σ 85 A) 84 g) 76 h) m x w (zrkN al) := ⟨by rw [zsA_o _ (by decide), zsA_o _ (by decide), zsA_o _ (by decide)]; exact hC.1, hm7, fun p hp => by rw [zsA_o _ (by decide), zsA_o _ (by decide), zsA_o _ (by decide)]; exact hC.2.2.1 p hp, fun p hp => by rw [zsA_o _ (by decide), zsA_o _ (by decide), zsA_o _ (by decide)]; exact hC.2.2.2.1 p hp, fun y h1 h5 => ⟨by rw [zsA_s]; exact hh y h1 h5, zrkN_lt _ _⟩⟩
    have hp := ht A g h hh (by rcases (show b = 0 ∨ b = 1 by omega) with rfl | rfl; exact Or.inl rfl; exact Or.inr rfl)
    refine zm_ask_p (by omega) hC3 hN hT (fun a b hab hb => by rw [zsA_o _ (by decide), zsA_o _ (by decide), zsA_s]; exact hA a b hab hb) m 0 (0, 1000000) (Nat.zero_add _) ⟨by decide, by decide⟩ ?_
    generalize hS : (if zcnt (fun a => zasF (zrkN (zal a)) x ha hb hn 0) 120 = 0 then ((0, 1000000) : Nat × Nat) else zkO x (zT x ha hb hn 120) (zcnt (fun a => zasF (zrkN (zal a)) x ha hb hn 0) 120) m m 0 (0, 1000000)) = S at hp ⊢
    have hS1 : S.1 < 2147483647 := by
      have : zkS S := by
        rw [← hS]
        split
        · exact ⟨by decide, by decide⟩
        · exact zkO_S x _ hN hm7 hT m 0 _ (by omega) ⟨by decide, by decide⟩
      have := this.1
      omega
    refine at_iload_n dX12_ask_135 rfl ?_
    refine at_iconst dX12_ask_136 (v := -1) rfl ?_
    refine at_icmp_eq (tgt := 144) dX12_ask_137 (by decide) (fun c137 => ?_) (fun c137 => ?_)
    · rw [if_pos (Or.inl ((zlast_ne hS1).mp c137))] at hp
      refine at_iload_n dX12_ask_144 rfl ?_
      refine at_goto (tgt := 150) dX12_ask_145 (by decide) ?_
      refine at_iret dX12_ask_150 rfl (by omega) (by omega) ?_
      exact hp
    · refine at_iload_n dX12_ask_140 rfl ?_
      refine at_if_neN (tgt := 148) dX12_ask_141 (by decide) (by omega) (fun c141 => ?_) (fun c141 => ?_)
      · rw [if_neg (fun hx => by rcases hx with hx | hx; exact c137 ((zlast_ne hS1).mpr hx); exact c141 ((nI_eq (by omega) (by decide)).mp hx))] at hp
        refine at_iload dX12_ask_148 rfl ?_
        refine at_iret dX12_ask_150 rfl (by omega) (by omega) ?_
        exact hp
      · rw [if_pos (Or.inr (by rw [c141]))] at hp
        refine at_iload_n dX12_ask_144 rfl ?_
        refine at_goto (tgt := 150) dX12_ask_145 (by decide) ?_
        refine at_iret dX12_ask_150 rfl (by omega) (by omega) ?_
        exact hp
  · have hp := hf c6
    refine at_iconst dX12_ask_9 (v := -1) rfl ?_
    refine at_iret dX12_ask_10 rfl (by omega) (by omega) ?_
    exact hp
end ZL7

