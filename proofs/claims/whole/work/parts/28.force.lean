/-! ===== the Model: laws, what calls leave behind that no other call reads ===== -/
/-- ints and rows that no call leaves to a later one -/
def zJi (k : Nat) : Bool := decide (k ∈ [9, 10, 11, 19, 20, 21, 22, 23, 24, 25, 26, 28, 29, 35, 40, 46, 47, 48, 49, 50, 54])
def zJa (k : Nat) : Bool := decide (k ∈ [75, 79, 80, 81, 82, 83, 84, 85, 86, 87, 88, 89, 90, 91, 92, 93, 95, 96])
/-- alike but for those -/
def zEs (σ τ : zm_S) : Prop := (∀ k, zJi k = false → σ.1 k = τ.1 k) ∧ (∀ a, zJa a = false → σ.2.1 a = τ.2.1 a)
theorem zEs_r (σ : zm_S) : zEs σ σ := ⟨fun _ _ => rfl, fun _ _ => rfl⟩
theorem zEs_t {σ τ υ : zm_S} (h : zEs σ τ) (g : zEs τ υ) : zEs σ υ := ⟨fun k hk => (h.1 k hk).trans (g.1 k hk), fun k hk => (h.2 k hk).trans (g.2 k hk)⟩
theorem zEs_s {σ τ : zm_S} (h : zEs σ τ) : zEs τ σ := ⟨fun k hk => (h.1 k hk).symm, fun k hk => (h.2 k hk).symm⟩
theorem zEs_i {σ τ : zm_S} {k : Nat} {v : Int32} (hk : zJi k = true) (h : zEs σ τ) : zEs (zm_si σ k v) τ := by
  refine ⟨fun j hj => ?_, h.2⟩
  have : j ≠ k := by rintro rfl; rw [hk] at hj; cases hj
  rw [zsi_o _ this]
  exact h.1 j hj
theorem zEs_a {σ τ : zm_S} {a : Nat} {g : Nat → Int32} (hk : zJa a = true) (h : zEs σ τ) : zEs (zsA σ a g) τ := by
  refine ⟨h.1, fun j hj => ?_⟩
  have : j ≠ a := by rintro rfl; rw [hk] at hj; cases hj
  rw [zsA_o _ this]
  exact h.2 j hj
theorem zEs_ma {σ τ : zm_S} {a i : Nat} {v : Int32} (hk : zJa a = true) (h : zEs σ τ) : zEs (zm_sa σ a i v) τ := zEs_a hk h
theorem zEs_l {σ τ : zm_S} {a i : Nat} {v : Int64} (h : zEs σ τ) : zEs (zm_sl σ a i v) τ := h
theorem zEs_ci {σ τ : zm_S} (k : Nat) (v : Int32) (h : zEs σ τ) : zEs (zm_si σ k v) (zm_si τ k v) := by
  refine ⟨fun j hj => ?_, h.2⟩
  by_cases e : j = k
  · subst e; rw [zsi_s, zsi_s]
  · rw [zsi_o _ e, zsi_o _ e]; exact h.1 j hj
theorem zEs_ca {σ τ : zm_S} (a : Nat) (g : Nat → Int32) (h : zEs σ τ) : zEs (zsA σ a g) (zsA τ a g) := by
  refine ⟨h.1, fun j hj => ?_⟩
  by_cases e : j = a
  · subst e; rw [zsA_s, zsA_s]
  · rw [zsA_o _ e, zsA_o _ e]; exact h.2 j hj
theorem zEs_rd {σ τ : zm_S} {q : zQ} (h : zEs σ τ) : zEs (zrd σ q) τ := zEs_i rfl (zEs_i rfl (zEs_i rfl h))
theorem zEs_sp {σ τ : zm_S} {C V P : Nat → Int32} {j : Nat} (h : zEs σ τ) : zEs (zsp σ C V P j) τ := zEs_i rfl (zEs_a rfl (zEs_a rfl (zEs_a rfl h)))
theorem zEs_ref {σ τ : zm_S} (j : Nat) (h : zEs σ τ) : zEs (zref σ j) (zref τ j) := by
  unfold zref
  rw [zsA_m, zsA_m]
  have e : σ.2.1 71 = τ.2.1 71 := h.2 71 rfl
  rw [show (zm_si σ 0 (-nI j)).2.1 71 = τ.2.1 71 from e, show (zm_si τ 0 (-nI j)).2.1 71 = τ.2.1 71 from rfl, e]
  exact zEs_ca _ _ (zEs_ci _ _ h)
theorem zsK_A (σ : zm_S) (K : Nat → Int32) : zsK σ K = zsA σ 72 K := rfl
/-- a text is laid as the t-th one: k of its tokens -/
def zlay (K C V : Nat → Int32) (t : Nat) : Nat → Nat → Int32
  | 0 => K
  | k + 1 => upd (upd (zlay K C V t k) (84 + 400 * t + k) (C k)) (2884 + 400 * t + k) (V k)
theorem zlay_at (K C V : Nat → Int32) {t : Nat} (ht : t < 7) : ∀ k j, k ≤ 400 → zlay K C V t k j = if 84 + 400 * t ≤ j ∧ j < 84 + 400 * t + k then C (j - (84 + 400 * t)) else if 2884 + 400 * t ≤ j ∧ j < 2884 + 400 * t + k then V (j - (2884 + 400 * t)) else K j
  | 0, j, _ => by rw [if_neg (by omega), if_neg (by omega)]; rfl
  | k + 1, j, hk => by
    unfold zlay
    have ih := zlay_at K C V ht k j (by omega)
    by_cases h1 : j = 2884 + 400 * t + k
    · subst h1
      rw [upd_s, if_neg (by omega), if_pos (by omega), Nat.add_sub_cancel_left]
    · rw [upd_o _ h1]
      by_cases h2 : j = 84 + 400 * t + k
      · subst h2
        rw [upd_s, if_pos (by omega), Nat.add_sub_cancel_left]
      · rw [upd_o _ h2, ih]
        by_cases h3 : 84 + 400 * t ≤ j ∧ j < 84 + 400 * t + k
        · rw [if_pos h3, if_pos (by omega)]
        · rw [if_neg h3, if_neg (c := 84 + 400 * t ≤ j ∧ j < 84 + 400 * t + (k + 1)) (by omega)]
          by_cases h4 : 2884 + 400 * t ≤ j ∧ j < 2884 + 400 * t + k
          · rw [if_pos h4, if_pos (by omega)]
          · rw [if_neg h4, if_neg (by omega)]
/-- the t-th text with its length -/
def zlaid (K C V : Nat → Int32) (t N : Nat) : Nat → Int32 := zlay (upd K (77 + t) (nI N)) C V t N
section ZL19
variable {l : Launch} {G : zq_G} {D n : Nat} {o : Bool} {σ : zm_S} {ρ : Nat → zq_E} {post : Option Value → Nat → (Nat → zq_E) → Prop}
/-- the reader's answer to the bytes on the tape -/
def zRd (T : Nat → Int32) (z : Nat) (o : Bool) : zQ := zAns T z (if o = true then 15 else 8) (if o = true then 21 else 15) o
/-- what reading leaves -/
def zLR (σ : zm_S) (z : Nat) (o : Bool) (τ : zm_S) : Prop :=
  zEs τ (zm_si (zm_si σ 14 0) 15 (zlast (zRd (σ.2.1 78) z o).2.2)) ∧ τ.1 19 = nI (zTok (σ.2.1 78) z).length ∧ (zTok (σ.2.1 78) z).length ≤ z ∧
  ∀ j, j < (zTok (σ.2.1 78) z).length → τ.2.1 80 j = nI (zcN (σ.2.1 78) z j) ∧ τ.2.1 81 j = nI (zvN (σ.2.1 78) z j)
theorem zm_readsAs {z : Nat} (hD : 50 ≤ D) (hw : zWr σ) (h14 : σ.1 14 = nI z) (hz : z ≤ 400)
    (hp : ∀ τ, zLR σ z o τ → post (some (.int (zb (decide ((zRd (σ.2.1 78) z o).2.2 = 0))))) n (zm_h τ ρ)) : zq_Runs l G D 0 0 yX12_readsAs [.ref 70, .int (zb o)] n (zm_h σ ρ) post := by
  refine zq_enter (cc := cX12_readsAs) (nL := 2) (ret := (some .boolean)) cw_X12_readsAs (by decide) rfl (Nat.le_of_ble_eq_true rfl) ?_
  have go : ∀ fw lw, fw = (if o = true then 15 else 8) → lw = (if o = true then 21 else 15) → zq_At l G (zq_rm D 0 0) mX12_readsAs (zq_QF G post 0 0) 35 [(0, .ref 70), (1, .int (zb o))] [] n (zm_h (zm_si (zm_si (zm_si σ 11 (zb o)) 9 (nI fw)) 10 (nI lw)) ρ) 0 0 := by
    intro fw lw hfw hlw
    refine at_aload_n dX12_readsAs_35 rfl ?_
    refine at_callV0 (d := D - 1) dX12_readsAs_36 mv_X12_270 rfl (Nat.le_of_ble_eq_true rfl) (zq_r0 (by omega) (by omega) (by omega)) ?_
    refine zm_reads (z := z) (fw := fw) (lw := lw) (o := o) (by omega) hw h14 hz ⟨rfl, rfl, rfl, by cases o <;> simp [hfw], by cases o <;> simp [hfw], by cases o <;> simp [hlw]⟩ (fun C V P g1 g2 g3 => ?_)
    have e : zAns ((zm_si (zm_si (zm_si σ 11 (zb o)) 9 (nI fw)) 10 (nI lw)).2.1 78) z fw lw o = zRd (σ.2.1 78) z o := by rw [hfw, hlw]; rfl
    rw [e]
    have hp := hp (zm_si (zrd (zm_si (zsp (zm_si (zm_si (zm_si σ 11 (zb o)) 9 (nI fw)) 10 (nI lw)) C V P (zTok (σ.2.1 78) z).length) 14 0) (zRd (σ.2.1 78) z o)) 15 (zlast (zRd (σ.2.1 78) z o).2.2)) ⟨zEs_ci _ _ (zEs_rd (zEs_ci _ _ (zEs_sp (zEs_i rfl (zEs_i rfl (zEs_i rfl (zEs_r _))))))), rfl, g2, fun j hj => by
      obtain ⟨b1, b2, b3⟩ := g1 j _ (List.getElem?_eq_getElem hj)
      rw [show zcN (σ.2.1 78) z j = zcode (σ.2.1 78) (zTok (σ.2.1 78) z)[j].1 (zTok (σ.2.1 78) z)[j].2 by unfold zcN; rw [List.getElem?_eq_getElem hj], show zvN (σ.2.1 78) z j = zval (σ.2.1 78) (zTok (σ.2.1 78) z)[j].1 (zTok (σ.2.1 78) z)[j].2 by unfold zvN; rw [List.getElem?_eq_getElem hj]]
      exact ⟨b1, b2⟩⟩
    refine at_zret dX12_readsAs_39 rfl (by omega) (by omega) (zb_01 _) ?_
    exact hp
  refine at_aload_n dX12_readsAs_0 rfl ?_
  refine at_iload_n dX12_readsAs_1 rfl ?_
  refine at_mput dX12_readsAs_2 (pl_X12_229 _) (fun _ => ⟨_, rfl⟩) (by cases o <;> rfl) (by cases o <;> rfl) ?_
  refine at_aload_n dX12_readsAs_5 rfl ?_
  refine at_iload_n dX12_readsAs_6 rfl ?_
  refine at_if_eqB (tgt := 15) dX12_readsAs_7 (by decide) (fun c7 => ?_) (fun c7 => ?_)
  · subst c7
    refine at_bipush dX12_readsAs_15 (v := nI 8) (by decide) ?_
    refine at_mput dX12_readsAs_17 (pl_X12_255 _) (fun _ => ⟨_, rfl⟩) rfl rfl ?_
    refine at_aload_n dX12_readsAs_20 rfl ?_
    refine at_iload_n dX12_readsAs_21 rfl ?_
    refine at_if_eqB (tgt := 30) dX12_readsAs_22 (by decide) (fun c22 => ?_) (fun c22 => ?_)
    · refine at_bipush dX12_readsAs_30 (v := nI 15) (by decide) ?_
      refine at_mput dX12_readsAs_32 (pl_X12_258 _) (fun _ => ⟨_, rfl⟩) rfl rfl ?_
      exact go _ _ rfl rfl
    · cases c22
  · subst c7
    refine at_bipush dX12_readsAs_10 (v := nI 15) (by decide) ?_
    refine at_goto (tgt := 17) dX12_readsAs_12 (by decide) ?_
    refine at_mput dX12_readsAs_17 (pl_X12_255 _) (fun _ => ⟨_, rfl⟩) rfl rfl ?_
    refine at_aload_n dX12_readsAs_20 rfl ?_
    refine at_iload_n dX12_readsAs_21 rfl ?_
    refine at_if_eqB (tgt := 30) dX12_readsAs_22 (by decide) (fun c22 => ?_) (fun c22 => ?_)
    · cases c22
    · refine at_bipush dX12_readsAs_25 (v := nI 21) (by decide) ?_
      refine at_goto (tgt := 32) dX12_readsAs_27 (by decide) ?_
      refine at_mput dX12_readsAs_32 (pl_X12_258 _) (fun _ => ⟨_, rfl⟩) rfl rfl ?_
      exact go _ _ rfl rfl
theorem zm_lays_loop {K C V : Nat → Int32} {t N : Nat} (ht : t < 7) (hN : N ≤ 400) (h19 : σ.1 19 = nI N) (hC : ∀ j, j < N → σ.2.1 80 j = C j) (hV : ∀ j, j < N → σ.2.1 81 j = V j) (hp : post none n (zm_h (zsK σ (zlay K C V t N)) ρ)) : ∀ k i : Nat, i + k = N → zq_At l G (zq_rm D 0 0) mX12_lays (zq_QF G post 0 0) 15 [(0, .ref 70), (1, .int (nI t)), (2, .int (nI i))] [] n (zm_h (zsK σ (zlay K C V t i)) ρ) 0 0 := by
  intro k
  induction k with
  | zero =>
    intro i hi
    obtain rfl : i = N := hi
    refine at_iload_n dX12_lays_15 rfl ?_
    refine at_aload_n dX12_lays_16 rfl ?_
    refine at_get dX12_lays_17 fl_X12_184 rfl rfl ?_
    rw [show (zsK σ (zlay K C V t i)).1 19 = nI i from h19]
    refine at_geN (tgt := 72) dX12_lays_20 (by decide) (by omega) (by omega) (fun c20 => ?_) (fun c20 => ?_)
    · refine at_vret dX12_lays_72 rfl (by omega) (by omega) ?_
      exact hp
    · omega
  | succ k ih =>
    intro i hi
    have hn := ih (i + 1) (by omega)
    have g1 := hC i (by omega)
    have g2 := hV i (by omega)
    unfold zlay at hn
    refine at_iload_n dX12_lays_15 rfl ?_
    refine at_aload_n dX12_lays_16 rfl ?_
    refine at_get dX12_lays_17 fl_X12_184 rfl rfl ?_
    rw [show (zsK σ (zlay K C V t i)).1 19 = nI N from h19]
    refine at_geN (tgt := 72) dX12_lays_20 (by decide) (by omega) (by omega) (fun c20 => ?_) (fun c20 => ?_)
    · omega
    · refine at_aload_n dX12_lays_23 rfl ?_
      refine at_get dX12_lays_24 fl_X12_42 rfl rfl ?_
      refine at_bipush dX12_lays_27 (v := nI 84) (by decide) ?_
      refine at_sipush dX12_lays_29 (v := nI 400) (by decide) ?_
      refine at_iload_n dX12_lays_32 rfl ?_
      refine at_imulN dX12_lays_33 ?_
      refine at_iaddN dX12_lays_34 ?_
      refine at_iload_n dX12_lays_35 rfl ?_
      refine at_iaddN dX12_lays_36 ?_
      refine at_aload_n dX12_lays_37 rfl ?_
      refine at_get dX12_lays_38 fl_X12_71 rfl rfl ?_
      refine at_iload_n dX12_lays_41 rfl ?_
      refine at_mald (a := 80) dX12_lays_42 (by decide) (by decide) (by decide) (by decide) rfl rfl (by show _ < 401; omega) (by decide) ?_
      rw [show (zsK σ (zlay K C V t i)).2.1 80 i = C i by rw [zsK_A, zsA_o _ (by decide)]; exact g1]
      refine at_mast (a := 72) dX12_lays_43 (by decide) (by decide) (by decide) (by decide) rfl rfl (by show _ < 5684; omega) (by decide) ?_
      rw [zsK_a]
      refine at_aload_n dX12_lays_44 rfl ?_
      refine at_get dX12_lays_45 fl_X12_42 rfl rfl ?_
      refine at_sipush dX12_lays_48 (v := nI 2884) (by decide) ?_
      refine at_sipush dX12_lays_51 (v := nI 400) (by decide) ?_
      refine at_iload_n dX12_lays_54 rfl ?_
      refine at_imulN dX12_lays_55 ?_
      refine at_iaddN dX12_lays_56 ?_
      refine at_iload_n dX12_lays_57 rfl ?_
      refine at_iaddN dX12_lays_58 ?_
      refine at_aload_n dX12_lays_59 rfl ?_
      refine at_get dX12_lays_60 fl_X12_74 rfl rfl ?_
      refine at_iload_n dX12_lays_63 rfl ?_
      refine at_mald (a := 81) dX12_lays_64 (by decide) (by decide) (by decide) (by decide) rfl rfl (by show _ < 401; omega) (by decide) ?_
      rw [show (zsK σ (upd (zlay K C V t i) (84 + 400 * t + i) (C i))).2.1 81 i = V i by rw [zsK_A, zsA_o _ (by decide)]; exact g2]
      refine at_mast (a := 72) dX12_lays_65 (by decide) (by decide) (by decide) (by decide) rfl rfl (by show _ < 5684; omega) (by decide) ?_
      rw [zsK_a]
      refine at_iincN dX12_lays_66 rfl (by decide) ?_
      refine at_goto (tgt := 15) dX12_lays_69 (by decide) ?_
      exact hn
theorem zm_lays {C V : Nat → Int32} {t N : Nat} (ht : t < 7) (hN : N ≤ 400) (h19 : σ.1 19 = nI N) (hC : ∀ j, j < N → σ.2.1 80 j = C j) (hV : ∀ j, j < N → σ.2.1 81 j = V j) (hp : post none n (zm_h (zsK σ (zlaid (σ.2.1 72) C V t N)) ρ)) : zq_Runs l G D 0 0 yX12_lays [.ref 70, .int (nI t)] n (zm_h σ ρ) post := by
  refine zq_enter (cc := cX12_lays) (nL := 3) (ret := none) cw_X12_lays (by decide) rfl (Nat.le_of_ble_eq_true rfl) ?_
  refine at_aload_n dX12_lays_0 rfl ?_
  refine at_get dX12_lays_1 fl_X12_42 rfl rfl ?_
  refine at_bipush dX12_lays_4 (v := nI 77) (by decide) ?_
  refine at_iload_n dX12_lays_6 rfl ?_
  refine at_iaddN dX12_lays_7 ?_
  refine at_aload_n dX12_lays_8 rfl ?_
  refine at_get dX12_lays_9 fl_X12_184 rfl rfl ?_
  rw [h19]
  refine at_mast (a := 72) dX12_lays_12 (by decide) (by decide) (by decide) (by decide) rfl rfl (by show _ < 5684; omega) (by decide) ?_
  refine at_iconst dX12_lays_13 (v := nI 0) (by decide) ?_
  refine at_istore_n dX12_lays_14 rfl (by decide) ?_
  exact zm_lays_loop ht hN h19 hC hV hp N 0 (Nat.zero_add N)
theorem zm_law {z t : Nat} (hD : 60 ≤ D) (hw : zWr σ) (h14 : σ.1 14 = nI z) (hz : z ≤ 400) (ht : σ.2.1 72 75 = nI t) (ht6 : t ≤ 6)
    (hf1 : t = 6 → post (some (.int (-(nI 5)))) n (zm_h (zref (zm_si σ 14 0) 5) ρ))
    (hf2 : ∀ τ, t < 6 → (zRd (σ.2.1 78) z false).2.2 ≠ 0 → zEs τ (zref (zm_si (zm_si σ 14 0) 15 (zlast (zRd (σ.2.1 78) z false).2.2)) 6) → post (some (.int (-(nI 6)))) n (zm_h τ ρ))
    (hp : ∀ τ, t < 6 → (zRd (σ.2.1 78) z false).2.2 = 0 → zEs τ (zm_si (zsK (zm_si (zm_si σ 14 0) 15 (-1)) (upd (zlaid (σ.2.1 72) (fun j => nI (zcN (σ.2.1 78) z j)) (fun j => nI (zvN (σ.2.1 78) z j)) t (zTok (σ.2.1 78) z).length) 75 (nI (t + 1)))) 0 0) → post (some (.int (nI t))) n (zm_h τ ρ)) : zq_Runs l G D 0 0 yX12_law [.ref 70] n (zm_h σ ρ) post := by
  refine zq_enter (cc := cX12_law) (nL := 1) (ret := (some .int)) cw_X12_law (by decide) rfl (Nat.le_of_ble_eq_true rfl) ?_
  refine at_aload_n dX12_law_0 rfl ?_
  refine at_get dX12_law_1 fl_X12_42 rfl rfl ?_
  refine at_bipush dX12_law_4 (v := nI 75) (by decide) ?_
  refine at_mald (a := 72) dX12_law_6 (by decide) (by decide) (by decide) (by decide) rfl rfl (by show _ < 5684; omega) (by decide) ?_
  refine at_bipush dX12_law_7 (v := nI 6) (by decide) ?_
  rw [ht]
  refine at_neN (tgt := 24) dX12_law_9 (by decide) (by omega) (by omega) (fun c9 => ?_) (fun c9 => ?_)
  · refine at_aload_n dX12_law_24 rfl ?_
    refine at_iconst dX12_law_25 (v := nI 0) (by decide) ?_
    refine at_callV1 (d := D - 1) dX12_law_26 mv_X12_273 rfl (Nat.le_of_ble_eq_true rfl) (zq_r0 (by omega) (by omega) (by omega)) ?_
    refine zm_readsAs (o := false) (by omega) hw h14 hz (fun τ hτ => ?_)
    obtain ⟨g1, g2, g3, g4⟩ := hτ
    have e72 : τ.2.1 72 = σ.2.1 72 := g1.2 72 rfl
    refine at_if_neB (tgt := 39) dX12_law_29 (by decide) (fun c29 => ?_) (fun c29 => ?_)
    · have hz0 := of_decide_eq_true c29
      have g4a : ∀ j, j < (zTok (σ.2.1 78) z).length → τ.2.1 80 j = (fun j => nI (zcN (σ.2.1 78) z j)) j := fun j hj => (g4 j hj).1
      have g4b : ∀ j, j < (zTok (σ.2.1 78) z).length → τ.2.1 81 j = (fun j => nI (zvN (σ.2.1 78) z j)) j := fun j hj => (g4 j hj).2
      have hp := hp (zm_si (zsK τ (upd (zlaid (σ.2.1 72) (fun j => nI (zcN (σ.2.1 78) z j)) (fun j => nI (zvN (σ.2.1 78) z j)) t (zTok (σ.2.1 78) z).length) 75 (nI (t + 1)))) 0 0) (by omega) hz0 (by rw [hz0] at g1; exact zEs_ci _ _ (zEs_ca _ _ g1))
      have e75 : zlaid (σ.2.1 72) (fun j => nI (zcN (σ.2.1 78) z j)) (fun j => nI (zvN (σ.2.1 78) z j)) t (zTok (σ.2.1 78) z).length 75 = nI t := by
        unfold zlaid
        rw [zlay_at _ _ _ (by omega) _ _ (by omega), if_neg (by omega), if_neg (by omega), upd_o _ (by omega), ht]
      refine at_aload_n dX12_law_39 rfl ?_
      refine at_aload_n dX12_law_40 rfl ?_
      refine at_get dX12_law_41 fl_X12_42 rfl rfl ?_
      refine at_bipush dX12_law_44 (v := nI 75) (by decide) ?_
      refine at_mald (a := 72) dX12_law_46 (by decide) (by decide) (by decide) (by decide) rfl rfl (by show _ < 5684; omega) (by decide) ?_
      rw [e72, ht]
      refine at_callV1 (d := D - 1) dX12_law_47 mv_X12_277 rfl (Nat.le_of_ble_eq_true rfl) (zq_r0 (by omega) (by omega) (by omega)) ?_
      refine zm_lays (by omega) (by omega) g2 g4a g4b ?_
      rw [e72]
      refine at_aload_n dX12_law_50 rfl ?_
      refine at_get dX12_law_51 fl_X12_42 rfl rfl ?_
      refine at_bipush dX12_law_54 (v := nI 75) (by decide) ?_
      refine at_dup2 dX12_law_56 rfl rfl ?_
      refine at_mald (a := 72) dX12_law_57 (by decide) (by decide) (by decide) (by decide) rfl rfl (by show _ < 5684; omega) (by decide) ?_
      refine at_iconst dX12_law_58 (v := nI 1) (by decide) ?_
      rw [zsK_k, e75]
      refine at_iaddN dX12_law_59 ?_
      refine at_mast (a := 72) dX12_law_60 (by decide) (by decide) (by decide) (by decide) rfl rfl (by show _ < 5684; omega) (by decide) ?_
      rw [zsK_a]
      refine at_aload_n dX12_law_61 rfl ?_
      refine at_aload_n dX12_law_62 rfl ?_
      refine at_get dX12_law_63 fl_X12_42 rfl rfl ?_
      refine at_bipush dX12_law_66 (v := nI 75) (by decide) ?_
      refine at_mald (a := 72) dX12_law_68 (by decide) (by decide) (by decide) (by decide) rfl rfl (by show _ < 5684; omega) (by decide) ?_
      rw [zsK_k, upd_s]
      refine at_iconst dX12_law_69 (v := nI 1) (by decide) ?_
      refine at_isubN dX12_law_70 (by omega) ?_
      refine at_callV1 (d := D - 1) dX12_law_71 mv_X12_14 rfl (Nat.le_of_ble_eq_true rfl) (zq_r0 (by omega) (by omega) (by omega)) ?_
      refine zm_good ?_
      refine at_iret dX12_law_74 rfl (by omega) (by omega) ?_
      exact hp
    · have hp := hf2 _ (by omega) (of_decide_eq_false c29) (zEs_ref _ g1)
      refine at_aload_n dX12_law_32 rfl ?_
      refine at_bipush dX12_law_33 (v := -6) (by decide) ?_
      refine at_callV1 (d := D - 1) dX12_law_35 mv_X12_135 rfl (Nat.le_of_ble_eq_true rfl) (zq_r0 (by omega) (by omega) (by omega)) ?_
      refine zm_ref (j := 6) (by decide) ?_
      refine at_iret dX12_law_38 rfl (by omega) (by omega) ?_
      exact hp
  · have hp := hf1 c9
    refine at_aload_n dX12_law_12 rfl ?_
    refine at_iconst dX12_law_13 (v := nI 0) (by decide) ?_
    refine at_mput dX12_law_14 (pl_X12_175 _) (fun _ => ⟨_, rfl⟩) rfl rfl ?_
    refine at_aload_n dX12_law_17 rfl ?_
    refine at_bipush dX12_law_18 (v := -5) (by decide) ?_
    refine at_callV1 (d := D - 1) dX12_law_20 mv_X12_135 rfl (Nat.le_of_ble_eq_true rfl) (zq_r0 (by omega) (by omega) (by omega)) ?_
    refine zm_ref (j := 5) (by decide) ?_
    refine at_iret dX12_law_23 rfl (by omega) (by omega) ?_
    exact hp
theorem zm_isLaw {v : Int32} {t : Nat} (hD : 1 ≤ D) (ht : σ.2.1 72 75 = nI t) (hp : post (some (.int (zb (decide (-1 ≤ v) && decide (v ≤ nI t - nI 1))))) n (zm_h σ ρ)) : zq_Runs l G D 0 0 yX12_isLaw [.ref 70, .int v] n (zm_h σ ρ) post := by
  refine zq_enter (cc := cX12_isLaw) (nL := 2) (ret := (some .boolean)) cw_X12_isLaw (by decide) rfl (Nat.le_of_ble_eq_true rfl) ?_
  refine at_iload_n dX12_isLaw_0 rfl ?_
  refine at_iconst dX12_isLaw_1 (v := -1) rfl ?_
  refine at_aload_n dX12_isLaw_2 rfl ?_
  refine at_get dX12_isLaw_3 fl_X12_42 rfl rfl ?_
  refine at_bipush dX12_isLaw_6 (v := nI 75) (by decide) ?_
  refine at_mald (a := 72) dX12_isLaw_8 (by decide) (by decide) (by decide) (by decide) rfl rfl (by show _ < 5684; omega) (by decide) ?_
  rw [ht]
  refine at_iconst dX12_isLaw_9 (v := nI 1) (by decide) ?_
  refine at_isub dX12_isLaw_10 ?_
  refine at_callS3 (d := D - 1) dX12_isLaw_11 ms_X12_18 (Nat.le_of_ble_eq_true rfl) (zq_r0 (by omega) (by omega) (by omega)) ?_
  refine zm_lies ?_
  refine at_zret dX12_isLaw_14 rfl (by omega) (by omega) (zb_01 _) ?_
  exact hp
/-- a law's number, or none -/
def zlw (t : Nat) (v : Int32) : Bool := decide (-1 ≤ v) && decide (v ≤ nI t - nI 1)
theorem zm_force {v : Int32} {t : Nat} (hD : 2 ≤ D) (ht : σ.2.1 72 75 = nI t)
    (hf : zlw t v = false → post (some (.int (-(nI 2)))) n (zm_h (zref σ 2) ρ))
    (hp : zlw t v = true → post (some (.int (σ.2.1 72 76))) n (zm_h (zm_si (zsK σ (upd (σ.2.1 72) 76 v)) 0 0) ρ)) : zq_Runs l G D 0 0 yX12_force [.ref 70, .int v] n (zm_h σ ρ) post := by
  refine zq_enter (cc := cX12_force) (nL := 3) (ret := (some .int)) cw_X12_force (by decide) rfl (Nat.le_of_ble_eq_true rfl) ?_
  refine at_aload_n dX12_force_0 rfl ?_
  refine at_iload_n dX12_force_1 rfl ?_
  refine at_callV1 (d := D - 1) dX12_force_2 mv_X12_280 rfl (Nat.le_of_ble_eq_true rfl) (zq_r0 (by omega) (by omega) (by omega)) ?_
  refine zm_isLaw (by omega) ht ?_
  refine at_if_neB (tgt := 15) dX12_force_5 (by decide) (fun c5 => ?_) (fun c5 => ?_)
  · have hp := hp c5
    refine at_aload_n dX12_force_15 rfl ?_
    refine at_get dX12_force_16 fl_X12_42 rfl rfl ?_
    refine at_bipush dX12_force_19 (v := nI 76) (by decide) ?_
    refine at_mald (a := 72) dX12_force_21 (by decide) (by decide) (by decide) (by decide) rfl rfl (by show _ < 5684; omega) (by decide) ?_
    refine at_istore_n dX12_force_22 rfl (by decide) ?_
    refine at_aload_n dX12_force_23 rfl ?_
    refine at_get dX12_force_24 fl_X12_42 rfl rfl ?_
    refine at_bipush dX12_force_27 (v := nI 76) (by decide) ?_
    refine at_iload_n dX12_force_29 rfl ?_
    refine at_mast (a := 72) dX12_force_30 (by decide) (by decide) (by decide) (by decide) rfl rfl (by show _ < 5684; omega) (by decide) ?_
    refine at_aload_n dX12_force_31 rfl ?_
    refine at_iload_n dX12_force_32 rfl ?_
    refine at_callV1 (d := D - 1) dX12_force_33 mv_X12_14 rfl (Nat.le_of_ble_eq_true rfl) (zq_r0 (by omega) (by omega) (by omega)) ?_
    refine zm_good ?_
    refine at_iret dX12_force_36 rfl (by omega) (by omega) ?_
    exact hp
  · have hp := hf c5
    refine at_aload_n dX12_force_8 rfl ?_
    refine at_bipush dX12_force_9 (v := -2) (by decide) ?_
    refine at_callV1 (d := D - 1) dX12_force_11 mv_X12_135 rfl (Nat.le_of_ble_eq_true rfl) (zq_r0 (by omega) (by omega) (by omega)) ?_
    refine zm_ref (j := 2) (by decide) ?_
    refine at_iret dX12_force_14 rfl (by omega) (by omega) ?_
    exact hp
end ZL19
theorem zwl_add {x k y : Nat} : zlt x k * 10 ^ (zlen x - 1 - k) ≤ x := by
  unfold zlt
  have h := Nat.div_mul_le_self x (10 ^ (zlen x - 1 - k))
  exact Nat.le_trans (Nat.mul_le_mul_right _ (Nat.mod_le _ _)) h
theorem zwl_eq {x k y : Nat} : nI x + (nI y - nI (zlt x k)) * nI (10 ^ (zlen x - 1 - k)) = nI (zwl x k y) := by
  have h := zwl_add (x := x) (k := k) (y := y)
  unfold zwl
  generalize zlt x k = z at *
  generalize 10 ^ (zlen x - 1 - k) = w at *
  rw [← pk_sub (by omega : z * w ≤ x + y * w), ← nI_add, ← pk_mul, ← pk_mul]
  rw [Int32.sub_mul, Int32.sub_eq_add_neg, Int32.sub_eq_add_neg, Int32.add_assoc]
section ZL20
variable {l : Launch} {G : zq_G} {D n : Nat} {f : Nat → zq_E} {post : Option Value → Nat → (Nat → zq_E) → Prop}
theorem zm_withLetter {x k y : Nat} (hD : 2 ≤ D) (hx : x < 2147483648) (hk : k < zlen x) (hp : post (some (.int (nI (zwl x k y)))) n f) : zq_Runs l G D 0 0 yX12_withLetter [.int (nI x), .int (nI k), .int (nI y)] n f post := by
  have hl := zlen_le x
  have h0 := zwl_eq (x := x) (k := k) (y := y)
  refine zq_enter (cc := cX12_withLetter) (nL := 3) (ret := (some .int)) cw_X12_withLetter (by decide) rfl (Nat.le_of_ble_eq_true rfl) ?_
  refine at_iload_n dX12_withLetter_0 rfl ?_
  refine at_iload_n dX12_withLetter_1 rfl ?_
  refine at_iload_n dX12_withLetter_2 rfl ?_
  refine at_iload_n dX12_withLetter_3 rfl ?_
  refine at_callS2 (d := D - 1) dX12_withLetter_4 ms_X12_28 (Nat.le_of_ble_eq_true rfl) (zq_r0 (by omega) (by omega) (by omega)) ?_
  refine zm_letterAt (by omega) (by omega) (by omega) ?_
  refine at_isub dX12_withLetter_7 ?_
  refine at_iload_n dX12_withLetter_8 rfl ?_
  refine at_callS1 (d := D - 1) dX12_withLetter_9 ms_X12_22 (Nat.le_of_ble_eq_true rfl) (zq_r0 (by omega) (by omega) (by omega)) ?_
  refine zm_lengthOf (by omega) ?_
  refine at_iconst dX12_withLetter_12 (v := nI 1) (by decide) ?_
  refine at_isubN dX12_withLetter_13 (by omega) ?_
  refine at_iload_n dX12_withLetter_14 rfl ?_
  refine at_isubN dX12_withLetter_15 (by omega) ?_
  refine at_callS1 (d := D - 1) dX12_withLetter_16 ms_X12_25 (Nat.le_of_ble_eq_true rfl) (zq_r0 (by omega) (by omega) (by omega)) ?_
  refine zm_tens (by omega) ?_
  refine at_imul dX12_withLetter_19 ?_
  refine at_iadd dX12_withLetter_20 ?_
  rw [h0]
  refine at_iret dX12_withLetter_21 rfl (by omega) (by omega) ?_
  exact hp
end ZL20

