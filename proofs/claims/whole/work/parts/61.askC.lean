/-! ===== the class: which two to ask for ===== -/
theorem zlA_c (κ : zl_S) {a c : Nat} (h : a ≠ c) (g : Nat → Int32) (i : Nat) (v : Int32) : zl_sa (zl_sA κ c g) a i v = zl_sA (zl_sa κ a i v) c g := by
  show (κ.1, va_up (va_up κ.2.1 c g) a (upd (va_up κ.2.1 c g a) i v), κ.2.2) = (κ.1, va_up (va_up κ.2.1 a (upd (κ.2.1 a) i v)) c g, κ.2.2)
  rw [va_up_ne _ _ h]
  congr 2
  funext j
  by_cases h1 : j = c
  · subst h1; rw [va_up_self, va_up_ne _ _ (Ne.symm h), va_up_self]
  · rw [va_up_ne _ _ h1]
    by_cases h2 : j = a
    · subst h2; rw [va_up_self, va_up_self]
    · rw [va_up_ne _ _ h2, va_up_ne _ _ h2, va_up_ne _ _ h1]
theorem zQN_c {κ κ' : zl_S} {b m : Nat} {x w : Nat → Nat} (h : zQN κ b m x w) (e0 : κ'.1 b = κ.1 b) (e1 : κ'.2.1 (b + 1) = κ.2.1 (b + 1)) (e2 : κ'.2.1 (b + 2) = κ.2.1 (b + 2)) : zQN κ' b m x w := by
  unfold zQN
  rw [e0, e1, e2]
  exact h
/-- tables of pairs -/
def zt3 (κ : zl_S) (d t g : Nat → Int32) : zl_S := zl_sA (zl_sA (zl_sA κ 59 d) 60 t) 57 g
section ZT3
variable (κ : zl_S) (d t g : Nat → Int32)
theorem zt3_59 : (zt3 κ d t g).2.1 59 = d := by unfold zt3; rw [zlA_o _ (by decide), zlA_o _ (by decide), zlA_s]
theorem zt3_60 : (zt3 κ d t g).2.1 60 = t := by unfold zt3; rw [zlA_o _ (by decide), zlA_s]
theorem zt3_57 : (zt3 κ d t g).2.1 57 = g := by unfold zt3; rw [zlA_s]
theorem zt3_o {a : Nat} (h1 : a ≠ 57) (h2 : a ≠ 59) (h3 : a ≠ 60) : (zt3 κ d t g).2.1 a = κ.2.1 a := by unfold zt3; rw [zlA_o _ h1, zlA_o _ h3, zlA_o _ h2]
theorem zt3_s59 (i : Nat) (v : Int32) : zl_sa (zt3 κ d t g) 59 i v = zt3 κ (upd d i v) t g := by unfold zt3; rw [zlA_c _ (by decide), zlA_c _ (by decide), zlA_a]
theorem zt3_s60 (i : Nat) (v : Int32) : zl_sa (zt3 κ d t g) 60 i v = zt3 κ d (upd t i v) g := by unfold zt3; rw [zlA_c _ (by decide), zlA_a]
theorem zt3_A57 (g' : Nat → Int32) : zl_sA (zt3 κ d t g) 57 g' = zt3 κ d t g' := by unfold zt3; rw [zlA_A]
theorem zt3_0 : zt3 κ (κ.2.1 59) (κ.2.1 60) (κ.2.1 57) = κ := by unfold zt3; rw [zlA_0, zlA_0, zlA_0]
end ZT3
theorem zQN_3 {κ : zl_S} {b m : Nat} {x w : Nat → Nat} (hb : zQb b) (h : zQN κ b m x w) (d t g : Nat → Int32) : zQN (zt3 κ d t g) b m x w := by
  refine zQN_c h rfl (zt3_o _ _ _ _ ?_ ?_ ?_) (zt3_o _ _ _ _ ?_ ?_ ?_) <;> (rcases hb with rfl | rfl | rfl <;> decide)
theorem zDm_3 {κ : zl_S} {N : Nat} {dm : Nat → Nat} (h : zDm κ N dm) (d t g : Nat → Int32) : zDm (zt3 κ d t g) N dm := ⟨h.1, h.2.1, fun i hi => by rw [zt3_o _ _ _ _ (by decide) (by decide) (by decide)]; exact h.2.2 i hi⟩
/-- where the names of a pair differ (0 for those that aren't asked for) -/
def zdp (x : Nat → Nat) (m q : Nat) : Nat := if q / 7 < q % 7 ∧ q % 7 < m then zdf (x (q / 7)) (x (q % 7)) else 0
/-- whether the p-th alphabet fits and puts the lower one of a pair ahead -/
def ztp (x dm : Nat → Nat) (m N q p : Nat) : Bool := zmA (zrkN (zal p)) dm N 0 && (decide (zdp x m q ≠ 0) && zmt (zrkN (zal p)) (zdp x m q))
section ZC8
variable {l : Launch} {G : zq_G} {D n b m N : Nat} {κ : zl_S} {ρ : Nat → zq_E} {post : Option Value → Nat → (Nat → zq_E) → Prop} {x w dm : Nat → Nat}
theorem zdp_5 (hQ : zQN κ b m x w) (q : Nat) : zdp x m q / 10 ≤ 5 ∧ zdp x m q % 10 ≤ 5 ∧ zdp x m q < 100 := by
  unfold zdp
  split
  · next h =>
    have g := zdf_5 (hQ.2.2.1 (q / 7) (by omega)).2 (hQ.2.2.1 (q % 7) h.2).2
    exact ⟨g.1, g.2, zdfF_lt _ _ _ _⟩
  · exact ⟨by decide, by decide, by decide⟩
theorem zc_tally_0 (hD : 3 ≤ D) (hb : zQb b) (hQ : zQN κ b m x w) (hk : ∀ d t, (∀ j, j < 49 → d j = nI (zdp x m j) ∧ t j = nI 0) → zq_At l G (zq_rm D 0 0) mX0_tally (zq_QF G post 0 0) 86 [(0, .ref 56), (1, .ref b)] [] n (zl_h (zt3 κ d t (κ.2.1 57)) ρ) 0 0) : ∀ f i, i + f = 49 → ∀ d t, (∀ j, j < i → d j = nI (zdp x m j) ∧ t j = nI 0) → zq_At l G (zq_rm D 0 0) mX0_tally (zq_QF G post 0 0) 2 [(0, .ref 56), (1, .ref b), (2, .int (nI i))] [] n (zl_h (zt3 κ d t (κ.2.1 57)) ρ) 0 0 := by
  have hm7 := hQ.2.1
  intro f
  induction f with
  | zero =>
    intro i hi d t h
    obtain rfl : i = 49 := hi
    refine at_iload_n dX0_tally_2 rfl ?_
    refine at_aload_n dX0_tally_3 rfl ?_
    refine at_get dX0_tally_4 fl_X0_25 (zl_o rfl) rfl ?_
    refine at_alen dX0_tally_7 (zl_a (a := 60) rfl) (by decide) (v := nI 49) rfl ?_
    refine at_geN (tgt := 86) dX0_tally_8 (by decide) (by omega) (by omega) (fun c8 => ?_) (fun c8 => ?_)
    · exact at_lv [0, 1] (hk d t h)
    · omega
  | succ f ih =>
    intro i hi d t h
    have hQ3 := fun d t g => zQN_3 (d := d) (t := t) (g := g) hb hQ
    have hn := ih (i + 1) (by omega) (upd d i (nI (zdp x m i))) (upd t i (nI 0)) (fun j hj => by
      by_cases e : j = i
      · subst e; rw [upd_s, upd_s]; exact ⟨rfl, rfl⟩
      · rw [upd_o _ e, upd_o _ e]; exact h j (by omega))
    unfold zdp at hn
    refine at_iload_n dX0_tally_2 rfl ?_
    refine at_aload_n dX0_tally_3 rfl ?_
    refine at_get dX0_tally_4 fl_X0_25 (zl_o rfl) rfl ?_
    refine at_alen dX0_tally_7 (zl_a (a := 60) rfl) (by decide) (v := nI 49) rfl ?_
    refine at_geN (tgt := 86) dX0_tally_8 (by decide) (by omega) (by omega) (fun c8 => ?_) (fun c8 => ?_)
    · omega
    · refine at_aload_n dX0_tally_11 rfl ?_
      refine at_get dX0_tally_12 fl_X0_25 (zl_o rfl) rfl ?_
      refine at_iload_n dX0_tally_15 rfl ?_
      refine at_iconst dX0_tally_16 (v := nI 0) (by decide) ?_
      refine at_last2 (a := 60) dX0_tally_17 rfl rfl (by show _ < 49; omega) (by decide) ?_
      rw [zt3_s60]
      refine at_iload_n dX0_tally_18 rfl ?_
      refine at_bipush dX0_tally_19 (v := nI 7) (by decide) ?_
      refine at_idivN dX0_tally_21 (by omega) (by omega) (by omega) ?_
      refine at_istore_n dX0_tally_22 rfl (by decide) ?_
      refine at_iload_n dX0_tally_23 rfl ?_
      refine at_bipush dX0_tally_24 (v := nI 7) (by decide) ?_
      refine at_iremN dX0_tally_26 (by omega) (by omega) (by omega) ?_
      refine at_istore dX0_tally_27 (by decide) ?_
      refine at_iload_n dX0_tally_29 rfl ?_
      refine at_iload dX0_tally_30 rfl ?_
      refine at_geN (tgt := 48) dX0_tally_32 (by decide) (by omega) (by omega) (fun c32 => ?_) (fun c32 => ?_)
      · rw [if_neg (by omega)] at hn
        refine at_iconst dX0_tally_48 (v := nI 0) (by decide) ?_
        refine at_istore dX0_tally_49 (by decide) ?_
        refine at_aload_n dX0_tally_51 rfl ?_
        refine at_get dX0_tally_52 fl_X0_22 (zl_o rfl) rfl ?_
        refine at_iload_n dX0_tally_55 rfl ?_
        refine at_iload dX0_tally_56 rfl ?_
        refine at_if_eqN (tgt := 78) dX0_tally_58 (by decide) (by omega) (fun c58 => ?_) (fun c58 => ?_)
        · refine at_iconst dX0_tally_78 (v := nI 0) (by decide) ?_
          refine at_last2 (a := 59) dX0_tally_79 rfl rfl (by show _ < 49; omega) (by decide) ?_
          rw [zt3_s59]
          refine at_iincN dX0_tally_80 rfl (by decide) ?_
          refine at_goto (tgt := 2) dX0_tally_83 (by decide) ?_
          exact at_lv [0, 1, 2] hn
        · omega
      · refine at_aload_n dX0_tally_35 rfl ?_
        refine at_iload dX0_tally_36 rfl ?_
        refine at_callV1 (d := D - 1) dX0_tally_38 mv_X0_60 (zl_q hb) (Nat.le_of_ble_eq_true rfl) (zq_r0 (by omega) (by omega) (by omega)) ?_
        refine zc_has hb (hQ3 _ _ _).1 hm7 ?_
        rw [zix_n (by omega)]
        refine at_if_eqB (tgt := 48) dX0_tally_41 (by decide) (fun c41 => ?_) (fun c41 => ?_)
        · have c41 := of_decide_eq_false c41
          rw [if_neg (by omega)] at hn
          refine at_iconst dX0_tally_48 (v := nI 0) (by decide) ?_
          refine at_istore dX0_tally_49 (by decide) ?_
          refine at_aload_n dX0_tally_51 rfl ?_
          refine at_get dX0_tally_52 fl_X0_22 (zl_o rfl) rfl ?_
          refine at_iload_n dX0_tally_55 rfl ?_
          refine at_iload dX0_tally_56 rfl ?_
          refine at_if_eqN (tgt := 78) dX0_tally_58 (by decide) (by omega) (fun c58 => ?_) (fun c58 => ?_)
          · refine at_iconst dX0_tally_78 (v := nI 0) (by decide) ?_
            refine at_last2 (a := 59) dX0_tally_79 rfl rfl (by show _ < 49; omega) (by decide) ?_
            rw [zt3_s59]
            refine at_iincN dX0_tally_80 rfl (by decide) ?_
            refine at_goto (tgt := 2) dX0_tally_83 (by decide) ?_
            exact at_lv [0, 1, 2] hn
          · omega
        · have c41 := of_decide_eq_true c41
          rw [if_pos ⟨c32, c41⟩] at hn
          have g1 := (hQ.2.2.1 (i / 7) (by omega)).2
          have g2 := (hQ.2.2.1 (i % 7) c41).2
          have a1 := g1.1
          have a5 := g1.2.1
          have b1 := g2.1
          have b5 := g2.2.1
          refine at_iconst dX0_tally_44 (v := nI 1) (by decide) ?_
          refine at_goto (tgt := 49) dX0_tally_45 (by decide) ?_
          refine at_istore dX0_tally_49 (by decide) ?_
          refine at_aload_n dX0_tally_51 rfl ?_
          refine at_get dX0_tally_52 fl_X0_22 (zl_o rfl) rfl ?_
          refine at_iload_n dX0_tally_55 rfl ?_
          refine at_iload dX0_tally_56 rfl ?_
          refine at_if_eqN (tgt := 78) dX0_tally_58 (by decide) (by omega) (fun c58 => ?_) (fun c58 => ?_)
          · omega
          · refine at_aload_n dX0_tally_61 rfl ?_
            refine at_iload_n dX0_tally_62 rfl ?_
            refine at_callV1 (d := D - 1) dX0_tally_63 mv_X0_64 (zl_q hb) (Nat.le_of_ble_eq_true rfl) (zq_r0 (by omega) (by omega) (by omega)) ?_
            refine zc_nameOf (by omega) hb (hQ3 _ _ _) (by omega) ?_
            refine at_aload_n dX0_tally_66 rfl ?_
            refine at_iload dX0_tally_67 rfl ?_
            refine at_callV1 (d := D - 1) dX0_tally_69 mv_X0_64 (zl_q hb) (Nat.le_of_ble_eq_true rfl) (zq_r0 (by omega) (by omega) (by omega)) ?_
            refine zc_nameOf (by omega) hb (hQ3 _ _ _) c41 ?_
            refine at_callS2 (d := D - 1) dX0_tally_72 ms_X0_67 (Nat.le_of_ble_eq_true rfl) (zq_r0 (by omega) (by omega) (by omega)) ?_
            refine zc_differ (by omega) a1 (by omega) b1 (by omega) ?_
            refine at_goto (tgt := 79) dX0_tally_75 (by decide) ?_
            refine at_last2 (a := 59) dX0_tally_79 rfl rfl (by show _ < 49; omega) (by decide) ?_
            rw [zt3_s59]
            refine at_iincN dX0_tally_80 rfl (by decide) ?_
            refine at_goto (tgt := 2) dX0_tally_83 (by decide) ?_
            exact at_lv [0, 1, 2] hn
theorem zc_tally_in {p c : Nat} {d g : Nat → Int32} (hD : 1 ≤ D) (hp120 : p < 120) (hQ : zQN κ b m x w) (hd : ∀ j, j < 49 → d j = nI (zdp x m j)) (hg : zOrd g (zrkN (zal p))) (hok : zmA (zrkN (zal p)) dm N 0 = true)
    (hk : ∀ t, (∀ j, j < 49 → t j = nI (zcnt (ztp x dm m N j) (p + 1))) → zq_At l G (zq_rm D 0 0) mX0_tally (zq_QF G post 0 0) 169 [(0, .ref 56), (1, .ref b), (2, .int (nI c)), (3, .int (nI p))] [] n (zl_h (zt3 κ d t g) ρ) 0 0) : ∀ f i, i + f = 49 → ∀ t, (∀ j, j < 49 → t j = nI (zcnt (ztp x dm m N j) (if j < i then p + 1 else p))) → zq_At l G (zq_rm D 0 0) mX0_tally (zq_QF G post 0 0) 115 [(0, .ref 56), (1, .ref b), (2, .int (nI c)), (3, .int (nI p)), (4, .int (nI i))] [] n (zl_h (zt3 κ d t g) ρ) 0 0 := by
  intro f
  induction f with
  | zero =>
    intro i hi t h
    obtain rfl : i = 49 := hi
    refine at_iload dX0_tally_115 rfl ?_
    refine at_aload_n dX0_tally_117 rfl ?_
    refine at_get dX0_tally_118 fl_X0_25 (zl_o rfl) rfl ?_
    refine at_alen dX0_tally_121 (zl_a (a := 60) rfl) (by decide) (v := nI 49) rfl ?_
    refine at_geN (tgt := 169) dX0_tally_122 (by decide) (by omega) (by omega) (fun c122 => ?_) (fun c122 => ?_)
    · exact at_lv [0, 1, 2, 3] (hk t (fun j hj => by have := h j hj; rw [if_pos hj] at this; exact this))
    · omega
  | succ f ih =>
    intro i hi t h
    have g0 := hd i (by omega)
    obtain ⟨q1, q2, q3⟩ := zdp_5 hQ i
    have ti := h i (by omega)
    rw [if_neg (by omega)] at ti
    have hcn : zcnt (ztp x dm m N i) (p + 1) = zcnt (ztp x dm m N i) p + if ztp x dm m N i p = true then 1 else 0 := rfl
    have hn : ∀ v, v = zcnt (ztp x dm m N i) (p + 1) → ∀ t', t' i = nI v → (∀ j, j ≠ i → t' j = t j) → zq_At l G (zq_rm D 0 0) mX0_tally (zq_QF G post 0 0) 115 [(0, .ref 56), (1, .ref b), (2, .int (nI c)), (3, .int (nI p)), (4, .int (nI (i + 1)))] [] n (zl_h (zt3 κ d t' g) ρ) 0 0 := by
      rintro v rfl t' e1 e2
      refine ih (i + 1) (by omega) t' (fun j hj => ?_)
      by_cases e : j = i
      · subst e; rw [if_pos (by omega), e1]
      · rw [e2 j e, h j hj]
        by_cases e3 : j < i
        · rw [if_pos e3, if_pos (by omega)]
        · rw [if_neg e3, if_neg (by omega)]
    refine at_iload dX0_tally_115 rfl ?_
    refine at_aload_n dX0_tally_117 rfl ?_
    refine at_get dX0_tally_118 fl_X0_25 (zl_o rfl) rfl ?_
    refine at_alen dX0_tally_121 (zl_a (a := 60) rfl) (by decide) (v := nI 49) rfl ?_
    refine at_geN (tgt := 169) dX0_tally_122 (by decide) (by omega) (by omega) (fun c122 => ?_) (fun c122 => ?_)
    · omega
    · refine at_aload_n dX0_tally_125 rfl ?_
      refine at_get dX0_tally_126 fl_X0_22 (zl_o rfl) rfl ?_
      refine at_iload dX0_tally_129 rfl ?_
      refine at_lald2 (a := 59) dX0_tally_131 rfl rfl (by show _ < 49; omega) (by decide) ?_
      rw [zt3_59, g0]
      refine at_if_eqN (tgt := 163) dX0_tally_132 (by decide) (by omega) (fun c132 => ?_) (fun c132 => ?_)
      · have hn := hn (zcnt (ztp x dm m N i) p) (by rw [hcn, if_neg (by unfold ztp; rw [c132]; simp)]; rfl) t ti (fun _ _ => rfl)
        first | rw [zt3_s60] | skip
        refine at_iincN dX0_tally_163 rfl (by decide) ?_
        refine at_goto (tgt := 115) dX0_tally_166 (by decide) ?_
        exact hn
      · refine at_aload_n dX0_tally_135 rfl ?_
        refine at_get dX0_tally_136 fl_X0_22 (zl_o rfl) rfl ?_
        refine at_iload dX0_tally_139 rfl ?_
        refine at_lald2 (a := 59) dX0_tally_141 rfl rfl (by show _ < 49; omega) (by decide) ?_
        rw [zt3_59, g0]
        refine at_aload_n dX0_tally_142 rfl ?_
        refine at_get dX0_tally_143 fl_X0_9 (zl_o rfl) rfl ?_
        refine at_callS2 (d := D - 1) dX0_tally_146 ms_X0_39 (Nat.le_of_ble_eq_true rfl) (zq_r0 (by omega) (by omega) (by omega)) ?_
        refine zc_isMet rfl rfl (by rw [zt3_57]; exact hg) (fun y _ _ => zrkN_lt _ _) q1 q2 ?_
        refine at_if_eqB (tgt := 163) dX0_tally_149 (by decide) (fun c149 => ?_) (fun c149 => ?_)
        · have hn := hn (zcnt (ztp x dm m N i) p) (by rw [hcn, if_neg (by unfold ztp; rw [c149]; simp)]; rfl) t ti (fun _ _ => rfl)
          first | rw [zt3_s60] | skip
          refine at_iincN dX0_tally_163 rfl (by decide) ?_
          refine at_goto (tgt := 115) dX0_tally_166 (by decide) ?_
          exact hn
        · have hn := hn (zcnt (ztp x dm m N i) p + 1) (by rw [hcn, if_pos (by unfold ztp; rw [c149, hok, decide_eq_true c132]; rfl)]) (upd t i (nI (zcnt (ztp x dm m N i) p + 1))) (upd_s _ _ _) (fun j hj => upd_o _ hj _)
          refine at_aload_n dX0_tally_152 rfl ?_
          refine at_get dX0_tally_153 fl_X0_25 (zl_o rfl) rfl ?_
          refine at_iload dX0_tally_156 rfl ?_
          refine at_dup2 dX0_tally_158 rfl rfl ?_
          refine at_lald2 (a := 60) dX0_tally_159 rfl rfl (by show _ < 49; omega) (by decide) ?_
          rw [zt3_60, ti]
          refine at_iconst dX0_tally_160 (v := nI 1) (by decide) ?_
          refine at_iaddN dX0_tally_161 ?_
          refine at_last2 (a := 60) dX0_tally_162 rfl rfl (by show _ < 49; omega) (by decide) ?_
          first | rw [zt3_s60] | skip
          refine at_iincN dX0_tally_163 rfl (by decide) ?_
          refine at_goto (tgt := 115) dX0_tally_166 (by decide) ?_
          exact hn
theorem zc_tally_loop (hD : 3 ≤ D) (hb : zQb b) (hQ : zQN κ b m x w) (hM : zDm κ N dm) {d : Nat → Int32} (hd : ∀ j, j < 49 → d j = nI (zdp x m j))
    (hp : ∀ t g, g 0 = -1 → (∀ j, j < 49 → t j = nI (zcnt (ztp x dm m N j) 120)) → post (some (.int (nI (zcnt (fun p => zmA (zrkN (zal p)) dm N 0) 120)))) n (zl_h (zt3 κ d t g) ρ)) : ∀ f p, p + f = 120 → ∀ t g, g 0 = -1 → (∀ j, j < 49 → t j = nI (zcnt (ztp x dm m N j) p)) → zq_At l G (zq_rm D 0 0) mX0_tally (zq_QF G post 0 0) 90 [(0, .ref 56), (1, .ref b), (2, .int (nI (zcnt (fun p => zmA (zrkN (zal p)) dm N 0) p))), (3, .int (nI p))] [] n (zl_h (zt3 κ d t g) ρ) 0 0 := by
  intro f
  induction f with
  | zero =>
    intro p hpf t g hg ht
    obtain rfl : p = 120 := hpf
    have hp := hp t g hg ht
    refine at_iload_n dX0_tally_90 rfl ?_
    refine at_bipush dX0_tally_91 (v := nI 120) (by decide) ?_
    refine at_geN (tgt := 175) dX0_tally_93 (by decide) (by omega) (by omega) (fun c93 => ?_) (fun c93 => ?_)
    · refine at_iload_n dX0_tally_175 rfl ?_
      refine at_iret dX0_tally_176 rfl (by omega) (by omega) ?_
      exact hp
    · omega
  | succ f ih =>
    intro p hpf t g hg ht
    have hpm := zal_pm (show p < 120 by omega)
    have hg2 : zrk g (zal p) 5 0 = -1 := (zrk_0 (fun k hk => (hpm.1 k hk).1) g).trans hg
    have hcf : zcnt (fun p => zmA (zrkN (zal p)) dm N 0) (p + 1) = zcnt (fun p => zmA (zrkN (zal p)) dm N 0) p + if zmA (zrkN (zal p)) dm N 0 = true then 1 else 0 := rfl
    refine at_iload_n dX0_tally_90 rfl ?_
    refine at_bipush dX0_tally_91 (v := nI 120) (by decide) ?_
    refine at_geN (tgt := 175) dX0_tally_93 (by decide) (by omega) (by omega) (fun c93 => ?_) (fun c93 => ?_)
    · omega
    · refine at_aload_n dX0_tally_96 rfl ?_
      refine at_iload_n dX0_tally_97 rfl ?_
      refine at_callV1 (d := D - 1) dX0_tally_98 mv_X0_28 (zl_o rfl) (Nat.le_of_ble_eq_true rfl) (zq_r0 (by omega) (by omega) (by omega)) ?_
      refine zc_take (by omega) ?_
      rw [zt3_57, zt3_A57]
      refine at_pop dX0_tally_101 rfl ?_
      refine at_aload_n dX0_tally_102 rfl ?_
      refine at_callV0 (d := D - 1) dX0_tally_103 mv_X0_32 (zl_o rfl) (Nat.le_of_ble_eq_true rfl) (zq_r0 (by omega) (by omega) (by omega)) ?_
      refine zc_meetsAll (rk := zrkN (zal p)) (by omega) (zDm_3 hM _ _ _) (by rw [zt3_57]; exact zrk_ord hpm hg) (fun y _ _ => zrkN_lt _ _) ?_
      refine at_if_eqB (tgt := 169) dX0_tally_106 (by decide) (fun c106 => ?_) (fun c106 => ?_)
      · have hn := ih (p + 1) (by omega) t (zrk g (zal p) 5) hg2 (fun j hj => by
          rw [ht j hj]
          have hcn : zcnt (ztp x dm m N j) (p + 1) = zcnt (ztp x dm m N j) p + if ztp x dm m N j p = true then 1 else 0 := rfl
          rw [hcn, if_neg (by unfold ztp; rw [c106]; simp)]; rfl)
        rw [hcf, if_neg (by rw [c106]; decide), Nat.add_zero] at hn
        refine at_iincN dX0_tally_169 rfl (by decide) ?_
        refine at_goto (tgt := 90) dX0_tally_172 (by decide) ?_
        exact hn
      · refine at_iincN dX0_tally_109 rfl (by decide) ?_
        refine at_iconst dX0_tally_112 (v := nI 0) (by decide) ?_
        refine at_istore dX0_tally_113 (by decide) ?_
        refine zc_tally_in (by omega) (by omega) hQ hd (zrk_ord hpm hg) c106 (fun t' ht' => ?_) 49 0 rfl t (fun j hj => by rw [if_neg (Nat.not_lt_zero _)]; exact ht j hj)
        have hn := ih (p + 1) (by omega) t' (zrk g (zal p) 5) hg2 ht'
        rw [hcf, if_pos c106] at hn
        refine at_iincN dX0_tally_169 rfl (by decide) ?_
        refine at_goto (tgt := 90) dX0_tally_172 (by decide) ?_
        exact hn
theorem zc_tally (hD : 3 ≤ D) (hb : zQb b) (hQ : zQN κ b m x w) (hM : zDm κ N dm) (h0 : κ.2.1 57 0 = -1) (hp : ∀ d t g, g 0 = -1 → (∀ j, j < 49 → d j = nI (zdp x m j) ∧ t j = nI (zcnt (ztp x dm m N j) 120)) → post (some (.int (nI (zcnt (fun p => zmA (zrkN (zal p)) dm N 0) 120)))) n (zl_h (zt3 κ d t g) ρ)) : zq_Runs l G D 0 0 yX0_tally [.ref 56, .ref b] n (zl_h κ ρ) post := by
  have h := zc_tally_0 (l := l) (G := G) (n := n) (ρ := ρ) (post := post) hD hb hQ (fun d t hdt => by
    have h := zc_tally_loop (l := l) (G := G) (n := n) (ρ := ρ) (post := post) hD hb hQ hM (d := d) (fun j hj => (hdt j hj).1) (fun t g hg ht => hp d t g hg (fun j hj => ⟨(hdt j hj).1, ht j hj⟩)) 120 0 rfl t (κ.2.1 57) h0 (fun j hj => (hdt j hj).2)
    refine at_iconst dX0_tally_86 (v := nI 0) (by decide) ?_
    refine at_istore_n dX0_tally_87 rfl (by decide) ?_
    refine at_iconst dX0_tally_88 (v := nI 0) (by decide) ?_
    refine at_istore_n dX0_tally_89 rfl (by decide) ?_
    exact h
    ) 49 0 rfl (κ.2.1 59) (κ.2.1 60) (fun j hj => absurd hj (Nat.not_lt_zero _))
  rw [zt3_0] at h
  refine zq_enter (cc := cX0_tally) (nL := 6) (ret := (some .int)) cw_X0_tally (by decide) rfl (Nat.le_of_ble_eq_true rfl) ?_
  refine at_iconst dX0_tally_0 (v := nI 0) (by decide) ?_
  refine at_istore_n dX0_tally_1 rfl (by decide) ?_
  exact h
theorem zdf_0 {a b : Nat} (ha : zvn a) (hb' : zvn b) : zdf a b = 0 ↔ a = b := by
  constructor
  · intro h
    have key : ∀ f k, k + f = 4 → zdfF a b f k = 0 → ∀ j, k ≤ j → j < 4 → zdg4 a j = zdg4 b j := by
      intro f
      induction f with
      | zero => intro k hk _ j h1 h2; omega
      | succ f ih =>
        intro k hk h j h1 h2
        unfold zdfF at h
        by_cases e : zdg4 a k = zdg4 b k
        · rw [if_pos e] at h
          by_cases e2 : j = k
          · subst e2; exact e
          · exact ih (k + 1) (by omega) h j (by omega) h2
        · rw [if_neg e] at h
          exfalso
          omega
    have hall := key 4 0 rfl h
    have la := zlen_le a
    have lb := zlen_le b
    have hl : zlen a = zlen b := by
      rcases Nat.lt_trichotomy (zlen a) (zlen b) with g | g | g
      · have := hall (zlen a) (Nat.zero_le _) (by omega)
        unfold zdg4 at this
        rw [if_neg (Nat.lt_irrefl _), if_pos g] at this
        have := zvn_at hb' g
        omega
      · exact g
      · have := hall (zlen b) (Nat.zero_le _) (by omega)
        unfold zdg4 at this
        rw [if_pos g, if_neg (Nat.lt_irrefl _)] at this
        have := zvn_at ha g
        omega
    refine zlt_ext ha hb' hl (fun j hj => ?_)
    have := hall j (Nat.zero_le _) (by omega)
    unfold zdg4 at this
    rw [if_pos hj, if_pos (by omega)] at this
    exact this
  · rintro rfl
    have key : ∀ f k, zdfF a a f k = 0 := by
      intro f
      induction f with
      | zero => intro k; rfl
      | succ f ih => intro k; unfold zdfF; rw [if_pos rfl]; exact ih (k + 1)
    exact key 4 0
theorem zcnt_c {P Q : Nat → Bool} : ∀ k, (∀ j, j < k → P j = Q j) → zcnt P k = zcnt Q k
  | 0, _ => rfl
  | k + 1, h => by
    unfold zcnt
    rw [zcnt_c k (fun j hj => h j (by omega)), h k (by omega)]
/-- how many fit; how many of them put p ahead of q -/
def zNf (dm : Nat → Nat) (N : Nat) : Nat := zcnt (fun p => zmA (zrkN (zal p)) dm N 0) 120
def zTf (x dm : Nat → Nat) (N p q : Nat) : Nat := zcnt (fun a => zmA (zrkN (zal a)) dm N 0 && zah (zrkN (zal a)) (x p) (x q)) 120
theorem zTf_le (x dm : Nat → Nat) (N p q : Nat) : zTf x dm N p q ≤ zNf dm N := zcnt_and _ _ 120
theorem ztp_T (hQ : zQN κ b m x w) {p q : Nat} (hpq : p < q) (hqm : q < m) : zcnt (ztp x dm m N (7 * p + q)) 120 = zTf x dm N p q := by
  have hm7 := hQ.2.1
  refine zcnt_c 120 (fun a ha => ?_)
  unfold ztp zdp
  rw [show (7 * p + q) / 7 = p by omega, show (7 * p + q) % 7 = q by omega, if_pos ⟨hpq, hqm⟩]
  have hx := (hQ.2.2.1 p (by omega)).2
  have hy := (hQ.2.2.1 q hqm).2
  rw [zmt_df (zrkN_inj (zal_pm ha)) hx hy]
  by_cases e : zdf (x p) (x q) = 0
  · have h0 : zah (zrkN (zal a)) (x p) (x q) = false := by rw [← zmt_df (zrkN_inj (zal_pm ha)) hx hy, e]; unfold zmt; simp
    rw [h0, Bool.and_false]
  · rw [decide_eq_true e, Bool.true_and]
/-- the class's least so far -/
def zls (NN : Nat) (s : Nat × Nat) : Nat := if s.1 = 0 then NN + 1 else s.2
theorem zless2 {a b : Nat} (ha : a < 2147483648) (hb : b < 2147483648) : (if nI a < nI b then nI b else nI a) = nI (max a b) := by
  by_cases h : a < b
  · rw [if_pos ((zn_lt ha hb).mpr h), Nat.max_eq_right (by omega)]
  · rw [if_neg (fun q => h ((zn_lt ha hb).mp q)), Nat.max_eq_left (by omega)]
/-- the answer of bestTwo -/
def zbtA (x dm : Nat → Nat) (N m wh : Nat) : Int32 := if zNf dm N = 0 ∨ (zkO x (zTf x dm N) (zNf dm N) m m 0 (0, 1000000)).1 = 0 then -1 else if wh = 0 then zlast (zkO x (zTf x dm N) (zNf dm N) m m 0 (0, 1000000)).1 else nI (zkO x (zTf x dm N) (zNf dm N) m m 0 (0, 1000000)).2
theorem zc_bestTwo {wh : Nat} (hD : 4 ≤ D) (hwh : wh < 2) (hb : zQb b) (hQ : zQN κ b m x w) (hM : zDm κ N dm) (h0 : κ.2.1 57 0 = -1) (hp : ∀ d t g, g 0 = -1 → post (some (.int (zbtA x dm N m wh))) n (zl_h (zt3 κ d t g) ρ)) : zq_Runs l G D 0 0 yX0_bestTwo [.ref 56, .ref b, .int (nI wh)] n (zl_h κ ρ) post := by
  have hm7 := hQ.2.1
  have hNle : zNf dm N ≤ 120 := zcnt_le _ 120
  have hTle := zTf_le x dm N
  refine zq_enter (cc := cX0_bestTwo) (nL := 10) (ret := (some .int)) cw_X0_bestTwo (by decide) rfl (Nat.le_of_ble_eq_true rfl) ?_
  refine at_aload_n dX0_bestTwo_0 rfl ?_
  refine at_aload_n dX0_bestTwo_1 rfl ?_
  refine at_callV1 (d := D - 1) dX0_bestTwo_2 mv_X0_45 (zl_o rfl) (Nat.le_of_ble_eq_true rfl) (zq_r0 (by omega) (by omega) (by omega)) ?_
  refine zc_tally (by omega) hb hQ hM h0 (fun d t g hg hdt => ?_)
  have hp := hp d t g hg
  have hQ3 := zQN_3 hb hQ d t g
  have e1 : zcnt (fun p => zmA (zrkN (zal p)) dm N 0) 120 = zNf dm N := rfl
  rw [e1]
  have pair : ∀ p q, p < q → q < m → d (7 * p + q) = nI (zdf (x p) (x q)) ∧ t (7 * p + q) = nI (zTf x dm N p q) := by
    intro p q h1 h2
    have := hdt (7 * p + q) (by omega)
    rw [ztp_T hQ h1 h2] at this
    refine ⟨?_, this.2⟩
    rw [this.1]
    unfold zdp
    rw [show (7 * p + q) / 7 = p by omega, show (7 * p + q) % 7 = q by omega, if_pos ⟨h1, h2⟩]
  have inner : ∀ (p : Nat), p < m → ∀ (k q : Nat) (s : Nat × Nat), q + k = m → p < q → zkS s → (s.1 = 0 → s.2 = 1000000) → ((zkI x (zTf x dm N) (zNf dm N) p k q s).1 = 0 → (zkI x (zTf x dm N) (zNf dm N) p k q s).2 = 1000000) ∧ (zq_At l G (zq_rm D 0 0) mX0_bestTwo (zq_QF G post 0 0) 123 [(0, .ref 56), (1, .ref b), (2, .int (nI wh)), (3, .int (nI (zNf dm N))), (4, .int (nI (zls (zNf dm N) (zkI x (zTf x dm N) (zNf dm N) p k q s)))), (5, .int (zlast (zkI x (zTf x dm N) (zNf dm N) p k q s).1)), (6, .int (nI p))] [] n (zl_h (zt3 κ d t g) ρ) 0 0 → zq_At l G (zq_rm D 0 0) mX0_bestTwo (zq_QF G post 0 0) 39 [(0, .ref 56), (1, .ref b), (2, .int (nI wh)), (3, .int (nI (zNf dm N))), (4, .int (nI (zls (zNf dm N) s))), (5, .int (zlast s.1)), (6, .int (nI p)), (7, .int (nI q))] [] n (zl_h (zt3 κ d t g) ρ) 0 0) := by
    intro p hpm k
    induction k with
    | zero =>
      intro q s hq hpq hs hs0
      obtain rfl : q = m := hq
      refine ⟨hs0, fun hk => ?_⟩
      refine at_iload dX0_bestTwo_39 rfl ?_
      refine at_aload_n dX0_bestTwo_41 rfl ?_
      refine at_get dX0_bestTwo_42 fl_X0_49 (zl_q hb) rfl ?_
      rw [hQ3.1]
      refine at_geN (tgt := 123) dX0_bestTwo_45 (by decide) (by omega) (by omega) (fun c45 => ?_) (fun c45 => ?_)
      · exact at_lv [0, 1, 2, 3, 4, 5, 6] hk
      · omega
    | succ k ih =>
      intro q s hq hpq hs hs0
      obtain ⟨g1, g2⟩ := pair p q hpq (by omega)
      have hT1 := hTle p q
      have hd0 := zdf_0 (hQ.2.2.1 p hpm).2 (hQ.2.2.1 q (by omega)).2
      have hdl := zdfF_lt (x p) (x q) 4 0
      have hls : zls (zNf dm N) s ≤ 1000000 := by unfold zls; have := hs.2; split <;> omega
      have hmx : max (zTf x dm N p q) (zNf dm N - zTf x dm N p q) ≤ zNf dm N := by omega
      have hlt : max (zTf x dm N p q) (zNf dm N - zTf x dm N p q) < zls (zNf dm N) s ↔ ¬ s.2 ≤ max (zTf x dm N p q) (zNf dm N - zTf x dm N p q) := by
        unfold zls
        by_cases e : s.1 = 0
        · rw [if_pos e, hs0 e]; omega
        · rw [if_neg e]; omega
      have hs' : zkS (10 * p + q + 1, max (zTf x dm N p q) (zNf dm N - zTf x dm N p q)) := ⟨by show 10 * p + q + 1 ≤ 1000; omega, by show max _ _ ≤ 1000000; omega⟩
      have e : zkI x (zTf x dm N) (zNf dm N) p (k + 1) q s = zkI x (zTf x dm N) (zNf dm N) p k (q + 1) (if x p = x q ∨ s.2 ≤ max (zTf x dm N p q) (zNf dm N - zTf x dm N p q) then s else (10 * p + q + 1, max (zTf x dm N p q) (zNf dm N - zTf x dm N p q))) := rfl
      rw [e]
      by_cases hc : x p = x q ∨ s.2 ≤ max (zTf x dm N p q) (zNf dm N - zTf x dm N p q)
      · rw [if_pos hc]
        have ih := ih (q + 1) s (by omega) (by omega) hs hs0
        refine ⟨ih.1, fun hk => ?_⟩
        have hn := ih.2 hk
        refine at_iload dX0_bestTwo_39 rfl ?_
        refine at_aload_n dX0_bestTwo_41 rfl ?_
        refine at_get dX0_bestTwo_42 fl_X0_49 (zl_q hb) rfl ?_
        rw [hQ3.1]
        refine at_geN (tgt := 123) dX0_bestTwo_45 (by decide) (by omega) (by omega) (fun c45 => ?_) (fun c45 => ?_)
        · omega
        · refine at_iload dX0_bestTwo_48 rfl ?_
          refine at_bipush dX0_bestTwo_50 (v := nI 7) (by decide) ?_
          refine at_geN (tgt := 123) dX0_bestTwo_52 (by decide) (by omega) (by omega) (fun c52 => ?_) (fun c52 => ?_)
          · omega
          · refine at_bipush dX0_bestTwo_55 (v := nI 7) (by decide) ?_
            refine at_iload dX0_bestTwo_57 rfl ?_
            refine at_imulN dX0_bestTwo_59 ?_
            refine at_iload dX0_bestTwo_60 rfl ?_
            refine at_iaddN dX0_bestTwo_62 ?_
            refine at_istore dX0_bestTwo_63 (by decide) ?_
            refine at_aload_n dX0_bestTwo_65 rfl ?_
            refine at_get dX0_bestTwo_66 fl_X0_25 (zl_o rfl) rfl ?_
            refine at_iload dX0_bestTwo_69 rfl ?_
            refine at_lald2 (a := 60) dX0_bestTwo_71 rfl rfl (by show _ < 49; omega) (by decide) ?_
            rw [zt3_60, g2]
            refine at_iload_n dX0_bestTwo_72 rfl ?_
            refine at_aload_n dX0_bestTwo_73 rfl ?_
            refine at_get dX0_bestTwo_74 fl_X0_25 (zl_o rfl) rfl ?_
            refine at_iload dX0_bestTwo_77 rfl ?_
            refine at_lald2 (a := 60) dX0_bestTwo_79 rfl rfl (by show _ < 49; omega) (by decide) ?_
            rw [zt3_60, g2]
            refine at_isubN dX0_bestTwo_80 hT1 ?_
            refine at_mmax dX0_bestTwo_81 (ms_X0_54.1.resolve_right (by decide)) (Nat.le_of_ble_eq_true rfl) ⟨by show 1 ≤ D; omega, by show 21 ≤ 60 * D; omega, by omega, by omega⟩ ?_
            rw [zless2 (by omega) (by omega)]
            refine at_istore dX0_bestTwo_84 (by decide) ?_
            refine at_aload_n dX0_bestTwo_86 rfl ?_
            refine at_get dX0_bestTwo_87 fl_X0_22 (zl_o rfl) rfl ?_
            refine at_iload dX0_bestTwo_90 rfl ?_
            refine at_lald2 (a := 59) dX0_bestTwo_92 rfl rfl (by show _ < 49; omega) (by decide) ?_
            rw [zt3_59, g1]
            refine at_if_eqN (tgt := 117) dX0_bestTwo_93 (by decide) (show zdf (x p) (x q) < 2147483648 by unfold zdf; omega) (fun c93 => ?_) (fun c93 => ?_)
            · refine at_iincN dX0_bestTwo_117 rfl (by decide) ?_
              refine at_goto (tgt := 39) dX0_bestTwo_120 (by decide) ?_
              exact at_lv [0, 1, 2, 3, 4, 5, 6, 7] hn
            · refine at_iload dX0_bestTwo_96 rfl ?_
              refine at_iload dX0_bestTwo_98 rfl ?_
              refine at_geN (tgt := 117) dX0_bestTwo_100 (by decide) (by omega) (by omega) (fun c100 => ?_) (fun c100 => ?_)
              · refine at_iincN dX0_bestTwo_117 rfl (by decide) ?_
                refine at_goto (tgt := 39) dX0_bestTwo_120 (by decide) ?_
                exact at_lv [0, 1, 2, 3, 4, 5, 6, 7] hn
              · exact absurd (hc.resolve_left (fun h => c93 (hd0.mpr h))) (hlt.mp c100)
      · rw [if_neg hc]
        have ih := ih (q + 1) _ (by omega) (by omega) hs' (fun h => by cases h)
        refine ⟨ih.1, fun hk => ?_⟩
        have hn := ih.2 hk
        refine at_iload dX0_bestTwo_39 rfl ?_
        refine at_aload_n dX0_bestTwo_41 rfl ?_
        refine at_get dX0_bestTwo_42 fl_X0_49 (zl_q hb) rfl ?_
        rw [hQ3.1]
        refine at_geN (tgt := 123) dX0_bestTwo_45 (by decide) (by omega) (by omega) (fun c45 => ?_) (fun c45 => ?_)
        · omega
        · refine at_iload dX0_bestTwo_48 rfl ?_
          refine at_bipush dX0_bestTwo_50 (v := nI 7) (by decide) ?_
          refine at_geN (tgt := 123) dX0_bestTwo_52 (by decide) (by omega) (by omega) (fun c52 => ?_) (fun c52 => ?_)
          · omega
          · refine at_bipush dX0_bestTwo_55 (v := nI 7) (by decide) ?_
            refine at_iload dX0_bestTwo_57 rfl ?_
            refine at_imulN dX0_bestTwo_59 ?_
            refine at_iload dX0_bestTwo_60 rfl ?_
            refine at_iaddN dX0_bestTwo_62 ?_
            refine at_istore dX0_bestTwo_63 (by decide) ?_
            refine at_aload_n dX0_bestTwo_65 rfl ?_
            refine at_get dX0_bestTwo_66 fl_X0_25 (zl_o rfl) rfl ?_
            refine at_iload dX0_bestTwo_69 rfl ?_
            refine at_lald2 (a := 60) dX0_bestTwo_71 rfl rfl (by show _ < 49; omega) (by decide) ?_
            rw [zt3_60, g2]
            refine at_iload_n dX0_bestTwo_72 rfl ?_
            refine at_aload_n dX0_bestTwo_73 rfl ?_
            refine at_get dX0_bestTwo_74 fl_X0_25 (zl_o rfl) rfl ?_
            refine at_iload dX0_bestTwo_77 rfl ?_
            refine at_lald2 (a := 60) dX0_bestTwo_79 rfl rfl (by show _ < 49; omega) (by decide) ?_
            rw [zt3_60, g2]
            refine at_isubN dX0_bestTwo_80 hT1 ?_
            refine at_mmax dX0_bestTwo_81 (ms_X0_54.1.resolve_right (by decide)) (Nat.le_of_ble_eq_true rfl) ⟨by show 1 ≤ D; omega, by show 21 ≤ 60 * D; omega, by omega, by omega⟩ ?_
            rw [zless2 (by omega) (by omega)]
            refine at_istore dX0_bestTwo_84 (by decide) ?_
            refine at_aload_n dX0_bestTwo_86 rfl ?_
            refine at_get dX0_bestTwo_87 fl_X0_22 (zl_o rfl) rfl ?_
            refine at_iload dX0_bestTwo_90 rfl ?_
            refine at_lald2 (a := 59) dX0_bestTwo_92 rfl rfl (by show _ < 49; omega) (by decide) ?_
            rw [zt3_59, g1]
            refine at_if_eqN (tgt := 117) dX0_bestTwo_93 (by decide) (show zdf (x p) (x q) < 2147483648 by unfold zdf; omega) (fun c93 => ?_) (fun c93 => ?_)
            · exact absurd (Or.inl (hd0.mp c93)) hc
            · refine at_iload dX0_bestTwo_96 rfl ?_
              refine at_iload dX0_bestTwo_98 rfl ?_
              refine at_geN (tgt := 117) dX0_bestTwo_100 (by decide) (by omega) (by omega) (fun c100 => ?_) (fun c100 => ?_)
              · exact absurd (hlt.mpr (fun h => hc (Or.inr h))) (by omega)
              · refine at_iload dX0_bestTwo_103 rfl ?_
                refine at_istore dX0_bestTwo_105 (by decide) ?_
                refine at_bipush dX0_bestTwo_107 (v := nI 10) (by decide) ?_
                refine at_iload dX0_bestTwo_109 rfl ?_
                refine at_imulN dX0_bestTwo_111 ?_
                refine at_iload dX0_bestTwo_112 rfl ?_
                refine at_iaddN dX0_bestTwo_114 ?_
                refine at_istore dX0_bestTwo_115 (by decide) ?_
                refine at_iincN dX0_bestTwo_117 rfl (by decide) ?_
                refine at_goto (tgt := 39) dX0_bestTwo_120 (by decide) ?_
                exact at_lv [0, 1, 2, 3, 4, 5, 6, 7] hn
  have outer : ∀ (k p : Nat) (s : Nat × Nat), p + k = m → zkS s → (s.1 = 0 → s.2 = 1000000) → zkO x (zTf x dm N) (zNf dm N) m k p s = zkO x (zTf x dm N) (zNf dm N) m m 0 (0, 1000000) → zq_At l G (zq_rm D 0 0) mX0_bestTwo (zq_QF G post 0 0) 17 [(0, .ref 56), (1, .ref b), (2, .int (nI wh)), (3, .int (nI (zNf dm N))), (4, .int (nI (zls (zNf dm N) s))), (5, .int (zlast s.1)), (6, .int (nI p))] [] n (zl_h (zt3 κ d t g) ρ) 0 0 := by
    intro k
    induction k with
    | zero =>
      intro p s hpk hs hs0 he
      obtain rfl : p = m := hpk
      have he : s = zkO x (zTf x dm N) (zNf dm N) p p 0 (0, 1000000) := he
      unfold zbtA at hp
      rw [← he] at hp
      have h1 : zlast s.1 = -1 ↔ s.1 = 0 := zlast_ne (by have := hs.1; omega)
      refine at_iload dX0_bestTwo_17 rfl ?_
      refine at_aload_n dX0_bestTwo_19 rfl ?_
      refine at_get dX0_bestTwo_20 fl_X0_49 (zl_q hb) rfl ?_
      rw [hQ3.1]
      refine at_geN (tgt := 129) dX0_bestTwo_23 (by decide) (by omega) (by omega) (fun c23 => ?_) (fun c23 => ?_)
      · refine at_iload_n dX0_bestTwo_129 rfl ?_
        refine at_if_eqN (tgt := 139) dX0_bestTwo_130 (by decide) (by omega) (fun c130 => ?_) (fun c130 => ?_)
        · rw [if_pos (Or.inl c130)] at hp
          refine at_iconst dX0_bestTwo_139 (v := -1) rfl ?_
          refine at_iret dX0_bestTwo_140 rfl (by omega) (by omega) ?_
          exact hp
        · refine at_iload dX0_bestTwo_133 rfl ?_
          refine at_iconst dX0_bestTwo_135 (v := -1) rfl ?_
          refine at_icmp_ne (tgt := 141) dX0_bestTwo_136 (by decide) (fun c136 => ?_) (fun c136 => ?_)
          · rw [if_neg (fun h => h.elim c130 (fun h => c136 (h1.mpr h)))] at hp
            refine at_iload_n dX0_bestTwo_141 rfl ?_
            refine at_if_neN (tgt := 150) dX0_bestTwo_142 (by decide) (by omega) (fun c142 => ?_) (fun c142 => ?_)
            · rw [if_neg c142] at hp
              have e5 : zls (zNf dm N) s = s.2 := if_neg (fun h => c136 (h1.mpr h))
              rw [e5]
              refine at_iload dX0_bestTwo_150 rfl ?_
              refine at_iret dX0_bestTwo_152 rfl (by omega) (by omega) ?_
              exact hp
            · rw [if_pos c142] at hp
              refine at_iload dX0_bestTwo_145 rfl ?_
              refine at_goto (tgt := 152) dX0_bestTwo_147 (by decide) ?_
              refine at_iret dX0_bestTwo_152 rfl (by omega) (by omega) ?_
              exact hp
          · rw [if_pos (Or.inr (h1.mp c136))] at hp
            refine at_iconst dX0_bestTwo_139 (v := -1) rfl ?_
            refine at_iret dX0_bestTwo_140 rfl (by omega) (by omega) ?_
            exact hp
      · omega
    | succ k ih =>
      intro p s hpk hs hs0 he
      have e : zkO x (zTf x dm N) (zNf dm N) m (k + 1) p s = zkO x (zTf x dm N) (zNf dm N) m k (p + 1) (zkI x (zTf x dm N) (zNf dm N) p (m - (p + 1)) (p + 1) s) := rfl
      rw [e] at he
      have hi := inner p (by omega) (m - (p + 1)) (p + 1) s (by omega) (by omega) hs hs0
      have hn := ih (p + 1) _ (by omega) (zkI_S x (zTf x dm N) hNle (by omega) hTle (m - (p + 1)) (p + 1) s (by omega) hs) hi.1 he
      refine at_iload dX0_bestTwo_17 rfl ?_
      refine at_aload_n dX0_bestTwo_19 rfl ?_
      refine at_get dX0_bestTwo_20 fl_X0_49 (zl_q hb) rfl ?_
      rw [hQ3.1]
      refine at_geN (tgt := 129) dX0_bestTwo_23 (by decide) (by omega) (by omega) (fun c23 => ?_) (fun c23 => ?_)
      · omega
      · refine at_iload dX0_bestTwo_26 rfl ?_
        refine at_bipush dX0_bestTwo_28 (v := nI 7) (by decide) ?_
        refine at_geN (tgt := 129) dX0_bestTwo_30 (by decide) (by omega) (by omega) (fun c30 => ?_) (fun c30 => ?_)
        · omega
        · refine at_iload dX0_bestTwo_33 rfl ?_
          refine at_iconst dX0_bestTwo_35 (v := nI 1) (by decide) ?_
          refine at_iaddN dX0_bestTwo_36 ?_
          refine at_istore dX0_bestTwo_37 (by decide) ?_
          refine hi.2 ?_
          refine at_iincN dX0_bestTwo_123 rfl (by decide) ?_
          refine at_goto (tgt := 17) dX0_bestTwo_126 (by decide) ?_
          exact hn
  refine at_istore_n dX0_bestTwo_5 rfl (by decide) ?_
  refine at_iload_n dX0_bestTwo_6 rfl ?_
  refine at_iconst dX0_bestTwo_7 (v := nI 1) (by decide) ?_
  refine at_iaddN dX0_bestTwo_8 ?_
  refine at_istore dX0_bestTwo_9 (by decide) ?_
  refine at_iconst dX0_bestTwo_11 (v := -1) rfl ?_
  refine at_istore dX0_bestTwo_12 (by decide) ?_
  refine at_iconst dX0_bestTwo_14 (v := nI 0) (by decide) ?_
  refine at_istore dX0_bestTwo_15 (by decide) ?_
  exact outer m 0 (0, 1000000) (Nat.zero_add _) ⟨by decide, by decide⟩ (fun _ => rfl) rfl
end ZC8

