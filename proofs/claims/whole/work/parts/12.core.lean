/-! ===== the Model: refusals, names, terms, images ===== -/
def zref (σ : zm_S) (j : Nat) : zm_S := zm_sa (zm_si σ 0 (-(nI j))) 71 j (σ.2.1 71 j + nI 1)
/-- whether a number is a name -/
def zle (y : Nat) : Bool := decide (1 ≤ y) && decide (y ≤ 5)
def zall (x : Nat) : Nat → Bool
  | 0 => true
  | k + 1 => zall x k && zle (zlt x k)
def zisI (v : Int32) : Bool := decide (nI 1 ≤ v) && decide (v ≤ nI 5555) && zall v.toNatClampNeg (zlen v.toNatClampNeg)
theorem zle_n {y : Nat} (h : y < 10) : (decide (nI 1 ≤ nI y) && decide (nI y ≤ nI 5)) = zle y := by
  unfold zle
  rw [decide_eq_decide.mpr (nI_leI (a := 1) (by decide) (by omega)), decide_eq_decide.mpr (nI_leI (b := 5) (a := y) (by omega) (by decide))]
theorem zlies_n {v : Int32} {a b : Nat} (ha : a < 2147483648) (hb : b < 2147483648) (h : (decide (nI a ≤ v) && decide (v ≤ nI b)) = true) : ∃ x, a ≤ x ∧ x ≤ b ∧ v = nI x := by
  rw [Bool.and_eq_true, decide_eq_true_eq, decide_eq_true_eq] at h
  obtain ⟨x, hx, rfl⟩ := nI_of (x := v) (by
    rw [Int32.not_lt]
    exact Int32.le_trans (nI_pos' ha) h.1)
  exact ⟨x, (nI_leI ha hx).mp h.1, (nI_leI hx hb).mp h.2, rfl⟩
/-- a term that can be -/
def zterm (w v : Int32) : Bool := (decide (w = nI 0) && (decide (nI 0 ≤ v) && decide (v ≤ nI 999))) || (decide (w = nI 1) && (decide (nI 0 ≤ v) && decide (v ≤ nI 10))) || (decide (w = nI 2) && (decide (nI 0 ≤ v) && decide (v ≤ nI 9)))
theorem zsw {x : Int32} (N : Nat) (hN : N < 2147483647) : (∃ j, j ≤ N ∧ x = nI j) ∨ (x.toInt < 0 ∨ (N : Int) < x.toInt) := by
  by_cases h : x.toInt < 0 ∨ (N : Int) < x.toInt
  · exact Or.inr h
  · obtain ⟨j, hj, rfl⟩ := nI_of (x := x) (by rw [Int32.not_lt, Int32.le_iff_toInt_le]; have : (0 : Int32).toInt = 0 := rfl; omega)
    rw [nI_toInt hj] at h
    exact Or.inl ⟨j, by omega, rfl⟩
theorem zsw_ne {x : Int32} {N j : Nat} (h : x.toInt < 0 ∨ (N : Int) < x.toInt) (hj : j ≤ N) (hN : N < 2147483648) : x ≠ nI j := by
  intro e
  subst e
  rw [nI_toInt (by omega)] at h
  omega
section ZL3
variable {l : Launch} {G : zq_G} {D n m : Nat} {f : Nat → zq_E} {σ : zm_S} {ρ : Nat → zq_E} {post : Option Value → Nat → (Nat → zq_E) → Prop}
theorem zm_ref {j : Nat} (hj : j < 7) (hp : post (some (.int (-(nI j)))) n (zm_h (zref σ j) ρ)) : zq_Runs l G D 0 0 yX12_refuses [.ref 70, .int (-(nI j))] n (zm_h σ ρ) post := zm_refuses (by rw [Int32.neg_neg]) hj hp
theorem zm_isName_loop {x : Nat} (hD : 2 ≤ D) (hx : x ≤ 5555) (hp : post (some (.int (zb (zall x (zlen x))))) n f) : ∀ k i : Nat, i + k = zlen x → zq_At l G (zq_rm D 0 0) mX12_isName (zq_QF G post 0 0) 17 [(0, .int (nI x)), (1, .int (zb (zall x i))), (2, .int (nI i))] [] n f 0 0 := by
  intro k
  have h4 := zlen_le x
  induction k with
  | zero =>
    intro i hi
    obtain rfl : i = zlen x := hi
    refine at_iload_n dX12_isName_17 rfl ?_
    refine at_iload_n dX12_isName_18 rfl ?_
    refine at_callS1 (d := D - 1) dX12_isName_19 ms_X12_22 (Nat.le_of_ble_eq_true rfl) (zq_r0 (by omega) (by omega) (by omega)) ?_
    refine zm_lengthOf (by omega) ?_
    refine at_geN (tgt := 52) dX12_isName_22 (by decide) (by omega) (by omega) (fun c22 => ?_) (fun c22 => ?_)
    · refine at_iload_n dX12_isName_52 rfl ?_
      refine at_zret dX12_isName_53 rfl (by omega) (by omega) (zb_01 _) ?_
      exact hp
    · omega
  | succ k ih =>
    intro i hi
    have hn := ih (i + 1) (by omega)
    unfold zall at hn
    refine at_iload_n dX12_isName_17 rfl ?_
    refine at_iload_n dX12_isName_18 rfl ?_
    refine at_callS1 (d := D - 1) dX12_isName_19 ms_X12_22 (Nat.le_of_ble_eq_true rfl) (zq_r0 (by omega) (by omega) (by omega)) ?_
    refine zm_lengthOf (by omega) ?_
    refine at_geN (tgt := 52) dX12_isName_22 (by decide) (by omega) (by omega) (fun c22 => ?_) (fun c22 => ?_)
    · omega
    · refine at_iload_n dX12_isName_25 rfl ?_
      refine at_if_eqB (tgt := 44) dX12_isName_26 (by decide) (fun c26 => ?_) (fun c26 => ?_)
      · rw [c26, Bool.false_and] at hn
        refine at_iconst dX12_isName_44 (v := nI 0) (by decide) ?_
        refine at_istore_n dX12_isName_45 rfl (by decide) ?_
        refine at_iincN dX12_isName_46 rfl (by decide) ?_
        refine at_goto (tgt := 17) dX12_isName_49 (by decide) ?_
        exact hn
      · refine at_iload_n dX12_isName_29 rfl ?_
        refine at_iload_n dX12_isName_30 rfl ?_
        refine at_callS2 (d := D - 1) dX12_isName_31 ms_X12_28 (Nat.le_of_ble_eq_true rfl) (zq_r0 (by omega) (by omega) (by omega)) ?_
        refine zm_letterAt (by omega) (by omega) (by omega) ?_
        refine at_callS1 (d := D - 1) dX12_isName_34 ms_X12_32 (Nat.le_of_ble_eq_true rfl) (zq_r0 (by omega) (by omega) (by omega)) ?_
        refine zm_isLetter (by omega) ?_
        rw [zle_n (zlt_lt _ _)]
        refine at_if_eqB (tgt := 44) dX12_isName_37 (by decide) (fun c37 => ?_) (fun c37 => ?_)
        · rw [c37, Bool.and_false] at hn
          refine at_iconst dX12_isName_44 (v := nI 0) (by decide) ?_
          refine at_istore_n dX12_isName_45 rfl (by decide) ?_
          refine at_iincN dX12_isName_46 rfl (by decide) ?_
          refine at_goto (tgt := 17) dX12_isName_49 (by decide) ?_
          exact hn
        · rw [c37, c26, Bool.and_true] at hn
          refine at_iconst dX12_isName_40 (v := nI 1) (by decide) ?_
          refine at_goto (tgt := 45) dX12_isName_41 (by decide) ?_
          refine at_istore_n dX12_isName_45 rfl (by decide) ?_
          refine at_iincN dX12_isName_46 rfl (by decide) ?_
          refine at_goto (tgt := 17) dX12_isName_49 (by decide) ?_
          exact hn
theorem zm_isName {v : Int32} (hD : 3 ≤ D) (hp : post (some (.int (zb (zisI v)))) n f) : zq_Runs l G D 0 0 yX12_isName [.int v] n f post := by
  refine zq_enter (cc := cX12_isName) (nL := 3) (ret := (some .boolean)) cw_X12_isName (by decide) rfl (Nat.le_of_ble_eq_true rfl) ?_
  unfold zisI at hp
  refine at_iload_n dX12_isName_0 rfl ?_
  refine at_iconst dX12_isName_1 (v := nI 1) (by decide) ?_
  refine at_sipush dX12_isName_2 (v := nI 5555) (by decide) ?_
  refine at_callS3 (d := D - 1) dX12_isName_5 ms_X12_18 (Nat.le_of_ble_eq_true rfl) (zq_r0 (by omega) (by omega) (by omega)) ?_
  refine zm_lies ?_
  refine at_if_neB (tgt := 13) dX12_isName_8 (by decide) (fun c8 => ?_) (fun c8 => ?_)
  · obtain ⟨x, h1, h2, rfl⟩ := zlies_n (by decide) (by decide) c8
    rw [c8, Bool.true_and, nI_clamp (by omega)] at hp
    refine at_iconst dX12_isName_13 (v := nI 1) (by decide) ?_
    refine at_istore_n dX12_isName_14 rfl (by decide) ?_
    refine at_iconst dX12_isName_15 (v := nI 0) (by decide) ?_
    refine at_istore_n dX12_isName_16 rfl (by decide) ?_
    exact zm_isName_loop (by omega) h2 hp (zlen x) 0 (Nat.zero_add _)
  · rw [c8, Bool.false_and] at hp
    refine at_iconst dX12_isName_11 (v := nI 0) (by decide) ?_
    refine at_zret dX12_isName_12 rfl (by omega) (by omega) (by first | exact Or.inl rfl | exact Or.inr rfl | assumption) ?_
    exact hp
theorem zm_isTerm {w v : Int32} (hD : 1 ≤ D) (hp : post (some (.int (zb (zterm w v)))) n f) : zq_Runs l G D 0 0 yX12_isTerm [.int w, .int v] n f post := by
  refine zq_enter (cc := cX12_isTerm) (nL := 2) (ret := (some .boolean)) cw_X12_isTerm (by decide) rfl (Nat.le_of_ble_eq_true rfl) ?_
  refine at_iload_n dX12_isTerm_0 rfl ?_
  rcases zsw (x := w) 2 (by decide) with ⟨j, hj, rfl⟩ | h
  · rcases (show j = 0 ∨ j = 1 ∨ j = 2 by omega) with rfl | rfl | rfl
    · refine at_tableIn (tgt := 28) dX12_isTerm_1 (by decide) (by decide) rfl (by decide) ?_
      refine at_iload_n dX12_isTerm_28 rfl ?_
      refine at_iconst dX12_isTerm_29 (v := nI 0) (by decide) ?_
      refine at_sipush dX12_isTerm_30 (v := nI 999) (by decide) ?_
      refine at_callS3 (d := D - 1) dX12_isTerm_33 ms_X12_18 (Nat.le_of_ble_eq_true rfl) (zq_r0 (by omega) (by omega) (by omega)) ?_
      refine zm_lies ?_
      rw [show (decide (nI 0 ≤ v) && decide (v ≤ nI 999)) = zterm (nI 0) v by unfold zterm; rw [show decide (nI 0 = nI 0) = true from rfl, show decide (nI 0 = nI 1) = false from rfl, show decide (nI 0 = nI 2) = false from rfl]; simp]
      refine at_zret dX12_isTerm_36 rfl (by omega) (by omega) (zb_01 _) ?_
      exact hp
    · refine at_tableIn (tgt := 37) dX12_isTerm_1 (by decide) (by decide) rfl (by decide) ?_
      refine at_iload_n dX12_isTerm_37 rfl ?_
      refine at_iconst dX12_isTerm_38 (v := nI 0) (by decide) ?_
      refine at_bipush dX12_isTerm_39 (v := nI 10) (by decide) ?_
      refine at_callS3 (d := D - 1) dX12_isTerm_41 ms_X12_18 (Nat.le_of_ble_eq_true rfl) (zq_r0 (by omega) (by omega) (by omega)) ?_
      refine zm_lies ?_
      rw [show (decide (nI 0 ≤ v) && decide (v ≤ nI 10)) = zterm (nI 1) v by unfold zterm; rw [show decide (nI 1 = nI 0) = false from rfl, show decide (nI 1 = nI 1) = true from rfl, show decide (nI 1 = nI 2) = false from rfl]; simp]
      refine at_zret dX12_isTerm_44 rfl (by omega) (by omega) (zb_01 _) ?_
      exact hp
    · refine at_tableIn (tgt := 45) dX12_isTerm_1 (by decide) (by decide) rfl (by decide) ?_
      refine at_iload_n dX12_isTerm_45 rfl ?_
      refine at_iconst dX12_isTerm_46 (v := nI 0) (by decide) ?_
      refine at_bipush dX12_isTerm_47 (v := nI 9) (by decide) ?_
      refine at_callS3 (d := D - 1) dX12_isTerm_49 ms_X12_18 (Nat.le_of_ble_eq_true rfl) (zq_r0 (by omega) (by omega) (by omega)) ?_
      refine zm_lies ?_
      rw [show (decide (nI 0 ≤ v) && decide (v ≤ nI 9)) = zterm (nI 2) v by unfold zterm; rw [show decide (nI 2 = nI 0) = false from rfl, show decide (nI 2 = nI 1) = false from rfl, show decide (nI 2 = nI 2) = true from rfl]; simp]
      refine at_zret dX12_isTerm_52 rfl (by omega) (by omega) (zb_01 _) ?_
      exact hp
  · refine at_tableOut (tgt := 53) dX12_isTerm_1 h (by decide) ?_
    have e : zterm w v = false := by unfold zterm; rw [decide_eq_false (zsw_ne h (by decide) (by decide)), decide_eq_false (zsw_ne h (by decide) (by decide)), decide_eq_false (zsw_ne h (by decide) (by decide))]; rfl
    rw [e] at hp
    refine at_iconst dX12_isTerm_53 (v := nI 0) (by decide) ?_
    refine at_zret dX12_isTerm_54 rfl (by omega) (by omega) (by first | exact Or.inl rfl | exact Or.inr rfl | assumption) ?_
    exact hp
/-- where a term stands -/
def ztAt (j : Nat) : Nat := if j = 0 then 19 else if j = 1 then 71 else 72
theorem zm_termAt {j : Nat} (hj : j < 2147483648) (hp : post (some (.int (nI (ztAt j)))) n f) : zq_Runs l G D 0 0 yX12_termAt [.int (nI j)] n f post := by
  refine zq_enter (cc := cX12_termAt) (nL := 1) (ret := (some .int)) cw_X12_termAt (by decide) rfl (Nat.le_of_ble_eq_true rfl) ?_
  unfold ztAt at hp
  refine at_iload_n dX12_termAt_0 rfl ?_
  refine at_if_neN (tgt := 9) dX12_termAt_1 (by decide) (by omega) (fun c1 => ?_) (fun c1 => ?_)
  · refine at_iload_n dX12_termAt_9 rfl ?_
    refine at_iconst dX12_termAt_10 (v := nI 1) (by decide) ?_
    refine at_neN (tgt := 19) dX12_termAt_11 (by decide) (by omega) (by omega) (fun c11 => ?_) (fun c11 => ?_)
    · rw [if_neg c1, if_neg c11] at hp
      refine at_bipush dX12_termAt_19 (v := nI 72) (by decide) ?_
      refine at_iret dX12_termAt_21 rfl (by omega) (by omega) ?_
      exact hp
    · rw [if_neg c1, if_pos c11] at hp
      refine at_bipush dX12_termAt_14 (v := nI 71) (by decide) ?_
      refine at_goto (tgt := 21) dX12_termAt_16 (by decide) ?_
      refine at_iret dX12_termAt_21 rfl (by omega) (by omega) ?_
      exact hp
  · rw [if_pos c1] at hp
    refine at_bipush dX12_termAt_4 (v := nI 19) (by decide) ?_
    refine at_goto (tgt := 21) dX12_termAt_6 (by decide) ?_
    refine at_iret dX12_termAt_21 rfl (by omega) (by omega) ?_
    exact hp
theorem zterm_t {w v : Int32} (h : zterm w v = true) : ∃ j x, j < 3 ∧ w = nI j ∧ v = nI x ∧ x ≤ (if j = 0 then 999 else if j = 1 then 10 else 9) := by
  unfold zterm at h
  rw [Bool.or_eq_true, Bool.or_eq_true] at h
  rcases h with (h | h) | h <;> (rw [Bool.and_eq_true, decide_eq_true_eq] at h; obtain ⟨rfl, h⟩ := h)
  · obtain ⟨x, -, h2, rfl⟩ := zlies_n (by decide) (by decide) h
    exact ⟨0, x, by decide, rfl, rfl, h2⟩
  · obtain ⟨x, -, h2, rfl⟩ := zlies_n (by decide) (by decide) h
    exact ⟨1, x, by decide, rfl, rfl, h2⟩
  · obtain ⟨x, -, h2, rfl⟩ := zlies_n (by decide) (by decide) h
    exact ⟨2, x, by decide, rfl, rfl, h2⟩
theorem ztAt_lt (j : Nat) : ztAt j < 73 := by unfold ztAt; split <;> (try split) <;> omega
theorem zm_terms {w v : Int32} (hD : 2 ≤ D) (hf : zterm w v = false → post (some (.int (-(nI 1)))) n (zm_h (zref σ 1) ρ)) (ht : ∀ j x, w = nI j → v = nI x → zterm w v = true → j < 3 → post (some (.int (σ.2.1 72 (ztAt j)))) n (zm_h (zm_si (zm_si (zsK σ (upd (σ.2.1 72) (ztAt j) (nI x))) 44 0) 0 0) ρ)) : zq_Runs l G D 0 0 yX12_terms [.ref 70, .int w, .int v] n (zm_h σ ρ) post := by
  refine zq_enter (cc := cX12_terms) (nL := 4) (ret := (some .int)) cw_X12_terms (by decide) rfl (Nat.le_of_ble_eq_true rfl) ?_
  refine at_iload_n dX12_terms_0 rfl ?_
  refine at_iload_n dX12_terms_1 rfl ?_
  refine at_callS2 (d := D - 1) dX12_terms_2 ms_X12_168 (Nat.le_of_ble_eq_true rfl) (zq_r0 (by omega) (by omega) (by omega)) ?_
  refine zm_isTerm (by omega) ?_
  refine at_if_neB (tgt := 14) dX12_terms_5 (by decide) (fun c5 => ?_) (fun c5 => ?_)
  · obtain ⟨j, x, hj, rfl, rfl, hx⟩ := zterm_t c5
    have hp := ht j x rfl rfl c5 hj
    have hl := ztAt_lt j
    refine at_aload_n dX12_terms_14 rfl ?_
    refine at_get dX12_terms_15 fl_X12_42 rfl rfl ?_
    refine at_iload_n dX12_terms_18 rfl ?_
    refine at_callS1 (d := D - 1) dX12_terms_19 ms_X12_172 (Nat.le_of_ble_eq_true rfl) (zq_r0 (by omega) (by omega) (by omega)) ?_
    refine zm_termAt (by omega) ?_
    refine at_mald (a := 72) dX12_terms_22 (by decide) (by decide) (by decide) (by decide) rfl rfl (by show _ < 5684; omega) (by decide) ?_
    refine at_istore_n dX12_terms_23 rfl (by decide) ?_
    refine at_aload_n dX12_terms_24 rfl ?_
    refine at_get dX12_terms_25 fl_X12_42 rfl rfl ?_
    refine at_iload_n dX12_terms_28 rfl ?_
    refine at_callS1 (d := D - 1) dX12_terms_29 ms_X12_172 (Nat.le_of_ble_eq_true rfl) (zq_r0 (by omega) (by omega) (by omega)) ?_
    refine zm_termAt (by omega) ?_
    refine at_iload_n dX12_terms_32 rfl ?_
    refine at_mast (a := 72) dX12_terms_33 (by decide) (by decide) (by decide) (by decide) rfl rfl (by show _ < 5684; omega) (by decide) ?_
    refine at_aload_n dX12_terms_34 rfl ?_
    refine at_iload_n dX12_terms_35 rfl ?_
    refine at_callV1 (d := D - 1) dX12_terms_36 mv_X12_138 rfl (Nat.le_of_ble_eq_true rfl) (zq_r0 (by omega) (by omega) (by omega)) ?_
    refine zm_settled (by omega) ?_
    refine at_iret dX12_terms_39 rfl (by omega) (by omega) ?_
    exact hp
  · have hp := hf c5
    refine at_aload_n dX12_terms_8 rfl ?_
    refine at_iconst dX12_terms_9 (v := -1) rfl ?_
    refine at_callV1 (d := D - 1) dX12_terms_10 mv_X12_135 rfl (Nat.le_of_ble_eq_true rfl) (zq_r0 (by omega) (by omega) (by omega)) ?_
    refine zm_ref (j := 1) (by decide) ?_
    refine at_iret dX12_terms_13 rfl (by omega) (by omega) ?_
    exact hp
theorem zm_says {p h y : Int32} (hD : 2 ≤ D) (hm : σ.2.1 72 73 = nI m) (hm7 : m ≤ 7)
    (hf1 : ((decide (nI 1 ≤ h) && decide (h ≤ nI 5)) && (decide (nI 1 ≤ y) && decide (y ≤ nI 5))) = false → post (some (.int (-(nI 1)))) n (zm_h (zref σ 1) ρ))
    (hf2 : ((decide (nI 1 ≤ h) && decide (h ≤ nI 5)) && (decide (nI 1 ≤ y) && decide (y ≤ nI 5))) = true → zix m p = false → post (some (.int (-(nI 2)))) n (zm_h (zref σ 2) ρ))
    (ht : ∀ j a b, j < m → 1 ≤ a → a ≤ 5 → 1 ≤ b → b ≤ 5 → p = nI j → h = nI a → y = nI b → post (some (.int (σ.2.1 72 (20 + 5 * j + a - 1)))) n (zm_h (zm_si (zsK σ (upd (σ.2.1 72) (20 + 5 * j + a - 1) (nI b))) 0 0) ρ)) : zq_Runs l G D 0 0 yX12_says [.ref 70, .int p, .int h, .int y] n (zm_h σ ρ) post := by
  refine zq_enter (cc := cX12_says) (nL := 6) (ret := (some .int)) cw_X12_says (by decide) rfl (Nat.le_of_ble_eq_true rfl) ?_
  refine at_iload_n dX12_says_0 rfl ?_
  refine at_callS1 (d := D - 1) dX12_says_1 ms_X12_32 (Nat.le_of_ble_eq_true rfl) (zq_r0 (by omega) (by omega) (by omega)) ?_
  refine zm_isLetter (by omega) ?_
  refine at_if_eqB (tgt := 14) dX12_says_4 (by decide) (fun c4 => ?_) (fun c4 => ?_)
  · have hp := hf1 (by rw [c4]; rfl)
    refine at_aload_n dX12_says_14 rfl ?_
    refine at_iconst dX12_says_15 (v := -1) rfl ?_
    refine at_callV1 (d := D - 1) dX12_says_16 mv_X12_135 rfl (Nat.le_of_ble_eq_true rfl) (zq_r0 (by omega) (by omega) (by omega)) ?_
    refine zm_ref (j := 1) (by decide) ?_
    refine at_iret dX12_says_19 rfl (by omega) (by omega) ?_
    exact hp
  · refine at_iload_n dX12_says_7 rfl ?_
    refine at_callS1 (d := D - 1) dX12_says_8 ms_X12_32 (Nat.le_of_ble_eq_true rfl) (zq_r0 (by omega) (by omega) (by omega)) ?_
    refine zm_isLetter (by omega) ?_
    refine at_if_neB (tgt := 20) dX12_says_11 (by decide) (fun c11 => ?_) (fun c11 => ?_)
    · refine at_aload_n dX12_says_20 rfl ?_
      refine at_iload_n dX12_says_21 rfl ?_
      refine at_callV1 (d := D - 1) dX12_says_22 mv_X12_152 rfl (Nat.le_of_ble_eq_true rfl) (zq_r0 (by omega) (by omega) (by omega)) ?_
      refine zm_isPerson (by omega) hm hm7 ?_
      refine at_if_neB (tgt := 35) dX12_says_25 (by decide) (fun c25 => ?_) (fun c25 => ?_)
      · obtain ⟨j, hj, rfl⟩ := zix_t c25
        obtain ⟨a, ha1, ha5, rfl⟩ := zlies_n (by decide) (by decide) c4
        obtain ⟨b, hb1, hb5, rfl⟩ := zlies_n (by decide) (by decide) c11
        have hp := ht j a b hj ha1 ha5 hb1 hb5 rfl rfl rfl
        refine at_bipush dX12_says_35 (v := nI 20) (by decide) ?_
        refine at_iconst dX12_says_37 (v := nI 5) (by decide) ?_
        refine at_iload_n dX12_says_38 rfl ?_
        refine at_imulN dX12_says_39 ?_
        refine at_iaddN dX12_says_40 ?_
        refine at_iload_n dX12_says_41 rfl ?_
        refine at_iaddN dX12_says_42 ?_
        refine at_iconst dX12_says_43 (v := nI 1) (by decide) ?_
        refine at_isubN dX12_says_44 (by omega) ?_
        refine at_istore dX12_says_45 (by decide) ?_
        refine at_aload_n dX12_says_47 rfl ?_
        refine at_get dX12_says_48 fl_X12_42 rfl rfl ?_
        refine at_iload dX12_says_51 rfl ?_
        refine at_mald (a := 72) dX12_says_53 (by decide) (by decide) (by decide) (by decide) rfl rfl (by show _ < 5684; omega) (by decide) ?_
        refine at_istore dX12_says_54 (by decide) ?_
        refine at_aload_n dX12_says_56 rfl ?_
        refine at_get dX12_says_57 fl_X12_42 rfl rfl ?_
        refine at_iload dX12_says_60 rfl ?_
        refine at_iload_n dX12_says_62 rfl ?_
        refine at_mast (a := 72) dX12_says_63 (by decide) (by decide) (by decide) (by decide) rfl rfl (by show _ < 5684; omega) (by decide) ?_
        refine at_aload_n dX12_says_64 rfl ?_
        refine at_iload dX12_says_65 rfl ?_
        refine at_callV1 (d := D - 1) dX12_says_67 mv_X12_14 rfl (Nat.le_of_ble_eq_true rfl) (zq_r0 (by omega) (by omega) (by omega)) ?_
        refine zm_good ?_
        refine at_iret dX12_says_70 rfl (by omega) (by omega) ?_
        exact hp
      · have hp := hf2 (by rw [c4, c11]; rfl) c25
        refine at_aload_n dX12_says_28 rfl ?_
        refine at_bipush dX12_says_29 (v := -2) (by decide) ?_
        refine at_callV1 (d := D - 1) dX12_says_31 mv_X12_135 rfl (Nat.le_of_ble_eq_true rfl) (zq_r0 (by omega) (by omega) (by omega)) ?_
        refine zm_ref (j := 2) (by decide) ?_
        refine at_iret dX12_says_34 rfl (by omega) (by omega) ?_
        exact hp
    · have hp := hf1 (by rw [c11, Bool.and_false])
      refine at_aload_n dX12_says_14 rfl ?_
      refine at_iconst dX12_says_15 (v := -1) rfl ?_
      refine at_callV1 (d := D - 1) dX12_says_16 mv_X12_135 rfl (Nat.le_of_ble_eq_true rfl) (zq_r0 (by omega) (by omega) (by omega)) ?_
      refine zm_ref (j := 1) (by decide) ?_
      refine at_iret dX12_says_19 rfl (by omega) (by omega) ?_
      exact hp
theorem zm_person {v : Int32} (hD : 4 ≤ D) (hm : σ.2.1 72 73 = nI m) (hm7 : m ≤ 7)
    (hf1 : zisI v = false → post (some (.int (-(nI 1)))) n (zm_h (zref σ 1) ρ)) (hf2 : zisI v = true → m = 7 → post (some (.int (-(nI 5)))) n (zm_h (zref σ 5) ρ))
    (ht : zisI v = true → m < 7 → post (some (.int (nI m))) n (zm_h (zm_si (zm_si (zsK σ (zadd (σ.2.1 72) m v)) 44 0) 0 0) ρ)) : zq_Runs l G D 0 0 yX12_person [.ref 70, .int v] n (zm_h σ ρ) post := by
  refine zq_enter (cc := cX12_person) (nL := 2) (ret := (some .int)) cw_X12_person (by decide) rfl (Nat.le_of_ble_eq_true rfl) ?_
  refine at_iload_n dX12_person_0 rfl ?_
  refine at_callS1 (d := D - 1) dX12_person_1 ms_X12_145 (Nat.le_of_ble_eq_true rfl) (zq_r0 (by omega) (by omega) (by omega)) ?_
  refine zm_isName (by omega) ?_
  refine at_if_neB (tgt := 13) dX12_person_4 (by decide) (fun c4 => ?_) (fun c4 => ?_)
  · refine at_aload_n dX12_person_13 rfl ?_
    refine at_callV0 (d := D - 1) dX12_person_14 mv_X12_141 rfl (Nat.le_of_ble_eq_true rfl) (zq_r0 (by omega) (by omega) (by omega)) ?_
    refine zm_many hm ?_
    refine at_bipush dX12_person_17 (v := nI 7) (by decide) ?_
    refine at_neN (tgt := 29) dX12_person_19 (by decide) (by omega) (by omega) (fun c19 => ?_) (fun c19 => ?_)
    · have hp := ht c4 (by omega)
      refine at_aload_n dX12_person_29 rfl ?_
      refine at_iload_n dX12_person_30 rfl ?_
      refine at_callV1 (d := D - 1) dX12_person_31 mv_X12_148 rfl (Nat.le_of_ble_eq_true rfl) (zq_r0 (by omega) (by omega) (by omega)) ?_
      refine zm_adds (by omega) hm (by omega) ?_
      refine at_aload_n dX12_person_34 rfl ?_
      refine at_aload_n dX12_person_35 rfl ?_
      refine at_callV0 (d := D - 1) dX12_person_36 mv_X12_141 rfl (Nat.le_of_ble_eq_true rfl) (zq_r0 (by omega) (by omega) (by omega)) ?_
      refine zm_many (m := m + 1) (by rw [zsK_k]; exact upd_s _ _ _) ?_
      refine at_iconst dX12_person_39 (v := nI 1) (by decide) ?_
      refine at_isubN dX12_person_40 (by omega) ?_
      refine at_callV1 (d := D - 1) dX12_person_41 mv_X12_138 rfl (Nat.le_of_ble_eq_true rfl) (zq_r0 (by omega) (by omega) (by omega)) ?_
      refine zm_settled (by omega) ?_
      refine at_iret dX12_person_44 rfl (by omega) (by omega) ?_
      exact hp
    · have hp := hf2 c4 c19
      refine at_aload_n dX12_person_22 rfl ?_
      refine at_bipush dX12_person_23 (v := -5) (by decide) ?_
      refine at_callV1 (d := D - 1) dX12_person_25 mv_X12_135 rfl (Nat.le_of_ble_eq_true rfl) (zq_r0 (by omega) (by omega) (by omega)) ?_
      refine zm_ref (j := 5) (by decide) ?_
      refine at_iret dX12_person_28 rfl (by omega) (by omega) ?_
      exact hp
  · have hp := hf1 c4
    refine at_aload_n dX12_person_7 rfl ?_
    refine at_iconst dX12_person_8 (v := -1) rfl ?_
    refine at_callV1 (d := D - 1) dX12_person_9 mv_X12_135 rfl (Nat.le_of_ble_eq_true rfl) (zq_r0 (by omega) (by omega) (by omega)) ?_
    refine zm_ref (j := 1) (by decide) ?_
    refine at_iret dX12_person_12 rfl (by omega) (by omega) ?_
    exact hp
/-- one of the Model's arrays is another one -/
def zsA (σ : zm_S) (a : Nat) (g : Nat → Int32) : zm_S := (σ.1, va_up σ.2.1 a g, σ.2.2)
theorem zsA_s (σ : zm_S) (a : Nat) (g : Nat → Int32) : (zsA σ a g).2.1 a = g := by simp [zsA, va_up]
theorem zsA_o (σ : zm_S) {a b : Nat} (h : b ≠ a) (g : Nat → Int32) : (zsA σ a g).2.1 b = σ.2.1 b := by simp [zsA, va_up, h]
theorem zsA_A (σ : zm_S) (a : Nat) (g g' : Nat → Int32) : zsA (zsA σ a g) a g' = zsA σ a g' := by
  show (σ.1, va_up (va_up σ.2.1 a g) a g', σ.2.2) = _
  rw [bx_uu]
  rfl
theorem zsA_m (σ : zm_S) (a i : Nat) (v : Int32) : zm_sa σ a i v = zsA σ a (upd (σ.2.1 a) i v) := rfl
theorem zsA_a (σ : zm_S) (a : Nat) (g : Nat → Int32) (i : Nat) (v : Int32) : zm_sa (zsA σ a g) a i v = zsA σ a (upd g i v) := by rw [zsA_m, zsA_s, zsA_A]
theorem zsA_0 (σ : zm_S) (a : Nat) : zsA σ a (σ.2.1 a) = σ := by
  show (σ.1, va_up σ.2.1 a (σ.2.1 a), σ.2.2) = σ
  rw [show va_up σ.2.1 a (σ.2.1 a) = σ.2.1 by funext b; by_cases h : b = a <;> simp [va_up, h]]
/-- k places of one row into another one, one by one -/
def zcp (dst src : Nat → Int32) (d0 s0 : Nat) : Nat → Nat → Int32
  | 0 => dst
  | k + 1 => upd (zcp dst src d0 s0 k) (d0 + k) (src (s0 + k))
theorem zcp_at (dst src : Nat → Int32) (d0 s0 : Nat) : ∀ k j, zcp dst src d0 s0 k j = if d0 ≤ j ∧ j < d0 + k then src (s0 + (j - d0)) else dst j
  | 0, j => by rw [if_neg (by omega)]; rfl
  | k + 1, j => by
    show upd _ _ _ j = _
    by_cases h : j = d0 + k
    · subst h
      rw [upd_s, if_pos (by omega), Nat.add_sub_cancel_left]
    · rw [upd_o _ h, zcp_at dst src d0 s0 k j]
      by_cases h2 : d0 ≤ j ∧ j < d0 + k
      · rw [if_pos h2, if_pos (by omega)]
      · rw [if_neg h2, if_neg (by omega)]
theorem zm_laysAside_loop {b : Nat} (hb : b < 2) (hp : post none n (zm_h (zsA σ 75 (zcp (σ.2.1 75) (σ.2.1 72) (20 * b) 0 20)) ρ)) : ∀ k i : Nat, i + k = 20 → zq_At l G (zq_rm D 0 0) mX12_laysAside (zq_QF G post 0 0) 2 [(0, .ref 70), (1, .int (nI b)), (2, .int (nI i))] [] n (zm_h (zsA σ 75 (zcp (σ.2.1 75) (σ.2.1 72) (20 * b) 0 i)) ρ) 0 0 := by
  intro k
  induction k with
  | zero =>
    intro i hi
    obtain rfl : i = 20 := hi
    refine at_iload_n dX12_laysAside_2 rfl ?_
    refine at_bipush dX12_laysAside_3 (v := nI 20) (by decide) ?_
    refine at_geN (tgt := 31) dX12_laysAside_5 (by decide) (by omega) (by omega) (fun c5 => ?_) (fun c5 => ?_)
    · refine at_vret dX12_laysAside_31 rfl (by omega) (by omega) ?_
      exact hp
    · omega
  | succ k ih =>
    intro i hi
    have hn := ih (i + 1) (by omega)
    unfold zcp at hn
    rw [Nat.zero_add i] at hn
    refine at_iload_n dX12_laysAside_2 rfl ?_
    refine at_bipush dX12_laysAside_3 (v := nI 20) (by decide) ?_
    refine at_geN (tgt := 31) dX12_laysAside_5 (by decide) (by omega) (by omega) (fun c5 => ?_) (fun c5 => ?_)
    · omega
    · refine at_aload_n dX12_laysAside_8 rfl ?_
      refine at_get dX12_laysAside_9 fl_X12_52 rfl rfl ?_
      refine at_bipush dX12_laysAside_12 (v := nI 20) (by decide) ?_
      refine at_iload_n dX12_laysAside_14 rfl ?_
      refine at_imulN dX12_laysAside_15 ?_
      refine at_iload_n dX12_laysAside_16 rfl ?_
      refine at_iaddN dX12_laysAside_17 ?_
      refine at_aload_n dX12_laysAside_18 rfl ?_
      refine at_get dX12_laysAside_19 fl_X12_42 rfl rfl ?_
      refine at_iload_n dX12_laysAside_22 rfl ?_
      refine at_mald (a := 72) dX12_laysAside_23 (by decide) (by decide) (by decide) (by decide) rfl rfl (by show _ < 5684; omega) (by decide) ?_
      rw [zsA_o _ (by decide)]
      refine at_mast (a := 75) dX12_laysAside_24 (by decide) (by decide) (by decide) (by decide) rfl rfl (by show _ < 40; omega) (by decide) ?_
      rw [zsA_a]
      refine at_iincN dX12_laysAside_25 rfl (by decide) ?_
      refine at_goto (tgt := 2) dX12_laysAside_28 (by decide) ?_
      exact hn
theorem zm_laysAside {b : Nat} (hb : b < 2) (hp : post none n (zm_h (zsA σ 75 (zcp (σ.2.1 75) (σ.2.1 72) (20 * b) 0 20)) ρ)) : zq_Runs l G D 0 0 yX12_laysAside [.ref 70, .int (nI b)] n (zm_h σ ρ) post := by
  refine zq_enter (cc := cX12_laysAside) (nL := 3) (ret := none) cw_X12_laysAside (by decide) rfl (Nat.le_of_ble_eq_true rfl) ?_
  have h0 := zm_laysAside_loop (D := D) (l := l) (G := G) hb hp 20 0 rfl
  unfold zcp at h0
  rw [zsA_0] at h0
  refine at_iconst dX12_laysAside_0 (v := nI 0) (by decide) ?_
  refine at_istore_n dX12_laysAside_1 rfl (by decide) ?_
  exact h0
theorem zm_takesBack_loop {b : Nat} (hb : b < 2) (hk : zq_At l G (zq_rm D 0 0) mX12_takesBack (zq_QF G post 0 0) 31 [(0, .ref 70), (1, .int (nI b)), (2, .int (nI 20))] [] n (zm_h (zsA σ 72 (zcp (σ.2.1 72) (σ.2.1 75) 0 (20 * b) 20)) ρ) 0 0) : ∀ k i : Nat, i + k = 20 → zq_At l G (zq_rm D 0 0) mX12_takesBack (zq_QF G post 0 0) 2 [(0, .ref 70), (1, .int (nI b)), (2, .int (nI i))] [] n (zm_h (zsA σ 72 (zcp (σ.2.1 72) (σ.2.1 75) 0 (20 * b) i)) ρ) 0 0 := by
  intro k
  induction k with
  | zero =>
    intro i hi
    obtain rfl : i = 20 := hi
    refine at_iload_n dX12_takesBack_2 rfl ?_
    refine at_bipush dX12_takesBack_3 (v := nI 20) (by decide) ?_
    refine at_geN (tgt := 31) dX12_takesBack_5 (by decide) (by omega) (by omega) (fun c5 => ?_) (fun c5 => ?_)
    · exact hk
    · omega
  | succ k ih =>
    intro i hi
    have hn := ih (i + 1) (by omega)
    unfold zcp at hn
    rw [Nat.zero_add i] at hn
    refine at_iload_n dX12_takesBack_2 rfl ?_
    refine at_bipush dX12_takesBack_3 (v := nI 20) (by decide) ?_
    refine at_geN (tgt := 31) dX12_takesBack_5 (by decide) (by omega) (by omega) (fun c5 => ?_) (fun c5 => ?_)
    · omega
    · refine at_aload_n dX12_takesBack_8 rfl ?_
      refine at_get dX12_takesBack_9 fl_X12_42 rfl rfl ?_
      refine at_iload_n dX12_takesBack_12 rfl ?_
      refine at_aload_n dX12_takesBack_13 rfl ?_
      refine at_get dX12_takesBack_14 fl_X12_52 rfl rfl ?_
      refine at_bipush dX12_takesBack_17 (v := nI 20) (by decide) ?_
      refine at_iload_n dX12_takesBack_19 rfl ?_
      refine at_imulN dX12_takesBack_20 ?_
      refine at_iload_n dX12_takesBack_21 rfl ?_
      refine at_iaddN dX12_takesBack_22 ?_
      refine at_mald (a := 75) dX12_takesBack_23 (by decide) (by decide) (by decide) (by decide) rfl rfl (by show _ < 40; omega) (by decide) ?_
      rw [zsA_o _ (by decide)]
      refine at_mast (a := 72) dX12_takesBack_24 (by decide) (by decide) (by decide) (by decide) rfl rfl (by show _ < 5684; omega) (by decide) ?_
      rw [zsA_a]
      refine at_iincN dX12_takesBack_25 rfl (by decide) ?_
      refine at_goto (tgt := 2) dX12_takesBack_28 (by decide) ?_
      exact hn
theorem zm_takesBack {b : Nat} {al : Nat → Nat} (hb : b < 2) (hD : 1 ≤ D) (hal : ∀ k, k < 5 → zcp (σ.2.1 72) (σ.2.1 75) 0 (20 * b) 20 (14 + k) = nI (al k) ∧ al k < 6) (hp : post none n (zm_h (zsA (zsA σ 72 (zcp (σ.2.1 72) (σ.2.1 75) 0 (20 * b) 20)) 76 (zrk (σ.2.1 76) al 5)) ρ)) : zq_Runs l G D 0 0 yX12_takesBack [.ref 70, .int (nI b)] n (zm_h σ ρ) post := by
  refine zq_enter (cc := cX12_takesBack) (nL := 3) (ret := none) cw_X12_takesBack (by decide) rfl (Nat.le_of_ble_eq_true rfl) ?_
  have hk : zq_At l G (zq_rm D 0 0) mX12_takesBack (zq_QF G post 0 0) 31 [(0, .ref 70), (1, .int (nI b)), (2, .int (nI 20))] [] n (zm_h (zsA σ 72 (zcp (σ.2.1 72) (σ.2.1 75) 0 (20 * b) 20)) ρ) 0 0 := by
    refine at_aload_n dX12_takesBack_31 rfl ?_
    refine at_callV0 (d := D - 1) dX12_takesBack_32 mv_X12_132 rfl (Nat.le_of_ble_eq_true rfl) (zq_r0 (by omega) (by omega) (by omega)) ?_
    refine zm_laysRank (al := al) (fun k hk => by rw [zsA_s]; exact hal k hk) ?_
    refine at_vret dX12_takesBack_35 rfl (by omega) (by omega) ?_
    rw [zsA_o _ (by decide)]; exact hp
  have h0 := zm_takesBack_loop (D := D) (l := l) (G := G) hb hk 20 0 rfl
  unfold zcp at h0
  rw [zsA_0] at h0
  refine at_iconst dX12_takesBack_0 (v := nI 0) (by decide) ?_
  refine at_istore_n dX12_takesBack_1 rfl (by decide) ?_
  exact h0
theorem zm_image_loop {b : Nat} (hb : b < 2) (hk : zq_At l G (zq_rm D 0 0) mX12_image (zq_QF G post 0 0) 48 [(0, .ref 70), (1, .int (nI b)), (2, .int (nI 5684))] [] n (zm_h (zsA σ 73 (zcp (σ.2.1 73) (σ.2.1 72) (5684 * b) 0 5684)) ρ) 0 0) : ∀ k i : Nat, i + k = 5684 → zq_At l G (zq_rm D 0 0) mX12_image (zq_QF G post 0 0) 17 [(0, .ref 70), (1, .int (nI b)), (2, .int (nI i))] [] n (zm_h (zsA σ 73 (zcp (σ.2.1 73) (σ.2.1 72) (5684 * b) 0 i)) ρ) 0 0 := by
  intro k
  induction k with
  | zero =>
    intro i hi
    obtain rfl : i = 5684 := hi
    refine at_iload_n dX12_image_17 rfl ?_
    refine at_sipush dX12_image_18 (v := nI 5684) (by decide) ?_
    refine at_geN (tgt := 48) dX12_image_21 (by decide) (by omega) (by omega) (fun c21 => ?_) (fun c21 => ?_)
    · exact hk
    · omega
  | succ k ih =>
    intro i hi
    have hn := ih (i + 1) (by omega)
    unfold zcp at hn
    rw [Nat.zero_add i] at hn
    refine at_iload_n dX12_image_17 rfl ?_
    refine at_sipush dX12_image_18 (v := nI 5684) (by decide) ?_
    refine at_geN (tgt := 48) dX12_image_21 (by decide) (by omega) (by omega) (fun c21 => ?_) (fun c21 => ?_)
    · omega
    · refine at_aload_n dX12_image_24 rfl ?_
      refine at_get dX12_image_25 fl_X12_45 rfl rfl ?_
      refine at_sipush dX12_image_28 (v := nI 5684) (by decide) ?_
      refine at_iload_n dX12_image_31 rfl ?_
      refine at_imulN dX12_image_32 ?_
      refine at_iload_n dX12_image_33 rfl ?_
      refine at_iaddN dX12_image_34 ?_
      refine at_aload_n dX12_image_35 rfl ?_
      refine at_get dX12_image_36 fl_X12_42 rfl rfl ?_
      refine at_iload_n dX12_image_39 rfl ?_
      refine at_mald (a := 72) dX12_image_40 (by decide) (by decide) (by decide) (by decide) rfl rfl (by show _ < 5684; omega) (by decide) ?_
      rw [zsA_o _ (by decide)]
      refine at_mast (a := 73) dX12_image_41 (by decide) (by decide) (by decide) (by decide) rfl rfl (by show _ < 11368; omega) (by decide) ?_
      rw [zsA_a]
      refine at_iincN dX12_image_42 rfl (by decide) ?_
      refine at_goto (tgt := 17) dX12_image_45 (by decide) ?_
      exact hn
theorem zm_image {v : Int32} (hD : 1 ≤ D) (hf : (decide (nI 0 ≤ v) && decide (v ≤ nI 1)) = false → post (some (.int (-(nI 1)))) n (zm_h (zref σ 1) ρ)) (ht : ∀ b, b < 2 → v = nI b → post (some (.int (nI 0))) n (zm_h (zm_si (zm_sa (zsA σ 73 (zcp (σ.2.1 73) (σ.2.1 72) (5684 * b) 0 5684)) 74 b (nI 1)) 0 0) ρ)) : zq_Runs l G D 0 0 yX12_image [.ref 70, .int v] n (zm_h σ ρ) post := by
  refine zq_enter (cc := cX12_image) (nL := 3) (ret := (some .int)) cw_X12_image (by decide) rfl (Nat.le_of_ble_eq_true rfl) ?_
  refine at_iload_n dX12_image_0 rfl ?_
  refine at_iconst dX12_image_1 (v := nI 0) (by decide) ?_
  refine at_iconst dX12_image_2 (v := nI 1) (by decide) ?_
  refine at_callS3 (d := D - 1) dX12_image_3 ms_X12_18 (Nat.le_of_ble_eq_true rfl) (zq_r0 (by omega) (by omega) (by omega)) ?_
  refine zm_lies ?_
  refine at_if_neB (tgt := 15) dX12_image_6 (by decide) (fun c6 => ?_) (fun c6 => ?_)
  · obtain ⟨b, -, hb, rfl⟩ := zlies_n (by decide) (by decide) c6
    have hp := ht b (by omega) rfl
    have hk : zq_At l G (zq_rm D 0 0) mX12_image (zq_QF G post 0 0) 48 [(0, .ref 70), (1, .int (nI b)), (2, .int (nI 5684))] [] n (zm_h (zsA σ 73 (zcp (σ.2.1 73) (σ.2.1 72) (5684 * b) 0 5684)) ρ) 0 0 := by
      refine at_aload_n dX12_image_48 rfl ?_
      refine at_get dX12_image_49 fl_X12_48 rfl rfl ?_
      refine at_iload_n dX12_image_52 rfl ?_
      refine at_iconst dX12_image_53 (v := nI 1) (by decide) ?_
      refine at_mzast (a := 74) dX12_image_54 (by decide) (by decide) (by decide) (by decide) rfl rfl (by show _ < 2; omega) (by decide) (Or.inr rfl) ?_
      refine at_aload_n dX12_image_55 rfl ?_
      refine at_iconst dX12_image_56 (v := nI 0) (by decide) ?_
      refine at_callV1 (d := D - 1) dX12_image_57 mv_X12_14 rfl (Nat.le_of_ble_eq_true rfl) (zq_r0 (by omega) (by omega) (by omega)) ?_
      refine zm_good ?_
      refine at_iret dX12_image_60 rfl (by omega) (by omega) ?_
      exact hp
    have h0 := zm_image_loop (D := D) (l := l) (G := G) (by omega) hk 5684 0 rfl
    rw [show zcp (σ.2.1 73) (σ.2.1 72) (5684 * b) 0 0 = σ.2.1 73 from rfl, zsA_0] at h0
    refine at_iconst dX12_image_15 (v := nI 0) (by decide) ?_
    refine at_istore_n dX12_image_16 rfl (by decide) ?_
    exact h0
  · have hp := hf c6
    refine at_aload_n dX12_image_9 rfl ?_
    refine at_iconst dX12_image_10 (v := -1) rfl ?_
    refine at_callV1 (d := D - 1) dX12_image_11 mv_X12_135 rfl (Nat.le_of_ble_eq_true rfl) (zq_r0 (by omega) (by omega) (by omega)) ?_
    refine zm_ref (j := 1) (by decide) ?_
    refine at_iret dX12_image_14 rfl (by omega) (by omega) ?_
    exact hp
end ZL3

