/-! ===== the two tapes: bytes with and without sign ===== -/
/-- T the Model's tape, U the class's, z bytes long -/
def zTp (T U : Nat → Int32) (z : Nat) : Prop := ∀ j, j < z → ∃ x, x < 256 ∧ U j = nI x ∧ T j = (nI x).toInt8.toInt32
theorem zbyt : ∀ x : Fin 256, zsm (nI x.1) = zsm (nI x.1).toInt8.toInt32 ∧ zdg (nI x.1) = zdg (nI x.1).toInt8.toInt32 ∧ (nI x.1 = nI 32 ↔ (nI x.1).toInt8.toInt32 = nI 32) ∧ (nI x.1).toInt8.toInt32.toBitVec.toNat % 256 = x.1 ∧ (nI x.1).toBitVec.toNat % 256 = x.1 ∧ ((nI x.1).toInt8.toInt32 = nI x.1 ∨ (nI x.1).toInt8.toInt32 < 0 ∧ 128 ≤ x.1) := by decide +kernel
section ZTP
variable {T U : Nat → Int32} {z : Nat}
theorem zTp_b (h : zTp T U z) {j : Nat} (hj : j < z) : zsm (U j) = zsm (T j) ∧ zdg (U j) = zdg (T j) ∧ (U j = nI 32 ↔ T j = nI 32) ∧ (T j).toBitVec.toNat % 256 = (U j).toBitVec.toNat % 256 ∧ (∀ u, u < 128 → (nI u = U j ↔ nI u = T j)) := by
  obtain ⟨x, x1, x2, x3⟩ := h j hj
  obtain ⟨a1, a2, a3, a4, a5, a6⟩ := zbyt ⟨x, x1⟩
  rw [x2, x3]
  refine ⟨a1, a2, a3, a4.trans a5.symm, fun u hu => ?_⟩
  rcases a6 with a6 | ⟨a6, a7⟩
  · rw [show (nI x).toInt8.toInt32 = nI x from a6]
  · constructor
    · intro e
      have := (nI_eq (by omega) (by omega)).mp e
      have a7 : 128 ≤ x := a7
      omega
    · intro e
      rw [show ((nI x).toInt8.toInt32 < 0) = (nI u < 0) by rw [← e]] at a6
      exact absurd a6 (nI_pos (by omega))
theorem zTp_dg (h : zTp T U z) {j : Nat} (hj : j < z) (hd : zdg (T j) = true) : U j = T j := by
  obtain ⟨y, y1, y2, hy⟩ := zdg_nat hd
  rw [hy]
  exact (((zTp_b h hj).2.2.2.2 y (by omega)).mpr hy.symm).symm
theorem zTp_run (h : zTp T U z) {P : Int32 → Bool} (hP : ∀ j, j < z → P (U j) = P (T j)) : ∀ k i, i + k ≤ z → zrunF P U k i = zrunF P T k i
  | 0, _, _ => rfl
  | k + 1, i, hi => by
    unfold zrunF
    rw [hP i (by omega), zTp_run h hP k (i + 1) (by omega)]
theorem zTp_zrun (h : zTp T U z) {k : Nat} (hk : k < z) : zrun U z k = zrun T z k := by
  unfold zrun
  rw [(zTp_b h hk).1, (zTp_b h hk).2.1, zTp_run h (fun j hj => (zTp_b h hj).1) _ _ (by omega), zTp_run h (fun j hj => (zTp_b h hj).2.1) _ _ (by omega)]
theorem zTp_ztok (h : zTp T U z) : ∀ f k, ztok U z f k = ztok T z f k
  | 0, _ => rfl
  | f + 1, k => by
    unfold ztok
    by_cases hk : z ≤ k
    · rw [if_pos hk, if_pos hk]
    · rw [if_neg hk, if_neg hk, zTp_zrun h (by omega), zTp_ztok h f (k + 1), zTp_ztok h f]
      by_cases e : U k = nI 32
      · rw [if_pos e, if_pos ((zTp_b h (by omega)).2.2.1.mp e)]
      · rw [if_neg e, if_neg (fun g => e ((zTp_b h (by omega)).2.2.1.mpr g))]
theorem zTp_eqF (h : zTp T U z) {a : Nat} {u : List Nat} (hu : ∀ x ∈ u, x < 128) : ∀ r i, i + r = u.length → a + u.length ≤ z → zeqF U a u r i = zeqF T a u r i
  | 0, _, _, _ => rfl
  | r + 1, i, hi, ha => by
    unfold zeqF
    rw [zTp_eqF h hu r (i + 1) (by omega) ha]
    congr 1
    have hx : u.getD i 0 < 128 := by
      rw [List.getD_eq_getElem?_getD, List.getElem?_eq_getElem (by omega : i < u.length), Option.getD_some]
      exact hu _ (List.getElem_mem _)
    exact decide_eq_decide.mpr ((zTp_b h (by omega)).2.2.2.2 _ hx)
theorem zTp_word (h : zTp T U z) {a b : Nat} (hb : b ≤ z) (hab : a ≤ b) : ∀ us w, (∀ u ∈ us, ∀ x ∈ u, x < 128) → zword U a b us w = zword T a b us w
  | [], _, _ => rfl
  | u :: us, w, hu => by
    unfold zword
    rw [zTp_word h hb hab us (w + 1) (fun v hv => hu v (List.mem_cons_of_mem _ hv))]
    have : zisw U a b u = zisw T a b u := by
      unfold zisw
      by_cases e : u.length = b - a
      · rw [zTp_eqF h (hu u List.mem_cons_self) _ 0 (Nat.zero_add _) (by omega)]
      · rw [decide_eq_false e, Bool.false_and, Bool.false_and]
    rw [this]
theorem zTp_num (h : zTp T U z) : ∀ k i x, i + k ≤ z → (∀ j, i ≤ j → j < i + k → zdg (T j) = true) → znumF U k i x = znumF T k i x
  | 0, _, _, _, _ => rfl
  | k + 1, i, x, hi, hd => by
    unfold znumF
    rw [zTp_dg h (by omega) (hd i (Nat.le_refl _) (by omega)), zTp_num h k (i + 1) _ (by omega) (fun j h1 h2 => hd j (by omega) (by omega))]
theorem zTok_at (T : Nat → Int32) (z : Nat) {q : Nat × Nat} (hq : q ∈ zTok T z) : q.1 < z ∧ q.1 < q.2 ∧ q.2 ≤ z ∧ (zdg (T q.1) = true → ∀ j, q.1 ≤ j → j < q.2 → zdg (T j) = true) := by
  obtain ⟨a1, a2⟩ := ztok_in T z 401 0 q hq
  have hr := zrun_le T a1
  refine ⟨a1, by omega, by omega, fun hd j h1 h2 => zrun_dg (z := z) (zdg_sm hd) hd h1 (by omega)⟩
theorem zTp_cv (h : zTp T U z) {q : Nat × Nat} (hq : q ∈ zTok T z) : zcode U q.1 q.2 = zcode T q.1 q.2 ∧ zval U q.1 q.2 = zval T q.1 q.2 := by
  obtain ⟨a1, a2, a3, a4⟩ := zTok_at T z hq
  obtain ⟨b1, b2, b3, b4, b5⟩ := zTp_b h a1
  unfold zcode zval
  rw [b1, b2, b4, zTp_word h a3 (by omega) zMw 1 zwords_lt]
  refine ⟨rfl, ?_⟩
  by_cases e : zdg (T q.1) = true
  · rw [if_pos e, if_pos e, zTp_num h _ _ _ (by omega) (fun j h1 h2 => a4 e j h1 (by omega))]
  · rw [if_neg e, if_neg e]
theorem zTp_tok (h : zTp T U z) : zTok U z = zTok T z := zTp_ztok h 401 0
theorem zTp_c (h : zTp T U z) : zcN U z = zcN T z := by
  funext j
  unfold zcN
  rw [zTp_tok h]
  cases e : (zTok T z)[j]? with
  | none => rfl
  | some q => exact (zTp_cv h (List.mem_of_getElem? e)).1
theorem zTp_v (h : zTp T U z) : zvN U z = zvN T z := by
  funext j
  unfold zvN
  rw [zTp_tok h]
  cases e : (zTok T z)[j]? with
  | none => rfl
  | some q => exact (zTp_cv h (List.mem_of_getElem? e)).2
theorem zTp_p (h : zTp T U z) : zpN U z = zpN T z := by
  unfold zpN
  rw [zTp_tok h]
theorem zTp_Rd (h : zTp T U z) (o : Bool) : zRd U z o = zRd T z o := by
  unfold zRd zAns
  rw [zTp_c h, zTp_v h, zTp_p h, zTp_tok h]
/-- the class's numbers of the tokens -/
def ztkN (U : Nat → Int32) (z j : Nat) : Int32 := match (zTok U z)[j]? with
  | some q => ztk U q
  | none => nI 3000
theorem zT1_tk (hU : ∀ j, j < z → ∃ x, x < 256 ∧ U j = nI x) {q : Nat × Nat} (hq : q ∈ zTok U z) : zT1 (zcode U q.1 q.2) (zval U q.1 q.2) (ztk U q) := by
  obtain ⟨a1, a2, a3, a4⟩ := zTok_at U z hq
  unfold ztk ztkn zcode zval
  by_cases h1 : zsm (U q.1) = true
  · rw [if_pos h1, if_pos h1]
    by_cases h0 : zword U q.1 q.2 zMw 1 = 0
    · exact Or.inr (Or.inr (Or.inl ⟨h0, by rw [h0]; rfl⟩))
    · obtain ⟨i, i1, i2, i3⟩ := zword_in _ _ h0
      have i1 : i < 27 := i1
      exact Or.inr (Or.inl ⟨by omega, by omega, rfl⟩)
  · rw [if_neg h1, if_neg h1]
    by_cases h2 : zdg (U q.1) = true
    · rw [if_pos h2, if_pos h2, if_pos h2]
      exact Or.inl ⟨rfl, rfl⟩
    · rw [if_neg h2, if_neg h2, if_neg h2]
      obtain ⟨x, x1, x2⟩ := hU q.1 a1
      have hx : (U q.1).toBitVec.toNat % 256 = x := by rw [x2]; exact (zbyt ⟨x, x1⟩).2.2.2.2.1
      rw [hx]
      refine Or.inr (Or.inr (Or.inr ⟨by omega, by omega, ?_, ?_, ?_⟩))
      · rw [x2, nI_toInt (by omega)]; omega
      · rw [x2, nI_toInt (by omega)]; omega
      · rw [x2, nI_toInt (by omega)]; left; omega
theorem zTm_of (hz : z ≤ 400) (hl : (zTok U z).length ≤ z) (hU : ∀ j, j < z → ∃ x, x < 256 ∧ U j = nI x) : zTm (zTok U z).length (zcN U z) (zvN U z) (zpN U z) (ztkN U z) := by
  have hnone : (zTok U z)[(zTok U z).length]? = none := List.getElem?_eq_none (Nat.le_refl _)
  refine ⟨by omega, by unfold zcN; rw [hnone], by unfold ztkN; rw [hnone], fun j hj => ?_, fun j hj => ?_⟩
  · unfold zpN
    cases e : (zTok U z)[j]? with
    | none => exact hz
    | some q => have := (zTok_at U z (List.mem_of_getElem? e)).1; show q.1 ≤ 400; omega
  · unfold zcN zvN ztkN
    rw [List.getElem?_eq_getElem hj]
    exact zT1_tk hU (List.getElem_mem hj)
theorem zRw_of {κ : zl_S} {o : Bool} (hT : zTkR U κ (zTok U z)) (h1 : κ.2.1 49 (zTok U z).length = nI 3000) (h2 : κ.2.1 50 (zTok U z).length = nI z) (h8 : κ.1 48 8 = zb o) : zRw κ (zTok U z).length (zpN U z) (ztkN U z) o := by
  refine ⟨fun j hj => ?_, h8⟩
  unfold ztkN zpN
  rcases Nat.lt_or_ge j (zTok U z).length with g | g
  · rw [List.getElem?_eq_getElem g]
    exact hT j _ (List.getElem?_eq_getElem g)
  · obtain rfl : j = (zTok U z).length := by omega
    rw [List.getElem?_eq_none (Nat.le_refl _)]
    exact ⟨h1, h2⟩
end ZTP

