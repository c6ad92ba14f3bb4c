/-! ===== the class: a clause is added to a text ===== -/
theorem zq_i1 : Cond.instantiable RX1 6 ∈ zq_ws := zq_in (zq_t3 (List.mem_of_getElem? (i := 90) rfl)) rfl
theorem zq_n1 : Cond.initialized RX1 ∈ zq_ws := zq_in (zq_t1 (List.mem_of_getElem? (i := 18) rfl)) rfl
/-- no method of this name gives anything back -/
def zq_vo (y : MethodName) (w : Cond) : Bool := match w with
  | .code y' _ _ r => !(decide (y' = y)) || r.isNone
  | _ => true
theorem zq_vo_ret {y : MethodName} (h : zq_ws.all (zq_vo y) = true) : ∀ cc nL ret, Cond.code y cc nL ret ∈ zq_ws → ret = none := by
  intro cc nL ret hm
  have := List.all_eq_true.mp h _ hm
  unfold zq_vo at this
  simp at this
  exact this
set_option maxRecDepth 20000 in
theorem zq_vo_1 : zq_ws.all (zq_vo yX1_init) = true := by decide +kernel
section ZC34
variable {l : Launch} {G : zq_G} {D n : Nat} {ρ f : Nat → zq_E} {post : Option Value → Nat → (Nat → zq_E) → Prop} {κ : zl_S}
/-- a text that is being read, at B, its row behind it, then its clauses -/
def zTb (ρ : Nat → zq_E) (B sz : Nat) (F : Nat → Nat → Int32) : Prop := ρ B = .inr (10, [.ref (B + 1), .int (nI sz), .null]) ∧ ρ (B + 1) = .inl (4, 12, .inr (.inr (.inr (.inr (fun i => if i < sz then some (B + 2 + i) else none))))) ∧ ∀ i, i < sz → ρ (B + 2 + i) = zce (F i)
theorem zc_addClause {B sz : Nat} {F : Nat → Nat → Int32} (hD : 3 ≤ D) (hB : 70 ≤ B) (hn : n + 8 = B + 2 + sz) (hT : zTb ρ B sz F) (h12 : sz < 12)
    (hp : ∀ ρ', (∀ k, k < B → ρ' k = ρ k) → zTb ρ' B (sz + 1) (fun i => if i = sz then zF0 else F i) → post (some (.ref (B + 2 + sz))) (n + 1) (zl_h κ ρ')) : zq_Runs l G D 1 6 yX10_addClause [.ref B] n (zl_h κ ρ) post := by
  obtain ⟨t1, t2, t3⟩ := hT
  have hC0 : zCl (va_up ρ (n + 8) (zce (fun _ => 0))) (n + 8) (fun _ => 0) := ⟨by omega, va_up_self _ _ _⟩
  generalize hρ1 : va_up ρ (n + 8) (zce zF0) = ρ1
  have u1 : ∀ k, k ≠ n + 8 → ρ1 k = ρ k := fun k hk => by rw [← hρ1, va_up_ne _ _ hk]
  have x1 : zl_h κ ρ1 B = .inr (10, [.ref (B + 1), .int (nI sz), .null]) := by rw [zl_hi _ _ (Or.inr hB), u1 B (by omega), t1]
  have x2 : zl_h κ ρ1 (B + 1) = .inl (4, 12, .inr (.inr (.inr (.inr (fun i => if i < sz then some (B + 2 + i) else none))))) := by rw [zl_hi _ _ (Or.inr (by omega)), u1 (B + 1) (by omega), t2]
  have x3 : zl_h κ ρ1 (n + 8) = .inr (1, [.int (zF0 0), .int (zF0 1), .int (zF0 2), .int (zF0 3), .int (zF0 4), .int (zF0 5)]) := by rw [zl_hi _ _ (Or.inr (by omega)), ← hρ1, va_up_self]; rfl
  generalize hρ2 : va_up ρ1 (B + 1) (.inl (4, 12, .inr (.inr (.inr (.inr (va_up (fun i => if i < sz then some (B + 2 + i) else none) sz (some (n + 8)))))))) = ρ2
  have y1 : zl_h κ ρ2 B = .inr (10, [.ref (B + 1), .int (nI sz), .null]) := by rw [zl_hi _ _ (Or.inr hB), ← hρ2, va_up_ne _ _ (by omega), u1 B (by omega), t1]
  have fin : post (some (.ref (n + 8))) (n + 1) (zl_h κ (va_up ρ2 B (.inr (10, [.ref (B + 1), .int (nI (sz + 1)), .null])))) := by
    rw [hn]
    refine hp _ (fun k hk => ?_) ⟨va_up_self _ _ _, ?_, fun i hi => ?_⟩
    · rw [va_up_ne _ _ (by omega), ← hρ2, va_up_ne _ _ (by omega), u1 k (by omega)]
    · rw [va_up_ne _ _ (by omega), ← hρ2, va_up_self]
      congr 7
      funext i
      by_cases e : i = sz
      · subst e; rw [va_up_self, if_pos (by omega), hn]
      · rw [va_up_ne _ _ e]
        by_cases e2 : i < sz
        · rw [if_pos e2, if_pos (by omega)]
        · rw [if_neg e2, if_neg (by omega)]
    · rw [va_up_ne _ _ (by omega), ← hρ2, va_up_ne _ _ (by omega)]
      by_cases e : i = sz
      · subst e
        rw [← hρ1, hn, va_up_self]
        exact congrArg zce (if_pos rfl).symm
      · rw [u1 _ (by omega), t3 i (by omega)]
        exact congrArg zce (if_neg e).symm
  refine zq_enter (cc := cX10_addClause) (nL := 2) (ret := (some (.object "LetterQuay$Clause"))) cw_X10_addClause (by decide) rfl (Nat.le_of_ble_eq_true rfl) ?_
  refine at_new (ci := 1) (T := TX1) (N := 6) (fs := [.int 0, .int 0, .int 0, .int 0, .int 0, .int 0]) dX10_addClause_0 rfl cl_X10_9 zq_i1 zq_n1 (fun G j hj => ?_) (by show 0 + 1 ≤ 1; omega) (by show 0 + 6 ≤ 6; omega) ?_
  · rcases (show j = 0 ∨ j = 1 ∨ j = 2 ∨ j = 3 ∨ j = 4 ∨ j = 5 by omega) with rfl | rfl | rfl | rfl | rfl | rfl <;> rfl
  rw [zl_up (by omega), show (Sum.inr (1, [Value.int 0, Value.int 0, Value.int 0, Value.int 0, Value.int 0, Value.int 0]) : zq_E) = zce (fun _ => 0) from rfl]
  refine at_dup dX10_addClause_3 rfl ?_
  refine at_callC (d := D - 1) [] dX10_addClause_4 mc_X10_25 rfl (Nat.le_of_ble_eq_true rfl) (zq_r0 (by omega) (by omega) (by omega)) (zq_vo_ret zq_vo_1) ?_
  refine zc_clauseInit (by omega) hC0 ?_
  rw [show va_up (va_up ρ (n + 8) (zce (fun _ => 0))) (n + 8) (zce zF0) = ρ1 from (zce_up _ _ _ _).trans hρ1]
  refine at_astore_n dX10_addClause_7 rfl (by decide) ?_
  refine at_aload_n dX10_addClause_8 rfl ?_
  refine at_get dX10_addClause_9 fl_X10_17 x1 rfl ?_
  refine at_if_ltN (tgt := 44) dX10_addClause_12 (by decide) (by omega) (fun c12 => ?_) (fun c12 => ?_)
  · exact c12.elim
  · refine at_aload_n dX10_addClause_15 rfl ?_
    refine at_get dX10_addClause_16 fl_X10_17 x1 rfl ?_
    refine at_bipush dX10_addClause_19 (v := nI 12) (by decide) ?_
    refine at_geN (tgt := 44) dX10_addClause_21 (by decide) (by omega) (by omega) (fun c21 => ?_) (fun c21 => ?_)
    · omega
    · refine at_aload_n dX10_addClause_24 rfl ?_
      refine at_get dX10_addClause_25 fl_X10_11 x1 rfl ?_
      refine at_aload_n dX10_addClause_28 rfl ?_
      refine at_get dX10_addClause_29 fl_X10_17 x1 rfl ?_
      refine at_aload_n dX10_addClause_32 rfl ?_
      refine at_aast dX10_addClause_33 x2 (by decide) (fun _ => rfl) x3 rfl (pk_in sz 12 h12) ?_
      rw [zl_up (by omega), nI_clamp (by omega), hρ2]
      refine at_aload_n dX10_addClause_34 rfl ?_
      refine at_dup dX10_addClause_35 rfl ?_
      refine at_get dX10_addClause_36 fl_X10_17 y1 rfl ?_
      refine at_iconst dX10_addClause_39 (v := nI 1) (by decide) ?_
      refine at_iaddN dX10_addClause_40 ?_
      refine at_put dX10_addClause_41 (pl_X10_17 _) y1 (Nat.le_of_ble_eq_true rfl) (fun _ => rfl) (fun _ => rfl) ?_
      rw [zl_up hB]
      refine at_aload_n dX10_addClause_44 rfl ?_
      refine at_aret (r := some (n + 8)) dX10_addClause_45 rfl (Or.inl ⟨_, rfl⟩) (by omega) (by omega) ?_
      exact fin
end ZC34

