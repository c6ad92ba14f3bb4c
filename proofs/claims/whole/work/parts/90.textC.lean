/-! ===== the class: a text begins; too many clauses ===== -/
theorem dX10_init_0 : decode cX10_init 0 = .ok (.aload_n 0, 1) := by decide +kernel
theorem dX10_init_1 : decode cX10_init 1 = .ok (.invokespecial 3, 3) := by decide +kernel
theorem dX10_init_4 : decode cX10_init 4 = .ok (.aload_n 0, 1) := by decide +kernel
theorem dX10_init_5 : decode cX10_init 5 = .ok (.bipush 12, 2) := by decide +kernel
theorem dX10_init_7 : decode cX10_init 7 = .ok (.anewarray 9, 3) := by decide +kernel
theorem dX10_init_10 : decode cX10_init 10 = .ok (.putfield 11, 3) := by decide +kernel
theorem dX10_init_13 : decode cX10_init 13 = .ok (.aload_n 0, 1) := by decide +kernel
theorem dX10_init_14 : decode cX10_init 14 = .ok (.iconst 0, 1) := by decide +kernel
theorem dX10_init_15 : decode cX10_init 15 = .ok (.putfield 17, 3) := by decide +kernel
theorem dX10_init_18 : decode cX10_init 18 = .ok (.aload_n 0, 1) := by decide +kernel
theorem dX10_init_19 : decode cX10_init 19 = .ok (.aconst_null, 1) := by decide +kernel
theorem dX10_init_20 : decode cX10_init 20 = .ok (.putfield 21, 3) := by decide +kernel
theorem dX10_init_23 : decode cX10_init 23 = .ok (.return_, 1) := by decide +kernel
abbrev mX10_init : zq_M := (cX10_init, RX10, "<init>", none, 1)
section ZC39
variable {l : Launch} {G : zq_G} {D n : Nat} {ρ f : Nat → zq_E} {post : Option Value → Nat → (Nat → zq_E) → Prop}
variable {N : Nat} {c v pl : Nat → Nat} {tk : Nat → Int32} {κ : zl_S} {q : zQ} {cs : Nat} {cd : Nat → Nat × Nat} {o : Bool}
theorem zc_clause12 {B : Nat} {F : Nat → Nat → Int32} (hD : 2 ≤ D) (hT : zTm N c v pl tk) (hR : zRw κ N pl tk o) (hq : zqk N q) (hs : zPs κ tk q cs cd) (hB : 70 ≤ B) (hX : zTb ρ B 12 F)
    (hp : ∀ κ', zRf κ' κ → zPs κ' tk (zpf pl q) cs cd → post none n (zl_h κ' ρ)) : zq_Runs l G D 1 6 yX8_readClause [.ref 48, .ref B] n (zl_h κ ρ) post := by
  have x1 : zl_h κ ρ B = .inr (10, [.ref (B + 1), .int (nI 12), .null]) := (zl_hi _ _ (Or.inr hB)).trans hX.1
  refine zq_enter (cc := cX8_readClause) (nL := 3) (ret := none) cw_X8_readClause (by decide) rfl (Nat.le_of_ble_eq_true rfl) ?_
  refine at_aload_n dX8_readClause_0 rfl ?_
  refine at_get dX8_readClause_1 fl_X8_97 x1 rfl ?_
  refine at_bipush dX8_readClause_4 (v := nI 12) (by decide) ?_
  refine at_ltN (tgt := 14) dX8_readClause_6 (by decide) (by omega) (by omega) (fun c6 => ?_) (fun c6 => ?_)
  · omega
  · refine at_aload_n dX8_readClause_9 rfl ?_
    refine at_callV0 (d := D - 1) dX8_readClause_10 mv_X8_61 (zl_o rfl) (Nat.le_of_ble_eq_true rfl) (zq_r0 (by omega) (by omega) (by omega)) ?_
    refine zc_fail hT hR (zqk_w hq) hs (fun κ1 g1 g2 => ?_)
    have hp := hp κ1 g1 g2
    refine at_vret dX8_readClause_13 rfl (by omega) (by omega) ?_
    exact hp
theorem zc_textInit {B : Nat} (hD : 1 ≤ D) (hB : 70 ≤ B) (hn : n + 8 = B + 1) (hX : ρ B = .inr (10, [.null, .int 0, .null]))
    (hp : ∀ ρ', (∀ k, k < B → ρ' k = ρ k) → (∀ F, zTb ρ' B 0 F) → post none (n + 1) (zl_h κ ρ')) : zq_Runs l G D 1 12 yX10_init [.ref B] n (zl_h κ ρ) post := by
  have x1 : zl_h κ ρ B = .inr (10, [.null, .int 0, .null]) := (zl_hi _ _ (Or.inr hB)).trans hX
  refine zq_enter (cc := cX10_init) (nL := 1) (ret := none) cw_X10_init (by decide) rfl (Nat.le_of_ble_eq_true rfl) ?_
  refine at_aload_n dX10_init_0 rfl ?_
  refine at_objInit dX10_init_1 oi_X10_3 zq_oi zq_oc (Nat.le_of_ble_eq_true rfl) ⟨by show 1 ≤ D; omega, by show 20 ≤ 60 * D; omega⟩ ?_
  refine at_aload_n dX10_init_4 rfl ?_
  refine at_bipush dX10_init_5 (v := nI 12) (by decide) ?_
  refine at_anew (t := 4) (N := 12) dX10_init_7 (fun _ => rfl) (fun G s h => ?_) cl_X10_9 (by decide) (by decide) (by decide) (by show 0 + 1 ≤ 1; omega) (by show 0 + 12 ≤ 12; omega) ?_
  · exact h.2.2.2.2.2.2.2.2.2.1
  rw [zl_up (by omega)]
  generalize hρ1 : va_up ρ (n + 8) (.inl (4, 12, .inr (.inr (.inr (.inr (fun _ => none)))))) = ρ1
  have y1 : zl_h κ ρ1 B = .inr (10, [.null, .int 0, .null]) := by rw [zl_hi _ _ (Or.inr hB), ← hρ1, va_up_ne _ _ (by omega)]; exact hX
  refine at_put dX10_init_10 pl_X10_11 y1 (Nat.le_of_ble_eq_true rfl) (fun _ => rfl) (fun _ => rfl) ?_
  rw [zl_up hB]
  refine at_aload_n dX10_init_13 rfl ?_
  refine at_iconst dX10_init_14 (v := nI 0) (by decide) ?_
  refine at_put dX10_init_15 (pl_X10_17 _) ((zl_hi _ _ (Or.inr hB)).trans (va_up_self _ _ _)) (Nat.le_of_ble_eq_true rfl) (fun _ => rfl) (fun _ => rfl) ?_
  rw [zl_up hB, zce_up]
  refine at_aload_n dX10_init_18 rfl ?_
  refine at_null dX10_init_19 ?_
  refine at_put dX10_init_20 (pl_X10_21 _) ((zl_hi _ _ (Or.inr hB)).trans (va_up_self _ _ _)) (Nat.le_of_ble_eq_true rfl) (fun _ => rfl) (fun _ => rfl) ?_
  rw [zl_up hB, zce_up]
  refine at_vret dX10_init_23 rfl (by omega) (by omega) ?_
  refine hp _ (fun k hk => by rw [va_up_ne _ _ (by omega), ← hρ1, va_up_ne _ _ (by omega)]) (fun F => ⟨?_, ?_, fun i hi => absurd hi (Nat.not_lt_zero _)⟩)
  · rw [va_up_self, hn]; rfl
  · rw [va_up_ne _ _ (by omega), ← hρ1, hn, va_up_self]
    congr 7
end ZC39

