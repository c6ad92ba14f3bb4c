/-! ===== the Model: all names in their order ===== -/
def zbz : Nat → Nat
  | 0 => 1
  | h + 1 => 1 + 5 * zbz h
/-- of the names that begin with this one (at most h letters more) the i-th -/
def zbn (al : Nat → Nat) : Nat → Nat → Nat → Nat
  | 0, x, _ => x
  | h + 1, x, i => if i = 0 then x else zbn al h (10 * x + al ((i - 1) / zbz h)) ((i - 1) % zbz h)
/-- the r-th of all names -/
def znm (al : Nat → Nat) (r : Nat) : Nat := zbn al 3 (al (r / 156)) (r % 156)
theorem zbz_pos : ∀ h, 0 < zbz h
  | 0 => by decide
  | h + 1 => by show 0 < 1 + 5 * zbz h; omega
/-- the list of names, how many there are -/
def zon (σ : zm_S) (g : Nat → Int32) (s : Nat) : zm_S := zm_si (zsA σ 86 g) 35 (nI s)
theorem zon_35 (σ : zm_S) (g : Nat → Int32) (s : Nat) : (zon σ g s).1 35 = nI s := zsi_s _ _ _
theorem zon_72 (σ : zm_S) (g : Nat → Int32) (s : Nat) : (zon σ g s).2.1 72 = σ.2.1 72 := zsA_o _ (by decide) _
theorem zon_a (σ : zm_S) (g : Nat → Int32) (s i : Nat) (v : Int32) : zm_sa (zon σ g s) 86 i v = zon σ (upd g i v) s := by
  show zm_si (zm_sa (zsA σ 86 g) 86 i v) 35 (nI s) = _
  rw [zsA_a]
  rfl
theorem zon_i (σ : zm_S) (g : Nat → Int32) (s t : Nat) : zm_si (zon σ g s) 35 (nI t) = zon σ g t := zsi_si _ _ _ _
section ZN2
variable {l : Launch} {G : zq_G} {R : Room} {M : zq_M} {QF : List Frame → Array Value → State → State → Prop} {pc : Nat} {lv : List (Nat × Value)} {st : List Value} {n : Nat} {f : Nat → zq_E} {cells slots : Nat}
theorem at_if_leN {a : Nat} {off : Int} {tgt : Nat} (hd : decode M.1 pc = .ok (.ifCond .le off, 3)) (ht : (pc : Int) + off = (tgt : Int)) (ha : a < 2147483648) (kt : a = 0 → zq_At l G R M QF tgt lv st n f cells slots) (kf : a ≠ 0 → zq_At l G R M QF (pc + 3) lv st n f cells slots) : zq_At l G R M QF pc lv (.int (nI a) :: st) n f cells slots :=
  at_if_le hd ht (fun h => kt (Nat.le_zero.mp ((nI_leI (b := 0) ha (by decide)).mp h))) (fun h => kf fun q => h ((nI_leI (b := 0) ha (by decide)).mpr (Nat.le_zero.mpr q)))
theorem at_if_gtN {a : Nat} {off : Int} {tgt : Nat} (hd : decode M.1 pc = .ok (.ifCond .gt off, 3)) (ht : (pc : Int) + off = (tgt : Int)) (ha : a < 2147483648) (kt : a ≠ 0 → zq_At l G R M QF tgt lv st n f cells slots) (kf : a = 0 → zq_At l G R M QF (pc + 3) lv st n f cells slots) : zq_At l G R M QF pc lv (.int (nI a) :: st) n f cells slots :=
  at_if_gt hd ht (fun h => kt (Nat.pos_iff_ne_zero.mp ((nI_ltI (a := 0) (by decide) ha).mp h))) (fun h => kf (Nat.eq_zero_of_not_pos fun q => h ((nI_ltI (a := 0) (by decide) ha).mpr q)))
theorem at_if_ltN {a : Nat} {off : Int} {tgt : Nat} (hd : decode M.1 pc = .ok (.ifCond .lt off, 3)) (ht : (pc : Int) + off = (tgt : Int)) (ha : a < 2147483648) (kt : False → zq_At l G R M QF tgt lv st n f cells slots) (kf : True → zq_At l G R M QF (pc + 3) lv st n f cells slots) : zq_At l G R M QF pc lv (.int (nI a) :: st) n f cells slots :=
  at_if_lt hd ht (fun h => kt (nI_pos ha h)) (fun _ => kf trivial)
theorem at_if_geN {a : Nat} {off : Int} {tgt : Nat} (hd : decode M.1 pc = .ok (.ifCond .ge off, 3)) (ht : (pc : Int) + off = (tgt : Int)) (ha : a < 2147483648) (kt : True → zq_At l G R M QF tgt lv st n f cells slots) (kf : False → zq_At l G R M QF (pc + 3) lv st n f cells slots) : zq_At l G R M QF pc lv (.int (nI a) :: st) n f cells slots :=
  at_if_ge hd ht (fun _ => kt trivial) (fun h => kf (h (nI_pos' ha)))
end ZN2
theorem dX12_laysNames_0 : decode cX12_laysNames 0 = .ok (.iload_n 2, 1) := by decide +kernel
theorem dX12_laysNames_1 : decode cX12_laysNames 1 = .ok (.ifCond .le 23, 3) := by decide +kernel
theorem dX12_laysNames_4 : decode cX12_laysNames 4 = .ok (.aload_n 0, 1) := by decide +kernel
theorem dX12_laysNames_5 : decode cX12_laysNames 5 = .ok (.getfield 89, 3) := by decide +kernel
theorem dX12_laysNames_8 : decode cX12_laysNames 8 = .ok (.aload_n 0, 1) := by decide +kernel
theorem dX12_laysNames_9 : decode cX12_laysNames 9 = .ok (.getfield 404, 3) := by decide +kernel
theorem dX12_laysNames_12 : decode cX12_laysNames 12 = .ok (.iload_n 1, 1) := by decide +kernel
theorem dX12_laysNames_13 : decode cX12_laysNames 13 = .ok (.iastore, 1) := by decide +kernel
theorem dX12_laysNames_14 : decode cX12_laysNames 14 = .ok (.aload_n 0, 1) := by decide +kernel
theorem dX12_laysNames_15 : decode cX12_laysNames 15 = .ok (.dup, 1) := by decide +kernel
theorem dX12_laysNames_16 : decode cX12_laysNames 16 = .ok (.getfield 404, 3) := by decide +kernel
theorem dX12_laysNames_19 : decode cX12_laysNames 19 = .ok (.iconst 1, 1) := by decide +kernel
theorem dX12_laysNames_20 : decode cX12_laysNames 20 = .ok (.iadd, 1) := by decide +kernel
theorem dX12_laysNames_21 : decode cX12_laysNames 21 = .ok (.putfield 404, 3) := by decide +kernel
theorem dX12_laysNames_24 : decode cX12_laysNames 24 = .ok (.iload_n 2, 1) := by decide +kernel
theorem dX12_laysNames_25 : decode cX12_laysNames 25 = .ok (.iconst 4, 1) := by decide +kernel
theorem dX12_laysNames_26 : decode cX12_laysNames 26 = .ok (.if_icmp .ne 4, 3) := by decide +kernel
theorem dX12_laysNames_29 : decode cX12_laysNames 29 = .ok (.return_, 1) := by decide +kernel
theorem dX12_laysNames_30 : decode cX12_laysNames 30 = .ok (.iconst 0, 1) := by decide +kernel
theorem dX12_laysNames_31 : decode cX12_laysNames 31 = .ok (.istore_n 3, 1) := by decide +kernel
theorem dX12_laysNames_32 : decode cX12_laysNames 32 = .ok (.iload_n 3, 1) := by decide +kernel
theorem dX12_laysNames_33 : decode cX12_laysNames 33 = .ok (.iconst 5, 1) := by decide +kernel
theorem dX12_laysNames_34 : decode cX12_laysNames 34 = .ok (.if_icmp .ge 30, 3) := by decide +kernel
theorem dX12_laysNames_37 : decode cX12_laysNames 37 = .ok (.aload_n 0, 1) := by decide +kernel
theorem dX12_laysNames_38 : decode cX12_laysNames 38 = .ok (.bipush 10, 2) := by decide +kernel
theorem dX12_laysNames_40 : decode cX12_laysNames 40 = .ok (.iload_n 1, 1) := by decide +kernel
theorem dX12_laysNames_41 : decode cX12_laysNames 41 = .ok (.imul, 1) := by decide +kernel
theorem dX12_laysNames_42 : decode cX12_laysNames 42 = .ok (.aload_n 0, 1) := by decide +kernel
theorem dX12_laysNames_43 : decode cX12_laysNames 43 = .ok (.getfield 42, 3) := by decide +kernel
theorem dX12_laysNames_46 : decode cX12_laysNames 46 = .ok (.bipush 14, 2) := by decide +kernel
theorem dX12_laysNames_48 : decode cX12_laysNames 48 = .ok (.iload_n 3, 1) := by decide +kernel
theorem dX12_laysNames_49 : decode cX12_laysNames 49 = .ok (.iadd, 1) := by decide +kernel
theorem dX12_laysNames_50 : decode cX12_laysNames 50 = .ok (.iaload, 1) := by decide +kernel
theorem dX12_laysNames_51 : decode cX12_laysNames 51 = .ok (.iadd, 1) := by decide +kernel
theorem dX12_laysNames_52 : decode cX12_laysNames 52 = .ok (.iload_n 2, 1) := by decide +kernel
theorem dX12_laysNames_53 : decode cX12_laysNames 53 = .ok (.iconst 1, 1) := by decide +kernel
theorem dX12_laysNames_54 : decode cX12_laysNames 54 = .ok (.iadd, 1) := by decide +kernel
theorem dX12_laysNames_55 : decode cX12_laysNames 55 = .ok (.invokevirtual 407, 3) := by decide +kernel
theorem dX12_laysNames_58 : decode cX12_laysNames 58 = .ok (.iinc 3 1, 3) := by decide +kernel
theorem dX12_laysNames_61 : decode cX12_laysNames 61 = .ok (.goto (-29), 3) := by decide +kernel
theorem dX12_laysNames_64 : decode cX12_laysNames 64 = .ok (.return_, 1) := by decide +kernel
abbrev mX12_laysNames : zq_M := (cX12_laysNames, RX12, "laysNames", none, 4)
section ZL29
variable {l : Launch} {G : zq_G} {n : Nat} {σ : zm_S} {ρ : Nat → zq_E} {al : Nat → Nat}
/-- what laysNames does with h letters left -/
def zLN (l : Launch) (G : zq_G) (n : Nat) (σ : zm_S) (ρ : Nat → zq_E) (al : Nat → Nat) (h D : Nat) : Prop := ∀ (x s : Nat) (g0 : Nat → Int32) (post : Option Value → Nat → (Nat → zq_E) → Prop), s + zbz h ≤ 780 →
  (∀ g, (∀ i, i < zbz h → g (s + i) = nI (zbn al h x i)) → (∀ j, (j < s ∨ s + zbz h ≤ j) → g j = g0 j) → post none n (zm_h (zon σ g (s + zbz h)) ρ)) → zq_Runs l G D 0 0 yX12_laysNames [.ref 70, .int (nI x), .int (nI (4 - h))] n (zm_h (zon σ g0 s) ρ) post
theorem zm_ln_loop {h D x s : Nat} {g0 : Nat → Int32} {post : Option Value → Nat → (Nat → zq_E) → Prop} (hh : h ≤ 3) (hD : 1 ≤ D) (hs : s + 5 * zbz h ≤ 780) (hal : ∀ k, k < 5 → σ.2.1 72 (14 + k) = nI (al k) ∧ al k < 6) (IH : zLN l G n σ ρ al h (D - 1))
    (hp : ∀ g, (∀ i, i < 5 * zbz h → g (s + i) = nI (zbn al h (10 * x + al (i / zbz h)) (i % zbz h))) → (∀ j, (j < s ∨ s + 5 * zbz h ≤ j) → g j = g0 j) → post none n (zm_h (zon σ g (s + 5 * zbz h)) ρ)) : ∀ f k : Nat, k + f = 5 → ∀ g, (∀ i, i < k * zbz h → g (s + i) = nI (zbn al h (10 * x + al (i / zbz h)) (i % zbz h))) → (∀ j, (j < s ∨ s + k * zbz h ≤ j) → g j = g0 j) →
    zq_At l G (zq_rm D 0 0) mX12_laysNames (zq_QF G post 0 0) 32 [(0, .ref 70), (1, .int (nI x)), (2, .int (nI (3 - h))), (3, .int (nI k))] [] n (zm_h (zon σ g (s + k * zbz h)) ρ) 0 0 := by
  intro f
  have hz := zbz_pos h
  induction f with
  | zero =>
    intro k hk g h1 h2
    obtain rfl : k = 5 := hk
    have hp := hp g h1 h2
    refine at_iload_n dX12_laysNames_32 rfl ?_
    refine at_iconst dX12_laysNames_33 (v := nI 5) (by decide) ?_
    refine at_geN (tgt := 64) dX12_laysNames_34 (by decide) (by omega) (by omega) (fun c34 => ?_) (fun c34 => ?_)
    · refine at_vret dX12_laysNames_64 rfl (by omega) (by omega) ?_
      exact hp
    · omega
  | succ f ih =>
    intro k hk g h1 h2
    have hk5 : k * zbz h + zbz h ≤ 5 * zbz h := by
      have := Nat.mul_le_mul_right (zbz h) (show k + 1 ≤ 5 by omega)
      rw [Nat.succ_mul] at this
      exact this
    have g1 := (hal k (by omega)).1
    refine at_iload_n dX12_laysNames_32 rfl ?_
    refine at_iconst dX12_laysNames_33 (v := nI 5) (by decide) ?_
    refine at_geN (tgt := 64) dX12_laysNames_34 (by decide) (by omega) (by omega) (fun c34 => ?_) (fun c34 => ?_)
    · omega
    · refine at_aload_n dX12_laysNames_37 rfl ?_
      refine at_bipush dX12_laysNames_38 (v := nI 10) (by decide) ?_
      refine at_iload_n dX12_laysNames_40 rfl ?_
      refine at_imulN dX12_laysNames_41 ?_
      refine at_aload_n dX12_laysNames_42 rfl ?_
      refine at_get dX12_laysNames_43 fl_X12_42 rfl rfl ?_
      refine at_bipush dX12_laysNames_46 (v := nI 14) (by decide) ?_
      refine at_iload_n dX12_laysNames_48 rfl ?_
      refine at_iaddN dX12_laysNames_49 ?_
      refine at_mald (a := 72) dX12_laysNames_50 (by decide) (by decide) (by decide) (by decide) rfl rfl (by show _ < 5684; omega) (by decide) ?_
      rw [zon_72, g1]
      refine at_iaddN dX12_laysNames_51 ?_
      refine at_iload_n dX12_laysNames_52 rfl ?_
      refine at_iconst dX12_laysNames_53 (v := nI 1) (by decide) ?_
      refine at_iaddN dX12_laysNames_54 ?_
      rw [show 3 - h + 1 = 4 - h by omega]
      refine at_callV2 (d := D - 1) dX12_laysNames_55 mv_X12_407 rfl (Nat.le_of_ble_eq_true rfl) (zq_r0 (by omega) (by omega) (by omega)) ?_
      refine IH (10 * x + al k) (s + k * zbz h) g _ (by omega) (fun g' q1 q2 => ?_)
      have hn := ih (k + 1) (by omega) g' (fun i hi => ?_) (fun j hj => ?_)
      rw [Nat.succ_mul, ← Nat.add_assoc] at hn
      refine at_iincN dX12_laysNames_58 rfl (by decide) ?_
      refine at_goto (tgt := 32) dX12_laysNames_61 (by decide) ?_
      · exact hn
      · rw [Nat.succ_mul] at hi
        by_cases e : i < k * zbz h
        · rw [q2 _ (by omega)]; exact h1 i e
        · obtain ⟨i', rfl⟩ : ∃ i', i = k * zbz h + i' := ⟨i - k * zbz h, by omega⟩
          have e1 : (k * zbz h + i') / zbz h = k := by rw [Nat.mul_comm, Nat.mul_add_div hz, Nat.div_eq_of_lt (by omega)]; omega
          have e2 : (k * zbz h + i') % zbz h = i' := by rw [Nat.mul_comm, Nat.mul_add_mod, Nat.mod_eq_of_lt (by omega)]
          rw [e1, e2, ← Nat.add_assoc]
          exact q1 i' (by omega)
      · rw [Nat.succ_mul] at hj
        rw [q2 j (by omega)]
        exact h2 j (by omega)
theorem zm_laysNames (hal : ∀ k, k < 5 → σ.2.1 72 (14 + k) = nI (al k) ∧ al k < 6) : ∀ h D, h ≤ 3 → h ≤ D → zLN l G n σ ρ al h D := by
  intro h
  induction h with
  | zero =>
    intro D hh hD x s g0 post hs hp
    have hs : s + 1 ≤ 780 := hs
    have hp := hp (upd g0 s (nI x)) (fun i hi => by
      obtain rfl : i = 0 := Nat.lt_one_iff.mp hi
      exact upd_s _ _ _) (fun j hj => upd_o _ (by have : zbz 0 = 1 := rfl; omega) _)
    refine zq_enter (cc := cX12_laysNames) (nL := 4) (ret := none) cw_X12_laysNames (by decide) rfl (Nat.le_of_ble_eq_true rfl) ?_
    refine at_iload_n dX12_laysNames_0 rfl ?_
    refine at_if_leN (tgt := 24) dX12_laysNames_1 (by decide) (by omega) (fun c1 => ?_) (fun c1 => ?_)
    · omega
    · refine at_aload_n dX12_laysNames_4 rfl ?_
      refine at_get dX12_laysNames_5 fl_X12_89 rfl rfl ?_
      refine at_aload_n dX12_laysNames_8 rfl ?_
      refine at_get dX12_laysNames_9 fl_X12_404 rfl rfl ?_
      refine at_iload_n dX12_laysNames_12 rfl ?_
      refine at_mast (a := 86) dX12_laysNames_13 (by decide) (by decide) (by decide) (by decide) rfl (zon_35 _ _ _) (by show s < 780; omega) (by decide) ?_
      rw [zon_a]
      refine at_aload_n dX12_laysNames_14 rfl ?_
      refine at_dup dX12_laysNames_15 rfl ?_
      refine at_get dX12_laysNames_16 fl_X12_404 rfl rfl ?_
      rw [zon_35]
      refine at_iconst dX12_laysNames_19 (v := nI 1) (by decide) ?_
      refine at_iaddN dX12_laysNames_20 ?_
      refine at_mput dX12_laysNames_21 (pl_X12_404 _) (fun _ => ⟨_, rfl⟩) rfl rfl ?_
      rw [zon_i]
      refine at_iload_n dX12_laysNames_24 rfl ?_
      refine at_iconst dX12_laysNames_25 (v := nI 4) (by decide) ?_
      refine at_neN (tgt := 30) dX12_laysNames_26 (by decide) (by omega) (by omega) (fun c26 => ?_) (fun c26 => ?_)
      · omega
      · refine at_vret dX12_laysNames_29 rfl (by omega) (by omega) ?_
        exact hp
  | succ h ih =>
    intro D hh hD x s g0 post hs hp
    have hz := zbz_pos h
    have ez : zbz (h + 1) = 1 + 5 * zbz h := rfl
    rw [ez] at hs
    have hgo := zm_ln_loop (l := l) (G := G) (n := n) (ρ := ρ) (D := D) (x := x) (s := s + 1) (g0 := upd g0 s (nI x)) (post := post) (by omega) (by omega) (by omega) hal (ih (D - 1) (by omega) (by omega)) (fun g q1 q2 => by
      have := hp g (fun i hi => ?_) (fun j hj => ?_)
      · rw [ez, show s + (1 + 5 * zbz h) = s + 1 + 5 * zbz h by omega] at this
        exact this
      · rw [ez] at hi
        unfold zbn
        by_cases e : i = 0
        · subst e
          rw [if_pos rfl, q2 _ (by omega)]
          exact upd_s _ _ _
        · rw [if_neg e]
          have := q1 (i - 1) (by omega)
          rw [show s + 1 + (i - 1) = s + i by omega] at this
          exact this
      · rw [ez] at hj
        rw [q2 j (by omega)]
        exact upd_o _ (by omega) _) 5 0 rfl (upd g0 s (nI x)) (fun i hi => by omega) (fun j _ => rfl)
    rw [Nat.zero_mul, Nat.add_zero] at hgo
    refine zq_enter (cc := cX12_laysNames) (nL := 4) (ret := none) cw_X12_laysNames (by decide) rfl (Nat.le_of_ble_eq_true rfl) ?_
    refine at_iload_n dX12_laysNames_0 rfl ?_
    refine at_if_leN (tgt := 24) dX12_laysNames_1 (by decide) (by omega) (fun c1 => ?_) (fun c1 => ?_)
    · omega
    · refine at_aload_n dX12_laysNames_4 rfl ?_
      refine at_get dX12_laysNames_5 fl_X12_89 rfl rfl ?_
      refine at_aload_n dX12_laysNames_8 rfl ?_
      refine at_get dX12_laysNames_9 fl_X12_404 rfl rfl ?_
      refine at_iload_n dX12_laysNames_12 rfl ?_
      refine at_mast (a := 86) dX12_laysNames_13 (by decide) (by decide) (by decide) (by decide) rfl (zon_35 _ _ _) (by show s < 780; omega) (by decide) ?_
      rw [zon_a]
      refine at_aload_n dX12_laysNames_14 rfl ?_
      refine at_dup dX12_laysNames_15 rfl ?_
      refine at_get dX12_laysNames_16 fl_X12_404 rfl rfl ?_
      rw [zon_35]
      refine at_iconst dX12_laysNames_19 (v := nI 1) (by decide) ?_
      refine at_iaddN dX12_laysNames_20 ?_
      refine at_mput dX12_laysNames_21 (pl_X12_404 _) (fun _ => ⟨_, rfl⟩) rfl rfl ?_
      rw [zon_i]
      refine at_iload_n dX12_laysNames_24 rfl ?_
      refine at_iconst dX12_laysNames_25 (v := nI 4) (by decide) ?_
      refine at_neN (tgt := 30) dX12_laysNames_26 (by decide) (by omega) (by omega) (fun c26 => ?_) (fun c26 => ?_)
      · refine at_iconst dX12_laysNames_30 (v := nI 0) (by decide) ?_
        refine at_istore_n dX12_laysNames_31 rfl (by decide) ?_
        rw [show 4 - (h + 1) = 3 - h by omega]; exact hgo
      · omega
/-- all names -/
theorem zm_laysNames0 {D : Nat} {g0 : Nat → Int32} {post : Option Value → Nat → (Nat → zq_E) → Prop} (hD : 4 ≤ D) (hal : ∀ k, k < 5 → σ.2.1 72 (14 + k) = nI (al k) ∧ al k < 6) (hp : ∀ g, (∀ r, r < 780 → g r = nI (znm al r)) → post none n (zm_h (zon σ g 780) ρ)) : zq_Runs l G D 0 0 yX12_laysNames [.ref 70, .int (nI 0), .int (nI 0)] n (zm_h (zon σ g0 0) ρ) post := by
  have hgo := zm_ln_loop (l := l) (G := G) (n := n) (ρ := ρ) (D := D) (x := 0) (s := 0) (g0 := g0) (post := post) (Nat.le_refl 3) (by omega) (by decide) hal (zm_laysNames hal 3 (D - 1) (by omega) (by omega)) (fun g q1 _ => hp g (fun r hr => by
    have := q1 r hr
    rw [Nat.zero_add, Nat.mul_zero, Nat.zero_add] at this
    exact this)) 5 0 rfl g0 (fun i hi => by omega) (fun j _ => rfl)
  refine zq_enter (cc := cX12_laysNames) (nL := 4) (ret := none) cw_X12_laysNames (by decide) rfl (Nat.le_of_ble_eq_true rfl) ?_
  refine at_iload_n dX12_laysNames_0 rfl ?_
  refine at_if_leN (tgt := 24) dX12_laysNames_1 (by decide) (by omega) (fun c1 => ?_) (fun c1 => ?_)
  · refine at_iload_n dX12_laysNames_24 rfl ?_
    refine at_iconst dX12_laysNames_25 (v := nI 4) (by decide) ?_
    refine at_neN (tgt := 30) dX12_laysNames_26 (by decide) (by omega) (by omega) (fun c26 => ?_) (fun c26 => ?_)
    · refine at_iconst dX12_laysNames_30 (v := nI 0) (by decide) ?_
      refine at_istore_n dX12_laysNames_31 rfl (by decide) ?_
      exact hgo
    · omega
  · omega
end ZL29
/-! names, a letter more -/
theorem zlen_10 {x d : Nat} (h1 : 1 ≤ x) (h2 : x < 1000) (hd : d < 10) : zlen (10 * x + d) = zlen x + 1 := by
  unfold zlen
  by_cases a : x < 10
  · rw [if_pos a, if_neg (by omega), if_pos (by omega)]
  · by_cases b : x < 100
    · rw [if_neg a, if_pos b, if_neg (by omega), if_neg (by omega), if_pos (by omega)]
    · rw [if_neg a, if_neg b, if_pos h2, if_neg (by omega), if_neg (by omega), if_neg (by omega)]
theorem zlt_10 {x d k : Nat} (h1 : 1 ≤ x) (h2 : x < 1000) (hd : d < 10) (hk : k ≤ zlen x) : zlt (10 * x + d) k = if k = zlen x then d else zlt x k := by
  unfold zlt
  rw [zlen_10 h1 h2 hd]
  by_cases e : k = zlen x
  · subst e
    rw [if_pos rfl, show zlen x + 1 - 1 - zlen x = 0 by omega, Nat.pow_zero, Nat.div_one]
    omega
  · rw [if_neg e, show zlen x + 1 - 1 - k = (zlen x - 1 - k) + 1 by omega, Nat.pow_succ, Nat.mul_comm (10 ^ _) 10, ← Nat.div_div_eq_div_mul, show (10 * x + d) / 10 = x by omega]
theorem zall_of {x : Nat} : ∀ k, (∀ j, j < k → 1 ≤ zlt x j ∧ zlt x j ≤ 5) → zall x k = true
  | 0, _ => rfl
  | k + 1, h => by
    unfold zall zle
    rw [zall_of k (fun j hj => h j (by omega)), decide_eq_true (h k (by omega)).1, decide_eq_true (h k (by omega)).2]
    rfl
theorem zlen_1 {x : Nat} (h : x < 10) : zlen x = 1 := by unfold zlen; rw [if_pos h]
theorem zvn_1 {d : Nat} (h1 : 1 ≤ d) (h5 : d ≤ 5) : zvn d ∧ zlen d = 1 := by
  have e := zlen_1 (x := d) (by omega)
  refine ⟨⟨h1, by omega, zall_of _ (fun j hj => ?_)⟩, e⟩
  rw [e] at hj
  obtain rfl : j = 0 := by omega
  unfold zlt
  rw [e, show 1 - 1 - 0 = 0 from rfl, Nat.pow_zero, Nat.div_one]
  omega
theorem zvn_lt {x : Nat} (h : zvn x) : (zlen x = 1 → x ≤ 5) ∧ (zlen x = 2 → x ≤ 55) ∧ (zlen x = 3 → x ≤ 555) := by
  have g0 := zvn_at (k := 0) h (by have := zlen_le x; omega)
  unfold zlt at g0
  refine ⟨fun e => ?_, fun e => ?_, fun e => ?_⟩
  · rw [e, show 1 - 1 - 0 = 0 from rfl, Nat.pow_zero, Nat.div_one] at g0
    have : x < 10 := by unfold zlen at e; split at e <;> (try split at e) <;> (try split at e) <;> omega
    omega
  · have g1 := zvn_at (k := 1) h (by omega)
    unfold zlt at g1
    rw [e, show 2 - 1 - 0 = 1 from rfl] at g0
    rw [e, show 2 - 1 - 1 = 0 from rfl, Nat.pow_zero, Nat.div_one] at g1
    have : x < 100 := by unfold zlen at e; split at e <;> (try split at e) <;> (try split at e) <;> omega
    omega
  · have g1 := zvn_at (k := 1) h (by omega)
    have g2 := zvn_at (k := 2) h (by omega)
    unfold zlt at g1 g2
    rw [e, show 3 - 1 - 0 = 2 from rfl] at g0
    rw [e, show 3 - 1 - 1 = 1 from rfl] at g1
    rw [e, show 3 - 1 - 2 = 0 from rfl, Nat.pow_zero, Nat.div_one] at g2
    have : x < 1000 := by unfold zlen at e; split at e <;> (try split at e) <;> (try split at e) <;> omega
    omega
theorem zvn_10 {x d : Nat} (h : zvn x) (hl : zlen x ≤ 3) (h1 : 1 ≤ d) (h5 : d ≤ 5) : zvn (10 * x + d) ∧ zlen (10 * x + d) = zlen x + 1 := by
  have hx := zvn_lt h
  have hl1 := (zlen_le x).1
  have hx3 : x ≤ 555 := by
    rcases (show zlen x = 1 ∨ zlen x = 2 ∨ zlen x = 3 by omega) with e | e | e
    · have := hx.1 e; omega
    · have := hx.2.1 e; omega
    · exact hx.2.2 e
  have e := zlen_10 h.1 (by omega) (show d < 10 by omega)
  refine ⟨⟨by omega, by omega, zall_of _ (fun j hj => ?_)⟩, e⟩
  rw [e] at hj
  rw [zlt_10 h.1 (by omega) (by omega) (by omega)]
  split
  · exact ⟨h1, h5⟩
  · exact zvn_at h (by omega)
theorem zbn_vn {al : Nat → Nat} (hal : ∀ k, k < 5 → 1 ≤ al k ∧ al k ≤ 5) : ∀ h x i, h + zlen x ≤ 4 → zvn x → i < zbz h → zvn (zbn al h x i)
  | 0, x, i, _, hx, _ => hx
  | h + 1, x, i, hl, hx, hi => by
    unfold zbn
    split
    · exact hx
    · have hi : i < 1 + 5 * zbz h := hi
      have hz := zbz_pos h
      have hk : (i - 1) / zbz h < 5 := by rw [Nat.div_lt_iff_lt_mul hz]; omega
      have g := zvn_10 hx (by omega) (hal _ hk).1 (hal _ hk).2
      exact zbn_vn hal h _ _ (by omega) g.1 (Nat.mod_lt _ hz)
theorem znm_vn {al : Nat → Nat} (hal : ∀ k, k < 5 → 1 ≤ al k ∧ al k ≤ 5) {r : Nat} (hr : r < 780) : zvn (znm al r) := by
  have hk : r / 156 < 5 := by omega
  have g := zvn_1 (hal _ hk).1 (hal _ hk).2
  exact zbn_vn hal 3 _ _ (by rw [g.2]; decide) g.1 (by show r % 156 < 156; omega)

