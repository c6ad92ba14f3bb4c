/-! ===== the Model reckons plain tests, whole tests ===== -/
section ZL25
variable {l : Launch} {G : zq_G} {n B E : Nat} {cd vl : Nat → Nat} {o : Bool} {w : Nat → Nat → Int} {σ : zm_S} {ρ : Nat → zq_E}
theorem znt_b {lv b : Bool} {a : zX} : zbs w lv b (zx_nt a) = zbs w lv b a := by
  unfold zbs zx_nt
  cases a w <;> rfl
theorem znt_r {lv b r : Bool} {a : zX} (h01 : z01 w a) (h : zsay w lv b a r) : zsay w lv b (zx_nt a) (!r) := by
  intro hl hb x hx
  unfold zx_nt at hx
  cases ha : a w with
  | none => rw [ha] at hx; cases hx
  | some y =>
    rw [ha] at hx
    have g := h hl hb y ha
    have g2 := h01 y ha
    simp at hx
    subst hx
    rw [g]
    rcases g2 with rfl | rfl <;> decide
theorem zm_plainOf_loop {D i j r : Nat} {P : zX → Nat → Nat → Prop} {lv b : Bool} {a : zX} {post : Option Value → Nat → (Nat → zq_E) → Prop} (hD : 2 ≤ D) (hR : zRun σ B E cd vl o) (hI : zIn E P) (hB : zB1 w P) (HP : zHB l G n B w σ ρ (D - 1) yX12_positiveOf P) (h7 : ∀ k, k < r → cd (i + k) = 7) (hn : cd (i + r) ≠ 7) (ha : P a (i + r) j)
    (hp : ∀ q, zsay w lv b (if r % 2 = 1 then zx_nt a else a) q → post (some (.int (zb q))) n (zm_h (zg σ (B + j) (zbs w lv b (if r % 2 = 1 then zx_nt a else a))) ρ)) : ∀ k q : Nat, q + k = r → zq_At l G (zq_rm D 0 0) mX12_plainOf (zq_QF G post 0 0) 2 [(0, .ref 70), (1, .int (zb lv)), (2, .int (zb (decide (q % 2 = 1))))] [] n (zm_h (zg σ (B + (i + q)) b) ρ) 0 0 := by
  have hE := hR.2.2.1
  have hin := hI _ _ _ ha
  have h01 := hB _ _ _ ha
  intro k
  induction k with
  | zero =>
    intro q hq
    obtain rfl : q = r := hq
    have hfin : ∀ u, zsay w lv b a u → post (some (.int (zb (u != decide (q % 2 = 1))))) n (zm_h (zg σ (B + j) (zbs w lv b a)) ρ) := fun u hu => by
      by_cases ho : q % 2 = 1
      · rw [if_pos ho, znt_b] at hp
        rw [decide_eq_true ho, Bool.bne_true]
        exact hp _ (znt_r h01 hu)
      · rw [if_neg ho] at hp
        rw [decide_eq_false ho, Bool.bne_false]
        exact hp _ hu
    refine at_aload_n dX12_plainOf_2 rfl ?_
    refine at_bipush dX12_plainOf_3 (v := nI 7) (by decide) ?_
    refine at_callV1 (d := D - 1) dX12_plainOf_5 mv_X12_310 rfl (Nat.le_of_ble_eq_true rfl) (zq_r0 (by omega) (by omega) (by omega)) ?_
    refine zm_passes0 (by omega) hR (by omega) (by decide) ?_
    rw [if_neg hn, decide_eq_false hn]
    refine at_if_eqB (tgt := 24) dX12_plainOf_8 (by decide) (fun c8 => ?_) (fun c8 => ?_)
    · refine at_aload_n dX12_plainOf_24 rfl ?_
      refine at_iload_n dX12_plainOf_25 rfl ?_
      refine at_callV1 (d := D - 1) dX12_plainOf_26 mv_X12_346 rfl (Nat.le_of_ble_eq_true rfl) (zq_r0 (by omega) (by omega) (by omega)) ?_
      refine HP a (i + q) j lv b _ ha (fun u hu => ?_)
      have hp := hfin u hu
      generalize decide (q % 2 = 1) = v at *
      refine at_iload_n dX12_plainOf_29 rfl ?_
      refine at_icmp_eq (tgt := 37) dX12_plainOf_30 (by decide) (fun c30 => ?_) (fun c30 => ?_)
      · obtain rfl : u = v := by cases u <;> cases v <;> first | rfl | exact absurd c30 (by decide)
        rw [bne_self_eq_false] at hp
        refine at_iconst dX12_plainOf_37 (v := nI 0) (by decide) ?_
        refine at_zret dX12_plainOf_38 rfl (by omega) (by omega) (by first | exact Or.inl rfl | exact Or.inr rfl | assumption) ?_
        exact hp
      · rw [show (u != v) = true by cases u <;> cases v <;> first | rfl | exact absurd rfl c30] at hp
        refine at_iconst dX12_plainOf_33 (v := nI 1) (by decide) ?_
        refine at_goto (tgt := 38) dX12_plainOf_34 (by decide) ?_
        refine at_zret dX12_plainOf_38 rfl (by omega) (by omega) (by first | exact Or.inl rfl | exact Or.inr rfl | assumption) ?_
        exact hp
    · cases c8
  | succ k ih =>
    intro q hq
    have hs := h7 q (by omega)
    have hnx := ih (q + 1) (by omega)
    refine at_aload_n dX12_plainOf_2 rfl ?_
    refine at_bipush dX12_plainOf_3 (v := nI 7) (by decide) ?_
    refine at_callV1 (d := D - 1) dX12_plainOf_5 mv_X12_310 rfl (Nat.le_of_ble_eq_true rfl) (zq_r0 (by omega) (by omega) (by omega)) ?_
    refine zm_passes0 (by omega) hR (by omega) (by decide) ?_
    rw [if_pos hs, decide_eq_true hs]
    refine at_if_eqB (tgt := 24) dX12_plainOf_8 (by decide) (fun c8 => ?_) (fun c8 => ?_)
    · cases c8
    · refine at_iload_n dX12_plainOf_11 rfl ?_
      refine at_if_neB (tgt := 19) dX12_plainOf_12 (by decide) (fun c12 => ?_) (fun c12 => ?_)
      · rw [decide_eq_false (show ¬ (q + 1) % 2 = 1 by have := of_decide_eq_true c12; omega)] at hnx
        refine at_iconst dX12_plainOf_19 (v := nI 0) (by decide) ?_
        refine at_istore_n dX12_plainOf_20 rfl (by decide) ?_
        refine at_goto (tgt := 2) dX12_plainOf_21 (by decide) ?_
        exact hnx
      · rw [decide_eq_true (show (q + 1) % 2 = 1 by have := of_decide_eq_false c12; omega)] at hnx
        refine at_iconst dX12_plainOf_15 (v := nI 1) (by decide) ?_
        refine at_goto (tgt := 20) dX12_plainOf_16 (by decide) ?_
        refine at_istore_n dX12_plainOf_20 rfl (by decide) ?_
        refine at_goto (tgt := 2) dX12_plainOf_21 (by decide) ?_
        exact hnx
theorem zm_plainOf {D : Nat} {P : zX → Nat → Nat → Prop} (hD : 2 ≤ D) (hR : zRun σ B E cd vl o) (hI : zIn E P) (hB : zB1 w P) (HP : zHB l G n B w σ ρ (D - 1) yX12_positiveOf P) : zHB l G n B w σ ρ D yX12_plainOf (zSpPlain cd P) := by
  rintro e i j lv b post ⟨r, a, h1, h2, h3, rfl⟩ hp
  refine zq_enter (cc := cX12_plainOf) (nL := 3) (ret := (some .boolean)) cw_X12_plainOf (by decide) rfl (Nat.le_of_ble_eq_true rfl) ?_
  refine at_iconst dX12_plainOf_0 (v := nI 0) (by decide) ?_
  refine at_istore_n dX12_plainOf_1 rfl (by decide) ?_
  exact zm_plainOf_loop hD hR hI hB HP h1 h2 h3 hp r 0 (Nat.zero_add r)
theorem zcmp_b {lv b : Bool} {a t : zX} {s : Nat} (hs : s = 160 ∨ s = 161 ∨ s = 162) : zbs w lv (zbs w lv b a) t = zbs w lv b (zx_op s a t) := by
  unfold zbs zx_op
  cases lv with
  | false => simp
  | true =>
    cases b with
    | true => simp
    | false =>
      cases ha : a w with
      | none => simp
      | some x =>
        cases ht : t w with
        | none => simp
        | some y =>
          have : (zop s x y).isNone = false := by
            unfold zop
            rw [if_neg (by omega), if_neg (by omega), if_neg (by omega), if_neg (by omega), if_neg (by omega)]
            split
            · rfl
            · split <;> rfl
          simp [this]
def zcmp (s : Nat) (x y : Int) : Bool := if s = 160 then decide (x < y) else if s = 162 then decide (y < x) else decide (x = y)
theorem zcmp_v {s : Nat} {x y : Int} (hs : s = 160 ∨ s = 161 ∨ s = 162) : zop s x y = some (if zcmp s x y = true then 1 else 0) := by
  rcases hs with rfl | rfl | rfl <;> simp [zop, zcmp]
theorem zcmp_r {lv b q : Bool} {a t : zX} {s : Nat} (hs : s = 160 ∨ s = 161 ∨ s = 162) (h : lv = true → zbs w lv (zbs w lv b a) t = false → q = zcmp s (zvl w lv b a) (zvl w lv (zbs w lv b a) t)) : zsay w lv b (zx_op s a t) q := by
  intro hl hb x hx
  subst hl; subst hb
  unfold zx_op at hx
  cases ha : a w with
  | none => rw [ha] at hx; cases hx
  | some y =>
    cases ht : t w with
    | none => rw [ha, ht] at hx; cases hx
    | some z =>
      rw [ha, ht] at hx
      simp only [Option.bind_some] at hx
      rw [zcmp_v hs] at hx
      have g := h rfl (by rw [zbs_s ha, zbs_s ht])
      rw [zbs_s ha, zvl_s ha, zvl_s ht] at g
      rw [g]
      injection hx with hx
      rw [← hx]
      cases zcmp s y z <;> rfl
theorem zm_positiveOf {D : Nat} {S T : zX → Nat → Nat → Prop} (hD : 2 ≤ D) (hR : zRun σ B E cd vl o) (hIS : zIn E S) (hIT : zIn E T) (hBS : zBn w S) (HS : zHV l G n B w σ ρ (D - 1) yX12_sumOf S) (HT : zHB l G n B w σ ρ (D - 1) yX12_testOf T) : zHB l G n B w σ ρ D yX12_positiveOf (zSpPos cd S T) := by
  intro e i j lv b post h hp
  have hE := hR.2.2.1
  have hlt : ∀ k, cd k ≠ 0 → k < E := fun k hk => Nat.lt_of_not_le fun g => hk (hR.2.2.2.1 k g)
  refine zq_enter (cc := cX12_positiveOf) (nL := 7) (ret := (some .boolean)) cw_X12_positiveOf (by decide) rfl (Nat.le_of_ble_eq_true rfl) ?_
  rcases h with ⟨h1, k, h2, h3, rfl⟩ | ⟨h1, a, t, k, h2, h3, h4, rfl⟩
  · have g := hlt i (by omega)
    refine at_aload_n dX12_positiveOf_0 rfl ?_
    refine at_bipush dX12_positiveOf_1 (v := nI 40) (by decide) ?_
    refine at_callS1 (d := D - 1) dX12_positiveOf_3 ms_X12_245 (Nat.le_of_ble_eq_true rfl) (zq_r0 (by omega) (by omega) (by omega)) ?_
    refine zm_sign ?_
    refine at_callV1 (d := D - 1) dX12_positiveOf_6 mv_X12_310 rfl (Nat.le_of_ble_eq_true rfl) (zq_r0 (by omega) (by omega) (by omega)) ?_
    refine zm_passes0 (by omega) hR (by omega) (by decide) ?_
    rw [if_pos h1, decide_eq_true h1]
    refine at_if_eqB (tgt := 30) dX12_positiveOf_9 (by decide) (fun c9 => ?_) (fun c9 => ?_)
    · cases c9
    · refine at_aload_n dX12_positiveOf_12 rfl ?_
      refine at_iload_n dX12_positiveOf_13 rfl ?_
      refine at_callV1 (d := D - 1) dX12_positiveOf_14 mv_X12_349 rfl (Nat.le_of_ble_eq_true rfl) (zq_r0 (by omega) (by omega) (by omega)) ?_
      refine HT e (i + 1) k lv b _ h2 (fun r hr => ?_)
      have hp := hp r hr
      refine at_istore_n dX12_positiveOf_17 rfl (by decide) ?_
      refine at_aload_n dX12_positiveOf_18 rfl ?_
      refine at_dup dX12_positiveOf_19 rfl ?_
      refine at_get dX12_positiveOf_20 fl_X12_286 rfl rfl ?_
      rw [zg_23]
      refine at_iconst dX12_positiveOf_23 (v := nI 1) (by decide) ?_
      refine at_iaddN dX12_positiveOf_24 ?_
      refine at_mput dX12_positiveOf_25 (pl_X12_286 _) (fun _ => ⟨_, rfl⟩) rfl rfl ?_
      rw [zg_s23, Nat.add_assoc B k 1]
      refine at_iload_n dX12_positiveOf_28 rfl ?_
      refine at_zret dX12_positiveOf_29 rfl (by omega) (by omega) (zb_01 _) ?_
      exact hp
  · have g := hlt k (by omega)
    have gi := hIS _ _ _ h2
    have gk := hR.2.2.2.2.1 k
    have va := zvl_b (w := w) (lv := lv) (b := b) (hBS _ _ _ h2)
    have vt := zvl_b (w := w) (lv := lv) (b := zbs w lv b a) (hBS _ _ _ h4)
    rw [← zcmp_b h3] at hp
    have hp := fun q hq => hp q (zcmp_r h3 hq)
    have hpf := hp false
    have hpt := hp true
    refine at_aload_n dX12_positiveOf_0 rfl ?_
    refine at_bipush dX12_positiveOf_1 (v := nI 40) (by decide) ?_
    refine at_callS1 (d := D - 1) dX12_positiveOf_3 ms_X12_245 (Nat.le_of_ble_eq_true rfl) (zq_r0 (by omega) (by omega) (by omega)) ?_
    refine zm_sign ?_
    refine at_callV1 (d := D - 1) dX12_positiveOf_6 mv_X12_310 rfl (Nat.le_of_ble_eq_true rfl) (zq_r0 (by omega) (by omega) (by omega)) ?_
    refine zm_passes0 (by omega) hR (by omega) (by decide) ?_
    rw [if_neg h1, decide_eq_false h1]
    refine at_if_eqB (tgt := 30) dX12_positiveOf_9 (by decide) (fun c9 => ?_) (fun c9 => ?_)
    · refine at_aload_n dX12_positiveOf_30 rfl ?_
      refine at_iload_n dX12_positiveOf_31 rfl ?_
      refine at_callV1 (d := D - 1) dX12_positiveOf_32 mv_X12_313 rfl (Nat.le_of_ble_eq_true rfl) (zq_r0 (by omega) (by omega) (by omega)) ?_
      refine HS a i k lv b _ h2 ?_
      refine at_lstore_n dX12_positiveOf_35 rfl (by decide) ?_
      refine at_aload_n dX12_positiveOf_36 rfl ?_
      refine at_aload_n dX12_positiveOf_37 rfl ?_
      refine at_get dX12_positiveOf_38 fl_X12_286 rfl rfl ?_
      rw [zg_23]
      refine at_callV1 (d := D - 1) dX12_positiveOf_41 mv_X12_289 rfl (Nat.le_of_ble_eq_true rfl) (zq_r0 (by omega) (by omega) (by omega)) ?_
      refine zm_codeAt hR (by omega) ?_
      refine at_istore dX12_positiveOf_44 (by decide) ?_
      refine at_aload_n dX12_positiveOf_46 rfl ?_
      refine at_dup dX12_positiveOf_47 rfl ?_
      refine at_get dX12_positiveOf_48 fl_X12_286 rfl rfl ?_
      rw [zg_23]
      refine at_iconst dX12_positiveOf_51 (v := nI 1) (by decide) ?_
      refine at_iaddN dX12_positiveOf_52 ?_
      refine at_mput dX12_positiveOf_53 (pl_X12_286 _) (fun _ => ⟨_, rfl⟩) rfl rfl ?_
      rw [zg_s23, Nat.add_assoc B k 1]
      refine at_aload_n dX12_positiveOf_56 rfl ?_
      refine at_iload_n dX12_positiveOf_57 rfl ?_
      refine at_callV1 (d := D - 1) dX12_positiveOf_58 mv_X12_313 rfl (Nat.le_of_ble_eq_true rfl) (zq_r0 (by omega) (by omega) (by omega)) ?_
      refine HS t (k + 1) j lv _ _ h4 ?_
      refine at_lstore dX12_positiveOf_61 (by decide) ?_
      refine at_iload_n dX12_positiveOf_63 rfl ?_
      refine at_if_eqB (tgt := 125) dX12_positiveOf_64 (by decide) (fun c64 => ?_) (fun c64 => ?_)
      · have hp := hpf (fun h => by rw [c64] at h; cases h)
        refine at_iconst dX12_positiveOf_125 (v := nI 0) (by decide) ?_
        refine at_zret dX12_positiveOf_126 rfl (by omega) (by omega) (by first | exact Or.inl rfl | exact Or.inr rfl | assumption) ?_
        exact hp
      · refine at_aload_n dX12_positiveOf_67 rfl ?_
        refine at_get dX12_positiveOf_68 fl_X12_296 rfl rfl ?_
        rw [zg_25]
        refine at_if_neB (tgt := 125) dX12_positiveOf_71 (by decide) (fun c71 => ?_) (fun c71 => ?_)
        · have hp := hpf (fun _ h => by rw [c71] at h; cases h)
          refine at_iconst dX12_positiveOf_125 (v := nI 0) (by decide) ?_
          refine at_zret dX12_positiveOf_126 rfl (by omega) (by omega) (by first | exact Or.inl rfl | exact Or.inr rfl | assumption) ?_
          exact hp
        · refine at_iload dX12_positiveOf_74 rfl ?_
          refine at_bipush dX12_positiveOf_76 (v := nI 60) (by decide) ?_
          refine at_callS1 (d := D - 1) dX12_positiveOf_78 ms_X12_245 (Nat.le_of_ble_eq_true rfl) (zq_r0 (by omega) (by omega) (by omega)) ?_
          refine zm_sign ?_
          refine at_neN (tgt := 94) dX12_positiveOf_81 (by decide) (by omega) (by omega) (fun c81 => ?_) (fun c81 => ?_)
          · refine at_iload dX12_positiveOf_94 rfl ?_
            refine at_bipush dX12_positiveOf_96 (v := nI 62) (by decide) ?_
            refine at_callS1 (d := D - 1) dX12_positiveOf_98 ms_X12_245 (Nat.le_of_ble_eq_true rfl) (zq_r0 (by omega) (by omega) (by omega)) ?_
            refine zm_sign ?_
            refine at_neN (tgt := 114) dX12_positiveOf_101 (by decide) (by omega) (by omega) (fun c101 => ?_) (fun c101 => ?_)
            · refine at_lload_n dX12_positiveOf_114 rfl ?_
              refine at_lload dX12_positiveOf_115 rfl ?_
              refine at_lcmp dX12_positiveOf_117 ?_
              refine at_if_ne (tgt := 125) dX12_positiveOf_118 (by decide) (fun c118 => ?_) (fun c118 => ?_)
              · rw [lg_cmp_eq, zL_eq (by omega) (by omega)] at c118
                have hp := hpf (fun _ _ => by unfold zcmp; rw [if_neg c81, if_neg c101]; exact (decide_eq_false c118).symm)
                refine at_iconst dX12_positiveOf_125 (v := nI 0) (by decide) ?_
                refine at_zret dX12_positiveOf_126 rfl (by omega) (by omega) (by first | exact Or.inl rfl | exact Or.inr rfl | assumption) ?_
                exact hp
              · rw [lg_cmp_eq, zL_eq (by omega) (by omega)] at c118
                have hp := hpt (fun _ _ => by unfold zcmp; rw [if_neg c81, if_neg c101]; exact (decide_eq_true c118).symm)
                refine at_iconst dX12_positiveOf_121 (v := nI 1) (by decide) ?_
                refine at_goto (tgt := 126) dX12_positiveOf_122 (by decide) ?_
                refine at_zret dX12_positiveOf_126 rfl (by omega) (by omega) (by first | exact Or.inl rfl | exact Or.inr rfl | assumption) ?_
                exact hp
            · refine at_lload_n dX12_positiveOf_104 rfl ?_
              refine at_lload dX12_positiveOf_105 rfl ?_
              refine at_lcmp dX12_positiveOf_107 ?_
              refine at_if_le (tgt := 125) dX12_positiveOf_108 (by decide) (fun c108 => ?_) (fun c108 => ?_)
              · rw [lg_cmp_le, zL_le (by omega) (by omega)] at c108
                have hp := hpf (fun _ _ => by unfold zcmp; rw [if_neg c81, if_pos c101]; exact (decide_eq_false (by omega)).symm)
                refine at_iconst dX12_positiveOf_125 (v := nI 0) (by decide) ?_
                refine at_zret dX12_positiveOf_126 rfl (by omega) (by omega) (by first | exact Or.inl rfl | exact Or.inr rfl | assumption) ?_
                exact hp
              · rw [lg_cmp_le, zL_le (by omega) (by omega)] at c108
                have hp := hpt (fun _ _ => by unfold zcmp; rw [if_neg c81, if_pos c101]; exact (decide_eq_true (by omega)).symm)
                refine at_goto (tgt := 121) dX12_positiveOf_111 (by decide) ?_
                refine at_iconst dX12_positiveOf_121 (v := nI 1) (by decide) ?_
                refine at_goto (tgt := 126) dX12_positiveOf_122 (by decide) ?_
                refine at_zret dX12_positiveOf_126 rfl (by omega) (by omega) (by first | exact Or.inl rfl | exact Or.inr rfl | assumption) ?_
                exact hp
          · refine at_lload_n dX12_positiveOf_84 rfl ?_
            refine at_lload dX12_positiveOf_85 rfl ?_
            refine at_lcmp dX12_positiveOf_87 ?_
            refine at_if_ge (tgt := 125) dX12_positiveOf_88 (by decide) (fun c88 => ?_) (fun c88 => ?_)
            · rw [lg_cmp_ge, zL_le (by omega) (by omega)] at c88
              have hp := hpf (fun _ _ => by unfold zcmp; rw [if_pos c81]; exact (decide_eq_false (by omega)).symm)
              refine at_iconst dX12_positiveOf_125 (v := nI 0) (by decide) ?_
              refine at_zret dX12_positiveOf_126 rfl (by omega) (by omega) (by first | exact Or.inl rfl | exact Or.inr rfl | assumption) ?_
              exact hp
            · rw [lg_cmp_ge, zL_le (by omega) (by omega)] at c88
              have hp := hpt (fun _ _ => by unfold zcmp; rw [if_pos c81]; exact (decide_eq_true (by omega)).symm)
              refine at_goto (tgt := 121) dX12_positiveOf_91 (by decide) ?_
              refine at_iconst dX12_positiveOf_121 (v := nI 1) (by decide) ?_
              refine at_goto (tgt := 126) dX12_positiveOf_122 (by decide) ?_
              refine at_zret dX12_positiveOf_126 rfl (by omega) (by omega) (by first | exact Or.inl rfl | exact Or.inr rfl | assumption) ?_
              exact hp
    · cases c9
/-- a whole test -/
theorem zm_testT (hR : zRun σ B E cd vl o) (hW : zWv l G n σ ρ o w) : ∀ d D : Nat, 4 * d + 20 ≤ D → zHB l G n B w σ ρ D yX12_testOf (zSpT cd vl o d)
  | 0, D, _ => fun _ _ _ _ _ _ h => h.elim
  | d + 1, D, hD => by
    have hS := zIn_S (vl := vl) (o := o) hR.2.2.2.1 (d + 1)
    have hT := zIn_T (vl := vl) (o := o) hR.2.2.2.1 d
    have hI := zIn_pos hR.2.2.2.1 hS hT
    have hB := zB1_pos (w := w) (cd := cd) (S := zSpS cd vl o (d + 1)) (zB1_T (cd := cd) (vl := vl) (o := o) d)
    exact zm_testOf (by omega) hR (zIn_sq (zIn_plain hI)) (zB1_sq (fun _ _ _ => z01_an) (zB1_plain hB)) (zm_bothOf (by omega) hR (zIn_plain hI) (zB1_plain hB) (zm_plainOf (by omega) hR hI hB (zm_positiveOf (by omega) hR hS hT (zBn_S hW.1 (d + 1)) (zm_sumS hR hW (d + 1) (D - 1 - 1 - 1 - 1) (by omega)) (zm_testT hR hW d (D - 1 - 1 - 1 - 1) (by omega)))))
end ZL25

