/-! ===== calls on both sides: a row of bytes ===== -/
theorem dX11_row_0 : decode cX11_row 0 = .ok (.aload_n 0, 1) := by decide +kernel
theorem dX11_row_1 : decode cX11_row 1 = .ok (.getfield 40, 3) := by decide +kernel
theorem dX11_row_4 : decode cX11_row 4 = .ok (.ifCond .ne 10, 3) := by decide +kernel
theorem dX11_row_7 : decode cX11_row 7 = .ok (.aload_n 0, 1) := by decide +kernel
theorem dX11_row_8 : decode cX11_row 8 = .ok (.bipush (-6), 2) := by decide +kernel
theorem dX11_row_10 : decode cX11_row 10 = .ok (.invokevirtual 103, 3) := by decide +kernel
theorem dX11_row_13 : decode cX11_row 13 = .ok (.ireturn, 1) := by decide +kernel
theorem dX11_row_14 : decode cX11_row 14 = .ok (.iconst 0, 1) := by decide +kernel
theorem dX11_row_15 : decode cX11_row 15 = .ok (.istore_n 1, 1) := by decide +kernel
theorem dX11_row_16 : decode cX11_row 16 = .ok (.iconst 0, 1) := by decide +kernel
theorem dX11_row_17 : decode cX11_row 17 = .ok (.istore_n 2, 1) := by decide +kernel
theorem dX11_row_18 : decode cX11_row 18 = .ok (.iconst 0, 1) := by decide +kernel
theorem dX11_row_19 : decode cX11_row 19 = .ok (.istore_n 3, 1) := by decide +kernel
theorem dX11_row_20 : decode cX11_row 20 = .ok (.iload_n 3, 1) := by decide +kernel
theorem dX11_row_21 : decode cX11_row 21 = .ok (.aload_n 0, 1) := by decide +kernel
theorem dX11_row_22 : decode cX11_row 22 = .ok (.getfield 40, 3) := by decide +kernel
theorem dX11_row_25 : decode cX11_row 25 = .ok (.if_icmp .ge 53, 3) := by decide +kernel
theorem dX11_row_28 : decode cX11_row 28 = .ok (.aload_n 0, 1) := by decide +kernel
theorem dX11_row_29 : decode cX11_row 29 = .ok (.iload_n 3, 1) := by decide +kernel
theorem dX11_row_30 : decode cX11_row 30 = .ok (.invokevirtual 179, 3) := by decide +kernel
theorem dX11_row_33 : decode cX11_row 33 = .ok (.istore 4, 2) := by decide +kernel
theorem dX11_row_35 : decode cX11_row 35 = .ok (.iload 4, 2) := by decide +kernel
theorem dX11_row_37 : decode cX11_row 37 = .ok (.invokestatic 97, 3) := by decide +kernel
theorem dX11_row_40 : decode cX11_row 40 = .ok (.ifCond .eq 29, 3) := by decide +kernel
theorem dX11_row_43 : decode cX11_row 43 = .ok (.aload_n 0, 1) := by decide +kernel
theorem dX11_row_44 : decode cX11_row 44 = .ok (.getfield 12, 3) := by decide +kernel
theorem dX11_row_47 : decode cX11_row 47 = .ok (.invokevirtual 107, 3) := by decide +kernel
theorem dX11_row_50 : decode cX11_row 50 = .ok (.ifCond .eq 19, 3) := by decide +kernel
theorem dX11_row_53 : decode cX11_row 53 = .ok (.aload_n 0, 1) := by decide +kernel
theorem dX11_row_54 : decode cX11_row 54 = .ok (.getfield 12, 3) := by decide +kernel
theorem dX11_row_57 : decode cX11_row 57 = .ok (.iload 4, 2) := by decide +kernel
theorem dX11_row_59 : decode cX11_row 59 = .ok (.invokevirtual 114, 3) := by decide +kernel
theorem dX11_row_62 : decode cX11_row 62 = .ok (.pop, 1) := by decide +kernel
theorem dX11_row_63 : decode cX11_row 63 = .ok (.iinc 1 1, 3) := by decide +kernel
theorem dX11_row_66 : decode cX11_row 66 = .ok (.goto 6, 3) := by decide +kernel
theorem dX11_row_69 : decode cX11_row 69 = .ok (.iinc 2 1, 3) := by decide +kernel
theorem dX11_row_72 : decode cX11_row 72 = .ok (.iinc 3 4, 3) := by decide +kernel
theorem dX11_row_75 : decode cX11_row 75 = .ok (.goto (-55), 3) := by decide +kernel
theorem dX11_row_78 : decode cX11_row 78 = .ok (.aload_n 0, 1) := by decide +kernel
theorem dX11_row_79 : decode cX11_row 79 = .ok (.iconst 0, 1) := by decide +kernel
theorem dX11_row_80 : decode cX11_row 80 = .ok (.putfield 40, 3) := by decide +kernel
theorem dX11_row_83 : decode cX11_row 83 = .ok (.aload_n 0, 1) := by decide +kernel
theorem dX11_row_84 : decode cX11_row 84 = .ok (.iload_n 2, 1) := by decide +kernel
theorem dX11_row_85 : decode cX11_row 85 = .ok (.putfield 91, 3) := by decide +kernel
theorem dX11_row_88 : decode cX11_row 88 = .ok (.aload_n 0, 1) := by decide +kernel
theorem dX11_row_89 : decode cX11_row 89 = .ok (.getfield 29, 3) := by decide +kernel
theorem dX11_row_92 : decode cX11_row 92 = .ok (.invokevirtual 111, 3) := by decide +kernel
theorem dX11_row_95 : decode cX11_row 95 = .ok (.aload_n 0, 1) := by decide +kernel
theorem dX11_row_96 : decode cX11_row 96 = .ok (.iload_n 1, 1) := by decide +kernel
theorem dX11_row_97 : decode cX11_row 97 = .ok (.invokevirtual 117, 3) := by decide +kernel
theorem dX11_row_100 : decode cX11_row 100 = .ok (.ireturn, 1) := by decide +kernel
abbrev mX11_row : zq_M := (cX11_row, RX11, "row", (some .int), 5)
theorem dX11_nameOnTape_0 : decode cX11_nameOnTape 0 = .ok (.iload_n 1, 1) := by decide +kernel
theorem dX11_nameOnTape_1 : decode cX11_nameOnTape 1 = .ok (.ifCond .lt 13, 3) := by decide +kernel
theorem dX11_nameOnTape_4 : decode cX11_nameOnTape 4 = .ok (.iload_n 1, 1) := by decide +kernel
theorem dX11_nameOnTape_5 : decode cX11_nameOnTape 5 = .ok (.iconst 4, 1) := by decide +kernel
theorem dX11_nameOnTape_6 : decode cX11_nameOnTape 6 = .ok (.iadd, 1) := by decide +kernel
theorem dX11_nameOnTape_7 : decode cX11_nameOnTape 7 = .ok (.aload_n 0, 1) := by decide +kernel
theorem dX11_nameOnTape_8 : decode cX11_nameOnTape 8 = .ok (.getfield 40, 3) := by decide +kernel
theorem dX11_nameOnTape_11 : decode cX11_nameOnTape 11 = .ok (.if_icmp .le 5, 3) := by decide +kernel
theorem dX11_nameOnTape_14 : decode cX11_nameOnTape 14 = .ok (.iconst 0, 1) := by decide +kernel
theorem dX11_nameOnTape_15 : decode cX11_nameOnTape 15 = .ok (.ireturn, 1) := by decide +kernel
theorem dX11_nameOnTape_16 : decode cX11_nameOnTape 16 = .ok (.iconst 0, 1) := by decide +kernel
theorem dX11_nameOnTape_17 : decode cX11_nameOnTape 17 = .ok (.istore_n 2, 1) := by decide +kernel
theorem dX11_nameOnTape_18 : decode cX11_nameOnTape 18 = .ok (.iconst 0, 1) := by decide +kernel
theorem dX11_nameOnTape_19 : decode cX11_nameOnTape 19 = .ok (.istore_n 3, 1) := by decide +kernel
theorem dX11_nameOnTape_20 : decode cX11_nameOnTape 20 = .ok (.iconst 0, 1) := by decide +kernel
theorem dX11_nameOnTape_21 : decode cX11_nameOnTape 21 = .ok (.istore 4, 2) := by decide +kernel
theorem dX11_nameOnTape_23 : decode cX11_nameOnTape 23 = .ok (.iload 4, 2) := by decide +kernel
theorem dX11_nameOnTape_25 : decode cX11_nameOnTape 25 = .ok (.iconst 4, 1) := by decide +kernel
theorem dX11_nameOnTape_26 : decode cX11_nameOnTape 26 = .ok (.if_icmp .ge 50, 3) := by decide +kernel
theorem dX11_nameOnTape_29 : decode cX11_nameOnTape 29 = .ok (.aload_n 0, 1) := by decide +kernel
theorem dX11_nameOnTape_30 : decode cX11_nameOnTape 30 = .ok (.getfield 36, 3) := by decide +kernel
theorem dX11_nameOnTape_33 : decode cX11_nameOnTape 33 = .ok (.iload_n 1, 1) := by decide +kernel
theorem dX11_nameOnTape_34 : decode cX11_nameOnTape 34 = .ok (.iload 4, 2) := by decide +kernel
theorem dX11_nameOnTape_36 : decode cX11_nameOnTape 36 = .ok (.iadd, 1) := by decide +kernel
theorem dX11_nameOnTape_37 : decode cX11_nameOnTape 37 = .ok (.iaload, 1) := by decide +kernel
theorem dX11_nameOnTape_38 : decode cX11_nameOnTape 38 = .ok (.istore 5, 2) := by decide +kernel
theorem dX11_nameOnTape_40 : decode cX11_nameOnTape 40 = .ok (.iload 5, 2) := by decide +kernel
theorem dX11_nameOnTape_42 : decode cX11_nameOnTape 42 = .ok (.ifCond .ne 8, 3) := by decide +kernel
theorem dX11_nameOnTape_45 : decode cX11_nameOnTape 45 = .ok (.iconst 1, 1) := by decide +kernel
theorem dX11_nameOnTape_46 : decode cX11_nameOnTape 46 = .ok (.istore_n 3, 1) := by decide +kernel
theorem dX11_nameOnTape_47 : decode cX11_nameOnTape 47 = .ok (.goto 23, 3) := by decide +kernel
theorem dX11_nameOnTape_50 : decode cX11_nameOnTape 50 = .ok (.iload_n 3, 1) := by decide +kernel
theorem dX11_nameOnTape_51 : decode cX11_nameOnTape 51 = .ok (.ifCond .ne 9, 3) := by decide +kernel
theorem dX11_nameOnTape_54 : decode cX11_nameOnTape 54 = .ok (.iload 5, 2) := by decide +kernel
theorem dX11_nameOnTape_56 : decode cX11_nameOnTape 56 = .ok (.iconst 5, 1) := by decide +kernel
theorem dX11_nameOnTape_57 : decode cX11_nameOnTape 57 = .ok (.if_icmp .le 5, 3) := by decide +kernel
theorem dX11_nameOnTape_60 : decode cX11_nameOnTape 60 = .ok (.iconst 0, 1) := by decide +kernel
theorem dX11_nameOnTape_61 : decode cX11_nameOnTape 61 = .ok (.ireturn, 1) := by decide +kernel
theorem dX11_nameOnTape_62 : decode cX11_nameOnTape 62 = .ok (.iload_n 2, 1) := by decide +kernel
theorem dX11_nameOnTape_63 : decode cX11_nameOnTape 63 = .ok (.bipush 10, 2) := by decide +kernel
theorem dX11_nameOnTape_65 : decode cX11_nameOnTape 65 = .ok (.imul, 1) := by decide +kernel
theorem dX11_nameOnTape_66 : decode cX11_nameOnTape 66 = .ok (.iload 5, 2) := by decide +kernel
theorem dX11_nameOnTape_68 : decode cX11_nameOnTape 68 = .ok (.iadd, 1) := by decide +kernel
theorem dX11_nameOnTape_69 : decode cX11_nameOnTape 69 = .ok (.istore_n 2, 1) := by decide +kernel
theorem dX11_nameOnTape_70 : decode cX11_nameOnTape 70 = .ok (.iinc 4 1, 3) := by decide +kernel
theorem dX11_nameOnTape_73 : decode cX11_nameOnTape 73 = .ok (.goto (-50), 3) := by decide +kernel
theorem dX11_nameOnTape_76 : decode cX11_nameOnTape 76 = .ok (.iload_n 2, 1) := by decide +kernel
theorem dX11_nameOnTape_77 : decode cX11_nameOnTape 77 = .ok (.ireturn, 1) := by decide +kernel
abbrev mX11_nameOnTape : zq_M := (cX11_nameOnTape, RX11, "nameOnTape", (some .int), 6)
theorem ztn_c {B B' : Nat → Int32} : ∀ k i x e, (∀ j, i ≤ j → j < i + k → B' j = B j) → ztn B' k i x e = ztn B k i x e
  | 0, _, _, _, _ => rfl
  | k + 1, i, x, e, h => by
    unfold ztn
    rw [h i (Nat.le_refl _) (by omega), ztn_c k (i + 1) x true (fun j h1 h2 => h j (by omega) (by omega)), ztn_c k (i + 1) _ false (fun j h1 h2 => h j (by omega) (by omega))]
theorem ztn_v {B : Nat → Int32} : ∀ k i x e, i + k = 4 → (x = 0 ∨ (zvn x ∧ zlen x ≤ i)) → (x = 0 → i = 0 ∨ e = true) → ztn B k i x e = 0 ∨ zvn (ztn B k i x e)
  | 0, _, x, _, _, h, _ => by unfold ztn; exact h.imp id (fun h => h.1)
  | k + 1, i, x, e, hi, h, he => by
    unfold ztn
    by_cases c1 : (decide (nI 0 ≤ B i) && decide (B i ≤ nI 5)) = false ∨ (e = true ∧ 0 < B i)
    · rw [if_pos c1]; exact Or.inl rfl
    · rw [if_neg c1]
      have hb : (decide (nI 0 ≤ B i) && decide (B i ≤ nI 5)) = true := by
        cases g : (decide (nI 0 ≤ B i) && decide (B i ≤ nI 5)) with
        | true => rfl
        | false => exact absurd (Or.inl g) c1
      obtain ⟨y, y0, y5, ey⟩ := zlies_n (by decide) (by decide) hb
      by_cases c2 : B i = 0
      · rw [if_pos c2]
        exact ztn_v k (i + 1) x true (by omega) (h.imp id (fun h => ⟨h.1, by omega⟩)) (fun _ => Or.inr rfl)
      · rw [if_neg c2, ey, nI_clamp (by omega)]
        have hy : 1 ≤ y := by
          rcases Nat.eq_zero_or_pos y with g | g
          · subst g; exact absurd ey c2
          · exact g
        have hne : e = false := by
          cases g : e with
          | false => rfl
          | true => exact absurd (Or.inr ⟨g, by rw [ey]; exact nI_lt (a := 0) (by omega) (by omega)⟩) c1
        have hx : zvn (10 * x + y) ∧ zlen (10 * x + y) ≤ i + 1 := by
          rcases h with rfl | ⟨h1, h2⟩
          · rw [Nat.mul_zero, Nat.zero_add]
            have := zvn_1 hy y5
            exact ⟨this.1, by rw [this.2]; omega⟩
          · have := zvn_10 h1 (by omega) hy y5
            exact ⟨this.1, by rw [this.2]; omega⟩
        exact ztn_v k (i + 1) _ false (by omega) (Or.inr hx) (fun g => by have := hx.1.1; omega)
theorem ztold_v (T : Nat → Int32) (s : Nat) : ztold T s = 0 ∨ zvn (ztold T s) := ztn_v 4 0 0 false rfl (Or.inl rfl) (fun _ => Or.inl rfl)
theorem zvn_I {x : Nat} (h : zvn x) : zisI (nI x) = true := by
  obtain ⟨h1, h2, h3⟩ := h
  unfold zisI
  rw [nI_clamp (by omega), h3, decide_eq_true ((nI_leI (by decide) (by omega)).mpr h1), decide_eq_true ((nI_leI (by omega) (by decide)).mpr h2)]
  rfl
section ZK23
variable {l : Launch} {G : zq_G} {D n n' b : Nat} {κ κ' : zl_S} {σ τ : zm_S} {ρ ρ' : Nat → zq_E} {K K' : Nat → Int32} {m hn t z : Nat} {Ls : Nat → List zLC} {Λ Λ' : List Nat} {post : Option Value → Nat → (Nat → zq_E) → Prop} {T : Nat → Int32}
theorem zc_nt_loop {s : Nat} (hz : z ≤ 400) (hs : s + 4 ≤ z) (hT : zTp T (κ.2.1 47) z) : ∀ k i x e, i + k = 4 → x < 10 ^ i → post (some (.int (nI (ztn (fun j => T (s + j)) k i x e)))) n (zl_h κ ρ) → zq_At l G (zq_rm D 0 0) mX11_nameOnTape (zq_QF G post 0 0) 23 [(0, .ref 8), (1, .int (nI s)), (2, .int (nI x)), (3, .int (zb e)), (4, .int (nI i))] [] n (zl_h κ ρ) 0 0 := by
  intro k
  induction k with
  | zero =>
    intro i x e hi hx hp
    obtain rfl : i = 4 := hi
    unfold ztn at hp
    refine at_iload dX11_nameOnTape_23 rfl ?_
    refine at_iconst dX11_nameOnTape_25 (v := nI 4) (by decide) ?_
    refine at_geN (tgt := 76) dX11_nameOnTape_26 (by decide) (by omega) (by omega) (fun c26 => ?_) (fun c26 => ?_)
    · refine at_iload_n dX11_nameOnTape_76 rfl ?_
      refine at_iret dX11_nameOnTape_77 rfl (by omega) (by omega) ?_
      exact hp
    · omega
  | succ k ih =>
    intro i x e hi hx hp
    have hx4 : 10 ^ i ≤ 10 ^ 3 := Nat.pow_le_pow_right (by decide) (by omega)
    have hx5 : 10 ^ (i + 1) = 10 * 10 ^ i := by rw [Nat.pow_succ]; omega
    obtain ⟨y, y1, y2, y3⟩ := hT (s + i) (by omega)
    have hby := zbyt ⟨y, y1⟩
    unfold ztn at hp
    rw [y3] at hp
    by_cases e0 : y = 0
    · subst e0
      rw [if_neg (fun g => g.elim (fun g => absurd g (by decide)) (fun g => absurd g.2 (by decide))), if_pos (by decide)] at hp
      have hn := ih (i + 1) x true (by omega) (by omega) hp
      refine at_iload dX11_nameOnTape_23 rfl ?_
      refine at_iconst dX11_nameOnTape_25 (v := nI 4) (by decide) ?_
      refine at_geN (tgt := 76) dX11_nameOnTape_26 (by decide) (by omega) (by omega) (fun c26 => ?_) (fun c26 => ?_)
      · omega
      · refine at_aload_n dX11_nameOnTape_29 rfl ?_
        refine at_get dX11_nameOnTape_30 fl_X11_36 (zl_o rfl) rfl ?_
        refine at_iload_n dX11_nameOnTape_33 rfl ?_
        refine at_iload dX11_nameOnTape_34 rfl ?_
        refine at_iaddN dX11_nameOnTape_36 ?_
        refine at_lald2 (a := 47) dX11_nameOnTape_37 rfl rfl (by show _ < 400; omega) (by decide) ?_
        rw [y2]
        refine at_istore dX11_nameOnTape_38 (by decide) ?_
        refine at_iload dX11_nameOnTape_40 rfl ?_
        refine at_if_neN (tgt := 50) dX11_nameOnTape_42 (by decide) (by omega) (fun c42 => ?_) (fun c42 => ?_)
        · exact absurd rfl c42
        · refine at_iconst dX11_nameOnTape_45 (v := nI 1) (by decide) ?_
          refine at_istore_n dX11_nameOnTape_46 rfl (by decide) ?_
          refine at_goto (tgt := 70) dX11_nameOnTape_47 (by decide) ?_
          refine at_iincN dX11_nameOnTape_70 rfl (by decide) ?_
          refine at_goto (tgt := 23) dX11_nameOnTape_73 (by decide) ?_
          exact at_lv [0, 1, 2, 3, 4] hn
    · by_cases e5 : y ≤ 5
      · have e8 : (nI y).toInt8.toInt32 = nI y := by
          rcases hby.2.2.2.2.2 with g | ⟨_, g⟩
          · exact g
          · have g : 128 ≤ y := g
            omega
        rw [e8] at hp
        have hlies : (decide (nI 0 ≤ nI y) && decide (nI y ≤ nI 5)) = true := zlies_i (a := 0) (b := 5) (by decide) (by decide) (Nat.zero_le _) e5
        have hne : ¬ nI y = 0 := fun g => e0 ((nI_eq (by omega) (by decide)).mp g)
        cases e with
        | true =>
          rw [if_pos (Or.inr ⟨rfl, nI_lt (a := 0) (by omega) (by omega)⟩)] at hp
          refine at_iload dX11_nameOnTape_23 rfl ?_
          refine at_iconst dX11_nameOnTape_25 (v := nI 4) (by decide) ?_
          refine at_geN (tgt := 76) dX11_nameOnTape_26 (by decide) (by omega) (by omega) (fun c26 => ?_) (fun c26 => ?_)
          · omega
          · refine at_aload_n dX11_nameOnTape_29 rfl ?_
            refine at_get dX11_nameOnTape_30 fl_X11_36 (zl_o rfl) rfl ?_
            refine at_iload_n dX11_nameOnTape_33 rfl ?_
            refine at_iload dX11_nameOnTape_34 rfl ?_
            refine at_iaddN dX11_nameOnTape_36 ?_
            refine at_lald2 (a := 47) dX11_nameOnTape_37 rfl rfl (by show _ < 400; omega) (by decide) ?_
            rw [y2]
            refine at_istore dX11_nameOnTape_38 (by decide) ?_
            refine at_iload dX11_nameOnTape_40 rfl ?_
            refine at_if_neN (tgt := 50) dX11_nameOnTape_42 (by decide) (by omega) (fun c42 => ?_) (fun c42 => ?_)
            · refine at_iload_n dX11_nameOnTape_50 rfl ?_
              refine at_if_neB (tgt := 60) dX11_nameOnTape_51 (by decide) (fun c51 => ?_) (fun c51 => ?_)
              · refine at_iconst dX11_nameOnTape_60 (v := nI 0) (by decide) ?_
                refine at_iret dX11_nameOnTape_61 rfl (by omega) (by omega) ?_
                exact hp
              · cases c51
            · omega
        | false =>
          rw [if_neg (fun g => g.elim (fun g => by rw [hlies] at g; cases g) (fun g => by cases g.1)), if_neg hne, nI_clamp (by omega)] at hp
          have hn := ih (i + 1) (10 * x + y) false (by omega) (by omega) hp
          rw [show 10 * x + y = x * 10 + y by omega] at hn
          refine at_iload dX11_nameOnTape_23 rfl ?_
          refine at_iconst dX11_nameOnTape_25 (v := nI 4) (by decide) ?_
          refine at_geN (tgt := 76) dX11_nameOnTape_26 (by decide) (by omega) (by omega) (fun c26 => ?_) (fun c26 => ?_)
          · omega
          · refine at_aload_n dX11_nameOnTape_29 rfl ?_
            refine at_get dX11_nameOnTape_30 fl_X11_36 (zl_o rfl) rfl ?_
            refine at_iload_n dX11_nameOnTape_33 rfl ?_
            refine at_iload dX11_nameOnTape_34 rfl ?_
            refine at_iaddN dX11_nameOnTape_36 ?_
            refine at_lald2 (a := 47) dX11_nameOnTape_37 rfl rfl (by show _ < 400; omega) (by decide) ?_
            rw [y2]
            refine at_istore dX11_nameOnTape_38 (by decide) ?_
            refine at_iload dX11_nameOnTape_40 rfl ?_
            refine at_if_neN (tgt := 50) dX11_nameOnTape_42 (by decide) (by omega) (fun c42 => ?_) (fun c42 => ?_)
            · refine at_iload_n dX11_nameOnTape_50 rfl ?_
              refine at_if_neB (tgt := 60) dX11_nameOnTape_51 (by decide) (fun c51 => ?_) (fun c51 => ?_)
              · cases c51
              · refine at_iload dX11_nameOnTape_54 rfl ?_
                refine at_iconst dX11_nameOnTape_56 (v := nI 5) (by decide) ?_
                refine at_leN (tgt := 62) dX11_nameOnTape_57 (by decide) (by omega) (by omega) (fun c57 => ?_) (fun c57 => ?_)
                · refine at_iload_n dX11_nameOnTape_62 rfl ?_
                  refine at_bipush dX11_nameOnTape_63 (v := nI 10) (by decide) ?_
                  refine at_imulN dX11_nameOnTape_65 ?_
                  refine at_iload dX11_nameOnTape_66 rfl ?_
                  refine at_iaddN dX11_nameOnTape_68 ?_
                  refine at_istore_n dX11_nameOnTape_69 rfl (by decide) ?_
                  refine at_iincN dX11_nameOnTape_70 rfl (by decide) ?_
                  refine at_goto (tgt := 23) dX11_nameOnTape_73 (by decide) ?_
                  exact at_lv [0, 1, 2, 3, 4] hn
                · omega
            · omega
      · have hbad : (decide (nI 0 ≤ (nI y).toInt8.toInt32) && decide ((nI y).toInt8.toInt32 ≤ nI 5)) = false := by
          rcases hby.2.2.2.2.2 with g | ⟨g, _⟩
          · rw [show (nI y).toInt8.toInt32 = nI y from g, decide_eq_false (fun q => e5 ((nI_leI (by omega) (by decide)).mp q)), Bool.and_false]
          · rw [decide_eq_false (show ¬ nI 0 ≤ (nI y).toInt8.toInt32 from Int32.not_le.mpr g), Bool.false_and]
        rw [if_pos (Or.inl hbad)] at hp
        refine at_iload dX11_nameOnTape_23 rfl ?_
        refine at_iconst dX11_nameOnTape_25 (v := nI 4) (by decide) ?_
        refine at_geN (tgt := 76) dX11_nameOnTape_26 (by decide) (by omega) (by omega) (fun c26 => ?_) (fun c26 => ?_)
        · omega
        · refine at_aload_n dX11_nameOnTape_29 rfl ?_
          refine at_get dX11_nameOnTape_30 fl_X11_36 (zl_o rfl) rfl ?_
          refine at_iload_n dX11_nameOnTape_33 rfl ?_
          refine at_iload dX11_nameOnTape_34 rfl ?_
          refine at_iaddN dX11_nameOnTape_36 ?_
          refine at_lald2 (a := 47) dX11_nameOnTape_37 rfl rfl (by show _ < 400; omega) (by decide) ?_
          rw [y2]
          refine at_istore dX11_nameOnTape_38 (by decide) ?_
          refine at_iload dX11_nameOnTape_40 rfl ?_
          refine at_if_neN (tgt := 50) dX11_nameOnTape_42 (by decide) (by omega) (fun c42 => ?_) (fun c42 => ?_)
          · refine at_iload_n dX11_nameOnTape_50 rfl ?_
            refine at_if_neB (tgt := 60) dX11_nameOnTape_51 (by decide) (fun c51 => ?_) (fun c51 => ?_)
            · refine at_iconst dX11_nameOnTape_60 (v := nI 0) (by decide) ?_
              refine at_iret dX11_nameOnTape_61 rfl (by omega) (by omega) ?_
              exact hp
            · refine at_iload dX11_nameOnTape_54 rfl ?_
              refine at_iconst dX11_nameOnTape_56 (v := nI 5) (by decide) ?_
              refine at_leN (tgt := 62) dX11_nameOnTape_57 (by decide) (by omega) (by omega) (fun c57 => ?_) (fun c57 => ?_)
              · omega
              · refine at_iconst dX11_nameOnTape_60 (v := nI 0) (by decide) ?_
                refine at_iret dX11_nameOnTape_61 rfl (by omega) (by omega) ?_
                exact hp
          · omega
theorem zc_nameOnTape {s : Nat} (hz : z ≤ 400) (hs : s + 4 ≤ z) (h7 : κ.1 8 7 = nI z) (hT : zTp T (κ.2.1 47) z) (hp : post (some (.int (nI (ztold T s)))) n (zl_h κ ρ)) : zq_Runs l G D 0 0 yX11_nameOnTape [.ref 8, .int (nI s)] n (zl_h κ ρ) post := by
  have hl := zc_nt_loop (l := l) (G := G) (D := D) (n := n) (ρ := ρ) (post := post) hz hs hT 4 0 0 false rfl (by decide) hp
  refine zq_enter (cc := cX11_nameOnTape) (nL := 6) (ret := (some .int)) cw_X11_nameOnTape (by decide) rfl (Nat.le_of_ble_eq_true rfl) ?_
  refine at_iload_n dX11_nameOnTape_0 rfl ?_
  refine at_if_ltN (tgt := 14) dX11_nameOnTape_1 (by decide) (by omega) (fun c1 => ?_) (fun c1 => ?_)
  · exact c1.elim
  · refine at_iload_n dX11_nameOnTape_4 rfl ?_
    refine at_iconst dX11_nameOnTape_5 (v := nI 4) (by decide) ?_
    refine at_iaddN dX11_nameOnTape_6 ?_
    refine at_aload_n dX11_nameOnTape_7 rfl ?_
    refine at_get dX11_nameOnTape_8 fl_X11_40 (zl_o rfl) rfl ?_
    rw [h7]
    refine at_leN (tgt := 16) dX11_nameOnTape_11 (by decide) (by omega) (by omega) (fun c11 => ?_) (fun c11 => ?_)
    · refine at_iconst dX11_nameOnTape_16 (v := nI 0) (by decide) ?_
      refine at_istore_n dX11_nameOnTape_17 rfl (by decide) ?_
      refine at_iconst dX11_nameOnTape_18 (v := nI 0) (by decide) ?_
      refine at_istore_n dX11_nameOnTape_19 rfl (by decide) ?_
      refine at_iconst dX11_nameOnTape_20 (v := nI 0) (by decide) ?_
      refine at_istore dX11_nameOnTape_21 (by decide) ?_
      exact hl
    · omega
theorem zc_nameOnTape_0 {s : Nat} (hz : z ≤ 400) (hs4 : s < 400) (hs : z < s + 4) (h7 : κ.1 8 7 = nI z) (hp : post (some (.int (nI 0))) n (zl_h κ ρ)) : zq_Runs l G D 0 0 yX11_nameOnTape [.ref 8, .int (nI s)] n (zl_h κ ρ) post := by
  refine zq_enter (cc := cX11_nameOnTape) (nL := 6) (ret := (some .int)) cw_X11_nameOnTape (by decide) rfl (Nat.le_of_ble_eq_true rfl) ?_
  refine at_iload_n dX11_nameOnTape_0 rfl ?_
  refine at_if_ltN (tgt := 14) dX11_nameOnTape_1 (by decide) (by omega) (fun c1 => ?_) (fun c1 => ?_)
  · exact c1.elim
  · refine at_iload_n dX11_nameOnTape_4 rfl ?_
    refine at_iconst dX11_nameOnTape_5 (v := nI 4) (by decide) ?_
    refine at_iaddN dX11_nameOnTape_6 ?_
    refine at_aload_n dX11_nameOnTape_7 rfl ?_
    refine at_get dX11_nameOnTape_8 fl_X11_40 (zl_o rfl) rfl ?_
    rw [h7]
    refine at_leN (tgt := 16) dX11_nameOnTape_11 (by decide) (by omega) (by omega) (fun c11 => ?_) (fun c11 => ?_)
    · omega
    · refine at_iconst dX11_nameOnTape_14 (v := nI 0) (by decide) ?_
      refine at_iret dX11_nameOnTape_15 rfl (by omega) (by omega) ?_
      exact hp
/-- alike but for who is there -/
def zRw2 (κ' κ : zl_S) : Prop := (∀ o, o ≠ 9 → κ'.1 o = κ.1 o) ∧ (∀ a, ¬ (10 ≤ a ∧ a ≤ 13) → κ'.2.1 a = κ.2.1 a) ∧ κ'.2.2 = κ.2.2
theorem zc_row_loop (hD : 6 ≤ D) (hz : z ≤ 400) (h7 : κ.1 8 7 = nI z) (hT : zTp T (κ.2.1 47) z) (Q : (Nat → Int32) × Nat × Nat × Nat)
    (hk : ∀ κ', zRw2 κ' κ → zKW Q.1 Q.2.1 hn t Ls → zQc κ' ρ' n 9 Q.1 Q.2.1 hn t Ls → Q.2.2.1 ≤ 400 → Q.2.2.2 ≤ 400 → zq_At l G (zq_rm D 0 0) mX11_row (zq_QF G post 0 0) 78 [(0, .ref 8), (1, .int (nI Q.2.2.1)), (2, .int (nI Q.2.2.2))] [] n (zl_h κ' ρ) 0 0) :
    ∀ k s κ' (q : (Nat → Int32) × Nat × Nat × Nat) bad, s + 4 * k + z % 4 = z → bad + (if z % 4 = 0 then 0 else 1) = q.2.2.2 → q.2.2.1 + bad ≤ s → zRw2 κ' κ → zKW q.1 q.2.1 hn t Ls → zQc κ' ρ' n 9 q.1 q.2.1 hn t Ls → zrowF T k s q = Q → zq_At l G (zq_rm D 0 0) mX11_row (zq_QF G post 0 0) 20 [(0, .ref 8), (1, .int (nI q.2.2.1)), (2, .int (nI bad)), (3, .int (nI s))] [] n (zl_h κ' ρ) 0 0 := by
  intro k
  induction k with
  | zero =>
    intro s κ' q bad hs hb hc hf hK hQ hq
    have hq : q = Q := hq
    have h7' : κ'.1 8 7 = nI z := by rw [hf.1 8 (by decide)]; exact h7
    by_cases h4 : z % 4 = 0
    · rw [if_pos h4] at hb
      have he := hk κ' hf (by rw [← hq]; exact hK) (by rw [← hq]; exact hQ) (by rw [← hq]; omega) (by rw [← hq]; omega)
      rw [← hq, ← hb, Nat.add_zero] at he
      refine at_iload_n dX11_row_20 rfl ?_
      refine at_aload_n dX11_row_21 rfl ?_
      refine at_get dX11_row_22 fl_X11_40 (zl_o rfl) rfl ?_
      rw [h7']
      refine at_geN (tgt := 78) dX11_row_25 (by decide) (by omega) (by omega) (fun c25 => ?_) (fun c25 => ?_)
      · exact at_lv [0, 1, 2] he
      · omega
    · rw [if_neg h4] at hb
      have he := hk κ' hf (by rw [← hq]; exact hK) (by rw [← hq]; exact hQ) (by rw [← hq]; omega) (by rw [← hq]; omega)
      rw [← hq, ← hb] at he
      have hout : zq_At l G (zq_rm D 0 0) mX11_row (zq_QF G post 0 0) 20 [(0, .ref 8), (1, .int (nI q.2.2.1)), (2, .int (nI (bad + 1))), (3, .int (nI (s + 4)))] [] n (zl_h κ' ρ) 0 0 := by
        refine at_iload_n dX11_row_20 rfl ?_
        refine at_aload_n dX11_row_21 rfl ?_
        refine at_get dX11_row_22 fl_X11_40 (zl_o rfl) rfl ?_
        rw [h7']
        refine at_geN (tgt := 78) dX11_row_25 (by decide) (by omega) (by omega) (fun c25 => ?_) (fun c25 => ?_)
        · exact at_lv [0, 1, 2] he
        · omega
      refine at_iload_n dX11_row_20 rfl ?_
      refine at_aload_n dX11_row_21 rfl ?_
      refine at_get dX11_row_22 fl_X11_40 (zl_o rfl) rfl ?_
      rw [h7']
      refine at_geN (tgt := 78) dX11_row_25 (by decide) (by omega) (by omega) (fun c25 => ?_) (fun c25 => ?_)
      · omega
      · refine at_aload_n dX11_row_28 rfl ?_
        refine at_iload_n dX11_row_29 rfl ?_
        refine at_callV1 (d := D - 1) dX11_row_30 mv_X11_179 (zl_o rfl) (Nat.le_of_ble_eq_true rfl) (zq_r0 (by omega) (by omega) (by omega)) ?_
        refine zc_nameOnTape_0 hz (by omega) (by omega) h7' ?_
        refine at_istore dX11_row_33 (by decide) ?_
        refine at_iload dX11_row_35 rfl ?_
        refine at_callS1 (d := D - 1) dX11_row_37 ms_X11_97 (Nat.le_of_ble_eq_true rfl) (zq_r0 (by omega) (by omega) (by omega)) ?_
        refine zc_isName (by omega) ?_
        rw [show zisI (nI 0) = false by decide]
        refine at_if_eqB (tgt := 69) dX11_row_40 (by decide) (fun c40 => ?_) (fun c40 => ?_)
        · refine at_iincN dX11_row_69 rfl (by decide) ?_
          refine at_iincN dX11_row_72 rfl (by decide) ?_
          refine at_goto (tgt := 20) dX11_row_75 (by decide) ?_
          exact at_lv [0, 1, 2, 3] hout
        · cases c40
  | succ k ih =>
    intro s κ' q bad hs hb hc hf hK hQ hq
    have h7' : κ'.1 8 7 = nI z := by rw [hf.1 8 (by decide)]; exact h7
    have hT' : zTp T (κ'.2.1 47) z := by rw [hf.2.1 47 (by omega)]; exact hT
    have hm7 := hK.1.2.1
    have htl := ztold_lt T s
    unfold zrowF at hq
    by_cases hc2 : ztold T s ≠ 0 ∧ q.2.1 < 7
    · rw [if_pos hc2] at hq
      have hv := (ztold_v T s).resolve_left hc2.1
      obtain ⟨f1, f2, f3⟩ := zuA_f κ' (m := q.2.1) (nI (ztold T s))
      have hn := ih (s + 4) (zuA κ' 9 q.2.1 (nI (ztold T s))) (zadd q.1 q.2.1 (nI (ztold T s)), q.2.1 + 1, q.2.2.1 + 1, q.2.2.2) bad (by omega) hb (by show q.2.2.1 + 1 + bad ≤ s + 4; omega) ⟨fun o ho => (f1 o ho).trans (hf.1 o ho), fun a ha => (f2 a ha).trans (hf.2.1 a ha), f3.trans hf.2.2⟩ (zKW_add hK hc2.2 hv) (zQc_add hQ hc2.2 hK.2.2.2.2.2.2.2.1.2.1) hq
      refine at_iload_n dX11_row_20 rfl ?_
      refine at_aload_n dX11_row_21 rfl ?_
      refine at_get dX11_row_22 fl_X11_40 (zl_o rfl) rfl ?_
      rw [h7']
      refine at_geN (tgt := 78) dX11_row_25 (by decide) (by omega) (by omega) (fun c25 => ?_) (fun c25 => ?_)
      · omega
      · refine at_aload_n dX11_row_28 rfl ?_
        refine at_iload_n dX11_row_29 rfl ?_
        refine at_callV1 (d := D - 1) dX11_row_30 mv_X11_179 (zl_o rfl) (Nat.le_of_ble_eq_true rfl) (zq_r0 (by omega) (by omega) (by omega)) ?_
        refine zc_nameOnTape hz (by omega) h7' hT' ?_
        refine at_istore dX11_row_33 (by decide) ?_
        refine at_iload dX11_row_35 rfl ?_
        refine at_callS1 (d := D - 1) dX11_row_37 ms_X11_97 (Nat.le_of_ble_eq_true rfl) (zq_r0 (by omega) (by omega) (by omega)) ?_
        refine zc_isName (by omega) ?_
        rw [zvn_I hv]
        refine at_if_eqB (tgt := 69) dX11_row_40 (by decide) (fun c40 => ?_) (fun c40 => ?_)
        · cases c40
        · refine at_aload_n dX11_row_43 rfl ?_
          refine at_get dX11_row_44 fl_X11_12 (zl_o rfl) rfl ?_
          refine at_callV0 (d := D - 1) dX11_row_47 mv_X11_107 (zl_q zQ9) (Nat.le_of_ble_eq_true rfl) (zq_r0 (by omega) (by omega) (by omega)) ?_
          refine zc_hasRoom zQ9 hQ.1.1 hm7 ?_
          rw [decide_eq_true hc2.2]
          refine at_if_eqB (tgt := 69) dX11_row_50 (by decide) (fun c50 => ?_) (fun c50 => ?_)
          · cases c50
          · refine at_aload_n dX11_row_53 rfl ?_
            refine at_get dX11_row_54 fl_X11_12 (zl_o rfl) rfl ?_
            refine at_iload dX11_row_57 rfl ?_
            refine at_callV1 (d := D - 1) dX11_row_59 mv_X11_114 (zl_q zQ9) (Nat.le_of_ble_eq_true rfl) (zq_r0 (by omega) (by omega) (by omega)) ?_
            refine zc_add (by omega) zQ9 hQ.1.1 hc2.2 ?_
            refine at_pop dX11_row_62 rfl ?_
            refine at_iincN dX11_row_63 rfl (by decide) ?_
            refine at_goto (tgt := 72) dX11_row_66 (by decide) ?_
            refine at_iincN dX11_row_72 rfl (by decide) ?_
            refine at_goto (tgt := 20) dX11_row_75 (by decide) ?_
            exact at_lv [0, 1, 2, 3] hn
    · rw [if_neg hc2] at hq
      have hn := ih (s + 4) κ' (q.1, q.2.1, q.2.2.1, q.2.2.2 + 1) (bad + 1) (by omega) (by show bad + 1 + _ = q.2.2.2 + 1; omega) (by show q.2.2.1 + (bad + 1) ≤ s + 4; omega) hf hK hQ hq
      refine at_iload_n dX11_row_20 rfl ?_
      refine at_aload_n dX11_row_21 rfl ?_
      refine at_get dX11_row_22 fl_X11_40 (zl_o rfl) rfl ?_
      rw [h7']
      refine at_geN (tgt := 78) dX11_row_25 (by decide) (by omega) (by omega) (fun c25 => ?_) (fun c25 => ?_)
      · omega
      · refine at_aload_n dX11_row_28 rfl ?_
        refine at_iload_n dX11_row_29 rfl ?_
        refine at_callV1 (d := D - 1) dX11_row_30 mv_X11_179 (zl_o rfl) (Nat.le_of_ble_eq_true rfl) (zq_r0 (by omega) (by omega) (by omega)) ?_
        refine zc_nameOnTape hz (by omega) h7' hT' ?_
        refine at_istore dX11_row_33 (by decide) ?_
        refine at_iload dX11_row_35 rfl ?_
        refine at_callS1 (d := D - 1) dX11_row_37 ms_X11_97 (Nat.le_of_ble_eq_true rfl) (zq_r0 (by omega) (by omega) (by omega)) ?_
        refine zc_isName (by omega) ?_
        refine at_if_eqB (tgt := 69) dX11_row_40 (by decide) (fun c40 => ?_) (fun c40 => ?_)
        · refine at_iincN dX11_row_69 rfl (by decide) ?_
          refine at_iincN dX11_row_72 rfl (by decide) ?_
          refine at_goto (tgt := 20) dX11_row_75 (by decide) ?_
          exact at_lv [0, 1, 2, 3] hn
        · have hne : ztold T s ≠ 0 := fun g => by rw [g] at c40; exact absurd c40 (by decide)
          refine at_aload_n dX11_row_43 rfl ?_
          refine at_get dX11_row_44 fl_X11_12 (zl_o rfl) rfl ?_
          refine at_callV0 (d := D - 1) dX11_row_47 mv_X11_107 (zl_q zQ9) (Nat.le_of_ble_eq_true rfl) (zq_r0 (by omega) (by omega) (by omega)) ?_
          refine zc_hasRoom zQ9 hQ.1.1 hm7 ?_
          rw [decide_eq_false (fun g => hc2 ⟨hne, g⟩)]
          refine at_if_eqB (tgt := 69) dX11_row_50 (by decide) (fun c50 => ?_) (fun c50 => ?_)
          · refine at_iincN dX11_row_69 rfl (by decide) ?_
            refine at_iincN dX11_row_72 rfl (by decide) ?_
            refine at_goto (tgt := 20) dX11_row_75 (by decide) ?_
            exact at_lv [0, 1, 2, 3] hn
          · cases c50
/-- misprints, on both sides -/
theorem zIV_mis (h : zIV n κ σ ρ K m hn t z Ls Λ) (v : Int32) : zIV n (zl_si κ 8 17 v) (zm_si σ 7 v) ρ K m hn t z Ls Λ := by
  obtain ⟨⟨a1, a2, a3, a4⟩, b1, c1, d1, e1, f1, g1, i1⟩ := h
  have k1 : ∀ o, o ≠ 8 → (zl_si κ 8 17 v).1 o = κ.1 o := fun o ho => zsi2_o κ ho _ _
  have k8 : ∀ j, j ≠ 17 → (zl_si κ 8 17 v).1 8 j = κ.1 8 j := fun j hj => zsi2_k κ 8 hj _
  have s1 : ∀ k, k ≠ 7 → (zm_si σ 7 v).1 k = σ.1 k := fun k hk => zsi_o σ hk _
  refine ⟨⟨a1, a2, a3, a4⟩, b1, zQc_f c1 (k1 9 (by decide)) (fun _ _ _ => rfl) rfl, ?_, ?_, ?_, ?_, i1⟩
  · unfold zLG at d1 ⊢
    rw [k1 43 (by decide), s1 44 (by decide)]
    exact d1
  · unfold zTT at e1 ⊢
    rw [k8 7 (by decide), s1 14 (by decide)]
    exact e1
  · obtain ⟨x1, x2, x3, x4, x5⟩ := f1
    exact ⟨by rw [k8 18 (by decide), s1 0 (by decide)]; exact x1, by rw [k8 15 (by decide), s1 15 (by decide)]; exact x2, by rw [k8 16 (by decide), s1 45 (by decide)]; exact x3, by rw [show (zl_si κ 8 17 v).1 8 17 = v from zsi2_s κ 8 17 v, show (zm_si σ 7 v).1 7 = v from zsi_s σ 7 v], x5⟩
  · unfold zPP at g1 ⊢
    rw [k1 32 (by decide), s1 53 (by decide)]
    exact g1
theorem zk_row (hD : 88 ≤ D) (h : zIV n κ σ ρ K m hn t z Ls Λ) : zCase l G D 0 0 yX11_row yX12_row [] n κ σ ρ := by
  intro P1 h1
  have hm7 := h.2.1.1.2.1
  have eK := h.1.2.2.1
  have hm : σ.2.1 72 73 = nI m := by rw [eK]; exact h.2.1.1.1
  obtain ⟨t1, t2, t3, t4, t5⟩ := h.2.2.2.2.1
  have h0 := zIV_t0 h
  by_cases z0 : z = 0
  · have hp := h1 (.int (-(nI 6))) n (zl_h (zlref κ 6) (zm_h σ ρ)) (by exact ⟨rfl, _, rfl⟩) (fun P2 h2 => by
      rw [zlm]
      refine zm_row (by omega) t1 t2 hm hm7 (fun _ => ?_) (fun f => absurd f (by omega))
      have := zIV_ref (q := 6) h0 (by omega)
      rw [show zl_si κ 8 7 (nI 0) = κ from by rw [← z0, ← t3]; exact zsi2_0 κ 8 7] at this
      rw [← zlm]
      exact h2 _ _ _ _ (zfin this))
    refine zq_enter (cc := cX11_row) (nL := 5) (ret := (some .int)) cw_X11_row (by decide) rfl (Nat.le_of_ble_eq_true rfl) ?_
    refine at_aload_n dX11_row_0 rfl ?_
    refine at_get dX11_row_1 fl_X11_40 (zl_o rfl) rfl ?_
    rw [t3]
    refine at_if_neN (tgt := 14) dX11_row_4 (by decide) (by omega) (fun c4 => ?_) (fun c4 => ?_)
    · exact absurd z0 c4
    · refine at_aload_n dX11_row_7 rfl ?_
      refine at_bipush dX11_row_8 (v := -6) (by decide) ?_
      refine at_callV1 (d := D - 1) dX11_row_10 mv_X11_103 (zl_o rfl) (Nat.le_of_ble_eq_true rfl) (zq_r0 (by omega) (by omega) (by omega)) ?_
      refine zc_refuse (q := 6) (by omega) ?_
      refine at_iret dX11_row_13 rfl (by omega) (by omega) ?_
      exact hp
  · have hp : ∀ κ', zRw2 κ' κ → zKW (zrow (σ.2.1 78) z K m).1 (zrow (σ.2.1 78) z K m).2.1 hn t Ls → zQc κ' ρ n 9 (zrow (σ.2.1 78) z K m).1 (zrow (σ.2.1 78) z K m).2.1 hn t Ls → P1 (some (.int (nI (zrow (σ.2.1 78) z K m).2.2.1))) n (zl_h (zl_si (zl_si (zl_si (zl_si κ' 8 7 (nI 0)) 8 17 (nI (zrow (σ.2.1 78) z K m).2.2.2)) 43 0 (nI 0)) 8 18 (nI 0)) (zm_h σ ρ)) := fun κ' hf hKW hQ => h1 _ n _ (by exact ⟨rfl, _, rfl⟩) (fun P2 h2 => by
      rw [zlm]
      refine zm_row (by omega) t1 t2 hm hm7 (fun f => absurd f z0) (fun _ => ?_)
      rw [eK, ← zlm]
      generalize zrow (σ.2.1 78) z K m = Q at *
      have hr76 : ∀ y, 1 ≤ y → y ≤ 5 → (zm_si (zsK σ Q.1) 44 0).2.1 76 y = nI (zrkK Q.1 y) := fun y y1 y5 => by
        rw [show (zm_si (zsK σ Q.1) 44 0).2.1 76 = σ.2.1 76 from zsA_o _ (by decide) _]
        have e1 : zOrd (κ'.2.1 (9 + 6)) (zrkK Q.1) := hQ.2.2.2.2.2.2.1
        have e2 : zOrd (κ.2.1 (9 + 6)) (zrkK K) := h.2.2.1.2.2.2.2.2.2.1
        rw [hf.2.1 (9 + 6) (by omega)] at e1
        have e3 := (e1 y y5).symm.trans (e2 y y5)
        unfold zr0 at e3
        rw [if_neg (by omega), if_neg (by omega)] at e3
        rw [zIV_rk h y y1 y5]
        exact e3.symm
      have hiv := zIV_mk (κ' := zl_si κ' 43 0 (nI 0)) (τ := zm_si (zsK σ Q.1) 44 0) (Λ' := []) h hKW (zQc_f hQ (zsi2_o _ (by decide) _ _) (fun _ _ _ => rfl) rfl) (zLG_0 Q.2.1 (zsi2_s _ _ _ _) (zsi_s _ _ _)) (zsK_k _ _) hr76 ((zsi2_o _ (by decide) _ _).trans (hf.1 8 (by decide))) ((zsi2_o _ (by decide) _ _).trans (hf.1 32 (by decide))) (fun a ha => hf.2.1 a (by omega)) (congrFun (hf.2.1 57 (by omega)) 0) (congrFun hf.2.2 20) (fun k hk => zsi_o _ (by omega) _) (fun a ha => zsA_o _ (by omega) _)
      have hiv2 := zIV_acc (zIV_mis (zIV_t0 hiv) (nI Q.2.2.2))
      have eκ : zl_si (zl_si (zl_si κ' 43 0 (nI 0)) 8 7 (nI 0)) 8 17 (nI Q.2.2.2) = zl_si (zl_si (zl_si κ' 8 7 (nI 0)) 8 17 (nI Q.2.2.2)) 43 0 (nI 0) := by
        refine Prod.ext ?_ rfl
        funext o j
        by_cases o8 : o = 8
        · subst o8
          rw [zsi2_o (zl_si (zl_si κ' 8 7 (nI 0)) 8 17 (nI Q.2.2.2)) (show 8 ≠ 43 by decide)]
          by_cases j17 : j = 17
          · rw [j17, zsi2_s, zsi2_s]
          · rw [zsi2_k _ _ j17, zsi2_k _ _ j17]
            by_cases j7 : j = 7
            · rw [j7, zsi2_s, zsi2_s]
            · rw [zsi2_k _ _ j7, zsi2_k _ _ j7, zsi2_o _ (by decide)]
        · rw [zsi2_o _ o8, zsi2_o _ o8]
          by_cases o43 : o = 43
          · subst o43
            by_cases j0 : j = 0
            · rw [j0, zsi2_s, zsi2_s]
            · rw [zsi2_k _ _ j0, zsi2_k _ _ j0, zsi2_o _ o8, zsi2_o _ o8]
          · rw [zsi2_o _ o43, zsi2_o _ o43, zsi2_o _ o8, zsi2_o _ o8]
      have eσ : zm_si (zm_si (zm_si (zsK σ Q.1) 44 0) 14 0) 7 (nI Q.2.2.2) = zm_si (zm_si (zsK (zm_si σ 14 0) Q.1) 7 (nI Q.2.2.2)) 44 0 := by
        refine Prod.ext ?_ rfl
        funext k
        show upd (upd (upd σ.1 44 0) 14 0) 7 (nI Q.2.2.2) k = upd (upd (upd σ.1 14 0) 7 (nI Q.2.2.2)) 44 0 k
        unfold upd
        by_cases k7 : k = 7
        · subst k7; simp
        · by_cases k14 : k = 14
          · subst k14; simp
          · by_cases k44 : k = 44
            · subst k44; simp
            · simp [k7, k14, k44]
      rw [eκ, eσ] at hiv2
      exact h2 _ _ _ _ (zfin hiv2))
    have hl := zc_row_loop (l := l) (G := G) (D := D) (n := n) (ρ := zm_h σ ρ) (ρ' := ρ) (post := P1) (hn := hn) (t := t) (Ls := Ls) (κ := κ) (by omega) t2 t3 t4 (zrow (σ.2.1 78) z K m) (fun κ' hf hKW hQ q1 q2 => by
      have hp := hp κ' hf hKW hQ
      generalize zrow (σ.2.1 78) z K m = Q at *
      refine at_aload_n dX11_row_78 rfl ?_
      refine at_iconst dX11_row_79 (v := nI 0) (by decide) ?_
      refine at_lput dX11_row_80 (pl_X11_40 _) (fun i => ⟨_, rfl, Nat.le_of_ble_eq_true rfl, fun v => rfl⟩) rfl rfl ?_
      refine at_aload_n dX11_row_83 rfl ?_
      refine at_iload_n dX11_row_84 rfl ?_
      refine at_lput dX11_row_85 (pl_X11_91 _) (fun i => ⟨_, rfl, Nat.le_of_ble_eq_true rfl, fun v => rfl⟩) rfl rfl ?_
      refine at_aload_n dX11_row_88 rfl ?_
      refine at_get dX11_row_89 fl_X11_29 (zl_o rfl) rfl ?_
      refine at_callV0 (d := D - 1) dX11_row_92 mv_X11_111 (zl_o rfl) (Nat.le_of_ble_eq_true rfl) (zq_r0 (by omega) (by omega) (by omega)) ?_
      refine zc_logClear ?_
      refine at_aload_n dX11_row_95 rfl ?_
      refine at_iload_n dX11_row_96 rfl ?_
      refine at_callV1 (d := D - 1) dX11_row_97 mv_X11_117 (zl_o rfl) (Nat.le_of_ble_eq_true rfl) (zq_r0 (by omega) (by omega) (by omega)) ?_
      refine zc_accept ?_
      refine at_iret dX11_row_100 rfl (by omega) (by omega) ?_
      exact hp
      ) (z / 4) 0 κ (K, m, 0, if z % 4 = 0 then 0 else 1) 0 (by omega) (Nat.zero_add _) (Nat.le_refl _) ⟨fun _ _ => rfl, fun _ _ => rfl, rfl⟩ h.2.1 h.2.2.1 rfl
    refine zq_enter (cc := cX11_row) (nL := 5) (ret := (some .int)) cw_X11_row (by decide) rfl (Nat.le_of_ble_eq_true rfl) ?_
    refine at_aload_n dX11_row_0 rfl ?_
    refine at_get dX11_row_1 fl_X11_40 (zl_o rfl) rfl ?_
    rw [t3]
    refine at_if_neN (tgt := 14) dX11_row_4 (by decide) (by omega) (fun c4 => ?_) (fun c4 => ?_)
    · refine at_iconst dX11_row_14 (v := nI 0) (by decide) ?_
      refine at_istore_n dX11_row_15 rfl (by decide) ?_
      refine at_iconst dX11_row_16 (v := nI 0) (by decide) ?_
      refine at_istore_n dX11_row_17 rfl (by decide) ?_
      refine at_iconst dX11_row_18 (v := nI 0) (by decide) ?_
      refine at_istore_n dX11_row_19 rfl (by decide) ?_
      exact hl
    · exact absurd c4 z0
end ZK23

