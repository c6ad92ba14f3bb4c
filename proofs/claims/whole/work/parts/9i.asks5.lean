/-! ===== calls on both sides: alphabets ===== -/
theorem dX11_right_0 : decode cX11_right 0 = .ok (.aload_n 0, 1) := by decide +kernel
theorem dX11_right_1 : decode cX11_right 1 = .ok (.getfield 61, 3) := by decide +kernel
theorem dX11_right_4 : decode cX11_right 4 = .ok (.invokevirtual 287, 3) := by decide +kernel
theorem dX11_right_7 : decode cX11_right 7 = .ok (.iconst 0, 1) := by decide +kernel
theorem dX11_right_8 : decode cX11_right 8 = .ok (.istore_n 2, 1) := by decide +kernel
theorem dX11_right_9 : decode cX11_right 9 = .ok (.iload_n 2, 1) := by decide +kernel
theorem dX11_right_10 : decode cX11_right 10 = .ok (.iconst 1, 1) := by decide +kernel
theorem dX11_right_11 : decode cX11_right 11 = .ok (.iadd, 1) := by decide +kernel
theorem dX11_right_12 : decode cX11_right 12 = .ok (.aload_n 0, 1) := by decide +kernel
theorem dX11_right_13 : decode cX11_right 13 = .ok (.getfield 12, 3) := by decide +kernel
theorem dX11_right_16 : decode cX11_right 16 = .ok (.getfield 288, 3) := by decide +kernel
theorem dX11_right_19 : decode cX11_right 19 = .ok (.if_icmp .ge 43, 3) := by decide +kernel
theorem dX11_right_22 : decode cX11_right 22 = .ok (.aload_n 0, 1) := by decide +kernel
theorem dX11_right_23 : decode cX11_right 23 = .ok (.getfield 12, 3) := by decide +kernel
theorem dX11_right_26 : decode cX11_right 26 = .ok (.iload_n 2, 1) := by decide +kernel
theorem dX11_right_27 : decode cX11_right 27 = .ok (.invokevirtual 291, 3) := by decide +kernel
theorem dX11_right_30 : decode cX11_right 30 = .ok (.aload_n 0, 1) := by decide +kernel
theorem dX11_right_31 : decode cX11_right 31 = .ok (.getfield 12, 3) := by decide +kernel
theorem dX11_right_34 : decode cX11_right 34 = .ok (.iload_n 2, 1) := by decide +kernel
theorem dX11_right_35 : decode cX11_right 35 = .ok (.iconst 1, 1) := by decide +kernel
theorem dX11_right_36 : decode cX11_right 36 = .ok (.iadd, 1) := by decide +kernel
theorem dX11_right_37 : decode cX11_right 37 = .ok (.invokevirtual 291, 3) := by decide +kernel
theorem dX11_right_40 : decode cX11_right 40 = .ok (.invokestatic 263, 3) := by decide +kernel
theorem dX11_right_43 : decode cX11_right 43 = .ok (.istore_n 3, 1) := by decide +kernel
theorem dX11_right_44 : decode cX11_right 44 = .ok (.iload_n 3, 1) := by decide +kernel
theorem dX11_right_45 : decode cX11_right 45 = .ok (.ifCond .eq 11, 3) := by decide +kernel
theorem dX11_right_48 : decode cX11_right 48 = .ok (.aload_n 0, 1) := by decide +kernel
theorem dX11_right_49 : decode cX11_right 49 = .ok (.getfield 61, 3) := by decide +kernel
theorem dX11_right_52 : decode cX11_right 52 = .ok (.iload_n 3, 1) := by decide +kernel
theorem dX11_right_53 : decode cX11_right 53 = .ok (.invokevirtual 294, 3) := by decide +kernel
theorem dX11_right_56 : decode cX11_right 56 = .ok (.iinc 2 1, 3) := by decide +kernel
theorem dX11_right_59 : decode cX11_right 59 = .ok (.goto (-50), 3) := by decide +kernel
theorem dX11_right_62 : decode cX11_right 62 = .ok (.aload_n 0, 1) := by decide +kernel
theorem dX11_right_63 : decode cX11_right 63 = .ok (.getfield 61, 3) := by decide +kernel
theorem dX11_right_66 : decode cX11_right 66 = .ok (.iload_n 1, 1) := by decide +kernel
theorem dX11_right_67 : decode cX11_right 67 = .ok (.invokevirtual 297, 3) := by decide +kernel
theorem dX11_right_70 : decode cX11_right 70 = .ok (.ireturn, 1) := by decide +kernel
abbrev mX11_right : zq_M := (cX11_right, RX11, "right", (some .int), 4)
theorem dX11_fits_0 : decode cX11_fits 0 = .ok (.aload_n 0, 1) := by decide +kernel
theorem dX11_fits_1 : decode cX11_fits 1 = .ok (.invokevirtual 306, 3) := by decide +kernel
theorem dX11_fits_4 : decode cX11_fits 4 = .ok (.aload_n 0, 1) := by decide +kernel
theorem dX11_fits_5 : decode cX11_fits 5 = .ok (.getfield 61, 3) := by decide +kernel
theorem dX11_fits_8 : decode cX11_fits 8 = .ok (.iload_n 1, 1) := by decide +kernel
theorem dX11_fits_9 : decode cX11_fits 9 = .ok (.invokevirtual 297, 3) := by decide +kernel
theorem dX11_fits_12 : decode cX11_fits 12 = .ok (.ireturn, 1) := by decide +kernel
abbrev mX11_fits : zq_M := (cX11_fits, RX11, "fits", (some .int), 2)
theorem dX11_ask_0 : decode cX11_ask 0 = .ok (.iload_n 1, 1) := by decide +kernel
theorem dX11_ask_1 : decode cX11_ask 1 = .ok (.ifCond .eq 10, 3) := by decide +kernel
theorem dX11_ask_4 : decode cX11_ask 4 = .ok (.iload_n 1, 1) := by decide +kernel
theorem dX11_ask_5 : decode cX11_ask 5 = .ok (.iconst 1, 1) := by decide +kernel
theorem dX11_ask_6 : decode cX11_ask 6 = .ok (.if_icmp .eq 5, 3) := by decide +kernel
theorem dX11_ask_9 : decode cX11_ask 9 = .ok (.iconst (-1), 1) := by decide +kernel
theorem dX11_ask_10 : decode cX11_ask 10 = .ok (.ireturn, 1) := by decide +kernel
theorem dX11_ask_11 : decode cX11_ask 11 = .ok (.aload_n 0, 1) := by decide +kernel
theorem dX11_ask_12 : decode cX11_ask 12 = .ok (.invokevirtual 306, 3) := by decide +kernel
theorem dX11_ask_15 : decode cX11_ask 15 = .ok (.aload_n 0, 1) := by decide +kernel
theorem dX11_ask_16 : decode cX11_ask 16 = .ok (.getfield 61, 3) := by decide +kernel
theorem dX11_ask_19 : decode cX11_ask 19 = .ok (.aload_n 0, 1) := by decide +kernel
theorem dX11_ask_20 : decode cX11_ask 20 = .ok (.getfield 12, 3) := by decide +kernel
theorem dX11_ask_23 : decode cX11_ask 23 = .ok (.iload_n 1, 1) := by decide +kernel
theorem dX11_ask_24 : decode cX11_ask 24 = .ok (.invokevirtual 309, 3) := by decide +kernel
theorem dX11_ask_27 : decode cX11_ask 27 = .ok (.ireturn, 1) := by decide +kernel
abbrev mX11_ask : zq_M := (cX11_ask, RX11, "ask", (some .int), 2)
theorem dX11_demandHeard_0 : decode cX11_demandHeard 0 = .ok (.aload_n 0, 1) := by decide +kernel
theorem dX11_demandHeard_1 : decode cX11_demandHeard 1 = .ok (.getfield 61, 3) := by decide +kernel
theorem dX11_demandHeard_4 : decode cX11_demandHeard 4 = .ok (.invokevirtual 287, 3) := by decide +kernel
theorem dX11_demandHeard_7 : decode cX11_demandHeard 7 = .ok (.iconst 0, 1) := by decide +kernel
theorem dX11_demandHeard_8 : decode cX11_demandHeard 8 = .ok (.istore_n 1, 1) := by decide +kernel
theorem dX11_demandHeard_9 : decode cX11_demandHeard 9 = .ok (.iload_n 1, 1) := by decide +kernel
theorem dX11_demandHeard_10 : decode cX11_demandHeard 10 = .ok (.aload_n 0, 1) := by decide +kernel
theorem dX11_demandHeard_11 : decode cX11_demandHeard 11 = .ok (.getfield 12, 3) := by decide +kernel
theorem dX11_demandHeard_14 : decode cX11_demandHeard 14 = .ok (.getfield 300, 3) := by decide +kernel
theorem dX11_demandHeard_17 : decode cX11_demandHeard 17 = .ok (.if_icmp .ge 57, 3) := by decide +kernel
theorem dX11_demandHeard_20 : decode cX11_demandHeard 20 = .ok (.iload_n 1, 1) := by decide +kernel
theorem dX11_demandHeard_21 : decode cX11_demandHeard 21 = .ok (.bipush 8, 2) := by decide +kernel
theorem dX11_demandHeard_23 : decode cX11_demandHeard 23 = .ok (.if_icmp .ge 51, 3) := by decide +kernel
theorem dX11_demandHeard_26 : decode cX11_demandHeard 26 = .ok (.aload_n 0, 1) := by decide +kernel
theorem dX11_demandHeard_27 : decode cX11_demandHeard 27 = .ok (.getfield 61, 3) := by decide +kernel
theorem dX11_demandHeard_30 : decode cX11_demandHeard 30 = .ok (.aload_n 0, 1) := by decide +kernel
theorem dX11_demandHeard_31 : decode cX11_demandHeard 31 = .ok (.getfield 12, 3) := by decide +kernel
theorem dX11_demandHeard_34 : decode cX11_demandHeard 34 = .ok (.aload_n 0, 1) := by decide +kernel
theorem dX11_demandHeard_35 : decode cX11_demandHeard 35 = .ok (.getfield 12, 3) := by decide +kernel
theorem dX11_demandHeard_38 : decode cX11_demandHeard 38 = .ok (.getfield 390, 3) := by decide +kernel
theorem dX11_demandHeard_41 : decode cX11_demandHeard 41 = .ok (.iload_n 1, 1) := by decide +kernel
theorem dX11_demandHeard_42 : decode cX11_demandHeard 42 = .ok (.iaload, 1) := by decide +kernel
theorem dX11_demandHeard_43 : decode cX11_demandHeard 43 = .ok (.invokevirtual 393, 3) := by decide +kernel
theorem dX11_demandHeard_46 : decode cX11_demandHeard 46 = .ok (.aload_n 0, 1) := by decide +kernel
theorem dX11_demandHeard_47 : decode cX11_demandHeard 47 = .ok (.getfield 12, 3) := by decide +kernel
theorem dX11_demandHeard_50 : decode cX11_demandHeard 50 = .ok (.aload_n 0, 1) := by decide +kernel
theorem dX11_demandHeard_51 : decode cX11_demandHeard 51 = .ok (.getfield 12, 3) := by decide +kernel
theorem dX11_demandHeard_54 : decode cX11_demandHeard 54 = .ok (.getfield 396, 3) := by decide +kernel
theorem dX11_demandHeard_57 : decode cX11_demandHeard 57 = .ok (.iload_n 1, 1) := by decide +kernel
theorem dX11_demandHeard_58 : decode cX11_demandHeard 58 = .ok (.iaload, 1) := by decide +kernel
theorem dX11_demandHeard_59 : decode cX11_demandHeard 59 = .ok (.invokevirtual 393, 3) := by decide +kernel
theorem dX11_demandHeard_62 : decode cX11_demandHeard 62 = .ok (.invokestatic 263, 3) := by decide +kernel
theorem dX11_demandHeard_65 : decode cX11_demandHeard 65 = .ok (.invokevirtual 294, 3) := by decide +kernel
theorem dX11_demandHeard_68 : decode cX11_demandHeard 68 = .ok (.iinc 1 1, 3) := by decide +kernel
theorem dX11_demandHeard_71 : decode cX11_demandHeard 71 = .ok (.goto (-62), 3) := by decide +kernel
theorem dX11_demandHeard_74 : decode cX11_demandHeard 74 = .ok (.return_, 1) := by decide +kernel
abbrev mX11_demandHeard : zq_M := (cX11_demandHeard, RX11, "demandHeard", none, 2)
theorem zrtF_c {ok ok' : Nat → Bool} {val : Nat → Int32} {i : Int32} : ∀ f p c fd, (∀ q, p ≤ q → q < p + f → ok q = ok' q) → zrtF ok val i f p c fd = zrtF ok' val i f p c fd
  | 0, _, _, _, _ => rfl
  | f + 1, p, c, fd, h => by
    unfold zrtF
    rw [h p (Nat.le_refl _) (by omega), zrtF_c f (p + 1) (c + 1) _ (fun q h1 h2 => h q (by omega) (by omega)), zrtF_c f (p + 1) c fd (fun q h1 h2 => h q (by omega) (by omega))]
theorem zrtR_c {ok ok' : Nat → Bool} {i : Int32} (h : ∀ q, q < 120 → ok q = ok' q) : zrtR ok i = zrtR ok' i := by
  unfold zrtR
  rw [zrtF_c 120 0 0 (-1) (fun q _ h2 => h q (by omega))]
theorem zmA_iff {rk dm : Nat → Nat} : ∀ k i, zmA rk dm k i = true ↔ ∀ j, i ≤ j → j < i + k → zmt rk (dm j) = true
  | 0, i => ⟨fun _ j h1 h2 => absurd h2 (by omega), fun _ => rfl⟩
  | k + 1, i => by
    unfold zmA
    by_cases h : zmt rk (dm i) = true
    · rw [if_pos h, zmA_iff k (i + 1)]
      constructor
      · intro g j h1 h2
        by_cases e : j = i
        · subst e; exact h
        · exact g j (by omega) (by omega)
      · intro g j h1 h2
        exact g j (by omega) (by omega)
    · rw [if_neg h]
      constructor
      · intro g; cases g
      · intro g; exact absurd (g i (Nat.le_refl _) (by omega)) h
theorem zah_asym {rk : Nat → Nat} {a b : Nat} (hr : zri rk) (ha : zvn a) (hb : zvn b) (h : zah rk b a = true) : zah rk a b = false := by
  rw [← zmt_df hr hb ha] at h
  rw [← zmt_df hr ha hb]
  obtain ⟨s1, -⟩ := zdfF_sw (a := a) (b := b) 4 0
  have s1 : zdf b a = 10 * (zdf a b % 10) + zdf a b / 10 := s1
  obtain ⟨g1, g2⟩ := zdf_5 ha hb
  unfold zmt at h ⊢
  rw [decide_eq_true_eq, s1, show (10 * (zdf a b % 10) + zdf a b / 10) / 10 = zdf a b % 10 by omega, show (10 * (zdf a b % 10) + zdf a b / 10) % 10 = zdf a b / 10 by omega] at h
  exact decide_eq_false (by omega)
/-- of two names one is ahead, or they are alike -/
theorem zah_tot {rk : Nat → Nat} {a b : Nat} (hr : zri rk) (ha : zvn a) (hb : zvn b) : (zdf a b = 0 ∨ zmt rk (zdf a b) = true) ↔ zah rk b a = false := by
  have h := zahA_df hr ha hb
  unfold zahA at h
  rw [← zmt_df hr ha hb] at h
  by_cases h0 : zdf a b = 0
  · have hz : zmt rk 0 = false := by unfold zmt; exact decide_eq_false (Nat.lt_irrefl _)
    rw [if_pos h0, h0, hz, if_neg (by decide)] at h
    refine ⟨fun _ => ?_, fun _ => Or.inl h0⟩
    cases g : zah rk b a with
    | false => rfl
    | true => rw [g, if_pos rfl] at h; exact absurd h (by decide)
  · rw [if_neg h0] at h
    by_cases h1 : zmt rk (zdf a b) = true
    · refine ⟨fun _ => ?_, fun _ => Or.inr h1⟩
      cases g : zah rk b a with
      | false => rfl
      | true =>
        have g2 := zah_asym hr ha hb g
        rw [zmt_df hr ha hb, g2] at h1
        cases h1
    · rw [if_neg h1, if_neg h1] at h
      refine ⟨fun q => absurd q (fun q => q.elim h0 h1), fun g => ?_⟩
      rw [g, if_neg (by decide)] at h
      exact absurd h (by decide)
section ZK7
variable {l : Launch} {G : zq_G} {D n : Nat} {κ : zl_S} {σ : zm_S} {ρ : Nat → zq_E} {K : Nat → Int32} {m hn t z : Nat} {Ls : Nat → List zLC} {Λ : List Nat}
theorem zKf_d {κ' κ : zl_S} (h : zKf κ' κ) (i : Nat) (v w : Int32) : zKf (zl_si (zl_sa κ' 58 i v) 56 2 w) κ := zKf_i (o := 56) (zKf_a (a := 58) h (by decide)) (by decide)
theorem zKf_q {κ' κ : zl_S} (h : zKf κ' κ) : κ'.1 9 = κ.1 9 ∧ ∀ c, 1 ≤ c → c ≤ 9 → κ'.2.1 (9 + c) = κ.2.1 (9 + c) := ⟨h.1 9 (by omega), fun c h1 h9 => h.2.1 (9 + c) (by omega)⟩
theorem zQN_f {κ' κ : zl_S} {x w : Nat → Nat} (h : zKf κ' κ) (g : zQN κ 9 m x w) : zQN κ' 9 m x w := by
  unfold zQN at g ⊢
  rw [(zKf_q h).1, (zKf_q h).2 1 (by decide) (by decide), (zKf_q h).2 2 (by decide) (by decide)]
  exact g
theorem zDm_s {κ' : zl_S} {N d : Nat} {dm : Nat → Nat} (h : zDm κ' N dm) (hN : N < 8) (h1 : d / 10 ≤ 5) (h2 : d % 10 ≤ 5) : zDm (zl_si (zl_sa κ' 58 N (nI d)) 56 2 (nI (N + 1))) (N + 1) (fun j => if j = N then d else dm j) := by
  refine ⟨zsi2_s _ _ _ _, by omega, fun i hi => ?_⟩
  show upd (κ'.2.1 58) N (nI d) i = _ ∧ _
  by_cases e : i = N
  · subst e
    rw [upd_s]
    simp only [if_true]
    exact ⟨trivial, h1, h2⟩
  · rw [upd_o _ e]
    simp only [if_neg e]
    exact h.2.2 i (by omega)
theorem zc_right_loop {v : Int32} {x w : Nat → Nat} {P1 : Option Value → Nat → (Nat → zq_E) → Prop} (hD : 8 ≤ D) (hQ : zQN κ 9 m x w) (hv : ∀ p, p < m → zvn (x p)) (h57 : κ.2.1 57 0 = -1)
    (hp : ∀ κ', zKf κ' κ → P1 (some (.int (zrtR (fun p => zrt (zrkN (zal p)) x w m) v))) n (zl_h κ' ρ)) :
    ∀ f p κ' N dm, p + f = m → zKf κ' κ → zDm κ' N dm → N ≤ p → (∀ rk, (∀ j, j < N → zmt rk (dm j) = true) ↔ ∀ q, q < p → q + 1 < m → (zdf (x (w q)) (x (w (q + 1))) = 0 ∨ zmt rk (zdf (x (w q)) (x (w (q + 1)))) = true)) →
    zq_At l G (zq_rm D 0 0) mX11_right (zq_QF G P1 0 0) 9 [(0, .ref 8), (1, .int v), (2, .int (nI p))] [] n (zl_h κ' ρ) 0 0 := by
  have hm7 := hQ.2.1
  have hend : ∀ p κ' N dm, zKf κ' κ → zDm κ' N dm → m ≤ p + 1 → (∀ rk, (∀ j, j < N → zmt rk (dm j) = true) ↔ ∀ q, q < p → q + 1 < m → (zdf (x (w q)) (x (w (q + 1))) = 0 ∨ zmt rk (zdf (x (w q)) (x (w (q + 1)))) = true)) → zq_At l G (zq_rm D 0 0) mX11_right (zq_QF G P1 0 0) 62 [(0, .ref 8), (1, .int v)] [] n (zl_h κ' ρ) 0 0 := by
    intro p κ' N dm hf hM hpm hall
    have e : zrtR (fun p => zrt (zrkN (zal p)) x w m) v = zrtR (fun p => zmA (zrkN (zal p)) dm N 0) v := by
      refine zrtR_c (fun a ha => ?_)
      have hri : zri (zrkN (zal a)) := zrkN_inj (zal_pm ha)
      rw [Bool.eq_iff_iff, zmA_iff, show (∀ j, 0 ≤ j → j < 0 + N → zmt (zrkN (zal a)) (dm j) = true) ↔ (∀ j, j < N → zmt (zrkN (zal a)) (dm j) = true) from ⟨fun h j hj => h j (Nat.zero_le _) (by omega), fun h j _ hj => h j (by omega)⟩, hall (zrkN (zal a))]
      unfold zrt
      rw [List.all_eq_true]
      constructor
      · intro h q h1 h2
        rw [zah_tot hri (hv _ (hQ.2.2.2 q (by omega)).2) (hv _ (hQ.2.2.2 (q + 1) h2).2)]
        have := h q (List.mem_range.mpr (by omega))
        rw [Bool.not_eq_true'] at this
        exact this
      · intro h q hq
        have hq := List.mem_range.mp hq
        have := h q (by omega) (by omega)
        rw [zah_tot hri (hv _ (hQ.2.2.2 q (by omega)).2) (hv _ (hQ.2.2.2 (q + 1) (by omega)).2)] at this
        rw [Bool.not_eq_true']
        exact this
    rw [e] at hp
    refine at_aload_n dX11_right_62 rfl ?_
    refine at_get dX11_right_63 fl_X11_61 (zl_o rfl) rfl ?_
    refine at_iload_n dX11_right_66 rfl ?_
    refine at_callV1 (d := D - 1) dX11_right_67 mv_X11_297 (zl_o rfl) (Nat.le_of_ble_eq_true rfl) (zq_r0 (by omega) (by omega) (by omega)) ?_
    refine zc_found (by omega) hM (by rw [hf.2.2.1]; exact h57) (fun g g0 => ?_)
    have hp := hp _ (zKf_7 (g := g) hf (by rw [g0, h57]))
    refine at_iret dX11_right_70 rfl (by omega) (by omega) ?_
    exact hp
  intro f
  induction f with
  | zero =>
    intro p κ' N dm hpf hf hM hN hall
    have hpf : p = m := hpf
    have he := hend p κ' N dm hf hM (by omega) hall
    refine at_iload_n dX11_right_9 rfl ?_
    refine at_iconst dX11_right_10 (v := nI 1) (by decide) ?_
    refine at_iaddN dX11_right_11 ?_
    refine at_aload_n dX11_right_12 rfl ?_
    refine at_get dX11_right_13 fl_X11_12 (zl_o rfl) rfl ?_
    refine at_get dX11_right_16 fl_X11_288 (zl_q zQ9) rfl ?_
    rw [show κ'.1 9 0 = nI m by rw [(zKf_q hf).1]; exact hQ.1]
    refine at_geN (tgt := 62) dX11_right_19 (by decide) (by omega) (by omega) (fun c19 => ?_) (fun c19 => ?_)
    · exact at_lv [0, 1] he
    · omega
  | succ f ih =>
    intro p κ' N dm hpf hf hM hN hall
    have he := fun hh => hend p κ' N dm hf hM hh hall
    have hQ' := zQN_f hf hQ
    by_cases hlast : m ≤ p + 1
    · have he := he hlast
      refine at_iload_n dX11_right_9 rfl ?_
      refine at_iconst dX11_right_10 (v := nI 1) (by decide) ?_
      refine at_iaddN dX11_right_11 ?_
      refine at_aload_n dX11_right_12 rfl ?_
      refine at_get dX11_right_13 fl_X11_12 (zl_o rfl) rfl ?_
      refine at_get dX11_right_16 fl_X11_288 (zl_q zQ9) rfl ?_
      rw [show κ'.1 9 0 = nI m by rw [(zKf_q hf).1]; exact hQ.1]
      refine at_geN (tgt := 62) dX11_right_19 (by decide) (by omega) (by omega) (fun c19 => ?_) (fun c19 => ?_)
      · exact at_lv [0, 1] he
      · omega
    · have va := hv _ (hQ.2.2.2 p (by omega)).2
      have vb := hv _ (hQ.2.2.2 (p + 1) (by omega)).2
      have va5 := va.2.1
      have vb5 := vb.2.1
      have hdl : zdf (x (w p)) (x (w (p + 1))) < 100 := zdfF_lt _ _ 4 0
      refine at_iload_n dX11_right_9 rfl ?_
      refine at_iconst dX11_right_10 (v := nI 1) (by decide) ?_
      refine at_iaddN dX11_right_11 ?_
      refine at_aload_n dX11_right_12 rfl ?_
      refine at_get dX11_right_13 fl_X11_12 (zl_o rfl) rfl ?_
      refine at_get dX11_right_16 fl_X11_288 (zl_q zQ9) rfl ?_
      rw [show κ'.1 9 0 = nI m by rw [(zKf_q hf).1]; exact hQ.1]
      refine at_geN (tgt := 62) dX11_right_19 (by decide) (by omega) (by omega) (fun c19 => ?_) (fun c19 => ?_)
      · omega
      · refine at_aload_n dX11_right_22 rfl ?_
        refine at_get dX11_right_23 fl_X11_12 (zl_o rfl) rfl ?_
        refine at_iload_n dX11_right_26 rfl ?_
        refine at_callV1 (d := D - 1) dX11_right_27 mv_X11_291 (zl_q zQ9) (Nat.le_of_ble_eq_true rfl) (zq_r0 (by omega) (by omega) (by omega)) ?_
        refine zc_nameAt (by omega) zQ9 hQ' (by omega) ?_
        refine at_aload_n dX11_right_30 rfl ?_
        refine at_get dX11_right_31 fl_X11_12 (zl_o rfl) rfl ?_
        refine at_iload_n dX11_right_34 rfl ?_
        refine at_iconst dX11_right_35 (v := nI 1) (by decide) ?_
        refine at_iaddN dX11_right_36 ?_
        refine at_callV1 (d := D - 1) dX11_right_37 mv_X11_291 (zl_q zQ9) (Nat.le_of_ble_eq_true rfl) (zq_r0 (by omega) (by omega) (by omega)) ?_
        refine zc_nameAt (by omega) zQ9 hQ' (by omega) ?_
        refine at_callS2 (d := D - 1) dX11_right_40 ms_X11_263 (Nat.le_of_ble_eq_true rfl) (zq_r0 (by omega) (by omega) (by omega)) ?_
        refine zc_differ (by omega) va.1 (by omega) vb.1 (by omega) ?_
        refine at_istore_n dX11_right_43 rfl (by decide) ?_
        refine at_iload_n dX11_right_44 rfl ?_
        refine at_if_eqN (tgt := 56) dX11_right_45 (by decide) (by omega) (fun c45 => ?_) (fun c45 => ?_)
        · have hn := ih (p + 1) κ' N dm (by omega) hf hM (by omega) (fun rk => by
            rw [hall rk]
            constructor
            · intro h q h1 h2
              by_cases e : q = p
              · subst e; exact Or.inl c45
              · exact h q (by omega) h2
            · intro h q h1 h2
              exact h q (by omega) h2)
          refine at_iincN dX11_right_56 rfl (by decide) ?_
          refine at_goto (tgt := 9) dX11_right_59 (by decide) ?_
          exact at_lv [0, 1, 2] hn
        · have hn := ih (p + 1) _ (N + 1) _ (by omega) (zKf_d hf N _ _) (zDm_s hM (by omega) (zdf_5 va vb).1 (zdf_5 va vb).2) (by omega) (fun rk => by
            constructor
            · intro h q h1 h2
              by_cases e : q = p
              · subst e
                have := h N (by omega)
                simp only [if_true] at this
                exact Or.inr this
              · refine (hall rk).mp (fun j hj => ?_) q (by omega) h2
                have := h j (by omega)
                simp only [if_neg (show j ≠ N by omega)] at this
                exact this
            · intro h j hj
              by_cases e : j = N
              · subst e
                simp only [if_true]
                exact (h p (by omega) (by omega)).resolve_left c45
              · simp only [if_neg e]
                exact (hall rk).mpr (fun q h1 h2 => h q (by omega) h2) j (by omega))
          refine at_aload_n dX11_right_48 rfl ?_
          refine at_get dX11_right_49 fl_X11_61 (zl_o rfl) rfl ?_
          refine at_iload_n dX11_right_52 rfl ?_
          refine at_callV1 (d := D - 1) dX11_right_53 mv_X11_294 (zl_o rfl) (Nat.le_of_ble_eq_true rfl) (zq_r0 (by omega) (by omega) (by omega)) ?_
          refine zc_demand hM.1 (by omega) ?_
          refine at_iincN dX11_right_56 rfl (by decide) ?_
          refine at_goto (tgt := 9) dX11_right_59 (by decide) ?_
          exact at_lv [0, 1, 2] hn
theorem zMf_a2 (σ : zm_S) (g h : Nat → Int32) : zMf (zsA (zsA σ 84 g) 76 h) σ := ⟨fun _ _ => rfl, fun a ha => by rw [zsA_o _ (by omega), zsA_o _ (by omega)]⟩
theorem zk_right {v : Int32} (hD : 88 ≤ D) (h : zIV n κ σ ρ K m hn t z Ls Λ) : zCase l G D 0 0 yX11_right yX12_right [.int v] n κ σ ρ := by
  intro P1 h1
  have hm7 := h.2.1.1.2.1
  have hN := zQc_N h.2.2.1 h.2.1
  have hp : ∀ κ', zKf κ' κ → P1 (some (.int (zrtR (fun p => zrt (zrkN (zal p)) (zX1 K) (zW1 K) m) v))) n (zl_h κ' (zm_h σ ρ)) := fun κ' hf => h1 _ n (zl_h κ' (zm_h σ ρ)) (by exact ⟨rfl, _, rfl⟩) (fun P2 h2 => by
    rw [zlm]
    refine zm_right (by omega) (zIV_C h) (zIV_al h).1 (zIV_al h).2 (fun _ _ _ => rfl) (fun g hh hr => ?_)
    rw [← zlm]
    refine h2 _ _ _ _ (zfin (zIV_g (zIV_f h hf) (zMf_a2 σ g hh) (fun y y1 y5 => ?_)))
    rw [zsA_s]
    exact hr y y1 y5)
  have hl := zc_right_loop (l := l) (G := G) (D := D) (n := n) (ρ := zm_h σ ρ) (P1 := P1) (by omega) hN (fun p hp => (hN.2.2.1 p hp).2) h.1.2.1 hp m 0 (zl_si κ 56 2 (nI 0)) 0 (fun _ => 0) (Nat.zero_add _) (zKf_i (o := 56) (zKf_r κ) (by decide)) ⟨zsi2_s _ _ _ _, by omega, fun i hi => absurd hi (Nat.not_lt_zero _)⟩ (Nat.le_refl _) (fun rk => ⟨fun _ q hq => absurd hq (Nat.not_lt_zero _), fun _ j hj => absurd hj (Nat.not_lt_zero _)⟩)
  refine zq_enter (cc := cX11_right) (nL := 4) (ret := (some .int)) cw_X11_right (by decide) rfl (Nat.le_of_ble_eq_true rfl) ?_
  refine at_aload_n dX11_right_0 rfl ?_
  refine at_get dX11_right_1 fl_X11_61 (zl_o rfl) rfl ?_
  refine at_callV0 (d := D - 1) dX11_right_4 mv_X11_287 (zl_o rfl) (Nat.le_of_ble_eq_true rfl) (zq_r0 (by omega) (by omega) (by omega)) ?_
  refine zc_aClear ?_
  refine at_iconst dX11_right_7 (v := nI 0) (by decide) ?_
  refine at_istore_n dX11_right_8 rfl (by decide) ?_
  exact hl
end ZK7

