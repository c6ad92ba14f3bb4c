/-! ===== calls on both sides: laws ===== -/
theorem dX11_law_0 : decode cX11_law 0 = .ok (.aload_n 0, 1) := by decide +kernel
theorem dX11_law_1 : decode cX11_law 1 = .ok (.getfield 40, 3) := by decide +kernel
theorem dX11_law_4 : decode cX11_law 4 = .ok (.istore_n 1, 1) := by decide +kernel
theorem dX11_law_5 : decode cX11_law 5 = .ok (.aload_n 0, 1) := by decide +kernel
theorem dX11_law_6 : decode cX11_law 6 = .ok (.iconst 0, 1) := by decide +kernel
theorem dX11_law_7 : decode cX11_law 7 = .ok (.putfield 40, 3) := by decide +kernel
theorem dX11_law_10 : decode cX11_law 10 = .ok (.aload_n 0, 1) := by decide +kernel
theorem dX11_law_11 : decode cX11_law 11 = .ok (.getfield 12, 3) := by decide +kernel
theorem dX11_law_14 : decode cX11_law 14 = .ok (.getfield 182, 3) := by decide +kernel
theorem dX11_law_17 : decode cX11_law 17 = .ok (.bipush 6, 2) := by decide +kernel
theorem dX11_law_19 : decode cX11_law 19 = .ok (.if_icmp .lt 10, 3) := by decide +kernel
theorem dX11_law_22 : decode cX11_law 22 = .ok (.aload_n 0, 1) := by decide +kernel
theorem dX11_law_23 : decode cX11_law 23 = .ok (.bipush (-5), 2) := by decide +kernel
theorem dX11_law_25 : decode cX11_law 25 = .ok (.invokevirtual 103, 3) := by decide +kernel
theorem dX11_law_28 : decode cX11_law 28 = .ok (.ireturn, 1) := by decide +kernel
theorem dX11_law_29 : decode cX11_law 29 = .ok (.aload_n 0, 1) := by decide +kernel
theorem dX11_law_30 : decode cX11_law 30 = .ok (.getfield 47, 3) := by decide +kernel
theorem dX11_law_33 : decode cX11_law 33 = .ok (.aload_n 0, 1) := by decide +kernel
theorem dX11_law_34 : decode cX11_law 34 = .ok (.getfield 36, 3) := by decide +kernel
theorem dX11_law_37 : decode cX11_law 37 = .ok (.iload_n 1, 1) := by decide +kernel
theorem dX11_law_38 : decode cX11_law 38 = .ok (.iconst 0, 1) := by decide +kernel
theorem dX11_law_39 : decode cX11_law 39 = .ok (.invokevirtual 185, 3) := by decide +kernel
theorem dX11_law_42 : decode cX11_law 42 = .ok (.astore_n 2, 1) := by decide +kernel
theorem dX11_law_43 : decode cX11_law 43 = .ok (.aload_n 0, 1) := by decide +kernel
theorem dX11_law_44 : decode cX11_law 44 = .ok (.aload_n 0, 1) := by decide +kernel
theorem dX11_law_45 : decode cX11_law 45 = .ok (.getfield 47, 3) := by decide +kernel
theorem dX11_law_48 : decode cX11_law 48 = .ok (.invokevirtual 189, 3) := by decide +kernel
theorem dX11_law_51 : decode cX11_law 51 = .ok (.putfield 85, 3) := by decide +kernel
theorem dX11_law_54 : decode cX11_law 54 = .ok (.aload_n 2, 1) := by decide +kernel
theorem dX11_law_55 : decode cX11_law 55 = .ok (.ifnonnull 10, 3) := by decide +kernel
theorem dX11_law_58 : decode cX11_law 58 = .ok (.aload_n 0, 1) := by decide +kernel
theorem dX11_law_59 : decode cX11_law 59 = .ok (.bipush (-6), 2) := by decide +kernel
theorem dX11_law_61 : decode cX11_law 61 = .ok (.invokevirtual 103, 3) := by decide +kernel
theorem dX11_law_64 : decode cX11_law 64 = .ok (.ireturn, 1) := by decide +kernel
theorem dX11_law_65 : decode cX11_law 65 = .ok (.aload_n 0, 1) := by decide +kernel
theorem dX11_law_66 : decode cX11_law 66 = .ok (.aload_n 0, 1) := by decide +kernel
theorem dX11_law_67 : decode cX11_law 67 = .ok (.getfield 12, 3) := by decide +kernel
theorem dX11_law_70 : decode cX11_law 70 = .ok (.aload_n 2, 1) := by decide +kernel
theorem dX11_law_71 : decode cX11_law 71 = .ok (.invokevirtual 192, 3) := by decide +kernel
theorem dX11_law_74 : decode cX11_law 74 = .ok (.invokevirtual 117, 3) := by decide +kernel
theorem dX11_law_77 : decode cX11_law 77 = .ok (.ireturn, 1) := by decide +kernel
abbrev mX11_law : zq_M := (cX11_law, RX11, "law", (some .int), 3)
theorem dX8_faultPlace_0 : decode cX8_faultPlace 0 = .ok (.aload_n 0, 1) := by decide +kernel
theorem dX8_faultPlace_1 : decode cX8_faultPlace 1 = .ok (.getfield 34, 3) := by decide +kernel
theorem dX8_faultPlace_4 : decode cX8_faultPlace 4 = .ok (.ireturn, 1) := by decide +kernel
abbrev mX8_faultPlace : zq_M := (cX8_faultPlace, RX8, "faultPlace", (some .int), 1)
theorem zm_in (σ : zm_S) (ρ ρ' : Nat → zq_E) {k : Nat} (h1 : 70 ≤ k) (h2 : k < 98) : zm_h σ ρ k = zm_h σ ρ' k := by
  unfold zm_h
  by_cases e1 : k = 70
  · rw [if_pos e1, if_pos e1]
  · rw [if_neg e1, if_neg e1]
    by_cases e2 : k = 93
    · rw [if_pos e2, if_pos e2]
    · rw [if_neg e2, if_neg e2]
      by_cases e3 : k = 96
      · rw [if_pos e3, if_pos e3]
      · rw [if_neg e3, if_neg e3, if_pos (by omega), if_pos (by omega)]
theorem zm_hs {σ : zm_S} {ρ ρ' : Nat → zq_E} {n : Nat} (hn : 90 ≤ n) (h : ∀ k, k < n + 8 → ρ' k = zm_h σ ρ k) : zm_h σ ρ' = ρ' := by
  funext k
  by_cases e : 70 ≤ k ∧ k < 98
  · rw [h k (by omega)]; exact zm_in σ ρ' ρ e.1 e.2
  · exact zm_hx _ _ (by omega)
theorem zlr1_s (κ : zl_S) (a i : Nat) (v : Option Nat) : (zl_sr κ a i v).2.2 a = va_up (κ.2.2 a) i v := va_up_self _ _ _
theorem zlr1_o (κ : zl_S) {a c : Nat} (h : c ≠ a) (i : Nat) (v : Option Nat) : (zl_sr κ a i v).2.2 c = κ.2.2 c := va_up_ne _ _ h
section ZK18
variable {l : Launch} {G : zq_G} {D n n' b : Nat} {κ κ' : zl_S} {σ τ : zm_S} {ρ ρ' : Nat → zq_E} {K K' : Nat → Int32} {m hn t z : Nat} {Ls : Nat → List zLC} {Λ Λ' : List Nat} {Lo : Option (List zLC)} {post : Option Value → Nat → (Nat → zq_E) → Prop}
theorem zLx_n {tx : Nat} {L : List zLC} (h : zLx ρ n tx L) (hn : n ≤ n') (hr : ∀ k, 98 ≤ k → k < n + 8 → ρ' k = ρ k) : zLx ρ' n' tx L := fun ρ2 h2 => h ρ2 (fun k h1 h3 h4 => (h2 k h1 (by omega) (fun ⟨B, fs, b1, b2, b3, b4⟩ => h4 ⟨B, fs, b1, b2, b3, (hr B b1 (by omega)).symm.trans b4⟩)).trans (hr k h1 h3))
theorem zQR_n {i : Nat → Int32} {A : Nat → Nat → Int32} {T : Nat → Option Nat} (h : zQR ρ n i A T K m hn t Ls) (hn' : n ≤ n') (hr : ∀ k, 98 ≤ k → k < n + 8 → ρ' k = ρ k) : zQR ρ' n' i A T K m hn t Ls := by
  obtain ⟨a0, a1, a2, a3, a4, a5, a6, a7, a8, a9, a10⟩ := h
  refine ⟨a0, a1, a2, a3, a4, a5, a6, a7, a8, fun u hu => ?_, fun u hu => ?_⟩
  · obtain ⟨tx, e1, e2⟩ := a9 u hu
    exact ⟨tx, e1, zLx_n e2 hn' hr⟩
  · rcases a10 u hu with e | ⟨tx, fs, e1, e2, e3, e4⟩
    · exact Or.inl e
    · exact Or.inr ⟨tx, fs, e1, e2, by omega, (hr tx e2 e3).trans e4⟩
theorem zI1_n (h : zI1 κ σ ρ n b) (hn' : n ≤ n') (hr : ∀ k, 98 ≤ k → k < n + 8 → ρ' k = ρ k) : zI1 κ σ ρ' n' b := by
  rcases h with h | ⟨h0, B, i, A, T, m1, hn1, t1, Ls1, K1, g1, g2, g3, ⟨u1, u2, u3⟩, g5, g6, g7⟩
  · exact Or.inl h
  · refine Or.inr ⟨h0, B, i, A, T, m1, hn1, t1, Ls1, K1, g1, g2, by omega, ⟨(hr B g2 (by omega)).trans u1, fun c c1 c9 => (hr (B + c) (by omega) (by omega)).trans (u2 c c1 c9), (hr (B + 10) (by omega) (by omega)).trans u3⟩, g5, g6, zQR_n g7 hn' hr⟩
/-- more cells -/
theorem zIV_n (h : zIV n κ σ ρ K m hn t z Ls Λ) (hn' : n ≤ n') (hr : ∀ k, 98 ≤ k → k < n + 8 → ρ' k = ρ k) (hno : ∀ k fs, n + 8 ≤ k → k < n' + 8 → ρ' k ≠ .inr (7, fs)) : zIV n' κ σ ρ' K m hn t z Ls Λ := by
  obtain ⟨⟨a1, a2⟩, b1, c1, d1, e1, f1, g1, i1, i2, i3, i4⟩ := h
  refine ⟨⟨by omega, a2⟩, b1, zQR_n c1 hn' hr, d1, e1, f1, g1, zI1_n i1 hn' hr, zI1_n i2 hn' hr, i3, fun B fs b1 b2 b3 => ?_⟩
  rcases Nat.lt_or_ge B (n + 8) with g | g
  · have := i4 B fs b1 g ((hr B b1 g).symm.trans b3)
    omega
  · exact absurd b3 (hno B fs g b2)
theorem zKf_g (h : zRg κ' κ) : zKf κ' κ := ⟨fun o ho => h.1 o (by omega), fun a ha => h.2.1 a (by omega) (by omega) (by omega), congrFun (h.2.1 57 (by decide) (by decide) (by decide)) 0, by rw [h.2.2], by rw [h.2.2]⟩
/-- where a text is at fault -/
theorem zIV_fault (h : zIV n κ σ ρ K m hn t z Ls Λ) (v : Int32) : zIV n (zl_si κ 8 15 v) (zm_si σ 15 v) ρ K m hn t z Ls Λ := by
  obtain ⟨⟨a1, a2, a3, a4⟩, b1, c1, d1, e1, f1, g1, i1⟩ := h
  have k1 : ∀ o, o ≠ 8 → (zl_si κ 8 15 v).1 o = κ.1 o := fun o ho => zsi2_o κ ho _ _
  have k8 : ∀ j, j ≠ 15 → (zl_si κ 8 15 v).1 8 j = κ.1 8 j := fun j hj => zsi2_k κ 8 hj _
  have s1 : ∀ k, k ≠ 15 → (zm_si σ 15 v).1 k = σ.1 k := fun k hk => zsi_o σ hk _
  refine ⟨⟨a1, a2, a3, a4⟩, b1, zQc_f c1 (k1 9 (by decide)) (fun _ _ _ => rfl) rfl, ?_, ?_, ?_, ?_, i1⟩
  · unfold zLG at d1 ⊢
    rw [k1 43 (by decide), s1 44 (by decide)]
    exact d1
  · unfold zTT at e1 ⊢
    rw [k8 7 (by decide), s1 14 (by decide)]
    exact e1
  · obtain ⟨x1, x2, x3, x4, x5⟩ := f1
    exact ⟨by rw [k8 18 (by decide), s1 0 (by decide)]; exact x1, by rw [show (zl_si κ 8 15 v).1 8 15 = v from zsi2_s κ 8 15 v, show (zm_si σ 15 v).1 15 = v from zsi_s σ 15 v], by rw [k8 16 (by decide), s1 45 (by decide)]; exact x3, by rw [k8 17 (by decide), s1 7 (by decide)]; exact x4, x5⟩
  · unfold zPP at g1 ⊢
    rw [k1 32 (by decide), s1 53 (by decide)]
    exact g1
theorem zIV_t0 (h : zIV n κ σ ρ K m hn t z Ls Λ) : zIV n (zl_si κ 8 7 (nI 0)) (zm_si σ 14 0) ρ K m hn t 0 Ls Λ := by
  have hiv := zIV_tp (U := κ.2.1 47) (T := σ.2.1 78) (F := σ.2.1 79) h (show 0 ≤ 400 by omega) (fun j hj => absurd hj (Nat.not_lt_zero _))
  rw [zlA_0, zsA_0, zsA_0] at hiv
  exact hiv
theorem zc_faultPlace (hp : post (some (.int (κ.1 48 7))) n (zl_h κ ρ)) : zq_Runs l G D 0 0 yX8_faultPlace [.ref 48] n (zl_h κ ρ) post := by
  refine zq_enter (cc := cX8_faultPlace) (nL := 1) (ret := (some .int)) cw_X8_faultPlace (by decide) rfl (Nat.le_of_ble_eq_true rfl) ?_
  refine at_aload_n dX8_faultPlace_0 rfl ?_
  refine at_get dX8_faultPlace_1 fl_X8_34 (zl_o rfl) rfl ?_
  refine at_iret dX8_faultPlace_4 rfl (by omega) (by omega) ?_
  exact hp
/-- a law is laid down -/
theorem zKW_law {C V : Nat → Nat} {N : Nat} {L : List zLC} (g : zKW K m hn t Ls) (ht : t < 6) (hN : N ≤ 400) (hC : ∀ k, N ≤ k → C k = 0) (hC2 : ∀ k, C k < 1000) (hL : zSpCs C V N L 0) : zKW (upd (zlaid K (fun j => nI (C j)) (fun j => nI (V j)) t N) 75 (nI (t + 1))) m hn (t + 1) (fun u => if u = t then L else Ls u) ∧ ∀ j, j < 75 → upd (zlaid K (fun j => nI (C j)) (fun j => nI (V j)) t N) 75 (nI (t + 1)) j = K j := by
  have hat : ∀ j, zlaid K (fun j => nI (C j)) (fun j => nI (V j)) t N j = if 84 + 400 * t ≤ j ∧ j < 84 + 400 * t + N then nI (C (j - (84 + 400 * t))) else if 2884 + 400 * t ≤ j ∧ j < 2884 + 400 * t + N then nI (V (j - (2884 + 400 * t))) else if j = 77 + t then nI N else K j := fun j => by
    unfold zlaid
    rw [zlay_at _ _ _ (by omega) N j hN]
    by_cases e1 : 84 + 400 * t ≤ j ∧ j < 84 + 400 * t + N
    · rw [if_pos e1, if_pos e1]
    · rw [if_neg e1, if_neg e1]
      by_cases e2 : 2884 + 400 * t ≤ j ∧ j < 2884 + 400 * t + N
      · rw [if_pos e2, if_pos e2]
      · rw [if_neg e2, if_neg e2]
        by_cases e3 : j = 77 + t
        · rw [if_pos e3, e3, upd_s]
        · rw [if_neg e3, upd_o _ e3]
  have lo : ∀ j, j < 77 → j ≠ 75 → upd (zlaid K (fun j => nI (C j)) (fun j => nI (V j)) t N) 75 (nI (t + 1)) j = K j := fun j hj h5 => by
    rw [upd_o _ h5, hat, if_neg (by omega), if_neg (by omega), if_neg (by omega)]
  obtain ⟨g4, g5, g6, g7⟩ := g.2.2.2.2.2.2.2.2
  refine ⟨?_, fun j hj => lo j (by omega) (by omega)⟩
  generalize hK' : upd (zlaid K (fun j => nI (C j)) (fun j => nI (V j)) t N) 75 (nI (t + 1)) = K' at lo ⊢
  refine zKW_g g (fun j hj => lo j (by omega) (by omega)) (lo 73 (by decide) (by decide)) ?_ ?_ ?_ (zKW_sd g (fun j j1 j2 => lo j (by omega) (by omega))) (zKW_hh g (fun j j1 j2 => lo j (by omega) (by omega)) (lo 74 (by decide) (by decide))) ⟨?_, by omega, ?_, fun u hu => ?_⟩
  · rw [lo 19 (by decide) (by decide)]; exact g.2.2.2.1
  · rw [lo 71 (by decide) (by decide)]; exact g.2.2.2.2.1
  · rw [lo 72 (by decide) (by decide)]; exact g.2.2.2.2.2.1
  · rw [← hK', upd_s]
  · rw [lo 76 (by decide) (by decide)]
    rcases g6 with e | ⟨u, hu, e⟩
    · exact Or.inl e
    · exact Or.inr ⟨u, by omega, e⟩
  · by_cases e : u = t
    · subst e
      simp only [if_true]
      refine ⟨N, C, V, hN, ?_, hC, hC2, fun k hk => ⟨?_, ?_⟩, hL⟩
      · rw [← hK', upd_o _ (by omega), hat, if_neg (by omega), if_neg (by omega), if_pos rfl]
      · rw [← hK', upd_o _ (by omega), hat, if_pos (by omega), show 84 + (400 * u + k) - (84 + 400 * u) = k by omega]
      · rw [← hK', upd_o _ (by omega), hat, if_neg (by omega), if_pos (by omega), show 2884 + (400 * u + k) - (2884 + 400 * u) = k by omega]
    · simp only [if_neg e]
      obtain ⟨E, cd, vl, q1, q2, q3, q4, q5, q6⟩ := g7 u (by omega)
      refine ⟨E, cd, vl, q1, ?_, q3, q4, fun k hk => ⟨?_, ?_⟩, q6⟩
      · rw [← hK', upd_o _ (by omega), hat, if_neg (by omega), if_neg (by omega), if_neg (by omega)]; exact q2
      · rw [← hK', upd_o _ (by omega), hat, if_neg (by omega), if_neg (by omega), if_neg (by omega)]; exact (q5 k hk).1
      · rw [← hK', upd_o _ (by omega), hat, if_neg (by omega), if_neg (by omega), if_neg (by omega)]; exact (q5 k hk).2
theorem zk_law (hD : 88 ≤ D) (h : zIV n κ σ ρ K m hn t z Ls Λ) : zCase l G D 15 887 yX11_law yX12_law [] n κ σ ρ := by
  intro P1 h1
  have hm7 := h.2.1.1.2.1
  have eK := h.1.2.2.1
  have n90 := h.1.1
  obtain ⟨t1, t2, t3, t4, t5⟩ := h.2.2.2.2.1
  obtain ⟨l1, l2, l3, l4⟩ := h.2.1.2.2.2.2.2.2.2.2
  have hlt : σ.2.1 72 75 = nI t := by rw [eK]; exact l1
  have h0 := zIV_t0 h
  by_cases e6 : t = 6
  · have hp := h1 (.int (-(nI 5))) n (zl_h (zlref (zl_si κ 8 7 (nI 0)) 5) (zm_h σ ρ)) (by exact ⟨rfl, _, rfl⟩) (fun P2 h2 => by
      rw [zlm]
      refine zm_law (by omega) t5 t1 t2 hlt l2 (fun _ => ?_) (fun τ f => absurd f (by omega)) (fun τ f => absurd f (by omega))
      rw [← zlm]
      exact h2 _ _ _ _ (zfin (zIV_ref h0 (by omega))))
    refine zq_enter (cc := cX11_law) (nL := 3) (ret := (some .int)) cw_X11_law (by decide) rfl (Nat.le_of_ble_eq_true rfl) ?_
    refine at_aload_n dX11_law_0 rfl ?_
    skip
    refine at_get dX11_law_1 fl_X11_40 (zl_o rfl) rfl ?_
    refine at_istore_n dX11_law_4 rfl (by decide) ?_
    refine at_aload_n dX11_law_5 rfl ?_
    refine at_iconst dX11_law_6 (v := nI 0) (by decide) ?_
    refine at_lput dX11_law_7 (pl_X11_40 _) (fun i => ⟨_, rfl, Nat.le_of_ble_eq_true rfl, fun v => rfl⟩) rfl rfl ?_
    refine at_aload_n dX11_law_10 rfl ?_
    refine at_get dX11_law_11 fl_X11_12 (zl_o rfl) rfl ?_
    refine at_get dX11_law_14 fl_X11_182 (zl_q zQ9) rfl ?_
    rw [show (zl_si κ 8 7 (nI 0)).1 9 11 = nI t from h.2.2.1.1.2.2.1]
    refine at_bipush dX11_law_17 (v := nI 6) (by decide) ?_
    refine at_ltN (tgt := 29) dX11_law_19 (by decide) (by omega) (by omega) (fun c19 => ?_) (fun c19 => ?_)
    · omega
    · refine at_aload_n dX11_law_22 rfl ?_
      refine at_bipush dX11_law_23 (v := -5) (by decide) ?_
      refine at_callV1 (d := D - 1) dX11_law_25 mv_X11_103 (zl_o rfl) (Nat.le_of_ble_eq_true rfl) (zq_r0 (by omega) (by omega) (by omega)) ?_
      refine zc_refuse (q := 5) (by omega) ?_
      refine at_iret dX11_law_28 rfl (by omega) (by omega) ?_
      exact hp
  · have eRd := zTp_Rd t4 false
    have eC := zTp_c t4
    have eV := zTp_v t4
    have eN := zTp_tok t4
    have hlen : (zTok (κ.2.1 47) z).length ≤ z := ztok_len _ _ 401 0 (Nat.zero_le _)
    refine zq_enter (cc := cX11_law) (nL := 3) (ret := (some .int)) cw_X11_law (by decide) rfl (Nat.le_of_ble_eq_true rfl) ?_
    refine at_aload_n dX11_law_0 rfl ?_
    refine at_get dX11_law_1 fl_X11_40 (zl_o rfl) rfl ?_
    rw [t3]
    refine at_istore_n dX11_law_4 rfl (by decide) ?_
    refine at_aload_n dX11_law_5 rfl ?_
    refine at_iconst dX11_law_6 (v := nI 0) (by decide) ?_
    refine at_lput dX11_law_7 (pl_X11_40 _) (fun i => ⟨_, rfl, Nat.le_of_ble_eq_true rfl, fun v => rfl⟩) rfl rfl ?_
    refine at_aload_n dX11_law_10 rfl ?_
    refine at_get dX11_law_11 fl_X11_12 (zl_o rfl) rfl ?_
    refine at_get dX11_law_14 fl_X11_182 (zl_q zQ9) rfl ?_
    rw [show (zl_si κ 8 7 (nI 0)).1 9 11 = nI t from h.2.2.1.1.2.2.1]
    refine at_bipush dX11_law_17 (v := nI 6) (by decide) ?_
    refine at_ltN (tgt := 29) dX11_law_19 (by decide) (by omega) (by omega) (fun c19 => ?_) (fun c19 => ?_)
    · refine at_aload_n dX11_law_29 rfl ?_
      refine at_get dX11_law_30 fl_X11_47 (zl_o rfl) rfl ?_
      refine at_aload_n dX11_law_33 rfl ?_
      refine at_get dX11_law_34 fl_X11_36 (zl_o rfl) rfl ?_
      refine at_iload_n dX11_law_37 rfl ?_
      refine at_iconst dX11_law_38 (v := nI 0) (by decide) ?_
      refine at_callV3 (d := D - 1) dX11_law_39 mv_X11_185 (zl_o rfl) (Nat.le_of_ble_eq_true rfl) ⟨by show D - 1 + 1 ≤ D; omega, by show 60 * (D - 1) + 59 ≤ 60 * D; omega, by show 0 + 15 ≤ 15; omega, by show 0 + 887 ≤ 887; omega⟩ ?_
      refine zc_readLaw (κ := zl_si κ 8 7 (nI 0)) (z := z) (by omega) t2 (by omega) (fun j hj => by obtain ⟨x, x1, x2, x3⟩ := t4 j hj; exact ⟨x, x1, x2⟩) (fun e κ2 ρ2 n2 g1 g2 g3 g4 g7 => ?_) (fun e κ2 ρ2 n2 L g1 g2 g3 g4 g7 g5 g6 => ?_)
      · have e : ¬ (zRd (κ.2.1 47) z false).2.2 = 0 := e
        rw [eRd] at e
        have g2 : κ2.1 48 7 = nI ((zRd (κ.2.1 47) z false).2.2 - 1) := g2
        rw [eRd] at g2
        have hρ := zm_hs n90 g3
        have hfl : nI ((zRd (σ.2.1 78) z false).2.2 - 1) = zlast (zRd (σ.2.1 78) z false).2.2 := by
          cases hq : (zRd (σ.2.1 78) z false).2.2 with
          | zero => exact absurd hq e
          | succ q => rfl
        have hp := h1 (.int (-(nI 6))) n2 (zl_h (zlref (zl_si κ2 8 15 (κ2.1 48 7)) 6) ρ2) (by rw [← hρ]; exact ⟨rfl, _, rfl⟩) (fun P2 h2 => by
          rw [← hρ, zlm]
          refine zm_law (by omega) t5 t1 t2 hlt l2 (fun f => absurd f e6) (fun τ _ _ hE => ?_) (fun τ _ f => absurd f e)
          rw [← zlm]
          refine h2 _ _ _ _ (zfin (zIV_g (zIV_ref (zIV_fault (zIV_n (zIV_f h0 (zKf_g g1)) g4 (fun k k1 k2 => (g3 k (by omega)).trans (zm_hx _ _ (Or.inr k1))) g7) (κ2.1 48 7)) (by omega)) ?_ (fun y y1 y5 => ?_)))
          · rw [g2, hfl]; exact zMf_E hE
          · rw [hE.2 76 rfl]
            exact zIV_rk h y y1 y5)
        refine at_astore_nN dX11_law_42 rfl (by decide) ?_
        refine at_aload_n dX11_law_43 rfl ?_
        refine at_aload_n dX11_law_44 rfl ?_
        refine at_get dX11_law_45 fl_X11_47 (zl_o rfl) rfl ?_
        refine at_callV0 (d := D - 1) dX11_law_48 mv_X11_189 (zl_o rfl) (Nat.le_of_ble_eq_true rfl) (zq_r0 (by omega) (by omega) (by omega)) ?_
        refine zc_faultPlace ?_
        refine at_lput dX11_law_51 (pl_X11_85 _) (fun i => ⟨_, rfl, Nat.le_of_ble_eq_true rfl, fun v => rfl⟩) rfl rfl ?_
        refine at_aload_nN dX11_law_54 rfl ?_
        refine at_ifnonnullN dX11_law_55 ?_
        refine at_aload_n dX11_law_58 rfl ?_
        refine at_bipush dX11_law_59 (v := -6) (by decide) ?_
        refine at_callV1 (d := D - 1) dX11_law_61 mv_X11_103 (zl_o rfl) (Nat.le_of_ble_eq_true rfl) (zq_r0 (by omega) (by omega) (by omega)) ?_
        refine zc_refuse (q := 6) (by omega) ?_
        refine at_iret dX11_law_64 rfl (by omega) (by omega) ?_
        exact hp
      · have e : (zRd (κ.2.1 47) z false).2.2 = 0 := e
        rw [eRd] at e
        have g6 : zSpCs (zcN (κ.2.1 47) z) (zvN (κ.2.1 47) z) (zTok (κ.2.1 47) z).length L 0 := g6
        rw [eC, eV, eN] at g6
        rw [eN] at hlen
        have hρ := zm_hs n90 g3
        have hr98 : ∀ k, 98 ≤ k → k < n + 8 → ρ2 k = ρ k := fun k k1 k2 => (g3 k (by omega)).trans (zm_hx _ _ (Or.inr k1))
        have hiv := zIV_fault (zIV_n (zIV_f h0 (zKf_g g1)) g4 hr98 g7) (κ2.1 48 7)
        obtain ⟨hKW, hlo⟩ := zKW_law (L := L) (C := zcN (σ.2.1 78) z) (V := zvN (σ.2.1 78) z) h.2.1 (show t < 6 by omega) (show (zTok (σ.2.1 78) z).length ≤ 400 by omega) (fun k hk => zcN_0 hk) (zcN_lt _ _) g6
        have htx0 := g5 ρ2 (fun _ _ _ => rfl)
        obtain ⟨N0, cd0, F0, ⟨cl0, cp0, gg0, cr0, ⟨b70, htx⟩, hcp, -⟩, -⟩ := htx0
        have hnn : n + 8 < n2 + 8 := by
          obtain ⟨code0, q1, -⟩ := hcp
          by_cases hh : n + 8 < n2 + 8
          · exact hh
          · exfalso
            have hx := g5 (fun _ => zq_dead) (fun k k1 k2 => absurd k2 (by omega))
            obtain ⟨N1, cd1, F1, ⟨cl1, cp1, gg1, cr1, ⟨_, htx1⟩, -⟩, -⟩ := hx
            cases htx1
        generalize hκ4 : zl_si (zl_sr (zl_si κ2 8 15 (κ2.1 48 7)) (9 + 10) t (some (n + 8))) 9 11 (nI (t + 1)) = κ4
        have c1 : ∀ o, o ≠ 9 → κ4.1 o = (zl_si κ2 8 15 (κ2.1 48 7)).1 o := fun o ho => by rw [← hκ4]; exact zsi2_o _ ho _ _
        have c2 : ∀ j, j ≠ 11 → κ4.1 9 j = (zl_si κ2 8 15 (κ2.1 48 7)).1 9 j := fun j hj => by rw [← hκ4]; exact zsi2_k _ 9 hj _
        have c3 : κ4.2.1 = (zl_si κ2 8 15 (κ2.1 48 7)).2.1 := by rw [← hκ4]; rfl
        have c4 : κ4.2.2 = (zl_sr (zl_si κ2 8 15 (κ2.1 48 7)) (9 + 10) t (some (n + 8))).2.2 := by rw [← hκ4]; rfl
        have c5 : κ4.2.2 (9 + 10) = va_up ((zl_si κ2 8 15 (κ2.1 48 7)).2.2 (9 + 10)) t (some (n + 8)) := by rw [c4]; exact zlr1_s _ _ _ _
        have c6 : κ4.2.2 20 = (zl_si κ2 8 15 (κ2.1 48 7)).2.2 20 := by rw [c4]; exact zlr1_o _ (by decide) _ _
        have hQ4 : zQc κ4 ρ2 n2 9 (upd (zlaid K (fun j => nI (zcN (σ.2.1 78) z j)) (fun j => nI (zvN (σ.2.1 78) z j)) t (zTok (σ.2.1 78) z).length) 75 (nI (t + 1))) m hn (t + 1) (fun u => if u = t then L else Ls u) := by
          refine zQc_g hiv.2.2.1 hm7 (c2 0 (by decide)) (fun c _ _ => by rw [c3]) (fun j hj => hlo j (by omega)) (hlo 71 (by decide)) (hlo 72 (by decide)) ((c2 8 (by decide)).trans hiv.2.2.1.1.2.1) (fun j hj => ?_) (by rw [← hκ4]; exact zsi2_s _ _ _ _) ((c2 13 (by decide)).trans (hiv.2.2.1.1.2.2.2.trans ?_)) (fun u hu => ?_) (fun u hu => ?_)
          · have h8 := h.2.1.2.2.2.2.2.2.2.1.2.1
            rw [c3, hlo (55 + 2 * j) (by omega), hlo (55 + 2 * j + 1) (by omega)]
            exact hiv.2.2.1.2.2.2.2.2.2.2.2.1 j hj
          · have h76 := hKW.2.2.2.2.2.2.2.2.2.2.1
            rw [upd_o _ (by decide)]
            unfold zlaid
            rw [zlay_at _ _ _ (by omega) _ _ (by omega), if_neg (by omega), if_neg (by omega), upd_o _ (by omega)]
          · rw [c5]
            by_cases g : u = t
            · subst g
              simp only [if_true]
              refine ⟨n + 8, va_up_self _ _ _, fun ρ3 h3 => g5 ρ3 (fun k k1 k2 => h3 k (by omega) k2 (fun ⟨B, fs, b1, b2, b3, b4⟩ => ?_))⟩
              rcases Nat.lt_or_ge B (n + 8) with gb | gb
              · have := h.2.2.2.2.2.2.2.2.2.2 B fs b1 gb ((hr98 B b1 gb).symm.trans b4)
                omega
              · exact absurd b4 (g7 B fs gb (by omega))
            · simp only [if_neg g]
              rw [va_up_ne _ _ g]
              exact hiv.2.2.1.2.2.2.2.2.2.2.2.2.1 u (by omega)
          · rw [c5]
            by_cases g : u = t
            · subst g
              exact Or.inr ⟨n + 8, _, va_up_self _ _ _, by omega, hnn, htx⟩
            · rw [va_up_ne _ _ g]
              exact hiv.2.2.1.2.2.2.2.2.2.2.2.2.2 u hu
        have hp := h1 (.int (nI t)) n2 (zl_h (zl_si κ4 8 18 (nI 0)) ρ2) (by rw [← hρ]; exact ⟨rfl, _, rfl⟩) (fun P2 h2 => by
          rw [← hρ, zlm]
          refine zm_law (by omega) t5 t1 t2 hlt l2 (fun f => absurd f e6) (fun τ _ f => absurd e f) (fun τ _ _ hE => ?_)
          rw [← zlm]
          rw [eK] at hE
          have g2 : κ2.1 48 7 = -1 := g2
          have hr76 : ∀ y, 1 ≤ y → y ≤ 5 → σ.2.1 76 y = nI (zrkK (upd (zlaid K (fun j => nI (zcN (σ.2.1 78) z j)) (fun j => nI (zvN (σ.2.1 78) z j)) t (zTok (σ.2.1 78) z).length) 75 (nI (t + 1))) y) := fun y y1 y5 => by
            rw [zrkK_c (fun j hj => hlo _ (by omega))]
            exact zIV_rk h y y1 y5
          have hiv2 := zIV_acc (zIV_mk (κ' := κ4) (τ := zsK (zm_si (zm_si σ 14 0) 15 (κ2.1 48 7)) (upd (zlaid K (fun j => nI (zcN (σ.2.1 78) z j)) (fun j => nI (zvN (σ.2.1 78) z j)) t (zTok (σ.2.1 78) z).length) 75 (nI (t + 1)))) hiv hKW hQ4 (zIV_LG hiv (fun j hj => hlo j (by omega)) (c1 43 (by decide)) (by rw [c3]) rfl (zsA_o _ (by decide) _)) (zsK_k _ _) (fun y y1 y5 => (congrFun (zsA_o _ (by decide) _) y).trans (hr76 y y1 y5)) (c1 8 (by decide)) (c1 32 (by decide)) (fun j hj => by rw [c3]) (by rw [c3]) c6 (fun _ _ => rfl) (fun j hj => zsA_o _ (by omega) _))
          rw [g2] at hiv2
          refine h2 _ _ _ _ (zfin (zIV_g hiv2 (zMf_E hE) (fun y y1 y5 => ?_)))
          rw [hE.2 76 rfl]
          exact (congrFun (zsA_o _ (by decide) _) y).trans (hr76 y y1 y5))
        refine at_astore_n dX11_law_42 rfl (by decide) ?_
        refine at_aload_n dX11_law_43 rfl ?_
        refine at_aload_n dX11_law_44 rfl ?_
        refine at_get dX11_law_45 fl_X11_47 (zl_o rfl) rfl ?_
        refine at_callV0 (d := D - 1) dX11_law_48 mv_X11_189 (zl_o rfl) (Nat.le_of_ble_eq_true rfl) (zq_r0 (by omega) (by omega) (by omega)) ?_
        refine zc_faultPlace ?_
        refine at_lput dX11_law_51 (pl_X11_85 _) (fun i => ⟨_, rfl, Nat.le_of_ble_eq_true rfl, fun v => rfl⟩) rfl rfl ?_
        refine at_aload_n dX11_law_54 rfl ?_
        refine at_ifnonnull (tgt := 65) dX11_law_55 (by decide) ?_
        refine at_aload_n dX11_law_65 rfl ?_
        refine at_aload_n dX11_law_66 rfl ?_
        refine at_get dX11_law_67 fl_X11_12 (zl_o rfl) rfl ?_
        refine at_aload_n dX11_law_70 rfl ?_
        refine at_callV1 (d := D - 1) dX11_law_71 mv_X11_192 (zl_q zQ9) (Nat.le_of_ble_eq_true rfl) (zq_r0 (by omega) (by omega) (by omega)) ?_
        refine zc_addLaw zQ9 (show (zl_si κ2 8 15 (κ2.1 48 7)).1 9 11 = nI t from hiv.2.2.1.1.2.2.1) (by omega) htx b70 ?_
        rw [hκ4]
        refine at_callV1 (d := D - 1) dX11_law_74 mv_X11_117 (zl_o rfl) (Nat.le_of_ble_eq_true rfl) (zq_r0 (by omega) (by omega) (by omega)) ?_
        refine zc_accept ?_
        refine at_iret dX11_law_77 rfl (by omega) (by omega) ?_
        exact hp
    · omega
end ZK18

