/-! ===== calls on both sides: people come ===== -/
theorem dX11_person_0 : decode cX11_person 0 = .ok (.iload_n 1, 1) := by decide +kernel
theorem dX11_person_1 : decode cX11_person 1 = .ok (.invokestatic 97, 3) := by decide +kernel
theorem dX11_person_4 : decode cX11_person 4 = .ok (.ifCond .ne 9, 3) := by decide +kernel
theorem dX11_person_7 : decode cX11_person 7 = .ok (.aload_n 0, 1) := by decide +kernel
theorem dX11_person_8 : decode cX11_person 8 = .ok (.iconst (-1), 1) := by decide +kernel
theorem dX11_person_9 : decode cX11_person 9 = .ok (.invokevirtual 103, 3) := by decide +kernel
theorem dX11_person_12 : decode cX11_person 12 = .ok (.ireturn, 1) := by decide +kernel
theorem dX11_person_13 : decode cX11_person 13 = .ok (.aload_n 0, 1) := by decide +kernel
theorem dX11_person_14 : decode cX11_person 14 = .ok (.getfield 12, 3) := by decide +kernel
theorem dX11_person_17 : decode cX11_person 17 = .ok (.invokevirtual 107, 3) := by decide +kernel
theorem dX11_person_20 : decode cX11_person 20 = .ok (.ifCond .ne 10, 3) := by decide +kernel
theorem dX11_person_23 : decode cX11_person 23 = .ok (.aload_n 0, 1) := by decide +kernel
theorem dX11_person_24 : decode cX11_person 24 = .ok (.bipush (-5), 2) := by decide +kernel
theorem dX11_person_26 : decode cX11_person 26 = .ok (.invokevirtual 103, 3) := by decide +kernel
theorem dX11_person_29 : decode cX11_person 29 = .ok (.ireturn, 1) := by decide +kernel
theorem dX11_person_30 : decode cX11_person 30 = .ok (.aload_n 0, 1) := by decide +kernel
theorem dX11_person_31 : decode cX11_person 31 = .ok (.getfield 29, 3) := by decide +kernel
theorem dX11_person_34 : decode cX11_person 34 = .ok (.invokevirtual 111, 3) := by decide +kernel
theorem dX11_person_37 : decode cX11_person 37 = .ok (.aload_n 0, 1) := by decide +kernel
theorem dX11_person_38 : decode cX11_person 38 = .ok (.aload_n 0, 1) := by decide +kernel
theorem dX11_person_39 : decode cX11_person 39 = .ok (.getfield 12, 3) := by decide +kernel
theorem dX11_person_42 : decode cX11_person 42 = .ok (.iload_n 1, 1) := by decide +kernel
theorem dX11_person_43 : decode cX11_person 43 = .ok (.invokevirtual 114, 3) := by decide +kernel
theorem dX11_person_46 : decode cX11_person 46 = .ok (.invokevirtual 117, 3) := by decide +kernel
theorem dX11_person_49 : decode cX11_person 49 = .ok (.ireturn, 1) := by decide +kernel
abbrev mX11_person : zq_M := (cX11_person, RX11, "person", (some .int), 2)
theorem zisI_t {v : Int32} (h : zisI v = true) : ∃ x, v = nI x ∧ zvn x := by
  unfold zisI at h
  rw [Bool.and_eq_true] at h
  obtain ⟨x, x1, x2, rfl⟩ := zlies_n (by decide) (by decide) h.1
  have h2 := h.2
  rw [nI_clamp (by omega)] at h2
  exact ⟨x, rfl, x1, x2, h2⟩
theorem zsays_at {K : Nat → Int32} {p : Nat} : ∀ k j, zsays K p k j = if 20 + 5 * p ≤ j ∧ j < 20 + 5 * p + k then nI (j - (20 + 5 * p) + 1) else K j
  | 0, j => by unfold zsays; rw [if_neg (by omega)]
  | k + 1, j => by
    unfold zsays
    by_cases e : j = 20 + 5 * p + k
    · rw [e, upd_s, if_pos (by omega)]
      congr 1
      omega
    · rw [upd_o _ e, zsays_at k j]
      by_cases g : 20 + 5 * p ≤ j ∧ j < 20 + 5 * p + k
      · rw [if_pos g, if_pos (by omega)]
      · rw [if_neg g, if_neg (by omega)]
theorem zuS_2 (κ : zl_S) (b p : Nat) : ∀ k c, c ≠ b + 4 → (zuS κ b p k).2.1 c = κ.2.1 c
  | 0, _, _ => rfl
  | k + 1, c, hc => by
    unfold zuS
    rw [zla_o _ hc, zuS_2 κ b p k c hc]
theorem zuS_3 (κ : zl_S) (b p : Nat) : ∀ k, (zuS κ b p k).2.2 = κ.2.2
  | 0 => rfl
  | k + 1 => zuS_3 κ b p k
theorem zuS_4 (κ : zl_S) (b p : Nat) : ∀ k j, (zuS κ b p k).2.1 (b + 4) j = if 5 * p ≤ j ∧ j < 5 * p + k then nI (j - 5 * p + 1) else κ.2.1 (b + 4) j
  | 0, j => by unfold zuS; rw [if_neg (by omega)]
  | k + 1, j => by
    unfold zuS
    rw [zla_s]
    by_cases e : j = 5 * p + (k + 1) - 1
    · rw [e, upd_s, if_pos (by omega)]
      congr 1
      omega
    · rw [upd_o _ e, zuS_4 κ b p k j]
      by_cases g : 5 * p ≤ j ∧ j < 5 * p + k
      · rw [if_pos g, if_pos (by omega)]
      · rw [if_neg g, if_neg (by omega)]
section ZK17
variable {l : Launch} {G : zq_G} {D n b : Nat} {κ κ' : zl_S} {σ τ : zm_S} {ρ : Nat → zq_E} {K K' : Nat → Int32} {m hn t z : Nat} {Ls : Nat → List zLC} {Λ Λ' : List Nat} {Lo : Option (List zLC)} {post : Option Value → Nat → (Nat → zq_E) → Prop}
theorem zadd_at {v : Int32} (hm : m < 7) : zadd K m v m = v ∧ zadd K m v (7 + m) = nI m ∧ zadd K m v 73 = nI (m + 1) ∧ (∀ j, j < 5 → zadd K m v (20 + 5 * m + j) = nI (j + 1)) ∧ ∀ j, j ≠ m → j ≠ 7 + m → j ≠ 73 → (j < 20 + 5 * m ∨ 20 + 5 * m + 5 ≤ j) → zadd K m v j = K j := by
  unfold zadd
  refine ⟨?_, ?_, upd_s _ _ _, fun j hj => ?_, fun j h1 h2 h3 h4 => ?_⟩
  · rw [upd_o _ (by omega), zsays_at, if_neg (by omega), upd_o _ (by omega), upd_s]
  · rw [upd_o _ (by omega), zsays_at, if_neg (by omega), upd_s]
  · rw [upd_o _ (by omega), zsays_at, if_pos (by omega)]
    congr 1
    omega
  · rw [upd_o _ h3, zsays_at, if_neg (by omega), upd_o _ h2, upd_o _ h1]
theorem zKW_add {x : Nat} (g : zKW K m hn t Ls) (hm : m < 7) (hx : zvn x) : zKW (zadd K m (nI x)) (m + 1) hn t Ls := by
  obtain ⟨a1, a2, a3, a4, a5⟩ := zadd_at (K := K) (m := m) (v := nI x) hm
  have x5 := hx.2.1
  generalize zadd K m (nI x) = K' at *
  obtain ⟨c1, c2, c3, c4⟩ := g.1
  have eX : ∀ p, p < m → zX1 K' p = zX1 K p := fun p hp => by unfold zX1; rw [a5 p (by omega) (by omega) (by omega) (by omega)]
  have eW : ∀ k, k < m → zW1 K' k = zW1 K k := fun k hk => by unfold zW1; rw [a5 (7 + k) (by omega) (by omega) (by omega) (by omega)]
  have eXm : zX1 K' m = x := zX1_n a1 (by omega)
  have eWm : zW1 K' m = m := zW1_n a2 (by omega)
  refine ⟨⟨a3, by omega, fun p hp => ?_, fun k hk => ?_⟩, (zAl_c g.2.1 (fun k hk => a5 _ (by omega) (by omega) (by omega) (by omega))).1, fun i j hi hj e => ?_, ?_, ?_, ?_, fun p y hp y1 y5 => ?_, ?_, ?_⟩
  · by_cases e : p = m
    · subst e; rw [eXm]; exact ⟨a1, hx⟩
    · rw [eX p (by omega), a5 p e (by omega) (by omega) (by omega)]; exact c3 p (by omega)
  · by_cases e : k = m
    · subst e; rw [eWm]; exact ⟨a2, by omega⟩
    · rw [eW k (by omega), a5 (7 + k) (by omega) (by omega) (by omega) (by omega)]; exact ⟨(c4 k (by omega)).1, by have := (c4 k (by omega)).2; omega⟩
  · by_cases e1 : i = m
    · by_cases e2 : j = m
      · omega
      · rw [e1, eWm, eW j (by omega)] at e
        have := (c4 j (by omega)).2
        omega
    · by_cases e2 : j = m
      · rw [e2, eWm, eW i (by omega)] at e
        have := (c4 i (by omega)).2
        omega
      · rw [eW i (by omega), eW j (by omega)] at e
        exact g.2.2.1 i j (by omega) (by omega) e
  · rw [a5 19 (by omega) (by omega) (by omega) (by omega)]; exact g.2.2.2.1
  · rw [a5 71 (by omega) (by omega) (by omega) (by omega)]; exact g.2.2.2.2.1
  · rw [a5 72 (by omega) (by omega) (by omega) (by omega)]; exact g.2.2.2.2.2.1
  · unfold sdK
    by_cases e : p = m
    · subst e
      rw [show 20 + 5 * p + y - 1 = 20 + 5 * p + (y - 1) by omega, a4 (y - 1) (by omega), nI_clamp (by omega)]
      exact ⟨rfl, by omega, by omega⟩
    · rw [a5 _ (by omega) (by omega) (by omega) (by omega)]
      exact g.2.2.2.2.2.2.1 p y (by omega) y1 y5
  · obtain ⟨q1, q2, q3⟩ := zKW_hh (K' := K') g (fun j j1 j2 => a5 j (by omega) (by omega) (by omega) (by omega)) (a5 74 (by omega) (by omega) (by omega) (by omega))
    exact ⟨q1, q2, fun i hi => by obtain ⟨r1, r2, r3, r4⟩ := q3 i hi; exact ⟨r1, r2, by omega, by omega⟩⟩
  · exact zKW_ll g (fun j hj => a5 j (by omega) (by omega) (by omega) (by omega))
theorem zQc_add {v : Int32} (h : zQc κ ρ n b K m hn t Ls) (hm : m < 7) (h8 : hn ≤ 8) : zQc (zuA κ b m v) ρ n b (zadd K m v) (m + 1) hn t Ls := by
  obtain ⟨k1, k2, k3, k4, k5⟩ := zadd_at (K := K) (m := m) (v := v) hm
  generalize zadd K m v = K' at *
  obtain ⟨⟨i0, i8, i11, i13⟩, a1, a2, a3, a4, a5, a6, a7, a8, a9, a10⟩ := h
  generalize hκ0 : zl_sa (zl_sa (zl_sa (zl_si κ b 0 (nI (m + 1))) (b + 1) m v) (b + 2) m (nI m)) (b + 3) m (nI m) = κ0
  have hA : zuA κ b m v = zuS κ0 b m 5 := by rw [← hκ0]; rfl
  have z0 : κ0.1 = (zl_si κ b 0 (nI (m + 1))).1 := by rw [← hκ0]; rfl
  have zt : κ0.2.2 = κ.2.2 := by rw [← hκ0]; rfl
  have z1 : κ0.2.1 (b + 1) = upd (κ.2.1 (b + 1)) m v := by rw [← hκ0, zla_o _ (by omega), zla_o _ (by omega), zla_s]; rfl
  have z2 : κ0.2.1 (b + 2) = upd (κ.2.1 (b + 2)) m (nI m) := by rw [← hκ0, zla_o _ (by omega), zla_s, zla_o _ (by omega)]; rfl
  have z3 : κ0.2.1 (b + 3) = upd (κ.2.1 (b + 3)) m (nI m) := by rw [← hκ0, zla_s, zla_o _ (by omega), zla_o _ (by omega)]; rfl
  have zo : ∀ c, 4 ≤ c → κ0.2.1 (b + c) = κ.2.1 (b + c) := fun c hc => by rw [← hκ0, zla_o _ (by omega), zla_o _ (by omega), zla_o _ (by omega)]; rfl
  rw [hA]
  have e1 : (zuS κ0 b m 5).1 b = (zl_si κ b 0 (nI (m + 1))).1 b := by rw [zuS_1, z0]
  have eo : ∀ c, c ≠ 4 → (zuS κ0 b m 5).2.1 (b + c) = κ0.2.1 (b + c) := fun c hc => zuS_2 _ _ _ _ _ (by omega)
  have et : (zuS κ0 b m 5).2.2 = κ.2.2 := by rw [zuS_3, zt]
  have ei : ∀ j, j ≠ 0 → (zuS κ0 b m 5).1 b j = κ.1 b j := fun j hj => by rw [e1]; exact zsi2_k _ _ hj _
  refine ⟨⟨?_, (ei 8 (by decide)).trans i8, (ei 11 (by decide)).trans i11, (ei 13 (by decide)).trans (i13.trans (k5 76 (by omega) (by omega) (by omega) (by omega)).symm)⟩, fun p hp => ?_, fun q hq => ?_, fun p hp => ?_, fun q hq => ?_, fun q hq => ?_, ?_, ?_, fun q hq => ?_, ?_, ?_⟩
  · rw [e1]; exact zsi2_s _ _ _ _
  · show (zuS κ0 b m 5).2.1 (b + 1) p = _
    rw [eo 1 (by decide), z1]
    by_cases e : p = m
    · rw [e, upd_s, k1]
    · rw [upd_o _ e, k5 p e (by omega) (by omega) (by omega)]; exact a1 p (by omega)
  · show (zuS κ0 b m 5).2.1 (b + 2) q = _
    rw [eo 2 (by decide), z2]
    by_cases e : q = m
    · rw [e, upd_s, k2]
    · rw [upd_o _ e, k5 _ (by omega) (by omega) (by omega) (by omega)]; exact a2 q (by omega)
  · show (zuS κ0 b m 5).2.1 (b + 3) p = _
    rw [eo 3 (by decide), z3]
    unfold zplace
    rw [k2]
    by_cases e : p = m
    · rw [e, upd_s, if_pos rfl]
    · rw [upd_o _ e, if_neg (fun g => e ((nI_eq (by omega) (by omega)).mp g).symm), zplace_c m (fun k hk => k5 _ (by omega) (by omega) (by omega) (by omega))]
      exact a3 p (by omega)
  · show (zuS κ0 b m 5).2.1 (b + 4) q = _
    rw [zuS_4]
    by_cases e : 5 * m ≤ q
    · rw [if_pos (by omega), show 20 + q = 20 + 5 * m + (q - 5 * m) by omega, k4 (q - 5 * m) (by omega)]
    · rw [if_neg (by omega), zo 4 (by decide), k5 _ (by omega) (by omega) (by omega) (by omega)]
      exact a4 q (by omega)
  · show (zuS κ0 b m 5).2.1 (b + 5) q = _
    rw [eo 5 (by decide), zo 5 (by decide), k5 _ (by omega) (by omega) (by omega) (by omega)]; exact a5 q hq
  · show zOrd ((zuS κ0 b m 5).2.1 (b + 6)) _
    rw [eo 6 (by decide), zo 6 (by decide), zrkK_c (fun k hk => k5 _ (by omega) (by omega) (by omega) (by omega))]; exact a6
  · show (zuS κ0 b m 5).2.1 (b + 7) 0 = _ ∧ (zuS κ0 b m 5).2.1 (b + 7) 1 = _ ∧ (zuS κ0 b m 5).2.1 (b + 7) 2 = _
    rw [eo 7 (by decide), zo 7 (by decide), k5 19 (by omega) (by omega) (by omega) (by omega), k5 71 (by omega) (by omega) (by omega) (by omega), k5 72 (by omega) (by omega) (by omega) (by omega)]; exact a7
  · show (zuS κ0 b m 5).2.1 (b + 8) q = _ ∧ (zuS κ0 b m 5).2.1 (b + 9) q = _
    rw [eo 8 (by decide), zo 8 (by decide), eo 9 (by decide), zo 9 (by decide), k5 _ (by omega) (by omega) (by omega) (by omega), k5 _ (by omega) (by omega) (by omega) (by omega)]; exact a8 q hq
  · rw [et]; exact a9
  · rw [et]; exact a10
theorem zuA_f (κ : zl_S) {m : Nat} (v : Int32) : (∀ o, o ≠ 9 → (zuA κ 9 m v).1 o = κ.1 o) ∧ (∀ a, ¬ (10 ≤ a ∧ a ≤ 13) → (zuA κ 9 m v).2.1 a = κ.2.1 a) ∧ (zuA κ 9 m v).2.2 = κ.2.2 := by
  unfold zuA
  refine ⟨fun o ho => ?_, fun a ha => ?_, ?_⟩
  · rw [zuS_1]; exact zsi2_o _ ho _ _
  · rw [zuS_2 _ _ _ _ _ (by omega), zla_o _ (by omega), zla_o _ (by omega), zla_o _ (by omega)]; rfl
  · rw [zuS_3]; rfl
theorem zk_person {v : Int32} (hD : 88 ≤ D) (h : zIV n κ σ ρ K m hn t z Ls Λ) : zCase l G D 0 0 yX11_person yX12_person [.int v] n κ σ ρ := by
  intro P1 h1
  have hm7 := h.2.1.1.2.1
  have eK := h.1.2.2.1
  have hm : σ.2.1 72 73 = nI m := by rw [eK]; exact h.2.1.1.1
  cases e : zisI v with
  | false =>
    have hp := h1 (.int (-(nI 1))) n (zl_h (zlref κ 1) (zm_h σ ρ)) (by exact ⟨rfl, _, rfl⟩) (fun P2 h2 => by
      rw [zlm]
      refine zm_person (by omega) hm hm7 (fun _ => ?_) (fun f => ?_) (fun f => ?_)
      · rw [← zlm]
        exact h2 _ _ _ _ (zfin (zIV_ref h (by omega)))
      · rw [e] at f; cases f
      · rw [e] at f; cases f)
    refine zq_enter (cc := cX11_person) (nL := 2) (ret := (some .int)) cw_X11_person (by decide) rfl (Nat.le_of_ble_eq_true rfl) ?_
    refine at_iload_n dX11_person_0 rfl ?_
    refine at_callS1 (d := D - 1) dX11_person_1 ms_X11_97 (Nat.le_of_ble_eq_true rfl) (zq_r0 (by omega) (by omega) (by omega)) ?_
    refine zc_isName (by omega) ?_
    rw [e]
    refine at_if_neB (tgt := 13) dX11_person_4 (by decide) (fun c4 => ?_) (fun c4 => ?_)
    · cases c4
    · refine at_aload_n dX11_person_7 rfl ?_
      refine at_iconst dX11_person_8 (v := -1) rfl ?_
      refine at_callV1 (d := D - 1) dX11_person_9 mv_X11_103 (zl_o rfl) (Nat.le_of_ble_eq_true rfl) (zq_r0 (by omega) (by omega) (by omega)) ?_
      refine zc_refuse (q := 1) (by omega) ?_
      refine at_iret dX11_person_12 rfl (by omega) (by omega) ?_
      exact hp
  | true =>
    by_cases hf : m = 7
    · have hp := h1 (.int (-(nI 5))) n (zl_h (zlref κ 5) (zm_h σ ρ)) (by exact ⟨rfl, _, rfl⟩) (fun P2 h2 => by
        rw [zlm]
        refine zm_person (by omega) hm hm7 (fun f => ?_) (fun _ _ => ?_) (fun _ f => absurd f (by omega))
        · rw [e] at f; cases f
        · rw [← zlm]
          exact h2 _ _ _ _ (zfin (zIV_ref h (by omega))))
      refine zq_enter (cc := cX11_person) (nL := 2) (ret := (some .int)) cw_X11_person (by decide) rfl (Nat.le_of_ble_eq_true rfl) ?_
      refine at_iload_n dX11_person_0 rfl ?_
      refine at_callS1 (d := D - 1) dX11_person_1 ms_X11_97 (Nat.le_of_ble_eq_true rfl) (zq_r0 (by omega) (by omega) (by omega)) ?_
      refine zc_isName (by omega) ?_
      rw [e]
      refine at_if_neB (tgt := 13) dX11_person_4 (by decide) (fun c4 => ?_) (fun c4 => ?_)
      · refine at_aload_n dX11_person_13 rfl ?_
        refine at_get dX11_person_14 fl_X11_12 (zl_o rfl) rfl ?_
        refine at_callV0 (d := D - 1) dX11_person_17 mv_X11_107 (zl_q zQ9) (Nat.le_of_ble_eq_true rfl) (zq_r0 (by omega) (by omega) (by omega)) ?_
        refine zc_hasRoom zQ9 h.2.2.1.1.1 hm7 ?_
        rw [decide_eq_false (by omega)]
        refine at_if_neB (tgt := 30) dX11_person_20 (by decide) (fun c20 => ?_) (fun c20 => ?_)
        · cases c20
        · refine at_aload_n dX11_person_23 rfl ?_
          refine at_bipush dX11_person_24 (v := -5) (by decide) ?_
          refine at_callV1 (d := D - 1) dX11_person_26 mv_X11_103 (zl_o rfl) (Nat.le_of_ble_eq_true rfl) (zq_r0 (by omega) (by omega) (by omega)) ?_
          refine zc_refuse (q := 5) (by omega) ?_
          refine at_iret dX11_person_29 rfl (by omega) (by omega) ?_
          exact hp
      · cases c4
    · obtain ⟨x, rfl, hx⟩ := zisI_t e
      obtain ⟨f1, f2, f3⟩ := zuA_f (zl_si κ 43 0 (nI 0)) (m := m) (nI x)
      have hQ1 : zQc (zl_si κ 43 0 (nI 0)) ρ n 9 K m hn t Ls := zQc_f h.2.2.1 (zsi2_o _ (by decide) _ _) (fun _ _ _ => rfl) rfl
      have hQ' := zQc_add (v := nI x) hQ1 (by omega) h.2.1.2.2.2.2.2.2.2.1.2.1
      have hKW := zKW_add h.2.1 (by omega) hx
      have hp := h1 (.int (nI m)) n (zl_h (zl_si (zuA (zl_si κ 43 0 (nI 0)) 9 m (nI x)) 8 18 (nI 0)) (zm_h σ ρ)) (by exact ⟨rfl, _, rfl⟩) (fun P2 h2 => by
        rw [zlm]
        refine zm_person (by omega) hm hm7 (fun f => ?_) (fun _ f => absurd f hf) (fun _ _ => ?_)
        · rw [e] at f; cases f
        · rw [eK, ← zlm]
          refine h2 _ _ _ _ (zfin (zIV_acc (zIV_mk (τ := zm_si (zsK σ (zadd K m (nI x))) 44 0) (Λ' := []) h hKW hQ' (zLG_0 (m + 1) ?_ (zsi_s _ _ _)) (zsK_k _ _) (fun y y1 y5 => ?_) ?_ ?_ (fun a ha => (f2 a (by omega)).trans rfl) (congrFun (f2 57 (by omega)) 0) (by rw [f3]; rfl) (fun k hk => zsi_o _ (by omega) _) (fun a ha => zsA_o _ (by omega) _))))
          · rw [f1 43 (by decide)]; exact zsi2_s _ _ _ _
          · rw [show (zm_si (zsK σ (zadd K m (nI x))) 44 0).2.1 76 = σ.2.1 76 from zsA_o _ (by decide) _, zrkK_c (fun k hk => (zadd_at (K := K) (m := m) (v := nI x) (by omega)).2.2.2.2 _ (by omega) (by omega) (by omega) (by omega))]
            exact zIV_rk h y y1 y5
          · rw [f1 8 (by decide)]; exact zsi2_o _ (by decide) _ _
          · rw [f1 32 (by decide)]; exact zsi2_o _ (by decide) _ _)
      refine zq_enter (cc := cX11_person) (nL := 2) (ret := (some .int)) cw_X11_person (by decide) rfl (Nat.le_of_ble_eq_true rfl) ?_
      refine at_iload_n dX11_person_0 rfl ?_
      refine at_callS1 (d := D - 1) dX11_person_1 ms_X11_97 (Nat.le_of_ble_eq_true rfl) (zq_r0 (by omega) (by omega) (by omega)) ?_
      refine zc_isName (by omega) ?_
      rw [e]
      refine at_if_neB (tgt := 13) dX11_person_4 (by decide) (fun c4 => ?_) (fun c4 => ?_)
      · refine at_aload_n dX11_person_13 rfl ?_
        refine at_get dX11_person_14 fl_X11_12 (zl_o rfl) rfl ?_
        refine at_callV0 (d := D - 1) dX11_person_17 mv_X11_107 (zl_q zQ9) (Nat.le_of_ble_eq_true rfl) (zq_r0 (by omega) (by omega) (by omega)) ?_
        refine zc_hasRoom zQ9 h.2.2.1.1.1 hm7 ?_
        rw [decide_eq_true (by omega)]
        refine at_if_neB (tgt := 30) dX11_person_20 (by decide) (fun c20 => ?_) (fun c20 => ?_)
        · refine at_aload_n dX11_person_30 rfl ?_
          refine at_get dX11_person_31 fl_X11_29 (zl_o rfl) rfl ?_
          refine at_callV0 (d := D - 1) dX11_person_34 mv_X11_111 (zl_o rfl) (Nat.le_of_ble_eq_true rfl) (zq_r0 (by omega) (by omega) (by omega)) ?_
          refine zc_logClear ?_
          refine at_aload_n dX11_person_37 rfl ?_
          refine at_aload_n dX11_person_38 rfl ?_
          refine at_get dX11_person_39 fl_X11_12 (zl_o rfl) rfl ?_
          refine at_iload_n dX11_person_42 rfl ?_
          refine at_callV1 (d := D - 1) dX11_person_43 mv_X11_114 (zl_q zQ9) (Nat.le_of_ble_eq_true rfl) (zq_r0 (by omega) (by omega) (by omega)) ?_
          refine zc_add (by omega) zQ9 (hQ1.1.1) (by omega) ?_
          refine at_callV1 (d := D - 1) dX11_person_46 mv_X11_117 (zl_o rfl) (Nat.le_of_ble_eq_true rfl) (zq_r0 (by omega) (by omega) (by omega)) ?_
          refine zc_accept ?_
          refine at_iret dX11_person_49 rfl (by omega) (by omega) ?_
          exact hp
        · cases c20
      · cases c4
end ZK17

