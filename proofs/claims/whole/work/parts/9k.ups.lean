/-! ===== a quay's rows while what is kept changes ===== -/
theorem zrkK_c {K K' : Nat → Int32} (e : ∀ k, k < 5 → K' (14 + k) = K (14 + k)) : zrkK K' = zrkK K := by
  funext y
  exact zrkN_c (fun k hk => by unfold alK; rw [e k hk]) y
section ZUP
variable {n b : Nat} {κ : zl_S} {ρ : Nat → zq_E} {K : Nat → Int32} {m hn t : Nat} {Ls : Nat → List zLC}
theorem zQc_name {j : Nat} {v : Int32} (h : zQc κ ρ n b K m hn t Ls) (hm : m ≤ 7) (hj : j < m) : zQc (zl_sa κ (b + 1) j v) ρ n b (upd K j v) m hn t Ls := by
  obtain ⟨⟨i0, i8, i11, i13⟩, a1, a2, a3, a4, a5, a6, a7, a8, a9, a10⟩ := h
  have o : ∀ c, c ≠ 1 → (zl_sa κ (b + 1) j v).2.1 (b + c) = κ.2.1 (b + c) := fun c hc => zla_o _ (by omega) _ _
  have k : ∀ q, 7 ≤ q → upd K j v q = K q := fun q hq => upd_o _ (by omega) _
  refine ⟨⟨i0, i8, i11, by rw [k 76 (by decide)]; exact i13⟩, fun p hp => ?_, fun q hq => ?_, fun p hp => ?_, fun q hq => ?_, fun q hq => ?_, ?_, ?_, fun q hq => ?_, a9, a10⟩
  · show (zl_sa κ (b + 1) j v).2.1 (b + 1) p = _
    rw [zla_s]
    by_cases e : p = j
    · subst e; rw [upd_s, upd_s]
    · rw [upd_o _ e, upd_o _ e]; exact a1 p hp
  · show (zl_sa κ (b + 1) j v).2.1 (b + 2) q = _
    rw [o 2 (by decide), k _ (by omega)]; exact a2 q hq
  · show (zl_sa κ (b + 1) j v).2.1 (b + 3) p = _
    rw [o 3 (by decide), zplace_c m (fun q _ => k _ (by omega))]; exact a3 p hp
  · show (zl_sa κ (b + 1) j v).2.1 (b + 4) q = _
    rw [o 4 (by decide), k _ (by omega)]; exact a4 q hq
  · show (zl_sa κ (b + 1) j v).2.1 (b + 5) q = _
    rw [o 5 (by decide), k _ (by omega)]; exact a5 q hq
  · show zOrd ((zl_sa κ (b + 1) j v).2.1 (b + 6)) _
    rw [o 6 (by decide), zrkK_c (fun q _ => k _ (by omega))]; exact a6
  · show (zl_sa κ (b + 1) j v).2.1 (b + 7) 0 = _ ∧ (zl_sa κ (b + 1) j v).2.1 (b + 7) 1 = _ ∧ (zl_sa κ (b + 1) j v).2.1 (b + 7) 2 = _
    rw [o 7 (by decide), k _ (by omega), k _ (by omega), k _ (by omega)]; exact a7
  · show (zl_sa κ (b + 1) j v).2.1 (b + 8) q = _ ∧ (zl_sa κ (b + 1) j v).2.1 (b + 9) q = _
    rw [o 8 (by decide), o 9 (by decide), k _ (by omega), k _ (by omega)]; exact a8 q hq
theorem zplace_at {K : Nat → Int32} {p : Int32} : ∀ m k, k < m → K (7 + k) = p → (∀ q, q < m → q ≠ k → K (7 + q) ≠ p) → zplace K p m = nI k
  | 0, _, h, _, _ => absurd h (by omega)
  | m + 1, k, hk, h1, h2 => by
    unfold zplace
    by_cases e : k = m
    · subst e; rw [if_pos h1]
    · rw [if_neg (h2 m (by omega) (fun g => e g.symm)), zplace_at m k (by omega) h1 (fun q hq => h2 q (by omega))]
theorem zplace_w {K : Nat → Int32} {k : Nat} (hC : zCk K m) (hI : zInj K m) (hk : k < m) : zplace K (nI (zW1 K k)) m = nI k := by
  have hm := hC.2.1
  refine zplace_at m k hk (hC.2.2.2 k hk).1 (fun q hq hne e => hne ?_)
  rw [(hC.2.2.2 q hq).1] at e
  have := (hC.2.2.2 q hq).2
  have := (hC.2.2.2 k hk).2
  exact hI q k hq hk ((nI_eq (by omega) (by omega)).mp e)
theorem zplace_no {K : Nat → Int32} {p : Int32} : ∀ m, (∀ q, q < m → K (7 + q) ≠ p) → zplace K p m = -1
  | 0, _ => rfl
  | m + 1, h => by
    unfold zplace
    rw [if_neg (h m (by omega)), zplace_no m (fun q hq => h q (by omega))]
/-- who stands where: who isn't at k or k + 1 stays -/
theorem zplace_swp {K : Nat → Int32} {k : Nat} {p : Int32} (h1 : K (7 + k) ≠ p) (h2 : K (7 + k + 1) ≠ p) : ∀ m, zplace (zswp K k) p m = zplace K p m
  | 0 => rfl
  | m + 1 => by
    unfold zplace
    rw [zplace_swp h1 h2 m]
    unfold zswp
    by_cases e1 : m = k + 1
    · subst e1
      rw [show 7 + (k + 1) = 7 + k + 1 by omega, upd_s, if_neg h1, if_neg h2]
    · rw [upd_o _ (by omega)]
      by_cases e2 : m = k
      · subst e2
        rw [upd_s, if_neg h2, if_neg h1]
      · rw [upd_o _ (by omega)]
theorem zQc_swp {k : Nat} (h : zQc κ ρ n b K m hn t Ls) (hC : zCk K m) (hI : zInj K m) (hk : k + 1 < m) : zQc (zuX κ b k (zW1 K k) (zW1 K (k + 1))) ρ n b (zswp K k) m hn t Ls := by
  have hm := hC.2.1
  obtain ⟨⟨i0, i8, i11, i13⟩, a1, a2, a3, a4, a5, a6, a7, a8, a9, a10⟩ := h
  have hw0 := hC.2.2.2 k (by omega)
  have hw1 := hC.2.2.2 (k + 1) hk
  have hne : zW1 K k ≠ zW1 K (k + 1) := fun e => by have := hI k (k + 1) (by omega) hk e; omega
  have o : ∀ c, c ≠ 2 → c ≠ 3 → (zuX κ b k (zW1 K k) (zW1 K (k + 1))).2.1 (b + c) = κ.2.1 (b + c) := fun c h2 h3 => by
    unfold zuX
    rw [zla_o _ (by omega), zla_o _ (by omega), zla_o _ (by omega), zla_o _ (by omega)]
  have o2 : (zuX κ b k (zW1 K k) (zW1 K (k + 1))).2.1 (b + 2) = upd (upd (κ.2.1 (b + 2)) k (nI (zW1 K (k + 1)))) (k + 1) (nI (zW1 K k)) := by
    unfold zuX
    rw [zla_o _ (by omega), zla_o _ (by omega), zla_s, zla_s]
  have o3 : (zuX κ b k (zW1 K k) (zW1 K (k + 1))).2.1 (b + 3) = upd (upd (κ.2.1 (b + 3)) (zW1 K (k + 1)) (nI k)) (zW1 K k) (nI (k + 1)) := by
    unfold zuX
    rw [zla_s, zla_s, zla_o _ (by omega), zla_o _ (by omega)]
  have kk : ∀ q, q < 7 ∨ 14 ≤ q → zswp K k q = K q := fun q hq => by
    unfold zswp
    rw [upd_o _ (by omega), upd_o _ (by omega)]
  have s0 : zswp K k (7 + k) = nI (zW1 K (k + 1)) := by
    unfold zswp
    rw [upd_o _ (by omega), upd_s]
    exact hw1.1
  have s1 : zswp K k (7 + (k + 1)) = nI (zW1 K k) := by
    unfold zswp
    rw [show 7 + (k + 1) = 7 + k + 1 by omega, upd_s]
    exact hw0.1
  have hC' := zCk_swp hC hk
  have hI' := zInj_swp hI hk
  have w0' : zW1 (zswp K k) k = zW1 K (k + 1) := by rw [zW1_swp, if_pos rfl]
  have w1' : zW1 (zswp K k) (k + 1) = zW1 K k := by rw [zW1_swp, if_neg (by omega), if_pos rfl]
  refine ⟨⟨i0, i8, i11, by rw [kk 76 (by omega)]; exact i13⟩, fun p hp => ?_, fun q hq => ?_, fun p hp => ?_, fun q hq => ?_, fun q hq => ?_, ?_, ?_, fun q hq => ?_, a9, a10⟩
  · show (zuX κ b k (zW1 K k) (zW1 K (k + 1))).2.1 (b + 1) p = _
    rw [o 1 (by decide) (by decide), kk _ (by omega)]; exact a1 p hp
  · show (zuX κ b k (zW1 K k) (zW1 K (k + 1))).2.1 (b + 2) q = _
    rw [o2]
    by_cases e1 : q = k + 1
    · subst e1; rw [upd_s, s1]
    · rw [upd_o _ e1]
      by_cases e2 : q = k
      · subst e2; rw [upd_s, s0]
      · rw [upd_o _ e2]
        unfold zswp
        rw [upd_o _ (by omega), upd_o _ (by omega)]
        exact a2 q hq
  · show (zuX κ b k (zW1 K k) (zW1 K (k + 1))).2.1 (b + 3) p = _
    rw [o3]
    by_cases e1 : p = zW1 K k
    · subst e1
      rw [upd_s, ← w1', zplace_w hC' hI' hk]
    · rw [upd_o _ e1]
      by_cases e2 : p = zW1 K (k + 1)
      · subst e2
        rw [upd_s, ← w0', zplace_w hC' hI' (by omega)]
      · rw [upd_o _ e2, zplace_swp]
        · exact a3 p hp
        · rw [hw0.1]; exact fun e => e1 ((nI_eq (by omega) (by omega)).mp e).symm
        · rw [show 7 + k + 1 = 7 + (k + 1) by omega, hw1.1]; exact fun e => e2 ((nI_eq (by omega) (by omega)).mp e).symm
  · show (zuX κ b k (zW1 K k) (zW1 K (k + 1))).2.1 (b + 4) q = _
    rw [o 4 (by decide) (by decide), kk _ (by omega)]; exact a4 q hq
  · show (zuX κ b k (zW1 K k) (zW1 K (k + 1))).2.1 (b + 5) q = _
    rw [o 5 (by decide) (by decide), kk _ (by omega)]; exact a5 q hq
  · show zOrd ((zuX κ b k (zW1 K k) (zW1 K (k + 1))).2.1 (b + 6)) _
    rw [o 6 (by decide) (by decide), zrkK_c (fun q _ => kk _ (by omega))]; exact a6
  · show (zuX κ b k (zW1 K k) (zW1 K (k + 1))).2.1 (b + 7) 0 = _ ∧ (zuX κ b k (zW1 K k) (zW1 K (k + 1))).2.1 (b + 7) 1 = _ ∧ (zuX κ b k (zW1 K k) (zW1 K (k + 1))).2.1 (b + 7) 2 = _
    rw [o 7 (by decide) (by decide), kk _ (by omega), kk _ (by omega), kk _ (by omega)]; exact a7
  · show (zuX κ b k (zW1 K k) (zW1 K (k + 1))).2.1 (b + 8) q = _ ∧ (zuX κ b k (zW1 K k) (zW1 K (k + 1))).2.1 (b + 9) q = _
    rw [o 8 (by decide) (by decide), o 9 (by decide) (by decide), kk _ (by omega), kk _ (by omega)]; exact a8 q hq
/-- the letters' places by an alphabet -/
theorem zrkN_at {al : Nat → Nat} (h : zpm al) {k : Nat} (hk : k < 5) : zrkN al (al k) = k := by
  unfold zrkN
  rcases (show k = 0 ∨ k = 1 ∨ k = 2 ∨ k = 3 ∨ k = 4 by omega) with rfl | rfl | rfl | rfl | rfl
  · rw [if_pos rfl]
  · rw [if_neg (h.2 0 1 (by decide) (by decide)), if_pos rfl]
  · rw [if_neg (h.2 0 2 (by decide) (by decide)), if_neg (h.2 1 2 (by decide) (by decide)), if_pos rfl]
  · rw [if_neg (h.2 0 3 (by decide) (by decide)), if_neg (h.2 1 3 (by decide) (by decide)), if_neg (h.2 2 3 (by decide) (by decide)), if_pos rfl]
  · rw [if_neg (h.2 0 4 (by decide) (by decide)), if_neg (h.2 1 4 (by decide) (by decide)), if_neg (h.2 2 4 (by decide) (by decide)), if_neg (h.2 3 4 (by decide) (by decide))]
theorem zQc_dec {k : Nat} (h : zQc κ ρ n b K m hn t Ls) (hA : zAl K) (hm : m ≤ 7) (hk : k ≤ 3) : zQc (zuT κ b k (alK K k) (alK K (k + 1))) ρ n b (zdec K k) m hn t Ls := by
  obtain ⟨⟨i0, i8, i11, i13⟩, a1, a2, a3, a4, a5, a6, a7, a8, a9, a10⟩ := h
  have hA' := zAl_dec hA hk
  have l0 := hA.2.1 k (by omega)
  have l1 := hA.2.1 (k + 1) (by omega)
  have o : ∀ c, c ≠ 5 → c ≠ 6 → (zuT κ b k (alK K k) (alK K (k + 1))).2.1 (b + c) = κ.2.1 (b + c) := fun c h2 h3 => by
    unfold zuT
    rw [zla_o _ (by omega), zla_o _ (by omega), zla_o _ (by omega), zla_o _ (by omega)]
  have o2 : (zuT κ b k (alK K k) (alK K (k + 1))).2.1 (b + 5) = upd (upd (κ.2.1 (b + 5)) k (nI (alK K (k + 1)))) (k + 1) (nI (alK K k)) := by
    unfold zuT
    rw [zla_o _ (by omega), zla_o _ (by omega), zla_s, zla_s]
  have o3 : (zuT κ b k (alK K k) (alK K (k + 1))).2.1 (b + 6) = upd (upd (κ.2.1 (b + 6)) (alK K (k + 1)) (nI k)) (alK K k) (nI (k + 1)) := by
    unfold zuT
    rw [zla_s, zla_s, zla_o _ (by omega), zla_o _ (by omega)]
  have kk : ∀ q, q < 14 ∨ 19 ≤ q → zdec K k q = K q := fun q hq => by
    unfold zdec
    rw [upd_o _ (by omega), upd_o _ (by omega)]
  have al' : ∀ q, q < 5 → alK (zdec K k) q = alK K (if q = k then k + 1 else if q = k + 1 then k else q) := fun q hq => by
    unfold alK
    rw [zdec_at]
  have a0' : alK (zdec K k) k = alK K (k + 1) := by rw [al' k (by omega), if_pos rfl]
  have a1' : alK (zdec K k) (k + 1) = alK K k := by rw [al' (k + 1) (by omega), if_neg (by omega), if_pos rfl]
  refine ⟨⟨i0, i8, i11, by rw [kk 76 (by omega)]; exact i13⟩, fun p hp => ?_, fun q hq => ?_, fun p hp => ?_, fun q hq => ?_, fun q hq => ?_, ?_, ?_, fun q hq => ?_, a9, a10⟩
  · show (zuT κ b k (alK K k) (alK K (k + 1))).2.1 (b + 1) p = _
    rw [o 1 (by decide) (by decide), kk _ (by omega)]; exact a1 p hp
  · show (zuT κ b k (alK K k) (alK K (k + 1))).2.1 (b + 2) q = _
    rw [o 2 (by decide) (by decide), kk _ (by omega)]; exact a2 q hq
  · show (zuT κ b k (alK K k) (alK K (k + 1))).2.1 (b + 3) p = _
    rw [o 3 (by decide) (by decide), zplace_c m (fun q _ => kk _ (by omega))]; exact a3 p hp
  · show (zuT κ b k (alK K k) (alK K (k + 1))).2.1 (b + 4) q = _
    rw [o 4 (by decide) (by decide), kk _ (by omega)]; exact a4 q hq
  · show (zuT κ b k (alK K k) (alK K (k + 1))).2.1 (b + 5) q = _
    rw [o2, zdec_at]
    by_cases e1 : q = k + 1
    · subst e1; rw [upd_s, if_neg (by omega), if_pos rfl]; exact (hA.1 k (by omega)).symm
    · rw [upd_o _ e1]
      by_cases e2 : q = k
      · subst e2; rw [upd_s, if_pos rfl]; exact (hA.1 (q + 1) (by omega)).symm
      · rw [upd_o _ e2, if_neg e2, if_neg e1]; exact a5 q hq
  · show zOrd ((zuT κ b k (alK K k) (alK K (k + 1))).2.1 (b + 6)) _
    rw [o3]
    intro y hy
    have a6 : zOrd (κ.2.1 (b + 6)) (zrkK K) := a6
    by_cases e1 : y = alK K k
    · subst e1
      rw [upd_s]
      unfold zr0 zrkK
      rw [if_neg (by omega), ← a1', zrkN_at hA'.2 (by omega)]
      rfl
    · rw [upd_o _ e1]
      by_cases e2 : y = alK K (k + 1)
      · subst e2
        rw [upd_s]
        unfold zr0 zrkK
        rw [if_neg (by omega), ← a0', zrkN_at hA'.2 (by omega)]
        rfl
      · rw [upd_o _ e2, a6 y hy]
        unfold zr0
        by_cases y0 : y = 0
        · rw [if_pos y0, if_pos y0]
        · rw [if_neg y0, if_neg y0]
          obtain ⟨q, hq, rfl⟩ : ∃ q, q < 5 ∧ y = alK K q := by
            rcases zpm_has hA.2 (show 1 ≤ y by omega) (show y ≤ 5 by omega) with rfl | rfl | rfl | rfl | rfl
            · exact ⟨0, by decide, rfl⟩
            · exact ⟨1, by decide, rfl⟩
            · exact ⟨2, by decide, rfl⟩
            · exact ⟨3, by decide, rfl⟩
            · exact ⟨4, by decide, rfl⟩
          have hqk : q ≠ k := fun e => e1 (by rw [e])
          have hqk1 : q ≠ k + 1 := fun e => e2 (by rw [e])
          have ea : alK (zdec K k) q = alK K q := by rw [al' q hq, if_neg hqk, if_neg hqk1]
          unfold zrkK
          rw [zrkN_at hA.2 hq, ← ea, zrkN_at hA'.2 hq]
  · show (zuT κ b k (alK K k) (alK K (k + 1))).2.1 (b + 7) 0 = _ ∧ (zuT κ b k (alK K k) (alK K (k + 1))).2.1 (b + 7) 1 = _ ∧ (zuT κ b k (alK K k) (alK K (k + 1))).2.1 (b + 7) 2 = _
    rw [o 7 (by decide) (by decide), kk _ (by omega), kk _ (by omega), kk _ (by omega)]; exact a7
  · show (zuT κ b k (alK K k) (alK K (k + 1))).2.1 (b + 8) q = _ ∧ (zuT κ b k (alK K k) (alK K (k + 1))).2.1 (b + 9) q = _
    rw [o 8 (by decide) (by decide), o 9 (by decide) (by decide), kk _ (by omega), kk _ (by omega)]; exact a8 q hq
theorem zQc_term {j : Nat} {v : Int32} (h : zQc κ ρ n b K m hn t Ls) (hm : m ≤ 7) (h8 : hn ≤ 8) (hj : j < 3) : zQc (zl_sa κ (b + 7) j v) ρ n b (upd K (ztAt j) v) m hn t Ls := by
  obtain ⟨⟨i0, i8, i11, i13⟩, a1, a2, a3, a4, a5, a6, a7, a8, a9, a10⟩ := h
  have o : ∀ c, c ≠ 7 → (zl_sa κ (b + 7) j v).2.1 (b + c) = κ.2.1 (b + c) := fun c hc => zla_o _ (by omega) _ _
  have ht : ztAt j = 19 ∨ ztAt j = 71 ∨ ztAt j = 72 := by rcases (show j = 0 ∨ j = 1 ∨ j = 2 by omega) with rfl | rfl | rfl <;> simp [ztAt]
  have k : ∀ q, q ≠ 19 → q ≠ 71 → q ≠ 72 → upd K (ztAt j) v q = K q := fun q h1 h2 h3 => upd_o _ (by omega) _
  refine ⟨⟨i0, i8, i11, by rw [k 76 (by decide) (by decide) (by decide)]; exact i13⟩, fun p hp => ?_, fun q hq => ?_, fun p hp => ?_, fun q hq => ?_, fun q hq => ?_, ?_, ?_, fun q hq => ?_, a9, a10⟩
  · show (zl_sa κ (b + 7) j v).2.1 (b + 1) p = _
    rw [o 1 (by decide), k _ (by omega) (by omega) (by omega)]; exact a1 p hp
  · show (zl_sa κ (b + 7) j v).2.1 (b + 2) q = _
    rw [o 2 (by decide), k _ (by omega) (by omega) (by omega)]; exact a2 q hq
  · show (zl_sa κ (b + 7) j v).2.1 (b + 3) p = _
    rw [o 3 (by decide), zplace_c m (fun q _ => k _ (by omega) (by omega) (by omega))]; exact a3 p hp
  · show (zl_sa κ (b + 7) j v).2.1 (b + 4) q = _
    rw [o 4 (by decide), k _ (by omega) (by omega) (by omega)]; exact a4 q hq
  · show (zl_sa κ (b + 7) j v).2.1 (b + 5) q = _
    rw [o 5 (by decide), k _ (by omega) (by omega) (by omega)]; exact a5 q hq
  · show zOrd ((zl_sa κ (b + 7) j v).2.1 (b + 6)) _
    rw [o 6 (by decide), zrkK_c (fun q _ => k _ (by omega) (by omega) (by omega))]; exact a6
  · show (zl_sa κ (b + 7) j v).2.1 (b + 7) 0 = _ ∧ (zl_sa κ (b + 7) j v).2.1 (b + 7) 1 = _ ∧ (zl_sa κ (b + 7) j v).2.1 (b + 7) 2 = _
    rw [zla_s]
    have a7 : κ.2.1 (b + 7) 0 = K 19 ∧ κ.2.1 (b + 7) 1 = K 71 ∧ κ.2.1 (b + 7) 2 = K 72 := a7
    rcases (show j = 0 ∨ j = 1 ∨ j = 2 by omega) with rfl | rfl | rfl <;> simp [ztAt, upd, a7]
  · show (zl_sa κ (b + 7) j v).2.1 (b + 8) q = _ ∧ (zl_sa κ (b + 7) j v).2.1 (b + 9) q = _
    rw [o 8 (by decide), o 9 (by decide), k _ (by omega) (by omega) (by omega), k _ (by omega) (by omega) (by omega)]; exact a8 q hq
/-- what isn't of deeds stays in order -/
theorem zKW_20 {K' : Nat → Int32} (h : zKW K m hn t Ls) (hK : zKI K' m (zLoK K Ls)) (e : ∀ j, 20 ≤ j → K' j = K j) : zKW K' m hn t Ls := by
  obtain ⟨h1, h2, h3, h4, ⟨s, h5, h5'⟩, h6, h7, ⟨g1, g2, g3⟩, g4, g5, g6, g7⟩ := h
  obtain ⟨k1, k2, k3, k4, k5, -⟩ := hK
  refine ⟨k1, k2, k3, k4, ⟨s, h5, (e 71 (by decide)).trans h5'⟩, k5, fun p y hp y1 y5 => ?_, ⟨(e 74 (by decide)).trans g1, g2, fun i hi => ?_⟩, (e 75 (by decide)).trans g4, g5, ?_, fun u hu => zLawAt_c (g7 u hu) (fun j hj => e j (by omega))⟩
  · unfold sdK
    rw [e _ (by omega)]
    exact h7 p y hp y1 y5
  · unfold haK hbK
    rw [e _ (by omega), e _ (by omega)]
    exact g3 i hi
  · rw [e 76 (by decide)]
    exact g6
theorem zLoK_20 {K' : Nat → Int32} (e : K' 76 = K 76) : zLoK K' Ls = zLoK K Ls := by
  unfold zLoK
  rw [e]
theorem zKW_d {h : Nat} {a b c : Int32} (g : zKW K m hn t Ls) (hC : zdC h a b c K m (zLoK K Ls) = 0) : zKW (zdK h a b c K) m hn t Ls := zKW_20 g (zd_ok (zKW_KI g) hC).1 (fun _ hj => zdK_hi (zKW_KI g) hC hj)
end ZUP

