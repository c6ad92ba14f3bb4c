/-! ===== calls on both sides: images ===== -/
section ZUS2
variable {f : Nat → zq_E} {B : Nat} {i i' : Nat → Int32} {A A' : Nat → Nat → Int32} {T T' : Nat → Option Nat}
theorem zus_up (e : zq_E) : zu_set (va_up f B e) B i A T = zu_set f B i A T := by
  funext q
  unfold zu_set
  by_cases h : q = B
  · rw [if_pos h, if_pos h]
  · rw [if_neg h, if_neg h, va_up_ne _ _ h]
theorem zus_in {g : Nat → zq_E} {q : Nat} (h1 : B ≤ q) (h2 : q ≤ B + 10) : zu_set f B i A T q = zu_set g B i A T q := by
  unfold zu_set
  by_cases h0 : q = B
  · rw [if_pos h0, if_pos h0]
  · rw [if_neg h0, if_neg h0]
    by_cases h1 : q = B + 10
    · rw [if_pos h1, if_pos h1]
    · rw [if_neg h1, if_neg h1, if_pos (by omega), if_pos (by omega)]
theorem zus_us : zu_set (zu_set f B i' A' T') B i A T = zu_set f B i A T := by
  funext q
  by_cases h : B ≤ q ∧ q ≤ B + 10
  · exact zus_in h.1 h.2
  · rw [zus_x (by omega), zus_x (by omega), zus_x (by omega)]
theorem zus_hi {κ : zl_S} {ρ : Nat → zq_E} (hB : 70 ≤ B) : zu_set (zl_h κ ρ) B i A T = zl_h κ (zu_set ρ B i A T) := by
  funext q
  by_cases h : B ≤ q ∧ q ≤ B + 10
  · rw [zl_hi _ _ (Or.inr (by omega))]
    unfold zu_set
    by_cases h0 : q = B
    · rw [if_pos h0, if_pos h0]
    · rw [if_neg h0, if_neg h0]
      by_cases h1 : q = B + 10
      · rw [if_pos h1, if_pos h1]
      · rw [if_neg h1, if_neg h1, if_pos (by omega), if_pos (by omega)]
  · rw [zus_x (by omega)]
    unfold zl_h
    rw [zus_x (by omega)]
theorem zus_m {σ : zm_S} {ρ : Nat → zq_E} (hB : 98 ≤ B) : zu_set (zm_h σ ρ) B i A T = zm_h σ (zu_set ρ B i A T) := by
  funext q
  by_cases h : B ≤ q ∧ q ≤ B + 10
  · rw [zm_hx _ _ (Or.inr (by omega))]
    unfold zu_set
    by_cases h0 : q = B
    · rw [if_pos h0, if_pos h0]
    · rw [if_neg h0, if_neg h0]
      by_cases h1 : q = B + 10
      · rw [if_pos h1, if_pos h1]
      · rw [if_neg h1, if_neg h1, if_pos (by omega), if_pos (by omega)]
  · rw [zus_x (by omega)]
    unfold zm_h
    rw [zus_x (by omega)]
theorem zus_UA : zUA (zu_set f B i A T) B i A T := ⟨zus_o, fun c h1 h9 => zus_a h1 h9, zus_t⟩
/-- where quays stand, when one of them is written -/
theorem zus_7 {q : Nat} {fs : List Value} (h : zu_set f B i A T q = .inr (7, fs)) : q = B ∨ ((q < B ∨ B + 10 < q) ∧ f q = .inr (7, fs)) := by
  by_cases h0 : q = B
  · exact Or.inl h0
  · by_cases h1 : B < q ∧ q ≤ B + 10
    · exfalso
      by_cases h2 : q = B + 10
      · rw [h2, zus_t] at h; cases h
      · obtain ⟨c, rfl⟩ : ∃ c, q = B + c := ⟨q - B, by omega⟩
        rw [zus_a (by omega) (by omega)] at h; cases h
    · rw [zus_x (by omega)] at h
      exact Or.inr ⟨by omega, h⟩
end ZUS2
section ZK21
variable {l : Launch} {G : zq_G} {D n n' b : Nat} {κ κ' : zl_S} {σ τ : zm_S} {ρ ρ' : Nat → zq_E} {K K' : Nat → Int32} {m hn t z : Nat} {Ls : Nat → List zLC} {Λ Λ' : List Nat} {post : Option Value → Nat → (Nat → zq_E) → Prop} {i i' : Nat → Int32} {A A' : Nat → Nat → Int32} {T T' : Nat → Option Nat} {B : Nat}
theorem zLx_im {tx : Nat} {L : List zLC} (hB : 98 ≤ B) (hn' : n ≤ n') (hq : (∃ fs, ρ B = .inr (7, fs)) ∨ n + 8 ≤ B) (h : zLx ρ n tx L) : zLx (zu_set ρ B i A T) n' tx L := by
  intro ρ2 h2
  refine h ρ2 (fun k k1 k2 k3 => ?_)
  have hk : k < B ∨ B + 10 < k := by
    rcases hq with ⟨fs, hq⟩ | hq
    · by_cases g : B ≤ k ∧ k ≤ B + 10
      · exact absurd ⟨B, fs, hB, g.1, g.2, hq⟩ k3
      · omega
    · omega
  refine (h2 k k1 (by omega) (fun ⟨C, fs, c1, c2, c3, c4⟩ => ?_)).trans (zus_x hk)
  rcases zus_7 c4 with e | ⟨e1, e2⟩
  · omega
  · exact k3 ⟨C, fs, c1, c2, c3, e2⟩
theorem zQR_im {i0 : Nat → Int32} {A0 : Nat → Nat → Int32} {T0 : Nat → Option Nat} (hB : 98 ≤ B) (hn' : n ≤ n') (hq : (∃ fs, ρ B = .inr (7, fs)) ∨ n + 8 ≤ B) (hrow : ∀ c, 1 ≤ c → c ≤ 10 → n + 8 ≤ B ∨ ∀ fs, ρ (B + c) ≠ .inr (10, fs)) (h : zQR ρ n i0 A0 T0 K m hn t Ls) : zQR (zu_set ρ B i A T) n' i0 A0 T0 K m hn t Ls := by
  obtain ⟨a0, a1, a2, a3, a4, a5, a6, a7, a8, a9, a10⟩ := h
  refine ⟨a0, a1, a2, a3, a4, a5, a6, a7, a8, fun u hu => ?_, fun u hu => ?_⟩
  · obtain ⟨tx, e1, e2⟩ := a9 u hu
    exact ⟨tx, e1, zLx_im hB hn' hq e2⟩
  · rcases a10 u hu with e | ⟨tx, fs, e1, e2, e3, e4⟩
    · exact Or.inl e
    · refine Or.inr ⟨tx, fs, e1, e2, by omega, ?_⟩
      rw [zus_x]
      · exact e4
      · by_cases g : B ≤ tx ∧ tx ≤ B + 10
        · exfalso
          by_cases g0 : tx = B
          · rcases hq with ⟨fs', hq⟩ | hq
            · rw [g0, hq] at e4; cases e4
            · omega
          · rcases hrow (tx - B) (by omega) (by omega) with hr | hr
            · omega
            · rw [show B + (tx - B) = tx by omega] at hr
              exact hr fs e4
        · omega
theorem zI1_im (hB : 98 ≤ B) (hn' : n ≤ n') (hq : (∃ fs, ρ B = .inr (7, fs)) ∨ n + 8 ≤ B) (hrow : ∀ c, 1 ≤ c → c ≤ 10 → n + 8 ≤ B ∨ ∀ fs, ρ (B + c) ≠ .inr (10, fs)) (hd : ∀ C, κ.2.2 20 b = some C → B + 10 < C ∨ C + 10 < B) (h : zI1 κ σ ρ n b) : zI1 κ σ (zu_set ρ B i A T) n' b := by
  rcases h with h | ⟨h0, C, i1, A1, T1, m1, hn1, t1, Ls1, K1, g1, g2, g3, ⟨u1, u2, u3⟩, g5, g6, g7⟩
  · exact Or.inl h
  · have hd := hd C g1
    exact Or.inr ⟨h0, C, i1, A1, T1, m1, hn1, t1, Ls1, K1, g1, g2, by omega, ⟨(zus_x (by omega)).trans u1, fun c c1 c9 => (zus_x (by omega)).trans (u2 c c1 c9), (zus_x (by omega)).trans u3⟩, g5, g6, zQR_im hB hn' hq hrow g7⟩
theorem zI1_s (h : zI1 κ σ ρ n b) (e1 : κ'.2.2 20 b = κ.2.2 20 b) (e2 : τ.2.1 74 b = σ.2.1 74 b) (e3 : ∀ j, j < 5684 → τ.2.1 73 (5684 * b + j) = σ.2.1 73 (5684 * b + j)) : zI1 κ' τ ρ n b := by
  unfold zI1 at h ⊢
  rw [e1, e2]
  rcases h with h | ⟨h0, C, i1, A1, T1, m1, hn1, t1, Ls1, K1, g1, g2, g3, g4, g5, g6, g7⟩
  · exact Or.inl h
  · exact Or.inr ⟨h0, C, i1, A1, T1, m1, hn1, t1, Ls1, K1, g1, g2, g3, g4, fun j hj => (g5 j hj).trans (e3 j hj).symm, g6, g7⟩
theorem zIV_img {k : Nat} (hk : k < 2) (h : zIV n κ σ ρ K m hn t z Ls Λ) (hn' : n ≤ n') (hB : 98 ≤ B) (hB2 : B + 10 < n' + 8) (hq : (∃ fs, ρ B = .inr (7, fs)) ∨ n + 8 ≤ B) (hrow : ∀ c, 1 ≤ c → c ≤ 10 → n + 8 ≤ B ∨ ∀ fs, ρ (B + c) ≠ .inr (10, fs)) (hE : zUE i (κ.1 9) A (fun c => κ.2.1 (9 + c)) T (κ.2.2 (9 + 10))) (hd : ∀ C, κ.2.2 20 (1 - k) = some C → B + 10 < C ∨ C + 10 < B) (hqn : ∀ C fs, n + 8 ≤ C → C < n' + 8 → (C < B ∨ B + 10 < C) → ρ C ≠ .inr (7, fs)) : zIV n' (zl_sr κ 20 k (some B)) (zm_sa (zsA σ 73 (zcp (σ.2.1 73) K (5684 * k) 0 5684)) 74 k (nI 1)) (zu_set ρ B i A T) K m hn t z Ls Λ := by
  have s73 : (zm_sa (zsA σ 73 (zcp (σ.2.1 73) K (5684 * k) 0 5684)) 74 k (nI 1)).2.1 73 = zcp (σ.2.1 73) K (5684 * k) 0 5684 := (zsA_o _ (by decide) _).trans (zsA_s _ _ _)
  have s74 : (zm_sa (zsA σ 73 (zcp (σ.2.1 73) K (5684 * k) 0 5684)) 74 k (nI 1)).2.1 74 = upd (σ.2.1 74) k (nI 1) := by
    refine (zsA_s _ _ _).trans ?_
    rw [zsA_o _ (by decide)]
  have so : ∀ a, a ≠ 73 → a ≠ 74 → (zm_sa (zsA σ 73 (zcp (σ.2.1 73) K (5684 * k) 0 5684)) 74 k (nI 1)).2.1 a = σ.2.1 a := fun a h1 h2 => (zsA_o _ h2 _).trans (zsA_o _ h1 _)
  have s1 : (zm_sa (zsA σ 73 (zcp (σ.2.1 73) K (5684 * k) 0 5684)) 74 k (nI 1)).1 = σ.1 := rfl
  generalize hτ : zm_sa (zsA σ 73 (zcp (σ.2.1 73) K (5684 * k) 0 5684)) 74 k (nI 1) = τ at *
  have r20 : (zl_sr κ 20 k (some B)).2.2 20 = va_up (κ.2.2 20) k (some B) := zlr1_s _ _ _ _
  have r19 : (zl_sr κ 20 k (some B)).2.2 19 = κ.2.2 19 := zlr1_o _ (by decide) _ _
  obtain ⟨⟨a1, a2, a3, a4⟩, b1, c1, d1, e1, f1, g1, i1, i2, i3, i4⟩ := h
  have hm7 := b1.1.2.1
  have hn8 := b1.2.2.2.2.2.2.2.1.2.1
  have ht6 := b1.2.2.2.2.2.2.2.2.2.1
  have hQ := zQR_im (i := i) (A := A) (T := T) hB hn' hq hrow c1
  have hother : ∀ b, b < 2 → b ≠ k → zI1 κ σ ρ n b → zI1 (zl_sr κ 20 k (some B)) τ (zu_set ρ B i A T) n' b := fun b hb hbk hi => zI1_s (zI1_im hB hn' hq hrow (fun C hC => hd C (by rw [show 1 - k = b by omega]; exact hC)) hi) (by rw [r20, va_up_ne _ _ hbk]) (by rw [s74, upd_o _ hbk]) (fun j hj => by rw [s73, zcp_at, if_neg (by omega)])
  have hself : zI1 (zl_sr κ 20 k (some B)) τ (zu_set ρ B i A T) n' k := by
    refine Or.inr ⟨by rw [s74, upd_s]; decide, B, i, A, T, m, hn, t, Ls, K, by rw [r20, va_up_self], hB, hB2, zus_UA, fun j hj => ?_, b1, zQR_e hQ hm7 hn8 ht6 hE⟩
    rw [s73, zcp_at, if_pos (by omega)]
    congr 1
    omega
  refine ⟨⟨by omega, a2, by rw [so 72 (by decide) (by decide)]; exact a3, fun y y1 y5 => by rw [so 76 (by decide) (by decide)]; exact a4 y y1 y5⟩, b1, ?_, ?_, ?_, ?_, ?_, ?_⟩
  · unfold zQc at c1 ⊢
    rw [show (zl_sr κ 20 k (some B)).2.2 (9 + 10) = κ.2.2 (9 + 10) from r19]
    exact hQ
  · unfold zLG at d1 ⊢
    rw [s1, so 94 (by decide) (by decide)]
    exact d1
  · unfold zTT zWr at e1 ⊢
    rw [s1, so 78 (by decide) (by decide), so 77 (by decide) (by decide)]
    exact e1
  · unfold zST at f1 ⊢
    rw [s1, so 71 (by decide) (by decide)]
    exact f1
  · unfold zPP at g1 ⊢
    rw [s1, so 97 (by decide) (by decide)]
    exact g1
  · refine ⟨?_, ?_, fun X Y hX hY => ?_, fun C fs h1 h2 h3 => ?_⟩
    · by_cases e : 0 = k
      · subst e; exact hself
      · exact hother 0 (by decide) e i1
    · by_cases e : 1 = k
      · subst e; exact hself
      · exact hother 1 (by decide) e i2
    · rw [r20] at hX hY
      rcases (show k = 0 ∨ k = 1 by omega) with rfl | rfl
      · rw [va_up_self] at hX
        rw [va_up_ne _ _ (by decide)] at hY
        cases hX
        exact hd Y hY
      · rw [va_up_self] at hY
        rw [va_up_ne _ _ (by decide)] at hX
        cases hY
        have := hd X hX
        omega
    · rcases zus_7 h3 with e | ⟨e1', e2⟩
      · rw [e]; exact hB2
      · rcases Nat.lt_or_ge C (n + 8) with g | g
        · have := i4 C fs h1 g e2
          omega
        · exact absurd e2 (hqn C fs g h2 e1')
theorem zsr_0 (κ : zl_S) (a i : Nat) : zl_sr κ a i (κ.2.2 a i) = κ := by
  refine Prod.ext rfl (Prod.ext rfl ?_)
  funext p j
  by_cases e : p = a
  · subst e
    show va_up κ.2.2 p (va_up (κ.2.2 p) i (κ.2.2 p i)) p j = _
    rw [va_up_self]
    by_cases g : j = i
    · rw [g, va_up_self]
    · rw [va_up_ne _ _ g]
  · show va_up κ.2.2 a (va_up (κ.2.2 a) i (κ.2.2 a i)) p j = _
    rw [va_up_ne _ _ e]
end ZK21
theorem zq_i7 : Cond.instantiable RX7 14 ∈ zq_ws := zq_in (zq_t1 (List.mem_of_getElem? (i := 31) rfl)) rfl
theorem zq_n7 : Cond.initialized RX7 ∈ zq_ws := zq_in (zq_t1 (List.mem_of_getElem? (i := 2) rfl)) rfl
theorem zq_vo_7 : zq_ws.all (zq_vo yX7_init) = true := by decide +kernel
section ZK22
variable {l : Launch} {G : zq_G} {D n n' b : Nat} {κ κ' : zl_S} {σ τ : zm_S} {ρ ρ' : Nat → zq_E} {K K' : Nat → Int32} {m hn t z : Nat} {Ls : Nat → List zLC} {Λ Λ' : List Nat}
theorem zk_image1 {v : Int32} {k : Nat} (hk : k < 2) (ev : v = nI k) (hD : 88 ≤ D) (h : zIV n κ σ ρ K m hn t z Ls Λ) (hi : zI1 κ σ ρ n k) (hd0 : ∀ B C, κ.2.2 20 k = some B → κ.2.2 20 (1 - k) = some C → B + 10 < C ∨ C + 10 < B) (hi2 : zI1 κ σ ρ n (1 - k)) : zCase l G D 11 106 yX11_image yX12_image [.int v] n κ σ ρ := by
  intro P1 h1
  subst ev
  have n90 := h.1.1
  have eK := h.1.2.2.1
  have hok : (decide (nI 0 ≤ nI k) && decide (nI k ≤ nI 1)) = true := zlies_i (a := 0) (b := 1) (by decide) (by decide) (Nat.zero_le _) (by omega)
  have hf98 : ∀ (κ' : zl_S) (ρ' : Nat → zq_E) j, 98 ≤ j → zl_h κ' (zm_h σ ρ') j = ρ' j := fun κ' ρ' j hj => by rw [zl_hi _ _ (Or.inr (by omega)), zm_hx _ _ (Or.inr hj)]
  have hmod : ∀ κ' ρ' n', zIV n' κ' (zm_sa (zsA σ 73 (zcp (σ.2.1 73) K (5684 * k) 0 5684)) 74 k (nI 1)) ρ' K m hn t z Ls Λ → P1 (some (.int (nI 0))) n' (zl_h (zl_si κ' 8 18 (nI 0)) (zm_h σ ρ')) := fun κ' ρ' n' hiv => h1 _ n' _ (by exact ⟨rfl, _, rfl⟩) (fun P2 h2 => by
    rw [zlm]
    refine zm_image (by omega) (fun f => ?_) (fun b hb eb => ?_)
    · rw [hok] at f; cases f
    · rw [show b = k from ((nI_eq (by omega) (by omega)).mp eb).symm, eK, ← zlm]
      exact h2 _ _ _ _ (zfin (zIV_acc hiv)))
  have htx : ∀ (f : Nat → zq_E) (B : Nat), (∀ j, 98 ≤ j → j < n + 8 → (j < B ∨ B + 10 < j) → f j = ρ j) → (∀ tx, 98 ≤ tx → tx < n + 8 → (∃ fs, ρ tx = .inr (10, fs)) → tx < B ∨ B + 10 < tx) → ∀ j, j < 6 → κ.2.2 (9 + 10) j = none ∨ ∃ t fs, κ.2.2 (9 + 10) j = some t ∧ f t = .inr (10, fs) ∧ (t < B ∨ B + 10 < t) := fun f B hf ho j hj => by
    rcases h.2.2.1.2.2.2.2.2.2.2.2.2.2 j hj with e | ⟨tx, fs, e1, e2, e3, e4⟩
    · exact Or.inl e
    · have := ho tx e2 e3 ⟨fs, e4⟩
      exact Or.inr ⟨tx, fs, e1, (hf tx e2 e3 this).trans e4, this⟩
  rcases hi with ⟨i1, i2⟩ | ⟨i1, B, i, A, T, m1, hn1, t1, Ls1, K1, g1, g2, g3, g4, g5, g6, g7⟩
  · have hfin : ∀ i2 A2 T2, zUE i2 (κ.1 9) A2 (fun c => κ.2.1 (9 + c)) T2 (κ.2.2 (9 + 10)) → P1 (some (.int (nI 0))) (n + 1 + 1 + 1 + 1 + 1 + 1 + 1 + 1 + 1 + 1 + 1) (zl_h (zl_si (zl_sr κ 20 k (some (n + 8))) 8 18 (nI 0)) (zm_h σ (zu_set ρ (n + 8) i2 A2 T2))) := fun i2 A2 T2 hE => hmod _ _ _ (zIV_img hk h (by omega) (by omega) (by omega) (Or.inr (Nat.le_refl _)) (fun c _ _ => Or.inl (Nat.le_refl _)) hE (fun C hC => by
        rcases hi2 with ⟨_, j2⟩ | ⟨_, B2, _, _, _, _, _, _, _, _, q1, q2, q3, _⟩
        · rw [j2] at hC; cases hC
        · rw [q1] at hC; cases hC; omega) (fun C fs c1 c2 c3 => by omega))
    refine zq_enter (cc := cX11_image) (nL := 3) (ret := (some .int)) cw_X11_image (by decide) rfl (Nat.le_of_ble_eq_true rfl) ?_
    refine at_iload_n dX11_image_0 rfl ?_
    refine at_if_eqN (tgt := 15) dX11_image_1 (by decide) (by omega) (fun c1 => ?_) (fun c1 => ?_)
    · refine at_aload_n dX11_image_15 rfl ?_
      refine at_get dX11_image_16 fl_X11_16 (zl_o rfl) rfl ?_
      refine at_iload_n dX11_image_19 rfl ?_
      refine at_aaldN dX11_image_20 rfl (by decide) (fun _ => rfl) (by decide) rfl (by omega) ?_
      rw [i2]
      refine at_astore_nN dX11_image_21 rfl (by decide) ?_
      refine at_aload_nN dX11_image_22 rfl ?_
      refine at_ifnonnullN dX11_image_23 ?_
      refine at_new (ci := 7) (T := TX7) (N := 14) (fs := [.int 0, .null, .null, .null, .null, .null, .null, .null, .int 0, .null, .null, .int 0, .null, .int 0]) dX11_image_26 rfl cl_X11_9 zq_i7 zq_n7 (fun G j hj => ?_) (by show 0 + 1 ≤ 11; omega) (by show 0 + 14 ≤ 106; omega) ?_
      · rcases (show j = 0 ∨ j = 1 ∨ j = 2 ∨ j = 3 ∨ j = 4 ∨ j = 5 ∨ j = 6 ∨ j = 7 ∨ j = 8 ∨ j = 9 ∨ j = 10 ∨ j = 11 ∨ j = 12 ∨ j = 13 by omega) with rfl | rfl | rfl | rfl | rfl | rfl | rfl | rfl | rfl | rfl | rfl | rfl | rfl | rfl <;> rfl
      refine at_dup dX11_image_29 rfl ?_
      refine at_callC (d := D - 1) [] dX11_image_30 mc_X11_11 rfl (Nat.le_of_ble_eq_true rfl) ⟨by show D - 1 + 1 ≤ D; omega, by show 60 * (D - 1) + 59 ≤ 60 * D; omega, by show 0 + 1 + 10 ≤ 11; omega, by show 0 + 14 + 92 ≤ 106; omega⟩ (zq_vo_ret zq_vo_7) ?_
      refine zc_quayInit (by omega) (by omega) (va_up_self _ _ _) (fun A0 _ => ?_)
      rw [zus_up, zus_hi (by omega), zus_m (by omega)]
      have hQo : ∀ κ', zl_h κ' (zm_h σ (zu_set ρ (n + 8) zqI0 A0 (fun _ => none))) (n + 8) = .inr (7, zu_fs zqI0 (n + 8)) := fun κ' => (hf98 _ _ _ (by omega)).trans zus_o
      have hr20 : zl_h κ (zm_h σ (zu_set ρ (n + 8) zqI0 A0 (fun _ => none))) 20 = .inl (5, 2, .inr (.inr (.inr (.inr (κ.2.2 20))))) := rfl
      refine at_astore_n dX11_image_33 rfl (by decide) ?_
      refine at_aload_n dX11_image_34 rfl ?_
      refine at_get dX11_image_35 fl_X11_16 (zl_o rfl) rfl ?_
      refine at_iload_n dX11_image_38 rfl ?_
      refine at_aload_n dX11_image_39 rfl ?_
      refine at_aast (r := (RX7, TX7, 14)) dX11_image_40 hr20 (by decide) (fun _ => rfl) (hQo κ) rfl (pk_in k 2 hk) ?_
      rw [nI_clamp (by omega), zl_up_r rfl]
      refine at_aload_n dX11_image_41 rfl ?_
      refine at_aload_n dX11_image_42 rfl ?_
      refine at_get dX11_image_43 fl_X11_12 (zl_o rfl) rfl ?_
      refine at_callV1 (d := D - 1) dX11_image_46 mv_X11_196 (hQo _) (Nat.le_of_ble_eq_true rfl) (zq_r0 (by omega) (by omega) (by omega)) ?_
      refine zc_copyFrom (i := zqI0) (A := A0) (T := fun _ => none) (by omega) (Or.inr (by omega)) ⟨hQo _, fun c c1 c9 => (hf98 _ _ _ (by omega)).trans (zus_a c1 c9), (hf98 _ _ _ (by omega)).trans zus_t⟩ (zUA_c zQ9) (htx _ (n + 8) (fun j j1 j2 j3 => (hf98 _ _ _ j1).trans (zus_x j3)) (fun tx _ t2 _ => Or.inl t2)) (fun i2 A2 T2 hE => ?_)
      rw [zus_hi (by omega), zus_m (by omega), zus_us]
      have hp := hfin i2 A2 T2 hE
      refine at_aload_n dX11_image_49 rfl ?_
      refine at_iconst dX11_image_50 (v := nI 0) (by decide) ?_
      refine at_callV1 (d := D - 1) dX11_image_51 mv_X11_117 (zl_o rfl) (Nat.le_of_ble_eq_true rfl) (zq_r0 (by omega) (by omega) (by omega)) ?_
      refine zc_accept ?_
      refine at_iret dX11_image_54 rfl (by omega) (by omega) ?_
      exact hp
    · refine at_iload_n dX11_image_4 rfl ?_
      refine at_iconst dX11_image_5 (v := nI 1) (by decide) ?_
      refine at_eqN (tgt := 15) dX11_image_6 (by decide) (by omega) (by omega) (fun c6 => ?_) (fun c6 => ?_)
      · refine at_aload_n dX11_image_15 rfl ?_
        refine at_get dX11_image_16 fl_X11_16 (zl_o rfl) rfl ?_
        refine at_iload_n dX11_image_19 rfl ?_
        refine at_aaldN dX11_image_20 rfl (by decide) (fun _ => rfl) (by decide) rfl (by omega) ?_
        rw [i2]
        refine at_astore_nN dX11_image_21 rfl (by decide) ?_
        refine at_aload_nN dX11_image_22 rfl ?_
        refine at_ifnonnullN dX11_image_23 ?_
        refine at_new (ci := 7) (T := TX7) (N := 14) (fs := [.int 0, .null, .null, .null, .null, .null, .null, .null, .int 0, .null, .null, .int 0, .null, .int 0]) dX11_image_26 rfl cl_X11_9 zq_i7 zq_n7 (fun G j hj => ?_) (by show 0 + 1 ≤ 11; omega) (by show 0 + 14 ≤ 106; omega) ?_
        · rcases (show j = 0 ∨ j = 1 ∨ j = 2 ∨ j = 3 ∨ j = 4 ∨ j = 5 ∨ j = 6 ∨ j = 7 ∨ j = 8 ∨ j = 9 ∨ j = 10 ∨ j = 11 ∨ j = 12 ∨ j = 13 by omega) with rfl | rfl | rfl | rfl | rfl | rfl | rfl | rfl | rfl | rfl | rfl | rfl | rfl | rfl <;> rfl
        refine at_dup dX11_image_29 rfl ?_
        refine at_callC (d := D - 1) [] dX11_image_30 mc_X11_11 rfl (Nat.le_of_ble_eq_true rfl) ⟨by show D - 1 + 1 ≤ D; omega, by show 60 * (D - 1) + 59 ≤ 60 * D; omega, by show 0 + 1 + 10 ≤ 11; omega, by show 0 + 14 + 92 ≤ 106; omega⟩ (zq_vo_ret zq_vo_7) ?_
        refine zc_quayInit (by omega) (by omega) (va_up_self _ _ _) (fun A0 _ => ?_)
        rw [zus_up, zus_hi (by omega), zus_m (by omega)]
        have hQo : ∀ κ', zl_h κ' (zm_h σ (zu_set ρ (n + 8) zqI0 A0 (fun _ => none))) (n + 8) = .inr (7, zu_fs zqI0 (n + 8)) := fun κ' => (hf98 _ _ _ (by omega)).trans zus_o
        have hr20 : zl_h κ (zm_h σ (zu_set ρ (n + 8) zqI0 A0 (fun _ => none))) 20 = .inl (5, 2, .inr (.inr (.inr (.inr (κ.2.2 20))))) := rfl
        refine at_astore_n dX11_image_33 rfl (by decide) ?_
        refine at_aload_n dX11_image_34 rfl ?_
        refine at_get dX11_image_35 fl_X11_16 (zl_o rfl) rfl ?_
        refine at_iload_n dX11_image_38 rfl ?_
        refine at_aload_n dX11_image_39 rfl ?_
        refine at_aast (r := (RX7, TX7, 14)) dX11_image_40 hr20 (by decide) (fun _ => rfl) (hQo κ) rfl (pk_in k 2 hk) ?_
        rw [nI_clamp (by omega), zl_up_r rfl]
        refine at_aload_n dX11_image_41 rfl ?_
        refine at_aload_n dX11_image_42 rfl ?_
        refine at_get dX11_image_43 fl_X11_12 (zl_o rfl) rfl ?_
        refine at_callV1 (d := D - 1) dX11_image_46 mv_X11_196 (hQo _) (Nat.le_of_ble_eq_true rfl) (zq_r0 (by omega) (by omega) (by omega)) ?_
        refine zc_copyFrom (i := zqI0) (A := A0) (T := fun _ => none) (by omega) (Or.inr (by omega)) ⟨hQo _, fun c c1 c9 => (hf98 _ _ _ (by omega)).trans (zus_a c1 c9), (hf98 _ _ _ (by omega)).trans zus_t⟩ (zUA_c zQ9) (htx _ (n + 8) (fun j j1 j2 j3 => (hf98 _ _ _ j1).trans (zus_x j3)) (fun tx _ t2 _ => Or.inl t2)) (fun i2 A2 T2 hE => ?_)
        rw [zus_hi (by omega), zus_m (by omega), zus_us]
        have hp := hfin i2 A2 T2 hE
        refine at_aload_n dX11_image_49 rfl ?_
        refine at_iconst dX11_image_50 (v := nI 0) (by decide) ?_
        refine at_callV1 (d := D - 1) dX11_image_51 mv_X11_117 (zl_o rfl) (Nat.le_of_ble_eq_true rfl) (zq_r0 (by omega) (by omega) (by omega)) ?_
        refine zc_accept ?_
        refine at_iret dX11_image_54 rfl (by omega) (by omega) ?_
        exact hp
      · omega
  · have hf98B := hf98 κ ρ
    have hUB : zUA (zl_h κ (zm_h σ ρ)) B i A T := ⟨(hf98B B g2).trans g4.1, fun c c1 c9 => (hf98B _ (by omega)).trans (g4.2.1 c c1 c9), (hf98B _ (by omega)).trans g4.2.2⟩
    have hrow : ∀ c, 1 ≤ c → c ≤ 10 → ∀ fs, ρ (B + c) ≠ .inr (10, fs) := fun c c1 c10 fs e => by
      by_cases c0 : c = 10
      · rw [c0, g4.2.2] at e; cases e
      · rw [g4.2.1 c c1 (by omega)] at e; cases e
    have hfin : ∀ i2 A2 T2, zUE i2 (κ.1 9) A2 (fun c => κ.2.1 (9 + c)) T2 (κ.2.2 (9 + 10)) → P1 (some (.int (nI 0))) n (zl_h (zl_si κ 8 18 (nI 0)) (zm_h σ (zu_set ρ B i2 A2 T2))) := fun i2 A2 T2 hE => by
      have := hmod _ _ _ (zIV_img hk h (Nat.le_refl _) g2 g3 (Or.inl ⟨_, g4.1⟩) (fun c c1 c10 => Or.inr (hrow c c1 c10)) hE (fun C hC => hd0 B C g1 hC) (fun C fs c1 c2 c3 => by omega))
      rw [← g1, zsr_0] at this
      exact this
    refine zq_enter (cc := cX11_image) (nL := 3) (ret := (some .int)) cw_X11_image (by decide) rfl (Nat.le_of_ble_eq_true rfl) ?_
    refine at_iload_n dX11_image_0 rfl ?_
    refine at_if_eqN (tgt := 15) dX11_image_1 (by decide) (by omega) (fun c1 => ?_) (fun c1 => ?_)
    · refine at_aload_n dX11_image_15 rfl ?_
      refine at_get dX11_image_16 fl_X11_16 (zl_o rfl) rfl ?_
      refine at_iload_n dX11_image_19 rfl ?_
      refine at_aaldN dX11_image_20 rfl (by decide) (fun _ => rfl) (by decide) rfl (by omega) ?_
      rw [g1]
      refine at_astore_n dX11_image_21 rfl (by decide) ?_
      refine at_aload_n dX11_image_22 rfl ?_
      refine at_ifnonnull (tgt := 41) dX11_image_23 (by decide) ?_
      refine at_aload_n dX11_image_41 rfl ?_
      refine at_aload_n dX11_image_42 rfl ?_
      refine at_get dX11_image_43 fl_X11_12 (zl_o rfl) rfl ?_
      refine at_callV1 (d := D - 1) dX11_image_46 mv_X11_196 (hUB.1) (Nat.le_of_ble_eq_true rfl) (zq_r0 (by omega) (by omega) (by omega)) ?_
      refine zc_copyFrom (by omega) (Or.inr (by omega)) hUB (zUA_c zQ9) (htx _ B (fun j j1 j2 j3 => hf98B j j1) (fun tx t1 t2 ⟨fs, t3⟩ => ?_)) (fun i2 A2 T2 hE => ?_)
      · by_cases g : B ≤ tx ∧ tx ≤ B + 10
        · exfalso
          by_cases g0 : tx = B
          · rw [g0, g4.1] at t3; cases t3
          · exact hrow (tx - B) (by omega) (by omega) fs (by rw [show B + (tx - B) = tx by omega]; exact t3)
        · omega
      rw [zus_hi (by omega), zus_m (by omega)]
      have hp := hfin i2 A2 T2 hE
      refine at_aload_n dX11_image_49 rfl ?_
      refine at_iconst dX11_image_50 (v := nI 0) (by decide) ?_
      refine at_callV1 (d := D - 1) dX11_image_51 mv_X11_117 (zl_o rfl) (Nat.le_of_ble_eq_true rfl) (zq_r0 (by omega) (by omega) (by omega)) ?_
      refine zc_accept ?_
      refine at_iret dX11_image_54 rfl (by omega) (by omega) ?_
      exact hp
    · refine at_iload_n dX11_image_4 rfl ?_
      refine at_iconst dX11_image_5 (v := nI 1) (by decide) ?_
      refine at_eqN (tgt := 15) dX11_image_6 (by decide) (by omega) (by omega) (fun c6 => ?_) (fun c6 => ?_)
      · refine at_aload_n dX11_image_15 rfl ?_
        refine at_get dX11_image_16 fl_X11_16 (zl_o rfl) rfl ?_
        refine at_iload_n dX11_image_19 rfl ?_
        refine at_aaldN dX11_image_20 rfl (by decide) (fun _ => rfl) (by decide) rfl (by omega) ?_
        rw [g1]
        refine at_astore_n dX11_image_21 rfl (by decide) ?_
        refine at_aload_n dX11_image_22 rfl ?_
        refine at_ifnonnull (tgt := 41) dX11_image_23 (by decide) ?_
        refine at_aload_n dX11_image_41 rfl ?_
        refine at_aload_n dX11_image_42 rfl ?_
        refine at_get dX11_image_43 fl_X11_12 (zl_o rfl) rfl ?_
        refine at_callV1 (d := D - 1) dX11_image_46 mv_X11_196 (hUB.1) (Nat.le_of_ble_eq_true rfl) (zq_r0 (by omega) (by omega) (by omega)) ?_
        refine zc_copyFrom (by omega) (Or.inr (by omega)) hUB (zUA_c zQ9) (htx _ B (fun j j1 j2 j3 => hf98B j j1) (fun tx t1 t2 ⟨fs, t3⟩ => ?_)) (fun i2 A2 T2 hE => ?_)
        · by_cases g : B ≤ tx ∧ tx ≤ B + 10
          · exfalso
            by_cases g0 : tx = B
            · rw [g0, g4.1] at t3; cases t3
            · exact hrow (tx - B) (by omega) (by omega) fs (by rw [show B + (tx - B) = tx by omega]; exact t3)
          · omega
        rw [zus_hi (by omega), zus_m (by omega)]
        have hp := hfin i2 A2 T2 hE
        refine at_aload_n dX11_image_49 rfl ?_
        refine at_iconst dX11_image_50 (v := nI 0) (by decide) ?_
        refine at_callV1 (d := D - 1) dX11_image_51 mv_X11_117 (zl_o rfl) (Nat.le_of_ble_eq_true rfl) (zq_r0 (by omega) (by omega) (by omega)) ?_
        refine zc_accept ?_
        refine at_iret dX11_image_54 rfl (by omega) (by omega) ?_
        exact hp
      · omega
theorem zk_image {v : Int32} (hD : 88 ≤ D) (h : zIV n κ σ ρ K m hn t z Ls Λ) : zCase l G D 11 106 yX11_image yX12_image [.int v] n κ σ ρ := by
  obtain ⟨i0, i1, i2, i3⟩ := h.2.2.2.2.2.2.2
  by_cases v0 : v = nI 0
  · exact zk_image1 (by decide) v0 hD h i0 (fun B C hB hC => i2 B C hB hC) i1
  · by_cases v1 : v = nI 1
    · exact zk_image1 (by decide) v1 hD h i1 (fun B C hB hC => (i2 C B hC hB).symm) i0
    · intro P1 h1
      have hl := zlies_01 v0 v1
      have hp := h1 (.int (-(nI 1))) n (zl_h (zlref κ 1) (zm_h σ ρ)) (by exact ⟨rfl, _, rfl⟩) (fun P2 h2 => by
        rw [zlm]
        refine zm_image (by omega) (fun _ => ?_) (fun b hb eb => ?_)
        · rw [← zlm]
          exact h2 _ _ _ _ (zfin (zIV_ref h (by omega)))
        · rcases (show b = 0 ∨ b = 1 by omega) with rfl | rfl
          · exact absurd eb v0
          · exact absurd eb v1)
      refine zq_enter (cc := cX11_image) (nL := 3) (ret := (some .int)) cw_X11_image (by decide) rfl (Nat.le_of_ble_eq_true rfl) ?_
      refine at_iload_n dX11_image_0 rfl ?_
      refine at_if_eq (tgt := 15) dX11_image_1 (by decide) (fun c1 => ?_) (fun c1 => ?_)
      · exact absurd c1 v0
      · refine at_iload_n dX11_image_4 rfl ?_
        refine at_iconst dX11_image_5 (v := nI 1) (by decide) ?_
        refine at_icmp_eq (tgt := 15) dX11_image_6 (by decide) (fun c6 => ?_) (fun c6 => ?_)
        · exact absurd c6 v1
        · refine at_aload_n dX11_image_9 rfl ?_
          refine at_iconst dX11_image_10 (v := -1) rfl ?_
          refine at_callV1 (d := D - 1) dX11_image_11 mv_X11_103 (zl_o rfl) (Nat.le_of_ble_eq_true rfl) (zq_r0 (by omega) (by omega) (by omega)) ?_
          refine zc_refuse (q := 1) (by omega) ?_
          refine at_iret dX11_image_14 rfl (by omega) (by omega) ?_
          exact hp
end ZK22

