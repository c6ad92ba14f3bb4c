/-! ===== the Model's deeds over its state ===== -/
def zMS (σ : zm_S) (m : Nat) (Lo : Option (List zLC)) (K : Nat → Int32) (Λ : List Nat) : Prop :=
  σ.2.1 72 = K ∧ zKI K m Lo ∧ (∀ y, 1 ≤ y → y ≤ 5 → σ.2.1 76 y = nI (zrkK K y)) ∧ Λ.length ≤ 16 ∧ σ.1 44 = nI Λ.length ∧ zUL (σ.2.1 94) K Λ ∧ zLg m K Λ
/-- alike but for a reckoning and what deeds change -/
def zOt (τ σ : zm_S) : Prop := (∀ k, (k < 23 ∨ 26 < k) → k ≠ 44 → τ.1 k = σ.1 k) ∧ (∀ a, a ≠ 83 → a ≠ 72 → a ≠ 76 → a ≠ 94 → τ.2.1 a = σ.2.1 a) ∧ τ.2.2 = σ.2.2
theorem zOt_r (σ : zm_S) : zOt σ σ := ⟨fun _ _ _ => rfl, fun _ _ _ _ _ => rfl, rfl⟩
theorem zOt_t {σ τ υ : zm_S} (h : zOt σ τ) (g : zOt τ υ) : zOt σ υ := ⟨fun k h1 h2 => (h.1 k h1 h2).trans (g.1 k h1 h2), fun a h1 h2 h3 h4 => (h.2.1 a h1 h2 h3 h4).trans (g.2.1 a h1 h2 h3 h4), h.2.2.trans g.2.2⟩
theorem zOt_e {σ τ : zm_S} (h : zTe σ τ) : zOt σ τ := ⟨fun k h1 _ => h.1 k h1, fun a h1 _ _ _ => h.2.1 a h1, h.2.2⟩
theorem zMS_C {σ : zm_S} {m : Nat} {Lo : Option (List zLC)} {K : Nat → Int32} {Λ : List Nat} (h : zMS σ m Lo K Λ) : zC σ m (zX1 (σ.2.1 72)) (zW1 (σ.2.1 72)) (zrkK (σ.2.1 72)) := by
  obtain ⟨rfl, h2, h3, -⟩ := h
  exact zC_of h2.1 (fun y h1 h5 => ⟨h3 y h1 h5, zrkN_lt _ _⟩)
theorem zMS_e {σ τ : zm_S} {m : Nat} {Lo : Option (List zLC)} {K : Nat → Int32} {Λ : List Nat} (h : zMS σ m Lo K Λ) (e : zTe τ σ) : zMS τ m Lo K Λ := by
  obtain ⟨h1, h2, h3, h4, h5, h6, h7⟩ := h
  exact ⟨(e.2.1 72 (by decide)).trans h1, h2, fun y a b => by rw [e.2.1 76 (by decide)]; exact h3 y a b, h4, (e.1 44 (by omega)).trans h5, by rw [e.2.1 94 (by decide)]; exact h6, h7⟩
theorem zKI_72 {K : Nat → Int32} {m : Nat} {Lo : Option (List zLC)} (h : zKI K m Lo) : zSm (K 72) ∧ zSm (K 19) := by
  obtain ⟨-, -, -, ⟨d, h4, h4'⟩, ⟨q, h5, h5'⟩, -⟩ := h
  rw [h4', h5']
  exact ⟨zSm_n (by omega), zSm_n (by omega)⟩
theorem zMS_push {σ τ : zm_S} {m h : Nat} {a b c : Int32} {Lo : Option (List zLC)} {K L' : Nat → Int32} {Λ : List Nat} (hS : zMS σ m Lo K Λ) (hC : zdC h a b c K m Lo = 0) (hh : h ≤ 3) (hk : zkp (σ.2.1 94) Λ.length K (nI h) L') (e1 : τ.2.1 72 = zdK h a b c K) (e2 : τ.2.1 94 = L') (e3 : τ.1 44 = nI ((if Λ.length = 16 then 15 else Λ.length) + 1)) (e4 : ∀ y, 1 ≤ y → y ≤ 5 → τ.2.1 76 y = nI (zrkK (zdK h a b c K) y)) : zMS τ m Lo (zdK h a b c K) (zpush (zdD h a b K) Λ) := by
  obtain ⟨h1, h2, h3, h4, h5, h6, h7⟩ := hS
  obtain ⟨g1, g2, g3, g4⟩ := zd_ok h2 hC
  rw [if_pos hh] at g4
  exact ⟨e1, g1, e4, zpush_le _ _, by rw [zpush_len h4]; exact e3, by rw [e2]; exact zUL_push h6 h4 (by rw [g4]; exact hk) g3, zLg_push h7 g2 g3⟩
theorem zkS2_44 (σ : zm_S) (u : Nat) (L' : Nat → Int32) : (zkS2 σ u L').1 44 = nI ((if u = 16 then 15 else u) + 1) := zsi_s _ _ _
section ZL35
variable {l : Launch} {G : zq_G} {D n m : Nat} {σ : zm_S} {ρ : Nat → zq_E} {post : Option Value → Nat → (Nat → zq_E) → Prop} {Lo : Option (List zLC)} {K : Nat → Int32} {Λ : List Nat}
theorem zm_strokesK {a b c : Int32} (hD : 75 ≤ D) (hS : zMS σ m Lo K Λ) (hf : ∀ τ, zdC 0 a b c K m Lo ≠ 0 → zTe τ σ → post (some (.int (-(nI (zdC 0 a b c K m Lo))))) n (zm_h τ ρ))
    (ht : ∀ τ, zdC 0 a b c K m Lo = 0 → zMS τ m Lo (zdK 0 a b c K) (zpush (zdD 0 a b K) Λ) → zOt τ σ → post (some (.int (zI (zdT 0 a b c K m Lo)))) n (zm_h τ ρ)) : zq_Runs l G D 0 0 yX12_strokesKept [.ref 70, .int a, .int b, .int c] n (zm_h σ ρ) post := by
  have hC := zMS_C hS
  have hS0 := hS
  obtain ⟨rfl, h2, h3, h4, h5, h6, h7⟩ := hS
  obtain ⟨s72, s19⟩ := zKI_72 h2
  have eC : zdC 0 a b c (σ.2.1 72) m Lo = (if (zlies 0 3 b && zlies 1 5 c) = false then 1 else if zix m a = false then 2 else if zlen (zX1 (σ.2.1 72) a.toNatClampNeg) ≤ b.toNatClampNeg ∨ zlt (zX1 (σ.2.1 72) a.toNatClampNeg) b.toNatClampNeg = c.toNatClampNeg ∨ zbar (σ.2.1 72) m a.toNatClampNeg (zX1 (σ.2.1 72) a.toNatClampNeg) Lo = true then 3 else 0) := rfl
  have hm7 := h2.1.2.1
  refine zm_strokesKept hD hC s72 s19 h2.2.2.2.2.2 h4 h5 (fun e => ?_) (fun e e2 => ?_) (fun j x y τ g1 g2 g3 g4 g5 g6 g7 g8 t1 => ?_) (fun j x y τ L' g1 g2 g3 g4 g5 g6 g7 g8 g9 g10 t1 => ?_)
  · have eC1 : zdC 0 a b c (σ.2.1 72) m Lo = 1 := by rw [eC]; exact if_pos e
    have hf := hf σ (by rw [eC1]; decide) (zTe_r σ)
    rw [eC1] at hf
    exact hf
  · have eC1 : zdC 0 a b c (σ.2.1 72) m Lo = 2 := by rw [eC, if_neg (fun h => by rw [show (zlies 0 3 b && zlies 1 5 c) = true from e] at h; cases h), if_pos e2]
    have hf := hf σ (by rw [eC1]; decide) (zTe_r σ)
    rw [eC1] at hf
    exact hf
  · subst g5 g6 g7
    have eC1 : zdC 0 (nI j) (nI x) (nI y) (σ.2.1 72) m Lo = 3 := by
      rw [eC, if_neg (fun h => by rw [zlies_i (by decide) (by decide) (Nat.zero_le _) g2, zlies_i (by decide) (by decide) g3 g4] at h; cases h), zix_n (by omega), decide_eq_true g1, if_neg (by decide), nI_clamp (by omega), nI_clamp (by omega), nI_clamp (by omega), if_pos g8]
    have hf := hf τ (by rw [eC1]; decide) t1
    rw [eC1] at hf
    exact hf
  · subst g5 g6 g7
    have hl4 := zlen_le (zX1 (σ.2.1 72) j)
    have eC1 : zdC 0 (nI j) (nI x) (nI y) (σ.2.1 72) m Lo = 0 := by
      rw [eC, if_neg (fun h => by rw [zlies_i (by decide) (by decide) (Nat.zero_le _) (by omega), zlies_i (by decide) (by decide) g3 g4] at h; cases h), zix_n (by omega), decide_eq_true g1, if_neg (by decide), nI_clamp (by omega), nI_clamp (by omega), nI_clamp (by omega), if_neg (fun h => h.elim (fun h => by omega) (fun h => h.elim g8 (fun h => by rw [g9] at h; cases h)))]
    have eK : zdK 0 (nI j) (nI x) (nI y) (σ.2.1 72) = upd (σ.2.1 72) j (nI (zwl (zX1 (σ.2.1 72) j) x y)) := by
      unfold zdK
      rw [if_pos rfl, nI_clamp (by omega), nI_clamp (by omega), nI_clamp (by omega)]
    have eT : zdT 0 (nI j) (nI x) (nI y) (σ.2.1 72) m Lo = ztell (zlwV (σ.2.1 72) m j (zX1 (σ.2.1 72) j) (nI x) (nI y)) 1 1 Lo := by
      unfold zdT
      rw [if_pos rfl, nI_clamp (by omega)]
    have ht := ht τ eC1 (zMS_push hS0 eC1 (by decide) g10 (by rw [eK, t1.2.1 72 (by decide)]; exact zsK_k _ _) (by rw [t1.2.1 94 (by decide)]; exact (zsA_o (zkS2 σ Λ.length L') (by decide) _).trans (zsA_s σ 94 L')) ((t1.1 44 (by omega)).trans (zkS2_44 σ Λ.length L')) (fun y h1 h5 => by
      rw [eK, t1.2.1 76 (by decide), show (zsK (zkS2 σ Λ.length L') (upd (σ.2.1 72) j (nI (zwl (zX1 (σ.2.1 72) j) x _)))).2.1 76 = σ.2.1 76 from (zsA_o (zkS2 σ Λ.length L') (by decide) _).trans (zkS2_76 σ _ L'), h3 y h1 h5]
      unfold zrkK
      rw [zrkN_c (zAl_c h2.2.1 (fun k hk => upd_o _ (by omega) _)).2])) ⟨fun k q1 q2 => (t1.1 k q1).trans (zsi_o (zsA σ 94 L') q2 _), fun a q1 q2 q3 q4 => (t1.2.1 a q1).trans ((zsA_o (zkS2 σ Λ.length L') q2 _).trans (zsA_o σ q4 L')), t1.2.2⟩
    rw [eT] at ht
    exact ht
theorem zm_swapsK {a b c : Int32} (hD : 75 ≤ D) (hS : zMS σ m Lo K Λ) (hf : ∀ τ, zdC 1 a b c K m Lo ≠ 0 → zTe τ σ → post (some (.int (-(nI (zdC 1 a b c K m Lo))))) n (zm_h τ ρ))
    (ht : ∀ τ, zdC 1 a b c K m Lo = 0 → zMS τ m Lo (zdK 1 a b c K) (zpush (zdD 1 a b K) Λ) → zOt τ σ → post (some (.int (zI (zdT 1 a b c K m Lo)))) n (zm_h τ ρ)) : zq_Runs l G D 0 0 yX12_swapsKept [.ref 70, .int a] n (zm_h σ ρ) post := by
  have hC := zMS_C hS
  have hS0 := hS
  obtain ⟨rfl, h2, h3, h4, h5, h6, h7⟩ := hS
  obtain ⟨s72, s19⟩ := zKI_72 h2
  have hm7 := h2.1.2.1
  have eC : zdC 1 a b c (σ.2.1 72) m Lo = (if zix (m - 1) a = false then 2 else 0) := rfl
  refine zm_swapsKept hD hC s72 s19 h2.2.2.2.2.2 h4 h5 (fun e => ?_) (fun k τ L' g1 g2 g3 t1 => ?_)
  · have eC1 : zdC 1 a b c (σ.2.1 72) m Lo = 2 := by rw [eC]; exact if_pos e
    have hf := hf σ (by rw [eC1]; decide) (zTe_r σ)
    rw [eC1] at hf
    exact hf
  · subst g2
    have eC1 : zdC 1 (nI k) b c (σ.2.1 72) m Lo = 0 := by rw [eC, zix_n (by omega), decide_eq_true (by omega), if_neg (by decide)]
    have eK : zdK 1 (nI k) b c (σ.2.1 72) = zswp (σ.2.1 72) k := by
      unfold zdK
      rw [if_neg (by decide), if_pos rfl, nI_clamp (by omega)]
    have eT : zdT 1 (nI k) b c (σ.2.1 72) m Lo = ztell (zlwV (σ.2.1 72) m (zW1 (σ.2.1 72) k) (zX1 (σ.2.1 72) (zW1 (σ.2.1 72) k)) (-1) (-1)) 2 1 Lo + ztell (zlwV (σ.2.1 72) m (zW1 (σ.2.1 72) (k + 1)) (zX1 (σ.2.1 72) (zW1 (σ.2.1 72) (k + 1))) (-1) (-1)) 2 1 Lo := by
      unfold zdT
      rw [if_neg (by decide), if_pos rfl, nI_clamp (by omega)]
    have ht := ht τ eC1 (zMS_push hS0 eC1 (by decide) g3 (by rw [eK, t1.2.1 72 (by decide)]; exact zsK_k _ _) (by rw [t1.2.1 94 (by decide)]; exact (zsA_o (zkS2 σ Λ.length L') (by decide) _).trans (zsA_s σ 94 L')) ((t1.1 44 (by omega)).trans (zkS2_44 σ Λ.length L')) (fun y h1 h5 => by
      rw [eK, t1.2.1 76 (by decide), show (zsK (zkS2 σ Λ.length L') (zswp (σ.2.1 72) k)).2.1 76 = σ.2.1 76 from (zsA_o (zkS2 σ Λ.length L') (by decide) _).trans (zkS2_76 σ _ L'), h3 y h1 h5]
      unfold zrkK
      rw [zrkN_c (zAl_c (K' := zswp (σ.2.1 72) k) h2.2.1 (fun k' hk => by unfold zswp; rw [upd_o _ (by omega), upd_o _ (by omega)])).2])) ⟨fun k q1 q2 => (t1.1 k q1).trans (zsi_o (zsA σ 94 L') q2 _), fun a q1 q2 q3 q4 => (t1.2.1 a q1).trans ((zsA_o (zkS2 σ Λ.length L') q2 _).trans (zsA_o σ q4 L')), t1.2.2⟩
    rw [eT] at ht
    exact ht
theorem zm_decreesK {a b c : Int32} (hD : 75 ≤ D) (hS : zMS σ m Lo K Λ) (hf : ∀ τ, zdC 2 a b c K m Lo ≠ 0 → zTe τ σ → post (some (.int (-(nI (zdC 2 a b c K m Lo))))) n (zm_h τ ρ))
    (ht : ∀ τ, zdC 2 a b c K m Lo = 0 → zMS τ m Lo (zdK 2 a b c K) (zpush (zdD 2 a b K) Λ) → zOt τ σ → post (some (.int (zI (zdT 2 a b c K m Lo)))) n (zm_h τ ρ)) : zq_Runs l G D 0 0 yX12_decreesKept [.ref 70, .int a] n (zm_h σ ρ) post := by
  have hS0 := hS
  obtain ⟨rfl, h2, h3, h4, h5, h6, h7⟩ := hS
  have eC : zdC 2 a b c (σ.2.1 72) m Lo = (if zlies 0 3 a = false then 1 else 0) := rfl
  refine zm_decreesKept (al := alK (zdec (σ.2.1 72) a.toNatClampNeg)) (by omega) h4 h5 (fun e => ?_) (fun k hk e j hj => ?_) (fun k hk e L' g3 => ?_)
  · have eC1 : zdC 2 a b c (σ.2.1 72) m Lo = 1 := by rw [eC]; exact if_pos e
    have hf := hf σ (by rw [eC1]; decide) (zTe_r σ)
    rw [eC1] at hf
    exact hf
  · subst e
    rw [nI_clamp (by omega)]
    have g := zAl_dec h2.2.1 hk
    exact ⟨g.1 j hj, by have := (g.2.1 j hj).2; omega⟩
  · subst e
    have eC1 : zdC 2 (nI k) b c (σ.2.1 72) m Lo = 0 := by rw [eC, zlies_i (by decide) (by decide) (Nat.zero_le _) hk, if_neg (by decide)]
    have eK : zdK 2 (nI k) b c (σ.2.1 72) = zdec (σ.2.1 72) k := by
      unfold zdK
      rw [if_neg (by decide), if_neg (by decide), if_pos rfl, nI_clamp (by omega)]
    have eT : zdT 2 (nI k) b c (σ.2.1 72) m Lo = (zaln (alK (zdec (σ.2.1 72) (nI k).toNatClampNeg)) 5 : Int) := by
      unfold zdT
      rw [if_neg (by decide), if_neg (by decide), if_pos rfl]
    have ht := ht _ eC1 (zMS_push (τ := zsA (zsK (zkS2 σ Λ.length L') (zdec (σ.2.1 72) k)) 76 (zrk (σ.2.1 76) (alK (zdec (σ.2.1 72) (nI k).toNatClampNeg)) 5)) hS0 eC1 (by decide) g3 (by rw [eK, zsA_o _ (by decide)]; exact zsK_k _ _) (by rw [zsA_o _ (by decide)]; exact (zsA_o (zkS2 σ Λ.length L') (by decide) _).trans (zsA_s σ 94 L')) (zkS2_44 σ Λ.length L') (fun y h1 h5 => by
      rw [eK, zsA_s, nI_clamp (by omega)]
      exact zrk_at (zAl_dec h2.2.1 hk).2 _ h1 h5)) ⟨fun k q1 q2 => (zsi_o (zsA σ 94 L') q2 _), fun a q1 q2 q3 q4 => (zsA_o _ q3 _).trans ((zsA_o (zkS2 σ Λ.length L') q2 _).trans (zsA_o σ q4 L')), rfl⟩
    rw [eT, zI_n] at ht
    exact ht
theorem zm_passesK {a b c : Int32} (hD : 75 ≤ D) (hS : zMS σ m Lo K Λ) (hf : ∀ τ, zdC 3 a b c K m Lo ≠ 0 → zTe τ σ → post (some (.int (-(nI (zdC 3 a b c K m Lo))))) n (zm_h τ ρ))
    (ht : ∀ τ, zdC 3 a b c K m Lo = 0 → zMS τ m Lo (zdK 3 a b c K) (zpush (zdD 3 a b K) Λ) → zOt τ σ → post (some (.int (zI (zdT 3 a b c K m Lo)))) n (zm_h τ ρ)) : zq_Runs l G D 0 0 yX12_passesKept [.ref 70] n (zm_h σ ρ) post := by
  have hS0 := hS
  obtain ⟨rfl, h2, h3, h4, h5, h6, h7⟩ := hS
  obtain ⟨d, hd, hd'⟩ := h2.2.2.2.1
  have e19 : (σ.2.1 72 19).toNatClampNeg = d := by rw [hd', nI_clamp (by omega)]
  have eC : zdC 3 a b c (σ.2.1 72) m Lo = (if d = 999 then 3 else 0) := by unfold zdC; rw [if_neg (by decide), if_neg (by decide), if_neg (by decide), e19]
  refine zm_passesKept (by omega) h4 h5 hd' hd (fun e => ?_) (fun e L' g3 => ?_)
  · have eC1 : zdC 3 a b c (σ.2.1 72) m Lo = 3 := by rw [eC]; exact if_pos e
    have hf := hf σ (by rw [eC1]; decide) (zTe_r σ)
    rw [eC1] at hf
    exact hf
  · have eC1 : zdC 3 a b c (σ.2.1 72) m Lo = 0 := by rw [eC, if_neg (by omega)]
    have eK : zdK 3 a b c (σ.2.1 72) = upd (σ.2.1 72) 19 (nI (d + 1)) := by
      unfold zdK
      rw [if_neg (by decide), if_neg (by decide), if_neg (by decide), e19]
    have eT : zdT 3 a b c (σ.2.1 72) m Lo = ((d + 1 : Nat) : Int) := by
      unfold zdT
      rw [if_neg (by decide), if_neg (by decide), if_neg (by decide), e19]
    have ht := ht _ eC1 (zMS_push (τ := zsK (zkS2 σ Λ.length L') (upd (σ.2.1 72) 19 (nI (d + 1)))) hS0 eC1 (by decide) g3 (by rw [eK]; exact zsK_k _ _) ((zsA_o (zkS2 σ Λ.length L') (by decide) _).trans (zsA_s σ 94 L')) (zkS2_44 σ Λ.length L') (fun y h1 h5 => by
      rw [eK, show (zsK (zkS2 σ Λ.length L') (upd (σ.2.1 72) 19 (nI (d + 1)))).2.1 76 = σ.2.1 76 from (zsA_o (zkS2 σ Λ.length L') (by decide) _).trans (zkS2_76 σ _ L'), h3 y h1 h5]
      unfold zrkK
      rw [zrkN_c (zAl_c (K' := upd (σ.2.1 72) 19 (nI (d + 1))) h2.2.1 (fun k hk => upd_o _ (by omega) _)).2])) ⟨fun k q1 q2 => (zsi_o (zsA σ 94 L') q2 _), fun a q1 q2 q3 q4 => ((zsA_o (zkS2 σ Λ.length L') q2 _).trans (zsA_o σ q4 L')), rfl⟩
    rw [eT, zI_n] at ht
    exact ht
end ZL35

