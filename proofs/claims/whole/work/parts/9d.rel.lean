/-! ===== the class's state and the Model's ===== -/
def sdK (K : Nat → Int32) (p y : Nat) : Nat := (K (20 + 5 * p + y - 1)).toNatClampNeg
def haK (K : Nat → Int32) (i : Nat) : Nat := (K (55 + 2 * i)).toNatClampNeg
def hbK (K : Nat → Int32) (i : Nat) : Nat := (K (55 + 2 * i + 1)).toNatClampNeg
/-- a law's text among the cells from 98 on -/
def zXq (ρ : Nat → zq_E) (k : Nat) : Prop := ∃ B fs, 98 ≤ B ∧ B ≤ k ∧ k ≤ B + 10 ∧ ρ B = .inr (7, fs)
def zLx (ρ : Nat → zq_E) (n tx : Nat) (L : List zLC) : Prop := ∀ ρ2 : Nat → zq_E, (∀ k, 98 ≤ k → k < n + 8 → ¬ zXq ρ k → ρ2 k = ρ k) → zLT ρ2 tx L
/-- quays among the cells from 98 on have their cells behind them -/
def zNq (ρ : Nat → zq_E) (n : Nat) : Prop := ∀ B fs, 98 ≤ B → B < n + 8 → ρ B = .inr (7, fs) → B + 10 < n + 8
/-- all that is kept is in order: m people, hn times heard, t laws -/
def zKW (K : Nat → Int32) (m hn t : Nat) (Ls : Nat → List zLC) : Prop :=
  zCk K m ∧ zAl K ∧ zInj K m ∧ (∃ d, d ≤ 999 ∧ K 19 = nI d) ∧ (∃ s, s ≤ 10 ∧ K 71 = nI s) ∧ (∃ q, q ≤ 9 ∧ K 72 = nI q) ∧
  (∀ p y, p < m → 1 ≤ y → y ≤ 5 → K (20 + 5 * p + y - 1) = nI (sdK K p y) ∧ 1 ≤ sdK K p y ∧ sdK K p y ≤ 5) ∧
  (K 74 = nI hn ∧ hn ≤ 8 ∧ ∀ i, i < hn → K (55 + 2 * i) = nI (haK K i) ∧ K (55 + 2 * i + 1) = nI (hbK K i) ∧ haK K i < m ∧ hbK K i < m) ∧
  (K 75 = nI t ∧ t ≤ 6 ∧ (K 76 = -1 ∨ ∃ u, u < t ∧ K 76 = nI u) ∧ ∀ u, u < t → zLawAt K u (Ls u))
/-- the law in force -/
def zLoK (K : Nat → Int32) (Ls : Nat → List zLC) : Option (List zLC) := if K 76 = -1 then none else some (Ls (K 76).toNatClampNeg)
/-- a quay's numbers i, rows A, texts T hold what is kept -/
def zQR (ρ : Nat → zq_E) (n : Nat) (i : Nat → Int32) (A : Nat → Nat → Int32) (T : Nat → Option Nat) (K : Nat → Int32) (m hn t : Nat) (Ls : Nat → List zLC) : Prop :=
  (i 0 = nI m ∧ i 8 = nI hn ∧ i 11 = nI t ∧ i 13 = K 76) ∧
  (∀ p, p < m → A 1 p = K p) ∧ (∀ k, k < m → A 2 k = K (7 + k)) ∧ (∀ p, p < m → A 3 p = zplace K (nI p) m) ∧ (∀ j, j < 5 * m → A 4 j = K (20 + j)) ∧ (∀ k, k < 5 → A 5 k = K (14 + k)) ∧ zOrd (A 6) (zrkK K) ∧ (A 7 0 = K 19 ∧ A 7 1 = K 71 ∧ A 7 2 = K 72) ∧ (∀ j, j < hn → A 8 j = K (55 + 2 * j) ∧ A 9 j = K (55 + 2 * j + 1)) ∧
  (∀ u, u < t → ∃ tx, T u = some tx ∧ zLx ρ n tx (Ls u)) ∧ ∀ u, u < 6 → T u = none ∨ ∃ tx fs, T u = some tx ∧ 98 ≤ tx ∧ tx < n + 8 ∧ ρ tx = .inr (10, fs)
def zQc (κ : zl_S) (ρ : Nat → zq_E) (n b : Nat) (K : Nat → Int32) (m hn t : Nat) (Ls : Nat → List zLC) : Prop := zQR ρ n (κ.1 b) (fun c => κ.2.1 (b + c)) (κ.2.2 (b + 10)) K m hn t Ls
/-- deeds, on both sides -/
def zLG (κ : zl_S) (σ : zm_S) (K : Nat → Int32) (m : Nat) (Λ : List Nat) : Prop := Λ.length ≤ 16 ∧ σ.1 44 = nI Λ.length ∧ zUL (σ.2.1 94) K Λ ∧ zLg m K Λ ∧ κ.1 43 0 = nI Λ.length ∧ zLd (κ.2.1 44) Λ
/-- the tapes -/
def zTT (κ : zl_S) (σ : zm_S) (z : Nat) : Prop := σ.1 14 = nI z ∧ z ≤ 400 ∧ κ.1 8 7 = nI z ∧ zTp (σ.2.1 78) (κ.2.1 47) z ∧ zWr σ
/-- what is told of calls -/
def zST (κ : zl_S) (σ : zm_S) : Prop := κ.1 8 18 = σ.1 0 ∧ κ.1 8 15 = σ.1 15 ∧ κ.1 8 16 = σ.1 45 ∧ κ.1 8 17 = σ.1 7 ∧ (κ.2.1 69 0 = σ.2.1 71 1 ∧ κ.2.1 69 1 = σ.2.1 71 2 ∧ κ.2.1 69 2 = σ.2.1 71 3 ∧ κ.2.1 69 3 = σ.2.1 71 5 ∧ κ.2.1 69 4 = σ.2.1 71 6)
/-- the weeks' paper -/
def zPP (κ : zl_S) (σ : zm_S) : Prop := ∃ M, M ≤ 7 ∧ ((σ.1 53 = -1 ∧ M = 0) ∨ σ.1 53 = nI M) ∧ κ.1 32 0 = nI M ∧ ∀ p, p < M → κ.2.1 33 p = σ.2.1 97 p ∧ κ.2.1 35 p = zplace (σ.2.1 97) (nI p) M
/-- one image -/
def zI1 (κ : zl_S) (σ : zm_S) (ρ : Nat → zq_E) (n b : Nat) : Prop :=
  (σ.2.1 74 b = 0 ∧ κ.2.2 20 b = none) ∨ (¬ σ.2.1 74 b = 0 ∧ ∃ B i A T m hn t Ls K, κ.2.2 20 b = some B ∧ 98 ≤ B ∧ B + 10 < n + 8 ∧ zUA ρ B i A T ∧ (∀ j, j < 5684 → K j = σ.2.1 73 (5684 * b + j)) ∧ zKW K m hn t Ls ∧ zQR ρ n i A T K m hn t Ls)
def zIM (κ : zl_S) (σ : zm_S) (ρ : Nat → zq_E) (n : Nat) : Prop := zI1 κ σ ρ n 0 ∧ zI1 κ σ ρ n 1 ∧ (∀ B C, κ.2.2 20 0 = some B → κ.2.2 20 1 = some C → B + 10 < C ∨ C + 10 < B) ∧ zNq ρ n
/-- all of it -/
def zIV (n : Nat) (κ : zl_S) (σ : zm_S) (ρ : Nat → zq_E) (K : Nat → Int32) (m hn t z : Nat) (Ls : Nat → List zLC) (Λ : List Nat) : Prop :=
  (90 ≤ n ∧ κ.2.1 57 0 = -1 ∧ σ.2.1 72 = K ∧ ∀ y, 1 ≤ y → y ≤ 5 → σ.2.1 76 y = nI (zrkK K y)) ∧ zKW K m hn t Ls ∧ zQc κ ρ n 9 K m hn t Ls ∧ zLG κ σ K m Λ ∧ zTT κ σ z ∧ zST κ σ ∧ zPP κ σ ∧ zIM κ σ ρ n
def zIVx (n : Nat) (κ : zl_S) (σ : zm_S) (ρ : Nat → zq_E) : Prop := ∃ K m hn t z Ls Λ, zIV n κ σ ρ K m hn t z Ls Λ
theorem zm_hx (σ : zm_S) (ρ : Nat → zq_E) {k : Nat} (hk : k < 70 ∨ 98 ≤ k) : zm_h σ ρ k = ρ k := by
  unfold zm_h
  repeat rw [if_neg (by omega)]
theorem zlm (κ : zl_S) (σ : zm_S) (ρ : Nat → zq_E) : zl_h κ (zm_h σ ρ) = zm_h σ (zl_h κ ρ) := by
  funext k
  rcases (show k < 70 ∨ 98 ≤ k ∨ (70 ≤ k ∧ k < 98) by omega) with h | h | h
  · rw [zm_hx _ _ (Or.inl h)]
    unfold zl_h
    cases zl_obj k (κ.1 k) with
    | some e => rfl
    | none =>
      cases zl_rt k with
      | some q => rfl
      | none =>
        by_cases e : 8 ≤ k ∧ k ≤ 69
        · show (if _ then _ else _) = (if _ then _ else _)
          rw [if_pos e, if_pos e]
        · show (if _ then _ else _) = (if _ then _ else _)
          rw [if_neg e, if_neg e, zm_hx _ _ (Or.inl h)]
  · rw [zm_hx _ _ (Or.inr h), zl_hi _ _ (Or.inr (by omega)), zl_hi _ _ (Or.inr (by omega)), zm_hx _ _ (Or.inr h)]
  · rw [zl_hi _ _ (Or.inr (by omega))]
    unfold zm_h
    repeat rw [zl_hi _ _ (Or.inr (by omega))]
section ZRL
variable {n : Nat} {κ : zl_S} {σ : zm_S} {ρ : Nat → zq_E} {K : Nat → Int32} {m hn t z b : Nat} {Ls : Nat → List zLC} {Λ : List Nat}
theorem zQc_N (h : zQc κ ρ n b K m hn t Ls) (g : zKW K m hn t Ls) : zQN κ b m (zX1 K) (zW1 K) :=
  ⟨h.1.1, g.1.2.1, fun p hp => by rw [← (g.1.2.2.1 p hp).1]; exact ⟨h.2.1 p hp, (g.1.2.2.1 p hp).2⟩, fun k hk => by rw [← (g.1.2.2.2 k hk).1]; exact ⟨h.2.2.1 k hk, (g.1.2.2.2 k hk).2⟩⟩
theorem zQc_L (h : zQc κ ρ n b K m hn t Ls) (g : zKW K m hn t Ls) : zQL κ b (alK K) := fun k hk => ⟨(h.2.2.2.2.2.1 k hk).trans (g.2.1.1 k hk), g.2.1.2.1 k hk⟩
theorem zrkK_ri (g : zAl K) : zri (zrkK K) := zrkN_inj g.2
theorem zQc_O (h : zQc κ ρ n b K m hn t Ls) (g : zKW K m hn t Ls) : zQO κ b (zrkK K) := ⟨h.2.2.2.2.2.2.1, fun _ _ _ => zrkN_lt _ _, zrkK_ri g.2.1⟩
theorem zKW_sm (g : zKW K m hn t Ls) : zSm (K 72) ∧ zSm (K 19) := by
  obtain ⟨-, -, -, ⟨d, h4, h4'⟩, -, ⟨q, h5, h5'⟩, -⟩ := g
  rw [h4', h5']
  exact ⟨zSm_n (by omega), zSm_n (by omega)⟩
theorem zQc_T (h : zQc κ ρ n b K m hn t Ls) (g : zKW K m hn t Ls) : zQT κ b m K := ⟨h.2.2.2.1, h.2.2.2.2.2.2.2.1.1, h.2.2.2.2.2.2.2.1.2.2, (zKW_sm g).1, (zKW_sm g).2⟩
theorem zQc_S (h : zQc κ ρ n b K m hn t Ls) (g : zKW K m hn t Ls) : zQS κ b m (sdK K) := fun p y hp h1 h5 => by
  have e := g.2.2.2.2.2.2.1 p y hp h1 h5
  refine ⟨?_, e.2⟩
  rw [← e.1, show 20 + 5 * p + y - 1 = 20 + (5 * p + y - 1) by omega]
  exact h.2.2.2.2.1 _ (by omega)
theorem zKW_F (g : zKW K m hn t Ls) : zForce K (zLoK K Ls) := by
  obtain ⟨-, -, -, -, -, -, -, -, -, h6, h7, h8⟩ := g
  unfold zLoK
  rcases h7 with h7 | ⟨u, hu, h7⟩
  · rw [if_pos h7]; exact Or.inl ⟨h7, rfl⟩
  · rw [if_neg (by rw [h7]; exact nI_ne_m1 (by omega)), h7, nI_clamp (by omega)]
    exact Or.inr ⟨u, _, by omega, h7, h8 u hu, rfl⟩
theorem zKW_KI (g : zKW K m hn t Ls) : zKI K m (zLoK K Ls) := ⟨g.1, g.2.1, g.2.2.1, g.2.2.2.1, g.2.2.2.2.2.1, zKW_F g⟩
theorem zLx_s (σ : zm_S) (h : zLx ρ n b (Ls t)) : zLT (zm_h σ ρ) b (Ls t) := h _ (fun k h1 _ _ => zm_hx _ _ (Or.inr h1))
/-- the law in force, in its cells -/
theorem zQc_V (σ : zm_S) (h : zQc κ ρ n b K m hn t Ls) (g : zKW K m hn t Ls) : zLv (zm_h σ ρ) (va_rf (if zix t (κ.1 b 13) = true then κ.2.2 (b + 10) (κ.1 b 13).toNatClampNeg else none)) (zLoK K Ls) := by
  obtain ⟨-, -, -, -, -, -, -, -, -, h6, h7, h8⟩ := g
  rw [h.1.2.2.2]
  unfold zLoK
  rcases h7 with h7 | ⟨u, hu, h7⟩
  · rw [if_pos h7, h7, zix_lt0 (by decide), if_neg (by decide)]
    exact Or.inl ⟨rfl, rfl⟩
  · have hne : ¬ K 76 = -1 := by rw [h7]; exact nI_ne_m1 (by omega)
    have hix : zix t (K 76) = true := by rw [h7, zix_n (by omega)]; exact decide_eq_true hu
    rw [if_neg hne, if_pos hix, h7, nI_clamp (by omega)]
    obtain ⟨tx, e1, e2⟩ := h.2.2.2.2.2.2.2.2.2.1 u hu
    rw [e1]
    exact Or.inr ⟨tx, _, rfl, rfl, e2 _ (fun k h1 _ _ => zm_hx _ _ (Or.inr h1))⟩
/-- any law, by its number -/
theorem zQc_V1 (σ : zm_S) (h : zQc κ ρ n b K m hn t Ls) {u : Nat} (hu : u < t) : ∃ tx, κ.2.2 (b + 10) u = some tx ∧ zLv (zm_h σ ρ) (.ref tx) (some (Ls u)) := by
  obtain ⟨tx, e1, e2⟩ := h.2.2.2.2.2.2.2.2.2.1 u hu
  exact ⟨tx, e1, Or.inr ⟨tx, _, rfl, rfl, e2 _ (fun k h1 _ _ => zm_hx _ _ (Or.inr h1))⟩⟩
theorem zIV_C (h : zIV n κ σ ρ K m hn t z Ls Λ) : zC σ m (zX1 K) (zW1 K) (zrkK K) := by
  obtain ⟨⟨-, -, e, hr⟩, g, -⟩ := h
  subst e
  exact zC_of g.1 (fun y h1 h5 => ⟨hr y h1 h5, zrkN_lt _ _⟩)
theorem zIV_al (h : zIV n κ σ ρ K m hn t z Ls Λ) : (∀ k, k < 5 → σ.2.1 72 (14 + k) = nI (alK K k) ∧ alK K k < 6) ∧ zpm (alK K) := by
  obtain ⟨⟨-, -, e, hr⟩, g, -⟩ := h
  subst e
  exact ⟨fun k hk => ⟨g.2.1.1 k hk, by have := (g.2.1.2.1 k hk).2; omega⟩, g.2.1.2⟩
theorem zIV_H (h : zIV n κ σ ρ K m hn t z Ls Λ) : zH σ m hn (haK K) (hbK K) := by
  obtain ⟨⟨-, -, e, hr⟩, g, -⟩ := h
  subst e
  exact g.2.2.2.2.2.2.2.1
theorem zIV_Sd (h : zIV n κ σ ρ K m hn t z Ls Λ) : zSd σ m (sdK K) := by
  obtain ⟨⟨-, -, e, hr⟩, g, -⟩ := h
  subst e
  exact g.2.2.2.2.2.2.1
/-- the class's other cells are its own -/
def zKf (κ' κ : zl_S) : Prop := (∀ o, o = 8 ∨ o = 9 ∨ o = 32 ∨ o = 43 → κ'.1 o = κ.1 o) ∧ (∀ a, (10 ≤ a ∧ a ≤ 18) ∨ a = 33 ∨ a = 35 ∨ a = 44 ∨ a = 47 ∨ a = 69 → κ'.2.1 a = κ.2.1 a) ∧ κ'.2.1 57 0 = κ.2.1 57 0 ∧ κ'.2.2 19 = κ.2.2 19 ∧ κ'.2.2 20 = κ.2.2 20
theorem zKf_r (κ : zl_S) : zKf κ κ := ⟨fun _ _ => rfl, fun _ _ => rfl, rfl, rfl, rfl⟩
theorem zKf_A {κ' κ : zl_S} (h : zKf κ' κ) {a : Nat} (g : Nat → Int32) (ha : ¬ ((10 ≤ a ∧ a ≤ 18) ∨ a = 33 ∨ a = 35 ∨ a = 44 ∨ a = 47 ∨ a = 69 ∨ a = 57)) : zKf (zl_sA κ' a g) κ := ⟨h.1, fun c hc => (zlA_o _ (by omega) _).trans (h.2.1 c hc), (congrFun (zlA_o _ (by omega) _) 0).trans h.2.2.1, h.2.2.2⟩
theorem zKf_7 {κ' κ : zl_S} (h : zKf κ' κ) {g : Nat → Int32} (hg : g 0 = κ.2.1 57 0) : zKf (zl_sA κ' 57 g) κ := ⟨h.1, fun c hc => (zlA_o _ (by omega) _).trans (h.2.1 c hc), (congrFun (zlA_s _ _ _) 0).trans hg, h.2.2.2⟩
theorem zKf_a {κ' κ : zl_S} (h : zKf κ' κ) {a i : Nat} {v : Int32} (ha : ¬ ((10 ≤ a ∧ a ≤ 18) ∨ a = 33 ∨ a = 35 ∨ a = 44 ∨ a = 47 ∨ a = 69 ∨ a = 57)) : zKf (zl_sa κ' a i v) κ := zKf_A h _ ha
theorem zKf_i {κ' κ : zl_S} (h : zKf κ' κ) {o i : Nat} {v : Int32} (ho : ¬ (o = 8 ∨ o = 9 ∨ o = 32 ∨ o = 43)) : zKf (zl_si κ' o i v) κ := ⟨fun c hc => (zsi2_o _ (by omega) _ _).trans (h.1 c hc), h.2.1, h.2.2.1, h.2.2.2⟩
theorem zIV_f {κ' : zl_S} (h : zIV n κ σ ρ K m hn t z Ls Λ) (f : zKf κ' κ) : zIV n κ' σ ρ K m hn t z Ls Λ := by
  obtain ⟨⟨a1, a2, a3⟩, b1, c1, d1, e1, f1, g1, i1⟩ := h
  obtain ⟨f1', f2, f3, f4, f5⟩ := f
  have r8 := f1' 8 (by omega)
  have r9 := f1' 9 (by omega)
  have r32 := f1' 32 (by omega)
  have r43 := f1' 43 (by omega)
  refine ⟨⟨a1, f3.trans a2, a3⟩, b1, ?_, ?_, ?_, ?_, ?_, ?_⟩
  · unfold zQc zQR at c1 ⊢
    rw [r9]
    simp only [f2 (9 + 1) (by omega), f2 (9 + 2) (by omega), f2 (9 + 3) (by omega), f2 (9 + 4) (by omega), f2 (9 + 5) (by omega), f2 (9 + 6) (by omega), f2 (9 + 7) (by omega), f2 (9 + 8) (by omega), f2 (9 + 9) (by omega)]
    rw [show κ'.2.2 (9 + 10) = κ.2.2 (9 + 10) from f4]
    exact c1
  · unfold zLG at d1 ⊢
    rw [r43, f2 44 (by omega)]
    exact d1
  · unfold zTT at e1 ⊢
    rw [r8, f2 47 (by omega)]
    exact e1
  · unfold zST at f1 ⊢
    rw [r8, f2 69 (by omega)]
    exact f1
  · unfold zPP at g1 ⊢
    rw [r32, f2 33 (by omega), f2 35 (by omega)]
    exact g1
  · unfold zIM zI1 at i1 ⊢
    rw [f5]
    exact i1
/-- the Model's other cells are its own -/
def zMf (σ' σ : zm_S) : Prop := (∀ k, k = 0 ∨ k = 7 ∨ k = 14 ∨ k = 15 ∨ k = 44 ∨ k = 45 ∨ k = 53 → σ'.1 k = σ.1 k) ∧ (∀ a, (71 ≤ a ∧ a ≤ 74) ∨ a = 77 ∨ a = 78 ∨ a = 94 ∨ a = 97 → σ'.2.1 a = σ.2.1 a)
theorem zIV_g {σ' : zm_S} (h : zIV n κ σ ρ K m hn t z Ls Λ) (f : zMf σ' σ) (hr : ∀ y, 1 ≤ y → y ≤ 5 → σ'.2.1 76 y = nI (zrkK K y)) : zIV n κ σ' ρ K m hn t z Ls Λ := by
  obtain ⟨⟨a1, a2, a3, a4⟩, b1, c1, d1, e1, f1, g1, i1⟩ := h
  obtain ⟨f1', f2⟩ := f
  refine ⟨⟨a1, a2, (f2 72 (by omega)).trans a3, hr⟩, b1, c1, ?_, ?_, ?_, ?_, ?_⟩
  · unfold zLG at d1 ⊢
    rw [f1' 44 (by omega), f2 94 (by omega)]
    exact d1
  · unfold zTT zWr at e1 ⊢
    rw [f1' 14 (by omega), f2 78 (by omega), f2 77 (by omega)]
    exact e1
  · unfold zST at f1 ⊢
    rw [f1' 0 (by omega), f1' 15 (by omega), f1' 45 (by omega), f1' 7 (by omega), f2 71 (by omega)]
    exact f1
  · unfold zPP at g1 ⊢
    rw [f1' 53 (by omega), f2 97 (by omega)]
    exact g1
  · unfold zIM zI1 at i1 ⊢
    rw [f2 73 (by omega), f2 74 (by omega)]
    exact i1
theorem zIV_rk (h : zIV n κ σ ρ K m hn t z Ls Λ) : ∀ y, 1 ≤ y → y ≤ 5 → σ.2.1 76 y = nI (zrkK K y) := h.1.2.2.2
theorem zMf_T {σ' σ : zm_S} (h : zTe σ' σ) : zMf σ' σ := ⟨fun k hk => h.1 k (by omega), fun a ha => h.2.1 a (by omega)⟩
theorem zMf_M {σ' σ : zm_S} (h : zMe σ' σ) : zMf σ' σ := ⟨fun k hk => h.1 k (by omega) (by omega), fun a ha => h.2.1 a (by omega) (by omega) (by omega) (by omega) (by omega)⟩
/-- refused on both sides -/
theorem zIV_ref {q : Nat} (h : zIV n κ σ ρ K m hn t z Ls Λ) (hq : q = 1 ∨ q = 2 ∨ q = 3 ∨ q = 5 ∨ q = 6) : zIV n (zlref κ q) (zref σ q) ρ K m hn t z Ls Λ := by
  obtain ⟨⟨a1, a2, a3, a4⟩, b1, c1, d1, e1, f1, g1, i1⟩ := h
  have k1 : ∀ o, o ≠ 8 → (zlref κ q).1 o = κ.1 o := fun o ho => zsi2_o κ ho 18 (-(nI q))
  have k8 : ∀ j, j ≠ 18 → (zlref κ q).1 8 j = κ.1 8 j := fun j hj => zsi2_k κ 8 hj (-(nI q))
  have k2 : ∀ a, a ≠ 69 → (zlref κ q).2.1 a = κ.2.1 a := fun a ha => zla_o (zl_si κ 8 18 (-(nI q))) ha _ _
  have k3 : (zlref κ q).2.2 = κ.2.2 := rfl
  have s1 : ∀ k, k ≠ 0 → (zref σ q).1 k = σ.1 k := fun k hk => zsi_o σ hk _
  have s2 : ∀ a, a ≠ 71 → (zref σ q).2.1 a = σ.2.1 a := fun a ha => zsA_o (zm_si σ 0 (-(nI q))) ha _
  refine ⟨⟨a1, by rw [k2 57 (by decide)]; exact a2, by rw [s2 72 (by decide)]; exact a3, fun y h1 h5 => by rw [s2 76 (by decide)]; exact a4 y h1 h5⟩, b1, ?_, ?_, ?_, ?_, ?_, ?_⟩
  · unfold zQc at c1 ⊢
    rw [k1 9 (by decide), k3]
    exact c1
  · unfold zLG at d1 ⊢
    rw [k1 43 (by decide), k2 44 (by decide), s1 44 (by decide), s2 94 (by decide)]
    exact d1
  · unfold zTT zWr at e1 ⊢
    rw [k8 7 (by decide), k2 47 (by decide), s1 14 (by decide), s2 78 (by decide), s2 77 (by decide)]
    exact e1
  · obtain ⟨x1, x2, x3, x4, x5, x6, x7, x8, x9⟩ := f1
    have u1 : (zlref κ q).2.1 69 = upd (κ.2.1 69) (zslot q) (κ.2.1 69 (zslot q) + nI 1) := zla_s (zl_si κ 8 18 (-(nI q))) 69 _ _
    have u2 : (zref σ q).2.1 71 = upd (σ.2.1 71) q (σ.2.1 71 q + nI 1) := zsA_s (zm_si σ 0 (-(nI q))) 71 _
    refine ⟨?_, by rw [k8 15 (by decide), s1 15 (by decide)]; exact x2, by rw [k8 16 (by decide), s1 45 (by decide)]; exact x3, by rw [k8 17 (by decide), s1 7 (by decide)]; exact x4, ?_⟩
    · rw [show (zlref κ q).1 8 18 = -(nI q) from zsi2_s κ 8 18 _, show (zref σ q).1 0 = -(nI q) from zsi_s σ 0 _]
    · rw [u1, u2]
      rcases hq with rfl | rfl | rfl | rfl | rfl <;> simp [zslot, upd, x5, x6, x7, x8, x9]
  · unfold zPP at g1 ⊢
    rw [k1 32 (by decide), k2 33 (by decide), k2 35 (by decide), s1 53 (by decide), s2 97 (by decide)]
    exact g1
  · unfold zIM zI1 at i1 ⊢
    rw [k3, s2 73 (by decide), s2 74 (by decide)]
    exact i1
/-- done on both sides -/
theorem zIV_acc (h : zIV n κ σ ρ K m hn t z Ls Λ) : zIV n (zl_si κ 8 18 (nI 0)) (zm_si σ 0 0) ρ K m hn t z Ls Λ := by
  obtain ⟨⟨a1, a2, a3, a4⟩, b1, c1, d1, e1, f1, g1, i1⟩ := h
  have k1 : ∀ o, o ≠ 8 → (zl_si κ 8 18 (nI 0)).1 o = κ.1 o := fun o ho => zsi2_o κ ho 18 _
  have k8 : ∀ j, j ≠ 18 → (zl_si κ 8 18 (nI 0)).1 8 j = κ.1 8 j := fun j hj => zsi2_k κ 8 hj _
  have s1 : ∀ k, k ≠ 0 → (zm_si σ 0 0).1 k = σ.1 k := fun k hk => zsi_o σ hk _
  refine ⟨⟨a1, a2, a3, a4⟩, b1, ?_, ?_, ?_, ?_, ?_, i1⟩
  · unfold zQc at c1 ⊢
    rw [k1 9 (by decide)]
    exact c1
  · unfold zLG at d1 ⊢
    rw [k1 43 (by decide), s1 44 (by decide)]
    exact d1
  · unfold zTT at e1 ⊢
    rw [k8 7 (by decide), s1 14 (by decide)]
    exact e1
  · obtain ⟨x1, x2, x3, x4, x5⟩ := f1
    exact ⟨by rw [show (zl_si κ 8 18 (nI 0)).1 8 18 = nI 0 from zsi2_s κ 8 18 _, show (zm_si σ 0 0).1 0 = 0 from zsi_s σ 0 _]; rfl, by rw [k8 15 (by decide), s1 15 (by decide)]; exact x2, by rw [k8 16 (by decide), s1 45 (by decide)]; exact x3, by rw [k8 17 (by decide), s1 7 (by decide)]; exact x4, x5⟩
  · unfold zPP at g1 ⊢
    rw [k1 32 (by decide), s1 53 (by decide)]
    exact g1
end ZRL
/-- the kind of an answer: 1 an int, 2 a long (of comes alone, the one call that makes a single cell) -/
def zVk (v : Value) : Nat := match v with
  | .int _ => 1
  | .long _ => 2
  | _ => 0
def zVr (mc : Nat) : Nat := match mc with
  | 1 => 2
  | _ => 1
/-- a call on both sides: the same answer, and all stays in order -/
def zCase (l : Launch) (G : zq_G) (D mc ms : Nat) (y1 y2 : MethodName) (as : List Value) (n : Nat) (κ : zl_S) (σ : zm_S) (ρ : Nat → zq_E) : Prop :=
  ∀ P1 : Option Value → Nat → (Nat → zq_E) → Prop, (∀ (v : Value) (n1 : Nat) (f1 : Nat → zq_E) (_ : zVk v = zVr mc ∧ ∃ fs, f1 70 = .inr (12, fs)), (∀ P2 : Option Value → Nat → (Nat → zq_E) → Prop, (∀ n2 κ2 σ2 ρ2, zIVx n2 κ2 σ2 ρ2 → P2 (some v) n2 (zl_h κ2 (zm_h σ2 ρ2))) → zq_Runs l G D 0 0 y2 (.ref 70 :: as) n1 f1 P2) → P1 (some v) n1 f1) → zq_Runs l G D mc ms y1 (.ref 8 :: as) n (zl_h κ (zm_h σ ρ)) P1

