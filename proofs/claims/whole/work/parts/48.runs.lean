/-! ===== orders that are run ===== -/
def zsm64 (v : Int64) : Int32 := if v < 0 ∨ 1000000 < v then -1 else v.toInt32
def zsmall (v : Int) : Int32 := if v < 0 ∨ 1000000 < v then -1 else zI v
def zBi (v : Int) : Prop := -1000000000 ≤ v ∧ v ≤ 1000000000
theorem zsm64_L {v : Int} (h : zBi v) : zsm64 (zL v) = zsmall v := by
  unfold zBi at h
  have e1 : zL v < 0 ↔ v < 0 := zL_lt (y := 0) (by omega) (by omega)
  have e2 : 1000000 < zL v ↔ 1000000 < v := zL_lt (x := 1000000) (by omega) (by omega)
  unfold zsm64 zsmall
  by_cases e : v < 0 ∨ 1000000 < v
  · rw [if_pos e, if_pos (e.elim (fun h => Or.inl (e1.mpr h)) (fun h => Or.inr (e2.mpr h)))]
  · rw [if_neg e, if_neg (fun g => e (g.elim (fun h => Or.inl (e1.mp h)) (fun h => Or.inr (e2.mp h)))), zL_i32 (by omega) (by omega)]
theorem zix_small {m : Nat} {v : Int} (hm : m ≤ 7) (h : zBi v) : zix m (zsmall v) = zix m (zI v) ∧ (zix m (zI v) = true → zsmall v = zI v) := by
  unfold zBi at h
  unfold zsmall
  by_cases e : v < 0 ∨ 1000000 < v
  · rw [if_pos e]
    have h1 : zix m (zI v) = false := by
      unfold zix
      rw [zI_toInt (by omega) (by omega), Bool.and_eq_false_iff, decide_eq_false_iff_not, decide_eq_false_iff_not]
      omega
    have h2 : zix m (-1) = false := by
      unfold zix
      rw [show (-1 : Int32).toInt = -1 from rfl]
      rfl
    rw [h1, h2]
    exact ⟨rfl, fun h => by cases h⟩
  · rw [if_neg e]
    exact ⟨rfl, fun _ => rfl⟩
theorem zlies_int {a b : Nat} {x : Int32} (ha : a < 2147483648) (hb : b < 2147483648) : zlies a b x = (decide ((a : Int) ≤ x.toInt) && decide (x.toInt ≤ (b : Int))) := by
  unfold zlies
  rw [Bool.eq_iff_iff]
  simp only [Bool.and_eq_true, decide_eq_true_eq, Int32.le_iff_toInt_le, nI_toInt ha, nI_toInt hb]
theorem zlies_small {a b : Nat} {v : Int} (ha : a ≤ 7) (hb : b ≤ 7) (h : zBi v) : zlies a b (zsmall v) = zlies a b (zI v) ∧ (zlies a b (zI v) = true → zsmall v = zI v) := by
  unfold zBi at h
  unfold zsmall
  by_cases e : v < 0 ∨ 1000000 < v
  · rw [if_pos e]
    have h1 : zlies a b (zI v) = false := by
      rw [zlies_int (by omega) (by omega), zI_toInt (by omega) (by omega), Bool.and_eq_false_iff, decide_eq_false_iff_not, decide_eq_false_iff_not]
      omega
    have h2 : zlies a b (-1) = false := by
      rw [zlies_int (by omega) (by omega), show (-1 : Int32).toInt = -1 from rfl, Bool.and_eq_false_iff, decide_eq_false_iff_not]
      exact Or.inl (by omega)
    rw [h1, h2]
    exact ⟨rfl, fun h => by cases h⟩
  · rw [if_neg e]
    exact ⟨rfl, fun _ => rfl⟩
/-- what the Model takes of its sums comes to the same -/
theorem zd_small {h : Nat} {a b c : Int} {K : Nat → Int32} {m : Nat} {Lo : Option (List zLC)} (hm : m ≤ 7) (ha : zBi a) (hb : zBi b) (hc : zBi c) : zdC h (zsmall a) (zsmall b) (zsmall c) K m Lo = zdC h (zI a) (zI b) (zI c) K m Lo ∧
    (zdC h (zI a) (zI b) (zI c) K m Lo = 0 → zdK h (zsmall a) (zsmall b) (zsmall c) K = zdK h (zI a) (zI b) (zI c) K ∧ zdD h (zsmall a) (zsmall b) K = zdD h (zI a) (zI b) K ∧ zdT h (zsmall a) (zsmall b) (zsmall c) K m Lo = zdT h (zI a) (zI b) (zI c) K m Lo) := by
  have a1 := zix_small hm ha
  have a2 := zix_small (m := m - 1) (by omega) ha
  have a3 := zlies_small (a := 0) (b := 3) (by decide) (by decide) ha
  have b1 := zlies_small (a := 0) (b := 3) (by decide) (by decide) hb
  have c1 := zlies_small (a := 1) (b := 5) (by decide) (by decide) hc
  unfold zdC zdK zdD zdT
  by_cases h0 : h = 0
  · subst h0
    rw [if_pos rfl, if_pos rfl, if_pos rfl, if_pos rfl, if_pos rfl, if_pos rfl, if_pos rfl, if_pos rfl, b1.1, c1.1, a1.1]
    by_cases e1 : (zlies 0 3 (zI b) && zlies 1 5 (zI c)) = false
    · rw [if_pos e1, if_pos e1]
      exact ⟨rfl, fun h => by omega⟩
    · rw [if_neg e1, if_neg e1]
      rw [Bool.not_eq_false, Bool.and_eq_true] at e1
      by_cases e2 : zix m (zI a) = false
      · rw [if_pos e2, if_pos e2]
        exact ⟨rfl, fun h => by omega⟩
      · rw [if_neg e2, if_neg e2, b1.2 e1.1, c1.2 e1.2, a1.2 (Bool.not_eq_false _ ▸ e2)]
        exact ⟨rfl, fun _ => ⟨rfl, rfl, rfl⟩⟩
  · rw [if_neg h0, if_neg h0, if_neg h0, if_neg h0, if_neg h0, if_neg h0, if_neg h0, if_neg h0]
    by_cases h1 : h = 1
    · subst h1
      rw [if_pos rfl, if_pos rfl, if_pos rfl, if_pos rfl, if_pos rfl, if_pos rfl, if_pos rfl, if_pos rfl, a2.1]
      by_cases e2 : zix (m - 1) (zI a) = false
      · rw [if_pos e2]
        exact ⟨rfl, fun h => by omega⟩
      · rw [if_neg e2, a2.2 (Bool.not_eq_false _ ▸ e2)]
        exact ⟨rfl, fun _ => ⟨rfl, rfl, rfl⟩⟩
    · rw [if_neg h1, if_neg h1, if_neg h1, if_neg h1, if_neg h1, if_neg h1, if_neg h1, if_neg h1]
      by_cases h2 : h = 2
      · subst h2
        rw [if_pos rfl, if_pos rfl, if_pos rfl, if_pos rfl, if_pos rfl, if_pos rfl, if_pos rfl, if_pos rfl, a3.1]
        by_cases e2 : zlies 0 3 (zI a) = false
        · rw [if_pos e2]
          exact ⟨rfl, fun h => by omega⟩
        · rw [if_neg e2, a3.2 (Bool.not_eq_false _ ▸ e2)]
          exact ⟨rfl, fun _ => ⟨rfl, rfl, rfl⟩⟩
      · rw [if_neg h2, if_neg h2, if_neg h2, if_neg h2, if_neg h2, if_neg h2, if_neg h2, if_neg h2]
        exact ⟨rfl, fun _ => ⟨rfl, rfl, rfl⟩⟩
theorem zdC_le (h : Nat) (a b c : Int32) (K : Nat → Int32) (m : Nat) (Lo : Option (List zLC)) : zdC h a b c K m Lo ≤ 3 := by
  unfold zdC
  split
  · split <;> (try split) <;> (try split) <;> omega
  · split
    · split <;> omega
    · split
      · split <;> omega
      · split <;> omega
theorem zaln_le {al : Nat → Nat} (h : zpm al) : zaln al 5 ≤ 99999 := by
  have a0 := h.1 0 (by decide)
  have a1 := h.1 1 (by decide)
  have a2 := h.1 2 (by decide)
  have a3 := h.1 3 (by decide)
  have a4 := h.1 4 (by decide)
  show 10 * (10 * (10 * (10 * (10 * 0 + al 0) + al 1) + al 2) + al 3) + al 4 ≤ _
  omega
theorem zdT_b {h : Nat} {a b c : Int32} {K : Nat → Int32} {m : Nat} {Lo : Option (List zLC)} (hK : zKI K m Lo) (hC : zdC h a b c K m Lo = 0) : 0 ≤ zdT h a b c K m Lo ∧ zdT h a b c K m Lo ≤ 100000 ∧ (h = 0 → zdT h a b c K m Lo ≤ 99) := by
  unfold zdT
  split
  · have := ztell_b (W := zlwV K m a.toNatClampNeg (zX1 K a.toNatClampNeg) b c) (h := 1) (t := 1) Lo (by omega)
    omega
  · next n0 =>
    split
    · have := ztell_b (W := zlwV K m (zW1 K a.toNatClampNeg) (zX1 K (zW1 K a.toNatClampNeg)) (-1) (-1)) (h := 2) (t := 1) Lo (by omega)
      have := ztell_b (W := zlwV K m (zW1 K (a.toNatClampNeg + 1)) (zX1 K (zW1 K (a.toNatClampNeg + 1))) (-1) (-1)) (h := 2) (t := 1) Lo (by omega)
      omega
    · next n1 =>
      split
      · next n2 =>
        subst n2
        have e : zlies 0 3 a = true := by
          unfold zdC at hC
          rw [if_neg (by decide), if_neg (by decide), if_pos rfl] at hC
          by_cases e : zlies 0 3 a = false
          · rw [if_pos e] at hC; omega
          · exact Bool.not_eq_false _ ▸ e
        obtain ⟨p, -, hp, rfl⟩ := zlies_t (by decide) (by decide) e
        rw [nI_clamp (by omega)]
        have := zaln_le (zAl_dec hK.2.1 hp).2
        omega
      · obtain ⟨d, hd, e⟩ := hK.2.2.2.1
        rw [e, nI_clamp (by omega)]
        omega
/-- what is there while orders run: what is kept, deeds, how many were done, the latest -/
abbrev zRS : Type := (Nat → Int32) × List Nat × Nat × Int
/-- what the words of orders come to -/
def zovW (m : Nat) (S : zRS) : Nat → Nat → Int := fun c k =>
  if c = 15 then (S.1 19).toInt else if c = 16 then (S.2.2.1 : Int) else if c = 17 then S.2.2.2 else if c = 18 then (zfind (zbk (zrkK S.1) (zX1 S.1) (zW1 S.1)) (-1) (m - 1) 0 0).toInt else if c = 19 then (zswO (zrkK S.1) (zX1 S.1) (zW1 S.1) m m 0 0 : Int) else if c = 20 then (if k < m then (zW1 S.1 k : Int) else -1) else if c = 21 then (if k < m then (zX1 S.1 k : Int) else -1) else 0
def zone3 (m : Nat) (Lo : Option (List zLC)) (h : Nat) (S : zRS) (a b d : Int) : Option zRS :=
  if zdC h (zI a) (zI b) (zI d) S.1 m Lo = 0 then some (zdK h (zI a) (zI b) (zI d) S.1, zpush (zdD h (zI a) (zI b) S.1) S.2.1, S.2.2.1 + 1, if h = 0 then zdT h (zI a) (zI b) (zI d) S.1 m Lo else S.2.2.2) else none
/-- an order, once -/
def zone (m : Nat) (Lo : Option (List zLC)) (c : zOC) (S : zRS) : Option zRS :=
  if c.2.2.2 (zovW m S) = some 1 then (c.2.1.1 (zovW m S)).bind fun a => (c.2.1.2.1 (zovW m S)).bind fun b => (c.2.1.2.2 (zovW m S)).bind fun d => zone3 m Lo c.1 S a b d else some S
def ztimes (m : Nat) (Lo : Option (List zLC)) (c : zOC) : Nat → zRS → Option zRS
  | 0, S => some S
  | t + 1, S => (zone m Lo c S).bind (ztimes m Lo c t)
/-- all orders from the i-th on: what they leave, or which of them can't be -/
def zrunsF (m : Nat) (Lo : Option (List zLC)) : List zOC → Nat → zRS → zRS ⊕ Nat
  | [], _, S => .inl S
  | c :: cs, i, S => match ztimes m Lo c c.2.2.1 S with
    | some S' => zrunsF m Lo cs (i + 1) S'
    | none => .inr i
/-- alike but for what orders change -/
def zRo (τ σ : zm_S) : Prop := (∀ k, (k < 23 ∨ 26 < k) → k ≠ 28 → k ≠ 29 → k ≠ 44 → (k < 46 ∨ 50 < k) → τ.1 k = σ.1 k) ∧ (∀ a, a ≠ 83 → a ≠ 72 → a ≠ 76 → a ≠ 94 → τ.2.1 a = σ.2.1 a)
theorem zRo_r (σ : zm_S) : zRo σ σ := ⟨fun _ _ _ _ _ _ => rfl, fun _ _ _ _ _ => rfl⟩
theorem zRo_t {σ τ υ : zm_S} (h : zRo σ τ) (g : zRo τ υ) : zRo σ υ := ⟨fun k a1 a2 a3 a4 a5 => (h.1 k a1 a2 a3 a4 a5).trans (g.1 k a1 a2 a3 a4 a5), fun a b1 b2 b3 b4 => (h.2 a b1 b2 b3 b4).trans (g.2 a b1 b2 b3 b4)⟩
theorem zRo_G {σ τ : zm_S} (h : zGs σ τ) : zRo σ τ := ⟨fun k a1 a2 a3 a4 a5 => h.1 k a1 (by omega), fun a _ _ _ _ => by rw [h.2]⟩
theorem zRo_O {σ τ : zm_S} (h : zOt σ τ) : zRo σ τ := ⟨fun k a1 a2 a3 a4 a5 => h.1 k a1 a4, fun a b1 b2 b3 b4 => h.2.1 a b1 b2 b3 b4⟩
theorem zRo_i {σ τ : zm_S} {k : Nat} {v : Int32} (hk : k = 28 ∨ k = 29 ∨ k = 46) (h : zRo σ τ) : zRo (zm_si σ k v) τ := ⟨fun j a1 a2 a3 a4 a5 => by rw [zsi_o _ (by omega)]; exact h.1 j a1 a2 a3 a4 a5, h.2⟩
/-- the Model's state while orders run -/
def zRM (σ : zm_S) (m : Nat) (Lo : Option (List zLC)) (S : zRS) : Prop := zMS σ m Lo S.1 S.2.1 ∧ σ.1 28 = nI S.2.2.1 ∧ S.2.2.1 ≤ 100000 ∧ σ.1 29 = zI S.2.2.2 ∧ -1 ≤ S.2.2.2 ∧ S.2.2.2 ≤ 99
theorem zovW_V {σ : zm_S} {m : Nat} {Lo : Option (List zLC)} {S : zRS} (h : zRM σ m Lo S) : zovV σ m (zX1 (σ.2.1 72)) (zW1 (σ.2.1 72)) (zrkK (σ.2.1 72)) = zovW m S := by
  obtain ⟨⟨e, -⟩, h2, h3, h4, h5, h6⟩ := h
  funext c k
  unfold zovV zovW
  rw [e, h2, h4, nI_toInt (by omega), zI_toInt (by omega) (by omega)]
section ZL38
variable {l : Launch} {G : zq_G} {D n m B E : Nat} {σ : zm_S} {ρ : Nat → zq_E} {post : Option Value → Nat → (Nat → zq_E) → Prop} {cd vl : Nat → Nat} {Lo : Option (List zLC)} {S : zRS}
theorem zm_small {v : Int64} {f : Nat → zq_E} (hp : post (some (.int (zsm64 v))) n f) : zq_Runs l G D 0 0 yX12_small [.long v] n f post := by
  unfold zsm64 at hp
  refine zq_enter (cc := cX12_small) (nL := 2) (ret := (some .int)) cw_X12_small (by decide) rfl (Nat.le_of_ble_eq_true rfl) ?_
  refine at_lload_n dX12_small_0 rfl ?_
  refine at_lconst dX12_small_1 (v := 0) rfl ?_
  refine at_lcmp dX12_small_2 ?_
  refine at_if_lt (tgt := 14) dX12_small_3 (by decide) (fun c3 => ?_) (fun c3 => ?_)
  · rw [lg_cmp_lt] at c3
    rw [if_pos (Or.inl c3)] at hp
    refine at_iconst dX12_small_14 (v := -1) rfl ?_
    refine at_goto (tgt := 20) dX12_small_15 (by decide) ?_
    refine at_iret dX12_small_20 rfl (by omega) (by omega) ?_
    exact hp
  · rw [lg_cmp_lt] at c3
    refine at_lload_n dX12_small_6 rfl ?_
    refine at_ldc2 dX12_small_7 kl_X12_503 ?_
    refine at_lcmp dX12_small_10 ?_
    refine at_if_le (tgt := 18) dX12_small_11 (by decide) (fun c11 => ?_) (fun c11 => ?_)
    · rw [lg_cmp_le] at c11
      rw [if_neg (fun h => h.elim c3 (fun h => absurd c11 (Int64.not_le.mpr h)))] at hp
      refine at_lload_n dX12_small_18 rfl ?_
      refine at_l2i dX12_small_19 ?_
      refine at_iret dX12_small_20 rfl (by omega) (by omega) ?_
      exact hp
    · rw [lg_cmp_le] at c11
      rw [if_pos (Or.inr (Int64.not_le.mp c11))] at hp
      refine at_iconst dX12_small_14 (v := -1) rfl ?_
      refine at_goto (tgt := 20) dX12_small_15 (by decide) ?_
      refine at_iret dX12_small_20 rfl (by omega) (by omega) ?_
      exact hp
theorem zneg_lt {q : Nat} (h0 : 0 < q) (h1 : q < 7) : ¬ 0 ≤ -(nI q) := by
  rcases (show q = 1 ∨ q = 2 ∨ q = 3 ∨ q = 4 ∨ q = 5 ∨ q = 6 by omega) with rfl | rfl | rfl | rfl | rfl | rfl <;> decide
theorem zm_obeys {h : Nat} {a b d : Int} (hD : 78 ≤ D) (hR : zRM σ m Lo S) (hh : h ≤ 3) (ha : zBi a) (hb : zBi b) (hd : zBi d) (h48 : σ.1 48 = nI (zhd h)) (hs0 : h ≠ 3 → σ.2.2 1 0 = zL a) (hs1 : h = 0 → σ.2.2 1 1 = zL b ∧ σ.2.2 1 2 = zL d)
    (hf : ∀ τ q, zone3 m Lo h S a b d = none → 0 < q → q < 7 → zRo τ σ → τ.2.1 72 = S.1 → post (some (.int (-(nI q)))) n (zm_h τ ρ))
    (ht : ∀ τ S' v, zone3 m Lo h S a b d = some S' → 0 ≤ v → zRo τ σ → zMS τ m Lo S'.1 S'.2.1 → τ.1 28 = σ.1 28 → τ.1 46 = σ.1 46 → τ.1 29 = zI S'.2.2.2 → post (some (.int v)) n (zm_h τ ρ)) : zq_Runs l G D 0 0 yX12_obeys [.ref 70] n (zm_h σ ρ) post := by
  obtain ⟨hS, h28, h28b, h29, h29a, h29b⟩ := hR
  have hm7 := hS.2.1.1.2.1
  obtain ⟨z1, z2⟩ := zd_small (h := h) (K := S.1) (Lo := Lo) hm7 ha hb hd
  have hle := zdC_le h (zI a) (zI b) (zI d) S.1 m Lo
  have hT := fun hC => zdT_b (h := h) (a := zI a) (b := zI b) (c := zI d) hS.2.1 hC
  have hf : ∀ τ, zdC h (zI a) (zI b) (zI d) S.1 m Lo ≠ 0 → zRo τ σ → τ.2.1 72 = S.1 → post (some (.int (-(nI (zdC h (zI a) (zI b) (zI d) S.1 m Lo))))) n (zm_h τ ρ) := fun τ e t1 t2 => hf τ _ (by unfold zone3; rw [if_neg e]) (by omega) (by omega) t1 t2
  have ht : ∀ τ, zdC h (zI a) (zI b) (zI d) S.1 m Lo = 0 → zRo τ σ → zMS τ m Lo (zdK h (zI a) (zI b) (zI d) S.1) (zpush (zdD h (zI a) (zI b) S.1) S.2.1) → τ.1 28 = σ.1 28 → τ.1 46 = σ.1 46 → τ.1 29 = zI (if h = 0 then zdT h (zI a) (zI b) (zI d) S.1 m Lo else S.2.2.2) → post (some (.int (zI (zdT h (zI a) (zI b) (zI d) S.1 m Lo)))) n (zm_h τ ρ) := fun τ e t1 t2 t3 t5 t4 => ht τ _ _ (by unfold zone3; rw [if_pos e]) (zI_ge (hT e).1 (by have := hT e; omega)) t1 t2 t3 t5 t4
  refine zq_enter (cc := cX12_obeys) (nL := 3) (ret := (some .int)) cw_X12_obeys (by decide) rfl (Nat.le_of_ble_eq_true rfl) ?_
  refine at_aload_n dX12_obeys_0 rfl ?_
  refine at_get dX12_obeys_1 fl_X12_123 rfl rfl ?_
  refine at_iconst dX12_obeys_4 (v := nI 0) (by decide) ?_
  refine at_ml1ld dX12_obeys_5 rfl (by omega) ?_
  refine at_callS1 (d := D - 1) dX12_obeys_6 ms_X12_505 (Nat.le_of_ble_eq_true rfl) (zq_r0 (by omega) (by omega) (by omega)) ?_
  refine zm_small ?_
  refine at_istore_n dX12_obeys_9 rfl (by decide) ?_
  refine at_aload_n dX12_obeys_10 rfl ?_
  refine at_get dX12_obeys_11 fl_X12_491 rfl rfl ?_
  rw [h48]
  rcases (show h = 0 ∨ h = 1 ∨ h = 2 ∨ h = 3 by omega) with rfl | rfl | rfl | rfl
  · refine at_tableOut (tgt := 57) dX12_obeys_14 (by decide) (by decide) ?_
    rw [hs0 (by decide), zsm64_L ha]
    have e1 := hs1 rfl
    refine at_aload_n dX12_obeys_57 rfl ?_
    refine at_iload_n dX12_obeys_58 rfl ?_
    refine at_aload_n dX12_obeys_59 rfl ?_
    refine at_get dX12_obeys_60 fl_X12_123 rfl rfl ?_
    refine at_iconst dX12_obeys_63 (v := nI 1) (by decide) ?_
    refine at_ml1ld dX12_obeys_64 rfl (by omega) ?_
    rw [e1.1]
    refine at_callS1 (d := D - 1) dX12_obeys_65 ms_X12_505 (Nat.le_of_ble_eq_true rfl) (zq_r0 (by omega) (by omega) (by omega)) ?_
    refine zm_small ?_
    rw [zsm64_L hb]
    refine at_aload_n dX12_obeys_68 rfl ?_
    refine at_get dX12_obeys_69 fl_X12_123 rfl rfl ?_
    refine at_iconst dX12_obeys_72 (v := nI 2) (by decide) ?_
    refine at_ml1ld dX12_obeys_73 rfl (by omega) ?_
    rw [e1.2]
    refine at_callS1 (d := D - 1) dX12_obeys_74 ms_X12_505 (Nat.le_of_ble_eq_true rfl) (zq_r0 (by omega) (by omega) (by omega)) ?_
    refine zm_small ?_
    rw [zsm64_L hd]
    refine at_callV3 (d := D - 1) dX12_obeys_77 mv_X12_464 rfl (Nat.le_of_ble_eq_true rfl) (zq_r0 (by omega) (by omega) (by omega)) ?_
    refine zm_strokesK (by omega) hS (fun τ e t1 => ?_) (fun τ e t1 t2 => ?_)
    · rw [z1] at e
      rw [z1]
      have hp := hf (zm_si τ 29 (τ.1 29)) e (zRo_i (by omega) (zRo_O (zOt_e t1))) ((t1.2.1 72 (by decide)).trans hS.1)
      refine at_istore_n dX12_obeys_80 rfl (by decide) ?_
      refine at_aload_n dX12_obeys_81 rfl ?_
      refine at_iload_n dX12_obeys_82 rfl ?_
      refine at_if_ge (tgt := 93) dX12_obeys_83 (by decide) (fun c83 => ?_) (fun c83 => ?_)
      · exact absurd c83 (zneg_lt (by omega) (by omega))
      · refine at_aload_n dX12_obeys_86 rfl ?_
        refine at_get dX12_obeys_87 fl_X12_331 rfl rfl ?_
        refine at_goto (tgt := 94) dX12_obeys_90 (by decide) ?_
        refine at_mput dX12_obeys_94 (pl_X12_331 _) (fun _ => ⟨_, rfl⟩) rfl rfl ?_
        refine at_iload_n dX12_obeys_97 rfl ?_
        refine at_iret dX12_obeys_98 rfl (by omega) (by omega) ?_
        exact hp
    · rw [z1] at e
      obtain ⟨y1, y2, y3⟩ := z2 e
      rw [y1, y2] at t1
      rw [y3]
      have hp := ht (zm_si τ 29 (zI (zdT 0 (zI a) (zI b) (zI d) S.1 m Lo))) e (zRo_i (by omega) (zRo_O t2)) t1 ((zsi_o _ (by decide) _).trans (t2.1 28 (by omega) (by decide))) ((zsi_o _ (by decide) _).trans (t2.1 46 (by omega) (by decide))) (by rw [if_pos rfl]; exact zsi_s _ _ _)
      refine at_istore_n dX12_obeys_80 rfl (by decide) ?_
      refine at_aload_n dX12_obeys_81 rfl ?_
      refine at_iload_n dX12_obeys_82 rfl ?_
      refine at_if_ge (tgt := 93) dX12_obeys_83 (by decide) (fun c83 => ?_) (fun c83 => ?_)
      · refine at_iload_n dX12_obeys_93 rfl ?_
        refine at_mput dX12_obeys_94 (pl_X12_331 _) (fun _ => ⟨_, rfl⟩) rfl rfl ?_
        refine at_iload_n dX12_obeys_97 rfl ?_
        refine at_iret dX12_obeys_98 rfl (by omega) (by omega) ?_
        exact hp
      · exact absurd (zI_ge (hT e).1 (by have := hT e; omega)) c83
  · refine at_tableIn (tgt := 40) dX12_obeys_14 (by decide) (by decide) rfl (by decide) ?_
    rw [hs0 (by decide), zsm64_L ha]
    refine at_aload_n dX12_obeys_40 rfl ?_
    refine at_iload_n dX12_obeys_41 rfl ?_
    refine at_callV1 (d := D - 1) dX12_obeys_42 mv_X12_470 rfl (Nat.le_of_ble_eq_true rfl) (zq_r0 (by omega) (by omega) (by omega)) ?_
    refine zm_swapsK (b := zsmall b) (c := zsmall d) (by omega) hS (fun τ e t1 => ?_) (fun τ e t1 t2 => ?_)
    · rw [z1] at e
      rw [z1]
      have hp := hf τ e (zRo_O (zOt_e t1)) ((t1.2.1 72 (by decide)).trans hS.1)
      refine at_iret dX12_obeys_45 rfl (by omega) (by omega) ?_
      exact hp
    · rw [z1] at e
      obtain ⟨y1, y2, y3⟩ := z2 e
      rw [y1, y2] at t1
      rw [y3]
      have hp := ht τ e (zRo_O t2) t1 (t2.1 28 (by omega) (by decide)) (t2.1 46 (by omega) (by decide)) (by rw [if_neg (by decide), t2.1 29 (by omega) (by decide)]; exact h29)
      refine at_iret dX12_obeys_45 rfl (by omega) (by omega) ?_
      exact hp
  · refine at_tableIn (tgt := 46) dX12_obeys_14 (by decide) (by decide) rfl (by decide) ?_
    rw [hs0 (by decide), zsm64_L ha]
    refine at_aload_n dX12_obeys_46 rfl ?_
    refine at_iload_n dX12_obeys_47 rfl ?_
    refine at_callV1 (d := D - 1) dX12_obeys_48 mv_X12_473 rfl (Nat.le_of_ble_eq_true rfl) (zq_r0 (by omega) (by omega) (by omega)) ?_
    refine zm_decreesK (b := zsmall b) (c := zsmall d) (by omega) hS (fun τ e t1 => ?_) (fun τ e t1 t2 => ?_)
    · rw [z1] at e
      rw [z1]
      have hp := hf τ e (zRo_O (zOt_e t1)) ((t1.2.1 72 (by decide)).trans hS.1)
      refine at_iret dX12_obeys_51 rfl (by omega) (by omega) ?_
      exact hp
    · rw [z1] at e
      obtain ⟨y1, y2, y3⟩ := z2 e
      rw [y1, y2] at t1
      rw [y3]
      have hp := ht τ e (zRo_O t2) t1 (t2.1 28 (by omega) (by decide)) (t2.1 46 (by omega) (by decide)) (by rw [if_neg (by decide), t2.1 29 (by omega) (by decide)]; exact h29)
      refine at_iret dX12_obeys_51 rfl (by omega) (by omega) ?_
      exact hp
  · refine at_tableIn (tgt := 52) dX12_obeys_14 (by decide) (by decide) rfl (by decide) ?_
    refine at_aload_n dX12_obeys_52 rfl ?_
    refine at_callV0 (d := D - 1) dX12_obeys_53 mv_X12_476 rfl (Nat.le_of_ble_eq_true rfl) (zq_r0 (by omega) (by omega) (by omega)) ?_
    refine zm_passesK (a := zsmall a) (b := zsmall b) (c := zsmall d) (by omega) hS (fun τ e t1 => ?_) (fun τ e t1 t2 => ?_)
    · rw [z1] at e
      rw [z1]
      have hp := hf τ e (zRo_O (zOt_e t1)) ((t1.2.1 72 (by decide)).trans hS.1)
      refine at_iret dX12_obeys_56 rfl (by omega) (by omega) ?_
      exact hp
    · rw [z1] at e
      obtain ⟨y1, y2, y3⟩ := z2 e
      rw [y1, y2] at t1
      rw [y3]
      have hp := ht τ e (zRo_O t2) t1 (t2.1 28 (by omega) (by decide)) (t2.1 46 (by omega) (by decide)) (by rw [if_neg (by decide), t2.1 29 (by omega) (by decide)]; exact h29)
      refine at_iret dX12_obeys_56 rfl (by omega) (by omega) ?_
      exact hp
end ZL38

