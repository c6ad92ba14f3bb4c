/-! ===== deeds, as they are done and undone over what is kept ===== -/
def alK (K : Nat → Int32) (k : Nat) : Nat := (K (14 + k)).toNatClampNeg
def zAl (K : Nat → Int32) : Prop := (∀ k, k < 5 → K (14 + k) = nI (alK K k)) ∧ zpm (alK K)
def zrkK (K : Nat → Int32) : Nat → Nat := zrkN (alK K)
def zInj (K : Nat → Int32) (m : Nat) : Prop := ∀ i j, i < m → j < m → zW1 K i = zW1 K j → i = j
/-- what is kept is in order -/
def zKI (K : Nat → Int32) (m : Nat) (Lo : Option (List zLC)) : Prop := zCk K m ∧ zAl K ∧ zInj K m ∧ (∃ d, d ≤ 999 ∧ K 19 = nI d) ∧ (∃ q, q ≤ 9 ∧ K 72 = nI q) ∧ zForce K Lo
theorem alK_n {K : Nat → Int32} {k x : Nat} (h : K (14 + k) = nI x) (hx : x < 2147483648) : alK K k = x := by unfold alK; rw [h, nI_clamp hx]
theorem zAl_c {K K' : Nat → Int32} (h : zAl K) (e : ∀ k, k < 5 → K' (14 + k) = K (14 + k)) : zAl K' ∧ ∀ k, k < 5 → alK K' k = alK K k := by
  have e2 : ∀ k, k < 5 → alK K' k = alK K k := fun k hk => by unfold alK; rw [e k hk]
  refine ⟨⟨fun k hk => ?_, ⟨fun i hi => ?_, fun i j hij hj => ?_⟩⟩, e2⟩
  · rw [e k hk, e2 k hk]; exact h.1 k hk
  · rw [e2 i hi]; exact h.2.1 i hi
  · rw [e2 i (by omega), e2 j hj]; exact h.2.2 i j hij hj
theorem zrkN_c {al al' : Nat → Nat} (e : ∀ k, k < 5 → al' k = al k) (y : Nat) : zrkN al' y = zrkN al y := by
  unfold zrkN
  rw [e 0 (by decide), e 1 (by decide), e 2 (by decide), e 3 (by decide)]
/-- a deed undone -/
def zinv (d : Nat) (K : Nat → Int32) : Nat → Int32 :=
  if d / 1000 = 0 then upd K (d / 100 % 10) (nI (zwl (zX1 K (d / 100 % 10)) (d / 10 % 10) (d % 10))) else if d / 1000 = 1 then zswp K (d / 100 % 10) else if d / 1000 = 2 then zdec K (d / 100 % 10) else upd K 19 (nI ((K 19).toNatClampNeg - 1))
def zdv (d : Nat) (K : Nat → Int32) (m : Nat) : Prop :=
  (d / 1000 = 0 ∧ d / 100 % 10 < m ∧ d / 10 % 10 < zlen (zX1 K (d / 100 % 10)) ∧ 1 ≤ d % 10 ∧ d % 10 ≤ 5) ∨ (d / 1000 = 1 ∧ d / 100 % 10 + 1 < m) ∨ (d / 1000 = 2 ∧ d / 100 % 10 ≤ 3) ∨ (d / 1000 = 3 ∧ 1 ≤ (K 19).toNatClampNeg)
/-- deeds that can be undone one after the other, the latest first -/
def zLg (m : Nat) : (Nat → Int32) → List Nat → Prop
  | _, [] => True
  | K, d :: ds => zdv d K m ∧ zLg m (zinv d K) ds
/-- the rows that the Model keeps for them -/
def zUL (L : Nat → Int32) : (Nat → Int32) → List Nat → Prop
  | _, [] => True
  | K, d :: ds => L (21 * ds.length + 20) = nI (d / 1000) ∧ (∀ j, j < 20 → L (21 * ds.length + j) = zinv d K j) ∧ zUL L (zinv d K) ds
def zpush (d : Nat) (Λ : List Nat) : List Nat := (d :: Λ).take 16
theorem zUL_c {L L' : Nat → Int32} : ∀ {Λ : List Nat} {K : Nat → Int32}, zUL L K Λ → (∀ j, j < 21 * Λ.length → L' j = L j) → zUL L' K Λ
  | [], _, _, _ => trivial
  | d :: ds, K, h, e => by
    have e' : ∀ j, j < 21 * ds.length + 21 → L' j = L j := fun j hj => e j (by rw [List.length_cons]; omega)
    exact ⟨(e' _ (by omega)).trans h.1, fun j hj => (e' _ (by omega)).trans (h.2.1 j hj), zUL_c h.2.2 (fun j hj => e' j (by omega))⟩
theorem zUL_sh {L L' : Nat → Int32} : ∀ {Λ : List Nat} {K : Nat → Int32}, zUL L K Λ → (∀ j, j + 21 < 21 * Λ.length → L' j = L (j + 21)) → zUL L' K (Λ.take (Λ.length - 1))
  | [], _, _, _ => trivial
  | d :: [], _, _, _ => trivial
  | d :: b :: ds, K, h, e => by
    have e' : ∀ j, j + 21 < 21 * ds.length + 42 → L' j = L (j + 21) := fun j hj => e j (by rw [List.length_cons, List.length_cons]; omega)
    have ih := zUL_sh (L' := L') h.2.2 (fun j hj => e' j (by rw [List.length_cons] at hj; omega))
    have hl : ((b :: ds).take ((b :: ds).length - 1)).length = ds.length := by rw [List.length_take, List.length_cons]; omega
    show L' (21 * ((b :: ds).take ((b :: ds).length - 1)).length + 20) = _ ∧ (∀ j, j < 20 → L' (21 * ((b :: ds).take ((b :: ds).length - 1)).length + j) = _) ∧ _
    rw [hl]
    refine ⟨?_, fun j hj => ?_, ih⟩
    · rw [e' _ (by omega), show 21 * ds.length + 20 + 21 = 21 * (b :: ds).length + 20 by rw [List.length_cons]; omega]; exact h.1
    · rw [e' _ (by omega), show 21 * ds.length + j + 21 = 21 * (b :: ds).length + j by rw [List.length_cons]; omega]; exact h.2.1 j hj
theorem zLg_take {m : Nat} : ∀ {Λ : List Nat} {K : Nat → Int32} (t : Nat), zLg m K Λ → zLg m K (Λ.take t)
  | [], _, t, _ => by rw [List.take_nil]; trivial
  | d :: ds, K, 0, _ => trivial
  | d :: ds, K, t + 1, h => ⟨h.1, zLg_take t h.2⟩
theorem zpush_len {d : Nat} {Λ : List Nat} (h : Λ.length ≤ 16) : (zpush d Λ).length = (if Λ.length = 16 then 15 else Λ.length) + 1 := by
  unfold zpush
  rw [List.length_take, List.length_cons]
  split <;> omega
theorem zpush_le (d : Nat) (Λ : List Nat) : (zpush d Λ).length ≤ 16 := by
  unfold zpush
  rw [List.length_take]
  omega
theorem zUL_push {L L' K K' : Nat → Int32} {Λ : List Nat} {d : Nat} (h : zUL L K Λ) (hl : Λ.length ≤ 16) (hk : zkp L Λ.length K (nI (d / 1000)) L') (he : zinv d K' = K) : zUL L' K' (zpush d Λ) := by
  obtain ⟨k1, k2, k3⟩ := hk
  by_cases e : Λ.length = 16
  · have ez : zpush d Λ = d :: Λ.take 15 := rfl
    have e15 : (Λ.take 15).length = 15 := by rw [List.length_take]; omega
    rw [if_pos e] at k1 k2 k3
    rw [ez]
    show L' (21 * (Λ.take 15).length + 20) = _ ∧ (∀ j, j < 20 → L' (21 * (Λ.take 15).length + j) = _) ∧ _
    rw [e15, he]
    refine ⟨k3, k2, ?_⟩
    have := zUL_sh (L' := L') h (fun j hj => by rw [e] at hj; rw [k1 j (by omega), if_pos e])
    rw [e] at this
    exact this
  · have ez : zpush d Λ = d :: Λ := List.take_of_length_le (by rw [List.length_cons]; omega)
    rw [if_neg e] at k1 k2 k3
    rw [ez]
    show L' (21 * Λ.length + 20) = _ ∧ (∀ j, j < 20 → L' (21 * Λ.length + j) = _) ∧ _
    rw [he]
    exact ⟨k3, k2, zUL_c h (fun j hj => by rw [k1 j hj, if_neg e])⟩
theorem zLg_push {m : Nat} {K K' : Nat → Int32} {Λ : List Nat} {d : Nat} (h : zLg m K Λ) (hd : zdv d K' m) (he : zinv d K' = K) : zLg m K' (zpush d Λ) := by
  have : zLg m K' (d :: Λ) := ⟨hd, by rw [he]; exact h⟩
  exact zLg_take 16 this
/-! exchanges -/
theorem zW1_swp {K : Nat → Int32} {k j : Nat} : zW1 (zswp K k) j = zW1 K (if j = k then k + 1 else if j = k + 1 then k else j) := by
  unfold zW1 zswp
  by_cases e : j = k
  · subst e
    rw [upd_o _ (by omega), upd_s, if_pos rfl]
    rfl
  · rw [if_neg e]
    by_cases e2 : j = k + 1
    · subst e2; rw [show 7 + (k + 1) = 7 + k + 1 from rfl, upd_s, if_pos rfl]
    · rw [upd_o _ (by omega), upd_o _ (by omega), if_neg e2]
theorem zInj_swp {K : Nat → Int32} {m k : Nat} (h : zInj K m) (hk : k + 1 < m) : zInj (zswp K k) m := by
  intro i j hi hj e
  rw [zW1_swp, zW1_swp] at e
  have := h _ _ (by split <;> (try split) <;> omega) (by split <;> (try split) <;> omega) e
  split at this <;> split at this <;> (try split at this) <;> (try split at this) <;> omega
theorem zInj_c {K K' : Nat → Int32} {m : Nat} (h : zInj K m) (e : ∀ k, k < m → K' (7 + k) = K (7 + k)) : zInj K' m := by
  intro i j hi hj he
  unfold zW1 at he
  rw [e i hi, e j hj] at he
  exact h i j hi hj he
theorem zswp_swp (K : Nat → Int32) (k : Nat) : zswp (zswp K k) k = K := by
  funext j
  unfold zswp
  by_cases e : j = 7 + k + 1
  · subst e; rw [upd_s, upd_o _ (by omega), upd_s]
  · rw [upd_o _ e]
    by_cases e2 : j = 7 + k
    · subst e2; rw [upd_s, upd_s]
    · rw [upd_o _ e2, upd_o _ e, upd_o _ e2]
theorem zdec_dec (K : Nat → Int32) (k : Nat) : zdec (zdec K k) k = K := by
  funext j
  unfold zdec
  by_cases e : j = 14 + k + 1
  · subst e; rw [upd_s, upd_o _ (by omega), upd_s]
  · rw [upd_o _ e]
    by_cases e2 : j = 14 + k
    · subst e2; rw [upd_s, upd_s]
    · rw [upd_o _ e2, upd_o _ e, upd_o _ e2]
theorem zdec_at {K : Nat → Int32} {k j : Nat} : zdec K k (14 + j) = K (14 + (if j = k then k + 1 else if j = k + 1 then k else j)) := by
  unfold zdec
  by_cases e : j = k
  · subst e
    rw [upd_o _ (by omega), upd_s, if_pos rfl]
    rfl
  · rw [if_neg e]
    by_cases e2 : j = k + 1
    · subst e2; rw [show 14 + (k + 1) = 14 + k + 1 from rfl, upd_s, if_pos rfl]
    · rw [upd_o _ (by omega), upd_o _ (by omega), if_neg e2]
theorem alK_dec {K : Nat → Int32} {k j : Nat} : alK (zdec K k) j = alK K (if j = k then k + 1 else if j = k + 1 then k else j) := by
  unfold alK
  rw [zdec_at]
theorem zpm_inj {al : Nat → Nat} (h : zpm al) {i j : Nat} (hi : i < 5) (hj : j < 5) (e : al i = al j) : i = j := by
  rcases Nat.lt_trichotomy i j with g | g | g
  · exact absurd e (h.2 i j g hj)
  · exact g
  · exact absurd e.symm (h.2 j i g hi)
theorem zAl_dec {K : Nat → Int32} {k : Nat} (h : zAl K) (hk : k ≤ 3) : zAl (zdec K k) := by
  have hf : ∀ j, j < 5 → (if j = k then k + 1 else if j = k + 1 then k else j) < 5 := fun j hj => by split <;> (try split) <;> omega
  refine ⟨fun j hj => ?_, ⟨fun i hi => ?_, fun i j hij hj e => ?_⟩⟩
  · rw [zdec_at, alK_dec]; exact h.1 _ (hf j hj)
  · rw [alK_dec]; exact h.2.1 _ (hf i hi)
  · rw [alK_dec, alK_dec] at e
    have := zpm_inj h.2 (hf i (by omega)) (hf j hj) e
    split at this <;> split at this <;> (try split at this) <;> (try split at this) <;> omega
theorem zKI_inv {K : Nat → Int32} {m d : Nat} {Lo : Option (List zLC)} (h : zKI K m Lo) (hd : zdv d K m) : zKI (zinv d K) m Lo := by
  obtain ⟨h1, h2, h3, ⟨dd, h4, h4'⟩, ⟨q, h5, h5'⟩, h6⟩ := h
  have hm := h1.2.1
  unfold zinv
  rcases hd with ⟨e, g1, g2, g3, g4⟩ | ⟨e, g1⟩ | ⟨e, g1⟩ | ⟨e, g1⟩
  · rw [if_pos e]
    refine ⟨zCk_name h1 g1 (zwl_ok (h1.2.2.1 _ g1).2 g2 g3 g4).1, (zAl_c h2 (fun k hk => upd_o _ (by omega) _)).1, zInj_c h3 (fun k hk => upd_o _ (by omega) _), ⟨dd, h4, ?_⟩, ⟨q, h5, ?_⟩, zForce_c h6 (fun j hj => upd_o _ (by omega) _)⟩
    · rw [upd_o _ (by omega)]; exact h4'
    · rw [upd_o _ (by omega)]; exact h5'
  · rw [if_neg (by omega), if_pos e]
    have ho : ∀ j, 14 ≤ j → zswp K (d / 100 % 10) j = K j := fun j hj => by unfold zswp; rw [upd_o _ (by omega), upd_o _ (by omega)]
    exact ⟨zCk_swp h1 g1, (zAl_c h2 (fun k hk => ho _ (by omega))).1, zInj_swp h3 g1, ⟨dd, h4, (ho 19 (by decide)).trans h4'⟩, ⟨q, h5, (ho 72 (by decide)).trans h5'⟩, zForce_c h6 (fun j hj => ho j (by omega))⟩
  · rw [if_neg (by omega), if_neg (by omega), if_pos e]
    have ho : ∀ j, j < 14 ∨ 19 ≤ j → zdec K (d / 100 % 10) j = K j := fun j hj => by unfold zdec; rw [upd_o _ (by omega), upd_o _ (by omega)]
    exact ⟨zCk_hi h1 (ho 73 (by omega)) (fun j hj => ho j (by omega)), zAl_dec h2 g1, zInj_c h3 (fun k hk => ho _ (by omega)), ⟨dd, h4, (ho 19 (by decide)).trans h4'⟩, ⟨q, h5, (ho 72 (by decide)).trans h5'⟩, zForce_c h6 (fun j hj => ho j (by omega))⟩
  · rw [if_neg (by omega), if_neg (by omega), if_neg (by omega)]
    have ho : ∀ j v, j ≠ 19 → upd K 19 v j = K j := fun j v hj => upd_o _ hj _
    refine ⟨zCk_hi h1 (ho 73 _ (by omega)) (fun j hj => ho j _ (by omega)), (zAl_c h2 (fun k hk => ho _ _ (by omega))).1, zInj_c h3 (fun k hk => ho _ _ (by omega)), ⟨dd - 1, by omega, ?_⟩, ⟨q, h5, (ho 72 _ (by decide)).trans h5'⟩, zForce_c h6 (fun j hj => ho j _ (by omega))⟩
    rw [upd_s, h4', nI_clamp (by omega)]
theorem zinv_hi {K : Nat → Int32} {m d : Nat} (hm : m ≤ 7) (hd : zdv d K m) {j : Nat} (hj : 20 ≤ j) : zinv d K j = K j := by
  unfold zinv zswp zdec
  rcases hd with ⟨e, g1, g2, g3, g4⟩ | ⟨e, g1⟩ | ⟨e, g1⟩ | ⟨e, g1⟩
  · rw [if_pos e, upd_o _ (by omega)]
  · rw [if_neg (by omega), if_pos e, upd_o _ (by omega), upd_o _ (by omega)]
  · rw [if_neg (by omega), if_neg (by omega), if_pos e, upd_o _ (by omega), upd_o _ (by omega)]
  · rw [if_neg (by omega), if_neg (by omega), if_neg (by omega), upd_o _ (by omega)]
/-! deeds done: 0 stroke, 1 exchange, 2 decree, 3 pass -/
def zlies (a b : Nat) (v : Int32) : Bool := decide (nI a ≤ v) && decide (v ≤ nI b)
/-- 0: it can be; else by what number it is refused -/
def zdC (h : Nat) (a b c : Int32) (K : Nat → Int32) (m : Nat) (Lo : Option (List zLC)) : Nat :=
  if h = 0 then (if (zlies 0 3 b && zlies 1 5 c) = false then 1 else if zix m a = false then 2 else if zlen (zX1 K a.toNatClampNeg) ≤ b.toNatClampNeg ∨ zlt (zX1 K a.toNatClampNeg) b.toNatClampNeg = c.toNatClampNeg ∨ zbar K m a.toNatClampNeg (zX1 K a.toNatClampNeg) Lo = true then 3 else 0)
  else if h = 1 then (if zix (m - 1) a = false then 2 else 0) else if h = 2 then (if zlies 0 3 a = false then 1 else 0) else (if (K 19).toNatClampNeg = 999 then 3 else 0)
def zdK (h : Nat) (a b c : Int32) (K : Nat → Int32) : Nat → Int32 :=
  if h = 0 then upd K a.toNatClampNeg (nI (zwl (zX1 K a.toNatClampNeg) b.toNatClampNeg c.toNatClampNeg)) else if h = 1 then zswp K a.toNatClampNeg else if h = 2 then zdec K a.toNatClampNeg else upd K 19 (nI ((K 19).toNatClampNeg + 1))
def zdD (h : Nat) (a b : Int32) (K : Nat → Int32) : Nat :=
  if h = 0 then 100 * a.toNatClampNeg + 10 * b.toNatClampNeg + zlt (zX1 K a.toNatClampNeg) b.toNatClampNeg else if h = 1 then 1000 + 100 * a.toNatClampNeg else if h = 2 then 2000 + 100 * a.toNatClampNeg else 3000
def zdT (h : Nat) (a b c : Int32) (K : Nat → Int32) (m : Nat) (Lo : Option (List zLC)) : Int :=
  if h = 0 then ztell (zlwV K m a.toNatClampNeg (zX1 K a.toNatClampNeg) b c) 1 1 Lo else if h = 1 then ztell (zlwV K m (zW1 K a.toNatClampNeg) (zX1 K (zW1 K a.toNatClampNeg)) (-1) (-1)) 2 1 Lo + ztell (zlwV K m (zW1 K (a.toNatClampNeg + 1)) (zX1 K (zW1 K (a.toNatClampNeg + 1))) (-1) (-1)) 2 1 Lo
  else if h = 2 then (zaln (alK (zdec K a.toNatClampNeg)) 5 : Int) else ((K 19).toNatClampNeg + 1 : Nat)
theorem zlies_t {a b : Nat} {v : Int32} (ha : a < 2147483648) (hb : b < 2147483648) (h : zlies a b v = true) : ∃ x, a ≤ x ∧ x ≤ b ∧ v = nI x := zlies_n ha hb h
theorem zlies_i {a b x : Nat} (ha : a < 2147483648) (hb : b < 2147483648) (h1 : a ≤ x) (h2 : x ≤ b) : zlies a b (nI x) = true := by
  unfold zlies
  rw [decide_eq_true ((nI_leI ha (by omega)).mpr h1), decide_eq_true ((nI_leI (by omega) hb).mpr h2)]
  rfl
/-- what a deed leaves is in order, and it is undone by what is told of it -/
theorem zd_ok {h : Nat} {a b c : Int32} {K : Nat → Int32} {m : Nat} {Lo : Option (List zLC)} (hK : zKI K m Lo) (hC : zdC h a b c K m Lo = 0) : zKI (zdK h a b c K) m Lo ∧ zdv (zdD h a b K) (zdK h a b c K) m ∧ zinv (zdD h a b K) (zdK h a b c K) = K ∧ zdD h a b K / 1000 = (if h ≤ 3 then h else 3) := by
  have hm := hK.1.2.1
  unfold zdC at hC
  by_cases h0 : h = 0
  · subst h0
    rw [if_pos rfl] at hC
    split at hC
    · omega
    · next g1 =>
      split at hC
      · omega
      · next g2 =>
        split at hC
        · omega
        · next g3 =>
          obtain ⟨p, hp, rfl⟩ := zix_t (Bool.not_eq_false _ ▸ g2 : zix m a = true)
          rw [Bool.not_eq_false, Bool.and_eq_true] at g1
          obtain ⟨k, -, hk, rfl⟩ := zlies_t (by decide) (by decide) g1.1
          obtain ⟨y, hy1, hy5, rfl⟩ := zlies_t (by decide) (by decide) g1.2
          rw [nI_clamp (by omega), nI_clamp (by omega), nI_clamp (by omega)] at g3
          have hx := (hK.1.2.2.1 p hp).2
          have hkl : k < zlen (zX1 K p) := by omega
          obtain ⟨w1, w2, w3⟩ := zwl_ok hx hkl hy1 hy5
          have w5 := w1.2.1
          have hz := zvn_at hx hkl
          unfold zdK zdD
          rw [if_pos rfl, if_pos rfl, nI_clamp (by omega), nI_clamp (by omega), nI_clamp (by omega)]
          have d1 : (100 * p + 10 * k + zlt (zX1 K p) k) / 1000 = 0 := by omega
          have d2 : (100 * p + 10 * k + zlt (zX1 K p) k) / 100 % 10 = p := by omega
          have d3 : (100 * p + 10 * k + zlt (zX1 K p) k) / 10 % 10 = k := by omega
          have d4 : (100 * p + 10 * k + zlt (zX1 K p) k) % 10 = zlt (zX1 K p) k := by omega
          have ex : zX1 (upd K p (nI (zwl (zX1 K p) k y))) p = zwl (zX1 K p) k y := zX1_n (upd_s _ _ _) (by omega)
          refine ⟨?_, ?_, ?_, by rw [if_pos (by decide)]; exact d1⟩
          · have := zKI_inv (d := 100 * p + 10 * k + y) hK (Or.inl ⟨by omega, by rw [show (100 * p + 10 * k + y) / 100 % 10 = p by omega]; exact hp, by rw [show (100 * p + 10 * k + y) / 100 % 10 = p by omega, show (100 * p + 10 * k + y) / 10 % 10 = k by omega]; exact hkl, by omega, by omega⟩)
            unfold zinv at this
            rw [if_pos (by omega), show (100 * p + 10 * k + y) / 100 % 10 = p by omega, show (100 * p + 10 * k + y) / 10 % 10 = k by omega, show (100 * p + 10 * k + y) % 10 = y by omega] at this
            exact this
          · refine Or.inl ⟨d1, by rw [d2]; exact hp, ?_, by rw [d4]; exact hz.1, by rw [d4]; exact hz.2⟩
            rw [d2, d3, ex, w2]; exact hkl
          · unfold zinv
            rw [if_pos d1, d2, d3, d4, ex, zwl_back hx hkl hy1 hy5]
            funext j
            by_cases e : j = p
            · subst e; rw [upd_s]; exact (hK.1.2.2.1 j hp).1.symm
            · rw [upd_o _ e, upd_o _ e]
  · rw [if_neg h0] at hC
    by_cases h1 : h = 1
    · subst h1
      rw [if_pos rfl] at hC
      split at hC
      · omega
      · next g2 =>
        obtain ⟨p, hp, rfl⟩ := zix_t (Bool.not_eq_false _ ▸ g2 : zix (m - 1) a = true)
        unfold zdK zdD
        rw [if_neg (by decide), if_pos rfl, if_neg (by decide), if_pos rfl, nI_clamp (by omega)]
        have d1 : (1000 + 100 * p) / 1000 = 1 := by omega
        have d2 : (1000 + 100 * p) / 100 % 10 = p := by omega
        have hv : ∀ K' : Nat → Int32, zdv (1000 + 100 * p) K' m := fun K' => Or.inr (Or.inl ⟨d1, by rw [d2]; omega⟩)
        have ei : ∀ K' : Nat → Int32, zinv (1000 + 100 * p) K' = zswp K' p := fun K' => by unfold zinv; rw [if_neg (by omega), if_pos d1, d2]
        refine ⟨?_, hv _, by rw [ei, zswp_swp], by rw [if_pos (by decide)]; exact d1⟩
        have := zKI_inv hK (hv K)
        rw [ei] at this
        exact this
    · rw [if_neg h1] at hC
      by_cases h2 : h = 2
      · subst h2
        rw [if_pos rfl] at hC
        split at hC
        · omega
        · next g2 =>
          obtain ⟨p, -, hp, rfl⟩ := zlies_t (by decide) (by decide) (Bool.not_eq_false _ ▸ g2 : zlies 0 3 a = true)
          unfold zdK zdD
          rw [if_neg (by decide), if_neg (by decide), if_pos rfl, if_neg (by decide), if_neg (by decide), if_pos rfl, nI_clamp (by omega)]
          have d1 : (2000 + 100 * p) / 1000 = 2 := by omega
          have d2 : (2000 + 100 * p) / 100 % 10 = p := by omega
          have hv : ∀ K' : Nat → Int32, zdv (2000 + 100 * p) K' m := fun K' => Or.inr (Or.inr (Or.inl ⟨d1, by rw [d2]; omega⟩))
          have ei : ∀ K' : Nat → Int32, zinv (2000 + 100 * p) K' = zdec K' p := fun K' => by unfold zinv; rw [if_neg (by omega), if_neg (by omega), if_pos d1, d2]
          refine ⟨?_, hv _, by rw [ei, zdec_dec], by rw [if_pos (by decide)]; exact d1⟩
          have := zKI_inv hK (hv K)
          rw [ei] at this
          exact this
      · rw [if_neg h2] at hC
        obtain ⟨k1, k2, k3, ⟨dd, k4, k4'⟩, ⟨q, k5, k5'⟩, k6⟩ := hK
        rw [k4', nI_clamp (by omega)] at hC
        have hdd : dd < 999 := by
          by_cases e : dd = 999
          · rw [if_pos e] at hC; omega
          · omega
        unfold zdK zdD
        rw [if_neg h0, if_neg h1, if_neg h2, if_neg h0, if_neg h1, if_neg h2, k4', nI_clamp (by omega)]
        have ho : ∀ j v, j ≠ 19 → upd K 19 v j = K j := fun j v hj => upd_o _ hj _
        have e19 : (upd K 19 (nI (dd + 1)) 19).toNatClampNeg = dd + 1 := by rw [upd_s, nI_clamp (by omega)]
        refine ⟨⟨zCk_hi k1 (ho 73 _ (by omega)) (fun j hj => ho j _ (by omega)), (zAl_c k2 (fun k hk => ho _ _ (by omega))).1, zInj_c k3 (fun k hk => ho _ _ (by omega)), ⟨dd + 1, by omega, upd_s _ _ _⟩, ⟨q, k5, (ho 72 _ (by decide)).trans k5'⟩, zForce_c k6 (fun j hj => ho j _ (by omega))⟩, Or.inr (Or.inr (Or.inr ⟨by decide, by rw [e19]; omega⟩)), ?_, ?_⟩
        · unfold zinv
          rw [if_neg (by decide), if_neg (by decide), if_neg (by decide), e19]
          funext j
          by_cases e : j = 19
          · subst e; rw [upd_s, k4', Nat.add_sub_cancel]
          · rw [upd_o _ e, upd_o _ e]
        · by_cases e : h ≤ 3
          · rw [if_pos e]; omega
          · rw [if_neg e]

