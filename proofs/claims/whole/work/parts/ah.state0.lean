/-! ===== all is in order at the start (written by mkstate0.py) ===== -/
theorem zq_i11 : Cond.instantiable RX11 19 ∈ zq_ws := zq_in (zq_t1 (List.mem_of_getElem? (i := 23) rfl)) rfl
theorem zq_n11 : Cond.initialized RX11 ∈ zq_ws := zq_in (zq_t1 (List.mem_of_getElem? (i := 1) rfl)) rfl
theorem zq_vo_11 : zq_ws.all (zq_vo yX11_init) = true := by decide +kernel
def zκi (o k : Nat) : Int32 := if o = 9 then zqI0 k else if o = 21 then zqI0 k else if o = 32 then zqI0 k
  else if o = 8 then (if k = 15 then -1 else if k = 16 then -1 else nI 0) else if o = 48 then (if k = 3 then nI 3000 else if k = 7 then -1 else nI 0)
  else if o = 64 then (if k = 3 then -1 else nI 0) else nI 0
def zκr (A1 A2 A3 : Nat → Nat → Int32) (a : Nat) : Nat → Int32 := if 10 ≤ a ∧ a ≤ 18 then A1 (a - 9) else if 22 ≤ a ∧ a ≤ 30 then A2 (a - 21) else if 33 ≤ a ∧ a ≤ 41 then A3 (a - 32)
  else if a = 57 then upd (upd (upd (upd (upd (upd (fun _ => 0) 0 (-1)) 1 (nI 0)) 2 (nI 0)) 3 (nI 0)) 4 (nI 0)) 5 (nI 0) else fun _ => 0
def zκ0 (A1 A2 A3 : Nat → Nat → Int32) : zl_S := (zκi, zκr A1 A2 A3, fun _ _ => none)
section ZK37
variable {f : Nat → zq_E} {e : zq_E} {A1 A2 A3 : Nat → Nat → Int32}
set_option maxHeartbeats 4000000 in
theorem zL61_h {q : Nat} (hq : q = 8) : zqL (va_up f q e) 11 8 [.ref (8 + 1), .ref (8 + 12), .ref (8 + 13), .ref (8 + 24), .ref (8 + 35), .ref (8 + 37), .ref (8 + 39), .int (nI 0), .ref (8 + 40), .ref (8 + 44), .ref (8 + 48), .ref (8 + 53), .ref (8 + 56), .ref (8 + 60), .ref (8 + 61), .int (-1), .int (-1), .int (nI 0), .int (nI 0)] (zL61 8 A1 A2 A3) = zl_h (zκ0 A1 A2 A3) f := by
  subst hq
  funext k
  rcases (show k < 8 ∨ 70 ≤ k ∨ (8 ≤ k ∧ k < 70) by omega) with h | h | h
  · rw [zqL_x (Or.inl h), va_up_ne _ _ (by omega), zl_hi _ _ (Or.inl h)]
  · rw [zqL_x (Or.inr (show 8 + 61 < k by omega)), va_up_ne _ _ (by omega), zl_hi _ _ (Or.inr h)]
  · obtain ⟨j, rfl⟩ : ∃ j, k = 8 + j := ⟨k - 8, by omega⟩
    have hj : j < 62 := by omega
    match j, hj with
    | 0, _ => rfl
    | 1, _ => rfl
    | 2, _ => rfl
    | 3, _ => rfl
    | 4, _ => rfl
    | 5, _ => rfl
    | 6, _ => rfl
    | 7, _ => rfl
    | 8, _ => rfl
    | 9, _ => rfl
    | 10, _ => rfl
    | 11, _ => rfl
    | 12, _ => rfl
    | 13, _ => rfl
    | 14, _ => rfl
    | 15, _ => rfl
    | 16, _ => rfl
    | 17, _ => rfl
    | 18, _ => rfl
    | 19, _ => rfl
    | 20, _ => rfl
    | 21, _ => rfl
    | 22, _ => rfl
    | 23, _ => rfl
    | 24, _ => rfl
    | 25, _ => rfl
    | 26, _ => rfl
    | 27, _ => rfl
    | 28, _ => rfl
    | 29, _ => rfl
    | 30, _ => rfl
    | 31, _ => rfl
    | 32, _ => rfl
    | 33, _ => rfl
    | 34, _ => rfl
    | 35, _ => rfl
    | 36, _ => rfl
    | 37, _ => rfl
    | 38, _ => rfl
    | 39, _ => rfl
    | 40, _ => rfl
    | 41, _ => rfl
    | 42, _ => rfl
    | 43, _ => rfl
    | 44, _ => rfl
    | 45, _ => rfl
    | 46, _ => rfl
    | 47, _ => rfl
    | 48, _ => rfl
    | 49, _ => rfl
    | 50, _ => rfl
    | 51, _ => rfl
    | 52, _ => rfl
    | 53, _ => rfl
    | 54, _ => rfl
    | 55, _ => rfl
    | 56, _ => rfl
    | 57, _ => rfl
    | 58, _ => rfl
    | 59, _ => rfl
    | 60, _ => rfl
    | 61, _ => rfl
    | j + 62, hj => exact absurd hj (by omega)
theorem zm_h70 {σ : zm_S} {κ : zl_S} {q : Nat} (hq : q = 70) : zm_h σ (va_up (zl_h κ f) q e) = zl_h κ (zm_h σ f) := by
  subst hq
  rw [zlm]
  funext k
  by_cases g : k = 70
  · rw [g]; rfl
  · unfold zm_h
    rw [va_up_ne _ _ g]
def zK0 : Nat → Int32 := zσ1.2.1 72
theorem zK0_14 : ∀ k, k < 5 → zK0 (14 + k) = nI (k + 1) := fun k hk => (zτ0_al k hk).1
theorem zK0_al {k : Nat} (hk : k < 5) : alK zK0 k = k + 1 := alK_n (zK0_14 k hk) (by omega)
theorem zK0_pm : zpm (alK zK0) := by
  refine ⟨fun i hi => ?_, fun i j hij hj => ?_⟩
  · rw [zK0_al hi]; omega
  · rw [zK0_al hj, zK0_al (by omega)]; omega
theorem zK0_rk : ∀ y, 1 ≤ y → y ≤ 5 → zrkK zK0 y = y - 1 := by
  intro y h1 h5
  unfold zrkK zrkN
  rw [zK0_al (k := 0) (by decide), zK0_al (k := 1) (by decide), zK0_al (k := 2) (by decide), zK0_al (k := 3) (by decide)]
  rcases (show y = 1 ∨ y = 2 ∨ y = 3 ∨ y = 4 ∨ y = 5 by omega) with rfl | rfl | rfl | rfl | rfl <;> rfl
theorem zpm_x : zpm (fun k => k + 1) := ⟨fun i hi => by dsimp only; omega, fun i j hij hj => by dsimp only; omega⟩
theorem zK0_r76 : ∀ y, 1 ≤ y → y ≤ 5 → zσ1.2.1 76 y = nI (zrkK zK0 y) := by
  intro y h1 h5
  have e : zσ1.2.1 76 y = zrk (zτ0.2.1 76) (fun k => k + 1) 5 y := rfl
  rw [e, zrk_at zpm_x _ h1 h5, zK0_rk y h1 h5]
  unfold zrkN
  rcases (show y = 1 ∨ y = 2 ∨ y = 3 ∨ y = 4 ∨ y = 5 by omega) with rfl | rfl | rfl | rfl | rfl <;> rfl
theorem zK0_W : zKW zK0 0 0 0 (fun _ => []) := by
  refine ⟨⟨rfl, by decide, fun p hp => absurd hp (by omega), fun p hp => absurd hp (by omega)⟩, ⟨fun k hk => by rw [zK0_al hk]; exact zK0_14 k hk, zK0_pm⟩, fun i j hi => absurd hi (by omega), ⟨0, by decide, rfl⟩, ⟨1, by decide, rfl⟩, ⟨0, by decide, rfl⟩, fun p y hp => absurd hp (by omega), ⟨rfl, by decide, fun i hi => absurd hi (by omega)⟩, rfl, by decide, Or.inl rfl, fun u hu => absurd hu (by omega)⟩
theorem zwords : zspell (zwB 143) 0 zMw := by
  unfold zMw
  repeat (first | exact rfl | refine ⟨by decide, by decide, by decide, ?_⟩)
theorem zIV_0 (h1 : zA0 A1) : zIVx 90 (zκ0 A1 A2 A3) zσ1 f := by
  refine ⟨zK0, 0, 0, 0, 0, fun _ => [], [], ⟨by decide, rfl, rfl, zK0_r76⟩, zK0_W, ⟨⟨rfl, rfl, rfl, rfl⟩, fun p hp => absurd hp (by omega), fun p hp => absurd hp (by omega), fun p hp => absurd hp (by omega), fun p hp => absurd hp (by omega), fun k hk => ?_, fun y hy => ?_, ⟨?_, ?_, ?_⟩, fun j hj => absurd hj (by omega), fun u hu => absurd hu (by omega), fun u hu => Or.inl rfl⟩, ⟨by decide, rfl, trivial, trivial, rfl, fun i hi => absurd hi (Nat.not_lt_zero i)⟩, ⟨rfl, by decide, rfl, fun j hj => absurd hj (by omega), zwords⟩, ⟨rfl, rfl, rfl, rfl, rfl, rfl, rfl, rfl, rfl⟩, ⟨0, by decide, Or.inl ⟨rfl, rfl⟩, rfl, fun p hp => absurd hp (by omega)⟩, Or.inl ⟨rfl, rfl⟩, Or.inl ⟨rfl, rfl⟩, fun B C hB => ?_, fun B fs hB hB2 => absurd hB2 (by omega)⟩
  · show A1 5 k = _
    rw [h1 5 k (by decide) (by decide) (by show k < 5; omega), zK0_14 k hk]
    rfl
  · show A1 6 y = _
    rw [h1 6 y (by decide) (by decide) (by show y < 6; omega)]
    show zlast y = zlast (zr0 (zrkK zK0) y)
    unfold zr0
    by_cases e : y = 0
    · rw [if_pos e, e]
    · rw [if_neg e, zK0_rk y (by omega) hy, show y - 1 + 1 = y by omega]
  · show A1 7 0 = _
    rw [h1 7 0 (by decide) (by decide) (by decide)]
    rfl
  · show A1 7 1 = _
    rw [h1 7 1 (by decide) (by decide) (by decide)]
    rfl
  · show A1 7 2 = _
    rw [h1 7 2 (by decide) (by decide) (by decide)]
    rfl
  · cases hB
end ZK37

