/-! ===== the class's pool ===== -/
abbrev zl_S : Type := (Nat → Nat → Int32) × (Nat → Nat → Int32) × (Nat → Nat → Option Nat)
def zu_fs (i : Nat → Int32) (b : Nat) : List Value := [.int (i 0), .ref (b + 1), .ref (b + 2), .ref (b + 3), .ref (b + 4), .ref (b + 5), .ref (b + 6), .ref (b + 7), .int (i 8), .ref (b + 8), .ref (b + 9), .int (i 11), .ref (b + 10), .int (i 13)]
/-- the objects: class and fields -/
def zl_obj (o : Nat) (i : Nat → Int32) : Option (Nat × List Value) :=
  if o = 8 then some (11, [.ref 9, .ref 20, .ref 21, .ref 32, .ref 43, .ref 45, .ref 47, .int (i 7), .ref 48, .ref 52, .ref 56, .ref 61, .ref 64, .ref 68, .ref 69, .int (i 15), .int (i 16), .int (i 17), .int (i 18)])
  else if o = 9 then some (7, zu_fs i 9) else if o = 21 then some (7, zu_fs i 21) else if o = 32 then some (7, zu_fs i 32)
  else if o = 43 then some (4, [.int (i 0), .ref 44]) else if o = 45 then some (4, [.int (i 0), .ref 46])
  else if o = 48 then some (8, [.ref 49, .ref 50, .int (i 2), .int (i 3), .ref 51, .int (i 5), .int (i 6), .int (i 7), .int (i 8)])
  else if o = 52 then some (3, [.ref 53, .ref 55]) else if o = 53 then some (9, [.ref 54])
  else if o = 56 then some (0, [.ref 57, .ref 58, .int (i 2), .ref 59, .ref 60]) else if o = 61 then some (5, [.ref 62, .ref 63])
  else if o = 64 then some (2, [.ref 65, .ref 66, .ref 67, .int (i 3)]) else none
def zl_len (a : Nat) : Nat := match a with
  | 10 => 7
  | 11 => 7
  | 12 => 7
  | 13 => 35
  | 14 => 5
  | 15 => 6
  | 16 => 3
  | 17 => 8
  | 18 => 8
  | 22 => 7
  | 23 => 7
  | 24 => 7
  | 25 => 35
  | 26 => 5
  | 27 => 6
  | 28 => 3
  | 29 => 8
  | 30 => 8
  | 33 => 7
  | 34 => 7
  | 35 => 7
  | 36 => 35
  | 37 => 5
  | 38 => 6
  | 39 => 3
  | 40 => 8
  | 41 => 8
  | 44 => 16
  | 46 => 16
  | 47 => 400
  | 49 => 401
  | 50 => 401
  | 51 => 800
  | 54 => 32
  | 55 => 8
  | 57 => 6
  | 58 => 8
  | 59 => 49
  | 60 => 49
  | 62 => 6248
  | 63 => 168
  | 65 => 48
  | 66 => 7
  | 67 => 7
  | 68 => 19
  | 69 => 5
  | _ => 0
/-- rows of references: 20 images, 19, 31, 42 texts -/
def zl_rt (a : Nat) : Option (Nat × Nat) := if a = 20 then some (5, 2) else if a = 19 ∨ a = 31 ∨ a = 42 then some (6, 6) else none
def zl_h (κ : zl_S) (ρ : Nat → zq_E) : Nat → zq_E := fun k => match zl_obj k (κ.1 k) with
  | some e => .inr e
  | none => match zl_rt k with
    | some q => .inl (q.1, q.2, .inr (.inr (.inr (.inr (κ.2.2 k)))))
    | none => if 8 ≤ k ∧ k ≤ 69 then .inl (0, zl_len k, .inl (κ.2.1 k)) else ρ k
def zl_isA (a : Nat) : Bool := decide (8 ≤ a) && decide (a ≤ 69) && (zl_obj a (fun _ => 0)).isNone && (zl_rt a).isNone
def zl_si (κ : zl_S) (o k : Nat) (v : Int32) : zl_S := (va_up κ.1 o (upd (κ.1 o) k v), κ.2)
def zl_sA (κ : zl_S) (a : Nat) (g : Nat → Int32) : zl_S := (κ.1, va_up κ.2.1 a g, κ.2.2)
def zl_sa (κ : zl_S) (a i : Nat) (v : Int32) : zl_S := zl_sA κ a (upd (κ.2.1 a) i v)
def zl_sr (κ : zl_S) (a i : Nat) (v : Option Nat) : zl_S := (κ.1, κ.2.1, va_up κ.2.2 a (va_up (κ.2.2 a) i v))
theorem zl_obj_n {o : Nat} {i j : Nat → Int32} (h : zl_obj o i = none) : zl_obj o j = none := by
  unfold zl_obj at h ⊢
  by_cases h8 : o = 8
  · rw [if_pos h8] at h; cases h
  · rw [if_neg h8] at h ⊢
    by_cases h9 : o = 9
    · rw [if_pos h9] at h; cases h
    · rw [if_neg h9] at h ⊢
      by_cases h21 : o = 21
      · rw [if_pos h21] at h; cases h
      · rw [if_neg h21] at h ⊢
        by_cases h32 : o = 32
        · rw [if_pos h32] at h; cases h
        · rw [if_neg h32] at h ⊢
          by_cases h43 : o = 43
          · rw [if_pos h43] at h; cases h
          · rw [if_neg h43] at h ⊢
            by_cases h45 : o = 45
            · rw [if_pos h45] at h; cases h
            · rw [if_neg h45] at h ⊢
              by_cases h48 : o = 48
              · rw [if_pos h48] at h; cases h
              · rw [if_neg h48] at h ⊢
                by_cases h52 : o = 52
                · rw [if_pos h52] at h; cases h
                · rw [if_neg h52] at h ⊢
                  by_cases h53 : o = 53
                  · rw [if_pos h53] at h; cases h
                  · rw [if_neg h53] at h ⊢
                    by_cases h56 : o = 56
                    · rw [if_pos h56] at h; cases h
                    · rw [if_neg h56] at h ⊢
                      by_cases h61 : o = 61
                      · rw [if_pos h61] at h; cases h
                      · rw [if_neg h61] at h ⊢
                        by_cases h64 : o = 64
                        · rw [if_pos h64] at h; cases h
                        · rw [if_neg h64]
theorem zl_o {κ : zl_S} {ρ : Nat → zq_E} {o : Nat} {e : Nat × List Value} (h : zl_obj o (κ.1 o) = some e) : zl_h κ ρ o = .inr e := by unfold zl_h; rw [h]
theorem zl_a {κ : zl_S} {ρ : Nat → zq_E} {a : Nat} (h : zl_isA a = true) : zl_h κ ρ a = .inl (0, zl_len a, .inl (κ.2.1 a)) := by
  unfold zl_isA at h
  rw [Bool.and_eq_true, Bool.and_eq_true, Bool.and_eq_true, decide_eq_true_eq, decide_eq_true_eq, Option.isNone_iff_eq_none, Option.isNone_iff_eq_none] at h
  unfold zl_h
  rw [zl_obj_n h.1.2, h.2]
  exact if_pos ⟨h.1.1.1, h.1.1.2⟩
theorem zl_obj_lo {k : Nat} (i : Nat → Int32) (hk : k < 8 ∨ 70 ≤ k) : zl_obj k i = none := by
  unfold zl_obj
  rw [if_neg (by omega), if_neg (by omega), if_neg (by omega), if_neg (by omega), if_neg (by omega), if_neg (by omega), if_neg (by omega), if_neg (by omega), if_neg (by omega), if_neg (by omega), if_neg (by omega), if_neg (by omega)]
theorem zl_hi (κ : zl_S) (ρ : Nat → zq_E) {k : Nat} (hk : k < 8 ∨ 70 ≤ k) : zl_h κ ρ k = ρ k := by
  unfold zl_h zl_rt
  rw [zl_obj_lo _ hk, if_neg (by omega), if_neg (by omega)]
  exact if_neg (by omega)
theorem zl_up_i {κ : zl_S} {ρ : Nat → zq_E} {o k : Nat} {v : Int32} {e : Nat × List Value} (h : zl_obj o (upd (κ.1 o) k v) = some e) : va_up (zl_h κ ρ) o (.inr e) = zl_h (zl_si κ o k v) ρ := by
  funext j
  by_cases hj : j = o
  · subst hj
    rw [va_up_self]
    have : zl_obj j ((zl_si κ j k v).1 j) = some e := by
      show zl_obj j (va_up κ.1 j (upd (κ.1 j) k v) j) = _
      rw [va_up_self]; exact h
    rw [zl_o this]
  · rw [va_up_ne _ _ hj]
    unfold zl_h
    show _ = match zl_obj j (va_up κ.1 o (upd (κ.1 o) k v) j) with | some e => _ | none => _
    rw [va_up_ne _ _ hj]
    rfl
theorem zl_up_A {κ : zl_S} {ρ : Nat → zq_E} {a : Nat} (g : Nat → Int32) (h : zl_isA a = true) : va_up (zl_h κ ρ) a (.inl (0, zl_len a, .inl g)) = zl_h (zl_sA κ a g) ρ := by
  funext j
  by_cases hj : j = a
  · subst hj
    rw [va_up_self, zl_a h]
    show _ = Sum.inl (0, zl_len j, Sum.inl (va_up κ.2.1 j g j))
    rw [va_up_self]
  · rw [va_up_ne _ _ hj]
    unfold zl_h
    show _ = match zl_obj j (κ.1 j) with | some e => _ | none => match zl_rt j with | some q => _ | none => if _ then Sum.inl (0, zl_len j, Sum.inl (va_up κ.2.1 a g j)) else _
    rw [va_up_ne _ _ hj]
    rfl
theorem zl_up_r {κ : zl_S} {ρ : Nat → zq_E} {a i : Nat} {v : Option Nat} {t N : Nat} (h : zl_rt a = some (t, N)) : va_up (zl_h κ ρ) a (.inl (t, N, .inr (.inr (.inr (.inr (va_up (κ.2.2 a) i v)))))) = zl_h (zl_sr κ a i v) ρ := by
  have ho : zl_obj a (κ.1 a) = none := by
    unfold zl_rt at h
    unfold zl_obj
    split at h
    · next e => subst e; rfl
    · split at h
      · next e => rcases e with rfl | rfl | rfl <;> rfl
      · cases h
  funext j
  by_cases hj : j = a
  · subst hj
    rw [va_up_self]
    unfold zl_h
    show _ = match zl_obj j (κ.1 j) with | some e => _ | none => match zl_rt j with | some q => Sum.inl (q.1, q.2, Sum.inr (Sum.inr (Sum.inr (Sum.inr (va_up κ.2.2 j (va_up (κ.2.2 j) i v) j))))) | none => _
    rw [ho, h, va_up_self]
  · rw [va_up_ne _ _ hj]
    unfold zl_h
    show _ = match zl_obj j (κ.1 j) with | some e => _ | none => match zl_rt j with | some q => Sum.inl (q.1, q.2, Sum.inr (Sum.inr (Sum.inr (Sum.inr (va_up κ.2.2 a (va_up (κ.2.2 a) i v) j))))) | none => _
    rw [va_up_ne _ _ hj]
    rfl
/-- the Quays -/
def zQb (b : Nat) : Prop := b = 9 ∨ b = 21 ∨ b = 32
theorem zQ9 : zQb 9 := Or.inl rfl
theorem zQ21 : zQb 21 := Or.inr (Or.inl rfl)
theorem zQ32 : zQb 32 := Or.inr (Or.inr rfl)
theorem zl_q {κ : zl_S} {ρ : Nat → zq_E} {b : Nat} (hb : zQb b) : zl_h κ ρ b = .inr (7, zu_fs (κ.1 b) b) := by rcases hb with rfl | rfl | rfl <;> exact zl_o rfl
theorem zl_qt {κ : zl_S} {ρ : Nat → zq_E} {b : Nat} (hb : zQb b) : zl_h κ ρ (b + 10) = .inl (6, 6, .inr (.inr (.inr (.inr (κ.2.2 (b + 10)))))) := by rcases hb with rfl | rfl | rfl <;> rfl
theorem zl_qr {b : Nat} (hb : zQb b) : zl_rt (b + 10) = some (6, 6) := by rcases hb with rfl | rfl | rfl <;> rfl
def zu_len (c : Nat) : Nat := match c with
  | 1 => 7
  | 2 => 7
  | 3 => 7
  | 4 => 35
  | 5 => 5
  | 6 => 6
  | 7 => 3
  | _ => 8
theorem zl_qA {b c : Nat} (hb : zQb b) (h1 : 1 ≤ c) (h9 : c ≤ 9) : zl_isA (b + c) = true ∧ zl_len (b + c) = zu_len c := by
  rcases hb with rfl | rfl | rfl <;> rcases (show c = 1 ∨ c = 2 ∨ c = 3 ∨ c = 4 ∨ c = 5 ∨ c = 6 ∨ c = 7 ∨ c = 8 ∨ c = 9 by omega) with rfl | rfl | rfl | rfl | rfl | rfl | rfl | rfl | rfl <;> exact ⟨rfl, rfl⟩
/-- slot k of object o holds an int -/
def zl_I (o ci k : Nat) : Prop := ∀ i : Nat → Int32, ∃ fs, zl_obj o i = some (ci, fs) ∧ k < fs.length ∧ ∀ v, zl_obj o (upd i k v) = some (ci, fs.set k (.int v))
theorem zl_Iq {b k : Nat} (hb : zQb b) (hk : k = 0 ∨ k = 8 ∨ k = 11 ∨ k = 13) : zl_I b 7 k := by
  intro i
  rcases hb with rfl | rfl | rfl <;> rcases hk with rfl | rfl | rfl | rfl <;> exact ⟨_, rfl, Nat.le_of_ble_eq_true rfl, fun v => rfl⟩
theorem zsi2_s (κ : zl_S) (o k : Nat) (v : Int32) : (zl_si κ o k v).1 o k = v := by
  show va_up κ.1 o (upd (κ.1 o) k v) o k = v
  rw [va_up_self, upd_s]
theorem zsi2_k (κ : zl_S) (o : Nat) {k j : Nat} (h : j ≠ k) (v : Int32) : (zl_si κ o k v).1 o j = κ.1 o j := by
  show va_up κ.1 o (upd (κ.1 o) k v) o j = _
  rw [va_up_self, upd_o _ h]
theorem zsi2_o (κ : zl_S) {o p : Nat} (h : p ≠ o) (k : Nat) (v : Int32) : (zl_si κ o k v).1 p = κ.1 p := va_up_ne _ _ h
theorem zlA_s (κ : zl_S) (a : Nat) (g : Nat → Int32) : (zl_sA κ a g).2.1 a = g := va_up_self _ _ _
theorem zlA_o (κ : zl_S) {a c : Nat} (h : c ≠ a) (g : Nat → Int32) : (zl_sA κ a g).2.1 c = κ.2.1 c := va_up_ne _ _ h
theorem zlA_A (κ : zl_S) (a : Nat) (g g' : Nat → Int32) : zl_sA (zl_sA κ a g) a g' = zl_sA κ a g' := by
  show (κ.1, va_up (va_up κ.2.1 a g) a g', κ.2.2) = _
  rw [bx_uu]
  rfl
theorem zlA_a (κ : zl_S) (a : Nat) (g : Nat → Int32) (i : Nat) (v : Int32) : zl_sa (zl_sA κ a g) a i v = zl_sA κ a (upd g i v) := by
  unfold zl_sa
  rw [zlA_s, zlA_A]
theorem zlA_0 (κ : zl_S) (a : Nat) : zl_sA κ a (κ.2.1 a) = κ := by
  show (κ.1, va_up κ.2.1 a (κ.2.1 a), κ.2.2) = κ
  rw [show va_up κ.2.1 a (κ.2.1 a) = κ.2.1 by funext c; by_cases h : c = a <;> simp [va_up, h]]
theorem zla_s (κ : zl_S) (a i : Nat) (v : Int32) : (zl_sa κ a i v).2.1 a = upd (κ.2.1 a) i v := zlA_s _ _ _
theorem zla_o (κ : zl_S) {a c : Nat} (h : c ≠ a) (i : Nat) (v : Int32) : (zl_sa κ a i v).2.1 c = κ.2.1 c := zlA_o _ h _
section ZLR
variable {l : Launch} {G : zq_G} {R : Room} {M : zq_M} {QF : List Frame → Array Value → State → State → Prop} {pc : Nat} {lv : List (Nat × Value)} {st : List Value} {n : Nat} {κ : zl_S} {ρ : Nat → zq_E} {cells slots : Nat}
theorem at_lput {idx o ci k : Nat} {v : Int32} (hd : decode M.1 pc = .ok (.putfield idx, 3)) (hL : zq_PL M.2.1 M.2.2.1 idx ci k) (hI : zl_I o ci k) (hn : narrow (zq_ty ci k) (.int v) = .int v) (hft : fits (zq_ty ci k) (.int v) = true) (kk : zq_At l G R M QF (pc + 3) lv st n (zl_h (zl_si κ o k v) ρ) cells slots) : zq_At l G R M QF pc lv (.int v :: .ref o :: st) n (zl_h κ ρ) cells slots := by
  obtain ⟨fs, h1, h2, h3⟩ := hI (κ.1 o)
  refine at_put hd hL (zl_o h1) h2 (fun _ => hn) (fun _ => hft) ?_
  rw [zl_up_i (h3 v)]
  exact kk
theorem at_lald2 {a j : Nat} {i : Int32} (hd : decode M.1 pc = .ok (.iaload, 1)) (ha : zl_isA a = true) (hi : i = nI j) (hj : j < zl_len a) (hl : zl_len a < 2147483648) (kk : zq_At l G R M QF (pc + 1) lv (.int (κ.2.1 a j) :: st) n (zl_h κ ρ) cells slots) : zq_At l G R M QF pc lv (.int i :: .ref a :: st) n (zl_h κ ρ) cells slots := by
  obtain ⟨e1, e2⟩ := zn_in hi hj hl
  refine at_iald hd (zl_a ha) e1 ?_
  rw [e2]
  exact kk
theorem at_last2 {a j : Nat} {i v : Int32} (hd : decode M.1 pc = .ok (.iastore, 1)) (ha : zl_isA a = true) (hi : i = nI j) (hj : j < zl_len a) (hl : zl_len a < 2147483648) (kk : zq_At l G R M QF (pc + 1) lv st n (zl_h (zl_sa κ a j v) ρ) cells slots) : zq_At l G R M QF pc lv (.int v :: .int i :: .ref a :: st) n (zl_h κ ρ) cells slots := by
  obtain ⟨e1, e2⟩ := zn_in hi hj hl
  refine at_iast hd (zl_a ha) e1 ?_
  rw [e2, zl_up_A _ ha]
  exact kk
/-- rows of a Quay -/
theorem at_uld {b c j : Nat} {i : Int32} (hd : decode M.1 pc = .ok (.iaload, 1)) (hb : zQb b) (h1 : 1 ≤ c) (h9 : c ≤ 9) (hi : i = nI j) (hj : j < zu_len c) (kk : zq_At l G R M QF (pc + 1) lv (.int (κ.2.1 (b + c) j) :: st) n (zl_h κ ρ) cells slots) : zq_At l G R M QF pc lv (.int i :: .ref (b + c) :: st) n (zl_h κ ρ) cells slots := by
  obtain ⟨e1, e2⟩ := zl_qA hb h1 h9
  exact at_lald2 hd e1 hi (by rw [e2]; exact hj) (by rw [e2]; unfold zu_len; split <;> decide) kk
theorem at_ust {b c j : Nat} {i v : Int32} (hd : decode M.1 pc = .ok (.iastore, 1)) (hb : zQb b) (h1 : 1 ≤ c) (h9 : c ≤ 9) (hi : i = nI j) (hj : j < zu_len c) (kk : zq_At l G R M QF (pc + 1) lv st n (zl_h (zl_sa κ (b + c) j v) ρ) cells slots) : zq_At l G R M QF pc lv (.int v :: .int i :: .ref (b + c) :: st) n (zl_h κ ρ) cells slots := by
  obtain ⟨e1, e2⟩ := zl_qA hb h1 h9
  exact at_last2 hd e1 hi (by rw [e2]; exact hj) (by rw [e2]; unfold zu_len; split <;> decide) kk
theorem at_tldN {o N j : Nat} {g : Nat → Int32} {i : Int32} {f : Nat → zq_E} (hd : decode M.1 pc = .ok (.iaload, 1)) (ho : zq_o8 o = .inl (7, N, .inl g)) (h8 : o < 8) (hN : N < 2147483648) (hi : i = nI j) (hj : j < N) (kk : zq_At l G R M QF (pc + 1) lv (.int (g j) :: st) n f cells slots) : zq_At l G R M QF pc lv (.int i :: .ref o :: st) n f cells slots := by
  obtain ⟨e1, e2⟩ := zn_in hi hj hN
  refine at_tald hd ho h8 e1 ?_
  rw [e2]
  exact kk
end ZLR

