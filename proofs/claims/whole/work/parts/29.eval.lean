/-! ===== sums and tests as trees; how tokens spell them; the Model's reckoning of them ===== -/
abbrev zX : Type := (Nat → Nat → Int) → Option Int
def zbd (x : Int) : Option Int := if x < -1000000000 ∨ 1000000000 < x then none else some x
def zop (o : Nat) (x y : Int) : Option Int :=
  if o = 143 then zbd (x + y) else if o = 145 then zbd (x - y) else if o = 142 then zbd (x * y)
  else if o = 147 then (if y = 0 then none else some (x.tdiv y)) else if o = 137 then (if y = 0 then none else some (x.tmod y))
  else if o = 160 then some (if x < y then 1 else 0) else if o = 162 then some (if y < x then 1 else 0) else some (if x = y then 1 else 0)
/-- what a sum, a test comes to, if it isn't broken: a number, a word, two of them, .. -/
def zx_num (n : Nat) : zX := fun _ => some n
def zx_wd (c k : Nat) : zX := fun w => some (w c k)
def zx_op (o : Nat) (a b : zX) : zX := fun w => (a w).bind fun x => (b w).bind fun y => zop o x y
def zx_nt (a : zX) : zX := fun w => (a w).map fun x => 1 - x
def zx_or (_ : Nat) (a b : zX) : zX := fun w => (a w).bind fun x => if x = 1 then some 1 else b w
def zx_an (_ : Nat) (a b : zX) : zX := fun w => (a w).bind fun x => if x = 0 then some 0 else b w
/-- a row of things with signs of one rank between -/
def zTL (cd : Nat → Nat) (ops : List Nat) (mk : Nat → zX → zX → zX) (P : zX → Nat → Nat → Prop) : Nat → zX → Nat → zX → Nat → Prop
  | 0, _, _, _, _ => False
  | f + 1, a, j, e, m => (cd j ∉ ops ∧ e = a ∧ m = j) ∨ (cd j ∈ ops ∧ ∃ b k, P b (j + 1) k ∧ zTL cd ops mk P f (mk (cd j) a b) k e m)
def zSqL (cd : Nat → Nat) (ops : List Nat) (mk : Nat → zX → zX → zX) (P : zX → Nat → Nat → Prop) (e : zX) (i k : Nat) : Prop := ∃ f a j, P a i j ∧ zTL cd ops mk P f a j e k
section ZSP
variable (cd vl : Nat → Nat) (o : Bool)
def zSpPart (S : zX → Nat → Nat → Prop) (e : zX) (i j : Nat) : Prop :=
  (cd i = 191 ∧ ∃ k, S e (i + 1) k ∧ cd k = 193 ∧ j = k + 1) ∨
  (cd i = 50 ∧ vl i ≤ 1000 ∧ e = zx_num (vl i) ∧ j = i + 1) ∨
  (o = false ∧ 8 ≤ cd i ∧ cd i ≤ 15 ∧ e = zx_wd (cd i) 0 ∧ j = i + 1) ∨
  (o = true ∧ 15 ≤ cd i ∧ cd i ≤ 19 ∧ e = zx_wd (cd i) 0 ∧ j = i + 1) ∨
  (o = true ∧ (cd i = 20 ∨ cd i = 21) ∧ cd (i + 1) = 50 ∧ vl (i + 1) ≤ 6 ∧ e = zx_wd (cd i) (vl (i + 1)) ∧ j = i + 2)
def zSpTerm (P : zX → Nat → Nat → Prop) : zX → Nat → Nat → Prop := zSqL cd [142, 147, 137] zx_op P
def zSpSum (P : zX → Nat → Nat → Prop) : zX → Nat → Nat → Prop := zSqL cd [143, 145] zx_op (zSpTerm cd P)
def zSpS : Nat → zX → Nat → Nat → Prop
  | 0 => fun _ _ _ => False
  | d + 1 => zSpSum cd (zSpPart cd vl o (zSpS d))
def zSpPos (S T : zX → Nat → Nat → Prop) (e : zX) (i j : Nat) : Prop :=
  (cd i = 140 ∧ ∃ k, T e (i + 1) k ∧ cd k = 141 ∧ j = k + 1) ∨
  (cd i ≠ 140 ∧ ∃ a b k, S a i k ∧ (cd k = 160 ∨ cd k = 161 ∨ cd k = 162) ∧ S b (k + 1) j ∧ e = zx_op (cd k) a b)
def zSpPlain (P : zX → Nat → Nat → Prop) (e : zX) (i j : Nat) : Prop :=
  ∃ r a, (∀ k, k < r → cd (i + k) = 7) ∧ cd (i + r) ≠ 7 ∧ P a (i + r) j ∧ e = (if r % 2 = 1 then zx_nt a else a)
def zSpBoth (P : zX → Nat → Nat → Prop) : zX → Nat → Nat → Prop := zSqL cd [6] zx_an (zSpPlain cd P)
def zSpTest (P : zX → Nat → Nat → Prop) : zX → Nat → Nat → Prop := zSqL cd [5] zx_or (zSpBoth cd P)
def zSpT : Nat → zX → Nat → Nat → Prop
  | 0 => fun _ _ _ => False
  | d + 1 => zSpTest cd (zSpPos cd (zSpS cd vl o (d + 1)) (zSpT d))
end ZSP
/-- what a part leaves: how far it goes -/
def zIn (E : Nat) (P : zX → Nat → Nat → Prop) : Prop := ∀ e i j, P e i j → i < j ∧ j ≤ E
theorem zIn_TL {cd : Nat → Nat} {ops : List Nat} {mk : Nat → zX → zX → zX} {P : zX → Nat → Nat → Prop} {E : Nat} (hP : zIn E P) : ∀ {f : Nat} {a e : zX} {j k : Nat}, zTL cd ops mk P f a j e k → j ≤ E → j ≤ k ∧ k ≤ E
  | 0, _, _, _, _, h, _ => h.elim
  | f + 1, a, e, j, k, h, hj => by
    rcases h with ⟨-, -, rfl⟩ | ⟨-, b, m, hb, ht⟩
    · exact ⟨Nat.le_refl _, hj⟩
    · have g := hP _ _ _ hb
      have g2 := zIn_TL hP ht g.2
      omega
theorem zIn_sq {cd : Nat → Nat} {ops : List Nat} {mk : Nat → zX → zX → zX} {P : zX → Nat → Nat → Prop} {E : Nat} (hP : zIn E P) : zIn E (zSqL cd ops mk P) := by
  rintro e i k ⟨f, a, j, h1, h2⟩
  have g := hP _ _ _ h1
  have g2 := zIn_TL hP h2 g.2
  omega
theorem zIn_part {cd vl : Nat → Nat} {o : Bool} {S : zX → Nat → Nat → Prop} {E : Nat} (hE : ∀ k, E ≤ k → cd k = 0) (hS : zIn E S) : zIn E (zSpPart cd vl o S) := by
  have hlt : ∀ k, cd k ≠ 0 → k < E := fun k hk => Nat.lt_of_not_le fun h => hk (hE k h)
  rintro e i j (⟨h1, k, h2, h3, rfl⟩ | ⟨h1, -, -, rfl⟩ | ⟨-, h1, -, -, rfl⟩ | ⟨-, h1, -, -, rfl⟩ | ⟨-, h1, h2, -, -, rfl⟩)
  · have := hS _ _ _ h2
    have := hlt k (by omega)
    omega
  · have := hlt i (by omega)
    omega
  · have := hlt i (by omega)
    omega
  · have := hlt i (by omega)
    omega
  · have := hlt (i + 1) (by omega)
    omega
theorem zIn_S {cd vl : Nat → Nat} {o : Bool} {E : Nat} (hE : ∀ k, E ≤ k → cd k = 0) : ∀ d, zIn E (zSpS cd vl o d)
  | 0 => fun _ _ _ h => h.elim
  | d + 1 => zIn_sq (zIn_sq (zIn_part hE (zIn_S hE d)))
theorem zIn_pos {cd : Nat → Nat} {S T : zX → Nat → Nat → Prop} {E : Nat} (hE : ∀ k, E ≤ k → cd k = 0) (hS : zIn E S) (hT : zIn E T) : zIn E (zSpPos cd S T) := by
  have hlt : ∀ k, cd k ≠ 0 → k < E := fun k hk => Nat.lt_of_not_le fun h => hk (hE k h)
  rintro e i j (⟨h1, k, h2, h3, rfl⟩ | ⟨h1, a, b, k, h2, h3, h4, rfl⟩)
  · have := hT _ _ _ h2
    have := hlt k (by omega)
    omega
  · have := hS _ _ _ h2
    have := hS _ _ _ h4
    omega
theorem zIn_plain {cd : Nat → Nat} {P : zX → Nat → Nat → Prop} {E : Nat} (hP : zIn E P) : zIn E (zSpPlain cd P) := by
  rintro e i j ⟨r, a, -, -, h, -⟩
  have := hP _ _ _ h
  omega
theorem zIn_T {cd vl : Nat → Nat} {o : Bool} {E : Nat} (hE : ∀ k, E ≤ k → cd k = 0) : ∀ d, zIn E (zSpT cd vl o d)
  | 0 => fun _ _ _ h => h.elim
  | d + 1 => zIn_sq (zIn_sq (zIn_plain (zIn_pos hE (zIn_S hE (d + 1)) (zIn_T hE d))))
/-- what sums come to is not far -/
def zBe (w : Nat → Nat → Int) (e : zX) : Prop := ∀ x, e w = some x → -1000000000 ≤ x ∧ x ≤ 1000000000
def zBn (w : Nat → Nat → Int) (P : zX → Nat → Nat → Prop) : Prop := ∀ e i j, P e i j → zBe w e
theorem zbd_b {x y : Int} (h : zbd x = some y) : y = x ∧ -1000000000 ≤ x ∧ x ≤ 1000000000 := by
  unfold zbd at h
  split at h
  · cases h
  · cases h; omega
theorem zop_b {o : Nat} {x y z : Int} (hx : -1000000000 ≤ x ∧ x ≤ 1000000000) (h : zop o x y = some z) : -1000000000 ≤ z ∧ z ≤ 1000000000 := by
  unfold zop at h
  split at h
  · have := zbd_b h; omega
  · split at h
    · have := zbd_b h; omega
    · split at h
      · have := zbd_b h; omega
      · split at h
        · split at h
          · cases h
          · cases h
            have h1 := Int.natAbs_tdiv_le_natAbs x y
            omega
        · split at h
          · split at h
            · cases h
            · cases h
              have h1 : (x.tmod y).natAbs ≤ x.natAbs := by rw [Int.natAbs_tmod]; exact Nat.mod_le _ _
              omega
          · split at h
            · cases h; split <;> omega
            · split at h
              · cases h; split <;> omega
              · cases h; split <;> omega
theorem zBe_op {w : Nat → Nat → Int} {o : Nat} {a b : zX} (ha : zBe w a) : zBe w (zx_op o a b) := by
  intro z hz
  unfold zx_op at hz
  cases h1 : a w with
  | none => rw [h1] at hz; cases hz
  | some x =>
    rw [h1] at hz
    cases h2 : b w with
    | none => rw [h2] at hz; cases hz
    | some y =>
      rw [h2] at hz
      exact zop_b (ha x h1) hz
theorem zBn_TL {w : Nat → Nat → Int} {cd : Nat → Nat} {ops : List Nat} {P : zX → Nat → Nat → Prop} : ∀ {f : Nat} {a e : zX} {j k : Nat}, zTL cd ops zx_op P f a j e k → zBe w a → zBe w e
  | 0, _, _, _, _, h, _ => h.elim
  | f + 1, a, e, j, k, h, ha => by
    rcases h with ⟨-, rfl, rfl⟩ | ⟨-, b, m, hb, ht⟩
    · exact ha
    · exact zBn_TL ht (zBe_op ha)
theorem zBn_sq {w : Nat → Nat → Int} {cd : Nat → Nat} {ops : List Nat} {P : zX → Nat → Nat → Prop} (hP : zBn w P) : zBn w (zSqL cd ops zx_op P) := by
  rintro e i k ⟨f, a, j, h1, h2⟩
  exact zBn_TL h2 (hP _ _ _ h1)
theorem zBn_part {w : Nat → Nat → Int} {cd vl : Nat → Nat} {o : Bool} {S : zX → Nat → Nat → Prop} (hw : ∀ c k, -1000000000 ≤ w c k ∧ w c k ≤ 1000000000) (hS : zBn w S) : zBn w (zSpPart cd vl o S) := by
  rintro e i j (⟨h1, k, h2, h3, rfl⟩ | ⟨h1, h2, rfl, rfl⟩ | ⟨-, h1, -, rfl, rfl⟩ | ⟨-, h1, -, rfl, rfl⟩ | ⟨-, h1, h2, -, rfl, rfl⟩) x hx
  · exact hS _ _ _ h2 x hx
  · cases hx; omega
  · cases hx; exact hw _ _
  · cases hx; exact hw _ _
  · cases hx; exact hw _ _
theorem zBn_S {w : Nat → Nat → Int} {cd vl : Nat → Nat} {o : Bool} (hw : ∀ c k, -1000000000 ≤ w c k ∧ w c k ≤ 1000000000) : ∀ d, zBn w (zSpS cd vl o d)
  | 0 => fun _ _ _ h => h.elim
  | d + 1 => zBn_sq (zBn_sq (zBn_part hw (zBn_S hw d)))
/-! longs by the integers they are -/
def zL (x : Int) : Int64 := Int64.ofInt x
def zI (x : Int) : Int32 := Int32.ofInt x
theorem zI_toInt {x : Int} (h1 : -2147483648 ≤ x) (h2 : x < 2147483648) : (zI x).toInt = x := Int32.toInt_ofInt_of_le h1 h2
theorem zL_toInt {x : Int} (h1 : -9223372036854775808 ≤ x) (h2 : x < 9223372036854775808) : (zL x).toInt = x := Int64.toInt_ofInt_of_le h1 h2
theorem zL_of (v : Int64) : zL v.toInt = v := Int64.ofInt_toInt v
theorem zI_of (v : Int32) : zI v.toInt = v := Int32.ofInt_toInt v
theorem zL_add (x y : Int) : zL x + zL y = zL (x + y) := (Int64.ofInt_add x y).symm
theorem zL_sub (x y : Int) : zL x - zL y = zL (x - y) := (Int64.ofInt_sub x y).symm
theorem zL_mul (x y : Int) : zL x * zL y = zL (x * y) := (Int64.ofInt_mul x y).symm
theorem zL_div {x y : Int} (hx : -1000000000 ≤ x ∧ x ≤ 1000000000) (hy : -1000000000 ≤ y ∧ y ≤ 1000000000) : zL x / zL y = zL (x.tdiv y) := by
  have h := Int64.toInt_div (zL x) (zL y)
  rw [zL_toInt (x := x) (by omega) (by omega), zL_toInt (x := y) (by omega) (by omega)] at h
  have h1 := Int.natAbs_tdiv_le_natAbs x y
  rw [← zL_of (zL x / zL y), h, Int.bmod_eq_of_le (by omega) (by omega)]
theorem zL_rem {x y : Int} (hx : -1000000000 ≤ x ∧ x ≤ 1000000000) (hy : -1000000000 ≤ y ∧ y ≤ 1000000000) : zL x - zL x / zL y * zL y = zL (x.tmod y) := by
  rw [zL_div hx hy, zL_mul, zL_sub, Int.tmod_def, Int.mul_comm y]
theorem zL_i (v : Int32) : v.toInt64 = zL v.toInt := by rw [← zL_of v.toInt64, Int32.toInt_toInt64]
theorem zL_I {x : Int} (h1 : -2147483648 ≤ x) (h2 : x < 2147483648) : (zI x).toInt64 = zL x := by rw [zL_i, zI_toInt h1 h2]
theorem zL_lt {x y : Int} (hx : -9223372036854775808 ≤ x ∧ x < 9223372036854775808) (hy : -9223372036854775808 ≤ y ∧ y < 9223372036854775808) : zL x < zL y ↔ x < y := by
  rw [Int64.lt_iff_toInt_lt, zL_toInt hx.1 hx.2, zL_toInt hy.1 hy.2]
theorem zL_le {x y : Int} (hx : -9223372036854775808 ≤ x ∧ x < 9223372036854775808) (hy : -9223372036854775808 ≤ y ∧ y < 9223372036854775808) : zL x ≤ zL y ↔ x ≤ y := by
  rw [Int64.le_iff_toInt_le, zL_toInt hx.1 hx.2, zL_toInt hy.1 hy.2]
theorem zL_eq {x y : Int} (hx : -9223372036854775808 ≤ x ∧ x < 9223372036854775808) (hy : -9223372036854775808 ≤ y ∧ y < 9223372036854775808) : zL x = zL y ↔ x = y := by
  constructor
  · intro h
    have := congrArg Int64.toInt h
    rwa [zL_toInt hx.1 hx.2, zL_toInt hy.1 hy.2] at this
  · rintro rfl; rfl
theorem zI_n (n : Nat) : zI n = nI n := by
  unfold zI nI
  rfl
/-- where the reckoning is, whether it is broken -/
def zg (σ : zm_S) (i : Nat) (b : Bool) : zm_S := zm_si (zm_si σ 23 (nI i)) 25 (zb b)
theorem zg_23 (σ : zm_S) (i : Nat) (b : Bool) : (zg σ i b).1 23 = nI i := by simp [zg, zm_si, upd]
theorem zg_25 (σ : zm_S) (i : Nat) (b : Bool) : (zg σ i b).1 25 = zb b := by simp [zg, zm_si, upd]
theorem zg_o (σ : zm_S) (i : Nat) (b : Bool) {k : Nat} (h1 : k ≠ 23) (h2 : k ≠ 25) : (zg σ i b).1 k = σ.1 k := by simp [zg, zm_si, upd, h1, h2]
theorem zg_2 (σ : zm_S) (i : Nat) (b : Bool) : (zg σ i b).2 = σ.2 := rfl
theorem zg_s23 (σ : zm_S) (i j : Nat) (b : Bool) : zm_si (zg σ i b) 23 (nI j) = zg σ j b := by
  show (_, _) = (_, _)
  congr 1
  funext k
  by_cases h1 : k = 25
  · simp [upd, zm_si, zg, h1]
  · by_cases h2 : k = 23 <;> simp [upd, zm_si, zg, h1, h2]
theorem zg_s25 (σ : zm_S) (i : Nat) (b c : Bool) : zm_si (zg σ i b) 25 (zb c) = zg σ i c := zsi_si _ _ _ _
theorem zEs_g {σ τ : zm_S} {i : Nat} {b : Bool} (h : zEs σ τ) : zEs (zg σ i b) τ := zEs_i rfl (zEs_i rfl h)
/-- the text that is reckoned: it begins at B, has E tokens -/
def zRun (σ : zm_S) (B E : Nat) (cd vl : Nat → Nat) (o : Bool) : Prop :=
  σ.1 24 = nI (B + E) ∧ σ.1 26 = zb o ∧ B + E ≤ 2800 ∧ (∀ k, E ≤ k → cd k = 0) ∧ (∀ k, cd k < 1000) ∧ ∀ k, k < E → σ.2.1 72 (84 + (B + k)) = nI (cd k) ∧ σ.2.1 72 (2884 + (B + k)) = nI (vl k)
def zrng (x : Int) : Bool := decide (x < -1000000000 ∨ 1000000000 < x)
def zvl (w : Nat → Nat → Int) (lv b : Bool) (e : zX) : Int := if lv = true ∧ b = false then (e w).getD 0 else 0
def zbs (w : Nat → Nat → Int) (lv b : Bool) (e : zX) : Bool := b || (lv && (e w).isNone)
theorem dX12_codeAt_0 : decode cX12_codeAt 0 = .ok (.iload_n 1, 1) := by decide +kernel
theorem dX12_codeAt_1 : decode cX12_codeAt 1 = .ok (.aload_n 0, 1) := by decide +kernel
theorem dX12_codeAt_2 : decode cX12_codeAt 2 = .ok (.getfield 283, 3) := by decide +kernel
theorem dX12_codeAt_5 : decode cX12_codeAt 5 = .ok (.if_icmp .ge 15, 3) := by decide +kernel
theorem dX12_codeAt_8 : decode cX12_codeAt 8 = .ok (.aload_n 0, 1) := by decide +kernel
theorem dX12_codeAt_9 : decode cX12_codeAt 9 = .ok (.getfield 42, 3) := by decide +kernel
theorem dX12_codeAt_12 : decode cX12_codeAt 12 = .ok (.bipush 84, 2) := by decide +kernel
theorem dX12_codeAt_14 : decode cX12_codeAt 14 = .ok (.iload_n 1, 1) := by decide +kernel
theorem dX12_codeAt_15 : decode cX12_codeAt 15 = .ok (.iadd, 1) := by decide +kernel
theorem dX12_codeAt_16 : decode cX12_codeAt 16 = .ok (.iaload, 1) := by decide +kernel
theorem dX12_codeAt_17 : decode cX12_codeAt 17 = .ok (.goto 4, 3) := by decide +kernel
theorem dX12_codeAt_20 : decode cX12_codeAt 20 = .ok (.iconst 0, 1) := by decide +kernel
theorem dX12_codeAt_21 : decode cX12_codeAt 21 = .ok (.ireturn, 1) := by decide +kernel
abbrev mX12_codeAt : zq_M := (cX12_codeAt, RX12, "codeAt", (some .int), 2)
theorem dX12_passes0_0 : decode cX12_passes0 0 = .ok (.aload_n 0, 1) := by decide +kernel
theorem dX12_passes0_1 : decode cX12_passes0 1 = .ok (.aload_n 0, 1) := by decide +kernel
theorem dX12_passes0_2 : decode cX12_passes0 2 = .ok (.getfield 286, 3) := by decide +kernel
theorem dX12_passes0_5 : decode cX12_passes0 5 = .ok (.invokevirtual 289, 3) := by decide +kernel
theorem dX12_passes0_8 : decode cX12_passes0 8 = .ok (.iload_n 1, 1) := by decide +kernel
theorem dX12_passes0_9 : decode cX12_passes0 9 = .ok (.if_icmp .ne 7, 3) := by decide +kernel
theorem dX12_passes0_12 : decode cX12_passes0 12 = .ok (.iconst 1, 1) := by decide +kernel
theorem dX12_passes0_13 : decode cX12_passes0 13 = .ok (.goto 4, 3) := by decide +kernel
theorem dX12_passes0_16 : decode cX12_passes0 16 = .ok (.iconst 0, 1) := by decide +kernel
theorem dX12_passes0_17 : decode cX12_passes0 17 = .ok (.istore_n 2, 1) := by decide +kernel
theorem dX12_passes0_18 : decode cX12_passes0 18 = .ok (.iload_n 2, 1) := by decide +kernel
theorem dX12_passes0_19 : decode cX12_passes0 19 = .ok (.ifCond .eq 13, 3) := by decide +kernel
theorem dX12_passes0_22 : decode cX12_passes0 22 = .ok (.aload_n 0, 1) := by decide +kernel
theorem dX12_passes0_23 : decode cX12_passes0 23 = .ok (.dup, 1) := by decide +kernel
theorem dX12_passes0_24 : decode cX12_passes0 24 = .ok (.getfield 286, 3) := by decide +kernel
theorem dX12_passes0_27 : decode cX12_passes0 27 = .ok (.iconst 1, 1) := by decide +kernel
theorem dX12_passes0_28 : decode cX12_passes0 28 = .ok (.iadd, 1) := by decide +kernel
theorem dX12_passes0_29 : decode cX12_passes0 29 = .ok (.putfield 286, 3) := by decide +kernel
theorem dX12_passes0_32 : decode cX12_passes0 32 = .ok (.iload_n 2, 1) := by decide +kernel
theorem dX12_passes0_33 : decode cX12_passes0 33 = .ok (.ireturn, 1) := by decide +kernel
abbrev mX12_passes0 : zq_M := (cX12_passes0, RX12, "passes0", (some .boolean), 3)
theorem dX12_bounded_0 : decode cX12_bounded 0 = .ok (.iload_n 3, 1) := by decide +kernel
theorem dX12_bounded_1 : decode cX12_bounded 1 = .ok (.ifCond .eq 24, 3) := by decide +kernel
theorem dX12_bounded_4 : decode cX12_bounded 4 = .ok (.lload_n 1, 1) := by decide +kernel
theorem dX12_bounded_5 : decode cX12_bounded 5 = .ok (.ldc2_w 292, 3) := by decide +kernel
theorem dX12_bounded_8 : decode cX12_bounded 8 = .ok (.lcmp, 1) := by decide +kernel
theorem dX12_bounded_9 : decode cX12_bounded 9 = .ok (.ifCond .gt 11, 3) := by decide +kernel
theorem dX12_bounded_12 : decode cX12_bounded 12 = .ok (.lload_n 1, 1) := by decide +kernel
theorem dX12_bounded_13 : decode cX12_bounded 13 = .ok (.ldc2_w 294, 3) := by decide +kernel
theorem dX12_bounded_16 : decode cX12_bounded 16 = .ok (.lcmp, 1) := by decide +kernel
theorem dX12_bounded_17 : decode cX12_bounded 17 = .ok (.ifCond .ge 8, 3) := by decide +kernel
theorem dX12_bounded_20 : decode cX12_bounded 20 = .ok (.aload_n 0, 1) := by decide +kernel
theorem dX12_bounded_21 : decode cX12_bounded 21 = .ok (.iconst 1, 1) := by decide +kernel
theorem dX12_bounded_22 : decode cX12_bounded 22 = .ok (.putfield 296, 3) := by decide +kernel
theorem dX12_bounded_25 : decode cX12_bounded 25 = .ok (.aload_n 0, 1) := by decide +kernel
theorem dX12_bounded_26 : decode cX12_bounded 26 = .ok (.getfield 296, 3) := by decide +kernel
theorem dX12_bounded_29 : decode cX12_bounded 29 = .ok (.ifCond .eq 7, 3) := by decide +kernel
theorem dX12_bounded_32 : decode cX12_bounded 32 = .ok (.lconst 0, 1) := by decide +kernel
theorem dX12_bounded_33 : decode cX12_bounded 33 = .ok (.goto 4, 3) := by decide +kernel
theorem dX12_bounded_36 : decode cX12_bounded 36 = .ok (.lload_n 1, 1) := by decide +kernel
theorem dX12_bounded_37 : decode cX12_bounded 37 = .ok (.lreturn, 1) := by decide +kernel
abbrev mX12_bounded : zq_M := (cX12_bounded, RX12, "bounded", (some .long), 4)
theorem dX12_sumOf_0 : decode cX12_sumOf 0 = .ok (.aload_n 0, 1) := by decide +kernel
theorem dX12_sumOf_1 : decode cX12_sumOf 1 = .ok (.iload_n 1, 1) := by decide +kernel
theorem dX12_sumOf_2 : decode cX12_sumOf 2 = .ok (.invokevirtual 299, 3) := by decide +kernel
theorem dX12_sumOf_5 : decode cX12_sumOf 5 = .ok (.lstore_n 2, 1) := by decide +kernel
theorem dX12_sumOf_6 : decode cX12_sumOf 6 = .ok (.aload_n 0, 1) := by decide +kernel
theorem dX12_sumOf_7 : decode cX12_sumOf 7 = .ok (.aload_n 0, 1) := by decide +kernel
theorem dX12_sumOf_8 : decode cX12_sumOf 8 = .ok (.getfield 286, 3) := by decide +kernel
theorem dX12_sumOf_11 : decode cX12_sumOf 11 = .ok (.invokevirtual 289, 3) := by decide +kernel
theorem dX12_sumOf_14 : decode cX12_sumOf 14 = .ok (.bipush 43, 2) := by decide +kernel
theorem dX12_sumOf_16 : decode cX12_sumOf 16 = .ok (.invokestatic 245, 3) := by decide +kernel
theorem dX12_sumOf_19 : decode cX12_sumOf 19 = .ok (.if_icmp .eq 19, 3) := by decide +kernel
theorem dX12_sumOf_22 : decode cX12_sumOf 22 = .ok (.aload_n 0, 1) := by decide +kernel
theorem dX12_sumOf_23 : decode cX12_sumOf 23 = .ok (.aload_n 0, 1) := by decide +kernel
theorem dX12_sumOf_24 : decode cX12_sumOf 24 = .ok (.getfield 286, 3) := by decide +kernel
theorem dX12_sumOf_27 : decode cX12_sumOf 27 = .ok (.invokevirtual 289, 3) := by decide +kernel
theorem dX12_sumOf_30 : decode cX12_sumOf 30 = .ok (.bipush 45, 2) := by decide +kernel
theorem dX12_sumOf_32 : decode cX12_sumOf 32 = .ok (.invokestatic 245, 3) := by decide +kernel
theorem dX12_sumOf_35 : decode cX12_sumOf 35 = .ok (.if_icmp .ne 68, 3) := by decide +kernel
theorem dX12_sumOf_38 : decode cX12_sumOf 38 = .ok (.aload_n 0, 1) := by decide +kernel
theorem dX12_sumOf_39 : decode cX12_sumOf 39 = .ok (.aload_n 0, 1) := by decide +kernel
theorem dX12_sumOf_40 : decode cX12_sumOf 40 = .ok (.getfield 286, 3) := by decide +kernel
theorem dX12_sumOf_43 : decode cX12_sumOf 43 = .ok (.invokevirtual 289, 3) := by decide +kernel
theorem dX12_sumOf_46 : decode cX12_sumOf 46 = .ok (.bipush 43, 2) := by decide +kernel
theorem dX12_sumOf_48 : decode cX12_sumOf 48 = .ok (.invokestatic 245, 3) := by decide +kernel
theorem dX12_sumOf_51 : decode cX12_sumOf 51 = .ok (.if_icmp .ne 7, 3) := by decide +kernel
theorem dX12_sumOf_54 : decode cX12_sumOf 54 = .ok (.iconst 1, 1) := by decide +kernel
theorem dX12_sumOf_55 : decode cX12_sumOf 55 = .ok (.goto 4, 3) := by decide +kernel
theorem dX12_sumOf_58 : decode cX12_sumOf 58 = .ok (.iconst 0, 1) := by decide +kernel
theorem dX12_sumOf_59 : decode cX12_sumOf 59 = .ok (.istore 4, 2) := by decide +kernel
theorem dX12_sumOf_61 : decode cX12_sumOf 61 = .ok (.aload_n 0, 1) := by decide +kernel
theorem dX12_sumOf_62 : decode cX12_sumOf 62 = .ok (.dup, 1) := by decide +kernel
theorem dX12_sumOf_63 : decode cX12_sumOf 63 = .ok (.getfield 286, 3) := by decide +kernel
theorem dX12_sumOf_66 : decode cX12_sumOf 66 = .ok (.iconst 1, 1) := by decide +kernel
theorem dX12_sumOf_67 : decode cX12_sumOf 67 = .ok (.iadd, 1) := by decide +kernel
theorem dX12_sumOf_68 : decode cX12_sumOf 68 = .ok (.putfield 286, 3) := by decide +kernel
theorem dX12_sumOf_71 : decode cX12_sumOf 71 = .ok (.aload_n 0, 1) := by decide +kernel
theorem dX12_sumOf_72 : decode cX12_sumOf 72 = .ok (.iload_n 1, 1) := by decide +kernel
theorem dX12_sumOf_73 : decode cX12_sumOf 73 = .ok (.invokevirtual 299, 3) := by decide +kernel
theorem dX12_sumOf_76 : decode cX12_sumOf 76 = .ok (.lstore 5, 2) := by decide +kernel
theorem dX12_sumOf_78 : decode cX12_sumOf 78 = .ok (.aload_n 0, 1) := by decide +kernel
theorem dX12_sumOf_79 : decode cX12_sumOf 79 = .ok (.iload 4, 2) := by decide +kernel
theorem dX12_sumOf_81 : decode cX12_sumOf 81 = .ok (.ifCond .eq 10, 3) := by decide +kernel
theorem dX12_sumOf_84 : decode cX12_sumOf 84 = .ok (.lload_n 2, 1) := by decide +kernel
theorem dX12_sumOf_85 : decode cX12_sumOf 85 = .ok (.lload 5, 2) := by decide +kernel
theorem dX12_sumOf_87 : decode cX12_sumOf 87 = .ok (.ladd, 1) := by decide +kernel
theorem dX12_sumOf_88 : decode cX12_sumOf 88 = .ok (.goto 7, 3) := by decide +kernel
theorem dX12_sumOf_91 : decode cX12_sumOf 91 = .ok (.lload_n 2, 1) := by decide +kernel
theorem dX12_sumOf_92 : decode cX12_sumOf 92 = .ok (.lload 5, 2) := by decide +kernel
theorem dX12_sumOf_94 : decode cX12_sumOf 94 = .ok (.lsub, 1) := by decide +kernel
theorem dX12_sumOf_95 : decode cX12_sumOf 95 = .ok (.iload_n 1, 1) := by decide +kernel
theorem dX12_sumOf_96 : decode cX12_sumOf 96 = .ok (.invokevirtual 303, 3) := by decide +kernel
theorem dX12_sumOf_99 : decode cX12_sumOf 99 = .ok (.lstore_n 2, 1) := by decide +kernel
theorem dX12_sumOf_100 : decode cX12_sumOf 100 = .ok (.goto (-94), 3) := by decide +kernel
theorem dX12_sumOf_103 : decode cX12_sumOf 103 = .ok (.lload_n 2, 1) := by decide +kernel
theorem dX12_sumOf_104 : decode cX12_sumOf 104 = .ok (.lreturn, 1) := by decide +kernel
abbrev mX12_sumOf : zq_M := (cX12_sumOf, RX12, "sumOf", (some .long), 7)
theorem dX12_termOf_0 : decode cX12_termOf 0 = .ok (.aload_n 0, 1) := by decide +kernel
theorem dX12_termOf_1 : decode cX12_termOf 1 = .ok (.iload_n 1, 1) := by decide +kernel
theorem dX12_termOf_2 : decode cX12_termOf 2 = .ok (.invokevirtual 307, 3) := by decide +kernel
theorem dX12_termOf_5 : decode cX12_termOf 5 = .ok (.lstore_n 2, 1) := by decide +kernel
theorem dX12_termOf_6 : decode cX12_termOf 6 = .ok (.aload_n 0, 1) := by decide +kernel
theorem dX12_termOf_7 : decode cX12_termOf 7 = .ok (.aload_n 0, 1) := by decide +kernel
theorem dX12_termOf_8 : decode cX12_termOf 8 = .ok (.getfield 286, 3) := by decide +kernel
theorem dX12_termOf_11 : decode cX12_termOf 11 = .ok (.invokevirtual 289, 3) := by decide +kernel
theorem dX12_termOf_14 : decode cX12_termOf 14 = .ok (.bipush 42, 2) := by decide +kernel
theorem dX12_termOf_16 : decode cX12_termOf 16 = .ok (.invokestatic 245, 3) := by decide +kernel
theorem dX12_termOf_19 : decode cX12_termOf 19 = .ok (.if_icmp .eq 35, 3) := by decide +kernel
theorem dX12_termOf_22 : decode cX12_termOf 22 = .ok (.aload_n 0, 1) := by decide +kernel
theorem dX12_termOf_23 : decode cX12_termOf 23 = .ok (.aload_n 0, 1) := by decide +kernel
theorem dX12_termOf_24 : decode cX12_termOf 24 = .ok (.getfield 286, 3) := by decide +kernel
theorem dX12_termOf_27 : decode cX12_termOf 27 = .ok (.invokevirtual 289, 3) := by decide +kernel
theorem dX12_termOf_30 : decode cX12_termOf 30 = .ok (.bipush 47, 2) := by decide +kernel
theorem dX12_termOf_32 : decode cX12_termOf 32 = .ok (.invokestatic 245, 3) := by decide +kernel
theorem dX12_termOf_35 : decode cX12_termOf 35 = .ok (.if_icmp .eq 19, 3) := by decide +kernel
theorem dX12_termOf_38 : decode cX12_termOf 38 = .ok (.aload_n 0, 1) := by decide +kernel
theorem dX12_termOf_39 : decode cX12_termOf 39 = .ok (.aload_n 0, 1) := by decide +kernel
theorem dX12_termOf_40 : decode cX12_termOf 40 = .ok (.getfield 286, 3) := by decide +kernel
theorem dX12_termOf_43 : decode cX12_termOf 43 = .ok (.invokevirtual 289, 3) := by decide +kernel
theorem dX12_termOf_46 : decode cX12_termOf 46 = .ok (.bipush 37, 2) := by decide +kernel
theorem dX12_termOf_48 : decode cX12_termOf 48 = .ok (.invokestatic 245, 3) := by decide +kernel
theorem dX12_termOf_51 : decode cX12_termOf 51 = .ok (.if_icmp .ne 117, 3) := by decide +kernel
theorem dX12_termOf_54 : decode cX12_termOf 54 = .ok (.aload_n 0, 1) := by decide +kernel
theorem dX12_termOf_55 : decode cX12_termOf 55 = .ok (.aload_n 0, 1) := by decide +kernel
theorem dX12_termOf_56 : decode cX12_termOf 56 = .ok (.getfield 286, 3) := by decide +kernel
theorem dX12_termOf_59 : decode cX12_termOf 59 = .ok (.invokevirtual 289, 3) := by decide +kernel
theorem dX12_termOf_62 : decode cX12_termOf 62 = .ok (.istore 4, 2) := by decide +kernel
theorem dX12_termOf_64 : decode cX12_termOf 64 = .ok (.aload_n 0, 1) := by decide +kernel
theorem dX12_termOf_65 : decode cX12_termOf 65 = .ok (.dup, 1) := by decide +kernel
theorem dX12_termOf_66 : decode cX12_termOf 66 = .ok (.getfield 286, 3) := by decide +kernel
theorem dX12_termOf_69 : decode cX12_termOf 69 = .ok (.iconst 1, 1) := by decide +kernel
theorem dX12_termOf_70 : decode cX12_termOf 70 = .ok (.iadd, 1) := by decide +kernel
theorem dX12_termOf_71 : decode cX12_termOf 71 = .ok (.putfield 286, 3) := by decide +kernel
theorem dX12_termOf_74 : decode cX12_termOf 74 = .ok (.aload_n 0, 1) := by decide +kernel
theorem dX12_termOf_75 : decode cX12_termOf 75 = .ok (.iload_n 1, 1) := by decide +kernel
theorem dX12_termOf_76 : decode cX12_termOf 76 = .ok (.invokevirtual 307, 3) := by decide +kernel
theorem dX12_termOf_79 : decode cX12_termOf 79 = .ok (.lstore 5, 2) := by decide +kernel
theorem dX12_termOf_81 : decode cX12_termOf 81 = .ok (.iload 4, 2) := by decide +kernel
theorem dX12_termOf_83 : decode cX12_termOf 83 = .ok (.bipush 42, 2) := by decide +kernel
theorem dX12_termOf_85 : decode cX12_termOf 85 = .ok (.invokestatic 245, 3) := by decide +kernel
theorem dX12_termOf_88 : decode cX12_termOf 88 = .ok (.if_icmp .eq 33, 3) := by decide +kernel
theorem dX12_termOf_91 : decode cX12_termOf 91 = .ok (.lload 5, 2) := by decide +kernel
theorem dX12_termOf_93 : decode cX12_termOf 93 = .ok (.lconst 0, 1) := by decide +kernel
theorem dX12_termOf_94 : decode cX12_termOf 94 = .ok (.lcmp, 1) := by decide +kernel
theorem dX12_termOf_95 : decode cX12_termOf 95 = .ok (.ifCond .ne 26, 3) := by decide +kernel
theorem dX12_termOf_98 : decode cX12_termOf 98 = .ok (.aload_n 0, 1) := by decide +kernel
theorem dX12_termOf_99 : decode cX12_termOf 99 = .ok (.aload_n 0, 1) := by decide +kernel
theorem dX12_termOf_100 : decode cX12_termOf 100 = .ok (.getfield 296, 3) := by decide +kernel
theorem dX12_termOf_103 : decode cX12_termOf 103 = .ok (.ifCond .ne 7, 3) := by decide +kernel
theorem dX12_termOf_106 : decode cX12_termOf 106 = .ok (.iload_n 1, 1) := by decide +kernel
theorem dX12_termOf_107 : decode cX12_termOf 107 = .ok (.ifCond .eq 7, 3) := by decide +kernel
theorem dX12_termOf_110 : decode cX12_termOf 110 = .ok (.iconst 1, 1) := by decide +kernel
theorem dX12_termOf_111 : decode cX12_termOf 111 = .ok (.goto 4, 3) := by decide +kernel
theorem dX12_termOf_114 : decode cX12_termOf 114 = .ok (.iconst 0, 1) := by decide +kernel
theorem dX12_termOf_115 : decode cX12_termOf 115 = .ok (.putfield 296, 3) := by decide +kernel
theorem dX12_termOf_118 : decode cX12_termOf 118 = .ok (.lconst 1, 1) := by decide +kernel
theorem dX12_termOf_119 : decode cX12_termOf 119 = .ok (.lstore 5, 2) := by decide +kernel
theorem dX12_termOf_121 : decode cX12_termOf 121 = .ok (.aload_n 0, 1) := by decide +kernel
theorem dX12_termOf_122 : decode cX12_termOf 122 = .ok (.iload 4, 2) := by decide +kernel
theorem dX12_termOf_124 : decode cX12_termOf 124 = .ok (.bipush 42, 2) := by decide +kernel
theorem dX12_termOf_126 : decode cX12_termOf 126 = .ok (.invokestatic 245, 3) := by decide +kernel
theorem dX12_termOf_129 : decode cX12_termOf 129 = .ok (.if_icmp .ne 10, 3) := by decide +kernel
theorem dX12_termOf_132 : decode cX12_termOf 132 = .ok (.lload_n 2, 1) := by decide +kernel
theorem dX12_termOf_133 : decode cX12_termOf 133 = .ok (.lload 5, 2) := by decide +kernel
theorem dX12_termOf_135 : decode cX12_termOf 135 = .ok (.lmul, 1) := by decide +kernel
theorem dX12_termOf_136 : decode cX12_termOf 136 = .ok (.goto 24, 3) := by decide +kernel
theorem dX12_termOf_139 : decode cX12_termOf 139 = .ok (.iload 4, 2) := by decide +kernel
theorem dX12_termOf_141 : decode cX12_termOf 141 = .ok (.bipush 47, 2) := by decide +kernel
theorem dX12_termOf_143 : decode cX12_termOf 143 = .ok (.invokestatic 245, 3) := by decide +kernel
theorem dX12_termOf_146 : decode cX12_termOf 146 = .ok (.if_icmp .ne 10, 3) := by decide +kernel
theorem dX12_termOf_149 : decode cX12_termOf 149 = .ok (.lload_n 2, 1) := by decide +kernel
theorem dX12_termOf_150 : decode cX12_termOf 150 = .ok (.lload 5, 2) := by decide +kernel
theorem dX12_termOf_152 : decode cX12_termOf 152 = .ok (.ldiv, 1) := by decide +kernel
theorem dX12_termOf_153 : decode cX12_termOf 153 = .ok (.goto 7, 3) := by decide +kernel
theorem dX12_termOf_156 : decode cX12_termOf 156 = .ok (.lload_n 2, 1) := by decide +kernel
theorem dX12_termOf_157 : decode cX12_termOf 157 = .ok (.lload 5, 2) := by decide +kernel
theorem dX12_termOf_159 : decode cX12_termOf 159 = .ok (.lrem, 1) := by decide +kernel
theorem dX12_termOf_160 : decode cX12_termOf 160 = .ok (.iload_n 1, 1) := by decide +kernel
theorem dX12_termOf_161 : decode cX12_termOf 161 = .ok (.invokevirtual 303, 3) := by decide +kernel
theorem dX12_termOf_164 : decode cX12_termOf 164 = .ok (.lstore_n 2, 1) := by decide +kernel
theorem dX12_termOf_165 : decode cX12_termOf 165 = .ok (.goto (-159), 3) := by decide +kernel
theorem dX12_termOf_168 : decode cX12_termOf 168 = .ok (.lload_n 2, 1) := by decide +kernel
theorem dX12_termOf_169 : decode cX12_termOf 169 = .ok (.lreturn, 1) := by decide +kernel
abbrev mX12_termOf : zq_M := (cX12_termOf, RX12, "termOf", (some .long), 7)
theorem dX12_partOf_0 : decode cX12_partOf 0 = .ok (.aload_n 0, 1) := by decide +kernel
theorem dX12_partOf_1 : decode cX12_partOf 1 = .ok (.bipush 91, 2) := by decide +kernel
theorem dX12_partOf_3 : decode cX12_partOf 3 = .ok (.invokestatic 245, 3) := by decide +kernel
theorem dX12_partOf_6 : decode cX12_partOf 6 = .ok (.invokevirtual 310, 3) := by decide +kernel
theorem dX12_partOf_9 : decode cX12_partOf 9 = .ok (.ifCond .eq 21, 3) := by decide +kernel
theorem dX12_partOf_12 : decode cX12_partOf 12 = .ok (.aload_n 0, 1) := by decide +kernel
theorem dX12_partOf_13 : decode cX12_partOf 13 = .ok (.iload_n 1, 1) := by decide +kernel
theorem dX12_partOf_14 : decode cX12_partOf 14 = .ok (.invokevirtual 313, 3) := by decide +kernel
theorem dX12_partOf_17 : decode cX12_partOf 17 = .ok (.lstore_n 2, 1) := by decide +kernel
theorem dX12_partOf_18 : decode cX12_partOf 18 = .ok (.aload_n 0, 1) := by decide +kernel
theorem dX12_partOf_19 : decode cX12_partOf 19 = .ok (.dup, 1) := by decide +kernel
theorem dX12_partOf_20 : decode cX12_partOf 20 = .ok (.getfield 286, 3) := by decide +kernel
theorem dX12_partOf_23 : decode cX12_partOf 23 = .ok (.iconst 1, 1) := by decide +kernel
theorem dX12_partOf_24 : decode cX12_partOf 24 = .ok (.iadd, 1) := by decide +kernel
theorem dX12_partOf_25 : decode cX12_partOf 25 = .ok (.putfield 286, 3) := by decide +kernel
theorem dX12_partOf_28 : decode cX12_partOf 28 = .ok (.lload_n 2, 1) := by decide +kernel
theorem dX12_partOf_29 : decode cX12_partOf 29 = .ok (.lreturn, 1) := by decide +kernel
theorem dX12_partOf_30 : decode cX12_partOf 30 = .ok (.aload_n 0, 1) := by decide +kernel
theorem dX12_partOf_31 : decode cX12_partOf 31 = .ok (.aload_n 0, 1) := by decide +kernel
theorem dX12_partOf_32 : decode cX12_partOf 32 = .ok (.getfield 286, 3) := by decide +kernel
theorem dX12_partOf_35 : decode cX12_partOf 35 = .ok (.invokevirtual 289, 3) := by decide +kernel
theorem dX12_partOf_38 : decode cX12_partOf 38 = .ok (.istore_n 2, 1) := by decide +kernel
theorem dX12_partOf_39 : decode cX12_partOf 39 = .ok (.iconst 0, 1) := by decide +kernel
theorem dX12_partOf_40 : decode cX12_partOf 40 = .ok (.istore_n 3, 1) := by decide +kernel
theorem dX12_partOf_41 : decode cX12_partOf 41 = .ok (.aload_n 0, 1) := by decide +kernel
theorem dX12_partOf_42 : decode cX12_partOf 42 = .ok (.dup, 1) := by decide +kernel
theorem dX12_partOf_43 : decode cX12_partOf 43 = .ok (.getfield 286, 3) := by decide +kernel
theorem dX12_partOf_46 : decode cX12_partOf 46 = .ok (.iconst 1, 1) := by decide +kernel
theorem dX12_partOf_47 : decode cX12_partOf 47 = .ok (.iadd, 1) := by decide +kernel
theorem dX12_partOf_48 : decode cX12_partOf 48 = .ok (.putfield 286, 3) := by decide +kernel
theorem dX12_partOf_51 : decode cX12_partOf 51 = .ok (.aload_n 0, 1) := by decide +kernel
theorem dX12_partOf_52 : decode cX12_partOf 52 = .ok (.getfield 316, 3) := by decide +kernel
theorem dX12_partOf_55 : decode cX12_partOf 55 = .ok (.ifCond .eq 39, 3) := by decide +kernel
theorem dX12_partOf_58 : decode cX12_partOf 58 = .ok (.iload_n 2, 1) := by decide +kernel
theorem dX12_partOf_59 : decode cX12_partOf 59 = .ok (.bipush 20, 2) := by decide +kernel
theorem dX12_partOf_61 : decode cX12_partOf 61 = .ok (.if_icmp .eq 9, 3) := by decide +kernel
theorem dX12_partOf_64 : decode cX12_partOf 64 = .ok (.iload_n 2, 1) := by decide +kernel
theorem dX12_partOf_65 : decode cX12_partOf 65 = .ok (.bipush 21, 2) := by decide +kernel
theorem dX12_partOf_67 : decode cX12_partOf 67 = .ok (.if_icmp .ne 27, 3) := by decide +kernel
theorem dX12_partOf_70 : decode cX12_partOf 70 = .ok (.aload_n 0, 1) := by decide +kernel
theorem dX12_partOf_71 : decode cX12_partOf 71 = .ok (.getfield 42, 3) := by decide +kernel
theorem dX12_partOf_74 : decode cX12_partOf 74 = .ok (.sipush 2884, 3) := by decide +kernel
theorem dX12_partOf_77 : decode cX12_partOf 77 = .ok (.aload_n 0, 1) := by decide +kernel
theorem dX12_partOf_78 : decode cX12_partOf 78 = .ok (.getfield 286, 3) := by decide +kernel
theorem dX12_partOf_81 : decode cX12_partOf 81 = .ok (.iadd, 1) := by decide +kernel
theorem dX12_partOf_82 : decode cX12_partOf 82 = .ok (.iaload, 1) := by decide +kernel
theorem dX12_partOf_83 : decode cX12_partOf 83 = .ok (.istore_n 3, 1) := by decide +kernel
theorem dX12_partOf_84 : decode cX12_partOf 84 = .ok (.aload_n 0, 1) := by decide +kernel
theorem dX12_partOf_85 : decode cX12_partOf 85 = .ok (.dup, 1) := by decide +kernel
theorem dX12_partOf_86 : decode cX12_partOf 86 = .ok (.getfield 286, 3) := by decide +kernel
theorem dX12_partOf_89 : decode cX12_partOf 89 = .ok (.iconst 1, 1) := by decide +kernel
theorem dX12_partOf_90 : decode cX12_partOf 90 = .ok (.iadd, 1) := by decide +kernel
theorem dX12_partOf_91 : decode cX12_partOf 91 = .ok (.putfield 286, 3) := by decide +kernel
theorem dX12_partOf_94 : decode cX12_partOf 94 = .ok (.iload_n 1, 1) := by decide +kernel
theorem dX12_partOf_95 : decode cX12_partOf 95 = .ok (.ifCond .eq 10, 3) := by decide +kernel
theorem dX12_partOf_98 : decode cX12_partOf 98 = .ok (.aload_n 0, 1) := by decide +kernel
theorem dX12_partOf_99 : decode cX12_partOf 99 = .ok (.getfield 296, 3) := by decide +kernel
theorem dX12_partOf_102 : decode cX12_partOf 102 = .ok (.ifCond .eq 5, 3) := by decide +kernel
theorem dX12_partOf_105 : decode cX12_partOf 105 = .ok (.lconst 0, 1) := by decide +kernel
theorem dX12_partOf_106 : decode cX12_partOf 106 = .ok (.lreturn, 1) := by decide +kernel
theorem dX12_partOf_107 : decode cX12_partOf 107 = .ok (.iload_n 2, 1) := by decide +kernel
theorem dX12_partOf_108 : decode cX12_partOf 108 = .ok (.bipush 50, 2) := by decide +kernel
theorem dX12_partOf_110 : decode cX12_partOf 110 = .ok (.if_icmp .ne 20, 3) := by decide +kernel
theorem dX12_partOf_113 : decode cX12_partOf 113 = .ok (.aload_n 0, 1) := by decide +kernel
theorem dX12_partOf_114 : decode cX12_partOf 114 = .ok (.getfield 42, 3) := by decide +kernel
theorem dX12_partOf_117 : decode cX12_partOf 117 = .ok (.sipush 2884, 3) := by decide +kernel
theorem dX12_partOf_120 : decode cX12_partOf 120 = .ok (.aload_n 0, 1) := by decide +kernel
theorem dX12_partOf_121 : decode cX12_partOf 121 = .ok (.getfield 286, 3) := by decide +kernel
theorem dX12_partOf_124 : decode cX12_partOf 124 = .ok (.iadd, 1) := by decide +kernel
theorem dX12_partOf_125 : decode cX12_partOf 125 = .ok (.iconst 1, 1) := by decide +kernel
theorem dX12_partOf_126 : decode cX12_partOf 126 = .ok (.isub, 1) := by decide +kernel
theorem dX12_partOf_127 : decode cX12_partOf 127 = .ok (.iaload, 1) := by decide +kernel
theorem dX12_partOf_128 : decode cX12_partOf 128 = .ok (.i2l, 1) := by decide +kernel
theorem dX12_partOf_129 : decode cX12_partOf 129 = .ok (.lreturn, 1) := by decide +kernel
theorem dX12_partOf_130 : decode cX12_partOf 130 = .ok (.aload_n 0, 1) := by decide +kernel
theorem dX12_partOf_131 : decode cX12_partOf 131 = .ok (.getfield 316, 3) := by decide +kernel
theorem dX12_partOf_134 : decode cX12_partOf 134 = .ok (.ifCond .eq 13, 3) := by decide +kernel
theorem dX12_partOf_137 : decode cX12_partOf 137 = .ok (.aload_n 0, 1) := by decide +kernel
theorem dX12_partOf_138 : decode cX12_partOf 138 = .ok (.iload_n 2, 1) := by decide +kernel
theorem dX12_partOf_139 : decode cX12_partOf 139 = .ok (.iload_n 3, 1) := by decide +kernel
theorem dX12_partOf_140 : decode cX12_partOf 140 = .ok (.invokevirtual 319, 3) := by decide +kernel
theorem dX12_partOf_143 : decode cX12_partOf 143 = .ok (.i2l, 1) := by decide +kernel
theorem dX12_partOf_144 : decode cX12_partOf 144 = .ok (.goto 13, 3) := by decide +kernel
theorem dX12_partOf_147 : decode cX12_partOf 147 = .ok (.aload_n 0, 1) := by decide +kernel
theorem dX12_partOf_148 : decode cX12_partOf 148 = .ok (.getfield 80, 3) := by decide +kernel
theorem dX12_partOf_151 : decode cX12_partOf 151 = .ok (.iload_n 2, 1) := by decide +kernel
theorem dX12_partOf_152 : decode cX12_partOf 152 = .ok (.bipush 8, 2) := by decide +kernel
theorem dX12_partOf_154 : decode cX12_partOf 154 = .ok (.isub, 1) := by decide +kernel
theorem dX12_partOf_155 : decode cX12_partOf 155 = .ok (.iaload, 1) := by decide +kernel
theorem dX12_partOf_156 : decode cX12_partOf 156 = .ok (.i2l, 1) := by decide +kernel
theorem dX12_partOf_157 : decode cX12_partOf 157 = .ok (.lreturn, 1) := by decide +kernel
abbrev mX12_partOf : zq_M := (cX12_partOf, RX12, "partOf", (some .long), 4)
section ZL21
variable {l : Launch} {G : zq_G} {n B E : Nat} {cd vl : Nat → Nat} {o : Bool} {w : Nat → Nat → Int} {σ : zm_S} {ρ : Nat → zq_E}
theorem zm_codeAt {D i j : Nat} {b : Bool} {post : Option Value → Nat → (Nat → zq_E) → Prop} (hR : zRun σ B E cd vl o) (hi : i ≤ 10000) (hp : post (some (.int (nI (cd i)))) n (zm_h (zg σ j b) ρ)) : zq_Runs l G D 0 0 yX12_codeAt [.ref 70, .int (nI (B + i))] n (zm_h (zg σ j b) ρ) post := by
  obtain ⟨h1, -, h3, h4, h5, h6⟩ := hR
  refine zq_enter (cc := cX12_codeAt) (nL := 2) (ret := (some .int)) cw_X12_codeAt (by decide) rfl (Nat.le_of_ble_eq_true rfl) ?_
  refine at_iload_n dX12_codeAt_0 rfl ?_
  refine at_aload_n dX12_codeAt_1 rfl ?_
  refine at_get dX12_codeAt_2 fl_X12_283 rfl rfl ?_
  rw [zg_o _ _ _ (by decide) (by decide), h1]
  refine at_geN (tgt := 20) dX12_codeAt_5 (by decide) (by omega) (by omega) (fun c5 => ?_) (fun c5 => ?_)
  · rw [h4 i (by omega)] at hp
    refine at_iconst dX12_codeAt_20 (v := nI 0) (by decide) ?_
    refine at_iret dX12_codeAt_21 rfl (by omega) (by omega) ?_
    exact hp
  · have g := (h6 i (by omega)).1
    refine at_aload_n dX12_codeAt_8 rfl ?_
    refine at_get dX12_codeAt_9 fl_X12_42 rfl rfl ?_
    refine at_bipush dX12_codeAt_12 (v := nI 84) (by decide) ?_
    refine at_iload_n dX12_codeAt_14 rfl ?_
    refine at_iaddN dX12_codeAt_15 ?_
    refine at_mald (a := 72) dX12_codeAt_16 (by decide) (by decide) (by decide) (by decide) rfl rfl (by show _ < 5684; omega) (by decide) ?_
    rw [zg_2, g]
    refine at_goto (tgt := 21) dX12_codeAt_17 (by decide) ?_
    refine at_iret dX12_codeAt_21 rfl (by omega) (by omega) ?_
    exact hp
theorem zm_passes0 {D i k : Nat} {b : Bool} {post : Option Value → Nat → (Nat → zq_E) → Prop} (hD : 1 ≤ D) (hR : zRun σ B E cd vl o) (hi : i ≤ 10000) (hk : k < 1000) (hp : post (some (.int (zb (decide (cd i = k))))) n (zm_h (zg σ (B + (if cd i = k then i + 1 else i)) b) ρ)) : zq_Runs l G D 0 0 yX12_passes0 [.ref 70, .int (nI k)] n (zm_h (zg σ (B + i) b) ρ) post := by
  have h5 := hR.2.2.2.2.1 i
  refine zq_enter (cc := cX12_passes0) (nL := 3) (ret := (some .boolean)) cw_X12_passes0 (by decide) rfl (Nat.le_of_ble_eq_true rfl) ?_
  refine at_aload_n dX12_passes0_0 rfl ?_
  refine at_aload_n dX12_passes0_1 rfl ?_
  refine at_get dX12_passes0_2 fl_X12_286 rfl rfl ?_
  rw [zg_23]
  refine at_callV1 (d := D - 1) dX12_passes0_5 mv_X12_289 rfl (Nat.le_of_ble_eq_true rfl) (zq_r0 (by omega) (by omega) (by omega)) ?_
  refine zm_codeAt hR hi ?_
  refine at_iload_n dX12_passes0_8 rfl ?_
  refine at_neN (tgt := 16) dX12_passes0_9 (by decide) (by omega) (by omega) (fun c9 => ?_) (fun c9 => ?_)
  · rw [if_neg c9, decide_eq_false c9] at hp
    refine at_iconst dX12_passes0_16 (v := nI 0) (by decide) ?_
    refine at_istore_n dX12_passes0_17 rfl (by decide) ?_
    refine at_iload_n dX12_passes0_18 rfl ?_
    refine at_if_eqN (tgt := 32) dX12_passes0_19 (by decide) (by omega) (fun c19 => ?_) (fun c19 => ?_)
    · refine at_iload_n dX12_passes0_32 rfl ?_
      refine at_zret dX12_passes0_33 rfl (by omega) (by omega) (by first | exact Or.inl rfl | exact Or.inr rfl | assumption) ?_
      exact hp
    · omega
  · rw [if_pos c9, decide_eq_true c9] at hp
    refine at_iconst dX12_passes0_12 (v := nI 1) (by decide) ?_
    refine at_goto (tgt := 17) dX12_passes0_13 (by decide) ?_
    refine at_istore_n dX12_passes0_17 rfl (by decide) ?_
    refine at_iload_n dX12_passes0_18 rfl ?_
    refine at_if_eqN (tgt := 32) dX12_passes0_19 (by decide) (by omega) (fun c19 => ?_) (fun c19 => ?_)
    · omega
    · refine at_aload_n dX12_passes0_22 rfl ?_
      refine at_dup dX12_passes0_23 rfl ?_
      refine at_get dX12_passes0_24 fl_X12_286 rfl rfl ?_
      rw [zg_23]
      refine at_iconst dX12_passes0_27 (v := nI 1) (by decide) ?_
      refine at_iaddN dX12_passes0_28 ?_
      refine at_mput dX12_passes0_29 (pl_X12_286 _) (fun _ => ⟨_, rfl⟩) rfl rfl ?_
      rw [zg_s23, Nat.add_assoc]
      refine at_iload_n dX12_passes0_32 rfl ?_
      refine at_zret dX12_passes0_33 rfl (by omega) (by omega) (by first | exact Or.inl rfl | exact Or.inr rfl | assumption) ?_
      exact hp
theorem zm_bounded {D i : Nat} {x : Int} {lv b : Bool} {post : Option Value → Nat → (Nat → zq_E) → Prop} (h1 : -2000000000000000000 ≤ x) (h2 : x ≤ 2000000000000000000) (hp : post (some (.long (zL (if (b || (lv && zrng x)) = true then 0 else x)))) n (zm_h (zg σ i (b || (lv && zrng x))) ρ)) : zq_Runs l G D 0 0 yX12_bounded [.ref 70, .long (zL x), .int (zb lv)] n (zm_h (zg σ i b) ρ) post := by
  have e1 : (1000000000 : Int64) = zL 1000000000 := rfl
  have e2 : (-1000000000 : Int64) = zL (-1000000000) := rfl
  have go : ∀ b', (b || (lv && zrng x)) = b' → zq_At l G (zq_rm D 0 0) mX12_bounded (zq_QF G post 0 0) 25 [(0, .ref 70), (1, .long (zL x)), (3, .int (zb lv))] [] n (zm_h (zg σ i b') ρ) 0 0 := by
    intro b' hb'
    rw [hb'] at hp
    refine at_aload_n dX12_bounded_25 rfl ?_
    refine at_get dX12_bounded_26 fl_X12_296 rfl rfl ?_
    rw [zg_25]
    refine at_if_eqB (tgt := 36) dX12_bounded_29 (by decide) (fun c29 => ?_) (fun c29 => ?_)
    · rw [c29, if_neg (by decide)] at hp; rw [c29]
      refine at_lload_n dX12_bounded_36 rfl ?_
      refine at_lret dX12_bounded_37 rfl (by omega) (by omega) ?_
      exact hp
    · rw [c29, if_pos rfl] at hp; rw [c29]
      refine at_lconst dX12_bounded_32 (v := 0) rfl ?_
      refine at_goto (tgt := 37) dX12_bounded_33 (by decide) ?_
      refine at_lret dX12_bounded_37 rfl (by omega) (by omega) ?_
      exact hp
  refine zq_enter (cc := cX12_bounded) (nL := 4) (ret := (some .long)) cw_X12_bounded (by decide) rfl (Nat.le_of_ble_eq_true rfl) ?_
  refine at_iload_n dX12_bounded_0 rfl ?_
  refine at_if_eqB (tgt := 25) dX12_bounded_1 (by decide) (fun c1 => ?_) (fun c1 => ?_)
  · have hgo := go b (by rw [c1]; simp)
    exact hgo
  · refine at_lload_n dX12_bounded_4 rfl ?_
    refine at_ldc2 dX12_bounded_5 kl_X12_292 ?_
    refine at_lcmp dX12_bounded_8 ?_
    refine at_if_gt (tgt := 20) dX12_bounded_9 (by decide) (fun c9 => ?_) (fun c9 => ?_)
    · rw [lg_cmp_gt, e1, zL_lt (by omega) (by omega)] at c9
      have hgo := go true (by unfold zrng; rw [c1, decide_eq_true (Or.inr c9)]; simp)
      refine at_aload_n dX12_bounded_20 rfl ?_
      refine at_iconst dX12_bounded_21 (v := nI 1) (by decide) ?_
      refine at_mput dX12_bounded_22 (pl_X12_296 _) (fun _ => ⟨_, rfl⟩) rfl rfl ?_
      exact hgo
    · rw [lg_cmp_gt, e1, zL_lt (by omega) (by omega)] at c9
      refine at_lload_n dX12_bounded_12 rfl ?_
      refine at_ldc2 dX12_bounded_13 kl_X12_294 ?_
      refine at_lcmp dX12_bounded_16 ?_
      refine at_if_ge (tgt := 25) dX12_bounded_17 (by decide) (fun c17 => ?_) (fun c17 => ?_)
      · rw [lg_cmp_ge, e2, zL_le (by omega) (by omega)] at c17
        have hgo := go b (by unfold zrng; rw [decide_eq_false (by omega)]; simp)
        exact hgo
      · rw [lg_cmp_ge, e2, zL_le (by omega) (by omega)] at c17
        have hgo := go true (by unfold zrng; rw [c1, decide_eq_true (Or.inl (by omega))]; simp)
        refine at_aload_n dX12_bounded_20 rfl ?_
        refine at_iconst dX12_bounded_21 (v := nI 1) (by decide) ?_
        refine at_mput dX12_bounded_22 (pl_X12_296 _) (fun _ => ⟨_, rfl⟩) rfl rfl ?_
        exact hgo
end ZL21

