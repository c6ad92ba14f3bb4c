/-! ===== the class: what a piece of code comes to ===== -/
def zopc (t : Nat) : Nat := if t = 143 then 6 else if t = 145 then 7 else if t = 142 then 8 else if t = 147 then 9 else if t = 137 then 10 else if t = 160 then 11 else if t = 162 then 12 else 13
def zopt (t : Nat) : Prop := t = 143 ∨ t = 145 ∨ t = 142 ∨ t = 147 ∨ t = 137 ∨ t = 160 ∨ t = 162 ∨ t = 161
def zv9 (x : Int) : Prop := -1000000000 ≤ x ∧ x ≤ 1000000000
def zrI (r : Option Int) : Int32 := match r with
  | none => zBrk
  | some z => zI z
theorem zI_ne_brk {z : Int} (h : zv9 z) : zI z ≠ zBrk := by
  intro e
  have := congrArg Int32.toInt e
  obtain ⟨h1, h2⟩ := h
  rw [zI_toInt (by omega) (by omega), show zBrk.toInt = -2000000000 by decide] at this
  omega
theorem zfar_bd (z : Int) : zfar z = zrI (zbd z) := by
  unfold zfar zbd
  split <;> rfl
theorem zI_0 {y : Int} (h : zv9 y) : zI y = 0 ↔ y = 0 := by
  obtain ⟨h1, h2⟩ := h
  constructor
  · intro e
    have := congrArg Int32.toInt e
    rwa [zI_toInt (by omega) (by omega), show (0 : Int32).toInt = 0 by decide] at this
  · rintro rfl; rfl
theorem zI_div {x y : Int} (hx : zv9 x) (hy : zv9 y) : zI x / zI y = zI (x.tdiv y) := by
  obtain ⟨a1, a2⟩ := hx
  obtain ⟨b1, b2⟩ := hy
  have h := Int32.toInt_div (zI x) (zI y)
  rw [zI_toInt (x := x) (by omega) (by omega), zI_toInt (x := y) (by omega) (by omega)] at h
  have h1 := Int.natAbs_tdiv_le_natAbs x y
  rw [← zI_of (zI x / zI y), h, Int.bmod_eq_of_le (by omega) (by omega)]
theorem zI_rem {x y : Int} (hx : zv9 x) (hy : zv9 y) : zI x - zI x / zI y * zI y = zI (x.tmod y) := by
  rw [zI_div hx hy, Int.tmod_def, Int.mul_comm y]
  show Int32.ofInt _ - Int32.ofInt _ * Int32.ofInt _ = Int32.ofInt _
  rw [← Int32.ofInt_mul, ← Int32.ofInt_sub]
theorem zI_ltI {x y : Int} (hx : zv9 x) (hy : zv9 y) : zI x < zI y ↔ x < y := by
  obtain ⟨a1, a2⟩ := hx
  obtain ⟨b1, b2⟩ := hy
  rw [Int32.lt_iff_toInt_lt, zI_toInt (by omega) (by omega), zI_toInt (by omega) (by omega)]
theorem zI_eqI {x y : Int} (hx : zv9 x) (hy : zv9 y) : zI x = zI y ↔ x = y := by
  obtain ⟨a1, a2⟩ := hx
  obtain ⟨b1, b2⟩ := hy
  constructor
  · intro e
    have := congrArg Int32.toInt e
    rwa [zI_toInt (by omega) (by omega), zI_toInt (by omega) (by omega)] at this
  · rintro rfl; rfl
theorem zif01 {p : Prop} [Decidable p] : (if p then (1 : Int32) else 0) = zrI (some (if p then 1 else 0)) := by
  split <;> rfl
theorem zo2_op {t : Nat} (ht : zopt t) {x y : Int} (hx : zv9 x) (hy : zv9 y) : zo2 (zopc t) (zI x) (zI y) = zrI (zop t x y) := by
  have ex : (zI x).toInt = x := by obtain ⟨h1, h2⟩ := hx; exact zI_toInt (by omega) (by omega)
  have ey : (zI y).toInt = y := by obtain ⟨h1, h2⟩ := hy; exact zI_toInt (by omega) (by omega)
  rcases ht with rfl | rfl | rfl | rfl | rfl | rfl | rfl | rfl
  · show zfar ((zI x).toInt + (zI y).toInt) = _
    rw [ex, ey, zfar_bd]; rfl
  · show zfar ((zI x).toInt - (zI y).toInt) = _
    rw [ex, ey, zfar_bd]; rfl
  · show zfar ((zI x).toInt * (zI y).toInt) = _
    rw [ex, ey, zfar_bd]; rfl
  · show (if zI y = 0 then zBrk else zI x / zI y) = zrI (if y = 0 then none else some (x.tdiv y))
    rw [zI_div hx hy]
    by_cases c : y = 0
    · rw [if_pos c, if_pos ((zI_0 hy).mpr c)]; rfl
    · rw [if_neg c, if_neg (fun h => c ((zI_0 hy).mp h))]; rfl
  · show (if zI y = 0 then zBrk else zI x - zI x / zI y * zI y) = zrI (if y = 0 then none else some (x.tmod y))
    rw [zI_rem hx hy]
    by_cases c : y = 0
    · rw [if_pos c, if_pos ((zI_0 hy).mpr c)]; rfl
    · rw [if_neg c, if_neg (fun h => c ((zI_0 hy).mp h))]; rfl
  · show (if zI x < zI y then (1 : Int32) else 0) = zrI (some (if x < y then 1 else 0))
    rw [zif01]
    by_cases c : x < y
    · rw [if_pos c, if_pos ((zI_ltI hx hy).mpr c)]
    · rw [if_neg c, if_neg (fun h => c ((zI_ltI hx hy).mp h))]
  · show (if zI y < zI x then (1 : Int32) else 0) = zrI (some (if y < x then 1 else 0))
    rw [zif01]
    by_cases c : y < x
    · rw [if_pos c, if_pos ((zI_ltI hy hx).mpr c)]
    · rw [if_neg c, if_neg (fun h => c ((zI_ltI hy hx).mp h))]
  · show (if zI x = zI y then (1 : Int32) else 0) = zrI (some (if x = y then 1 else 0))
    rw [zif01]
    by_cases c : x = y
    · rw [if_pos c, if_pos ((zI_eqI hx hy).mpr c)]
    · rw [if_neg c, if_neg (fun h => c ((zI_eqI hx hy).mp h))]
theorem zopc_r {t : Nat} (ht : zopt t) : 6 ≤ zopc t ∧ zopc t < 14 := by rcases ht with rfl | rfl | rfl | rfl | rfl | rfl | rfl | rfl <;> decide
section ZEX
variable {cd : Nat → Nat × Nat} {N NW : Nat} {g : Nat → Int32} {f p : Nat} {st : List Int32}
theorem zex_num {v : Nat} (hc : cd p = (1, v)) (hp : p < N) (hs : st.length < 32) : zex cd N NW g (f + 1) p st = zex cd N NW g f (p + 1) (nI v :: st) := by
  unfold zex
  rw [hc, if_neg (by omega), if_pos (Or.inl rfl), if_neg (by simp only [not_or]; exact ⟨by omega, fun h => absurd h.1 (by decide)⟩), if_pos rfl]
  cases f <;> rfl
theorem zex_wd {v : Nat} (hc : cd p = (2, v)) (hp : p < N) (hv : v < NW) (hs : st.length < 32) : zex cd N NW g (f + 1) p st = zex cd N NW g f (p + 1) (g v :: st) := by
  unfold zex
  rw [hc, if_neg (by omega), if_pos (Or.inr rfl), if_neg (by simp only [not_or]; exact ⟨by omega, fun h => by have := h.2; omega⟩), if_neg (fun h => absurd (show (2 : Nat) = 1 from h) (by decide))]
  cases f <;> rfl
theorem zex_nt {v a : Int32} {k : Nat} (hc : cd p = (3, k)) (hp : p < N) : zex cd N NW g (f + 1) p (v :: st) = zex cd N NW g f (p + 1) ((1 - v) :: st) := by
  unfold zex
  rw [hc, if_neg (by omega), if_neg (by dsimp only; omega)]
  dsimp only
  rw [if_neg (by decide), if_pos rfl]
  cases f <;> rfl
theorem zex_jmp {v : Int32} {o k : Nat} (ho : o = 4 ∨ o = 5) (hc : cd p = (o, k)) (hp : p < N) : zex cd N NW g (f + 1) p (v :: st) = if v = (if o = 4 then 1 else 0) then zex cd N NW g f k (v :: st) else zex cd N NW g f (p + 1) st := by
  conv => lhs; unfold zex
  rw [hc, if_neg (by omega), if_neg (by dsimp only; omega)]
  dsimp only
  rw [if_neg (by omega), if_neg (by omega), if_pos ho]
theorem zex_two {u v : Int32} {o k : Nat} (ho : 6 ≤ o) (hc : cd p = (o, k)) (hp : p < N) : zex cd N NW g (f + 1) p (v :: u :: st) = if zo2 o u v = zBrk then none else zex cd N NW g f (p + 1) (zo2 o u v :: st) := by
  conv => lhs; unfold zex
  rw [hc, if_neg (by omega), if_neg (by dsimp only; omega)]
  dsimp only
  rw [if_neg (by omega), if_neg (by omega), if_neg (by omega)]
theorem zex_stop {v : Int32} {k : Nat} (hc : cd p = (0, k)) (hp : p < N) : zex cd N NW g (f + 1) p (v :: st) = some v := by
  unfold zex
  rw [hc, if_neg (by omega), if_neg (by dsimp only; omega)]
  dsimp only
  rw [if_pos rfl]
theorem zex_0 : zex cd N NW g 0 p st = none := by unfold zex; rfl
end ZEX
theorem zex_mono {cd : Nat → Nat × Nat} {N NW : Nat} {g : Nat → Int32} : ∀ {f f' : Nat}, f ≤ f' → ∀ {p : Nat} {st : List Int32}, zex cd N NW g f p st = none ∨ zex cd N NW g f p st = zex cd N NW g f' p st
  | 0, _, _, _, _ => Or.inl zex_0
  | f + 1, 0, h, _, _ => absurd h (by omega)
  | f + 1, f' + 1, h, p, st => by
    have ih : ∀ {p : Nat} {st : List Int32}, zex cd N NW g f p st = none ∨ zex cd N NW g f p st = zex cd N NW g f' p st := fun {p st} => zex_mono (by omega)
    unfold zex
    split
    · exact Or.inl rfl
    · split
      · split
        · exact Or.inl rfl
        · exact ih
      · cases st with
        | nil => exact Or.inl rfl
        | cons v r =>
          dsimp only
          split
          · exact Or.inr rfl
          · split
            · exact ih
            · split
              · split
                · split
                  · exact ih
                  · exact ih
                · split
                  · exact ih
                  · exact ih
              · cases r with
                | nil => exact Or.inl rfl
                | cons u r' =>
                  dsimp only
                  split
                  · exact Or.inl rfl
                  · exact ih
/-- which words there are: of a law (false), of orders (true) -/
def zVw (o : Bool) (c k : Nat) : Prop := (o = false ∧ 8 ≤ c ∧ c ≤ 15 ∧ k = 0) ∨ (o = true ∧ ((15 ≤ c ∧ c ≤ 19 ∧ k = 0) ∨ ((c = 20 ∨ c = 21) ∧ k ≤ 6)))
def zwi (o : Bool) (c k : Nat) : Nat := if o = true then (if c = 20 then 5 + k else if c = 21 then 12 + k else c - 15) else (if c = 14 then 7 else if c = 15 then 6 else c - 8)
def zNW (o : Bool) : Nat := if o = true then 19 else 8
def zEv (o : Bool) (W : Nat → Nat → Int) (g : Nat → Int32) : Prop := ∀ c k, zVw o c k → W c k = (g (zwi o c k)).toInt ∧ zv9 (W c k)
theorem zwi_lt {o : Bool} {c k : Nat} (h : zVw o c k) : zwi o c k < zNW o := by
  unfold zwi zNW
  rcases h with ⟨rfl, h1, h2, h3⟩ | ⟨rfl, h | ⟨h1 | h1, h2⟩⟩
  · simp only [Bool.false_eq_true, if_false]
    split
    · omega
    · split <;> omega
  · simp only [if_true]
    rw [if_neg (by omega), if_neg (by omega)]; omega
  · simp only [if_true]
    rw [if_pos h1]; omega
  · simp only [if_true]
    rw [if_neg (by omega), if_pos h1]; omega
/-- the machine goes from i to j and leaves r above the pile -/
def zGo (cd : Nat → Nat × Nat) (N NW : Nat) (g : Nat → Int32) (st : List Int32) (i j : Nat) (r : Option Int) : Prop := match r with
  | none => ∀ f, zex cd N NW g f i st = none
  | some x => ∃ c, c ≤ j - i ∧ ∀ f, zex cd N NW g (f + c) i st = zex cd N NW g f j (zI x :: st)
/-- from i to j stands code for e that needs h of the pile; it may stand in longer code -/
def zCC (o : Bool) (cd : Nat → Nat × Nat) (e : zX) (i j h : Nat) : Prop := i < j ∧ ∀ (cd' : Nat → Nat × Nat) (N : Nat) (W : Nat → Nat → Int) (g : Nat → Int32), (∀ k, i ≤ k → k < j → cd' k = cd k) → j ≤ N → zEv o W g → zBe W e ∧ ∀ st : List Int32, st.length + h ≤ 32 → zGo cd' N (zNW o) g st i j (e W)
def zC1 (o : Bool) (e : zX) : Prop := ∀ W g, zEv o W g → z01 W e
theorem zCC_ext {o : Bool} {cd cd' : Nat → Nat × Nat} {e : zX} {i j h h' : Nat} (H : zCC o cd e i j h) (hh : h ≤ h') (hc : ∀ k, i ≤ k → k < j → cd' k = cd k) : zCC o cd' e i j h' := by
  refine ⟨H.1, fun cd2 N W g h1 h2 h3 => ?_⟩
  obtain ⟨b, s⟩ := H.2 cd2 N W g (fun k k1 k2 => (h1 k k1 k2).trans (hc k k1 k2)) h2 h3
  exact ⟨b, fun st hst => s st (by omega)⟩
theorem zCC_num {o : Bool} {cd : Nat → Nat × Nat} {i v : Nat} (hv : v ≤ 1000) (hc : cd i = (1, v)) : zCC o cd (zx_num v) i (i + 1) 1 := by
  refine ⟨by omega, fun cd' N W g h1 h2 h3 => ⟨?_, fun st hst => ?_⟩⟩
  · intro x hx
    have : (v : Int) = x := Option.some.inj hx
    omega
  · show ∃ c, _
    refine ⟨1, by omega, fun f => ?_⟩
    rw [zex_num ((h1 i (by omega) (by omega)).trans hc) (by omega) (by omega), zI_n]
theorem zCC_wd {o : Bool} {cd : Nat → Nat × Nat} {i c k : Nat} (hv : zVw o c k) (hc : cd i = (2, zwi o c k)) : zCC o cd (zx_wd c k) i (i + 1) 1 := by
  refine ⟨by omega, fun cd' N W g h1 h2 h3 => ⟨?_, fun st hst => ?_⟩⟩
  · intro x hx
    have : W c k = x := Option.some.inj hx
    rw [← this]
    exact (h3 c k hv).2
  · show ∃ c, _
    refine ⟨1, by omega, fun f => ?_⟩
    rw [zex_wd ((h1 i (by omega) (by omega)).trans hc) (by omega) (zwi_lt hv) (by omega)]
    show _ = zex _ _ _ _ _ _ (zI (W c k) :: st)
    rw [(h3 c k hv).1, zI_of]
theorem zCC_op {o : Bool} {cd : Nat → Nat × Nat} {a b : zX} {i j k h1 h2 h t x : Nat} (ht : zopt t) (ha : zCC o cd a i j h1) (hb : zCC o cd b j k h2) (hc : cd k = (zopc t, x)) (e1 : h1 ≤ h) (e2 : h2 + 1 ≤ h) : zCC o cd (zx_op t a b) i (k + 1) h := by
  have ij := ha.1
  have jk := hb.1
  refine ⟨by omega, fun cd' N W g k1 k2 k3 => ?_⟩
  obtain ⟨ba, sa⟩ := ha.2 cd' N W g (fun q q1 q2 => k1 q q1 (by omega)) (by omega) k3
  obtain ⟨bb, sb⟩ := hb.2 cd' N W g (fun q q1 q2 => k1 q (by omega) (by omega)) (by omega) k3
  refine ⟨zBe_op ba, fun st hst => ?_⟩
  have ga := sa st (by omega)
  show zGo _ _ _ _ _ _ _ ((a W).bind fun x => (b W).bind fun y => zop t x y)
  cases ea : a W with
  | none => rw [ea] at ga; exact ga
  | some xa =>
    rw [ea] at ga
    obtain ⟨ca, ca1, ca2⟩ := ga
    have va := ba xa ea
    have gb := sb (zI xa :: st) (by rw [List.length_cons]; omega)
    cases eb : b W with
    | none =>
      rw [eb] at gb
      show ∀ f, zex cd' N (zNW o) g f i st = none
      intro f
      by_cases hf : ca ≤ f
      · rw [show f = (f - ca) + ca by omega, ca2]
        exact gb _
      · have := zex_mono (cd := cd') (N := N) (NW := zNW o) (g := g) (f := f) (f' := 0 + ca) (by omega) (p := i) (st := st)
        rcases this with h | h
        · exact h
        · rw [h, ca2]; exact gb _
    | some xb =>
      rw [eb] at gb
      obtain ⟨cb, cb1, cb2⟩ := gb
      have vb := bb xb eb
      have step : ∀ f, zex cd' N (zNW o) g (f + 1 + cb + ca) i st = if zo2 (zopc t) (zI xa) (zI xb) = zBrk then none else zex cd' N (zNW o) g f (k + 1) (zo2 (zopc t) (zI xa) (zI xb) :: st) := by
        intro f
        rw [ca2, cb2, zex_two (zopc_r ht).1 ((k1 k (by omega) (by omega)).trans hc) (by omega)]
      rw [zo2_op ht va vb] at step
      show zGo _ _ _ _ _ _ _ (zop t xa xb)
      cases ez : zop t xa xb with
      | none =>
        rw [ez] at step
        show ∀ f, zex cd' N (zNW o) g f i st = none
        intro f
        have s0 : ∀ f, zex cd' N (zNW o) g (f + 1 + cb + ca) i st = none := fun f => (step f).trans (if_pos rfl)
        by_cases hf : 1 + cb + ca ≤ f
        · have := s0 (f - 1 - cb - ca)
          rwa [show f - 1 - cb - ca + 1 + cb + ca = f by omega] at this
        · rcases zex_mono (cd := cd') (N := N) (NW := zNW o) (g := g) (f := f) (f' := 0 + 1 + cb + ca) (by omega) (p := i) (st := st) with h | h
          · exact h
          · rw [h]; exact s0 0
      | some z =>
        rw [ez] at step
        have vz := zop_b va ez
        refine ⟨1 + cb + ca, by omega, fun f => ?_⟩
        have := step f
        rw [show f + (1 + cb + ca) = f + 1 + cb + ca by omega, this]
        exact if_neg (zI_ne_brk vz)
theorem zCC_nt {o : Bool} {cd : Nat → Nat × Nat} {a : zX} {i j h x : Nat} (ha : zCC o cd a i j h) (h1 : zC1 o a) (hc : cd j = (3, x)) : zCC o cd (zx_nt a) i (j + 1) h := by
  have ij := ha.1
  refine ⟨by omega, fun cd' N W g k1 k2 k3 => ?_⟩
  obtain ⟨ba, sa⟩ := ha.2 cd' N W g (fun q q1 q2 => k1 q q1 (by omega)) (by omega) k3
  refine ⟨?_, fun st hst => ?_⟩
  · intro x hx
    unfold zx_nt at hx
    cases ea : a W with
    | none => rw [ea] at hx; cases hx
    | some xa =>
      rw [ea] at hx
      have : 1 - xa = x := Option.some.inj hx
      have := h1 W g k3 xa ea
      omega
  · have ga := sa st (by omega)
    show zGo _ _ _ _ _ _ _ ((a W).map fun x => 1 - x)
    cases ea : a W with
    | none => rw [ea] at ga; exact ga
    | some xa =>
      rw [ea] at ga
      obtain ⟨ca, ca1, ca2⟩ := ga
      refine ⟨1 + ca, by omega, fun f => ?_⟩
      rw [show f + (1 + ca) = f + 1 + ca by omega, ca2, zex_nt (a := 0) ((k1 j (by omega) (by omega)).trans hc) (by omega)]
      rw [show (1 : Int32) - zI xa = zI (1 - xa) from (Int32.ofInt_sub 1 xa).symm]
theorem zCC_jp {cd : Nat → Nat × Nat} {o : Bool} {a b e : zX} {i j k h1 h2 h w : Nat} {s : Int} (hw : (w = 4 ∧ s = 1) ∨ (w = 5 ∧ s = 0)) (he : ∀ W, e W = (a W).bind fun x => if x = s then some s else b W) (ha : zCC o cd a i j h1) (hc : cd j = (w, k)) (hb : zCC o cd b (j + 1) k h2) (e1 : h1 ≤ h) (e2 : h2 ≤ h) : zCC o cd e i k h := by
  have ij := ha.1
  have jk := hb.1
  have hs : zv9 s := by unfold zv9; omega
  have hsI : (if w = 4 then (1 : Int32) else 0) = zI s := by
    rcases hw with ⟨rfl, rfl⟩ | ⟨rfl, rfl⟩ <;> rfl
  refine ⟨by omega, fun cd' N W g k1 k2 k3 => ?_⟩
  obtain ⟨ba, sa⟩ := ha.2 cd' N W g (fun q q1 q2 => k1 q q1 (by omega)) (by omega) k3
  obtain ⟨bb, sb⟩ := hb.2 cd' N W g (fun q q1 q2 => k1 q (by omega) (by omega)) (by omega) k3
  have hcj := (k1 j (by omega) (by omega)).trans hc
  refine ⟨?_, fun st hst => ?_⟩
  · intro x hx
    rw [he] at hx
    cases ea : a W with
    | none => rw [ea] at hx; cases hx
    | some xa =>
      rw [ea] at hx
      have hx : (if xa = s then some s else b W) = some x := hx
      by_cases c : xa = s
      · rw [if_pos c] at hx
        have := Option.some.inj hx
        unfold zv9 at hs
        omega
      · rw [if_neg c] at hx
        exact bb x hx
  · have ga := sa st (by omega)
    rw [he]
    cases ea : a W with
    | none => rw [ea] at ga; exact ga
    | some xa =>
      rw [ea] at ga
      obtain ⟨ca, ca1, ca2⟩ := ga
      have va := ba xa ea
      show zGo _ _ _ _ _ _ _ (if xa = s then some s else b W)
      have step : ∀ f, zex cd' N (zNW o) g (f + 1 + ca) i st = if zI xa = zI s then zex cd' N (zNW o) g f k (zI xa :: st) else zex cd' N (zNW o) g f (j + 1) st := by
        intro f
        rw [ca2, zex_jmp (by omega) hcj (by omega), hsI]
      by_cases c : xa = s
      · rw [if_pos c]
        refine ⟨1 + ca, by omega, fun f => ?_⟩
        rw [show f + (1 + ca) = f + 1 + ca by omega, step, if_pos (by rw [c]), c]
      · rw [if_neg c]
        have cI : ¬ zI xa = zI s := fun h => c ((zI_eqI va hs).mp h)
        have gb := sb st (by omega)
        cases eb : b W with
        | none =>
          rw [eb] at gb
          show ∀ f, zex cd' N (zNW o) g f i st = none
          intro f
          have s0 : ∀ f, zex cd' N (zNW o) g (f + 1 + ca) i st = none := fun f => ((step f).trans (if_neg cI)).trans (gb f)
          by_cases hf : 1 + ca ≤ f
          · have := s0 (f - 1 - ca)
            rwa [show f - 1 - ca + 1 + ca = f by omega] at this
          · rcases zex_mono (cd := cd') (N := N) (NW := zNW o) (g := g) (f := f) (f' := 0 + 1 + ca) (by omega) (p := i) (st := st) with h | h
            · exact h
            · rw [h]; exact s0 0
        | some xb =>
          rw [eb] at gb
          obtain ⟨cb, cb1, cb2⟩ := gb
          refine ⟨cb + 1 + ca, by omega, fun f => ?_⟩
          rw [show f + (cb + 1 + ca) = f + cb + 1 + ca by omega, step, if_neg cI, cb2]
theorem zCC_or {cd : Nat → Nat × Nat} {o : Bool} {a b : zX} {i j k h1 h2 h t : Nat} (ha : zCC o cd a i j h1) (hc : cd j = (4, k)) (hb : zCC o cd b (j + 1) k h2) (e1 : h1 ≤ h) (e2 : h2 ≤ h) : zCC o cd (zx_or t a b) i k h := zCC_jp (Or.inl ⟨rfl, rfl⟩) (fun _ => rfl) ha hc hb e1 e2
theorem zCC_an {cd : Nat → Nat × Nat} {o : Bool} {a b : zX} {i j k h1 h2 h t : Nat} (ha : zCC o cd a i j h1) (hc : cd j = (5, k)) (hb : zCC o cd b (j + 1) k h2) (e1 : h1 ≤ h) (e2 : h2 ≤ h) : zCC o cd (zx_an t a b) i k h := zCC_jp (Or.inr ⟨rfl, rfl⟩) (fun _ => rfl) ha hc hb e1 e2
/-- code for e starts there and ends with a stop -/
def zHas (o : Bool) (cd : Nat → Nat × Nat) (N : Nat) (s : Int32) (e : zX) : Prop := ∃ i j h x, s = nI i ∧ zCC o cd e i j h ∧ h ≤ 32 ∧ j < N ∧ cd j = (0, x)
theorem zHas_v {o : Bool} {cd : Nat → Nat × Nat} {N : Nat} {s : Int32} {e : zX} {W : Nat → Nat → Int} {g : Nat → Int32} (hN : N ≤ 800) (H : zHas o cd N s e) (hE : zEv o W g) : zBe W e ∧ ∃ i, s = nI i ∧ i < N ∧ zrs2 (zex cd N (zNW o) g N i []) = zrI (e W) := by
  obtain ⟨i, j, h, x, h1, h2, h3, h4, h5⟩ := H
  have ij := h2.1
  obtain ⟨b, s⟩ := h2.2 cd N W g (fun _ _ _ => rfl) (by omega) hE
  refine ⟨b, i, h1, by omega, ?_⟩
  have := s [] (by show 0 + h ≤ 32; omega)
  cases e1 : e W with
  | none =>
    rw [e1] at this
    rw [this]; rfl
  | some v =>
    rw [e1] at this
    obtain ⟨c, c1, c2⟩ := this
    have g1 := c2 (N - c)
    rw [show N - c + c = N by omega, show N - c = (N - c - 1) + 1 by omega, zex_stop h5 h4] at g1
    rw [g1]; rfl
theorem nI_ne_m1 {i : Nat} (h : i < 2147483648) : nI i ≠ -1 := by
  intro e
  have := congrArg Int32.toInt e
  rw [nI_toInt h, show (-1 : Int32).toInt = -1 by decide] at this
  omega
section ZC12
variable {l : Launch} {G : zq_G} {D n : Nat} {κ : zl_S} {ρ : Nat → zq_E} {post : Option Value → Nat → (Nat → zq_E) → Prop}
/-- a text in its cells: how many clauses, their row, the code -/
def zTxc (ρ : Nat → zq_E) (tx cl cp sz : Nat) : Prop := 70 ≤ tx ∧ ρ tx = .inr (10, [.ref cl, .int (nI sz), .ref cp])
theorem zc_reckon {tx wa cl cp sz N : Nat} {o : Bool} {s wo : Int32} {cd : Nat → Nat × Nat} {W : Nat → Nat → Int} (hD : 2 ≤ D) (hT : zTxc ρ tx cl cp sz) (hcp : zCp ρ cp N cd) (ha : zl_isA wa = true) (hw : wa ≠ 54) (hl : zl_len wa = zNW o) (hE : zEv o W (κ.2.1 wa)) (r : Option Int) (R : Int32) (hs : (s = -1 ∧ R = wo) ∨ ∃ e, zHas o cd N s e ∧ e W = r ∧ R = zrI r)
    (hp : ∀ a, post (some (.int R)) n (zl_h (zl_sA κ 54 a) ρ)) : zq_Runs l G D 0 0 yX9_reckon [.ref 53, .ref tx, .int s, .ref wa, .int wo] n (zl_h κ ρ) post := by
  have hx : zl_h κ ρ tx = .inr (10, [.ref cl, .int (nI sz), .ref cp]) := (zl_hi κ ρ (Or.inr hT.1)).trans hT.2
  have hN : zNW o < 1000 := by unfold zNW; split <;> omega
  refine zq_enter (cc := cX9_reckon) (nL := 12) (ret := (some .int)) cw_X9_reckon (by decide) rfl (Nat.le_of_ble_eq_true rfl) ?_
  rcases hs with ⟨rfl, rfl⟩ | ⟨e, h1, h2, h3⟩
  · have hp := hp (κ.2.1 54)
    rw [zlA_0] at hp
    refine at_iload_n dX9_reckon_0 rfl ?_
    refine at_iconst dX9_reckon_1 (v := -1) rfl ?_
    refine at_icmp_eq (tgt := 12) dX9_reckon_2 (by decide) (fun c2 => ?_) (fun c2 => ?_)
    · refine at_iload dX9_reckon_12 rfl ?_
      refine at_iret dX9_reckon_14 rfl (by omega) (by omega) ?_
      exact hp
    · exact absurd rfl c2
  · obtain ⟨b, i, rfl, i1, i2⟩ := zHas_v (by obtain ⟨code, q1, q2, q3, q4⟩ := hcp; exact q3) h1 hE
    have hn := zc_reckon_loop (l := l) (G := G) (D := D) (n := n) (κ := κ) (tx := tx) (s0 := nI i) (wo := wo) (by omega) hcp ha hw hl hN R hp N 0 i [] (κ.2.1 54) (by omega) (by obtain ⟨code, q1, q2, q3, q4⟩ := hcp; omega) ⟨by decide, fun j hj => absurd hj (Nat.not_lt_zero _)⟩ (by rw [i2, h2]; exact h3.symm)
    rw [zlA_0] at hn
    have i3 : nI i ≠ -1 := nI_ne_m1 (by obtain ⟨code, q1, q2, q3, q4⟩ := hcp; omega)
    refine at_iload_n dX9_reckon_0 rfl ?_
    refine at_iconst dX9_reckon_1 (v := -1) rfl ?_
    refine at_icmp_eq (tgt := 12) dX9_reckon_2 (by decide) (fun c2 => ?_) (fun c2 => ?_)
    · exact absurd c2 i3
    · refine at_aload_n dX9_reckon_5 rfl ?_
      refine at_get dX9_reckon_6 fl_X9_15 hx rfl ?_
      refine at_ifnonnull (tgt := 15) dX9_reckon_9 (by decide) ?_
      refine at_aload_n dX9_reckon_15 rfl ?_
      refine at_get dX9_reckon_16 fl_X9_15 hx rfl ?_
      refine at_astore dX9_reckon_19 (by decide) ?_
      refine at_iconst dX9_reckon_21 (v := -1) rfl ?_
      refine at_istore dX9_reckon_22 (by decide) ?_
      refine at_iload_n dX9_reckon_24 rfl ?_
      refine at_istore dX9_reckon_25 (by decide) ?_
      refine at_iconst dX9_reckon_27 (v := nI 0) (by decide) ?_
      refine at_istore dX9_reckon_28 (by decide) ?_
      exact hn
end ZC12

