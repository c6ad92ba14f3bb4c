/-! ===== the abstract layer: one pool of cells, by numbers; methods by what they come to ===== -/
/-- a cell: an array (tag of its class, length, contents), or an object (number of its class, fields); a reference is the cell's number -/
abbrev zq_E : Type := (Nat × vp_A) ⊕ (Nat × List Value)
/-- the classes' numbers and slots, the array classes by tag, the addresses of the eight old cells, where the pool begins -/
abbrev zq_G : Type := va_G × (Nat → ClassId) × (Nat → Nat) × Nat
def zq_ad (G : zq_G) (k : Nat) : Nat := if k < 8 then G.2.2.1 k else G.2.2.2 + (k - 8)
def zq_v (G : zq_G) : Value → Value
  | .ref a => .ref (zq_ad G a)
  | v => v
def zq_x (G : zq_G) (x : (Nat → Int32) ⊕ (Nat → Int64) ⊕ (Nat → UInt32) ⊕ (Nat → UInt64) ⊕ (Nat → Option Nat)) : (Nat → Int32) ⊕ (Nat → Int64) ⊕ (Nat → UInt32) ⊕ (Nat → UInt64) ⊕ (Nat → Option Nat) :=
  match x with
  | .inr (.inr (.inr (.inr g))) => .inr (.inr (.inr (.inr (fun i => (g i).map (zq_ad G)))))
  | x => x
def zq_e (G : zq_G) : zq_E → va_E
  | .inl (t, n, x) => .inl (G.2.1 t, n, zq_x G x)
  | .inr (ci, fs) => .inr (ci, fs.map (zq_v G))
def zq_W (G : zq_G) (n : Nat) (f : Nat → zq_E) : va_W := (List.range n).map (fun j => (G.2.2.2 + j, zq_e G (f (j + 8))))
theorem zq_cat (G : zq_G) (v : Value) : (zq_v G v).category = v.category := by cases v <;> rfl
theorem zq_W_get {G : zq_G} {n : Nat} {f : Nat → zq_E} {j : Nat} (h : j < n) : (zq_W G n f)[j]? = some (G.2.2.2 + j, zq_e G (f (j + 8))) := by
  simp [zq_W, List.getElem?_map, List.getElem?_range h]
theorem zq_W_len {G : zq_G} {n : Nat} {f : Nat → zq_E} : (zq_W G n f).length = n := by simp [zq_W]
theorem zq_W_inv {G : zq_G} {n : Nat} {f : Nat → zq_E} {j : Nat} {q : Nat × va_E} (h : (zq_W G n f)[j]? = some q) : j < n ∧ q = (G.2.2.2 + j, zq_e G (f (j + 8))) := by
  have hl : j < n := by
    have := (List.getElem?_eq_some_iff.mp h).1
    rwa [zq_W_len] at this
  rw [zq_W_get hl] at h
  exact ⟨hl, (Option.some.inj h).symm⟩
theorem zq_W_D {G : zq_G} {n : Nat} {f : Nat → zq_E} : va_D (fun q => G.2.2.2 ≤ q) (zq_W G n f) := by
  refine ⟨fun i j p q hp hq hpq => ?_, fun k q hq => ?_⟩
  · obtain ⟨-, rfl⟩ := zq_W_inv hp
    obtain ⟨-, rfl⟩ := zq_W_inv hq
    dsimp only at hpq
    omega
  · obtain ⟨-, rfl⟩ := zq_W_inv hq
    exact Nat.le_add_right _ _
theorem zq_W_set {G : zq_G} {n : Nat} {f : Nat → zq_E} {j : Nat} (e : zq_E) : (zq_W G n f).set j (G.2.2.2 + j, zq_e G e) = zq_W G n (va_up f (j + 8) e) := by
  apply List.ext_getElem?
  intro i
  by_cases hi : i < n
  · rw [zq_W_get hi]
    by_cases hij : i = j
    · subst hij
      rw [List.getElem?_set_self (by rw [zq_W_len]; exact hi), va_up_self]
    · rw [List.getElem?_set_ne (Ne.symm hij), zq_W_get hi, va_up_ne _ _ (by omega)]
  · rw [List.getElem?_eq_none (by rw [List.length_set, zq_W_len]; omega), List.getElem?_eq_none (by rw [zq_W_len]; omega)]
theorem zq_W_push {G : zq_G} {n : Nat} {f : Nat → zq_E} (e : zq_E) : zq_W G n f ++ [(G.2.2.2 + n, zq_e G e)] = zq_W G (n + 1) (va_up f (n + 8) e) := by
  apply List.ext_getElem?
  intro i
  by_cases hi : i < n
  · rw [List.getElem?_append_left (by rw [zq_W_len]; exact hi), zq_W_get hi, zq_W_get (by omega), va_up_ne _ _ (by omega)]
  · rw [List.getElem?_append_right (by rw [zq_W_len]; omega), zq_W_len]
    by_cases hn : i = n
    · subst hn
      rw [zq_W_get (by omega), va_up_self]
      simp
    · rw [List.getElem?_eq_none (by simp; omega), List.getElem?_eq_none (by rw [zq_W_len]; omega)]
/-- the classes, by number (the seventh, of which nothing is made, stands for itself by another) -/
abbrev zq_cls : List vw_C := [(RX0, TX0, 5), (RX1, TX1, 6), (RX2, TX2, 4), (RX3, TX3, 2), (RX4, TX4, 2), (RX5, TX5, 2), (RX4, TX4, 2), (RX7, TX7, 14), (RX8, TX8, 9), (RX9, TX9, 1), (RX10, TX10, 3), (RX11, TX11, 19), (RX12, TX12, 55)]
abbrev zq_tys (G : zq_G) : List (ClassId × FieldType) := [(G.2.1 0, .int), (G.2.1 1, .byte), (G.2.1 2, .boolean), (G.2.1 3, .long), (G.2.1 4, .object RX1), (G.2.1 5, .object RX7), (G.2.1 6, .object RX10)]
/-- the words that every method has -/
def zq_ws : List Cond := lw_tbl.filter goodWord
theorem zq_in {w : Cond} (h : w ∈ lw_tbl) (hg : goodWord w = true) : w ∈ zq_ws := List.mem_filter.mpr ⟨h, hg⟩
theorem zq_ws_good : ∀ w ∈ zq_ws, (w.onTables && w.keeps) = true ∨ ∃ ty, w = .arrayClass ty := fun w h => good_of_word (List.mem_filter.mp h).2
set_option maxRecDepth 20000 in
theorem zq_c0 : ∀ w ∈ u_ws RX0 TX0 5, w ∈ zq_ws := by decide +kernel
set_option maxRecDepth 20000 in
theorem zq_c1 : ∀ w ∈ u_ws RX1 TX1 6, w ∈ zq_ws := by decide +kernel
set_option maxRecDepth 20000 in
theorem zq_c2 : ∀ w ∈ u_ws RX2 TX2 4, w ∈ zq_ws := by decide +kernel
set_option maxRecDepth 20000 in
theorem zq_c3 : ∀ w ∈ u_ws RX3 TX3 2, w ∈ zq_ws := by decide +kernel
set_option maxRecDepth 20000 in
theorem zq_c4 : ∀ w ∈ u_ws RX4 TX4 2, w ∈ zq_ws := by decide +kernel
set_option maxRecDepth 20000 in
theorem zq_c5 : ∀ w ∈ u_ws RX5 TX5 2, w ∈ zq_ws := by decide +kernel
set_option maxRecDepth 20000 in
theorem zq_c7 : ∀ w ∈ u_ws RX7 TX7 14, w ∈ zq_ws := by decide +kernel
set_option maxRecDepth 20000 in
theorem zq_c8 : ∀ w ∈ u_ws RX8 TX8 9, w ∈ zq_ws := by decide +kernel
set_option maxRecDepth 20000 in
theorem zq_c9 : ∀ w ∈ u_ws RX9 TX9 1, w ∈ zq_ws := by decide +kernel
set_option maxRecDepth 20000 in
theorem zq_c10 : ∀ w ∈ u_ws RX10 TX10 3, w ∈ zq_ws := by decide +kernel
set_option maxRecDepth 20000 in
theorem zq_c11 : ∀ w ∈ u_ws RX11 TX11 19, w ∈ zq_ws := by decide +kernel
set_option maxRecDepth 20000 in
theorem zq_c12 : ∀ w ∈ u_ws RX12 TX12 55, w ∈ zq_ws := by decide +kernel
def zq_ty (ci : Nat) : Nat → FieldType := match ci with
  | 0 => tyX0
  | 1 => tyX1
  | 2 => tyX2
  | 3 => tyX3
  | 4 => tyX4
  | 5 => tyX5
  | 6 => tyX4
  | 7 => tyX7
  | 8 => tyX8
  | 9 => tyX9
  | 10 => tyX10
  | 11 => tyX11
  | _ => tyX12
theorem zq_cl {ci : Nat} {C : String} {T : u_T} {N : Nat} (h : zq_cls[ci]? = some (C, T, N)) : (∀ w ∈ u_ws C T N, w ∈ zq_ws) ∧ (∀ k, k < N → parseFieldDescriptor (T k).2.2.1 = some (zq_ty ci k)) ∧ ∀ a, a < N → ∀ b, b < N → a ≠ b → (T a).2.1 ≠ (T b).2.1 := by
  match ci, h with
  | 0, h => cases h; exact ⟨zq_c0, tyX0_ok, nmX0⟩
  | 1, h => cases h; exact ⟨zq_c1, tyX1_ok, nmX1⟩
  | 2, h => cases h; exact ⟨zq_c2, tyX2_ok, nmX2⟩
  | 3, h => cases h; exact ⟨zq_c3, tyX3_ok, nmX3⟩
  | 4, h => cases h; exact ⟨zq_c4, tyX4_ok, nmX4⟩
  | 5, h => cases h; exact ⟨zq_c5, tyX5_ok, nmX5⟩
  | 6, h => cases h; exact ⟨zq_c4, tyX4_ok, nmX4⟩
  | 7, h => cases h; exact ⟨zq_c7, tyX7_ok, nmX7⟩
  | 8, h => cases h; exact ⟨zq_c8, tyX8_ok, nmX8⟩
  | 9, h => cases h; exact ⟨zq_c9, tyX9_ok, nmX9⟩
  | 10, h => cases h; exact ⟨zq_c10, tyX10_ok, nmX10⟩
  | 11, h => cases h; exact ⟨zq_c11, tyX11_ok, nmX11⟩
  | 12, h => cases h; exact ⟨zq_c12, tyX12_ok, nmX12⟩
  | n + 13, h => simp at h
/-- what the four static arrays hold -/
def zq_tens (j : Nat) : Int32 := match j with
  | 0 => 1000
  | 1 => 100
  | 2 => 10
  | _ => 1
def zq_high (j : Nat) : Int32 := match j with
  | 0 => 999
  | 1 => 10
  | _ => 9
def zq_rest (j : Nat) : Int32 := match j with
  | 0 => 24
  | 1 => 6
  | 2 => 2
  | _ => 1
def zq_span (j : Nat) : Int32 := match j with
  | 0 => 156
  | 1 => 31
  | 2 => 6
  | _ => 1
/-- the text of all words, by its bytes -/
def zq_list : String := "person place length at letter new day mood done latest breaks swaps who name strokes steps bars stroke swap decree pass to times if or and not "
def zq_bytes : List Int32 := zq_list.toList.map (fun c => Int32.ofNat c.toNat)
abbrev zq_dead : zq_E := .inl (99, 0, .inl (fun _ => 0))
/-- the old cells, by number: 1 .. 4 the static arrays; of the text only the rows that ask for it speak -/
def zq_o8 (k : Nat) : zq_E := match k with
  | 1 => .inl (7, 4, .inl zq_tens)
  | 2 => .inl (7, 3, .inl zq_high)
  | 3 => .inl (7, 5, .inl zq_rest)
  | 4 => .inl (7, 4, .inl zq_span)
  | _ => zq_dead
/-- a pool of n cells: the old ones as they are, nothing behind the last -/
def zq_ok (n : Nat) (f : Nat → zq_E) : Prop := (∀ k, k < 8 → f k = zq_o8 k) ∧ ∀ j, n + 8 ≤ j → f j = zq_dead
abbrev zq_A (G : zq_G) : Nat → Prop := fun q => G.2.2.2 ≤ q
/-- links between nest mates, which aren't among the words that stay by themselves -/
def zq_mn : List (String × Nat × MethodName) := [("LetterQuay", 11, ⟨"LetterQuay$Quay", "<init>", "()V"⟩), ("LetterQuay", 28, ⟨"LetterQuay$Log", "<init>", "()V"⟩), ("LetterQuay", 46, ⟨"LetterQuay$Reader", "<init>", "()V"⟩), ("LetterQuay", 53, ⟨"LetterQuay$Court", "<init>", "()V"⟩), ("LetterQuay$Court", 11, ⟨"LetterQuay$Reckoner", "<init>", "()V"⟩), ("LetterQuay", 60, ⟨"LetterQuay$Alphabets", "<init>", "()V"⟩), ("LetterQuay", 67, ⟨"LetterQuay$Mender", "<init>", "()V"⟩), ("LetterQuay", 74, ⟨"LetterQuay$Clearing", "<init>", "()V"⟩), ("LetterQuay$Names", 9, ⟨"LetterQuay", "isLetter", "(I)Z"⟩), ("LetterQuay$Quay", 79, ⟨"LetterQuay", "isLetter", "(I)Z"⟩), ("LetterQuay$Names", 13, ⟨"LetterQuay", "isLetterPlace", "(I)Z"⟩), ("LetterQuay$Reader", 53, ⟨"LetterQuay$Text", "<init>", "()V"⟩), ("LetterQuay$Text", 25, ⟨"LetterQuay$Clause", "<init>", "()V"⟩)]
def zq_fn : List (String × Nat × String × String × String) := [("LetterQuay$Names", 22, "LetterQuay", "TENS", "[I"), ("LetterQuay$Quay", 64, "LetterQuay", "HIGHEST_TERMS", "[I"), ("LetterQuay$Mender", 78, "LetterQuay", "TENS", "[I")]
/-- the formatter of wrong indices, which stands there or not -/
def zq_fm (G : zq_G) (s : State) (H : Heap) : Prop := va_Z "jdk/internal/util/Preconditions" "SIOOBE_FORMATTER" "Ljava/util/function/BiFunction;" .null (zq_A G) s H ∨ va_Z "jdk/internal/util/Preconditions" "SIOOBE_FORMATTER" "Ljava/util/function/BiFunction;" (.ref (G.2.2.1 7)) (zq_A G) s H
theorem zq_fm.kept {G : zq_G} {s : State} {H H1 : Heap} (h : zq_fm G s H) (hq : ∀ a : Nat, a < H.size → ¬ zq_A G a → H1[a]? = H[a]?) : zq_fm G s H1 := h.elim (fun h => Or.inl (h.kept hq)) (fun h => Or.inr (h.kept hq))
theorem zq_fm.moved {G : zq_G} {s U : State} {H : Heap} (hA : s.vm.Alike U.vm) (h : zq_fm G s H) : zq_fm G U H := h.elim (fun h => Or.inl (h.moved hA)) (fun h => Or.inr (h.moved hA))
/-- what of old is known: the static arrays, the text, that Strings are compact -/
def zq_old (G : zq_G) (s : State) (H : Heap) : Prop :=
  (va_Z "LetterQuay" "TENS" "[I" (.ref (G.2.2.1 1)) (zq_A G) s H ∧ va_T .int (G.2.2.1 1) 4 (fun j => .int (zq_tens j)) (zq_A G) s H) ∧
  (va_Z "LetterQuay" "HIGHEST_TERMS" "[I" (.ref (G.2.2.1 2)) (zq_A G) s H ∧ va_T .int (G.2.2.1 2) 3 (fun j => .int (zq_high j)) (zq_A G) s H) ∧
  (va_Z "LetterQuay$Alphabets" "ORDERS_OF_REST" "[I" (.ref (G.2.2.1 3)) (zq_A G) s H ∧ va_T .int (G.2.2.1 3) 5 (fun j => .int (zq_rest j)) (zq_A G) s H) ∧
  (va_Z "LetterQuay$Mender" "SPANS" "[I" (.ref (G.2.2.1 4)) (zq_A G) s H ∧ va_T .int (G.2.2.1 4) 4 (fun j => .int (zq_span j)) (zq_A G) s H) ∧
  vk_R "LetterQuay$Reader" 85 zq_list (G.2.2.1 5) s ∧ vk_S 1 [zq_bytes.length] [zq_bytes] (fun _ => G.2.2.1 5) (fun _ => G.2.2.1 6) (zq_A G) s H ∧
  va_Z "java/lang/String" "COMPACT_STRINGS" "Z" (.int 1) (zq_A G) s H ∧
  (∀ q ∈ zq_mn, va_Nw (.methodLinkNest q.1 q.2.1 q.2.2 "LetterQuay") s) ∧ (∀ q ∈ zq_fn, va_Nw (.fieldLinkNest q.1 q.2.1 q.2.2.1 q.2.2.2.1 q.2.2.2.2 "LetterQuay") s) ∧ va_AO RX1 s ∧ va_AO RX7 s ∧ va_AO RX10 s ∧ zq_fm G s H
theorem zq_old.kept {G : zq_G} {s : State} {H H1 : Heap} (h : zq_old G s H) (hq : ∀ a : Nat, a < H.size → ¬ zq_A G a → H1[a]? = H[a]?) : zq_old G s H1 :=
  ⟨⟨h.1.1.kept hq, h.1.2.kept hq⟩, ⟨h.2.1.1.kept hq, h.2.1.2.kept hq⟩, ⟨h.2.2.1.1.kept hq, h.2.2.1.2.kept hq⟩, ⟨h.2.2.2.1.1.kept hq, h.2.2.2.1.2.kept hq⟩, h.2.2.2.2.1, h.2.2.2.2.2.1.kept hq, h.2.2.2.2.2.2.1.kept hq, h.2.2.2.2.2.2.2.1, h.2.2.2.2.2.2.2.2.1, h.2.2.2.2.2.2.2.2.2.1, h.2.2.2.2.2.2.2.2.2.2.1, h.2.2.2.2.2.2.2.2.2.2.2.1, h.2.2.2.2.2.2.2.2.2.2.2.2.kept hq⟩
theorem zq_old.warm {G : zq_G} {s U : State} {H : Heap} (hW : s.WarmedH U.vm) (h : zq_old G s H) : zq_old G U H :=
  ⟨⟨h.1.1.moved hW.alike, h.1.2.moved hW.alike⟩, ⟨h.2.1.1.moved hW.alike, h.2.1.2.moved hW.alike⟩, ⟨h.2.2.1.1.moved hW.alike, h.2.2.1.2.moved hW.alike⟩, ⟨h.2.2.2.1.1.moved hW.alike, h.2.2.2.1.2.moved hW.alike⟩, h.2.2.2.2.1.warm hW, h.2.2.2.2.2.1.moved hW.alike, h.2.2.2.2.2.2.1.moved hW.alike, fun q hq => (h.2.2.2.2.2.2.2.1 q hq).warmM hW, fun q hq => (h.2.2.2.2.2.2.2.2.1 q hq).warmF hW, h.2.2.2.2.2.2.2.2.2.1.moved hW.alike, h.2.2.2.2.2.2.2.2.2.2.1.moved hW.alike, h.2.2.2.2.2.2.2.2.2.2.2.1.moved hW.alike, h.2.2.2.2.2.2.2.2.2.2.2.2.moved hW.alike⟩
theorem zq_old.same {G : zq_G} {s U : State} {H : Heap} (hv : U.vm = s.vm) (h : zq_old G s H) : zq_old G U H := by
  have hA : s.vm.Alike U.vm := by rw [hv]; exact Vm.Alike.refl _
  exact ⟨⟨h.1.1.moved hA, h.1.2.moved hA⟩, ⟨h.2.1.1.moved hA, h.2.1.2.moved hA⟩, ⟨h.2.2.1.1.moved hA, h.2.2.1.2.moved hA⟩, ⟨h.2.2.2.1.1.moved hA, h.2.2.2.1.2.moved hA⟩, h.2.2.2.2.1.same hv, h.2.2.2.2.2.1.moved hA, h.2.2.2.2.2.2.1.moved hA, fun q hq => (h.2.2.2.2.2.2.2.1 q hq).same rfl hv.symm, fun q hq => (h.2.2.2.2.2.2.2.2.1 q hq).same rfl hv.symm, h.2.2.2.2.2.2.2.2.2.1.moved hA, h.2.2.2.2.2.2.2.2.2.2.1.moved hA, h.2.2.2.2.2.2.2.2.2.2.2.1.moved hA, h.2.2.2.2.2.2.2.2.2.2.2.2.moved hA⟩
/-- the world at a call -/
def zq_In (G : zq_G) (n : Nat) (f : Nat → zq_E) (U : State) : Prop :=
  U.heap.size = G.2.2.2 + n ∧ zq_ok n f ∧ va_P G.1 zq_cls (zq_W G n f) U.heap ∧ va_K G.1 zq_cls (zq_tys G) U ∧ zq_old G U U.heap
/-- what comes back -/
def zq_Q (G : zq_G) (post : Option Value → Nat → (Nat → zq_E) → Prop) : Array Value → State → Outcome → State → Prop := fun _ st oc t =>
  (∃ (r : Option Value) (n : Nat) (f : Nat → zq_E), oc = .returned (r.map (zq_v G)) ∧ post r n f ∧ t.heap.size = G.2.2.2 + n ∧ zq_ok n f ∧ va_P G.1 zq_cls (zq_W G n f) t.heap) ∧ va_F (zq_A G) st t
abbrev zq_rm (d mc ms : Nat) : Room := { frames := d, cells := mc, slots := ms, locals := 60 * d }
/-- method y, called with these arguments over this pool, comes back with 'post'; d: how deep it may go, mc, ms: what it may make -/
def zq_Runs (l : Launch) (G : zq_G) (d mc ms : Nat) (y : MethodName) (av : List Value) (n : Nat) (f : Nat → zq_E) (post : Option Value → Nat → (Nat → zq_E) → Prop) : Prop :=
  ∃ (cc : ByteArray) (nL : Nat) (ret : Option FieldType), Cond.code y cc nL ret ∈ zq_ws ∧ nL ≤ 40 ∧
    Met l y (Cond.code y cc nL ret :: zq_ws) (zq_rm d mc ms) (va_Pc (av.map (zq_v G)) (zq_In G n f)) (zq_Q G post) mc ms (zq_A G)
/-- a method: its code, its class, its name, what it returns, how many locals -/
abbrev zq_M : Type := ByteArray × String × String × Option FieldType × Nat
def zq_cx (M : zq_M) (p : Program) (s : State) (m : MethodId) (args : Array Value) (meth : Method) (c : Code) : Prop :=
  p.tables.exec = Jvm.exec ∧ c.code = M.1 ∧ c.maxLocals = M.2.2.2.2 ∧ s.vm.findClass M.2.1 = some m.cls ∧ (∀ w ∈ zq_ws, w.before args s = true) ∧ meth.sig.returnType = M.2.2.2.1 ∧ meth.locks = false ∧ meth.name = M.2.2.1
/-- from here on the method comes to its end -/
def zq_At (l : Launch) (G : zq_G) (R : Room) (M : zq_M) (QF : List Frame → Array Value → State → State → Prop) (pc : Nat) (lv : List (Nat × Value)) (st : List Value) (n : Nat) (f : Nat → zq_E) (cells slots : Nat) : Prop :=
  ∀ (p : Program) (e : Env) (s : State) (m : MethodId) (args : Array Value) (below : List Frame) (meth : Method) (c : Code) (H : Heap) (locs : List Loc) (ls : Array Slot),
    zq_cx M p s m args meth c → G.2.2.2 ≤ s.heap.size → va_K G.1 zq_cls (zq_tys G) s → zq_old G s s.heap → H.size = G.2.2.2 + n → zq_ok n f → va_P G.1 zq_cls (zq_W G n f) H → va_S (zq_A G) s.heap H locs →
    lv_has ls M.2.2.2.2 (lv.map (fun q => (q.1, zq_v G q.2))) → W p l e R s m args below meth c H locs cells slots (QF below args s) (F0 m pc ls (st.map (zq_v G)))
/-- the end of a method that is called -/
def zq_QF (G : zq_G) (post : Option Value → Nat → (Nat → zq_E) → Prop) (mc ms : Nat) : List Frame → Array Value → State → State → Prop := fun below args s => MQ below (zq_Q G post) args s mc ms (zq_A G)
theorem zq_lv_args (G : zq_G) : ∀ (i : Nat) (av : List Value), lv_args i (av.map (zq_v G)) = (lv_args i av).map (fun q => (q.1, zq_v G q.2))
  | _, [] => rfl
  | i, v :: vs => by
    simp only [List.map_cons, lv_args, zq_cat]
    rw [zq_lv_args G _ vs]
theorem zq_sl_len (G : zq_G) (av : List Value) : (lg_sl (av.map (zq_v G))).length = (lg_sl av).length := by
  induction av with
  | nil => rfl
  | cons v vs ih =>
    simp only [lg_sl, List.map_cons, List.flatMap_cons, List.length_append] at ih ⊢
    rw [ih]
    cases v <;> rfl
theorem zq_enter {l : Launch} {G : zq_G} {d mc ms : Nat} {y : MethodName} {av : List Value} {n : Nat} {f : Nat → zq_E} {post : Option Value → Nat → (Nat → zq_E) → Prop} {cc : ByteArray} {nL : Nat} {ret : Option FieldType}
    (hc : Cond.code y cc nL ret ∈ zq_ws) (hn : nL ≤ 40) (hy : plainName y.cls = true) (hl : (lg_sl av).length ≤ nL)
    (h : zq_At l G (zq_rm d mc ms) (cc, y.cls, y.name, ret, nL) (zq_QF G post mc ms) 0 (lv_args 0 av) [] n f 0 0) : zq_Runs l G d mc ms y av n f post := by
  refine ⟨cc, nL, ret, hc, hn, Met.ofW (cc := cc) (maxL := nL) (ret := ret) hy rfl ?_⟩
  intro p e s m args below meth c s₁ B hml hv
  obtain ⟨rfl, hsz, hok, hP, hK, hO⟩ := hv
  have hts := atoms_spec (ws := Cond.code y cc nL ret :: zq_ws) B.pre
  have hown : s.vm.findClass y.cls = some m.cls := findClass_of_methodNamed B.named
  have hl2 := lv_entry (av.map (zq_v G)) (n := nL) (by rw [zq_sl_len]; exact hl)
  rw [lg_entry_eq]
  rw [zq_lv_args] at hl2
  exact h p e s m _ below meth c s.heap [] _ ⟨B.exec, B.bytes, hml, hown, fun w hw => hts w (List.mem_cons_of_mem _ hw), B.returns, B.notSynchronized, (name_of_methodNamed B.named B.method).1⟩ (by rw [hsz]; exact Nat.le_add_right _ _) hK hO hsz hok hP va_S.rf hl2
