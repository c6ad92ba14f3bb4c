/-! ===== the start: what of old is known (written by mkstart.py) ===== -/
abbrev zs_C : List Cond := flatC (Jvm.Cond.and given_1 narrow_1)
set_option maxRecDepth 20000 in
theorem zs_a1 : Cond.arrayOf (.static "LetterQuay" "TENS" "[I") .int ∈ zs_C ∧ Cond.eq (.length (.static "LetterQuay" "TENS" "[I")) (.int (Int32.ofNat 4)) ∈ zs_C ∧ ∀ j, j < 4 → Cond.eq (.elem (.static "LetterQuay" "TENS" "[I") (.int (Int32.ofNat j))) (.int (zq_tens j)) ∈ zs_C := by decide +kernel
set_option maxRecDepth 20000 in
theorem zs_a2 : Cond.arrayOf (.static "LetterQuay" "HIGHEST_TERMS" "[I") .int ∈ zs_C ∧ Cond.eq (.length (.static "LetterQuay" "HIGHEST_TERMS" "[I")) (.int (Int32.ofNat 3)) ∈ zs_C ∧ ∀ j, j < 3 → Cond.eq (.elem (.static "LetterQuay" "HIGHEST_TERMS" "[I") (.int (Int32.ofNat j))) (.int (zq_high j)) ∈ zs_C := by decide +kernel
set_option maxRecDepth 20000 in
theorem zs_a3 : Cond.arrayOf (.static "LetterQuay$Alphabets" "ORDERS_OF_REST" "[I") .int ∈ zs_C ∧ Cond.eq (.length (.static "LetterQuay$Alphabets" "ORDERS_OF_REST" "[I")) (.int (Int32.ofNat 5)) ∈ zs_C ∧ ∀ j, j < 5 → Cond.eq (.elem (.static "LetterQuay$Alphabets" "ORDERS_OF_REST" "[I") (.int (Int32.ofNat j))) (.int (zq_rest j)) ∈ zs_C := by decide +kernel
set_option maxRecDepth 20000 in
theorem zs_a4 : Cond.arrayOf (.static "LetterQuay$Mender" "SPANS" "[I") .int ∈ zs_C ∧ Cond.eq (.length (.static "LetterQuay$Mender" "SPANS" "[I")) (.int (Int32.ofNat 4)) ∈ zs_C ∧ ∀ j, j < 4 → Cond.eq (.elem (.static "LetterQuay$Mender" "SPANS" "[I") (.int (Int32.ofNat j))) (.int (zq_span j)) ∈ zs_C := by decide +kernel
set_option maxRecDepth 20000 in
theorem zs_s1 : Cond.exactly (.string "LetterQuay$Reader" 85) "java/lang/String" ∈ zs_C ∧ Cond.eq (.field (.string "LetterQuay$Reader" 85) "java/lang/String" "coder" "B") (.int 0) ∈ zs_C ∧ Cond.arrayOf (.field (.string "LetterQuay$Reader" 85) "java/lang/String" "value" "[B") .byte ∈ zs_C ∧ Cond.eq (.static "java/lang/String" "COMPACT_STRINGS" "Z") (.int 1) ∈ zs_C ∧ Cond.isRef (.static "jdk/internal/util/Preconditions" "SIOOBE_FORMATTER" "Ljava/util/function/BiFunction;") ∈ zs_C := by decide +kernel
set_option maxRecDepth 20000 in
theorem zs_s2 : Cond.eq (.length (.field (.string "LetterQuay$Reader" 85) "java/lang/String" "value" "[B")) (.int (Int32.ofNat zq_bytes.length)) ∈ zs_C := by decide +kernel
set_option maxRecDepth 20000 in
theorem zs_s0 : (zs_C.drop 77).take 143 = zq_bytes.mapIdx (fun j x => Cond.eq (.elem (.field (.string "LetterQuay$Reader" 85) "java/lang/String" "value" "[B") (.int (Int32.ofNat j))) (.int x)) := by decide +kernel
theorem zs_s4 {bs : List Int32} {Cs : List Cond} {F : Nat → Int32 → Cond} {p q : Nat} (h : (Cs.drop p).take q = bs.mapIdx F) : ∀ j, j < bs.length → F j (bs.getD j 0) ∈ Cs := by
  intro j hj
  have h1 : (bs.mapIdx F)[j]? = some (F j (bs.getD j 0)) := by
    rw [List.getElem?_mapIdx, List.getElem?_eq_getElem hj]
    simp [List.getD_eq_getElem?_getD, List.getElem?_eq_getElem hj]
  rw [← h] at h1
  exact List.mem_of_mem_drop (List.mem_of_mem_take (List.mem_of_getElem? h1))
theorem zs_s3 : ∀ j, j < zq_bytes.length → Cond.eq (.elem (.field (.string "LetterQuay$Reader" 85) "java/lang/String" "value" "[B") (.int (Int32.ofNat j))) (.int (zq_bytes.getD j 0)) ∈ zs_C := zs_s4 (F := fun j x => Cond.eq (.elem (.field (.string "LetterQuay$Reader" 85) "java/lang/String" "value" "[B") (.int (Int32.ofNat j))) (.int x)) zs_s0
theorem zs_len : zq_bytes.length < 2 ^ 31 := by decide +kernel
set_option maxRecDepth 20000 in
theorem zs_mn : ∀ q ∈ zq_mn, Cond.methodLinkNest q.1 q.2.1 q.2.2 "LetterQuay" ∈ lw_tbl := by decide +kernel
set_option maxRecDepth 20000 in
theorem zs_fn : ∀ q ∈ zq_fn, Cond.fieldLinkNest q.1 q.2.1 q.2.2.1 q.2.2.2.1 q.2.2.2.2 "LetterQuay" ∈ lw_tbl := by decide +kernel
theorem zs_i1 : Cond.instantiable RX1 6 ∈ zq_ws := zq_in (zq_t3 (List.mem_of_getElem? (i := 90) rfl)) rfl
theorem zs_i7 : Cond.instantiable RX7 14 ∈ zq_ws := zq_in (zq_t1 (List.mem_of_getElem? (i := 31) rfl)) rfl
theorem zs_i10 : Cond.instantiable RX10 3 ∈ zq_ws := zq_in (zq_t3 (List.mem_of_getElem? (i := 53) rfl)) rfl
theorem zs_i11 : Cond.instantiable RX11 19 ∈ zq_ws := zq_in (zq_t1 (List.mem_of_getElem? (i := 23) rfl)) rfl
theorem zs_i12 : Cond.instantiable RX12 55 ∈ zq_ws := zq_in (zq_t5 (List.mem_of_getElem? (i := 110) rfl)) rfl
theorem zs_i0 : Cond.instantiable RX0 5 ∈ zq_ws := zq_in (zq_t1 (List.mem_of_getElem? (i := 174) rfl)) rfl
theorem zs_i2 : Cond.instantiable RX2 4 ∈ zq_ws := zq_in (zq_t1 (List.mem_of_getElem? (i := 209) rfl)) rfl
theorem zs_i3 : Cond.instantiable RX3 2 ∈ zq_ws := zq_in (zq_t1 (List.mem_of_getElem? (i := 150) rfl)) rfl
theorem zs_i4 : Cond.instantiable RX4 2 ∈ zq_ws := zq_in (zq_t1 (List.mem_of_getElem? (i := 102) rfl)) rfl
theorem zs_i5 : Cond.instantiable RX5 2 ∈ zq_ws := zq_in (zq_t1 (List.mem_of_getElem? (i := 196) rfl)) rfl
theorem zs_i8 : Cond.instantiable RX8 9 ∈ zq_ws := zq_in (zq_t1 (List.mem_of_getElem? (i := 116) rfl)) rfl
theorem zs_i9 : Cond.instantiable RX9 1 ∈ zq_ws := zq_in (zq_t1 (List.mem_of_getElem? (i := 156) rfl)) rfl
section ZK38
variable {s : State} {args : Array Value}
theorem zs_tab {C n : String} {N : Nat} {g : Nat → Int32} {A : Nat → Prop} (hN : N < 2 ^ 31) (hl : (Cond.laysStatic C n "[I").before args s = true) (hini : (Cond.initialized C).before args s = true) (harr : (Cond.arrayOf (.static C n "[I") .int).before args s = true) (hlen : (Cond.eq (.length (.static C n "[I")) (.int (Int32.ofNat N))).before args s = true)
    (hel : ∀ j, j < N → (Cond.eq (.elem (.static C n "[I") (.int (Int32.ofNat j))) (.int (g j))).before args s = true) (hA : ∀ a : Nat, a < s.heap.size → ¬ A a) : ∃ t, va_Z C n "[I" (.ref t) A s s.heap ∧ va_T .int t N (fun j => .int (g j)) A s s.heap := by
  obtain ⟨t, ht, hT⟩ := va_Tof (f := fun j => .int (g j)) hN harr (va_eqt hlen) (fun j hj => va_eqt (hel j hj)) hA
  exact ⟨t, va_Zref hl hini ht hA, hT⟩
theorem zs_str {bs : List Int32} {A : Nat → Prop} (hb : bs.length < 2 ^ 31) (h1 : (Cond.exactly (.string "LetterQuay$Reader" 85) "java/lang/String").before args s = true) (h2 : (Cond.eq (.field (.string "LetterQuay$Reader" 85) "java/lang/String" "coder" "B") (.int 0)).before args s = true) (h3 : (Cond.arrayOf (.field (.string "LetterQuay$Reader" 85) "java/lang/String" "value" "[B") .byte).before args s = true) (h4 : (Cond.eq (.length (.field (.string "LetterQuay$Reader" 85) "java/lang/String" "value" "[B")) (.int (Int32.ofNat bs.length))).before args s = true)
    (h5 : ∀ j, j < bs.length → (Cond.eq (.elem (.field (.string "LetterQuay$Reader" 85) "java/lang/String" "value" "[B") (.int (Int32.ofNat j))) (.int (bs.getD j 0))).before args s = true) (hA : ∀ a : Nat, a < s.heap.size → ¬ A a) : ∃ a v : Nat, vk_S 1 [bs.length] [bs] (fun _ => a) (fun _ => v) A s s.heap ∧ (Term.string "LetterQuay$Reader" 85).eval args s none [] s = some (.ref a) := by
  obtain ⟨adK, adV, hS, hR⟩ := vk_Sof (A := A) (N := 1) (tm := fun _ => .string "LetterQuay$Reader" 85) (len := [bs.length]) (byt := [bs]) (args := args) (s := s) (fun i hi => by rw [show i = 0 by omega]; exact hb) (fun i _ => h1) (fun i _ => h2) (fun i _ => h3) (fun i hi => by rw [show i = 0 by omega]; exact h4) (fun i hi j hj => by rw [show i = 0 by omega] at hj ⊢; exact h5 j hj) (fun i j hi hj h => absurd (show i = j by omega) h) hA
  exact ⟨adK 0, adV 0, ⟨fun i hi => by rw [show i = 0 by omega]; exact hS.1 0 (by decide), fun i j hi hj _ => by omega⟩, hR 0 (by decide)⟩
theorem zs_arrP {ty : FieldType} (h : (Cond.arrayClass ty).before args s = true) : ∃ c : ClassId, ArrOfT s c ty ∧ s.vm.findClass ("[" ++ ty.toString) = some c := by
  obtain ⟨c, k, comp, h1, h2, h3⟩ := Cond.arrayClass_spec h
  exact ⟨c, fun n z => ⟨fun k h => (by cases h), k, h2, comp, h3⟩, h1⟩
theorem zs_arrO {C : String} (h : (Cond.arrayOver (.object C)).before args s = true) : ∃ c : ClassId, ArrOfT s c (.object C) ∧ va_RA s c (.object C) := by
  obtain ⟨comp, c, k, h1, -, h3, h4, h5⟩ := Cond.arrayOver_spec h
  exact ⟨c, fun n z => ⟨fun k h => (by cases h), k, h3, comp, h4⟩, k, comp, h3, h4, h1, h5⟩
theorem zs_cls (hz : ∀ w ∈ zq_ws, w.before args s = true) : ∀ ci : Nat, ∃ r : ClassId × (Nat → Nat), ∀ q : vw_C, zq_cls[ci]? = some q → u_Kn s q.1 q.2.1 q.2.2 r.1 r.2 := by
  intro ci
  match ci with
  | 0 => obtain ⟨c, i, h⟩ := u_known (n := 5) hz zq_c0 (hz _ zs_i0); exact ⟨(c, i), fun q hq => by cases hq; exact h⟩
  | 1 => obtain ⟨c, i, h⟩ := u_known (n := 6) hz zq_c1 (hz _ zs_i1); exact ⟨(c, i), fun q hq => by cases hq; exact h⟩
  | 2 => obtain ⟨c, i, h⟩ := u_known (n := 4) hz zq_c2 (hz _ zs_i2); exact ⟨(c, i), fun q hq => by cases hq; exact h⟩
  | 3 => obtain ⟨c, i, h⟩ := u_known (n := 2) hz zq_c3 (hz _ zs_i3); exact ⟨(c, i), fun q hq => by cases hq; exact h⟩
  | 4 => obtain ⟨c, i, h⟩ := u_known (n := 2) hz zq_c4 (hz _ zs_i4); exact ⟨(c, i), fun q hq => by cases hq; exact h⟩
  | 5 => obtain ⟨c, i, h⟩ := u_known (n := 2) hz zq_c5 (hz _ zs_i5); exact ⟨(c, i), fun q hq => by cases hq; exact h⟩
  | 6 => obtain ⟨c, i, h⟩ := u_known (n := 2) hz zq_c4 (hz _ zs_i4); exact ⟨(c, i), fun q hq => by cases hq; exact h⟩
  | 7 => obtain ⟨c, i, h⟩ := u_known (n := 14) hz zq_c7 (hz _ zs_i7); exact ⟨(c, i), fun q hq => by cases hq; exact h⟩
  | 8 => obtain ⟨c, i, h⟩ := u_known (n := 9) hz zq_c8 (hz _ zs_i8); exact ⟨(c, i), fun q hq => by cases hq; exact h⟩
  | 9 => obtain ⟨c, i, h⟩ := u_known (n := 1) hz zq_c9 (hz _ zs_i9); exact ⟨(c, i), fun q hq => by cases hq; exact h⟩
  | 10 => obtain ⟨c, i, h⟩ := u_known (n := 3) hz zq_c10 (hz _ zs_i10); exact ⟨(c, i), fun q hq => by cases hq; exact h⟩
  | 11 => obtain ⟨c, i, h⟩ := u_known (n := 19) hz zq_c11 (hz _ zs_i11); exact ⟨(c, i), fun q hq => by cases hq; exact h⟩
  | 12 => obtain ⟨c, i, h⟩ := u_known (n := 55) hz zq_c12 (hz _ zs_i12); exact ⟨(c, i), fun q hq => by cases hq; exact h⟩
  | n + 13 => exact ⟨((0 : Nat), fun _ => 0), fun q hq => by simp at hq⟩
theorem zq_start {b : Nat} (hts : ∀ w ∈ lw_tbl, w.before #[Value.ref b] s = true) (hgv : (Jvm.Cond.and given_1 narrow_1).before #[Value.ref b] s = true) : ∃ G : zq_G, G.2.2.2 = s.heap.size ∧ G.2.2.1 0 = b ∧ va_K G.1 zq_cls (zq_tys G) s ∧ zq_old G s s.heap := by
  have hn := flat_of_before _ hgv
  have hz : ∀ w ∈ zq_ws, w.before #[Value.ref b] s = true := fun w hw => hts w (List.mem_filter.mp hw).1
  have hA : ∀ a : Nat, a < s.heap.size → ¬ (fun q : Nat => s.heap.size ≤ q) a := fun a h => Nat.not_le.mpr h
  obtain ⟨cls, hcls⟩ := Classical.axiomOfChoice (zs_cls hz)
  obtain ⟨t1, z1, T1⟩ := zs_tab (A := fun q : Nat => s.heap.size ≤ q) (g := zq_tens) (N := 4) (by decide) (hts _ (zq_t2 (List.mem_of_getElem? (i := 165) rfl))) (hts _ (zq_t1 (List.mem_of_getElem? (i := 1) rfl))) (hn _ zs_a1.1) (hn _ zs_a1.2.1) (fun j hj => hn _ (zs_a1.2.2 j hj)) hA
  obtain ⟨t2, z2, T2⟩ := zs_tab (A := fun q : Nat => s.heap.size ≤ q) (g := zq_high) (N := 3) (by decide) (hts _ (zq_t2 (List.mem_of_getElem? (i := 193) rfl))) (hts _ (zq_t1 (List.mem_of_getElem? (i := 1) rfl))) (hn _ zs_a2.1) (hn _ zs_a2.2.1) (fun j hj => hn _ (zs_a2.2.2 j hj)) hA
  obtain ⟨t3, z3, T3⟩ := zs_tab (A := fun q : Nat => s.heap.size ≤ q) (g := zq_rest) (N := 5) (by decide) (hts _ (zq_t4 (List.mem_of_getElem? (i := 178) rfl))) (hts _ (zq_t1 (List.mem_of_getElem? (i := 7) rfl))) (hn _ zs_a3.1) (hn _ zs_a3.2.1) (fun j hj => hn _ (zs_a3.2.2 j hj)) hA
  obtain ⟨t4, z4, T4⟩ := zs_tab (A := fun q : Nat => s.heap.size ≤ q) (g := zq_span) (N := 4) (by decide) (hts _ (zq_t5 (List.mem_of_getElem? (i := 7) rfl))) (hts _ (zq_t1 (List.mem_of_getElem? (i := 8) rfl))) (hn _ zs_a4.1) (hn _ zs_a4.2.1) (fun j hj => hn _ (zs_a4.2.2 j hj)) hA
  obtain ⟨adK, adV, hS, hR⟩ := zs_str (A := fun q : Nat => s.heap.size ≤ q) (bs := zq_bytes) zs_len (hn _ zs_s1.1) (hn _ zs_s1.2.1) (hn _ zs_s1.2.2.1) (hn _ zs_s2) (fun j hj => hn _ (zs_s3 j hj)) hA
  have zc := va_Zof (A := fun q : Nat => s.heap.size ≤ q) (hts _ (zq_t3 (List.mem_of_getElem? (i := 13) rfl))) (hts _ (zq_t1 (List.mem_of_getElem? (i := 13) rfl))) (va_eqi (hn _ zs_s1.2.2.2.1)) hA
  have zf := va_Zqof (A := fun q : Nat => s.heap.size ≤ q) (hts _ (zq_t3 (List.mem_of_getElem? (i := 29) rfl))) (hts _ (zq_t1 (List.mem_of_getElem? (i := 15) rfl))) (hn _ zs_s1.2.2.2.2) hA
  obtain ⟨y0, Y0⟩ := zs_arrP (hz _ zq_ai)
  obtain ⟨y1, Y1⟩ := zs_arrP (hz _ zq_ab)
  obtain ⟨y2, Y2⟩ := zs_arrP (hz _ zq_az)
  obtain ⟨y3, Y3⟩ := zs_arrP (hz _ zq_al)
  have o4 : (Cond.arrayOver (.object RX1)).before #[Value.ref b] s = true := hts _ (zq_t3 (List.mem_of_getElem? (i := 59) rfl))
  obtain ⟨y4, Y4⟩ := zs_arrO o4
  have o5 : (Cond.arrayOver (.object RX7)).before #[Value.ref b] s = true := hts _ (zq_t1 (List.mem_of_getElem? (i := 100) rfl))
  obtain ⟨y5, Y5⟩ := zs_arrO o5
  have o6 : (Cond.arrayOver (.object RX10)).before #[Value.ref b] s = true := hts _ (zq_t1 (List.mem_of_getElem? (i := 37) rfl))
  obtain ⟨y6, Y6⟩ := zs_arrO o6
  obtain ⟨t7, hf⟩ : ∃ t7 : Nat, va_Z "jdk/internal/util/Preconditions" "SIOOBE_FORMATTER" "Ljava/util/function/BiFunction;" .null (fun q : Nat => s.heap.size ≤ q) s s.heap ∨ va_Z "jdk/internal/util/Preconditions" "SIOOBE_FORMATTER" "Ljava/util/function/BiFunction;" (.ref t7) (fun q : Nat => s.heap.size ≤ q) s s.heap := by
    rcases zf with h | ⟨t, h⟩
    · exact ⟨0, Or.inl h⟩
    · exact ⟨t, Or.inr h⟩
  refine ⟨((fun c => (cls c).1, fun c => (cls c).2), fun t => match t with
    | 0 => y0
    | 1 => y1
    | 2 => y2
    | 3 => y3
    | 4 => y4
    | 5 => y5
    | _ => y6, fun k => match k with
    | 0 => b
    | 1 => t1
    | 2 => t2
    | 3 => t3
    | 4 => t4
    | 5 => adK
    | 6 => adV
    | _ => t7, s.heap.size), rfl, rfl, ⟨fun c q hq => hcls c q hq, fun k q hq => ?_⟩, ⟨z1, T1⟩, ⟨z2, T2⟩, ⟨z3, T3⟩, ⟨z4, T4⟩, vk_R.of (hts _ (zq_t3 (List.mem_of_getElem? (i := 3) rfl))) hR, hS, zc, fun q hq => va_Nw.of rfl (hts _ (zs_mn q hq)), fun q hq => va_Nw.of rfl (hts _ (zs_fn q hq)), va_AO.of o4, va_AO.of o5, va_AO.of o6, hf⟩
  · match k, hq with
    | 0, hq => cases hq; exact Y0
    | 1, hq => cases hq; exact Y1
    | 2, hq => cases hq; exact Y2
    | 3, hq => cases hq; exact Y3
    | 4, hq => cases hq; exact Y4
    | 5, hq => cases hq; exact Y5
    | 6, hq => cases hq; exact Y6
    | k + 7, hq => simp at hq
end ZK38

