/-! ===== a row an instruction, over zq_At ===== -/
/-- a local, by its number -/
def zq_lk : List (Nat × Value) → Nat → Option Value
  | [], _ => none
  | q :: r, i => if q.1 = i then some q.2 else zq_lk r i
def zq_ins (i : Nat) (v : Value) : List (Nat × Value) → List (Nat × Value)
  | [] => [(i, v)]
  | q :: r => if i < q.1 then (i, v) :: q :: r else q :: zq_ins i v r
/-- a local is set (a long's second half goes; a second half takes its long along) -/
def zq_st1 (lv : List (Nat × Value)) (i : Nat) (v : Value) : List (Nat × Value) := zq_ins i v (lv.filter (fun q => !(q.1 == i) && !(q.1 + 1 == i && q.2.category == 2)))
def zq_st2 (lv : List (Nat × Value)) (i : Nat) (v : Value) : List (Nat × Value) := zq_ins i v (lv.filter (fun q => !(q.1 == i) && (!(q.1 == i + 1) && !(q.1 + 1 == i && q.2.category == 2))))
theorem zq_lk_mem {lv : List (Nat × Value)} {i : Nat} {v : Value} (h : zq_lk lv i = some v) : (i, v) ∈ lv := by
  induction lv with
  | nil => cases h
  | cons q r ih =>
    simp only [zq_lk] at h
    split at h
    · next e =>
      cases h
      rw [← e]
      exact List.mem_cons_self
    · exact List.mem_cons_of_mem _ (ih h)
theorem zq_lk_at {G : zq_G} {lv : List (Nat × Value)} {i : Nat} {v : Value} {ls : Array Slot} {nL : Nat} (h : lv_has ls nL (lv.map (fun q => (q.1, zq_v G q.2)))) (hk : zq_lk lv i = some v) : ls[i]? = some (.val (zq_v G v)) :=
  h.2.2 (i, zq_v G v) (List.mem_map.mpr ⟨(i, v), zq_lk_mem hk, rfl⟩)
theorem zq_ins_mem {i : Nat} {v : Value} {lv : List (Nat × Value)} {q : Nat × Value} (h : q ∈ zq_ins i v lv) : q = (i, v) ∨ q ∈ lv := by
  induction lv with
  | nil => exact Or.inl (List.mem_singleton.mp h)
  | cons a r ih =>
    simp only [zq_ins] at h
    split at h
    · rcases List.mem_cons.mp h with h | h
      · exact Or.inl h
      · exact Or.inr h
    · rcases List.mem_cons.mp h with h | h
      · exact Or.inr (h ▸ List.mem_cons_self)
      · rcases ih h with h | h
        · exact Or.inl h
        · exact Or.inr (List.mem_cons_of_mem _ h)
theorem zq_filter1 (G : zq_G) (i : Nat) (lv : List (Nat × Value)) : (lv.map (fun q => (q.1, zq_v G q.2))).filter (fun q => !(q.1 == i) && !(q.1 + 1 == i && q.2.category == 2)) = (lv.filter (fun q => !(q.1 == i) && !(q.1 + 1 == i && q.2.category == 2))).map (fun q => (q.1, zq_v G q.2)) := by
  rw [List.filter_map]
  congr 1
  apply List.filter_congr
  intro q _
  simp only [Function.comp, zq_cat]
theorem zq_filter2 (G : zq_G) (i : Nat) (lv : List (Nat × Value)) : (lv.map (fun q => (q.1, zq_v G q.2))).filter (fun q => !(q.1 == i) && (!(q.1 == i + 1) && !(q.1 + 1 == i && q.2.category == 2))) = (lv.filter (fun q => !(q.1 == i) && (!(q.1 == i + 1) && !(q.1 + 1 == i && q.2.category == 2)))).map (fun q => (q.1, zq_v G q.2)) := by
  rw [List.filter_map]
  congr 1
  apply List.filter_congr
  intro q _
  simp only [Function.comp, zq_cat]
theorem zq_has_st1 {G : zq_G} {ls : Array Slot} {nL i : Nat} {v : Value} {lv : List (Nat × Value)} (h : lv_has ls nL ((i, zq_v G v) :: (lv.map (fun q => (q.1, zq_v G q.2))).filter (fun q => !(q.1 == i) && !(q.1 + 1 == i && q.2.category == 2)))) : lv_has ls nL ((zq_st1 lv i v).map (fun q => (q.1, zq_v G q.2))) := by
  refine ⟨h.1, h.2.1, fun q hq => h.2.2 q ?_⟩
  rw [zq_filter1]
  obtain ⟨x, hx, rfl⟩ := List.mem_map.mp hq
  rcases zq_ins_mem hx with rfl | hx
  · exact List.mem_cons_self
  · exact List.mem_cons_of_mem _ (List.mem_map.mpr ⟨x, hx, rfl⟩)
theorem zq_has_st2 {G : zq_G} {ls : Array Slot} {nL i : Nat} {v : Value} {lv : List (Nat × Value)} (h : lv_has ls nL ((i, zq_v G v) :: (lv.map (fun q => (q.1, zq_v G q.2))).filter (fun q => !(q.1 == i) && (!(q.1 == i + 1) && !(q.1 + 1 == i && q.2.category == 2))))) : lv_has ls nL ((zq_st2 lv i v).map (fun q => (q.1, zq_v G q.2))) := by
  refine ⟨h.1, h.2.1, fun q hq => h.2.2 q ?_⟩
  rw [zq_filter2]
  obtain ⟨x, hx, rfl⟩ := List.mem_map.mp hq
  rcases zq_ins_mem hx with rfl | hx
  · exact List.mem_cons_self
  · exact List.mem_cons_of_mem _ (List.mem_map.mpr ⟨x, hx, rfl⟩)
section ZQ1
variable {l : Launch} {G : zq_G} {R : Room} {M : zq_M} {QF : List Frame → Array Value → State → State → Prop} {pc : Nat} {lv : List (Nat × Value)} {st : List Value} {n : Nat} {f : Nat → zq_E} {cells slots : Nat}
theorem at_iconst {i : Int} {v : Int32} (hd : decode M.1 pc = .ok (.iconst i, 1)) (hv : Int32.ofInt i = v) (k : zq_At l G R M QF (pc + 1) lv (.int v :: st) n f cells slots) : zq_At l G R M QF pc lv st n f cells slots := by
  intro p e s m args below meth c H locs ls C hz hK hO hs hok hP hS hl
  exact lv_iconst C.1 C.2.1 hd hv (k p e s m args below meth c H locs ls C hz hK hO hs hok hP hS hl)
theorem at_bipush {i : Int} {v : Int32} (hd : decode M.1 pc = .ok (.bipush i, 2)) (hv : (Int8.ofInt i).toInt32 = v) (k : zq_At l G R M QF (pc + 2) lv (.int v :: st) n f cells slots) : zq_At l G R M QF pc lv st n f cells slots := by
  intro p e s m args below meth c H locs ls C hz hK hO hs hok hP hS hl
  exact lv_bipush C.1 C.2.1 hd hv (k p e s m args below meth c H locs ls C hz hK hO hs hok hP hS hl)
theorem at_sipush {i : Int} {v : Int32} (hd : decode M.1 pc = .ok (.sipush i, 3)) (hv : (Int16.ofInt i).toInt32 = v) (k : zq_At l G R M QF (pc + 3) lv (.int v :: st) n f cells slots) : zq_At l G R M QF pc lv st n f cells slots := by
  intro p e s m args below meth c H locs ls C hz hK hO hs hok hP hS hl
  exact lv_sipush C.1 C.2.1 hd hv (k p e s m args below meth c H locs ls C hz hK hO hs hok hP hS hl)
theorem at_lconst {i : Fin 2} {v : Int64} (hd : decode M.1 pc = .ok (.lconst i, 1)) (hv : Int64.ofNat (i : Nat) = v) (k : zq_At l G R M QF (pc + 1) lv (.long v :: st) n f cells slots) : zq_At l G R M QF pc lv st n f cells slots := by
  intro p e s m args below meth c H locs ls C hz hK hO hs hok hP hS hl
  exact lv_lconst C.1 C.2.1 hd hv (k p e s m args below meth c H locs ls C hz hK hO hs hok hP hS hl)
theorem at_null (hd : decode M.1 pc = .ok (.aconst_null, 1)) (k : zq_At l G R M QF (pc + 1) lv (.null :: st) n f cells slots) : zq_At l G R M QF pc lv st n f cells slots := by
  intro p e s m args below meth c H locs ls C hz hK hO hs hok hP hS hl
  exact lv_null C.1 C.2.1 hd (k p e s m args below meth c H locs ls C hz hK hO hs hok hP hS hl)
theorem at_ldc {i : Nat} {v : Int32} (hd : decode M.1 pc = .ok (.ldc i, 2)) (hw : Cond.constant M.2.1 i v ∈ zq_ws) (k : zq_At l G R M QF (pc + 2) lv (.int v :: st) n f cells slots) : zq_At l G R M QF pc lv st n f cells slots := by
  intro p e s m args below meth c H locs ls C hz hK hO hs hok hP hS hl
  exact lv_ldc C.1 C.2.1 C.2.2.2.1 (C.2.2.2.2.1 _ hw) hd (k p e s m args below meth c H locs ls C hz hK hO hs hok hP hS hl)
theorem at_ldcw {i : Nat} {v : Int32} (hd : decode M.1 pc = .ok (.ldc_w i, 3)) (hw : Cond.constant M.2.1 i v ∈ zq_ws) (k : zq_At l G R M QF (pc + 3) lv (.int v :: st) n f cells slots) : zq_At l G R M QF pc lv st n f cells slots := by
  intro p e s m args below meth c H locs ls C hz hK hO hs hok hP hS hl
  exact lv_ldcw C.1 C.2.1 C.2.2.2.1 (C.2.2.2.2.1 _ hw) hd (k p e s m args below meth c H locs ls C hz hK hO hs hok hP hS hl)
theorem at_ldc2 {i : Nat} {v : Int64} (hd : decode M.1 pc = .ok (.ldc2_w i, 3)) (hw : Cond.constantLong M.2.1 i v ∈ zq_ws) (k : zq_At l G R M QF (pc + 3) lv (.long v :: st) n f cells slots) : zq_At l G R M QF pc lv st n f cells slots := by
  intro p e s m args below meth c H locs ls C hz hK hO hs hok hP hS hl
  exact lv_ldc2 C.1 C.2.1 C.2.2.2.1 (C.2.2.2.2.1 _ hw) hd (k p e s m args below meth c H locs ls C hz hK hO hs hok hP hS hl)
theorem at_iload_n {k : Fin 4} {x : Int32} (hd : decode M.1 pc = .ok (.iload_n k, 1)) (hl0 : zq_lk lv k = some (.int x)) (k : zq_At l G R M QF (pc + 1) lv (.int x :: st) n f cells slots) : zq_At l G R M QF pc lv st n f cells slots := by
  intro p e s m args below meth c H locs ls C hz hK hO hs hok hP hS hl
  exact lv_iload_n C.1 C.2.1 hd rfl (zq_lk_at hl hl0) (k p e s m args below meth c H locs ls C hz hK hO hs hok hP hS hl)
theorem at_iload {i : Nat} {x : Int32} (hd : decode M.1 pc = .ok (.iload i, 2)) (hl0 : zq_lk lv i = some (.int x)) (k : zq_At l G R M QF (pc + 2) lv (.int x :: st) n f cells slots) : zq_At l G R M QF pc lv st n f cells slots := by
  intro p e s m args below meth c H locs ls C hz hK hO hs hok hP hS hl
  exact lv_iload C.1 C.2.1 hd (zq_lk_at hl hl0) (k p e s m args below meth c H locs ls C hz hK hO hs hok hP hS hl)
theorem at_lload_n {k : Fin 4} {x : Int64} (hd : decode M.1 pc = .ok (.lload_n k, 1)) (hl0 : zq_lk lv k = some (.long x)) (k : zq_At l G R M QF (pc + 1) lv (.long x :: st) n f cells slots) : zq_At l G R M QF pc lv st n f cells slots := by
  intro p e s m args below meth c H locs ls C hz hK hO hs hok hP hS hl
  exact lv_lload_n C.1 C.2.1 hd rfl (zq_lk_at hl hl0) (k p e s m args below meth c H locs ls C hz hK hO hs hok hP hS hl)
theorem at_lload {i : Nat} {x : Int64} (hd : decode M.1 pc = .ok (.lload i, 2)) (hl0 : zq_lk lv i = some (.long x)) (k : zq_At l G R M QF (pc + 2) lv (.long x :: st) n f cells slots) : zq_At l G R M QF pc lv st n f cells slots := by
  intro p e s m args below meth c H locs ls C hz hK hO hs hok hP hS hl
  exact lv_lload C.1 C.2.1 hd (zq_lk_at hl hl0) (k p e s m args below meth c H locs ls C hz hK hO hs hok hP hS hl)
theorem at_aload_n {k : Fin 4} {x : Nat} (hd : decode M.1 pc = .ok (.aload_n k, 1)) (hl0 : zq_lk lv k = some (.ref x)) (k : zq_At l G R M QF (pc + 1) lv (.ref x :: st) n f cells slots) : zq_At l G R M QF pc lv st n f cells slots := by
  intro p e s m args below meth c H locs ls C hz hK hO hs hok hP hS hl
  exact lv_aload_n C.1 C.2.1 hd rfl (zq_lk_at hl hl0) (k p e s m args below meth c H locs ls C hz hK hO hs hok hP hS hl)
theorem at_aload {i : Nat} {x : Nat} (hd : decode M.1 pc = .ok (.aload i, 2)) (hl0 : zq_lk lv i = some (.ref x)) (k : zq_At l G R M QF (pc + 2) lv (.ref x :: st) n f cells slots) : zq_At l G R M QF pc lv st n f cells slots := by
  intro p e s m args below meth c H locs ls C hz hK hO hs hok hP hS hl
  exact lv_aload C.1 C.2.1 hd (zq_lk_at hl hl0) (k p e s m args below meth c H locs ls C hz hK hO hs hok hP hS hl)
theorem at_aload_nN {k : Fin 4} (hd : decode M.1 pc = .ok (.aload_n k, 1)) (hl0 : zq_lk lv k = some .null) (k : zq_At l G R M QF (pc + 1) lv (.null :: st) n f cells slots) : zq_At l G R M QF pc lv st n f cells slots := by
  intro p e s m args below meth c H locs ls C hz hK hO hs hok hP hS hl
  exact lv_aload_nN C.1 C.2.1 hd rfl (zq_lk_at hl hl0) (k p e s m args below meth c H locs ls C hz hK hO hs hok hP hS hl)
theorem at_aloadN {i : Nat} (hd : decode M.1 pc = .ok (.aload i, 2)) (hl0 : zq_lk lv i = some .null) (k : zq_At l G R M QF (pc + 2) lv (.null :: st) n f cells slots) : zq_At l G R M QF pc lv st n f cells slots := by
  intro p e s m args below meth c H locs ls C hz hK hO hs hok hP hS hl
  exact lv_aloadN C.1 C.2.1 hd (zq_lk_at hl hl0) (k p e s m args below meth c H locs ls C hz hK hO hs hok hP hS hl)
theorem at_istore_n {k0 : Fin 4} {i : Nat} {x : Int32} (hd : decode M.1 pc = .ok (.istore_n k0, 1)) (hi : (k0 : Nat) = i) (hn : i < M.2.2.2.2) (k : zq_At l G R M QF (pc + 1) (zq_st1 lv i (.int x)) st n f cells slots) : zq_At l G R M QF pc lv (.int x :: st) n f cells slots := by
  intro p e s m args below meth c H locs ls C hz hK hO hs hok hP hS hl
  exact lv_istore_n C.1 C.2.1 hd hi hl hn rfl (fun ls2 h2 => k p e s m args below meth c H locs ls2 C hz hK hO hs hok hP hS (zq_has_st1 h2))
theorem at_istore {i : Nat} {x : Int32} (hd : decode M.1 pc = .ok (.istore i, 2)) (hn : i < M.2.2.2.2) (k : zq_At l G R M QF (pc + 2) (zq_st1 lv i (.int x)) st n f cells slots) : zq_At l G R M QF pc lv (.int x :: st) n f cells slots := by
  intro p e s m args below meth c H locs ls C hz hK hO hs hok hP hS hl
  exact lv_istore C.1 C.2.1 hd hl hn rfl (fun ls2 h2 => k p e s m args below meth c H locs ls2 C hz hK hO hs hok hP hS (zq_has_st1 h2))
theorem at_lstore_n {k0 : Fin 4} {i : Nat} {x : Int64} (hd : decode M.1 pc = .ok (.lstore_n k0, 1)) (hi : (k0 : Nat) = i) (hn : i + 1 < M.2.2.2.2) (k : zq_At l G R M QF (pc + 1) (zq_st2 lv i (.long x)) st n f cells slots) : zq_At l G R M QF pc lv (.long x :: st) n f cells slots := by
  intro p e s m args below meth c H locs ls C hz hK hO hs hok hP hS hl
  exact lv_lstore_n C.1 C.2.1 hd hi hl hn rfl (fun ls2 h2 => k p e s m args below meth c H locs ls2 C hz hK hO hs hok hP hS (zq_has_st2 h2))
theorem at_lstore {i : Nat} {x : Int64} (hd : decode M.1 pc = .ok (.lstore i, 2)) (hn : i + 1 < M.2.2.2.2) (k : zq_At l G R M QF (pc + 2) (zq_st2 lv i (.long x)) st n f cells slots) : zq_At l G R M QF pc lv (.long x :: st) n f cells slots := by
  intro p e s m args below meth c H locs ls C hz hK hO hs hok hP hS hl
  exact lv_lstore C.1 C.2.1 hd hl hn rfl (fun ls2 h2 => k p e s m args below meth c H locs ls2 C hz hK hO hs hok hP hS (zq_has_st2 h2))
theorem at_astore_n {k0 : Fin 4} {i : Nat} {x : Nat} (hd : decode M.1 pc = .ok (.astore_n k0, 1)) (hi : (k0 : Nat) = i) (hn : i < M.2.2.2.2) (k : zq_At l G R M QF (pc + 1) (zq_st1 lv i (.ref x)) st n f cells slots) : zq_At l G R M QF pc lv (.ref x :: st) n f cells slots := by
  intro p e s m args below meth c H locs ls C hz hK hO hs hok hP hS hl
  exact lv_astore_n C.1 C.2.1 hd hi hl hn rfl (fun ls2 h2 => k p e s m args below meth c H locs ls2 C hz hK hO hs hok hP hS (zq_has_st1 h2))
theorem at_astore {i : Nat} {x : Nat} (hd : decode M.1 pc = .ok (.astore i, 2)) (hn : i < M.2.2.2.2) (k : zq_At l G R M QF (pc + 2) (zq_st1 lv i (.ref x)) st n f cells slots) : zq_At l G R M QF pc lv (.ref x :: st) n f cells slots := by
  intro p e s m args below meth c H locs ls C hz hK hO hs hok hP hS hl
  exact lv_astore C.1 C.2.1 hd hl hn rfl (fun ls2 h2 => k p e s m args below meth c H locs ls2 C hz hK hO hs hok hP hS (zq_has_st1 h2))
theorem at_astore_nN {k0 : Fin 4} {i : Nat} (hd : decode M.1 pc = .ok (.astore_n k0, 1)) (hi : (k0 : Nat) = i) (hn : i < M.2.2.2.2) (k : zq_At l G R M QF (pc + 1) (zq_st1 lv i (.null)) st n f cells slots) : zq_At l G R M QF pc lv (.null :: st) n f cells slots := by
  intro p e s m args below meth c H locs ls C hz hK hO hs hok hP hS hl
  exact lv_astore_nN C.1 C.2.1 hd hi hl hn rfl (fun ls2 h2 => k p e s m args below meth c H locs ls2 C hz hK hO hs hok hP hS (zq_has_st1 h2))
theorem at_astoreN {i : Nat} (hd : decode M.1 pc = .ok (.astore i, 2)) (hn : i < M.2.2.2.2) (k : zq_At l G R M QF (pc + 2) (zq_st1 lv i (.null)) st n f cells slots) : zq_At l G R M QF pc lv (.null :: st) n f cells slots := by
  intro p e s m args below meth c H locs ls C hz hK hO hs hok hP hS hl
  exact lv_astoreN C.1 C.2.1 hd hl hn rfl (fun ls2 h2 => k p e s m args below meth c H locs ls2 C hz hK hO hs hok hP hS (zq_has_st1 h2))
theorem at_iinc {i : Nat} {b : Int} {x v : Int32} (hd : decode M.1 pc = .ok (.iinc i b, 3)) (hl0 : zq_lk lv i = some (.int x)) (hv : x + Int32.ofInt b = v) (hn : i < M.2.2.2.2) (k : zq_At l G R M QF (pc + 3) (zq_st1 lv i (.int v)) st n f cells slots) : zq_At l G R M QF pc lv st n f cells slots := by
  intro p e s m args below meth c H locs ls C hz hK hO hs hok hP hS hl
  obtain ⟨j, hj⟩ := List.getElem?_of_mem (List.mem_map.mpr ⟨(i, Value.int x), zq_lk_mem hl0, rfl⟩ : ((fun q : Nat × Value => (q.1, zq_v G q.2)) (i, Value.int x)) ∈ lv.map (fun q => (q.1, zq_v G q.2)))
  exact lv_iinc (k := j) C.1 C.2.1 hd hl hj hv hn rfl (fun ls2 h2 => k p e s m args below meth c H locs ls2 C hz hK hO hs hok hP hS (zq_has_st1 h2))
theorem at_iadd {x y : Int32} (hd : decode M.1 pc = .ok (.iadd, 1)) (k : zq_At l G R M QF (pc + 1) lv (.int (x + y) :: st) n f cells slots) : zq_At l G R M QF pc lv (.int y :: .int x :: st) n f cells slots := by
  intro p e s m args below meth c H locs ls C hz hK hO hs hok hP hS hl
  exact lv_iadd C.1 C.2.1 hd (k p e s m args below meth c H locs ls C hz hK hO hs hok hP hS hl)
theorem at_isub {x y : Int32} (hd : decode M.1 pc = .ok (.isub, 1)) (k : zq_At l G R M QF (pc + 1) lv (.int (x - y) :: st) n f cells slots) : zq_At l G R M QF pc lv (.int y :: .int x :: st) n f cells slots := by
  intro p e s m args below meth c H locs ls C hz hK hO hs hok hP hS hl
  exact lv_isub C.1 C.2.1 hd (k p e s m args below meth c H locs ls C hz hK hO hs hok hP hS hl)
theorem at_imul {x y : Int32} (hd : decode M.1 pc = .ok (.imul, 1)) (k : zq_At l G R M QF (pc + 1) lv (.int (x * y) :: st) n f cells slots) : zq_At l G R M QF pc lv (.int y :: .int x :: st) n f cells slots := by
  intro p e s m args below meth c H locs ls C hz hK hO hs hok hP hS hl
  exact lv_imul C.1 C.2.1 hd (k p e s m args below meth c H locs ls C hz hK hO hs hok hP hS hl)
theorem at_iand {x y : Int32} (hd : decode M.1 pc = .ok (.iand, 1)) (k : zq_At l G R M QF (pc + 1) lv (.int (x &&& y) :: st) n f cells slots) : zq_At l G R M QF pc lv (.int y :: .int x :: st) n f cells slots := by
  intro p e s m args below meth c H locs ls C hz hK hO hs hok hP hS hl
  exact lv_iand C.1 C.2.1 hd (k p e s m args below meth c H locs ls C hz hK hO hs hok hP hS hl)
theorem at_ior {x y : Int32} (hd : decode M.1 pc = .ok (.ior, 1)) (k : zq_At l G R M QF (pc + 1) lv (.int (x ||| y) :: st) n f cells slots) : zq_At l G R M QF pc lv (.int y :: .int x :: st) n f cells slots := by
  intro p e s m args below meth c H locs ls C hz hK hO hs hok hP hS hl
  exact lv_ior C.1 C.2.1 hd (k p e s m args below meth c H locs ls C hz hK hO hs hok hP hS hl)
theorem at_ixor {x y : Int32} (hd : decode M.1 pc = .ok (.ixor, 1)) (k : zq_At l G R M QF (pc + 1) lv (.int (x ^^^ y) :: st) n f cells slots) : zq_At l G R M QF pc lv (.int y :: .int x :: st) n f cells slots := by
  intro p e s m args below meth c H locs ls C hz hK hO hs hok hP hS hl
  exact lv_ixor C.1 C.2.1 hd (k p e s m args below meth c H locs ls C hz hK hO hs hok hP hS hl)
theorem at_ishl {x y : Int32} (hd : decode M.1 pc = .ok (.ishl, 1)) (k : zq_At l G R M QF (pc + 1) lv (.int (x <<< (y &&& 31)) :: st) n f cells slots) : zq_At l G R M QF pc lv (.int y :: .int x :: st) n f cells slots := by
  intro p e s m args below meth c H locs ls C hz hK hO hs hok hP hS hl
  exact lv_ishl C.1 C.2.1 hd (k p e s m args below meth c H locs ls C hz hK hO hs hok hP hS hl)
theorem at_ishr {x y : Int32} (hd : decode M.1 pc = .ok (.ishr, 1)) (k : zq_At l G R M QF (pc + 1) lv (.int (x >>> (y &&& 31)) :: st) n f cells slots) : zq_At l G R M QF pc lv (.int y :: .int x :: st) n f cells slots := by
  intro p e s m args below meth c H locs ls C hz hK hO hs hok hP hS hl
  exact lv_ishr C.1 C.2.1 hd (k p e s m args below meth c H locs ls C hz hK hO hs hok hP hS hl)
theorem at_iushr {x y v : Int32} (hd : decode M.1 pc = .ok (.iushr, 1)) (hv : (x.toUInt32 >>> (y.toUInt32 &&& Int32.toUInt32 31)).toInt32 = v) (k : zq_At l G R M QF (pc + 1) lv (.int v :: st) n f cells slots) : zq_At l G R M QF pc lv (.int y :: .int x :: st) n f cells slots := by
  intro p e s m args below meth c H locs ls C hz hK hO hs hok hP hS hl
  exact lv_iushr C.1 C.2.1 hd hv (k p e s m args below meth c H locs ls C hz hK hO hs hok hP hS hl)
theorem at_idiv {x y : Int32} (hd : decode M.1 pc = .ok (.idiv, 1)) (hne : ¬ y = 0) (k : zq_At l G R M QF (pc + 1) lv (.int (x / y) :: st) n f cells slots) : zq_At l G R M QF pc lv (.int y :: .int x :: st) n f cells slots := by
  intro p e s m args below meth c H locs ls C hz hK hO hs hok hP hS hl
  exact lv_idiv C.1 C.2.1 hd hne (k p e s m args below meth c H locs ls C hz hK hO hs hok hP hS hl)
theorem at_irem {x y : Int32} (hd : decode M.1 pc = .ok (.irem, 1)) (hne : ¬ y = 0) (k : zq_At l G R M QF (pc + 1) lv (.int (x - x / y * y) :: st) n f cells slots) : zq_At l G R M QF pc lv (.int y :: .int x :: st) n f cells slots := by
  intro p e s m args below meth c H locs ls C hz hK hO hs hok hP hS hl
  exact lv_irem C.1 C.2.1 hd hne (k p e s m args below meth c H locs ls C hz hK hO hs hok hP hS hl)
theorem at_ineg {x : Int32} (hd : decode M.1 pc = .ok (.ineg, 1)) (k : zq_At l G R M QF (pc + 1) lv (.int (-x) :: st) n f cells slots) : zq_At l G R M QF pc lv (.int x :: st) n f cells slots := by
  intro p e s m args below meth c H locs ls C hz hK hO hs hok hP hS hl
  exact lv_ineg C.1 C.2.1 hd (k p e s m args below meth c H locs ls C hz hK hO hs hok hP hS hl)
theorem at_ladd {x y : Int64} (hd : decode M.1 pc = .ok (.ladd, 1)) (k : zq_At l G R M QF (pc + 1) lv (.long (x + y) :: st) n f cells slots) : zq_At l G R M QF pc lv (.long y :: .long x :: st) n f cells slots := by
  intro p e s m args below meth c H locs ls C hz hK hO hs hok hP hS hl
  exact lv_ladd C.1 C.2.1 hd (k p e s m args below meth c H locs ls C hz hK hO hs hok hP hS hl)
theorem at_lsub {x y : Int64} (hd : decode M.1 pc = .ok (.lsub, 1)) (k : zq_At l G R M QF (pc + 1) lv (.long (x - y) :: st) n f cells slots) : zq_At l G R M QF pc lv (.long y :: .long x :: st) n f cells slots := by
  intro p e s m args below meth c H locs ls C hz hK hO hs hok hP hS hl
  exact lv_lsub C.1 C.2.1 hd (k p e s m args below meth c H locs ls C hz hK hO hs hok hP hS hl)
theorem at_lmul {x y : Int64} (hd : decode M.1 pc = .ok (.lmul, 1)) (k : zq_At l G R M QF (pc + 1) lv (.long (x * y) :: st) n f cells slots) : zq_At l G R M QF pc lv (.long y :: .long x :: st) n f cells slots := by
  intro p e s m args below meth c H locs ls C hz hK hO hs hok hP hS hl
  exact lv_lmul C.1 C.2.1 hd (k p e s m args below meth c H locs ls C hz hK hO hs hok hP hS hl)
theorem at_ldiv {x y : Int64} (hd : decode M.1 pc = .ok (.ldiv, 1)) (hne : ¬ y = 0) (k : zq_At l G R M QF (pc + 1) lv (.long (x / y) :: st) n f cells slots) : zq_At l G R M QF pc lv (.long y :: .long x :: st) n f cells slots := by
  intro p e s m args below meth c H locs ls C hz hK hO hs hok hP hS hl
  exact lv_ldiv C.1 C.2.1 hd hne (k p e s m args below meth c H locs ls C hz hK hO hs hok hP hS hl)
theorem at_lrem {x y : Int64} (hd : decode M.1 pc = .ok (.lrem, 1)) (hne : ¬ y = 0) (k : zq_At l G R M QF (pc + 1) lv (.long (x - x / y * y) :: st) n f cells slots) : zq_At l G R M QF pc lv (.long y :: .long x :: st) n f cells slots := by
  intro p e s m args below meth c H locs ls C hz hK hO hs hok hP hS hl
  exact lv_lrem C.1 C.2.1 hd hne (k p e s m args below meth c H locs ls C hz hK hO hs hok hP hS hl)
theorem at_i2l {x : Int32} (hd : decode M.1 pc = .ok (.i2l, 1)) (k : zq_At l G R M QF (pc + 1) lv (.long x.toInt64 :: st) n f cells slots) : zq_At l G R M QF pc lv (.int x :: st) n f cells slots := by
  intro p e s m args below meth c H locs ls C hz hK hO hs hok hP hS hl
  exact lv_i2l C.1 C.2.1 hd rfl (k p e s m args below meth c H locs ls C hz hK hO hs hok hP hS hl)
theorem at_l2i {x : Int64} (hd : decode M.1 pc = .ok (.l2i, 1)) (k : zq_At l G R M QF (pc + 1) lv (.int x.toInt32 :: st) n f cells slots) : zq_At l G R M QF pc lv (.long x :: st) n f cells slots := by
  intro p e s m args below meth c H locs ls C hz hK hO hs hok hP hS hl
  exact lv_l2i C.1 C.2.1 hd rfl (k p e s m args below meth c H locs ls C hz hK hO hs hok hP hS hl)
theorem at_i2b {x : Int32} (hd : decode M.1 pc = .ok (.i2b, 1)) (k : zq_At l G R M QF (pc + 1) lv (.int x.toInt8.toInt32 :: st) n f cells slots) : zq_At l G R M QF pc lv (.int x :: st) n f cells slots := by
  intro p e s m args below meth c H locs ls C hz hK hO hs hok hP hS hl
  exact lv_i2b C.1 C.2.1 hd rfl (k p e s m args below meth c H locs ls C hz hK hO hs hok hP hS hl)
theorem at_lcmp {x y : Int64} (hd : decode M.1 pc = .ok (.lcmp, 1)) (k : zq_At l G R M QF (pc + 1) lv (.int (lg_cmp x y) :: st) n f cells slots) : zq_At l G R M QF pc lv (.long y :: .long x :: st) n f cells slots := by
  intro p e s m args below meth c H locs ls C hz hK hO hs hok hP hS hl
  exact W.lcmp C.1 C.2.1 hd (k p e s m args below meth c H locs ls C hz hK hO hs hok hP hS hl)
theorem at_dup {a : Value} (hd : decode M.1 pc = .ok (.dup, 1)) (ha : a.category = 1) (k : zq_At l G R M QF (pc + 1) lv (a :: a :: st) n f cells slots) : zq_At l G R M QF pc lv (a :: st) n f cells slots := by
  intro p e s m args below meth c H locs ls C hz hK hO hs hok hP hS hl
  exact lv_dup C.1 C.2.1 hd ((zq_cat G a).trans ha) (k p e s m args below meth c H locs ls C hz hK hO hs hok hP hS hl)
theorem at_dup2 {a b : Value} (hd : decode M.1 pc = .ok (.dup2, 1)) (ha : a.category = 1) (hb : b.category = 1) (k : zq_At l G R M QF (pc + 1) lv (a :: b :: a :: b :: st) n f cells slots) : zq_At l G R M QF pc lv (a :: b :: st) n f cells slots := by
  intro p e s m args below meth c H locs ls C hz hK hO hs hok hP hS hl
  exact lv_dup2_11 C.1 C.2.1 hd ((zq_cat G a).trans ha) ((zq_cat G b).trans hb) (k p e s m args below meth c H locs ls C hz hK hO hs hok hP hS hl)
theorem at_dup_x1 {a b : Value} (hd : decode M.1 pc = .ok (.dup_x1, 1)) (ha : a.category = 1) (hb : b.category = 1) (k : zq_At l G R M QF (pc + 1) lv (a :: b :: a :: st) n f cells slots) : zq_At l G R M QF pc lv (a :: b :: st) n f cells slots := by
  intro p e s m args below meth c H locs ls C hz hK hO hs hok hP hS hl
  exact lv_dup_x1 C.1 C.2.1 hd ((zq_cat G a).trans ha) ((zq_cat G b).trans hb) (k p e s m args below meth c H locs ls C hz hK hO hs hok hP hS hl)
theorem at_pop {a : Value} (hd : decode M.1 pc = .ok (.pop, 1)) (ha : a.category = 1) (k : zq_At l G R M QF (pc + 1) lv st n f cells slots) : zq_At l G R M QF pc lv (a :: st) n f cells slots := by
  intro p e s m args below meth c H locs ls C hz hK hO hs hok hP hS hl
  exact lv_pop C.1 C.2.1 hd ((zq_cat G a).trans ha) (k p e s m args below meth c H locs ls C hz hK hO hs hok hP hS hl)
theorem at_if_eq {x : Int32} {off : Int} {tgt : Nat} (hd : decode M.1 pc = .ok (.ifCond .eq off, 3)) (ht : (pc : Int) + off = (tgt : Int)) (kt : (x = 0) → zq_At l G R M QF tgt lv st n f cells slots) (kf : ¬ (x = 0) → zq_At l G R M QF (pc + 3) lv st n f cells slots) : zq_At l G R M QF pc lv (.int x :: st) n f cells slots := by
  intro p e s m args below meth c H locs ls C hz hK hO hs hok hP hS hl
  exact lv_if_eq C.1 C.2.1 hd ht (fun h => kt h p e s m args below meth c H locs ls C hz hK hO hs hok hP hS hl) (fun h => kf h p e s m args below meth c H locs ls C hz hK hO hs hok hP hS hl)
theorem at_icmp_eq {x y : Int32} {off : Int} {tgt : Nat} (hd : decode M.1 pc = .ok (.if_icmp .eq off, 3)) (ht : (pc : Int) + off = (tgt : Int)) (kt : (x = y) → zq_At l G R M QF tgt lv st n f cells slots) (kf : ¬ (x = y) → zq_At l G R M QF (pc + 3) lv st n f cells slots) : zq_At l G R M QF pc lv (.int y :: .int x :: st) n f cells slots := by
  intro p e s m args below meth c H locs ls C hz hK hO hs hok hP hS hl
  exact lv_icmp_eq C.1 C.2.1 hd ht (fun h => kt h p e s m args below meth c H locs ls C hz hK hO hs hok hP hS hl) (fun h => kf h p e s m args below meth c H locs ls C hz hK hO hs hok hP hS hl)
theorem at_if_ne {x : Int32} {off : Int} {tgt : Nat} (hd : decode M.1 pc = .ok (.ifCond .ne off, 3)) (ht : (pc : Int) + off = (tgt : Int)) (kt : (¬ x = 0) → zq_At l G R M QF tgt lv st n f cells slots) (kf : (x = 0) → zq_At l G R M QF (pc + 3) lv st n f cells slots) : zq_At l G R M QF pc lv (.int x :: st) n f cells slots := by
  intro p e s m args below meth c H locs ls C hz hK hO hs hok hP hS hl
  exact lv_if_ne C.1 C.2.1 hd ht (fun h => kt h p e s m args below meth c H locs ls C hz hK hO hs hok hP hS hl) (fun h => kf h p e s m args below meth c H locs ls C hz hK hO hs hok hP hS hl)
theorem at_icmp_ne {x y : Int32} {off : Int} {tgt : Nat} (hd : decode M.1 pc = .ok (.if_icmp .ne off, 3)) (ht : (pc : Int) + off = (tgt : Int)) (kt : (¬ x = y) → zq_At l G R M QF tgt lv st n f cells slots) (kf : (x = y) → zq_At l G R M QF (pc + 3) lv st n f cells slots) : zq_At l G R M QF pc lv (.int y :: .int x :: st) n f cells slots := by
  intro p e s m args below meth c H locs ls C hz hK hO hs hok hP hS hl
  exact lv_icmp_ne C.1 C.2.1 hd ht (fun h => kt h p e s m args below meth c H locs ls C hz hK hO hs hok hP hS hl) (fun h => kf h p e s m args below meth c H locs ls C hz hK hO hs hok hP hS hl)
theorem at_if_lt {x : Int32} {off : Int} {tgt : Nat} (hd : decode M.1 pc = .ok (.ifCond .lt off, 3)) (ht : (pc : Int) + off = (tgt : Int)) (kt : (x < 0) → zq_At l G R M QF tgt lv st n f cells slots) (kf : ¬ (x < 0) → zq_At l G R M QF (pc + 3) lv st n f cells slots) : zq_At l G R M QF pc lv (.int x :: st) n f cells slots := by
  intro p e s m args below meth c H locs ls C hz hK hO hs hok hP hS hl
  exact lv_if_lt C.1 C.2.1 hd ht (fun h => kt h p e s m args below meth c H locs ls C hz hK hO hs hok hP hS hl) (fun h => kf h p e s m args below meth c H locs ls C hz hK hO hs hok hP hS hl)
theorem at_icmp_lt {x y : Int32} {off : Int} {tgt : Nat} (hd : decode M.1 pc = .ok (.if_icmp .lt off, 3)) (ht : (pc : Int) + off = (tgt : Int)) (kt : (x < y) → zq_At l G R M QF tgt lv st n f cells slots) (kf : ¬ (x < y) → zq_At l G R M QF (pc + 3) lv st n f cells slots) : zq_At l G R M QF pc lv (.int y :: .int x :: st) n f cells slots := by
  intro p e s m args below meth c H locs ls C hz hK hO hs hok hP hS hl
  exact lv_icmp_lt C.1 C.2.1 hd ht (fun h => kt h p e s m args below meth c H locs ls C hz hK hO hs hok hP hS hl) (fun h => kf h p e s m args below meth c H locs ls C hz hK hO hs hok hP hS hl)
theorem at_if_ge {x : Int32} {off : Int} {tgt : Nat} (hd : decode M.1 pc = .ok (.ifCond .ge off, 3)) (ht : (pc : Int) + off = (tgt : Int)) (kt : (0 ≤ x) → zq_At l G R M QF tgt lv st n f cells slots) (kf : ¬ (0 ≤ x) → zq_At l G R M QF (pc + 3) lv st n f cells slots) : zq_At l G R M QF pc lv (.int x :: st) n f cells slots := by
  intro p e s m args below meth c H locs ls C hz hK hO hs hok hP hS hl
  exact lv_if_ge C.1 C.2.1 hd ht (fun h => kt h p e s m args below meth c H locs ls C hz hK hO hs hok hP hS hl) (fun h => kf h p e s m args below meth c H locs ls C hz hK hO hs hok hP hS hl)
theorem at_icmp_ge {x y : Int32} {off : Int} {tgt : Nat} (hd : decode M.1 pc = .ok (.if_icmp .ge off, 3)) (ht : (pc : Int) + off = (tgt : Int)) (kt : (y ≤ x) → zq_At l G R M QF tgt lv st n f cells slots) (kf : ¬ (y ≤ x) → zq_At l G R M QF (pc + 3) lv st n f cells slots) : zq_At l G R M QF pc lv (.int y :: .int x :: st) n f cells slots := by
  intro p e s m args below meth c H locs ls C hz hK hO hs hok hP hS hl
  exact lv_icmp_ge C.1 C.2.1 hd ht (fun h => kt h p e s m args below meth c H locs ls C hz hK hO hs hok hP hS hl) (fun h => kf h p e s m args below meth c H locs ls C hz hK hO hs hok hP hS hl)
theorem at_if_gt {x : Int32} {off : Int} {tgt : Nat} (hd : decode M.1 pc = .ok (.ifCond .gt off, 3)) (ht : (pc : Int) + off = (tgt : Int)) (kt : (0 < x) → zq_At l G R M QF tgt lv st n f cells slots) (kf : ¬ (0 < x) → zq_At l G R M QF (pc + 3) lv st n f cells slots) : zq_At l G R M QF pc lv (.int x :: st) n f cells slots := by
  intro p e s m args below meth c H locs ls C hz hK hO hs hok hP hS hl
  exact lv_if_gt C.1 C.2.1 hd ht (fun h => kt h p e s m args below meth c H locs ls C hz hK hO hs hok hP hS hl) (fun h => kf h p e s m args below meth c H locs ls C hz hK hO hs hok hP hS hl)
theorem at_icmp_gt {x y : Int32} {off : Int} {tgt : Nat} (hd : decode M.1 pc = .ok (.if_icmp .gt off, 3)) (ht : (pc : Int) + off = (tgt : Int)) (kt : (y < x) → zq_At l G R M QF tgt lv st n f cells slots) (kf : ¬ (y < x) → zq_At l G R M QF (pc + 3) lv st n f cells slots) : zq_At l G R M QF pc lv (.int y :: .int x :: st) n f cells slots := by
  intro p e s m args below meth c H locs ls C hz hK hO hs hok hP hS hl
  exact lv_icmp_gt C.1 C.2.1 hd ht (fun h => kt h p e s m args below meth c H locs ls C hz hK hO hs hok hP hS hl) (fun h => kf h p e s m args below meth c H locs ls C hz hK hO hs hok hP hS hl)
theorem at_if_le {x : Int32} {off : Int} {tgt : Nat} (hd : decode M.1 pc = .ok (.ifCond .le off, 3)) (ht : (pc : Int) + off = (tgt : Int)) (kt : (x ≤ 0) → zq_At l G R M QF tgt lv st n f cells slots) (kf : ¬ (x ≤ 0) → zq_At l G R M QF (pc + 3) lv st n f cells slots) : zq_At l G R M QF pc lv (.int x :: st) n f cells slots := by
  intro p e s m args below meth c H locs ls C hz hK hO hs hok hP hS hl
  exact lv_if_le C.1 C.2.1 hd ht (fun h => kt h p e s m args below meth c H locs ls C hz hK hO hs hok hP hS hl) (fun h => kf h p e s m args below meth c H locs ls C hz hK hO hs hok hP hS hl)
theorem at_icmp_le {x y : Int32} {off : Int} {tgt : Nat} (hd : decode M.1 pc = .ok (.if_icmp .le off, 3)) (ht : (pc : Int) + off = (tgt : Int)) (kt : (x ≤ y) → zq_At l G R M QF tgt lv st n f cells slots) (kf : ¬ (x ≤ y) → zq_At l G R M QF (pc + 3) lv st n f cells slots) : zq_At l G R M QF pc lv (.int y :: .int x :: st) n f cells slots := by
  intro p e s m args below meth c H locs ls C hz hK hO hs hok hP hS hl
  exact lv_icmp_le C.1 C.2.1 hd ht (fun h => kt h p e s m args below meth c H locs ls C hz hK hO hs hok hP hS hl) (fun h => kf h p e s m args below meth c H locs ls C hz hK hO hs hok hP hS hl)
theorem at_goto {off : Int} {tgt : Nat} (hd : decode M.1 pc = .ok (.goto off, 3)) (ht : (pc : Int) + off = (tgt : Int)) (k : zq_At l G R M QF tgt lv st n f cells slots) : zq_At l G R M QF pc lv st n f cells slots := by
  intro p e s m args below meth c H locs ls C hz hK hO hs hok hP hS hl
  exact lv_goto C.1 C.2.1 hd ht (k p e s m args below meth c H locs ls C hz hK hO hs hok hP hS hl)
theorem at_ifnull {x : Nat} {off : Int} (hd : decode M.1 pc = .ok (.ifnull off, 3)) (k : zq_At l G R M QF (pc + 3) lv st n f cells slots) : zq_At l G R M QF pc lv (.ref x :: st) n f cells slots := by
  intro p e s m args below meth c H locs ls C hz hK hO hs hok hP hS hl
  exact lv_ifnull C.1 C.2.1 hd (k p e s m args below meth c H locs ls C hz hK hO hs hok hP hS hl)
theorem at_ifnullN {off : Int} {tgt : Nat} (hd : decode M.1 pc = .ok (.ifnull off, 3)) (ht : (pc : Int) + off = (tgt : Int)) (k : zq_At l G R M QF tgt lv st n f cells slots) : zq_At l G R M QF pc lv (.null :: st) n f cells slots := by
  intro p e s m args below meth c H locs ls C hz hK hO hs hok hP hS hl
  exact lv_ifnullN C.1 C.2.1 hd ht (k p e s m args below meth c H locs ls C hz hK hO hs hok hP hS hl)
theorem at_ifnonnull {x : Nat} {off : Int} {tgt : Nat} (hd : decode M.1 pc = .ok (.ifnonnull off, 3)) (ht : (pc : Int) + off = (tgt : Int)) (k : zq_At l G R M QF tgt lv st n f cells slots) : zq_At l G R M QF pc lv (.ref x :: st) n f cells slots := by
  intro p e s m args below meth c H locs ls C hz hK hO hs hok hP hS hl
  exact lv_ifnonnull C.1 C.2.1 hd ht (k p e s m args below meth c H locs ls C hz hK hO hs hok hP hS hl)
theorem at_ifnonnullN {off : Int} (hd : decode M.1 pc = .ok (.ifnonnull off, 3)) (k : zq_At l G R M QF (pc + 3) lv st n f cells slots) : zq_At l G R M QF pc lv (.null :: st) n f cells slots := by
  intro p e s m args below meth c H locs ls C hz hK hO hs hok hP hS hl
  exact lv_ifnonnullN C.1 C.2.1 hd (k p e s m args below meth c H locs ls C hz hK hO hs hok hP hS hl)
theorem at_tableIn {dflt lo hi : Int} {offs : Array Int} {len : Nat} {x : Int32} {off : Int} {tgt : Nat} (hd : decode M.1 pc = .ok (.tableswitch dflt lo hi offs, len)) (h1 : ¬ x.toInt < lo) (h2 : ¬ hi < x.toInt) (ho : offs[(x.toInt - lo).toNat]? = some off) (ht : (pc : Int) + off = (tgt : Int)) (k : zq_At l G R M QF tgt lv st n f cells slots) : zq_At l G R M QF pc lv (.int x :: st) n f cells slots := by
  intro p e s m args below meth c H locs ls C hz hK hO hs hok hP hS hl
  exact lv_tableIn C.1 C.2.1 hd h1 h2 ho ht (k p e s m args below meth c H locs ls C hz hK hO hs hok hP hS hl)
theorem at_tableOut {dflt lo hi : Int} {offs : Array Int} {len : Nat} {x : Int32} {tgt : Nat} (hd : decode M.1 pc = .ok (.tableswitch dflt lo hi offs, len)) (h : x.toInt < lo ∨ hi < x.toInt) (ht : (pc : Int) + dflt = (tgt : Int)) (k : zq_At l G R M QF tgt lv st n f cells slots) : zq_At l G R M QF pc lv (.int x :: st) n f cells slots := by
  intro p e s m args below meth c H locs ls C hz hK hO hs hok hP hS hl
  exact lv_tableOut C.1 C.2.1 hd h ht (k p e s m args below meth c H locs ls C hz hK hO hs hok hP hS hl)
end ZQ1
