/-! ===== rows copied; a quay copied from another one ===== -/
theorem ac_X7_58 : Cond.methodLink RX7 58 arraycopyName ∈ zq_ws := zq_in (zq_t3 (List.mem_of_getElem? (i := 229) rfl)) rfl
theorem ac_X4_19 : Cond.methodLink RX4 19 arraycopyName ∈ zq_ws := zq_in (zq_t3 (List.mem_of_getElem? (i := 235) rfl)) rfl
theorem ac_X2_54 : Cond.methodLink RX2 54 arraycopyName ∈ zq_ws := zq_in (zq_t5 (List.mem_of_getElem? (i := 60) rfl)) rfl
theorem ac_J7_150 : Cond.methodLink RJ7 150 arraycopyName ∈ zq_ws := zq_in (zq_t3 (List.mem_of_getElem? (i := 210) rfl)) rfl
theorem ac_st : Cond.static arraycopyName ∈ zq_ws := zq_in (zq_t3 (List.mem_of_getElem? (i := 211) rfl)) rfl
theorem ac_na : Cond.native arraycopyName ∈ zq_ws := zq_in (zq_t3 (List.mem_of_getElem? (i := 212) rfl)) rfl
theorem ac_in : Cond.initialized "java/lang/System" ∈ zq_ws := zq_in (zq_t1 (List.mem_of_getElem? (i := 20) rfl)) rfl
section ZC4
variable {l : Launch} {G : zq_G} {R : Room} {M : zq_M} {QF : List Frame → Array Value → State → State → Prop} {pc : Nat} {lv : List (Nat × Value)} {st : List Value} {n : Nat} {f : Nat → zq_E} {cells slots : Nat}
theorem at_copyi {idx o0 o1 N0 N1 sp dp k : Nat} {g0 g1 : Nat → Int32} (hd : decode M.1 pc = .ok (.invokestatic idx, 3)) (hL : Cond.methodLink M.2.1 idx arraycopyName ∈ zq_ws) (hf0 : f o0 = .inl (0, N0, .inl g0)) (hf1 : f o1 = .inl (0, N1, .inl g1)) (h4 : sp + k ≤ N0) (h5 : dp + k ≤ N1) (b0 : N0 < 2147483648) (b1 : N1 < 2147483648) (hcat : (st.map fun v => v.category).sum ≤ 8) (hR : 1 ≤ R.frames ∧ 26 ≤ R.locals)
    (kk : zq_At l G R M QF (pc + 3) lv st n (va_up f o1 (.inl (0, N1, .inl (va_cpy g0 g1 sp dp k)))) cells slots) : zq_At l G R M QF pc lv (.int (nI k) :: .int (nI dp) :: .ref o1 :: .int (nI sp) :: .ref o0 :: st) n f cells slots := by
  intro p e s m args below meth c H locs ls C hz hK hO hs hok hP hS hl T hT X
  have hts := C.2.2.2.2.1
  obtain ⟨j0, rfl, hj0⟩ := zq_arr hok hf0 (by decide)
  obtain ⟨j1, rfl, hj1⟩ := zq_arr hok hf1 (by decide)
  have ha0 : (zq_W G n f)[j0]? = some (G.2.2.2 + j0, .inl (G.2.1 0, N0, .inl g0)) := by rw [zq_W_get hj0, hf0]; rfl
  have ha1 : (zq_W G n f)[j1]? = some (G.2.2.2 + j1, .inl (G.2.1 0, N1, .inl g1)) := by rw [zq_W_get hj1, hf1]; rfl
  have hc0 : H[G.2.2.2 + j0]? = some (vp_cell (G.2.1 0) (N0, .inl g0)) := hP j0 _ ha0
  have hc1 : H[G.2.2.2 + j1]? = some (vp_cell (G.2.1 0) (N1, .inl g1)) := hP j1 _ ha1
  obtain ⟨-, k0, hk0, cm0, hkk0⟩ := (hK.2 0 _ rfl).1 N0 (fun j => .int (g0 j))
  obtain ⟨-, k1, hk1, cm1, hkk1⟩ := (hK.2 0 _ rfl).1 N1 (fun j => .int (g1 j))
  have ek : (nI k).toNatClampNeg = k := nI_clamp (by omega)
  have es : (nI sp).toNatClampNeg = sp := nI_clamp (by omega)
  have ed : (nI dp).toNatClampNeg = dp := nI_clamp (by omega)
  obtain ⟨vm', X', step⟩ := X.arraycopy C.1 C.2.2.2.1 (hts _ hL) (hts _ ac_na) (hts _ ac_st) (hts _ ac_in) (src := G.2.2.2 + j0) (dst := G.2.2.2 + j1) (cs := vp_cell (G.2.1 0) (N0, .inl g0)) (cd := vp_cell (G.2.1 0) (N1, .inl g1)) (srcPos := nI sp) (destPos := nI dp) (n := nI k) (by rw [hT]; exact hc0) (by rw [hT]; exact hc1)
    (fun _ h => by cases h) (fun _ h => by cases h) (fun h => by cases h) (fun h => by cases h) hk0 hk1 hkk0 hkk1 (by simp [refKind]) (nI_pos (by omega)) (nI_pos (by omega)) (nI_pos (by omega))
    (by rw [nI_toInt (by omega), nI_toInt (by omega)]; show ¬ _ > ((arrV (G.2.1 0) N0 (fun j => .int (g0 j))).slots.size : Int); rw [arrV_size]; omega)
    (by rw [nI_toInt (by omega), nI_toInt (by omega)]; show ¬ _ > ((arrV (G.2.1 0) N1 (fun j => .int (g1 j))).slots.size : Int); rw [arrV_size]; omega)
    (fun vm₁ _ i hi => by
      rw [ek] at hi
      have e : (vp_cell (G.2.1 0) (N0, .inl g0)).slots.getD ((nI sp).toNatClampNeg + i) .null = .int (g0 ((nI sp).toNatClampNeg + i)) := by
        show (arrV (G.2.1 0) N0 (fun j => .int (g0 j))).slots.getD _ _ = _
        rw [Array.getD_eq_getD_getElem?, arrV_read _ _ (by rw [es]; omega)]
        rfl
      rw [e]
      exact ⟨rfl, trivial⟩)
    (g := F0 m pc ls ((.int (nI k) :: .int (nI dp) :: .ref (j1 + 8) :: .int (nI sp) :: .ref (j0 + 8) :: st).map (zq_v G))) rfl (by rw [← C.2.2.1] at hl; exact hl.1) (rest := st.map (zq_v G)) (by show _ = _; simp only [List.map_cons, zq_v, zq_ad_p]) (by rw [C.2.1]; exact hd) hR.1 (by show 2 * 0 + _ + (5 + 2 + 11) ≤ _; rw [zq_sum]; omega)
  have e1 : copied (vp_cell (G.2.1 0) (N0, .inl g0)) (vp_cell (G.2.1 0) (N1, .inl g1)) (nI sp) (nI dp) (nI k) = vp_cell (G.2.1 0) (N1, .inl (va_cpy g0 g1 sp dp k)) := by
    refine (va_copied (fun z => .int z) (G.2.1 0) (G.2.1 0) g0 g1 (by rw [es, ek]; exact h4)).trans ?_
    rw [es, ed, ek]
    rfl
  rw [e1] at X' step
  have hlt : G.2.2.2 + j1 < H.size := (Array.getElem?_eq_some_iff.mp hc1).1
  have hheap : ((T.setVm vm').setCell (G.2.2.2 + j1) (vp_cell (G.2.1 0) (N1, .inl (va_cpy g0 g1 sp dp k)))).heap = H.setIfInBounds (G.2.2.2 + j1) (vp_cell (G.2.1 0) (N1, .inl (va_cpy g0 g1 sp dp k))) := by rw [← hT]; rfl
  have oq : ∀ q : Nat, q ≠ G.2.2.2 + j1 → (H.setIfInBounds (G.2.2.2 + j1) (vp_cell (G.2.1 0) (N1, .inl (va_cpy g0 g1 sp dp k))))[q]? = H[q]? := fun q hq => by simp [Array.getElem?_setIfInBounds, Ne.symm hq]
  obtain ⟨t, a1, b1⟩ := kk p e s m args below meth c _ _ ls C hz hK hO (by rw [Array.size_setIfInBounds]; exact hs) (hok.up hj1) (zq_set hP hj1 (show (H.setIfInBounds (G.2.2.2 + j1) _)[G.2.2.2 + j1]? = some _ by simp [Array.getElem?_setIfInBounds, hlt]; rfl) oq) ⟨by simp; exact hS.1, fun q g1 g2 => by
      rw [oq q (fun e => g2 (by rw [e]; exact Nat.le_add_right _ _))]
      exact hS.2.1 q g1 g2, fun q hq => by
      rcases List.mem_append.mp hq with h | h
      · exact hS.2.2 q h
      · obtain ⟨z, -, hz⟩ := List.mem_map.mp h
        rw [← hz]
        exact Nat.le_add_right _ _⟩ hl _ hheap X'
  exact ⟨t, step t a1, b1⟩
end ZC4

