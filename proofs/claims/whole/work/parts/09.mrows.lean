/-! ===== rows over the Model's pool ===== -/
section ZM1
variable {l : Launch} {G : zq_G} {R : Room} {M : zq_M} {QF : List Frame → Array Value → State → State → Prop} {pc : Nat} {lv : List (Nat × Value)} {st : List Value} {n : Nat} {σ : zm_S} {ρ : Nat → zq_E} {cells slots : Nat}
theorem at_mput {idx k : Nat} {v : Int32} (hd : decode M.1 pc = .ok (.putfield idx, 3)) (hL : zq_PL M.2.1 M.2.2.1 idx 12 k) (hk : ∀ i, ∃ w : Int32, (zm_fs i)[k]? = some (.int w)) (hn : narrow (zq_ty 12 k) (.int v) = .int v) (hft : fits (zq_ty 12 k) (.int v) = true) (kk : zq_At l G R M QF (pc + 3) lv st n (zm_h (zm_si σ k v) ρ) cells slots) : zq_At l G R M QF pc lv (.int v :: .ref 70 :: st) n (zm_h σ ρ) cells slots := by
  refine at_put hd hL (zm_obj σ ρ) ?_ (fun _ => hn) (fun _ => hft) ?_
  · obtain ⟨w, hw⟩ := hk σ.1
    exact (List.getElem?_eq_some_iff.mp hw).1
  · rw [zm_up_i σ ρ k v (hk σ.1)]
    exact kk
theorem at_mald {a j : Nat} {i : Int32} (hd : decode M.1 pc = .ok (.iaload, 1)) (h1 : 71 ≤ a) (h2 : a ≤ 97) (h3 : a ≠ 93) (h4 : a ≠ 96) (ht : zm_tag a = 0) (hi : i = nI j) (hj : j < zm_len a) (hl : zm_len a < 2147483648) (kk : zq_At l G R M QF (pc + 1) lv (.int (σ.2.1 a j) :: st) n (zm_h σ ρ) cells slots) : zq_At l G R M QF pc lv (.int i :: .ref a :: st) n (zm_h σ ρ) cells slots := by
  obtain ⟨e1, e2⟩ := zn_in hi hj hl
  refine at_iald hd ((zm_arr σ ρ h1 h2 h3 h4).trans (by rw [ht])) e1 ?_
  rw [e2]
  exact kk
theorem at_mast {a j : Nat} {i v : Int32} (hd : decode M.1 pc = .ok (.iastore, 1)) (h1 : 71 ≤ a) (h2 : a ≤ 97) (h3 : a ≠ 93) (h4 : a ≠ 96) (ht : zm_tag a = 0) (hi : i = nI j) (hj : j < zm_len a) (hl : zm_len a < 2147483648) (kk : zq_At l G R M QF (pc + 1) lv st n (zm_h (zm_sa σ a j v) ρ) cells slots) : zq_At l G R M QF pc lv (.int v :: .int i :: .ref a :: st) n (zm_h σ ρ) cells slots := by
  obtain ⟨e1, e2⟩ := zn_in hi hj hl
  refine at_iast hd ((zm_arr σ ρ h1 h2 h3 h4).trans (by rw [ht])) e1 ?_
  have := zm_up_a σ ρ (i := j) (v := v) h1 h2 h3 h4
  rw [ht] at this
  rw [e2, this]
  exact kk
theorem at_mbald {a j : Nat} {i : Int32} (hd : decode M.1 pc = .ok (.baload, 1)) (h1 : 71 ≤ a) (h2 : a ≤ 97) (h3 : a ≠ 93) (h4 : a ≠ 96) (ht : zm_tag a = 1) (hi : i = nI j) (hj : j < zm_len a) (hl : zm_len a < 2147483648) (kk : zq_At l G R M QF (pc + 1) lv (.int (σ.2.1 a j) :: st) n (zm_h σ ρ) cells slots) : zq_At l G R M QF pc lv (.int i :: .ref a :: st) n (zm_h σ ρ) cells slots := by
  obtain ⟨e1, e2⟩ := zn_in hi hj hl
  refine at_bald hd ((zm_arr σ ρ h1 h2 h3 h4).trans (by rw [ht])) e1 ?_
  rw [e2]
  exact kk
theorem at_mbast {a j : Nat} {i v : Int32} (hd : decode M.1 pc = .ok (.bastore, 1)) (h1 : 71 ≤ a) (h2 : a ≤ 97) (h3 : a ≠ 93) (h4 : a ≠ 96) (ht : zm_tag a = 1) (hi : i = nI j) (hj : j < zm_len a) (hl : zm_len a < 2147483648) (kk : zq_At l G R M QF (pc + 1) lv st n (zm_h (zm_sa σ a j v.toInt8.toInt32) ρ) cells slots) : zq_At l G R M QF pc lv (.int v :: .int i :: .ref a :: st) n (zm_h σ ρ) cells slots := by
  obtain ⟨e1, e2⟩ := zn_in hi hj hl
  refine at_bast hd ((zm_arr σ ρ h1 h2 h3 h4).trans (by rw [ht])) e1 ?_
  have := zm_up_a σ ρ (i := j) (v := v.toInt8.toInt32) h1 h2 h3 h4
  rw [ht] at this
  rw [e2, this]
  exact kk
theorem at_mzald {a j : Nat} {i : Int32} (hd : decode M.1 pc = .ok (.baload, 1)) (h1 : 71 ≤ a) (h2 : a ≤ 97) (h3 : a ≠ 93) (h4 : a ≠ 96) (ht : zm_tag a = 2) (hi : i = nI j) (hj : j < zm_len a) (hl : zm_len a < 2147483648) (kk : zq_At l G R M QF (pc + 1) lv (.int (σ.2.1 a j) :: st) n (zm_h σ ρ) cells slots) : zq_At l G R M QF pc lv (.int i :: .ref a :: st) n (zm_h σ ρ) cells slots := by
  obtain ⟨e1, e2⟩ := zn_in hi hj hl
  refine at_zald hd ((zm_arr σ ρ h1 h2 h3 h4).trans (by rw [ht])) e1 ?_
  rw [e2]
  exact kk
theorem at_mzast {a j : Nat} {i v : Int32} (hd : decode M.1 pc = .ok (.bastore, 1)) (h1 : 71 ≤ a) (h2 : a ≤ 97) (h3 : a ≠ 93) (h4 : a ≠ 96) (ht : zm_tag a = 2) (hi : i = nI j) (hj : j < zm_len a) (hl : zm_len a < 2147483648) (hv : v = 0 ∨ v = 1) (kk : zq_At l G R M QF (pc + 1) lv st n (zm_h (zm_sa σ a j v) ρ) cells slots) : zq_At l G R M QF pc lv (.int v :: .int i :: .ref a :: st) n (zm_h σ ρ) cells slots := by
  obtain ⟨e1, e2⟩ := zn_in hi hj hl
  refine at_zast hd ((zm_arr σ ρ h1 h2 h3 h4).trans (by rw [ht])) e1 ?_
  have := zm_up_a σ ρ (i := j) (v := v) h1 h2 h3 h4
  rw [ht] at this
  have hb : vp_nar .boolean v = v := by rcases hv with rfl | rfl <;> rfl
  rw [e2, hb, this]
  exact kk
theorem at_ml0ld {j : Nat} {i : Int32} (hd : decode M.1 pc = .ok (.laload, 1)) (hi : i = nI j) (hj : j < 21) (kk : zq_At l G R M QF (pc + 1) lv (.long (σ.2.2 0 j) :: st) n (zm_h σ ρ) cells slots) : zq_At l G R M QF pc lv (.int i :: .ref 93 :: st) n (zm_h σ ρ) cells slots := by
  obtain ⟨e1, e2⟩ := zn_in hi hj (by decide)
  refine at_lald (o := 93) (g := σ.2.2 0) hd rfl e1 ?_
  rw [e2]
  exact kk
theorem at_ml0st {j : Nat} {i : Int32} {v : Int64} (hd : decode M.1 pc = .ok (.lastore, 1)) (hi : i = nI j) (hj : j < 21) (kk : zq_At l G R M QF (pc + 1) lv st n (zm_h (zm_sl σ 0 j v) ρ) cells slots) : zq_At l G R M QF pc lv (.long v :: .int i :: .ref 93 :: st) n (zm_h σ ρ) cells slots := by
  obtain ⟨e1, e2⟩ := zn_in hi hj (by decide)
  refine at_last (o := 93) (g := σ.2.2 0) hd rfl e1 ?_
  rw [e2, zm_up_l0]
  exact kk
theorem at_ml1ld {j : Nat} {i : Int32} (hd : decode M.1 pc = .ok (.laload, 1)) (hi : i = nI j) (hj : j < 3) (kk : zq_At l G R M QF (pc + 1) lv (.long (σ.2.2 1 j) :: st) n (zm_h σ ρ) cells slots) : zq_At l G R M QF pc lv (.int i :: .ref 96 :: st) n (zm_h σ ρ) cells slots := by
  obtain ⟨e1, e2⟩ := zn_in hi hj (by decide)
  refine at_lald (o := 96) (g := σ.2.2 1) hd rfl e1 ?_
  rw [e2]
  exact kk
theorem at_ml1st {j : Nat} {i : Int32} {v : Int64} (hd : decode M.1 pc = .ok (.lastore, 1)) (hi : i = nI j) (hj : j < 3) (kk : zq_At l G R M QF (pc + 1) lv st n (zm_h (zm_sl σ 1 j v) ρ) cells slots) : zq_At l G R M QF pc lv (.long v :: .int i :: .ref 96 :: st) n (zm_h σ ρ) cells slots := by
  obtain ⟨e1, e2⟩ := zn_in hi hj (by decide)
  refine at_last (o := 96) (g := σ.2.2 1) hd rfl e1 ?_
  rw [e2, zm_up_l1]
  exact kk
end ZM1
