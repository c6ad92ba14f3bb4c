/-! ===== the class: which word a token is ===== -/
section ZS2
variable {l : Launch} {G : zq_G} {R : Room} {M : zq_M} {QF : List Frame → Array Value → State → State → Prop} {pc : Nat} {lv : List (Nat × Value)} {st : List Value} {n : Nat} {f : Nat → zq_E} {cells slots : Nat}
theorem at_callVS0 {idx d mc ms : Nat} {y : MethodName} (hd : decode M.1 pc = .ok (.invokevirtual idx, 3)) (hL : zq_MVS M.2.1 idx y 0) (hcat : (st.map fun v => v.category).sum ≤ 8) (hR : d + 1 ≤ R.frames ∧ 60 * d + 59 ≤ R.locals ∧ cells + mc ≤ R.cells ∧ slots + ms ≤ R.slots)
    (hr : zq_Runs l G d mc ms y [.ref 5] n f (fun r n1 f1 => zq_At l G R M QF (pc + 3) lv (r.toList ++ st) n1 f1 (cells + mc) (slots + ms))) : zq_At l G R M QF pc lv (.ref 5 :: st) n f cells slots := at_callVS [] hd hL rfl hcat hR hr
theorem at_callVS1 {idx d mc ms : Nat} {y : MethodName} {v : Value} (hd : decode M.1 pc = .ok (.invokevirtual idx, 3)) (hL : zq_MVS M.2.1 idx y 1) (hcat : (st.map fun v => v.category).sum ≤ 8) (hR : d + 1 ≤ R.frames ∧ 60 * d + 59 ≤ R.locals ∧ cells + mc ≤ R.cells ∧ slots + ms ≤ R.slots)
    (hr : zq_Runs l G d mc ms y [.ref 5, v] n f (fun r n1 f1 => zq_At l G R M QF (pc + 3) lv (r.toList ++ st) n1 f1 (cells + mc) (slots + ms))) : zq_At l G R M QF pc lv (v :: .ref 5 :: st) n f cells slots := at_callVS [v] hd hL rfl hcat hR hr
end ZS2
/-- the class's words -/
def zCw : List (List Nat) := [[112, 101, 114, 115, 111, 110], [112, 108, 97, 99, 101], [108, 101, 110, 103, 116, 104], [97, 116], [108, 101, 116, 116, 101, 114], [110, 101, 119], [100, 97, 121], [109, 111, 111, 100], [100, 111, 110, 101], [108, 97, 116, 101, 115, 116], [98, 114, 101, 97, 107, 115], [115, 119, 97, 112, 115], [119, 104, 111], [110, 97, 109, 101], [115, 116, 114, 111, 107, 101, 115], [115, 116, 101, 112, 115], [98, 97, 114, 115], [115, 116, 114, 111, 107, 101], [115, 119, 97, 112], [100, 101, 99, 114, 101, 101], [112, 97, 115, 115], [116, 111], [116, 105, 109, 101, 115], [105, 102], [111, 114], [97, 110, 100], [110, 111, 116]]
def zBt (i : Nat) : Int32 := zq_bytes.getD i 0 &&& 255
theorem zq_len_eq : zq_len = 143 := by decide +kernel
def zspB (B : Nat → Int32) : Nat → List (List Nat) → Bool
  | k, [] => decide (k = 143)
  | k, u :: us => (List.range u.length).all (fun i => decide (B (k + i) = nI (u.getD i 0)) && (decide (u.getD i 0 < 128) && decide (u.getD i 0 ≠ 32))) && (decide (B (k + u.length) = nI 32) && (decide (k + u.length < 143) && zspB B (k + u.length + 1) us))
theorem zspB_l {B : Nat → Int32} : ∀ (us : List (List Nat)) (k : Nat), zspB B k us = true → zspell B k us
  | [], k, h => (by unfold zspB at h; exact (decide_eq_true_eq.mp h : k = 143))
  | u :: us, k, h => by
    unfold zspB at h
    rw [Bool.and_eq_true, Bool.and_eq_true, Bool.and_eq_true, List.all_eq_true, decide_eq_true_eq, decide_eq_true_eq] at h
    refine ⟨fun i hi => ?_, h.2.1, h.2.2.1, zspB_l us _ h.2.2.2⟩
    have := h.1 i (List.mem_range.mpr hi)
    rw [Bool.and_eq_true, Bool.and_eq_true, decide_eq_true_eq, decide_eq_true_eq, decide_eq_true_eq] at this
    exact this
theorem zCsp : zspell zBt 0 zCw := zspB_l zCw 0 (by decide +kernel)
theorem zword_out {T : Nat → Int32} {a b : Nat} : ∀ us w, 1 ≤ w → zword T a b us w = 0 → ∀ u ∈ us, zisw T a b u = false
  | [], _, _, _, u, h => by cases h
  | v :: us, w, hw, h, u, hu => by
    unfold zword at h
    by_cases hv : zisw T a b v = true
    · rw [if_pos hv] at h; omega
    · rw [if_neg hv] at h
      rcases List.mem_cons.mp hu with rfl | hu
      · exact Bool.eq_false_iff.mpr hv
      · exact zword_out us (w + 1) (by omega) h u hu
theorem zword_in {T : Nat → Int32} {a b : Nat} : ∀ us w, zword T a b us w ≠ 0 → ∃ i, i < us.length ∧ zword T a b us w = w + i ∧ zisw T a b (us.getD i []) = true
  | [], _, h => absurd rfl h
  | v :: us, w, h => by
    unfold zword at h ⊢
    by_cases hv : zisw T a b v = true
    · rw [if_pos hv]
      exact ⟨0, Nat.succ_pos _, rfl, hv⟩
    · rw [if_neg hv] at h ⊢
      obtain ⟨i, h1, h2, h3⟩ := zword_in us (w + 1) h
      exact ⟨i + 1, Nat.succ_lt_succ h1, by omega, h3⟩
theorem zeqF_at {T : Nat → Int32} {a : Nat} {u : List Nat} : ∀ r i, zeqF T a u r i = true → ∀ j, i ≤ j → j < i + r → nI (u.getD j 0) = T (a + j)
  | 0, i, _, j, h1, h2 => by omega
  | r + 1, i, h, j, h1, h2 => by
    unfold zeqF at h
    rw [Bool.and_eq_true, decide_eq_true_eq] at h
    by_cases e : j = i
    · subst e; exact h.1
    · exact zeqF_at r (i + 1) h.2 j (by omega) (by omega)
theorem zisw_one {T : Nat → Int32} {a b : Nat} {u u' : List Nat} (h1 : ∀ x ∈ u, x < 128) (h2 : ∀ x ∈ u', x < 128) (h : zisw T a b u = true) (h' : zisw T a b u' = true) : u = u' := by
  unfold zisw at h h'
  rw [Bool.and_eq_true, decide_eq_true_eq] at h h'
  have hl : u.length = u'.length := by omega
  refine List.ext_getElem hl (fun i hi hi' => ?_)
  have e1 := zeqF_at _ _ h.2 i (Nat.zero_le _) (by omega)
  have e2 := zeqF_at _ _ h'.2 i (Nat.zero_le _) (by omega)
  rw [List.getD_eq_getElem?_getD, List.getElem?_eq_getElem hi, Option.getD_some] at e1
  rw [List.getD_eq_getElem?_getD, List.getElem?_eq_getElem hi', Option.getD_some] at e2
  have g1 := h1 _ (List.getElem_mem hi)
  have g2 := h2 _ (List.getElem_mem hi')
  exact (nI_eq (by omega) (by omega)).mp (e1.trans e2.symm)
theorem zwords_lt : ∀ u ∈ zMw, ∀ x ∈ u, x < 128 := by decide +kernel
theorem zwords_ltC : ∀ u ∈ zCw, ∀ x ∈ u, x < 128 := by decide +kernel
theorem zwords_at : ∀ i : Fin 27, zCw.getD (zwm (i.1 + 1) - 1) [] = zMw.getD i.1 [] := by decide +kernel
theorem zwords_inj : ∀ i j : Fin 27, zCw.getD i.1 [] = zCw.getD j.1 [] → i = j := by decide +kernel
theorem zget_mem {L : List (List Nat)} {i : Nat} (h : i < L.length) : L.getD i [] ∈ L := by
  rw [List.getD_eq_getElem?_getD, List.getElem?_eq_getElem h, Option.getD_some]
  exact List.getElem_mem h
theorem zcw_eq (T : Nat → Int32) (a b : Nat) : zword T a b zCw 1 = zwm (zword T a b zMw 1) := by
  by_cases h0 : zword T a b zMw 1 = 0
  · rw [h0]
    show _ = 0
    by_cases h1 : zword T a b zCw 1 = 0
    · exact h1
    · obtain ⟨i, i1, i2, i3⟩ := zword_in _ _ h1
      have hm : zCw.getD i [] ∈ zMw := by
        have : ∀ i : Fin 27, zCw.getD i.1 [] ∈ zMw := by decide +kernel
        exact this ⟨i, i1⟩
      rw [zword_out _ _ (by decide) h0 _ hm] at i3
      cases i3
  · obtain ⟨i, i1, i2, i3⟩ := zword_in _ _ h0
    have i1 : i < 27 := i1
    have hw := zwm_in (k := i + 1) (by omega) (by omega)
    have hat := zwords_at ⟨i, i1⟩
    by_cases h1 : zword T a b zCw 1 = 0
    · have hm : zCw.getD (zwm (i + 1) - 1) [] ∈ zCw := zget_mem (by show _ < 27; omega)
      have := zword_out _ _ (by decide) h1 _ hm
      rw [hat, i3] at this
      cases this
    · obtain ⟨j, j1, j2, j3⟩ := zword_in _ _ h1
      have j1 : j < 27 := j1
      have e := zisw_one (zwords_ltC _ (zget_mem j1)) (zwords_lt _ (zget_mem i1)) j3 i3
      rw [← hat] at e
      have := zwords_inj ⟨j, j1⟩ ⟨zwm (i + 1) - 1, by omega⟩ e
      have : j = zwm (i + 1) - 1 := congrArg Fin.val this
      rw [i2, j2, Nat.add_comm 1 i]
      omega
theorem dX8_wordOf_0 : decode cX8_wordOf 0 = .ok (.iconst 1, 1) := by decide +kernel
theorem dX8_wordOf_1 : decode cX8_wordOf 1 = .ok (.istore_n 3, 1) := by decide +kernel
theorem dX8_wordOf_2 : decode cX8_wordOf 2 = .ok (.iload_n 1, 1) := by decide +kernel
theorem dX8_wordOf_3 : decode cX8_wordOf 3 = .ok (.istore 4, 2) := by decide +kernel
theorem dX8_wordOf_5 : decode cX8_wordOf 5 = .ok (.iconst 1, 1) := by decide +kernel
theorem dX8_wordOf_6 : decode cX8_wordOf 6 = .ok (.istore 5, 2) := by decide +kernel
theorem dX8_wordOf_8 : decode cX8_wordOf 8 = .ok (.iconst 0, 1) := by decide +kernel
theorem dX8_wordOf_9 : decode cX8_wordOf 9 = .ok (.istore 6, 2) := by decide +kernel
theorem dX8_wordOf_11 : decode cX8_wordOf 11 = .ok (.iload 6, 2) := by decide +kernel
theorem dX8_wordOf_13 : decode cX8_wordOf 13 = .ok (.ldc 85, 2) := by decide +kernel
theorem dX8_wordOf_15 : decode cX8_wordOf 15 = .ok (.invokevirtual 87, 3) := by decide +kernel
theorem dX8_wordOf_18 : decode cX8_wordOf 18 = .ok (.if_icmp .ge 87, 3) := by decide +kernel
theorem dX8_wordOf_21 : decode cX8_wordOf 21 = .ok (.ldc 85, 2) := by decide +kernel
theorem dX8_wordOf_23 : decode cX8_wordOf 23 = .ok (.iload 6, 2) := by decide +kernel
theorem dX8_wordOf_25 : decode cX8_wordOf 25 = .ok (.invokevirtual 93, 3) := by decide +kernel
theorem dX8_wordOf_28 : decode cX8_wordOf 28 = .ok (.istore 7, 2) := by decide +kernel
theorem dX8_wordOf_30 : decode cX8_wordOf 30 = .ok (.iload 7, 2) := by decide +kernel
theorem dX8_wordOf_32 : decode cX8_wordOf 32 = .ok (.bipush 32, 2) := by decide +kernel
theorem dX8_wordOf_34 : decode cX8_wordOf 34 = .ok (.if_icmp .eq 43, 3) := by decide +kernel
theorem dX8_wordOf_37 : decode cX8_wordOf 37 = .ok (.iload 5, 2) := by decide +kernel
theorem dX8_wordOf_39 : decode cX8_wordOf 39 = .ok (.ifCond .eq 29, 3) := by decide +kernel
theorem dX8_wordOf_42 : decode cX8_wordOf 42 = .ok (.iload 4, 2) := by decide +kernel
theorem dX8_wordOf_44 : decode cX8_wordOf 44 = .ok (.iload_n 2, 1) := by decide +kernel
theorem dX8_wordOf_45 : decode cX8_wordOf 45 = .ok (.if_icmp .ge 23, 3) := by decide +kernel
theorem dX8_wordOf_48 : decode cX8_wordOf 48 = .ok (.iload 4, 2) := by decide +kernel
theorem dX8_wordOf_50 : decode cX8_wordOf 50 = .ok (.aload_n 0, 1) := by decide +kernel
theorem dX8_wordOf_51 : decode cX8_wordOf 51 = .ok (.arraylength, 1) := by decide +kernel
theorem dX8_wordOf_52 : decode cX8_wordOf 52 = .ok (.if_icmp .ge 16, 3) := by decide +kernel
theorem dX8_wordOf_55 : decode cX8_wordOf 55 = .ok (.aload_n 0, 1) := by decide +kernel
theorem dX8_wordOf_56 : decode cX8_wordOf 56 = .ok (.iload 4, 2) := by decide +kernel
theorem dX8_wordOf_58 : decode cX8_wordOf 58 = .ok (.iaload, 1) := by decide +kernel
theorem dX8_wordOf_59 : decode cX8_wordOf 59 = .ok (.iload 7, 2) := by decide +kernel
theorem dX8_wordOf_61 : decode cX8_wordOf 61 = .ok (.if_icmp .ne 7, 3) := by decide +kernel
theorem dX8_wordOf_64 : decode cX8_wordOf 64 = .ok (.iconst 1, 1) := by decide +kernel
theorem dX8_wordOf_65 : decode cX8_wordOf 65 = .ok (.goto 4, 3) := by decide +kernel
theorem dX8_wordOf_68 : decode cX8_wordOf 68 = .ok (.iconst 0, 1) := by decide +kernel
theorem dX8_wordOf_69 : decode cX8_wordOf 69 = .ok (.istore 5, 2) := by decide +kernel
theorem dX8_wordOf_71 : decode cX8_wordOf 71 = .ok (.iinc 4 1, 3) := by decide +kernel
theorem dX8_wordOf_74 : decode cX8_wordOf 74 = .ok (.goto 25, 3) := by decide +kernel
theorem dX8_wordOf_77 : decode cX8_wordOf 77 = .ok (.iload 5, 2) := by decide +kernel
theorem dX8_wordOf_79 : decode cX8_wordOf 79 = .ok (.ifCond .eq 11, 3) := by decide +kernel
theorem dX8_wordOf_82 : decode cX8_wordOf 82 = .ok (.iload 4, 2) := by decide +kernel
theorem dX8_wordOf_84 : decode cX8_wordOf 84 = .ok (.iload_n 2, 1) := by decide +kernel
theorem dX8_wordOf_85 : decode cX8_wordOf 85 = .ok (.if_icmp .ne 5, 3) := by decide +kernel
theorem dX8_wordOf_88 : decode cX8_wordOf 88 = .ok (.iload_n 3, 1) := by decide +kernel
theorem dX8_wordOf_89 : decode cX8_wordOf 89 = .ok (.ireturn, 1) := by decide +kernel
theorem dX8_wordOf_90 : decode cX8_wordOf 90 = .ok (.iinc 3 1, 3) := by decide +kernel
theorem dX8_wordOf_93 : decode cX8_wordOf 93 = .ok (.iload_n 1, 1) := by decide +kernel
theorem dX8_wordOf_94 : decode cX8_wordOf 94 = .ok (.istore 4, 2) := by decide +kernel
theorem dX8_wordOf_96 : decode cX8_wordOf 96 = .ok (.iconst 1, 1) := by decide +kernel
theorem dX8_wordOf_97 : decode cX8_wordOf 97 = .ok (.istore 5, 2) := by decide +kernel
theorem dX8_wordOf_99 : decode cX8_wordOf 99 = .ok (.iinc 6 1, 3) := by decide +kernel
theorem dX8_wordOf_102 : decode cX8_wordOf 102 = .ok (.goto (-91), 3) := by decide +kernel
theorem dX8_wordOf_105 : decode cX8_wordOf 105 = .ok (.iconst 0, 1) := by decide +kernel
theorem dX8_wordOf_106 : decode cX8_wordOf 106 = .ok (.ireturn, 1) := by decide +kernel
abbrev mX8_wordOf : zq_M := (cX8_wordOf, RX8, "wordOf", (some .int), 8)
section ZS3
variable {l : Launch} {G : zq_G} {D n : Nat} {ρ : Nat → zq_E} {post : Option Value → Nat → (Nat → zq_E) → Prop} {κ : zl_S}
def zeqE (T : Nat → Int32) (k e : Nat) (u : List Nat) : Nat → Nat → Bool
  | 0, _ => true
  | r + 1, j => (decide (k + j < e) && decide (T (k + j) = nI (u.getD j 0))) && zeqE T k e u r (j + 1)
theorem zeqE_F {T : Nat → Int32} {k e : Nat} {u : List Nat} (h : k + u.length = e) : ∀ r j, j + r = u.length → zeqE T k e u r j = zeqF T k u r j
  | 0, _, _ => rfl
  | r + 1, j, hj => by
    unfold zeqE zeqF
    rw [zeqE_F h r (j + 1) (by omega), decide_eq_true (show k + j < e by omega), Bool.true_and]
    congr 1
    exact decide_eq_decide.mpr ⟨fun h => h.symm, fun h => h.symm⟩
theorem zc_word_in {a k e w p : Nat} {u : List Nat} (hD : 4 ≤ D) (ha : zl_isA a = true) (hl : zl_len a = 400) (he : e ≤ 400) (hk4 : k ≤ 400) (hpu : p + u.length < 143) (hu : ∀ i, i < u.length → zBt (p + i) = nI (u.getD i 0) ∧ u.getD i 0 < 128 ∧ u.getD i 0 ≠ 32) (S : Bool)
    (hk : zq_At l G (zq_rm D 0 0) mX8_wordOf (zq_QF G post 0 0) 11 [(0, .ref a), (1, .int (nI k)), (2, .int (nI e)), (3, .int (nI w)), (4, .int (nI (k + u.length))), (5, .int (zb S)), (6, .int (nI (p + u.length)))] [] n (zl_h κ ρ) 0 0) :
    ∀ r j s, j + r = u.length → (s && zeqE (κ.2.1 a) k e u r j) = S → zq_At l G (zq_rm D 0 0) mX8_wordOf (zq_QF G post 0 0) 11 [(0, .ref a), (1, .int (nI k)), (2, .int (nI e)), (3, .int (nI w)), (4, .int (nI (k + j))), (5, .int (zb s)), (6, .int (nI (p + j)))] [] n (zl_h κ ρ) 0 0 := by
  intro r
  induction r with
  | zero =>
    intro j s hj hS
    obtain rfl : j = u.length := hj
    unfold zeqE at hS
    rw [Bool.and_true] at hS
    subst hS
    exact hk
  | succ r ih =>
    intro j s hj hS
    obtain ⟨b1, b2, b3⟩ := hu j (by omega)
    unfold zeqE at hS
    have hz := zq_len_eq
    refine at_iload dX8_wordOf_11 rfl ?_
    refine at_ldcS rfl dX8_wordOf_13 ?_
    refine at_callVS0 (d := D - 1) dX8_wordOf_15 vs_X8_87 (Nat.le_of_ble_eq_true rfl) (zq_r0 (by omega) (by omega) (by omega)) ?_
    refine zj_length (by omega) (by omega) ?_
    rw [hz]
    refine at_geN (tgt := 105) dX8_wordOf_18 (by decide) (by omega) (by omega) (fun c18 => ?_) (fun c18 => ?_)
    · omega
    · refine at_ldcS rfl dX8_wordOf_21 ?_
      refine at_iload dX8_wordOf_23 rfl ?_
      refine at_callVS1 (d := D - 1) dX8_wordOf_25 vs_X8_93 (Nat.le_of_ble_eq_true rfl) (zq_r0 (by omega) (by omega) (by omega)) ?_
      refine zj_charAt (by omega) (by omega) (by omega) ?_
      rw [show zq_bytes.getD (p + j) 0 &&& 255 = nI (u.getD j 0) from b1]
      refine at_istore dX8_wordOf_28 (by decide) ?_
      refine at_iload dX8_wordOf_30 rfl ?_
      refine at_bipush dX8_wordOf_32 (v := nI 32) (by decide) ?_
      refine at_eqN (tgt := 77) dX8_wordOf_34 (by decide) (by omega) (by omega) (fun c34 => ?_) (fun c34 => ?_)
      · exact absurd c34 b3
      · refine at_iload dX8_wordOf_37 rfl ?_
        refine at_if_eqB (tgt := 68) dX8_wordOf_39 (by decide) (fun c39 => ?_) (fun c39 => ?_)
        · rw [c39, Bool.false_and] at hS
          have hn := ih (j + 1) false (by omega) (by rw [Bool.false_and]; exact hS)
          refine at_iconst dX8_wordOf_68 (v := nI 0) (by decide) ?_
          refine at_istore dX8_wordOf_69 (by decide) ?_
          refine at_iincN dX8_wordOf_71 rfl (by decide) ?_
          refine at_goto (tgt := 99) dX8_wordOf_74 (by decide) ?_
          refine at_iincN dX8_wordOf_99 rfl (by decide) ?_
          refine at_goto (tgt := 11) dX8_wordOf_102 (by decide) ?_
          exact at_lv [0, 1, 2, 3, 4, 5, 6] hn
        · rw [c39, Bool.true_and] at hS
          refine at_iload dX8_wordOf_42 rfl ?_
          refine at_iload_n dX8_wordOf_44 rfl ?_
          refine at_geN (tgt := 68) dX8_wordOf_45 (by decide) (by omega) (by omega) (fun c45 => ?_) (fun c45 => ?_)
          · rw [decide_eq_false (by omega), Bool.false_and, Bool.false_and] at hS
            have hn := ih (j + 1) false (by omega) (by rw [Bool.false_and]; exact hS)
            refine at_iconst dX8_wordOf_68 (v := nI 0) (by decide) ?_
            refine at_istore dX8_wordOf_69 (by decide) ?_
            refine at_iincN dX8_wordOf_71 rfl (by decide) ?_
            refine at_goto (tgt := 99) dX8_wordOf_74 (by decide) ?_
            refine at_iincN dX8_wordOf_99 rfl (by decide) ?_
            refine at_goto (tgt := 11) dX8_wordOf_102 (by decide) ?_
            exact at_lv [0, 1, 2, 3, 4, 5, 6] hn
          · rw [decide_eq_true c45, Bool.true_and] at hS
            refine at_iload dX8_wordOf_48 rfl ?_
            refine at_aload_n dX8_wordOf_50 rfl ?_
            refine at_alen dX8_wordOf_51 (zl_a ha) (by decide) (v := nI 400) (by rw [hl]; rfl) ?_
            refine at_geN (tgt := 68) dX8_wordOf_52 (by decide) (by omega) (by omega) (fun c52 => ?_) (fun c52 => ?_)
            · omega
            · refine at_aload_n dX8_wordOf_55 rfl ?_
              refine at_iload dX8_wordOf_56 rfl ?_
              refine at_lald2 dX8_wordOf_58 ha rfl (by rw [hl]; omega) (by rw [hl]; first | decide | omega) ?_
              refine at_iload dX8_wordOf_59 rfl ?_
              refine at_icmp_ne (tgt := 68) dX8_wordOf_61 (by decide) (fun c61 => ?_) (fun c61 => ?_)
              · rw [decide_eq_false c61, Bool.false_and] at hS
                have hn := ih (j + 1) false (by omega) (by rw [Bool.false_and]; exact hS)
                refine at_iconst dX8_wordOf_68 (v := nI 0) (by decide) ?_
                refine at_istore dX8_wordOf_69 (by decide) ?_
                refine at_iincN dX8_wordOf_71 rfl (by decide) ?_
                refine at_goto (tgt := 99) dX8_wordOf_74 (by decide) ?_
                refine at_iincN dX8_wordOf_99 rfl (by decide) ?_
                refine at_goto (tgt := 11) dX8_wordOf_102 (by decide) ?_
                exact at_lv [0, 1, 2, 3, 4, 5, 6] hn
              · rw [decide_eq_true c61] at hS
                have hn := ih (j + 1) true (by omega) hS
                refine at_iconst dX8_wordOf_64 (v := nI 1) (by decide) ?_
                refine at_goto (tgt := 69) dX8_wordOf_65 (by decide) ?_
                refine at_istore dX8_wordOf_69 (by decide) ?_
                refine at_iincN dX8_wordOf_71 rfl (by decide) ?_
                refine at_goto (tgt := 99) dX8_wordOf_74 (by decide) ?_
                refine at_iincN dX8_wordOf_99 rfl (by decide) ?_
                refine at_goto (tgt := 11) dX8_wordOf_102 (by decide) ?_
                exact at_lv [0, 1, 2, 3, 4, 5, 6] hn
theorem zc_word_loop {a k e : Nat} (hD : 4 ≤ D) (ha : zl_isA a = true) (hl : zl_len a = 400) (hke : k ≤ e) (he : e ≤ 400) :
    ∀ (us : List (List Nat)) (w p : Nat), w + us.length < 100 → zspell zBt p us → p ≤ 143 → post (some (.int (nI (zword (κ.2.1 a) k e us w)))) n (zl_h κ ρ) → zq_At l G (zq_rm D 0 0) mX8_wordOf (zq_QF G post 0 0) 11 [(0, .ref a), (1, .int (nI k)), (2, .int (nI e)), (3, .int (nI w)), (4, .int (nI k)), (5, .int (zb true)), (6, .int (nI p))] [] n (zl_h κ ρ) 0 0 := by
  intro us
  have hz := zq_len_eq
  induction us with
  | nil =>
    intro w p hw hs hk hp
    obtain rfl : p = 143 := hs
    refine at_iload dX8_wordOf_11 rfl ?_
    refine at_ldcS rfl dX8_wordOf_13 ?_
    refine at_callVS0 (d := D - 1) dX8_wordOf_15 vs_X8_87 (Nat.le_of_ble_eq_true rfl) (zq_r0 (by omega) (by omega) (by omega)) ?_
    refine zj_length (by omega) (by omega) ?_
    rw [hz]
    refine at_geN (tgt := 105) dX8_wordOf_18 (by decide) (by omega) (by omega) (fun c18 => ?_) (fun c18 => ?_)
    · refine at_iconst dX8_wordOf_105 (v := nI 0) (by decide) ?_
      refine at_iret dX8_wordOf_106 rfl (by omega) (by omega) ?_
      exact hp
    · omega
  | cons u us ih =>
    intro w p hw hs hk hp
    obtain ⟨s1, s2, s3, s4⟩ := hs
    rw [List.length_cons] at hw
    unfold zword at hp
    refine zc_word_in (u := u) hD ha hl he (by omega) s3 s1 (zeqE (κ.2.1 a) k e u u.length 0) ?_ u.length 0 true (Nat.zero_add _) (Bool.true_and _)
    have hE := fun h => zeqE_F (T := κ.2.1 a) (k := k) (e := e) (u := u) h u.length 0 (Nat.zero_add _)
    generalize zeqE (κ.2.1 a) k e u u.length 0 = S at hE
    refine at_iload dX8_wordOf_11 rfl ?_
    refine at_ldcS rfl dX8_wordOf_13 ?_
    refine at_callVS0 (d := D - 1) dX8_wordOf_15 vs_X8_87 (Nat.le_of_ble_eq_true rfl) (zq_r0 (by omega) (by omega) (by omega)) ?_
    refine zj_length (by omega) (by omega) ?_
    rw [hz]
    refine at_geN (tgt := 105) dX8_wordOf_18 (by decide) (by omega) (by omega) (fun c18 => ?_) (fun c18 => ?_)
    · omega
    · refine at_ldcS rfl dX8_wordOf_21 ?_
      refine at_iload dX8_wordOf_23 rfl ?_
      refine at_callVS1 (d := D - 1) dX8_wordOf_25 vs_X8_93 (Nat.le_of_ble_eq_true rfl) (zq_r0 (by omega) (by omega) (by omega)) ?_
      refine zj_charAt (by omega) (by omega) (by omega) ?_
      rw [show zq_bytes.getD (p + u.length) 0 &&& 255 = nI 32 from s2]
      refine at_istore dX8_wordOf_28 (by decide) ?_
      refine at_iload dX8_wordOf_30 rfl ?_
      refine at_bipush dX8_wordOf_32 (v := nI 32) (by decide) ?_
      refine at_eqN (tgt := 77) dX8_wordOf_34 (by decide) (by omega) (by omega) (fun c34 => ?_) (fun c34 => ?_)
      · refine at_iload dX8_wordOf_77 rfl ?_
        refine at_if_eqB (tgt := 90) dX8_wordOf_79 (by decide) (fun c79 => ?_) (fun c79 => ?_)
        · have hf : ¬ zisw (κ.2.1 a) k e u = true := by
            unfold zisw
            intro h
            rw [Bool.and_eq_true, decide_eq_true_eq] at h
            rw [← hE (by omega), c79] at h
            exact absurd h.2 (by decide)
          rw [if_neg hf] at hp
          have hn := ih (w + 1) (p + u.length + 1) (by omega) s4 (by omega) hp
          refine at_iincN dX8_wordOf_90 rfl (by decide) ?_
          refine at_iload_n dX8_wordOf_93 rfl ?_
          refine at_istore dX8_wordOf_94 (by decide) ?_
          refine at_iconst dX8_wordOf_96 (v := nI 1) (by decide) ?_
          refine at_istore dX8_wordOf_97 (by decide) ?_
          refine at_iincN dX8_wordOf_99 rfl (by decide) ?_
          refine at_goto (tgt := 11) dX8_wordOf_102 (by decide) ?_
          exact at_lv [0, 1, 2, 3, 4, 5, 6] hn
        · refine at_iload dX8_wordOf_82 rfl ?_
          refine at_iload_n dX8_wordOf_84 rfl ?_
          refine at_neN (tgt := 90) dX8_wordOf_85 (by decide) (by omega) (by omega) (fun c85 => ?_) (fun c85 => ?_)
          · have hf : ¬ zisw (κ.2.1 a) k e u = true := by
              unfold zisw
              intro h
              rw [Bool.and_eq_true, decide_eq_true_eq] at h
              exact c85 (by omega)
            rw [if_neg hf] at hp
            have hn := ih (w + 1) (p + u.length + 1) (by omega) s4 (by omega) hp
            refine at_iincN dX8_wordOf_90 rfl (by decide) ?_
            refine at_iload_n dX8_wordOf_93 rfl ?_
            refine at_istore dX8_wordOf_94 (by decide) ?_
            refine at_iconst dX8_wordOf_96 (v := nI 1) (by decide) ?_
            refine at_istore dX8_wordOf_97 (by decide) ?_
            refine at_iincN dX8_wordOf_99 rfl (by decide) ?_
            refine at_goto (tgt := 11) dX8_wordOf_102 (by decide) ?_
            exact at_lv [0, 1, 2, 3, 4, 5, 6] hn
          · have hf : zisw (κ.2.1 a) k e u = true := by
              unfold zisw
              rw [← hE c85, c79, decide_eq_true (by omega)]
              rfl
            rw [if_pos hf] at hp
            refine at_iload_n dX8_wordOf_88 rfl ?_
            refine at_iret dX8_wordOf_89 rfl (by omega) (by omega) ?_
            exact hp
      · exact absurd rfl c34
theorem zc_wordOf {a k e : Nat} (hD : 4 ≤ D) (ha : zl_isA a = true) (hl : zl_len a = 400) (hke : k ≤ e) (he : e ≤ 400) (hp : post (some (.int (nI (zwm (zword (κ.2.1 a) k e zMw 1))))) n (zl_h κ ρ)) : zq_Runs l G D 0 0 yX8_wordOf [.ref a, .int (nI k), .int (nI e)] n (zl_h κ ρ) post := by
  rw [← zcw_eq] at hp
  have h0 := zc_word_loop (l := l) (G := G) (D := D) (n := n) (ρ := ρ) (post := post) (κ := κ) hD ha hl hke he zCw 1 0 (by decide) zCsp (by decide) hp
  refine zq_enter (cc := cX8_wordOf) (nL := 8) (ret := (some .int)) cw_X8_wordOf (by decide) rfl (Nat.le_of_ble_eq_true rfl) ?_
  refine at_iconst dX8_wordOf_0 (v := nI 1) (by decide) ?_
  refine at_istore_n dX8_wordOf_1 rfl (by decide) ?_
  refine at_iload_n dX8_wordOf_2 rfl ?_
  refine at_istore dX8_wordOf_3 (by decide) ?_
  refine at_iconst dX8_wordOf_5 (v := nI 1) (by decide) ?_
  refine at_istore dX8_wordOf_6 (by decide) ?_
  refine at_iconst dX8_wordOf_8 (v := nI 0) (by decide) ?_
  refine at_istore dX8_wordOf_9 (by decide) ?_
  exact h0
end ZS3

