/-! ===== the text of all words: a String constant ===== -/
theorem mi_J0_coder_7d493 : zq_MI yJ0_coder_7d493 0 := ⟨zq_in (zq_t1 (List.mem_of_getElem? (i := 13) rfl)) rfl, ⟨by decide, by decide⟩, by decide +kernel⟩
theorem cw_J0_coder_7d493 : Cond.code yJ0_coder_7d493 cJ0_coder_7d493 1 (some .byte) ∈ zq_ws := zq_in (zq_t3 (List.mem_of_getElem? (i := 11) rfl)) rfl
theorem mi_J0_isLatin1_aae02 : zq_MI yJ0_isLatin1_aae02 0 := ⟨zq_in (zq_t1 (List.mem_of_getElem? (i := 13) rfl)) rfl, ⟨by decide, by decide⟩, by decide +kernel⟩
theorem cw_J0_isLatin1_aae02 : Cond.code yJ0_isLatin1_aae02 cJ0_isLatin1_aae02 1 (some .boolean) ∈ zq_ws := zq_in (zq_t3 (List.mem_of_getElem? (i := 21) rfl)) rfl
theorem mi_J0_checkIndex_df160 : zq_MI yJ0_checkIndex_df160 2 := ⟨zq_in (zq_t1 (List.mem_of_getElem? (i := 13) rfl)) rfl, ⟨by decide, by decide⟩, by decide +kernel⟩
theorem cw_J0_checkIndex_df160 : Cond.code yJ0_checkIndex_df160 cJ0_checkIndex_df160 2 none ∈ zq_ws := zq_in (zq_t3 (List.mem_of_getElem? (i := 27) rfl)) rfl
theorem mi_J1_charAt_3b067 : zq_MI yJ1_charAt_3b067 2 := ⟨zq_in (zq_t1 (List.mem_of_getElem? (i := 14) rfl)) rfl, ⟨by decide, by decide⟩, by decide +kernel⟩
theorem cw_J1_charAt_3b067 : Cond.code yJ1_charAt_3b067 cJ1_charAt_3b067 2 (some .char) ∈ zq_ws := zq_in (zq_t3 (List.mem_of_getElem? (i := 24) rfl)) rfl
theorem mi_J3_checkIndex_8e157 : zq_MI yJ3_checkIndex_8e157 3 := ⟨zq_in (zq_t1 (List.mem_of_getElem? (i := 15) rfl)) rfl, ⟨by decide, by decide⟩, by decide +kernel⟩
theorem cw_J3_checkIndex_8e157 : Cond.code yJ3_checkIndex_8e157 cJ3_checkIndex_8e157 3 (some .int) ∈ zq_ws := zq_in (zq_t3 (List.mem_of_getElem? (i := 32) rfl)) rfl
/-- a method of String's, by its links -/
def zq_MVS (own : String) (idx : Nat) (y : MethodName) (na : Nat) : Prop := Cond.methodLink own idx y ∈ zq_ws ∧ Cond.instanceMethod y ∈ zq_ws ∧ Cond.selects "java/lang/String" y y ∈ zq_ws ∧ zq_MI y na
theorem vs_X8_87 : zq_MVS RX8 87 yJ0_length_8abf5 0 := ⟨zq_in (zq_t3 (List.mem_of_getElem? (i := 4) rfl)) rfl, zq_in (zq_t3 (List.mem_of_getElem? (i := 5) rfl)) rfl, zq_in (zq_t3 (List.mem_of_getElem? (i := 6) rfl)) rfl, mi_J0_length_8abf5⟩
theorem vs_X8_93 : zq_MVS RX8 93 yJ0_charAt_5068e 1 := ⟨zq_in (zq_t3 (List.mem_of_getElem? (i := 14) rfl)) rfl, zq_in (zq_t3 (List.mem_of_getElem? (i := 15) rfl)) rfl, zq_in (zq_t3 (List.mem_of_getElem? (i := 16) rfl)) rfl, mi_J0_charAt_5068e⟩
theorem vs_J0_335 : zq_MVS RJ0 335 yJ0_coder_7d493 0 := ⟨zq_in (zq_t3 (List.mem_of_getElem? (i := 8) rfl)) rfl, zq_in (zq_t3 (List.mem_of_getElem? (i := 9) rfl)) rfl, zq_in (zq_t3 (List.mem_of_getElem? (i := 10) rfl)) rfl, mi_J0_coder_7d493⟩
theorem vs_J0_492 : zq_MVS RJ0 492 yJ0_isLatin1_aae02 0 := ⟨zq_in (zq_t3 (List.mem_of_getElem? (i := 18) rfl)) rfl, zq_in (zq_t3 (List.mem_of_getElem? (i := 19) rfl)) rfl, zq_in (zq_t3 (List.mem_of_getElem? (i := 20) rfl)) rfl, mi_J0_isLatin1_aae02⟩
theorem ms_J0_495 : zq_MS RJ0 495 yJ1_charAt_3b067 2 := ⟨Or.inl (zq_in (zq_t3 (List.mem_of_getElem? (i := 22) rfl)) rfl), zq_in (zq_t3 (List.mem_of_getElem? (i := 23) rfl)) rfl, mi_J1_charAt_3b067⟩
theorem ms_J1_9 : zq_MS RJ1 9 yJ0_checkIndex_df160 2 := ⟨Or.inl (zq_in (zq_t3 (List.mem_of_getElem? (i := 25) rfl)) rfl), zq_in (zq_t3 (List.mem_of_getElem? (i := 26) rfl)) rfl, mi_J0_checkIndex_df160⟩
theorem ms_J0_1059 : zq_MS RJ0 1059 yJ3_checkIndex_8e157 3 := ⟨Or.inl (zq_in (zq_t3 (List.mem_of_getElem? (i := 30) rfl)) rfl), zq_in (zq_t3 (List.mem_of_getElem? (i := 31) rfl)) rfl, mi_J3_checkIndex_8e157⟩
theorem fk_J0_9 : Cond.fieldLink RJ0 9 "java/lang/String" "value" "[B" ∈ zq_ws := zq_in (zq_t8 (List.mem_of_getElem? (i := 122) rfl)) rfl
theorem fk_J0_15 : Cond.fieldLink RJ0 15 "java/lang/String" "coder" "B" ∈ zq_ws := zq_in (zq_t8 (List.mem_of_getElem? (i := 123) rfl)) rfl
theorem fk_J0_38 : Cond.fieldLink RJ0 38 "java/lang/String" "COMPACT_STRINGS" "Z" ∈ zq_ws := zq_in (zq_t3 (List.mem_of_getElem? (i := 12) rfl)) rfl
theorem fk_J0_1053 : Cond.fieldLink RJ0 1053 "jdk/internal/util/Preconditions" "SIOOBE_FORMATTER" "Ljava/util/function/BiFunction;" ∈ zq_ws := zq_in (zq_t3 (List.mem_of_getElem? (i := 28) rfl)) rfl
section ZS0
variable {l : Launch} {G : zq_G} {R : Room} {M : zq_M} {QF : List Frame → Array Value → State → State → Prop} {pc : Nat} {lv : List (Nat × Value)} {st : List Value} {n : Nat} {f : Nat → zq_E} {cells slots : Nat}
def zq_len : Nat := zq_bytes.length
theorem zq_strT0 {B : List Int32} {len a b : Nat} {A : Nat → Prop} {s : State} {H : Heap} (h : vk_S 1 [len] [B] (fun _ => a) (fun _ => b) A s H) : va_T .byte b len (fun j => .int (B.getD j 0)) A s H := (h.1 0 (by decide)).2.2.2
theorem zq_strT {G : zq_G} {s : State} {H : Heap} (h : zq_old G s H) : va_T .byte (G.2.2.1 6) zq_len (fun j => .int (zq_bytes.getD j 0)) (zq_A G) s H := zq_strT0 h.2.2.2.2.2.1
theorem at_ldcS (hM : M.2.1 = RX8) (hd : decode M.1 pc = .ok (.ldc 85, 2)) (k : zq_At l G R M QF (pc + 2) lv (.ref 5 :: st) n f cells slots) : zq_At l G R M QF pc lv st n f cells slots := by
  intro p e s m args below meth c H locs ls C hz hK hO hs hok hP hS hl
  have hk := k p e s m args below meth c H locs ls C hz hK hO hs hok hP hS hl
  rw [List.map_cons, show zq_v G (.ref 5) = .ref (G.2.2.1 5) from congrArg Value.ref (zq_ad_o G (by omega))] at hk
  exact va_ldcS C.1 C.2.1 C.2.2.2.1 (by rw [hM]; exact hO.2.2.2.2.1) hd hk
theorem at_callVS {idx na d mc ms : Nat} {y : MethodName} (As : List Value) (hd : decode M.1 pc = .ok (.invokevirtual idx, 3)) (hL : zq_MVS M.2.1 idx y na) (hna : As.length = na) (hcat : (st.map fun v => v.category).sum ≤ 8) (hR : d + 1 ≤ R.frames ∧ 60 * d + 59 ≤ R.locals ∧ cells + mc ≤ R.cells ∧ slots + ms ≤ R.slots)
    (hr : zq_Runs l G d mc ms y (.ref 5 :: As) n f (fun r n1 f1 => zq_At l G R M QF (pc + 3) lv (r.toList ++ st) n1 f1 (cells + mc) (slots + ms))) : zq_At l G R M QF pc lv (As.reverse ++ .ref 5 :: st) n f cells slots := by
  intro p e s m args below meth c H locs ls C hz hK hO hs hok hP hS hl
  obtain ⟨cc, nL, ret, hc, hnL, hM⟩ := hr
  obtain ⟨hl1, hl2, hl4, hl5⟩ := hL
  have hts := C.2.2.2.2.1
  have e5 : zq_v G (.ref 5) = .ref (G.2.2.1 5) := congrArg Value.ref (zq_ad_o G (by omega))
  have hrun := va_runV (g := F0 m pc ls ((As.map (zq_v G)).reverse ++ .ref (G.2.2.1 5) :: st.map (zq_v G))) (cells := cells) (slots := slots) (locs := locs) (below := below) (meth := meth) (e := e) (R := R) (C := "java/lang/String") (index := idx) (As := As.map (zq_v G)) (rest := st.map (zq_v G)) (b := G.2.2.1 5) (n := na) (bytes := cc) (maxL := nL) (ret := ret) ⟨C.1, C.2.1, C.2.2.1, C.2.2.2.1, hts⟩ hM ⟨⟨rfl, rfl, hR.1, by show 8 + (nL + 11) + 60 * d ≤ R.locals; omega, zq_pay hts hc, List.mem_cons_self, hts _ hc, hts _ hl5.1, hl5.2.1, hl5.len, hts _ hl1⟩, hts _ hl2, hts _ hl4⟩ ⟨zq_blind, vk_recv (i := 0) hO.2.2.2.2.2.1 (by decide) hS, fun U hU hW => ⟨by rw [List.map_cons, e5], zq_pre hK hO hs hok hP hS hU hW⟩⟩ rfl (by rw [List.length_map]; exact hna) hl.1 rfl (lv_room (by rw [zq_sum]; exact hcat)) hd ⟨hR.2.2.1, hR.2.2.2⟩
  have hst : (As.reverse ++ .ref 5 :: st).map (zq_v G) = (As.map (zq_v G)).reverse ++ .ref (G.2.2.1 5) :: st.map (zq_v G) := by
    rw [List.map_append, List.map_reverse, List.map_cons, e5]
  rw [hst]
  refine zq_back hrun hS fun r n1 f1 H1 locs1 hp hs1 hok1 hP1 hS1 => ?_
  rw [zq_push]
  exact hp p e s m args below meth c H1 locs1 ls C hz hK hO hs1 hok1 hP1 hS1 hl
theorem at_getSv (hM : M.2.1 = RJ0) (hd : decode M.1 pc = .ok (.getfield 9, 3)) (k : zq_At l G R M QF (pc + 3) lv (.ref 6 :: st) n f cells slots) : zq_At l G R M QF pc lv (.ref 5 :: st) n f cells slots := by
  intro p e s m args below meth c H locs ls C hz hK hO hs hok hP hS hl
  have hk := k p e s m args below meth c H locs ls C hz hK hO hs hok hP hS hl
  rw [List.map_cons, show zq_v G (.ref 6) = .ref (G.2.2.1 6) from congrArg Value.ref (zq_ad_o G (by omega))] at hk
  show W p l e R s m args below meth c H locs cells slots (QF below args s) (F0 m pc ls (.ref (zq_ad G 5) :: st.map (zq_v G)))
  rw [zq_ad_o G (by omega)]
  exact vk_getf C.1 C.2.1 (hO.2.2.2.2.2.1.1 0 (by decide)).2.2.1 hS (by rw [← hM]; exact C.2.2.2.1) (C.2.2.2.2.1 _ fk_J0_9) (fun _ h => h) hd hk
theorem at_getSc (hM : M.2.1 = RJ0) (hd : decode M.1 pc = .ok (.getfield 15, 3)) (k : zq_At l G R M QF (pc + 3) lv (.int 0 :: st) n f cells slots) : zq_At l G R M QF pc lv (.ref 5 :: st) n f cells slots := by
  intro p e s m args below meth c H locs ls C hz hK hO hs hok hP hS hl
  have hk := k p e s m args below meth c H locs ls C hz hK hO hs hok hP hS hl
  show W p l e R s m args below meth c H locs cells slots (QF below args s) (F0 m pc ls (.ref (zq_ad G 5) :: st.map (zq_v G)))
  rw [zq_ad_o G (by omega)]
  exact vk_getf C.1 C.2.1 (hO.2.2.2.2.2.1.1 0 (by decide)).2.1 hS (by rw [← hM]; exact C.2.2.2.1) (C.2.2.2.2.1 _ fk_J0_15) (fun _ h => h) hd hk
theorem at_blen (hd : decode M.1 pc = .ok (.arraylength, 1)) (k : zq_At l G R M QF (pc + 1) lv (.int (nI zq_len) :: st) n f cells slots) : zq_At l G R M QF pc lv (.ref 6 :: st) n f cells slots := by
  intro p e s m args below meth c H locs ls C hz hK hO hs hok hP hS hl
  show W p l e R s m args below meth c H locs cells slots (QF below args s) (F0 m pc ls (.ref (zq_ad G 6) :: st.map (zq_v G)))
  rw [zq_ad_o G (by omega)]
  exact va_tlen C.1 C.2.1 (zq_strT hO) hS rfl hd (k p e s m args below meth c H locs ls C hz hK hO hs hok hP hS hl)
theorem at_bald6 {i : Nat} (hd : decode M.1 pc = .ok (.baload, 1)) (hi : i < zq_len) (h3 : zq_len < 2147483648) (k : zq_At l G R M QF (pc + 1) lv (.int (zq_bytes.getD i 0) :: st) n f cells slots) : zq_At l G R M QF pc lv (.int (nI i) :: .ref 6 :: st) n f cells slots := by
  intro p e s m args below meth c H locs ls C hz hK hO hs hok hP hS hl
  show W p l e R s m args below meth c H locs cells slots (QF below args s) (F0 m pc ls (.int (nI i) :: .ref (zq_ad G 6) :: st.map (zq_v G)))
  rw [zq_ad_o G (by omega)]
  refine va_tb C.1 C.2.1 (zq_strT hO) hS (vp_in_nI hi (by omega)) (v := .int (zq_bytes.getD i 0)) ?_ hd (k p e s m args below meth c H locs ls C hz hK hO hs hok hP hS hl)
  rw [nI_clamp (by omega)]
theorem at_getsZ (hM : M.2.1 = RJ0) (hd : decode M.1 pc = .ok (.getstatic 38, 3)) (k : zq_At l G R M QF (pc + 3) lv (.int 1 :: st) n f cells slots) : zq_At l G R M QF pc lv st n f cells slots := by
  intro p e s m args below meth c H locs ls C hz hK hO hs hok hP hS hl
  exact va_gets C.1 C.2.1 hO.2.2.2.2.2.2.1 hS (by rw [← hM]; exact C.2.2.2.1) (C.2.2.2.2.1 _ fk_J0_38) (fun _ h => h) hd (k p e s m args below meth c H locs ls C hz hK hO hs hok hP hS hl)
theorem at_getsF (hM : M.2.1 = RJ0) (hd : decode M.1 pc = .ok (.getstatic 1053, 3)) (k : ∀ v : Value, v = .null ∨ v = .ref 7 → zq_At l G R M QF (pc + 3) lv (v :: st) n f cells slots) : zq_At l G R M QF pc lv st n f cells slots := by
  intro p e s m args below meth c H locs ls C hz hK hO hs hok hP hS hl
  rcases hO.2.2.2.2.2.2.2.2.2.2.2.2 with h | h
  · exact va_gets C.1 C.2.1 h hS (by rw [← hM]; exact C.2.2.2.1) (C.2.2.2.2.1 _ fk_J0_1053) (fun _ h => h) hd (k .null (Or.inl rfl) p e s m args below meth c H locs ls C hz hK hO hs hok hP hS hl)
  · have hk := k (.ref 7) (Or.inr rfl) p e s m args below meth c H locs ls C hz hK hO hs hok hP hS hl
    rw [List.map_cons, show zq_v G (.ref 7) = .ref (G.2.2.1 7) from congrArg Value.ref (zq_ad_o G (by omega))] at hk
    exact va_gets C.1 C.2.1 h hS (by rw [← hM]; exact C.2.2.2.1) (C.2.2.2.2.1 _ fk_J0_1053) (fun _ h => h) hd hk
theorem at_i2c {x v : Int32} (hd : decode M.1 pc = .ok (.i2c, 1)) (hv : (x.toUInt32 % 65536).toInt32 = v) (k : zq_At l G R M QF (pc + 1) lv (.int v :: st) n f cells slots) : zq_At l G R M QF pc lv (.int x :: st) n f cells slots := by
  intro p e s m args below meth c H locs ls C hz hK hO hs hok hP hS hl
  exact lv_i2c C.1 C.2.1 hd hv (k p e s m args below meth c H locs ls C hz hK hO hs hok hP hS hl)
theorem at_nret {mc ms : Nat} {post : Option Value → Nat → (Nat → zq_E) → Prop} {x : Int32} {ty : FieldType} (hd : decode M.1 pc = .ok (.ireturn, 1)) (hr : M.2.2.2.1 = some ty) (hx : narrow ty (.int x) = .int x) (h1 : cells ≤ mc) (h2 : slots ≤ ms) (hp : post (some (.int x)) n f) : zq_At l G R M (zq_QF G post mc ms) pc lv [.int x] n f cells slots := by
  intro p e s m args below meth c H locs ls C hz hK hO hs hok hP hS hl
  refine W.widen h1 h2 ?_
  exact W.zret C.1 C.2.1 (C.2.2.2.2.2.1.trans hr) hx (fun t ht hW => ⟨⟨some (.int x), n, f, rfl, hp, by rw [ht]; exact hs, hok, by rw [ht]; exact hP⟩, hS.F ht⟩) hS.2.2 hd C.2.2.2.2.2.2.1
end ZS0
theorem dJ0_length_8abf5_0 : decode cJ0_length_8abf5 0 = .ok (.aload_n 0, 1) := by decide +kernel
theorem dJ0_length_8abf5_1 : decode cJ0_length_8abf5 1 = .ok (.getfield 9, 3) := by decide +kernel
theorem dJ0_length_8abf5_4 : decode cJ0_length_8abf5 4 = .ok (.arraylength, 1) := by decide +kernel
theorem dJ0_length_8abf5_5 : decode cJ0_length_8abf5 5 = .ok (.aload_n 0, 1) := by decide +kernel
theorem dJ0_length_8abf5_6 : decode cJ0_length_8abf5 6 = .ok (.invokevirtual 335, 3) := by decide +kernel
theorem dJ0_length_8abf5_9 : decode cJ0_length_8abf5 9 = .ok (.ishr, 1) := by decide +kernel
theorem dJ0_length_8abf5_10 : decode cJ0_length_8abf5 10 = .ok (.ireturn, 1) := by decide +kernel
abbrev mJ0_length_8abf5 : zq_M := (cJ0_length_8abf5, RJ0, "length", (some .int), 1)
theorem dJ0_charAt_5068e_0 : decode cJ0_charAt_5068e 0 = .ok (.aload_n 0, 1) := by decide +kernel
theorem dJ0_charAt_5068e_1 : decode cJ0_charAt_5068e 1 = .ok (.invokevirtual 492, 3) := by decide +kernel
theorem dJ0_charAt_5068e_4 : decode cJ0_charAt_5068e 4 = .ok (.ifCond .eq 12, 3) := by decide +kernel
theorem dJ0_charAt_5068e_7 : decode cJ0_charAt_5068e 7 = .ok (.aload_n 0, 1) := by decide +kernel
theorem dJ0_charAt_5068e_8 : decode cJ0_charAt_5068e 8 = .ok (.getfield 9, 3) := by decide +kernel
theorem dJ0_charAt_5068e_11 : decode cJ0_charAt_5068e 11 = .ok (.iload_n 1, 1) := by decide +kernel
theorem dJ0_charAt_5068e_12 : decode cJ0_charAt_5068e 12 = .ok (.invokestatic 495, 3) := by decide +kernel
theorem dJ0_charAt_5068e_15 : decode cJ0_charAt_5068e 15 = .ok (.ireturn, 1) := by decide +kernel
theorem dJ0_charAt_5068e_16 : decode cJ0_charAt_5068e 16 = .ok (.aload_n 0, 1) := by decide +kernel
theorem dJ0_charAt_5068e_17 : decode cJ0_charAt_5068e 17 = .ok (.getfield 9, 3) := by decide +kernel
theorem dJ0_charAt_5068e_20 : decode cJ0_charAt_5068e 20 = .ok (.iload_n 1, 1) := by decide +kernel
theorem dJ0_charAt_5068e_21 : decode cJ0_charAt_5068e 21 = .ok (.invokestatic 498, 3) := by decide +kernel
theorem dJ0_charAt_5068e_24 : decode cJ0_charAt_5068e 24 = .ok (.ireturn, 1) := by decide +kernel
abbrev mJ0_charAt_5068e : zq_M := (cJ0_charAt_5068e, RJ0, "charAt", (some .char), 2)
theorem dJ0_coder_7d493_0 : decode cJ0_coder_7d493 0 = .ok (.getstatic 38, 3) := by decide +kernel
theorem dJ0_coder_7d493_3 : decode cJ0_coder_7d493 3 = .ok (.ifCond .eq 10, 3) := by decide +kernel
theorem dJ0_coder_7d493_6 : decode cJ0_coder_7d493 6 = .ok (.aload_n 0, 1) := by decide +kernel
theorem dJ0_coder_7d493_7 : decode cJ0_coder_7d493 7 = .ok (.getfield 15, 3) := by decide +kernel
theorem dJ0_coder_7d493_10 : decode cJ0_coder_7d493 10 = .ok (.goto 4, 3) := by decide +kernel
theorem dJ0_coder_7d493_13 : decode cJ0_coder_7d493 13 = .ok (.iconst 1, 1) := by decide +kernel
theorem dJ0_coder_7d493_14 : decode cJ0_coder_7d493 14 = .ok (.ireturn, 1) := by decide +kernel
abbrev mJ0_coder_7d493 : zq_M := (cJ0_coder_7d493, RJ0, "coder", (some .byte), 1)
theorem dJ0_isLatin1_aae02_0 : decode cJ0_isLatin1_aae02 0 = .ok (.getstatic 38, 3) := by decide +kernel
theorem dJ0_isLatin1_aae02_3 : decode cJ0_isLatin1_aae02 3 = .ok (.ifCond .eq 14, 3) := by decide +kernel
theorem dJ0_isLatin1_aae02_6 : decode cJ0_isLatin1_aae02 6 = .ok (.aload_n 0, 1) := by decide +kernel
theorem dJ0_isLatin1_aae02_7 : decode cJ0_isLatin1_aae02 7 = .ok (.getfield 15, 3) := by decide +kernel
theorem dJ0_isLatin1_aae02_10 : decode cJ0_isLatin1_aae02 10 = .ok (.ifCond .ne 7, 3) := by decide +kernel
theorem dJ0_isLatin1_aae02_13 : decode cJ0_isLatin1_aae02 13 = .ok (.iconst 1, 1) := by decide +kernel
theorem dJ0_isLatin1_aae02_14 : decode cJ0_isLatin1_aae02 14 = .ok (.goto 4, 3) := by decide +kernel
theorem dJ0_isLatin1_aae02_17 : decode cJ0_isLatin1_aae02 17 = .ok (.iconst 0, 1) := by decide +kernel
theorem dJ0_isLatin1_aae02_18 : decode cJ0_isLatin1_aae02 18 = .ok (.ireturn, 1) := by decide +kernel
abbrev mJ0_isLatin1_aae02 : zq_M := (cJ0_isLatin1_aae02, RJ0, "isLatin1", (some .boolean), 1)
theorem dJ0_checkIndex_df160_0 : decode cJ0_checkIndex_df160 0 = .ok (.iload_n 0, 1) := by decide +kernel
theorem dJ0_checkIndex_df160_1 : decode cJ0_checkIndex_df160 1 = .ok (.iload_n 1, 1) := by decide +kernel
theorem dJ0_checkIndex_df160_2 : decode cJ0_checkIndex_df160 2 = .ok (.getstatic 1053, 3) := by decide +kernel
theorem dJ0_checkIndex_df160_5 : decode cJ0_checkIndex_df160 5 = .ok (.invokestatic 1059, 3) := by decide +kernel
theorem dJ0_checkIndex_df160_8 : decode cJ0_checkIndex_df160 8 = .ok (.pop, 1) := by decide +kernel
theorem dJ0_checkIndex_df160_9 : decode cJ0_checkIndex_df160 9 = .ok (.return_, 1) := by decide +kernel
abbrev mJ0_checkIndex_df160 : zq_M := (cJ0_checkIndex_df160, RJ0, "checkIndex", none, 2)
theorem dJ1_charAt_3b067_0 : decode cJ1_charAt_3b067 0 = .ok (.iload_n 1, 1) := by decide +kernel
theorem dJ1_charAt_3b067_1 : decode cJ1_charAt_3b067 1 = .ok (.aload_n 0, 1) := by decide +kernel
theorem dJ1_charAt_3b067_2 : decode cJ1_charAt_3b067 2 = .ok (.arraylength, 1) := by decide +kernel
theorem dJ1_charAt_3b067_3 : decode cJ1_charAt_3b067 3 = .ok (.invokestatic 9, 3) := by decide +kernel
theorem dJ1_charAt_3b067_6 : decode cJ1_charAt_3b067 6 = .ok (.aload_n 0, 1) := by decide +kernel
theorem dJ1_charAt_3b067_7 : decode cJ1_charAt_3b067 7 = .ok (.iload_n 1, 1) := by decide +kernel
theorem dJ1_charAt_3b067_8 : decode cJ1_charAt_3b067 8 = .ok (.baload, 1) := by decide +kernel
theorem dJ1_charAt_3b067_9 : decode cJ1_charAt_3b067 9 = .ok (.sipush 255, 3) := by decide +kernel
theorem dJ1_charAt_3b067_12 : decode cJ1_charAt_3b067 12 = .ok (.iand, 1) := by decide +kernel
theorem dJ1_charAt_3b067_13 : decode cJ1_charAt_3b067 13 = .ok (.i2c, 1) := by decide +kernel
theorem dJ1_charAt_3b067_14 : decode cJ1_charAt_3b067 14 = .ok (.ireturn, 1) := by decide +kernel
abbrev mJ1_charAt_3b067 : zq_M := (cJ1_charAt_3b067, RJ1, "charAt", (some .char), 2)
theorem dJ3_checkIndex_8e157_0 : decode cJ3_checkIndex_8e157 0 = .ok (.iload_n 0, 1) := by decide +kernel
theorem dJ3_checkIndex_8e157_1 : decode cJ3_checkIndex_8e157 1 = .ok (.ifCond .lt 8, 3) := by decide +kernel
theorem dJ3_checkIndex_8e157_4 : decode cJ3_checkIndex_8e157 4 = .ok (.iload_n 0, 1) := by decide +kernel
theorem dJ3_checkIndex_8e157_5 : decode cJ3_checkIndex_8e157 5 = .ok (.iload_n 1, 1) := by decide +kernel
theorem dJ3_checkIndex_8e157_6 : decode cJ3_checkIndex_8e157 6 = .ok (.if_icmp .lt 10, 3) := by decide +kernel
theorem dJ3_checkIndex_8e157_9 : decode cJ3_checkIndex_8e157 9 = .ok (.aload_n 2, 1) := by decide +kernel
theorem dJ3_checkIndex_8e157_10 : decode cJ3_checkIndex_8e157 10 = .ok (.iload_n 0, 1) := by decide +kernel
theorem dJ3_checkIndex_8e157_11 : decode cJ3_checkIndex_8e157 11 = .ok (.iload_n 1, 1) := by decide +kernel
theorem dJ3_checkIndex_8e157_12 : decode cJ3_checkIndex_8e157 12 = .ok (.invokestatic 95, 3) := by decide +kernel
theorem dJ3_checkIndex_8e157_15 : decode cJ3_checkIndex_8e157 15 = .ok (.athrow, 1) := by decide +kernel
theorem dJ3_checkIndex_8e157_16 : decode cJ3_checkIndex_8e157 16 = .ok (.iload_n 0, 1) := by decide +kernel
theorem dJ3_checkIndex_8e157_17 : decode cJ3_checkIndex_8e157 17 = .ok (.ireturn, 1) := by decide +kernel
abbrev mJ3_checkIndex_8e157 : zq_M := (cJ3_checkIndex_8e157, RJ3, "checkIndex", (some .int), 3)
section ZS1
variable {l : Launch} {G : zq_G} {D n : Nat} {f : Nat → zq_E} {post : Option Value → Nat → (Nat → zq_E) → Prop}
theorem zj_coder (hp : post (some (.int 0)) n f) : zq_Runs l G D 0 0 yJ0_coder_7d493 [.ref 5] n f post := by
  refine zq_enter (cc := cJ0_coder_7d493) (nL := 1) (ret := (some .byte)) cw_J0_coder_7d493 (by decide) rfl (Nat.le_of_ble_eq_true rfl) ?_
  refine at_getsZ rfl dJ0_coder_7d493_0 ?_
  refine at_if_eq dJ0_coder_7d493_3 rfl (fun h => absurd h (by decide)) (fun _ => ?_)
  refine at_aload_n dJ0_coder_7d493_6 rfl ?_
  refine at_getSc rfl dJ0_coder_7d493_7 ?_
  refine at_goto dJ0_coder_7d493_10 rfl ?_
  exact at_nret dJ0_coder_7d493_14 rfl (by decide) (by omega) (by omega) hp
theorem zj_isLatin1 (hp : post (some (.int 1)) n f) : zq_Runs l G D 0 0 yJ0_isLatin1_aae02 [.ref 5] n f post := by
  refine zq_enter (cc := cJ0_isLatin1_aae02) (nL := 1) (ret := (some .boolean)) cw_J0_isLatin1_aae02 (by decide) rfl (Nat.le_of_ble_eq_true rfl) ?_
  refine at_getsZ rfl dJ0_isLatin1_aae02_0 ?_
  refine at_if_eq dJ0_isLatin1_aae02_3 rfl (fun h => absurd h (by decide)) (fun _ => ?_)
  refine at_aload_n dJ0_isLatin1_aae02_6 rfl ?_
  refine at_getSc rfl dJ0_isLatin1_aae02_7 ?_
  refine at_if_ne dJ0_isLatin1_aae02_10 rfl (fun h => absurd rfl h) (fun _ => ?_)
  refine at_iconst dJ0_isLatin1_aae02_13 (v := 1) (by decide) ?_
  refine at_goto dJ0_isLatin1_aae02_14 rfl ?_
  exact at_zret dJ0_isLatin1_aae02_18 rfl (by omega) (by omega) (Or.inr rfl) hp
theorem zj_check3 {i N : Nat} {v : Value} (hv : v = .null ∨ v = .ref 7) (hi : i < N) (hN : N < 2147483648) (hp : post (some (.int (nI i))) n f) : zq_Runs l G D 0 0 yJ3_checkIndex_8e157 [.int (nI i), .int (nI N), v] n f post := by
  have h1 : ¬ nI i < 0 := nI_pos (by omega)
  have h2 : nI i < nI N := nI_lt hi (by omega)
  rcases hv with rfl | rfl
  all_goals
    refine zq_enter (cc := cJ3_checkIndex_8e157) (nL := 3) (ret := (some .int)) cw_J3_checkIndex_8e157 (by decide) rfl (Nat.le_of_ble_eq_true rfl) ?_
    refine at_iload_n dJ3_checkIndex_8e157_0 rfl ?_
    refine at_if_lt dJ3_checkIndex_8e157_1 rfl (fun h => absurd h h1) (fun _ => ?_)
    refine at_iload_n dJ3_checkIndex_8e157_4 rfl ?_
    refine at_iload_n dJ3_checkIndex_8e157_5 rfl ?_
    refine at_icmp_lt dJ3_checkIndex_8e157_6 rfl (fun _ => ?_) (fun h => absurd h2 h)
    refine at_iload_n dJ3_checkIndex_8e157_16 rfl ?_
    exact at_iret dJ3_checkIndex_8e157_17 rfl (by omega) (by omega) hp
theorem zj_check {i N : Nat} (hD : 1 ≤ D) (hi : i < N) (hN : N < 2147483648) (hp : post none n f) : zq_Runs l G D 0 0 yJ0_checkIndex_df160 [.int (nI i), .int (nI N)] n f post := by
  refine zq_enter (cc := cJ0_checkIndex_df160) (nL := 2) (ret := none) cw_J0_checkIndex_df160 (by decide) rfl (Nat.le_of_ble_eq_true rfl) ?_
  refine at_iload_n dJ0_checkIndex_df160_0 rfl ?_
  refine at_iload_n dJ0_checkIndex_df160_1 rfl ?_
  refine at_getsF rfl dJ0_checkIndex_df160_2 (fun v hv => ?_)
  refine at_callS (d := D - 1) (mc := 0) (ms := 0) [.int (nI i), .int (nI N), v] dJ0_checkIndex_df160_5 ms_J0_1059 rfl (Nat.le_of_ble_eq_true rfl) ⟨by show D - 1 + 1 ≤ D; omega, by show 60 * (D - 1) + 59 ≤ 60 * D; omega, by show 0 + 0 ≤ 0; omega, by show 0 + 0 ≤ 0; omega⟩ ?_
  refine zj_check3 hv hi hN ?_
  refine at_pop dJ0_checkIndex_df160_8 rfl ?_
  exact at_vret dJ0_checkIndex_df160_9 rfl (by omega) (by omega) hp
theorem zj_charAt1 {i : Nat} (hD : 2 ≤ D) (hi : i < zq_len) (h3 : zq_len < 2147483648) (hp : post (some (.int (zq_bytes.getD i 0 &&& 255))) n f) : zq_Runs l G D 0 0 yJ1_charAt_3b067 [.ref 6, .int (nI i)] n f post := by
  refine zq_enter (cc := cJ1_charAt_3b067) (nL := 2) (ret := (some .char)) cw_J1_charAt_3b067 (by decide) rfl (Nat.le_of_ble_eq_true rfl) ?_
  refine at_iload_n dJ1_charAt_3b067_0 rfl ?_
  refine at_aload_n dJ1_charAt_3b067_1 rfl ?_
  refine at_blen dJ1_charAt_3b067_2 ?_
  refine at_callS (d := D - 1) (mc := 0) (ms := 0) [.int (nI i), .int (nI zq_len)] dJ1_charAt_3b067_3 ms_J1_9 rfl (Nat.le_of_ble_eq_true rfl) ⟨by show D - 1 + 1 ≤ D; omega, by show 60 * (D - 1) + 59 ≤ 60 * D; omega, by show 0 + 0 ≤ 0; omega, by show 0 + 0 ≤ 0; omega⟩ ?_
  refine zj_check (by omega) hi h3 ?_
  refine at_aload_n dJ1_charAt_3b067_6 rfl ?_
  refine at_iload_n dJ1_charAt_3b067_7 rfl ?_
  refine at_bald6 dJ1_charAt_3b067_8 hi h3 ?_
  refine at_sipush dJ1_charAt_3b067_9 (v := 255) (by decide) ?_
  refine at_iand dJ1_charAt_3b067_12 ?_
  refine at_i2c dJ1_charAt_3b067_13 (sc_c2 _) ?_
  exact at_nret dJ1_charAt_3b067_14 rfl (sc_nar _) (by omega) (by omega) hp
theorem zj_charAt {i : Nat} (hD : 3 ≤ D) (hi : i < zq_len) (h3 : zq_len < 2147483648) (hp : post (some (.int (zq_bytes.getD i 0 &&& 255))) n f) : zq_Runs l G D 0 0 yJ0_charAt_5068e [.ref 5, .int (nI i)] n f post := by
  refine zq_enter (cc := cJ0_charAt_5068e) (nL := 2) (ret := (some .char)) cw_J0_charAt_5068e (by decide) rfl (Nat.le_of_ble_eq_true rfl) ?_
  refine at_aload_n dJ0_charAt_5068e_0 rfl ?_
  refine at_callVS (d := D - 1) (mc := 0) (ms := 0) [] dJ0_charAt_5068e_1 vs_J0_492 rfl (Nat.le_of_ble_eq_true rfl) ⟨by show D - 1 + 1 ≤ D; omega, by show 60 * (D - 1) + 59 ≤ 60 * D; omega, by show 0 + 0 ≤ 0; omega, by show 0 + 0 ≤ 0; omega⟩ ?_
  refine zj_isLatin1 ?_
  refine at_if_eq dJ0_charAt_5068e_4 rfl (fun h => absurd h (by decide)) (fun _ => ?_)
  refine at_aload_n dJ0_charAt_5068e_7 rfl ?_
  refine at_getSv rfl dJ0_charAt_5068e_8 ?_
  refine at_iload_n dJ0_charAt_5068e_11 rfl ?_
  refine at_callS (d := D - 1) (mc := 0) (ms := 0) [.ref 6, .int (nI i)] dJ0_charAt_5068e_12 ms_J0_495 rfl (Nat.le_of_ble_eq_true rfl) ⟨by show D - 1 + 1 ≤ D; omega, by show 60 * (D - 1) + 59 ≤ 60 * D; omega, by show 0 + 0 + 0 ≤ 0; omega, by show 0 + 0 + 0 ≤ 0; omega⟩ ?_
  refine zj_charAt1 (by omega) hi h3 ?_
  exact at_nret dJ0_charAt_5068e_15 rfl (sc_nar _) (by omega) (by omega) hp
theorem zj_length (hD : 1 ≤ D) (h3 : zq_len < 2147483648) (hp : post (some (.int (nI zq_len))) n f) : zq_Runs l G D 0 0 yJ0_length_8abf5 [.ref 5] n f post := by
  refine zq_enter (cc := cJ0_length_8abf5) (nL := 1) (ret := (some .int)) cw_J0_length_8abf5 (by decide) rfl (Nat.le_of_ble_eq_true rfl) ?_
  refine at_aload_n dJ0_length_8abf5_0 rfl ?_
  refine at_getSv rfl dJ0_length_8abf5_1 ?_
  refine at_blen dJ0_length_8abf5_4 ?_
  refine at_aload_n dJ0_length_8abf5_5 rfl ?_
  refine at_callVS (d := D - 1) (mc := 0) (ms := 0) [] dJ0_length_8abf5_6 vs_J0_335 rfl (Nat.le_of_ble_eq_true rfl) ⟨by show D - 1 + 1 ≤ D; omega, by show 60 * (D - 1) + 59 ≤ 60 * D; omega, by show 0 + 0 ≤ 0; omega, by show 0 + 0 ≤ 0; omega⟩ ?_
  refine zj_coder ?_
  refine at_ishr dJ0_length_8abf5_9 ?_
  rw [sc_shr0 (by omega)]
  exact at_iret dJ0_length_8abf5_10 rfl (by omega) (by omega) hp
end ZS1

