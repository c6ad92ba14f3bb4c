/-! ===== the Model is made: its arrays (written by mkinit3.py) ===== -/
theorem zq_i12 : Cond.instantiable RX12 55 ∈ zq_ws := zq_in (zq_t5 (List.mem_of_getElem? (i := 110) rfl)) rfl
theorem zq_n12 : Cond.initialized RX12 ∈ zq_ws := zq_in (zq_t1 (List.mem_of_getElem? (i := 10) rfl)) rfl
theorem zq_vo_12 : zq_ws.all (zq_vo yX12_init) = true := by decide +kernel
theorem zq_ab : Cond.arrayClass .byte ∈ zq_ws := zq_in (zq_t3 (List.mem_of_getElem? (i := 77) rfl)) rfl
theorem zq_az : Cond.arrayClass .boolean ∈ zq_ws := zq_in (zq_t6 (List.mem_of_getElem? (i := 45) rfl)) rfl
def zL27 : List zq_E := [.inl (0, 7, .inl (fun _ => 0)), .inl (0, 5684, .inl (fun _ => 0)), .inl (0, 11368, .inl (fun _ => 0)), .inl (2, 2, .inl (fun _ => 0)), .inl (0, 40, .inl (fun _ => 0)), .inl (0, 6, .inl (fun _ => 0)), .inl (1, 143, .inl (zwB 143)), .inl (1, 400, .inl (fun _ => 0)), .inl (0, 5, .inl (fun _ => 0)), .inl (0, 401, .inl (fun _ => 0)), .inl (0, 401, .inl (fun _ => 0)), .inl (0, 401, .inl (fun _ => 0)), .inl (0, 8, .inl (fun _ => 0)), .inl (0, 5, .inl (fun _ => 0)), .inl (0, 49, .inl (fun _ => 0)), .inl (0, 780, .inl (fun _ => 0)), .inl (0, 5460, .inl (fun _ => 0)), .inl (0, 6248, .inl (fun _ => 0)), .inl (0, 24, .inl (fun _ => 0)), .inl (0, 40, .inl (fun _ => 0)), .inl (0, 7, .inl (fun _ => 0)), .inl (0, 7, .inl (fun _ => 0)), .inl (3, 21, .inr (.inl (fun _ => 0))), .inl (0, 336, .inl (fun _ => 0)), .inl (0, 336, .inl (fun _ => 0)), .inl (3, 3, .inr (.inl (fun _ => 0))), .inl (0, 20, .inl (fun _ => 0))]
def zF55 (B : Nat) : List Value := [.int 0, .ref (B + 1), .ref (B + 2), .ref (B + 3), .ref (B + 4), .ref (B + 5), .ref (B + 6), .int 0, .ref (B + 7), .int 0, .int 0, .int 0, .ref (B + 8), .ref (B + 9), .int 0, .int (-1), .ref (B + 10), .ref (B + 11), .ref (B + 12), .int 0, .int 0, .int 0, .int 0, .int 0, .int 0, .int 0, .int 0, .ref (B + 13), .int 0, .int 0, .ref (B + 14), .ref (B + 15), .ref (B + 16), .ref (B + 17), .ref (B + 18), .int 0, .ref (B + 19), .ref (B + 20), .ref (B + 21), .ref (B + 22), .int 0, .ref (B + 23), .ref (B + 24), .ref (B + 25), .int 0, .int (-1), .int 0, .int 0, .int 0, .int 0, .int 0, .ref (B + 26), .ref (B + 27), .int (-1), .int 0]
def zfl (N : Nat) (g : Nat → Value) : List Value := (List.range N).map g
theorem zfl_len {N : Nat} {g : Nat → Value} : (zfl N g).length = N := by simp [zfl]
theorem zfl_lt {N k : Nat} {g : Nat → Value} (h : k < N) : k < (zfl N g).length := by rw [zfl_len]; exact h
theorem zfl_set {N k : Nat} {g : Nat → Value} {v : Value} : (zfl N g).set k v = zfl N (va_up g k v) := by
  apply List.ext_getElem?
  intro i
  by_cases h : i < N
  · by_cases e : i = k
    · subst e
      rw [List.getElem?_set_self (zfl_lt h)]
      simp [zfl, List.getElem?_range h, va_up_self]
    · rw [List.getElem?_set_ne (Ne.symm e)]
      simp [zfl, List.getElem?_range h, va_up_ne _ _ e]
  · rw [List.getElem?_eq_none (by rw [List.length_set, zfl_len]; omega), List.getElem?_eq_none (by rw [zfl_len]; omega)]
theorem zqL_pF {f : Nat → zq_E} {ci B N k : Nat} {g : Nat → Value} {v : Value} {L : List zq_E} : va_up (zqL f ci B (zfl N g) L) B (.inr (ci, (zfl N g).set k v)) = zqL f ci B (zfl N (va_up g k v)) L := by rw [zfl_set]; exact zqL_p
def zd12 (k : Nat) : Value := ([.int 0, .null, .null, .null, .null, .null, .null, .int 0, .null, .int 0, .int 0, .int 0, .null, .null, .int 0, .int 0, .null, .null, .null, .int 0, .int 0, .int 0, .int 0, .int 0, .int 0, .int 0, .int 0, .null, .int 0, .int 0, .null, .null, .null, .null, .null, .int 0, .null, .null, .null, .null, .int 0, .null, .null, .null, .int 0, .int 0, .int 0, .int 0, .int 0, .int 0, .int 0, .null, .null, .int 0, .int 0] : List Value).getD k .null
theorem zd12_e : [.int 0, .null, .null, .null, .null, .null, .null, .int 0, .null, .int 0, .int 0, .int 0, .null, .null, .int 0, .int 0, .null, .null, .null, .int 0, .int 0, .int 0, .int 0, .int 0, .int 0, .int 0, .int 0, .null, .int 0, .int 0, .null, .null, .null, .null, .null, .int 0, .null, .null, .null, .null, .int 0, .null, .null, .null, .int 0, .int 0, .int 0, .int 0, .int 0, .int 0, .int 0, .null, .null, .int 0, .int 0] = zfl 55 zd12 := rfl
section ZK35
variable {l : Launch} {G : zq_G} {D n : Nat} {f : Nat → zq_E} {post : Option Value → Nat → (Nat → zq_E) → Prop}
set_option maxHeartbeats 8000000 in
theorem zc_i12a {B : Nat} (hD : 3 ≤ D) (hn : n + 8 = B + 1) (hB : f B = .inr (12, [.int 0, .null, .null, .null, .null, .null, .null, .int 0, .null, .int 0, .int 0, .int 0, .null, .null, .int 0, .int 0, .null, .null, .null, .int 0, .int 0, .int 0, .int 0, .int 0, .int 0, .int 0, .int 0, .null, .int 0, .int 0, .null, .null, .null, .null, .null, .int 0, .null, .null, .null, .null, .int 0, .null, .null, .null, .int 0, .int 0, .int 0, .int 0, .int 0, .int 0, .int 0, .null, .null, .int 0, .int 0]))
    (kk : zq_At l G (zq_rm D 27 32202) mX12_init (zq_QF G post 27 32202) 1110 [(0, .ref B)] [] (n + 27) (zqL f 12 B (zF55 B) zL27) 27 32202) : zq_Runs l G D 27 32202 yX12_init [.ref B] n f post := by
  rw [zd12_e] at hB
  rw [← zqL_0 hB]
  refine zq_enter (cc := cX12_init) (nL := 2) (ret := none) cw_X12_init (by decide) rfl (Nat.le_of_ble_eq_true rfl) ?_
  refine at_aload_n dX12_init_0 rfl ?_
  refine at_objInit dX12_init_1 oi_X12_36 zq_oi zq_oc (Nat.le_of_ble_eq_true rfl) ⟨by show 1 ≤ D; omega, by show 20 ≤ 60 * D; omega⟩ ?_
  refine at_aload_n dX12_init_4 rfl ?_
  refine at_bipush dX12_init_5 (v := nI 7) (by decide) ?_
  refine at_newa (t := 0) (N := 7) (by decide) dX12_init_7 zq_ai (by decide) (by decide) (by decide) (by show 0 + 1 ≤ 27; omega) (by show 0 + 7 ≤ 32202; omega) ?_
  rw [zqL_n (show n + 8 = B + 0 + 1 by omega), show n + 8 = B + 1 by omega]
  refine at_put dX12_init_9 pl_X12_7 zqL_o (zfl_lt (by decide)) (fun _ => rfl) (fun _ => rfl) ?_
  rw [zqL_pF]
  refine at_aload_n dX12_init_12 rfl ?_
  refine at_sipush dX12_init_13 (v := nI 5684) (by decide) ?_
  refine at_newa (t := 0) (N := 5684) (by decide) dX12_init_16 zq_ai (by decide) (by decide) (by decide) (by show 1 + 1 ≤ 27; omega) (by show 7 + 5684 ≤ 32202; omega) ?_
  rw [zqL_n (show n + 1 + 8 = B + 1 + 1 by omega), show n + 1 + 8 = B + 2 by omega]
  rw [show n + 1 + 1 = n + 2 from rfl]
  refine at_put dX12_init_18 pl_X12_42 zqL_o (zfl_lt (by decide)) (fun _ => rfl) (fun _ => rfl) ?_
  rw [zqL_pF]
  refine at_aload_n dX12_init_21 rfl ?_
  refine at_sipush dX12_init_22 (v := nI 11368) (by decide) ?_
  refine at_newa (t := 0) (N := 11368) (by decide) dX12_init_25 zq_ai (by decide) (by decide) (by decide) (by show 2 + 1 ≤ 27; omega) (by show 5691 + 11368 ≤ 32202; omega) ?_
  rw [zqL_n (show n + 2 + 8 = B + 2 + 1 by omega), show n + 2 + 8 = B + 3 by omega]
  rw [show n + 2 + 1 = n + 3 from rfl]
  refine at_put dX12_init_27 pl_X12_45 zqL_o (zfl_lt (by decide)) (fun _ => rfl) (fun _ => rfl) ?_
  rw [zqL_pF]
  refine at_aload_n dX12_init_30 rfl ?_
  refine at_iconst dX12_init_31 (v := nI 2) (by decide) ?_
  refine at_newa (t := 2) (N := 2) (by decide) dX12_init_32 zq_az (by decide) (by decide) (by decide) (by show 3 + 1 ≤ 27; omega) (by show 17059 + 2 ≤ 32202; omega) ?_
  rw [zqL_n (show n + 3 + 8 = B + 3 + 1 by omega), show n + 3 + 8 = B + 4 by omega]
  rw [show n + 3 + 1 = n + 4 from rfl]
  refine at_put dX12_init_34 pl_X12_48 zqL_o (zfl_lt (by decide)) (fun _ => rfl) (fun _ => rfl) ?_
  rw [zqL_pF]
  refine at_aload_n dX12_init_37 rfl ?_
  refine at_bipush dX12_init_38 (v := nI 40) (by decide) ?_
  refine at_newa (t := 0) (N := 40) (by decide) dX12_init_40 zq_ai (by decide) (by decide) (by decide) (by show 4 + 1 ≤ 27; omega) (by show 17061 + 40 ≤ 32202; omega) ?_
  rw [zqL_n (show n + 4 + 8 = B + 4 + 1 by omega), show n + 4 + 8 = B + 5 by omega]
  rw [show n + 4 + 1 = n + 5 from rfl]
  refine at_put dX12_init_42 pl_X12_52 zqL_o (zfl_lt (by decide)) (fun _ => rfl) (fun _ => rfl) ?_
  rw [zqL_pF]
  refine at_aload_n dX12_init_45 rfl ?_
  refine at_bipush dX12_init_46 (v := nI 6) (by decide) ?_
  refine at_newa (t := 0) (N := 6) (by decide) dX12_init_48 zq_ai (by decide) (by decide) (by decide) (by show 5 + 1 ≤ 27; omega) (by show 17101 + 6 ≤ 32202; omega) ?_
  rw [zqL_n (show n + 5 + 8 = B + 5 + 1 by omega), show n + 5 + 8 = B + 6 by omega]
  rw [show n + 5 + 1 = n + 6 from rfl]
  refine at_put dX12_init_50 pl_X12_55 zqL_o (zfl_lt (by decide)) (fun _ => rfl) (fun _ => rfl) ?_
  rw [zqL_pF]
  refine at_aload_n dX12_init_53 rfl ?_
  refine at_sipush dX12_init_54 (v := nI 143) (by decide) ?_
  refine at_newa (t := 1) (N := 143) (by decide) dX12_init_57 zq_ab (by decide) (by decide) (by decide) (by show 6 + 1 ≤ 27; omega) (by show 17107 + 143 ≤ 32202; omega) ?_
  rw [show n + 6 + 8 = B + 7 by omega]
  rw [show n + 6 + 1 = n + 7 from rfl]
  refine zc_words ?_
  rw [zqL_n (show B + 7 = B + 6 + 1 from rfl)]
  refine at_put dX12_init_926 pl_X12_58 zqL_o (zfl_lt (by decide)) (fun _ => rfl) (fun _ => rfl) ?_
  rw [zqL_pF]
  refine at_aload_n dX12_init_929 rfl ?_
  refine at_sipush dX12_init_930 (v := nI 400) (by decide) ?_
  refine at_newa (t := 1) (N := 400) (by decide) dX12_init_933 zq_ab (by decide) (by decide) (by decide) (by show 7 + 1 ≤ 27; omega) (by show 17250 + 400 ≤ 32202; omega) ?_
  rw [zqL_n (show n + 7 + 8 = B + 7 + 1 by omega), show n + 7 + 8 = B + 8 by omega]
  rw [show n + 7 + 1 = n + 8 from rfl]
  refine at_put dX12_init_935 pl_X12_62 zqL_o (zfl_lt (by decide)) (fun _ => rfl) (fun _ => rfl) ?_
  rw [zqL_pF]
  refine at_aload_n dX12_init_938 rfl ?_
  refine at_iconst dX12_init_939 (v := nI 5) (by decide) ?_
  refine at_newa (t := 0) (N := 5) (by decide) dX12_init_940 zq_ai (by decide) (by decide) (by decide) (by show 8 + 1 ≤ 27; omega) (by show 17650 + 5 ≤ 32202; omega) ?_
  rw [zqL_n (show n + 8 + 8 = B + 8 + 1 by omega), show n + 8 + 8 = B + 9 by omega]
  rw [show n + 8 + 1 = n + 9 from rfl]
  refine at_put dX12_init_942 pl_X12_65 zqL_o (zfl_lt (by decide)) (fun _ => rfl) (fun _ => rfl) ?_
  rw [zqL_pF]
  refine at_aload_n dX12_init_945 rfl ?_
  refine at_iconst dX12_init_946 (v := -1) rfl ?_
  refine at_put dX12_init_947 (pl_X12_68 _) zqL_o (zfl_lt (by decide)) (fun _ => rfl) (fun _ => rfl) ?_
  rw [zqL_pF]
  refine at_aload_n dX12_init_950 rfl ?_
  refine at_sipush dX12_init_951 (v := nI 401) (by decide) ?_
  refine at_newa (t := 0) (N := 401) (by decide) dX12_init_954 zq_ai (by decide) (by decide) (by decide) (by show 9 + 1 ≤ 27; omega) (by show 17655 + 401 ≤ 32202; omega) ?_
  rw [zqL_n (show n + 9 + 8 = B + 9 + 1 by omega), show n + 9 + 8 = B + 10 by omega]
  rw [show n + 9 + 1 = n + 10 from rfl]
  refine at_put dX12_init_956 pl_X12_71 zqL_o (zfl_lt (by decide)) (fun _ => rfl) (fun _ => rfl) ?_
  rw [zqL_pF]
  refine at_aload_n dX12_init_959 rfl ?_
  refine at_sipush dX12_init_960 (v := nI 401) (by decide) ?_
  refine at_newa (t := 0) (N := 401) (by decide) dX12_init_963 zq_ai (by decide) (by decide) (by decide) (by show 10 + 1 ≤ 27; omega) (by show 18056 + 401 ≤ 32202; omega) ?_
  rw [zqL_n (show n + 10 + 8 = B + 10 + 1 by omega), show n + 10 + 8 = B + 11 by omega]
  rw [show n + 10 + 1 = n + 11 from rfl]
  refine at_put dX12_init_965 pl_X12_74 zqL_o (zfl_lt (by decide)) (fun _ => rfl) (fun _ => rfl) ?_
  rw [zqL_pF]
  refine at_aload_n dX12_init_968 rfl ?_
  refine at_sipush dX12_init_969 (v := nI 401) (by decide) ?_
  refine at_newa (t := 0) (N := 401) (by decide) dX12_init_972 zq_ai (by decide) (by decide) (by decide) (by show 11 + 1 ≤ 27; omega) (by show 18457 + 401 ≤ 32202; omega) ?_
  rw [zqL_n (show n + 11 + 8 = B + 11 + 1 by omega), show n + 11 + 8 = B + 12 by omega]
  rw [show n + 11 + 1 = n + 12 from rfl]
  refine at_put dX12_init_974 pl_X12_77 zqL_o (zfl_lt (by decide)) (fun _ => rfl) (fun _ => rfl) ?_
  rw [zqL_pF]
  refine at_aload_n dX12_init_977 rfl ?_
  refine at_bipush dX12_init_978 (v := nI 8) (by decide) ?_
  refine at_newa (t := 0) (N := 8) (by decide) dX12_init_980 zq_ai (by decide) (by decide) (by decide) (by show 12 + 1 ≤ 27; omega) (by show 18858 + 8 ≤ 32202; omega) ?_
  rw [zqL_n (show n + 12 + 8 = B + 12 + 1 by omega), show n + 12 + 8 = B + 13 by omega]
  rw [show n + 12 + 1 = n + 13 from rfl]
  refine at_put dX12_init_982 pl_X12_80 zqL_o (zfl_lt (by decide)) (fun _ => rfl) (fun _ => rfl) ?_
  rw [zqL_pF]
  refine at_aload_n dX12_init_985 rfl ?_
  refine at_iconst dX12_init_986 (v := nI 5) (by decide) ?_
  refine at_newa (t := 0) (N := 5) (by decide) dX12_init_987 zq_ai (by decide) (by decide) (by decide) (by show 13 + 1 ≤ 27; omega) (by show 18866 + 5 ≤ 32202; omega) ?_
  rw [zqL_n (show n + 13 + 8 = B + 13 + 1 by omega), show n + 13 + 8 = B + 14 by omega]
  rw [show n + 13 + 1 = n + 14 from rfl]
  refine at_put dX12_init_989 pl_X12_83 zqL_o (zfl_lt (by decide)) (fun _ => rfl) (fun _ => rfl) ?_
  rw [zqL_pF]
  refine at_aload_n dX12_init_992 rfl ?_
  refine at_bipush dX12_init_993 (v := nI 49) (by decide) ?_
  refine at_newa (t := 0) (N := 49) (by decide) dX12_init_995 zq_ai (by decide) (by decide) (by decide) (by show 14 + 1 ≤ 27; omega) (by show 18871 + 49 ≤ 32202; omega) ?_
  rw [zqL_n (show n + 14 + 8 = B + 14 + 1 by omega), show n + 14 + 8 = B + 15 by omega]
  rw [show n + 14 + 1 = n + 15 from rfl]
  refine at_put dX12_init_997 pl_X12_86 zqL_o (zfl_lt (by decide)) (fun _ => rfl) (fun _ => rfl) ?_
  rw [zqL_pF]
  refine at_aload_n dX12_init_1000 rfl ?_
  refine at_sipush dX12_init_1001 (v := nI 780) (by decide) ?_
  refine at_newa (t := 0) (N := 780) (by decide) dX12_init_1004 zq_ai (by decide) (by decide) (by decide) (by show 15 + 1 ≤ 27; omega) (by show 18920 + 780 ≤ 32202; omega) ?_
  rw [zqL_n (show n + 15 + 8 = B + 15 + 1 by omega), show n + 15 + 8 = B + 16 by omega]
  rw [show n + 15 + 1 = n + 16 from rfl]
  refine at_put dX12_init_1006 pl_X12_89 zqL_o (zfl_lt (by decide)) (fun _ => rfl) (fun _ => rfl) ?_
  rw [zqL_pF]
  refine at_aload_n dX12_init_1009 rfl ?_
  refine at_sipush dX12_init_1010 (v := nI 5460) (by decide) ?_
  refine at_newa (t := 0) (N := 5460) (by decide) dX12_init_1013 zq_ai (by decide) (by decide) (by decide) (by show 16 + 1 ≤ 27; omega) (by show 19700 + 5460 ≤ 32202; omega) ?_
  rw [zqL_n (show n + 16 + 8 = B + 16 + 1 by omega), show n + 16 + 8 = B + 17 by omega]
  rw [show n + 16 + 1 = n + 17 from rfl]
  refine at_put dX12_init_1015 pl_X12_92 zqL_o (zfl_lt (by decide)) (fun _ => rfl) (fun _ => rfl) ?_
  rw [zqL_pF]
  refine at_aload_n dX12_init_1018 rfl ?_
  refine at_sipush dX12_init_1019 (v := nI 6248) (by decide) ?_
  refine at_newa (t := 0) (N := 6248) (by decide) dX12_init_1022 zq_ai (by decide) (by decide) (by decide) (by show 17 + 1 ≤ 27; omega) (by show 25160 + 6248 ≤ 32202; omega) ?_
  rw [zqL_n (show n + 17 + 8 = B + 17 + 1 by omega), show n + 17 + 8 = B + 18 by omega]
  rw [show n + 17 + 1 = n + 18 from rfl]
  refine at_put dX12_init_1024 pl_X12_95 zqL_o (zfl_lt (by decide)) (fun _ => rfl) (fun _ => rfl) ?_
  rw [zqL_pF]
  refine at_aload_n dX12_init_1027 rfl ?_
  refine at_bipush dX12_init_1028 (v := nI 24) (by decide) ?_
  refine at_newa (t := 0) (N := 24) (by decide) dX12_init_1030 zq_ai (by decide) (by decide) (by decide) (by show 18 + 1 ≤ 27; omega) (by show 31408 + 24 ≤ 32202; omega) ?_
  rw [zqL_n (show n + 18 + 8 = B + 18 + 1 by omega), show n + 18 + 8 = B + 19 by omega]
  rw [show n + 18 + 1 = n + 19 from rfl]
  refine at_put dX12_init_1032 pl_X12_98 zqL_o (zfl_lt (by decide)) (fun _ => rfl) (fun _ => rfl) ?_
  rw [zqL_pF]
  refine at_aload_n dX12_init_1035 rfl ?_
  refine at_bipush dX12_init_1036 (v := nI 40) (by decide) ?_
  refine at_newa (t := 0) (N := 40) (by decide) dX12_init_1038 zq_ai (by decide) (by decide) (by decide) (by show 19 + 1 ≤ 27; omega) (by show 31432 + 40 ≤ 32202; omega) ?_
  rw [zqL_n (show n + 19 + 8 = B + 19 + 1 by omega), show n + 19 + 8 = B + 20 by omega]
  rw [show n + 19 + 1 = n + 20 from rfl]
  refine at_put dX12_init_1040 pl_X12_101 zqL_o (zfl_lt (by decide)) (fun _ => rfl) (fun _ => rfl) ?_
  rw [zqL_pF]
  refine at_aload_n dX12_init_1043 rfl ?_
  refine at_bipush dX12_init_1044 (v := nI 7) (by decide) ?_
  refine at_newa (t := 0) (N := 7) (by decide) dX12_init_1046 zq_ai (by decide) (by decide) (by decide) (by show 20 + 1 ≤ 27; omega) (by show 31472 + 7 ≤ 32202; omega) ?_
  rw [zqL_n (show n + 20 + 8 = B + 20 + 1 by omega), show n + 20 + 8 = B + 21 by omega]
  rw [show n + 20 + 1 = n + 21 from rfl]
  refine at_put dX12_init_1048 pl_X12_104 zqL_o (zfl_lt (by decide)) (fun _ => rfl) (fun _ => rfl) ?_
  rw [zqL_pF]
  refine at_aload_n dX12_init_1051 rfl ?_
  refine at_bipush dX12_init_1052 (v := nI 7) (by decide) ?_
  refine at_newa (t := 0) (N := 7) (by decide) dX12_init_1054 zq_ai (by decide) (by decide) (by decide) (by show 21 + 1 ≤ 27; omega) (by show 31479 + 7 ≤ 32202; omega) ?_
  rw [zqL_n (show n + 21 + 8 = B + 21 + 1 by omega), show n + 21 + 8 = B + 22 by omega]
  rw [show n + 21 + 1 = n + 22 from rfl]
  refine at_put dX12_init_1056 pl_X12_107 zqL_o (zfl_lt (by decide)) (fun _ => rfl) (fun _ => rfl) ?_
  rw [zqL_pF]
  refine at_aload_n dX12_init_1059 rfl ?_
  refine at_bipush dX12_init_1060 (v := nI 21) (by decide) ?_
  refine at_newa (t := 3) (N := 21) (by decide) dX12_init_1062 zq_al (by decide) (by decide) (by decide) (by show 22 + 1 ≤ 27; omega) (by show 31486 + 21 ≤ 32202; omega) ?_
  rw [zqL_n (show n + 22 + 8 = B + 22 + 1 by omega), show n + 22 + 8 = B + 23 by omega]
  rw [show n + 22 + 1 = n + 23 from rfl]
  refine at_put dX12_init_1064 pl_X12_110 zqL_o (zfl_lt (by decide)) (fun _ => rfl) (fun _ => rfl) ?_
  rw [zqL_pF]
  refine at_aload_n dX12_init_1067 rfl ?_
  refine at_sipush dX12_init_1068 (v := nI 336) (by decide) ?_
  refine at_newa (t := 0) (N := 336) (by decide) dX12_init_1071 zq_ai (by decide) (by decide) (by decide) (by show 23 + 1 ≤ 27; omega) (by show 31507 + 336 ≤ 32202; omega) ?_
  rw [zqL_n (show n + 23 + 8 = B + 23 + 1 by omega), show n + 23 + 8 = B + 24 by omega]
  rw [show n + 23 + 1 = n + 24 from rfl]
  refine at_put dX12_init_1073 pl_X12_114 zqL_o (zfl_lt (by decide)) (fun _ => rfl) (fun _ => rfl) ?_
  rw [zqL_pF]
  refine at_aload_n dX12_init_1076 rfl ?_
  refine at_sipush dX12_init_1077 (v := nI 336) (by decide) ?_
  refine at_newa (t := 0) (N := 336) (by decide) dX12_init_1080 zq_ai (by decide) (by decide) (by decide) (by show 24 + 1 ≤ 27; omega) (by show 31843 + 336 ≤ 32202; omega) ?_
  rw [zqL_n (show n + 24 + 8 = B + 24 + 1 by omega), show n + 24 + 8 = B + 25 by omega]
  rw [show n + 24 + 1 = n + 25 from rfl]
  refine at_put dX12_init_1082 pl_X12_117 zqL_o (zfl_lt (by decide)) (fun _ => rfl) (fun _ => rfl) ?_
  rw [zqL_pF]
  refine at_aload_n dX12_init_1085 rfl ?_
  refine at_iconst dX12_init_1086 (v := -1) rfl ?_
  refine at_put dX12_init_1087 (pl_X12_120 _) zqL_o (zfl_lt (by decide)) (fun _ => rfl) (fun _ => rfl) ?_
  rw [zqL_pF]
  refine at_aload_n dX12_init_1090 rfl ?_
  refine at_iconst dX12_init_1091 (v := nI 3) (by decide) ?_
  refine at_newa (t := 3) (N := 3) (by decide) dX12_init_1092 zq_al (by decide) (by decide) (by decide) (by show 25 + 1 ≤ 27; omega) (by show 32179 + 3 ≤ 32202; omega) ?_
  rw [zqL_n (show n + 25 + 8 = B + 25 + 1 by omega), show n + 25 + 8 = B + 26 by omega]
  rw [show n + 25 + 1 = n + 26 from rfl]
  refine at_put dX12_init_1094 pl_X12_123 zqL_o (zfl_lt (by decide)) (fun _ => rfl) (fun _ => rfl) ?_
  rw [zqL_pF]
  refine at_aload_n dX12_init_1097 rfl ?_
  refine at_bipush dX12_init_1098 (v := nI 20) (by decide) ?_
  refine at_newa (t := 0) (N := 20) (by decide) dX12_init_1100 zq_ai (by decide) (by decide) (by decide) (by show 26 + 1 ≤ 27; omega) (by show 32182 + 20 ≤ 32202; omega) ?_
  rw [zqL_n (show n + 26 + 8 = B + 26 + 1 by omega), show n + 26 + 8 = B + 27 by omega]
  rw [show n + 26 + 1 = n + 27 from rfl]
  refine at_put dX12_init_1102 pl_X12_126 zqL_o (zfl_lt (by decide)) (fun _ => rfl) (fun _ => rfl) ?_
  rw [zqL_pF]
  refine at_aload_n dX12_init_1105 rfl ?_
  refine at_iconst dX12_init_1106 (v := -1) rfl ?_
  refine at_put dX12_init_1107 (pl_X12_129 _) zqL_o (zfl_lt (by decide)) (fun _ => rfl) (fun _ => rfl) ?_
  rw [zqL_pF]
  exact kk
end ZK35

