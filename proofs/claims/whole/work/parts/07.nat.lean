/-! ===== rows over counted numbers (nI), rows of calls by how many arguments, the Model's pool ===== -/
theorem zn_ge {a b : Nat} (ha : a < 2147483648) (hb : b < 2147483648) : nI b ≤ nI a ↔ b ≤ a := nI_leI hb ha
theorem zn_lt {a b : Nat} (ha : a < 2147483648) (hb : b < 2147483648) : nI a < nI b ↔ a < b := nI_ltI ha hb
theorem zn_eq {a b : Nat} (ha : a < 2147483648) (hb : b < 2147483648) : nI a = nI b ↔ a = b := nI_eq ha hb
theorem zn_in {i : Int32} {j N : Nat} (hi : i = nI j) (hj : j < N) (hN : N < 2147483648) : vp_in i N ∧ i.toNatClampNeg = j := by
  subst hi
  exact ⟨vp_in_nI hj hN, nI_clamp (Nat.lt_trans hj hN)⟩
section ZN1
variable {l : Launch} {G : zq_G} {R : Room} {M : zq_M} {QF : List Frame → Array Value → State → State → Prop} {pc : Nat} {lv : List (Nat × Value)} {st : List Value} {n : Nat} {f : Nat → zq_E} {cells slots : Nat}
theorem at_iaddN {a b : Nat} (hd : decode M.1 pc = .ok (.iadd, 1)) (k : zq_At l G R M QF (pc + 1) lv (.int (nI (a + b)) :: st) n f cells slots) : zq_At l G R M QF pc lv (.int (nI b) :: .int (nI a) :: st) n f cells slots := at_iadd hd (by rw [nI_add]; exact k)
theorem at_imulN {a b : Nat} (hd : decode M.1 pc = .ok (.imul, 1)) (k : zq_At l G R M QF (pc + 1) lv (.int (nI (a * b)) :: st) n f cells slots) : zq_At l G R M QF pc lv (.int (nI b) :: .int (nI a) :: st) n f cells slots := at_imul hd (by rw [pk_mul]; exact k)
theorem at_isubN {a b : Nat} (hd : decode M.1 pc = .ok (.isub, 1)) (h : b ≤ a) (k : zq_At l G R M QF (pc + 1) lv (.int (nI (a - b)) :: st) n f cells slots) : zq_At l G R M QF pc lv (.int (nI b) :: .int (nI a) :: st) n f cells slots := at_isub hd (by rw [pk_sub h]; exact k)
theorem at_idivN {a b : Nat} (hd : decode M.1 pc = .ok (.idiv, 1)) (ha : a < 2147483648) (h0 : 0 < b) (hb : b < 2147483648) (k : zq_At l G R M QF (pc + 1) lv (.int (nI (a / b)) :: st) n f cells slots) : zq_At l G R M QF pc lv (.int (nI b) :: .int (nI a) :: st) n f cells slots := at_idiv hd (nI_ne0 h0 hb) (by rw [pk_div ha h0 hb]; exact k)
theorem at_iremN {a b : Nat} (hd : decode M.1 pc = .ok (.irem, 1)) (ha : a < 2147483648) (h0 : 0 < b) (hb : b < 2147483648) (k : zq_At l G R M QF (pc + 1) lv (.int (nI (a % b)) :: st) n f cells slots) : zq_At l G R M QF pc lv (.int (nI b) :: .int (nI a) :: st) n f cells slots := at_irem hd (nI_ne0 h0 hb) (by rw [pk_rem ha h0 hb]; exact k)
theorem at_iincN {i b a : Nat} (hd : decode M.1 pc = .ok (.iinc i b, 3)) (hl0 : zq_lk lv i = some (.int (nI a))) (hn : i < M.2.2.2.2) (k : zq_At l G R M QF (pc + 3) (zq_st1 lv i (.int (nI (a + b)))) st n f cells slots) : zq_At l G R M QF pc lv st n f cells slots := at_iinc hd hl0 (by rw [← nI_add]; rfl) hn k
theorem at_geN {a b : Nat} {off : Int} {tgt : Nat} (hd : decode M.1 pc = .ok (.if_icmp .ge off, 3)) (ht : (pc : Int) + off = (tgt : Int)) (ha : a < 2147483648) (hb : b < 2147483648) (kt : b ≤ a → zq_At l G R M QF tgt lv st n f cells slots) (kf : a < b → zq_At l G R M QF (pc + 3) lv st n f cells slots) : zq_At l G R M QF pc lv (.int (nI b) :: .int (nI a) :: st) n f cells slots :=
  at_icmp_ge hd ht (fun h => kt ((zn_ge ha hb).mp h)) (fun h => kf (Nat.not_le.mp fun q => h ((zn_ge ha hb).mpr q)))
theorem at_ltN {a b : Nat} {off : Int} {tgt : Nat} (hd : decode M.1 pc = .ok (.if_icmp .lt off, 3)) (ht : (pc : Int) + off = (tgt : Int)) (ha : a < 2147483648) (hb : b < 2147483648) (kt : a < b → zq_At l G R M QF tgt lv st n f cells slots) (kf : b ≤ a → zq_At l G R M QF (pc + 3) lv st n f cells slots) : zq_At l G R M QF pc lv (.int (nI b) :: .int (nI a) :: st) n f cells slots :=
  at_icmp_lt hd ht (fun h => kt ((zn_lt ha hb).mp h)) (fun h => kf (Nat.not_lt.mp fun q => h ((zn_lt ha hb).mpr q)))
theorem at_gtN {a b : Nat} {off : Int} {tgt : Nat} (hd : decode M.1 pc = .ok (.if_icmp .gt off, 3)) (ht : (pc : Int) + off = (tgt : Int)) (ha : a < 2147483648) (hb : b < 2147483648) (kt : b < a → zq_At l G R M QF tgt lv st n f cells slots) (kf : a ≤ b → zq_At l G R M QF (pc + 3) lv st n f cells slots) : zq_At l G R M QF pc lv (.int (nI b) :: .int (nI a) :: st) n f cells slots :=
  at_icmp_gt hd ht (fun h => kt ((zn_lt hb ha).mp h)) (fun h => kf (Nat.not_lt.mp fun q => h ((zn_lt hb ha).mpr q)))
theorem at_leN {a b : Nat} {off : Int} {tgt : Nat} (hd : decode M.1 pc = .ok (.if_icmp .le off, 3)) (ht : (pc : Int) + off = (tgt : Int)) (ha : a < 2147483648) (hb : b < 2147483648) (kt : a ≤ b → zq_At l G R M QF tgt lv st n f cells slots) (kf : b < a → zq_At l G R M QF (pc + 3) lv st n f cells slots) : zq_At l G R M QF pc lv (.int (nI b) :: .int (nI a) :: st) n f cells slots :=
  at_icmp_le hd ht (fun h => kt ((zn_ge hb ha).mp h)) (fun h => kf (Nat.not_le.mp fun q => h ((zn_ge hb ha).mpr q)))
theorem at_eqN {a b : Nat} {off : Int} {tgt : Nat} (hd : decode M.1 pc = .ok (.if_icmp .eq off, 3)) (ht : (pc : Int) + off = (tgt : Int)) (ha : a < 2147483648) (hb : b < 2147483648) (kt : a = b → zq_At l G R M QF tgt lv st n f cells slots) (kf : a ≠ b → zq_At l G R M QF (pc + 3) lv st n f cells slots) : zq_At l G R M QF pc lv (.int (nI b) :: .int (nI a) :: st) n f cells slots :=
  at_icmp_eq hd ht (fun h => kt ((zn_eq ha hb).mp h)) (fun h => kf fun q => h ((zn_eq ha hb).mpr q))
theorem at_neN {a b : Nat} {off : Int} {tgt : Nat} (hd : decode M.1 pc = .ok (.if_icmp .ne off, 3)) (ht : (pc : Int) + off = (tgt : Int)) (ha : a < 2147483648) (hb : b < 2147483648) (kt : a ≠ b → zq_At l G R M QF tgt lv st n f cells slots) (kf : a = b → zq_At l G R M QF (pc + 3) lv st n f cells slots) : zq_At l G R M QF pc lv (.int (nI b) :: .int (nI a) :: st) n f cells slots :=
  at_icmp_ne hd ht (fun h => kt fun q => h ((zn_eq ha hb).mpr q)) (fun h => kf ((zn_eq ha hb).mp h))
theorem at_if_eqN {a : Nat} {off : Int} {tgt : Nat} (hd : decode M.1 pc = .ok (.ifCond .eq off, 3)) (ht : (pc : Int) + off = (tgt : Int)) (ha : a < 2147483648) (kt : a = 0 → zq_At l G R M QF tgt lv st n f cells slots) (kf : a ≠ 0 → zq_At l G R M QF (pc + 3) lv st n f cells slots) : zq_At l G R M QF pc lv (.int (nI a) :: st) n f cells slots :=
  at_if_eq hd ht (fun h => kt ((zn_eq (b := 0) ha (by decide)).mp h)) (fun h => kf fun q => h ((zn_eq (b := 0) ha (by decide)).mpr q))
theorem at_if_neN {a : Nat} {off : Int} {tgt : Nat} (hd : decode M.1 pc = .ok (.ifCond .ne off, 3)) (ht : (pc : Int) + off = (tgt : Int)) (ha : a < 2147483648) (kt : a ≠ 0 → zq_At l G R M QF tgt lv st n f cells slots) (kf : a = 0 → zq_At l G R M QF (pc + 3) lv st n f cells slots) : zq_At l G R M QF pc lv (.int (nI a) :: st) n f cells slots :=
  at_if_ne hd ht (fun h => kt fun q => h ((zn_eq (b := 0) ha (by decide)).mpr q)) (fun h => kf ((zn_eq (b := 0) ha (by decide)).mp h))
theorem at_ialdN {o N j : Nat} {g : Nat → Int32} {i : Int32} (hd : decode M.1 pc = .ok (.iaload, 1)) (hf : f o = .inl (0, N, .inl g)) (hN : N < 2147483648) (hi : i = nI j) (hj : j < N) (kk : zq_At l G R M QF (pc + 1) lv (.int (g j) :: st) n f cells slots) : zq_At l G R M QF pc lv (.int i :: .ref o :: st) n f cells slots := by
  obtain ⟨h1, h2⟩ := zn_in hi hj hN
  exact at_iald hd hf h1 (by rw [h2]; exact kk)
theorem at_iastN {o N j : Nat} {g : Nat → Int32} {i x : Int32} (hd : decode M.1 pc = .ok (.iastore, 1)) (hf : f o = .inl (0, N, .inl g)) (hN : N < 2147483648) (hi : i = nI j) (hj : j < N) (kk : zq_At l G R M QF (pc + 1) lv st n (va_up f o (.inl (0, N, .inl (upd g j x)))) cells slots) : zq_At l G R M QF pc lv (.int x :: .int i :: .ref o :: st) n f cells slots := by
  obtain ⟨h1, h2⟩ := zn_in hi hj hN
  exact at_iast hd hf h1 (by rw [h2]; exact kk)
theorem at_callV0 {idx o ci d mc ms : Nat} {y : MethodName} {fs : List Value} (hd : decode M.1 pc = .ok (.invokevirtual idx, 3)) (hL : zq_MV M.2.1 idx ci y 0) (ho : f o = .inr (ci, fs)) (hcat : (st.map fun v => v.category).sum ≤ 8) (hR : d + 1 ≤ R.frames ∧ 60 * d + 59 ≤ R.locals ∧ cells + mc ≤ R.cells ∧ slots + ms ≤ R.slots)
    (hr : zq_Runs l G d mc ms y [.ref o] n f (fun r n1 f1 => zq_At l G R M QF (pc + 3) lv (r.toList ++ st) n1 f1 (cells + mc) (slots + ms))) : zq_At l G R M QF pc lv (.ref o :: st) n f cells slots := at_callV [] hd hL rfl ho hcat hR hr
theorem at_callV1 {idx o ci d mc ms : Nat} {y : MethodName} {fs : List Value} {a1 : Value} (hd : decode M.1 pc = .ok (.invokevirtual idx, 3)) (hL : zq_MV M.2.1 idx ci y 1) (ho : f o = .inr (ci, fs)) (hcat : (st.map fun v => v.category).sum ≤ 8) (hR : d + 1 ≤ R.frames ∧ 60 * d + 59 ≤ R.locals ∧ cells + mc ≤ R.cells ∧ slots + ms ≤ R.slots)
    (hr : zq_Runs l G d mc ms y [.ref o, a1] n f (fun r n1 f1 => zq_At l G R M QF (pc + 3) lv (r.toList ++ st) n1 f1 (cells + mc) (slots + ms))) : zq_At l G R M QF pc lv (a1 :: .ref o :: st) n f cells slots := at_callV [a1] hd hL rfl ho hcat hR hr
theorem at_callV2 {idx o ci d mc ms : Nat} {y : MethodName} {fs : List Value} {a1 a2 : Value} (hd : decode M.1 pc = .ok (.invokevirtual idx, 3)) (hL : zq_MV M.2.1 idx ci y 2) (ho : f o = .inr (ci, fs)) (hcat : (st.map fun v => v.category).sum ≤ 8) (hR : d + 1 ≤ R.frames ∧ 60 * d + 59 ≤ R.locals ∧ cells + mc ≤ R.cells ∧ slots + ms ≤ R.slots)
    (hr : zq_Runs l G d mc ms y [.ref o, a1, a2] n f (fun r n1 f1 => zq_At l G R M QF (pc + 3) lv (r.toList ++ st) n1 f1 (cells + mc) (slots + ms))) : zq_At l G R M QF pc lv (a2 :: a1 :: .ref o :: st) n f cells slots := at_callV [a1, a2] hd hL rfl ho hcat hR hr
theorem at_callV3 {idx o ci d mc ms : Nat} {y : MethodName} {fs : List Value} {a1 a2 a3 : Value} (hd : decode M.1 pc = .ok (.invokevirtual idx, 3)) (hL : zq_MV M.2.1 idx ci y 3) (ho : f o = .inr (ci, fs)) (hcat : (st.map fun v => v.category).sum ≤ 8) (hR : d + 1 ≤ R.frames ∧ 60 * d + 59 ≤ R.locals ∧ cells + mc ≤ R.cells ∧ slots + ms ≤ R.slots)
    (hr : zq_Runs l G d mc ms y [.ref o, a1, a2, a3] n f (fun r n1 f1 => zq_At l G R M QF (pc + 3) lv (r.toList ++ st) n1 f1 (cells + mc) (slots + ms))) : zq_At l G R M QF pc lv (a3 :: a2 :: a1 :: .ref o :: st) n f cells slots := at_callV [a1, a2, a3] hd hL rfl ho hcat hR hr
theorem at_callV4 {idx o ci d mc ms : Nat} {y : MethodName} {fs : List Value} {a1 a2 a3 a4 : Value} (hd : decode M.1 pc = .ok (.invokevirtual idx, 3)) (hL : zq_MV M.2.1 idx ci y 4) (ho : f o = .inr (ci, fs)) (hcat : (st.map fun v => v.category).sum ≤ 8) (hR : d + 1 ≤ R.frames ∧ 60 * d + 59 ≤ R.locals ∧ cells + mc ≤ R.cells ∧ slots + ms ≤ R.slots)
    (hr : zq_Runs l G d mc ms y [.ref o, a1, a2, a3, a4] n f (fun r n1 f1 => zq_At l G R M QF (pc + 3) lv (r.toList ++ st) n1 f1 (cells + mc) (slots + ms))) : zq_At l G R M QF pc lv (a4 :: a3 :: a2 :: a1 :: .ref o :: st) n f cells slots := at_callV [a1, a2, a3, a4] hd hL rfl ho hcat hR hr
theorem at_callV5 {idx o ci d mc ms : Nat} {y : MethodName} {fs : List Value} {a1 a2 a3 a4 a5 : Value} (hd : decode M.1 pc = .ok (.invokevirtual idx, 3)) (hL : zq_MV M.2.1 idx ci y 5) (ho : f o = .inr (ci, fs)) (hcat : (st.map fun v => v.category).sum ≤ 8) (hR : d + 1 ≤ R.frames ∧ 60 * d + 59 ≤ R.locals ∧ cells + mc ≤ R.cells ∧ slots + ms ≤ R.slots)
    (hr : zq_Runs l G d mc ms y [.ref o, a1, a2, a3, a4, a5] n f (fun r n1 f1 => zq_At l G R M QF (pc + 3) lv (r.toList ++ st) n1 f1 (cells + mc) (slots + ms))) : zq_At l G R M QF pc lv (a5 :: a4 :: a3 :: a2 :: a1 :: .ref o :: st) n f cells slots := at_callV [a1, a2, a3, a4, a5] hd hL rfl ho hcat hR hr
theorem at_callS1 {idx d mc ms : Nat} {y : MethodName} {a1 : Value} (hd : decode M.1 pc = .ok (.invokestatic idx, 3)) (hL : zq_MS M.2.1 idx y 1) (hcat : (st.map fun v => v.category).sum ≤ 8) (hR : d + 1 ≤ R.frames ∧ 60 * d + 59 ≤ R.locals ∧ cells + mc ≤ R.cells ∧ slots + ms ≤ R.slots)
    (hr : zq_Runs l G d mc ms y [a1] n f (fun r n1 f1 => zq_At l G R M QF (pc + 3) lv (r.toList ++ st) n1 f1 (cells + mc) (slots + ms))) : zq_At l G R M QF pc lv (a1 :: st) n f cells slots := at_callS [a1] hd hL rfl hcat hR hr
theorem at_callS2 {idx d mc ms : Nat} {y : MethodName} {a1 a2 : Value} (hd : decode M.1 pc = .ok (.invokestatic idx, 3)) (hL : zq_MS M.2.1 idx y 2) (hcat : (st.map fun v => v.category).sum ≤ 8) (hR : d + 1 ≤ R.frames ∧ 60 * d + 59 ≤ R.locals ∧ cells + mc ≤ R.cells ∧ slots + ms ≤ R.slots)
    (hr : zq_Runs l G d mc ms y [a1, a2] n f (fun r n1 f1 => zq_At l G R M QF (pc + 3) lv (r.toList ++ st) n1 f1 (cells + mc) (slots + ms))) : zq_At l G R M QF pc lv (a2 :: a1 :: st) n f cells slots := at_callS [a1, a2] hd hL rfl hcat hR hr
theorem at_callS3 {idx d mc ms : Nat} {y : MethodName} {a1 a2 a3 : Value} (hd : decode M.1 pc = .ok (.invokestatic idx, 3)) (hL : zq_MS M.2.1 idx y 3) (hcat : (st.map fun v => v.category).sum ≤ 8) (hR : d + 1 ≤ R.frames ∧ 60 * d + 59 ≤ R.locals ∧ cells + mc ≤ R.cells ∧ slots + ms ≤ R.slots)
    (hr : zq_Runs l G d mc ms y [a1, a2, a3] n f (fun r n1 f1 => zq_At l G R M QF (pc + 3) lv (r.toList ++ st) n1 f1 (cells + mc) (slots + ms))) : zq_At l G R M QF pc lv (a3 :: a2 :: a1 :: st) n f cells slots := at_callS [a1, a2, a3] hd hL rfl hcat hR hr
end ZN1
theorem zq_r0 {D d mc ms cells slots : Nat} (h : d + 1 ≤ D) (hc : cells ≤ mc) (hs : slots ≤ ms) : d + 1 ≤ (zq_rm D mc ms).frames ∧ 60 * d + 59 ≤ (zq_rm D mc ms).locals ∧ cells + 0 ≤ (zq_rm D mc ms).cells ∧ slots + 0 ≤ (zq_rm D mc ms).slots := ⟨h, by show 60 * d + 59 ≤ 60 * D; omega, hc, hs⟩
/-- the Model's pool: its object at 70, its arrays at 71 .. 97; ints by the field's number, arrays by the cell's number, rows of longs by 0 (parts), 1 (sums) -/
abbrev zm_S : Type := (Nat → Int32) × (Nat → Nat → Int32) × (Nat → Nat → Int64)
def zm_fs (i : Nat → Int32) : List Value :=
  [.int (i 0), .ref 71, .ref 72, .ref 73, .ref 74, .ref 75, .ref 76, .int (i 7), .ref 77, .int (i 9), .int (i 10), .int (i 11), .ref 78, .ref 79, .int (i 14), .int (i 15), .ref 80, .ref 81, .ref 82, .int (i 19), .int (i 20), .int (i 21), .int (i 22), .int (i 23), .int (i 24), .int (i 25), .int (i 26), .ref 83, .int (i 28), .int (i 29), .ref 84, .ref 85, .ref 86, .ref 87, .ref 88, .int (i 35), .ref 89, .ref 90, .ref 91, .ref 92, .int (i 40), .ref 93, .ref 94, .ref 95, .int (i 44), .int (i 45), .int (i 46), .int (i 47), .int (i 48), .int (i 49), .int (i 50), .ref 96, .ref 97, .int (i 53), .int (i 54)]
def zm_len (a : Nat) : Nat := match a with
  | 71 => 7
  | 72 => 5684
  | 73 => 11368
  | 74 => 2
  | 75 => 40
  | 76 => 6
  | 77 => 143
  | 78 => 400
  | 79 => 5
  | 80 => 401
  | 81 => 401
  | 82 => 401
  | 83 => 8
  | 84 => 5
  | 85 => 49
  | 86 => 780
  | 87 => 5460
  | 88 => 6248
  | 89 => 24
  | 90 => 40
  | 91 => 7
  | 92 => 7
  | 93 => 21
  | 94 => 336
  | 95 => 336
  | 96 => 3
  | _ => 20
def zm_tag (a : Nat) : Nat := match a with
  | 74 => 2
  | 77 => 1
  | 78 => 1
  | _ => 0
def zm_h (σ : zm_S) (ρ : Nat → zq_E) : Nat → zq_E := fun k =>
  if k = 70 then .inr (12, zm_fs σ.1) else if k = 93 then .inl (3, 21, .inr (.inl (σ.2.2 0))) else if k = 96 then .inl (3, 3, .inr (.inl (σ.2.2 1)))
  else if 71 ≤ k ∧ k ≤ 97 then .inl (zm_tag k, zm_len k, .inl (σ.2.1 k)) else ρ k
def zm_si (σ : zm_S) (k : Nat) (v : Int32) : zm_S := (upd σ.1 k v, σ.2)
def zm_sa (σ : zm_S) (a i : Nat) (v : Int32) : zm_S := (σ.1, va_up σ.2.1 a (upd (σ.2.1 a) i v), σ.2.2)
def zm_sl (σ : zm_S) (a i : Nat) (v : Int64) : zm_S := (σ.1, σ.2.1, va_up σ.2.2 a (vp_updL (σ.2.2 a) i v))
theorem zm_obj (σ : zm_S) (ρ : Nat → zq_E) : zm_h σ ρ 70 = .inr (12, zm_fs σ.1) := rfl
theorem zm_arr (σ : zm_S) (ρ : Nat → zq_E) {a : Nat} (h1 : 71 ≤ a) (h2 : a ≤ 97) (h3 : a ≠ 93) (h4 : a ≠ 96) : zm_h σ ρ a = .inl (zm_tag a, zm_len a, .inl (σ.2.1 a)) := by
  unfold zm_h
  rw [if_neg (by omega), if_neg h3, if_neg h4, if_pos ⟨h1, h2⟩]
theorem zm_up_i (σ : zm_S) (ρ : Nat → zq_E) (k : Nat) (v : Int32) (hk : ∃ w : Int32, (zm_fs σ.1)[k]? = some (.int w)) : va_up (zm_h σ ρ) 70 (.inr (12, (zm_fs σ.1).set k (.int v))) = zm_h (zm_si σ k v) ρ := by
  have e : (zm_fs σ.1).set k (.int v) = zm_fs (upd σ.1 k v) := by
    obtain ⟨w, hw⟩ := hk
    have hl : k < 55 := (List.getElem?_eq_some_iff.mp hw).1
    match k, hl, hw with
    | 0, _, _ => rfl
    | 7, _, _ => rfl
    | 9, _, _ => rfl
    | 10, _, _ => rfl
    | 11, _, _ => rfl
    | 14, _, _ => rfl
    | 15, _, _ => rfl
    | 19, _, _ => rfl
    | 20, _, _ => rfl
    | 21, _, _ => rfl
    | 22, _, _ => rfl
    | 23, _, _ => rfl
    | 24, _, _ => rfl
    | 25, _, _ => rfl
    | 26, _, _ => rfl
    | 28, _, _ => rfl
    | 29, _, _ => rfl
    | 35, _, _ => rfl
    | 40, _, _ => rfl
    | 44, _, _ => rfl
    | 45, _, _ => rfl
    | 46, _, _ => rfl
    | 47, _, _ => rfl
    | 48, _, _ => rfl
    | 49, _, _ => rfl
    | 50, _, _ => rfl
    | 53, _, _ => rfl
    | 54, _, _ => rfl
    | 1, _, hw | 2, _, hw | 3, _, hw | 4, _, hw | 5, _, hw | 6, _, hw | 8, _, hw | 12, _, hw | 13, _, hw | 16, _, hw | 17, _, hw | 18, _, hw | 27, _, hw | 30, _, hw | 31, _, hw | 32, _, hw | 33, _, hw | 34, _, hw | 36, _, hw | 37, _, hw | 38, _, hw | 39, _, hw | 41, _, hw | 42, _, hw | 43, _, hw | 51, _, hw | 52, _, hw => cases hw
  rw [e]
  funext j
  by_cases hj : j = 70
  · subst hj; rw [va_up_self]; rfl
  · rw [va_up_ne _ _ hj]
    unfold zm_h
    rw [if_neg hj, if_neg hj]
    rfl
theorem zm_up_a (σ : zm_S) (ρ : Nat → zq_E) {a i : Nat} {v : Int32} (h1 : 71 ≤ a) (h2 : a ≤ 97) (h3 : a ≠ 93) (h4 : a ≠ 96) : va_up (zm_h σ ρ) a (.inl (zm_tag a, zm_len a, .inl (upd (σ.2.1 a) i v))) = zm_h (zm_sa σ a i v) ρ := by
  funext j
  by_cases hj : j = a
  · subst hj
    rw [va_up_self, zm_arr _ _ h1 h2 h3 h4]
    simp [zm_sa, va_up]
  · rw [va_up_ne _ _ hj]
    simp [zm_h, zm_sa, va_up, hj]
theorem zm_up_l0 (σ : zm_S) (ρ : Nat → zq_E) {i : Nat} {v : Int64} : va_up (zm_h σ ρ) 93 (.inl (3, 21, .inr (.inl (vp_updL (σ.2.2 0) i v)))) = zm_h (zm_sl σ 0 i v) ρ := by
  funext j
  by_cases hj : j = 93
  · subst hj; rfl
  · rw [va_up_ne _ _ hj]
    simp [zm_h, zm_sl, va_up, hj]
theorem zm_up_l1 (σ : zm_S) (ρ : Nat → zq_E) {i : Nat} {v : Int64} : va_up (zm_h σ ρ) 96 (.inl (3, 3, .inr (.inl (vp_updL (σ.2.2 1) i v)))) = zm_h (zm_sl σ 1 i v) ρ := by
  funext j
  by_cases hj : j = 96
  · subst hj; rfl
  · rw [va_up_ne _ _ hj]
    simp [zm_h, zm_sl, va_up, hj]
