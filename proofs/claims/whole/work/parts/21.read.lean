/-! ===== the Model: reading texts ===== -/
/-- where the reader is: the token, how many parts, where it is bad (0: nowhere, else the place and 1) -/
abbrev zQ : Type := Nat × Nat × Nat
def zrd (σ : zm_S) (q : zQ) : zm_S := zm_si (zm_si (zm_si σ 20 (nI q.1)) 21 (nI q.2.1)) 22 (zlast q.2.2)
/-- the tokens that are read: codes, values, places; N of them -/
def zTk (σ : zm_S) (N : Nat) (c v pl : Nat → Nat) : Prop := N ≤ 400 ∧ c N = 0 ∧ ∀ j, j ≤ N → σ.2.1 80 j = nI (c j) ∧ σ.2.1 81 j = nI (v j) ∧ σ.2.1 82 j = nI (pl j) ∧ c j < 1000 ∧ v j < 100000000 ∧ pl j ≤ 400
def zpf (pl : Nat → Nat) (q : zQ) : zQ := if q.2.2 = 0 then (q.1, q.2.1, pl q.1 + 1) else q
def zpt (c : Nat → Nat) (q : zQ) (k : Nat) : Bool := decide (q.2.2 = 0) && decide (c q.1 = k)
def zpn (q : zQ) : zQ := (q.1 + 1, q.2)
def zpmu (c pl : Nat → Nat) (q : zQ) (k : Nat) : zQ := if zpt c q k = true then zpn q else zpf pl q
def zpleaf (pl : Nat → Nat) (q : zQ) : zQ := if (if q.2.1 = 50 then zpf pl q else q).2.2 = 0 then (q.1 + 1, q.2.1 + 1, 0) else (q.1, q.2.1 + 1, (if q.2.1 = 50 then zpf pl q else q).2.2)
def zpnum (c v pl : Nat → Nat) (q : zQ) (lo hi : Nat) : zQ := if q.2.2 = 0 then (if c q.1 = 50 ∧ lo ≤ v q.1 ∧ v q.1 ≤ hi then zpn q else zpf pl q) else q
theorem zrd_20 (σ : zm_S) (q : zQ) : (zrd σ q).1 20 = nI q.1 := by simp [zrd, zm_si, upd]
theorem zrd_21 (σ : zm_S) (q : zQ) : (zrd σ q).1 21 = nI q.2.1 := by simp [zrd, zm_si, upd]
theorem zrd_22 (σ : zm_S) (q : zQ) : (zrd σ q).1 22 = zlast q.2.2 := by simp [zrd, zm_si, upd]
theorem zrd_2 (σ : zm_S) (q : zQ) : (zrd σ q).2 = σ.2 := rfl
theorem zrd_s20 (σ : zm_S) (q : zQ) (t : Nat) : zm_si (zrd σ q) 20 (nI t) = zrd σ (t, q.2) := by
  show (_, _) = (_, _)
  congr 1
  funext j
  by_cases h1 : j = 22
  · simp [upd, zm_si, zrd, h1]
  · by_cases h2 : j = 21
    · simp [upd, zm_si, zrd, h2]
    · by_cases h3 : j = 20 <;> simp [upd, zm_si, zrd, h1, h2, h3]
theorem zrd_s21 (σ : zm_S) (q : zQ) (t : Nat) : zm_si (zrd σ q) 21 (nI t) = zrd σ (q.1, t, q.2.2) := by
  show (_, _) = (_, _)
  congr 1
  funext j
  by_cases h1 : j = 22
  · simp [upd, zm_si, zrd, h1]
  · by_cases h2 : j = 21
    · simp [upd, zm_si, zrd, h2]
    · by_cases h3 : j = 20 <;> simp [upd, zm_si, zrd, h1, h2, h3]
theorem zrd_s22 (σ : zm_S) (q : zQ) (b : Nat) : zm_si (zrd σ q) 22 (zlast b) = zrd σ (q.1, q.2.1, b) := by
  show (_, _) = (_, _)
  congr 1
  funext j
  by_cases h1 : j = 22
  · simp [upd, zm_si, zrd, h1]
  · by_cases h2 : j = 21
    · simp [upd, zm_si, zrd, h2]
    · by_cases h3 : j = 20 <;> simp [upd, zm_si, zrd, h1, h2, h3]
theorem dX12_fine_0 : decode cX12_fine 0 = .ok (.aload_n 0, 1) := by decide +kernel
theorem dX12_fine_1 : decode cX12_fine 1 = .ok (.getfield 197, 3) := by decide +kernel
theorem dX12_fine_4 : decode cX12_fine 4 = .ok (.iconst (-1), 1) := by decide +kernel
theorem dX12_fine_5 : decode cX12_fine 5 = .ok (.if_icmp .ne 7, 3) := by decide +kernel
theorem dX12_fine_8 : decode cX12_fine 8 = .ok (.iconst 1, 1) := by decide +kernel
theorem dX12_fine_9 : decode cX12_fine 9 = .ok (.goto 4, 3) := by decide +kernel
theorem dX12_fine_12 : decode cX12_fine 12 = .ok (.iconst 0, 1) := by decide +kernel
theorem dX12_fine_13 : decode cX12_fine 13 = .ok (.ireturn, 1) := by decide +kernel
abbrev mX12_fine : zq_M := (cX12_fine, RX12, "fine", (some .boolean), 1)
theorem dX12_faults_0 : decode cX12_faults 0 = .ok (.aload_n 0, 1) := by decide +kernel
theorem dX12_faults_1 : decode cX12_faults 1 = .ok (.invokevirtual 200, 3) := by decide +kernel
theorem dX12_faults_4 : decode cX12_faults 4 = .ok (.ifCond .eq 16, 3) := by decide +kernel
theorem dX12_faults_7 : decode cX12_faults 7 = .ok (.aload_n 0, 1) := by decide +kernel
theorem dX12_faults_8 : decode cX12_faults 8 = .ok (.aload_n 0, 1) := by decide +kernel
theorem dX12_faults_9 : decode cX12_faults 9 = .ok (.getfield 77, 3) := by decide +kernel
theorem dX12_faults_12 : decode cX12_faults 12 = .ok (.aload_n 0, 1) := by decide +kernel
theorem dX12_faults_13 : decode cX12_faults 13 = .ok (.getfield 204, 3) := by decide +kernel
theorem dX12_faults_16 : decode cX12_faults 16 = .ok (.iaload, 1) := by decide +kernel
theorem dX12_faults_17 : decode cX12_faults 17 = .ok (.putfield 197, 3) := by decide +kernel
theorem dX12_faults_20 : decode cX12_faults 20 = .ok (.return_, 1) := by decide +kernel
abbrev mX12_faults : zq_M := (cX12_faults, RX12, "faults", none, 1)
theorem dX12_takes0_0 : decode cX12_takes0 0 = .ok (.aload_n 0, 1) := by decide +kernel
theorem dX12_takes0_1 : decode cX12_takes0 1 = .ok (.invokevirtual 200, 3) := by decide +kernel
theorem dX12_takes0_4 : decode cX12_takes0 4 = .ok (.ifCond .eq 20, 3) := by decide +kernel
theorem dX12_takes0_7 : decode cX12_takes0 7 = .ok (.aload_n 0, 1) := by decide +kernel
theorem dX12_takes0_8 : decode cX12_takes0 8 = .ok (.getfield 71, 3) := by decide +kernel
theorem dX12_takes0_11 : decode cX12_takes0 11 = .ok (.aload_n 0, 1) := by decide +kernel
theorem dX12_takes0_12 : decode cX12_takes0 12 = .ok (.getfield 204, 3) := by decide +kernel
theorem dX12_takes0_15 : decode cX12_takes0 15 = .ok (.iaload, 1) := by decide +kernel
theorem dX12_takes0_16 : decode cX12_takes0 16 = .ok (.iload_n 1, 1) := by decide +kernel
theorem dX12_takes0_17 : decode cX12_takes0 17 = .ok (.if_icmp .ne 7, 3) := by decide +kernel
theorem dX12_takes0_20 : decode cX12_takes0 20 = .ok (.iconst 1, 1) := by decide +kernel
theorem dX12_takes0_21 : decode cX12_takes0 21 = .ok (.goto 4, 3) := by decide +kernel
theorem dX12_takes0_24 : decode cX12_takes0 24 = .ok (.iconst 0, 1) := by decide +kernel
theorem dX12_takes0_25 : decode cX12_takes0 25 = .ok (.istore_n 2, 1) := by decide +kernel
theorem dX12_takes0_26 : decode cX12_takes0 26 = .ok (.iload_n 2, 1) := by decide +kernel
theorem dX12_takes0_27 : decode cX12_takes0 27 = .ok (.ifCond .eq 13, 3) := by decide +kernel
theorem dX12_takes0_30 : decode cX12_takes0 30 = .ok (.aload_n 0, 1) := by decide +kernel
theorem dX12_takes0_31 : decode cX12_takes0 31 = .ok (.dup, 1) := by decide +kernel
theorem dX12_takes0_32 : decode cX12_takes0 32 = .ok (.getfield 204, 3) := by decide +kernel
theorem dX12_takes0_35 : decode cX12_takes0 35 = .ok (.iconst 1, 1) := by decide +kernel
theorem dX12_takes0_36 : decode cX12_takes0 36 = .ok (.iadd, 1) := by decide +kernel
theorem dX12_takes0_37 : decode cX12_takes0 37 = .ok (.putfield 204, 3) := by decide +kernel
theorem dX12_takes0_40 : decode cX12_takes0 40 = .ok (.iload_n 2, 1) := by decide +kernel
theorem dX12_takes0_41 : decode cX12_takes0 41 = .ok (.ireturn, 1) := by decide +kernel
abbrev mX12_takes0 : zq_M := (cX12_takes0, RX12, "takes0", (some .boolean), 3)
theorem dX12_must_0 : decode cX12_must 0 = .ok (.aload_n 0, 1) := by decide +kernel
theorem dX12_must_1 : decode cX12_must 1 = .ok (.iload_n 1, 1) := by decide +kernel
theorem dX12_must_2 : decode cX12_must 2 = .ok (.invokevirtual 207, 3) := by decide +kernel
theorem dX12_must_5 : decode cX12_must 5 = .ok (.ifCond .ne 7, 3) := by decide +kernel
theorem dX12_must_8 : decode cX12_must 8 = .ok (.aload_n 0, 1) := by decide +kernel
theorem dX12_must_9 : decode cX12_must 9 = .ok (.invokevirtual 210, 3) := by decide +kernel
theorem dX12_must_12 : decode cX12_must 12 = .ok (.return_, 1) := by decide +kernel
abbrev mX12_must : zq_M := (cX12_must, RX12, "must", none, 2)
theorem dX12_leaf_0 : decode cX12_leaf 0 = .ok (.aload_n 0, 1) := by decide +kernel
theorem dX12_leaf_1 : decode cX12_leaf 1 = .ok (.getfield 213, 3) := by decide +kernel
theorem dX12_leaf_4 : decode cX12_leaf 4 = .ok (.bipush 50, 2) := by decide +kernel
theorem dX12_leaf_6 : decode cX12_leaf 6 = .ok (.if_icmp .ne 7, 3) := by decide +kernel
theorem dX12_leaf_9 : decode cX12_leaf 9 = .ok (.aload_n 0, 1) := by decide +kernel
theorem dX12_leaf_10 : decode cX12_leaf 10 = .ok (.invokevirtual 210, 3) := by decide +kernel
theorem dX12_leaf_13 : decode cX12_leaf 13 = .ok (.aload_n 0, 1) := by decide +kernel
theorem dX12_leaf_14 : decode cX12_leaf 14 = .ok (.dup, 1) := by decide +kernel
theorem dX12_leaf_15 : decode cX12_leaf 15 = .ok (.getfield 213, 3) := by decide +kernel
theorem dX12_leaf_18 : decode cX12_leaf 18 = .ok (.iconst 1, 1) := by decide +kernel
theorem dX12_leaf_19 : decode cX12_leaf 19 = .ok (.iadd, 1) := by decide +kernel
theorem dX12_leaf_20 : decode cX12_leaf 20 = .ok (.putfield 213, 3) := by decide +kernel
theorem dX12_leaf_23 : decode cX12_leaf 23 = .ok (.aload_n 0, 1) := by decide +kernel
theorem dX12_leaf_24 : decode cX12_leaf 24 = .ok (.invokevirtual 200, 3) := by decide +kernel
theorem dX12_leaf_27 : decode cX12_leaf 27 = .ok (.ifCond .eq 13, 3) := by decide +kernel
theorem dX12_leaf_30 : decode cX12_leaf 30 = .ok (.aload_n 0, 1) := by decide +kernel
theorem dX12_leaf_31 : decode cX12_leaf 31 = .ok (.dup, 1) := by decide +kernel
theorem dX12_leaf_32 : decode cX12_leaf 32 = .ok (.getfield 204, 3) := by decide +kernel
theorem dX12_leaf_35 : decode cX12_leaf 35 = .ok (.iconst 1, 1) := by decide +kernel
theorem dX12_leaf_36 : decode cX12_leaf 36 = .ok (.iadd, 1) := by decide +kernel
theorem dX12_leaf_37 : decode cX12_leaf 37 = .ok (.putfield 204, 3) := by decide +kernel
theorem dX12_leaf_40 : decode cX12_leaf 40 = .ok (.return_, 1) := by decide +kernel
abbrev mX12_leaf : zq_M := (cX12_leaf, RX12, "leaf", none, 1)
theorem dX12_sign_0 : decode cX12_sign 0 = .ok (.bipush 100, 2) := by decide +kernel
theorem dX12_sign_2 : decode cX12_sign 2 = .ok (.iload_n 0, 1) := by decide +kernel
theorem dX12_sign_3 : decode cX12_sign 3 = .ok (.iadd, 1) := by decide +kernel
theorem dX12_sign_4 : decode cX12_sign 4 = .ok (.ireturn, 1) := by decide +kernel
abbrev mX12_sign : zq_M := (cX12_sign, RX12, "sign", (some .int), 1)
theorem dX12_mustNumber_0 : decode cX12_mustNumber 0 = .ok (.aload_n 0, 1) := by decide +kernel
theorem dX12_mustNumber_1 : decode cX12_mustNumber 1 = .ok (.invokevirtual 200, 3) := by decide +kernel
theorem dX12_mustNumber_4 : decode cX12_mustNumber 4 = .ok (.ifCond .eq 38, 3) := by decide +kernel
theorem dX12_mustNumber_7 : decode cX12_mustNumber 7 = .ok (.aload_n 0, 1) := by decide +kernel
theorem dX12_mustNumber_8 : decode cX12_mustNumber 8 = .ok (.getfield 71, 3) := by decide +kernel
theorem dX12_mustNumber_11 : decode cX12_mustNumber 11 = .ok (.aload_n 0, 1) := by decide +kernel
theorem dX12_mustNumber_12 : decode cX12_mustNumber 12 = .ok (.getfield 204, 3) := by decide +kernel
theorem dX12_mustNumber_15 : decode cX12_mustNumber 15 = .ok (.iaload, 1) := by decide +kernel
theorem dX12_mustNumber_16 : decode cX12_mustNumber 16 = .ok (.bipush 50, 2) := by decide +kernel
theorem dX12_mustNumber_18 : decode cX12_mustNumber 18 = .ok (.if_icmp .ne 20, 3) := by decide +kernel
theorem dX12_mustNumber_21 : decode cX12_mustNumber 21 = .ok (.aload_n 0, 1) := by decide +kernel
theorem dX12_mustNumber_22 : decode cX12_mustNumber 22 = .ok (.getfield 74, 3) := by decide +kernel
theorem dX12_mustNumber_25 : decode cX12_mustNumber 25 = .ok (.aload_n 0, 1) := by decide +kernel
theorem dX12_mustNumber_26 : decode cX12_mustNumber 26 = .ok (.getfield 204, 3) := by decide +kernel
theorem dX12_mustNumber_29 : decode cX12_mustNumber 29 = .ok (.iaload, 1) := by decide +kernel
theorem dX12_mustNumber_30 : decode cX12_mustNumber 30 = .ok (.iload_n 1, 1) := by decide +kernel
theorem dX12_mustNumber_31 : decode cX12_mustNumber 31 = .ok (.iload_n 2, 1) := by decide +kernel
theorem dX12_mustNumber_32 : decode cX12_mustNumber 32 = .ok (.invokestatic 18, 3) := by decide +kernel
theorem dX12_mustNumber_35 : decode cX12_mustNumber 35 = .ok (.ifCond .ne 7, 3) := by decide +kernel
theorem dX12_mustNumber_38 : decode cX12_mustNumber 38 = .ok (.aload_n 0, 1) := by decide +kernel
theorem dX12_mustNumber_39 : decode cX12_mustNumber 39 = .ok (.invokevirtual 210, 3) := by decide +kernel
theorem dX12_mustNumber_42 : decode cX12_mustNumber 42 = .ok (.aload_n 0, 1) := by decide +kernel
theorem dX12_mustNumber_43 : decode cX12_mustNumber 43 = .ok (.invokevirtual 200, 3) := by decide +kernel
theorem dX12_mustNumber_46 : decode cX12_mustNumber 46 = .ok (.ifCond .eq 13, 3) := by decide +kernel
theorem dX12_mustNumber_49 : decode cX12_mustNumber 49 = .ok (.aload_n 0, 1) := by decide +kernel
theorem dX12_mustNumber_50 : decode cX12_mustNumber 50 = .ok (.dup, 1) := by decide +kernel
theorem dX12_mustNumber_51 : decode cX12_mustNumber 51 = .ok (.getfield 204, 3) := by decide +kernel
theorem dX12_mustNumber_54 : decode cX12_mustNumber 54 = .ok (.iconst 1, 1) := by decide +kernel
theorem dX12_mustNumber_55 : decode cX12_mustNumber 55 = .ok (.iadd, 1) := by decide +kernel
theorem dX12_mustNumber_56 : decode cX12_mustNumber 56 = .ok (.putfield 204, 3) := by decide +kernel
theorem dX12_mustNumber_59 : decode cX12_mustNumber 59 = .ok (.return_, 1) := by decide +kernel
abbrev mX12_mustNumber : zq_M := (cX12_mustNumber, RX12, "mustNumber", none, 3)
section ZL12
variable {l : Launch} {G : zq_G} {D n N : Nat} {σ : zm_S} {ρ : Nat → zq_E} {post : Option Value → Nat → (Nat → zq_E) → Prop} {c v pl : Nat → Nat} {q : zQ}
theorem zm_fine (hb : q.2.2 ≤ 1000) (hp : post (some (.int (zb (decide (q.2.2 = 0))))) n (zm_h (zrd σ q) ρ)) : zq_Runs l G D 0 0 yX12_fine [.ref 70] n (zm_h (zrd σ q) ρ) post := by
  refine zq_enter (cc := cX12_fine) (nL := 1) (ret := (some .boolean)) cw_X12_fine (by decide) rfl (Nat.le_of_ble_eq_true rfl) ?_
  refine at_aload_n dX12_fine_0 rfl ?_
  refine at_get dX12_fine_1 fl_X12_197 rfl rfl ?_
  rw [zrd_22]
  refine at_iconst dX12_fine_4 (v := -1) rfl ?_
  refine at_icmp_ne (tgt := 12) dX12_fine_5 (by decide) (fun c5 => ?_) (fun c5 => ?_)
  · rw [decide_eq_false (fun h => c5 ((zlast_ne (by omega)).mpr h))] at hp
    refine at_iconst dX12_fine_12 (v := nI 0) (by decide) ?_
    refine at_zret dX12_fine_13 rfl (by omega) (by omega) (by first | exact Or.inl rfl | exact Or.inr rfl | assumption) ?_
    exact hp
  · rw [decide_eq_true ((zlast_ne (by omega)).mp c5)] at hp
    refine at_iconst dX12_fine_8 (v := nI 1) (by decide) ?_
    refine at_goto (tgt := 13) dX12_fine_9 (by decide) ?_
    refine at_zret dX12_fine_13 rfl (by omega) (by omega) (by first | exact Or.inl rfl | exact Or.inr rfl | assumption) ?_
    exact hp
theorem zm_faults (hD : 1 ≤ D) (hT : zTk σ N c v pl) (hq : q.1 ≤ N) (hb : q.2.2 ≤ 1000) (hp : post none n (zm_h (zrd σ (zpf pl q)) ρ)) : zq_Runs l G D 0 0 yX12_faults [.ref 70] n (zm_h (zrd σ q) ρ) post := by
  have hN := hT.1
  obtain ⟨-, -, h3, -, -, h4⟩ := hT.2.2 q.1 hq
  unfold zpf at hp
  refine zq_enter (cc := cX12_faults) (nL := 1) (ret := none) cw_X12_faults (by decide) rfl (Nat.le_of_ble_eq_true rfl) ?_
  refine at_aload_n dX12_faults_0 rfl ?_
  refine at_callV0 (d := D - 1) dX12_faults_1 mv_X12_200 rfl (Nat.le_of_ble_eq_true rfl) (zq_r0 (by omega) (by omega) (by omega)) ?_
  refine zm_fine hb ?_
  refine at_if_eqB (tgt := 20) dX12_faults_4 (by decide) (fun c4 => ?_) (fun c4 => ?_)
  · rw [if_neg (of_decide_eq_false c4)] at hp
    try rw [show zm_si (zrd σ q) 22 (nI (pl q.1)) = zrd σ (q.1, q.2.1, pl q.1 + 1) from zrd_s22 σ q (pl q.1 + 1)]
    refine at_vret dX12_faults_20 rfl (by omega) (by omega) ?_
    exact hp
  · rw [if_pos (of_decide_eq_true c4)] at hp
    refine at_aload_n dX12_faults_7 rfl ?_
    refine at_aload_n dX12_faults_8 rfl ?_
    refine at_get dX12_faults_9 fl_X12_77 rfl rfl ?_
    refine at_aload_n dX12_faults_12 rfl ?_
    refine at_get dX12_faults_13 fl_X12_204 rfl rfl ?_
    rw [zrd_20]
    refine at_mald (a := 82) dX12_faults_16 (by decide) (by decide) (by decide) (by decide) rfl rfl (by show _ < 401; omega) (by decide) ?_
    rw [zrd_2, h3]
    refine at_mput dX12_faults_17 (pl_X12_197 _) (fun _ => ⟨_, rfl⟩) rfl rfl ?_
    try rw [show zm_si (zrd σ q) 22 (nI (pl q.1)) = zrd σ (q.1, q.2.1, pl q.1 + 1) from zrd_s22 σ q (pl q.1 + 1)]
    refine at_vret dX12_faults_20 rfl (by omega) (by omega) ?_
    exact hp
theorem zm_takes0 {k : Nat} (hD : 1 ≤ D) (hk : k < 1000) (hT : zTk σ N c v pl) (hq : q.1 ≤ N) (hb : q.2.2 ≤ 1000) (hp : post (some (.int (zb (zpt c q k)))) n (zm_h (zrd σ (if zpt c q k = true then zpn q else q)) ρ)) : zq_Runs l G D 0 0 yX12_takes0 [.ref 70, .int (nI k)] n (zm_h (zrd σ q) ρ) post := by
  have hN := hT.1
  obtain ⟨h1, -, -, h2, -, -⟩ := hT.2.2 q.1 hq
  refine zq_enter (cc := cX12_takes0) (nL := 3) (ret := (some .boolean)) cw_X12_takes0 (by decide) rfl (Nat.le_of_ble_eq_true rfl) ?_
  refine at_aload_n dX12_takes0_0 rfl ?_
  refine at_callV0 (d := D - 1) dX12_takes0_1 mv_X12_200 rfl (Nat.le_of_ble_eq_true rfl) (zq_r0 (by omega) (by omega) (by omega)) ?_
  refine zm_fine hb ?_
  refine at_if_eqB (tgt := 24) dX12_takes0_4 (by decide) (fun c4 => ?_) (fun c4 => ?_)
  · have hz : zpt c q k = false := by unfold zpt; rw [c4]; rfl
    refine at_iconst dX12_takes0_24 (v := nI 0) (by decide) ?_
    refine at_istore_n dX12_takes0_25 rfl (by decide) ?_
    refine at_iload_n dX12_takes0_26 rfl ?_
    refine at_if_eqN (tgt := 40) dX12_takes0_27 (by decide) (by omega) (fun c27 => ?_) (fun c27 => ?_)
    · try rw [zrd_s20]
      refine at_iload_n dX12_takes0_40 rfl ?_
      refine at_zret dX12_takes0_41 rfl (by omega) (by omega) (by first | exact Or.inl rfl | exact Or.inr rfl) ?_
      rw [hz, if_neg (by decide)] at hp
      exact hp
    · omega
  · refine at_aload_n dX12_takes0_7 rfl ?_
    refine at_get dX12_takes0_8 fl_X12_71 rfl rfl ?_
    refine at_aload_n dX12_takes0_11 rfl ?_
    refine at_get dX12_takes0_12 fl_X12_204 rfl rfl ?_
    rw [zrd_20]
    refine at_mald (a := 80) dX12_takes0_15 (by decide) (by decide) (by decide) (by decide) rfl rfl (by show _ < 401; omega) (by decide) ?_
    rw [zrd_2, h1]
    refine at_iload_n dX12_takes0_16 rfl ?_
    refine at_neN (tgt := 24) dX12_takes0_17 (by decide) (by omega) (by omega) (fun c17 => ?_) (fun c17 => ?_)
    · have hz : zpt c q k = false := by unfold zpt; rw [decide_eq_false c17, Bool.and_false]
      refine at_iconst dX12_takes0_24 (v := nI 0) (by decide) ?_
      refine at_istore_n dX12_takes0_25 rfl (by decide) ?_
      refine at_iload_n dX12_takes0_26 rfl ?_
      refine at_if_eqN (tgt := 40) dX12_takes0_27 (by decide) (by omega) (fun c27 => ?_) (fun c27 => ?_)
      · try rw [zrd_s20]
        refine at_iload_n dX12_takes0_40 rfl ?_
        refine at_zret dX12_takes0_41 rfl (by omega) (by omega) (by first | exact Or.inl rfl | exact Or.inr rfl) ?_
        rw [hz, if_neg (by decide)] at hp
        exact hp
      · omega
    · have hz : zpt c q k = true := by unfold zpt; rw [c4, decide_eq_true c17]; rfl
      refine at_iconst dX12_takes0_20 (v := nI 1) (by decide) ?_
      refine at_goto (tgt := 25) dX12_takes0_21 (by decide) ?_
      refine at_istore_n dX12_takes0_25 rfl (by decide) ?_
      refine at_iload_n dX12_takes0_26 rfl ?_
      refine at_if_eqN (tgt := 40) dX12_takes0_27 (by decide) (by omega) (fun c27 => ?_) (fun c27 => ?_)
      · omega
      · refine at_aload_n dX12_takes0_30 rfl ?_
        refine at_dup dX12_takes0_31 rfl ?_
        refine at_get dX12_takes0_32 fl_X12_204 rfl rfl ?_
        rw [zrd_20]
        refine at_iconst dX12_takes0_35 (v := nI 1) (by decide) ?_
        refine at_iaddN dX12_takes0_36 ?_
        refine at_mput dX12_takes0_37 (pl_X12_204 _) (fun _ => ⟨_, rfl⟩) rfl rfl ?_
        try rw [zrd_s20]
        refine at_iload_n dX12_takes0_40 rfl ?_
        refine at_zret dX12_takes0_41 rfl (by omega) (by omega) (by first | exact Or.inl rfl | exact Or.inr rfl) ?_
        rw [hz, if_pos rfl] at hp
        exact hp
theorem zm_must {k : Nat} (hD : 2 ≤ D) (hk : k < 1000) (hT : zTk σ N c v pl) (hq : q.1 ≤ N) (hb : q.2.2 ≤ 1000) (hp : post none n (zm_h (zrd σ (zpmu c pl q k)) ρ)) : zq_Runs l G D 0 0 yX12_must [.ref 70, .int (nI k)] n (zm_h (zrd σ q) ρ) post := by
  unfold zpmu at hp
  refine zq_enter (cc := cX12_must) (nL := 2) (ret := none) cw_X12_must (by decide) rfl (Nat.le_of_ble_eq_true rfl) ?_
  refine at_aload_n dX12_must_0 rfl ?_
  refine at_iload_n dX12_must_1 rfl ?_
  refine at_callV1 (d := D - 1) dX12_must_2 mv_X12_207 rfl (Nat.le_of_ble_eq_true rfl) (zq_r0 (by omega) (by omega) (by omega)) ?_
  refine zm_takes0 (by omega) hk hT hq hb ?_
  refine at_if_neB (tgt := 12) dX12_must_5 (by decide) (fun c5 => ?_) (fun c5 => ?_)
  · rw [if_pos c5] at hp ⊢
    refine at_vret dX12_must_12 rfl (by omega) (by omega) ?_
    exact hp
  · rw [if_neg (by rw [c5]; decide)] at hp ⊢
    refine at_aload_n dX12_must_8 rfl ?_
    refine at_callV0 (d := D - 1) dX12_must_9 mv_X12_210 rfl (Nat.le_of_ble_eq_true rfl) (zq_r0 (by omega) (by omega) (by omega)) ?_
    refine zm_faults (by omega) hT hq hb ?_
    refine at_vret dX12_must_12 rfl (by omega) (by omega) ?_
    exact hp
theorem zpf_b {pl : Nat → Nat} {q : zQ} (hT : zTk σ N c v pl) (hq : q.1 ≤ N) (hb : q.2.2 ≤ 1000) : (zpf pl q).2.2 ≤ 1000 ∧ (zpf pl q).1 = q.1 ∧ (zpf pl q).2.1 = q.2.1 := by
  have := (hT.2.2 q.1 hq).2.2.2.2.2
  unfold zpf
  split
  · exact ⟨by show pl q.1 + 1 ≤ 1000; omega, rfl, rfl⟩
  · exact ⟨hb, rfl, rfl⟩
theorem zm_leaf (hD : 2 ≤ D) (hT : zTk σ N c v pl) (hq : q.1 ≤ N) (hb : q.2.2 ≤ 1000) (hl : q.2.1 < 2147483648) (hp : post none n (zm_h (zrd σ (zpleaf pl q)) ρ)) : zq_Runs l G D 0 0 yX12_leaf [.ref 70] n (zm_h (zrd σ q) ρ) post := by
  obtain ⟨f1, f2, f3⟩ := zpf_b hT hq hb
  unfold zpleaf at hp
  refine zq_enter (cc := cX12_leaf) (nL := 1) (ret := none) cw_X12_leaf (by decide) rfl (Nat.le_of_ble_eq_true rfl) ?_
  by_cases h50 : q.2.1 = 50
  · rw [if_pos h50] at hp
    refine at_aload_n dX12_leaf_0 rfl ?_
    refine at_get dX12_leaf_1 fl_X12_213 rfl rfl ?_
    rw [zrd_21]
    refine at_bipush dX12_leaf_4 (v := nI 50) (by decide) ?_
    refine at_neN (tgt := 13) dX12_leaf_6 (by decide) (by omega) (by omega) (fun c6 => ?_) (fun c6 => ?_)
    · omega
    · refine at_aload_n dX12_leaf_9 rfl ?_
      refine at_callV0 (d := D - 1) dX12_leaf_10 mv_X12_210 rfl (Nat.le_of_ble_eq_true rfl) (zq_r0 (by omega) (by omega) (by omega)) ?_
      refine zm_faults (by omega) hT hq hb ?_
      refine at_aload_n dX12_leaf_13 rfl ?_
      refine at_dup dX12_leaf_14 rfl ?_
      refine at_get dX12_leaf_15 fl_X12_213 rfl rfl ?_
      rw [zrd_21, f3]
      refine at_iconst dX12_leaf_18 (v := nI 1) (by decide) ?_
      refine at_iaddN dX12_leaf_19 ?_
      refine at_mput dX12_leaf_20 (pl_X12_213 _) (fun _ => ⟨_, rfl⟩) rfl rfl ?_
      rw [zrd_s21]
      refine at_aload_n dX12_leaf_23 rfl ?_
      refine at_callV0 (d := D - 1) dX12_leaf_24 mv_X12_200 rfl (Nat.le_of_ble_eq_true rfl) (zq_r0 (by omega) (by omega) (by omega)) ?_
      refine zm_fine f1 ?_
      refine at_if_eqB (tgt := 40) dX12_leaf_27 (by decide) (fun c27 => ?_) (fun c27 => ?_)
      · rw [if_neg (of_decide_eq_false c27)] at hp
        try rw [zrd_s20]
        refine at_vret dX12_leaf_40 rfl (by omega) (by omega) ?_
        first
          | (rw [show ((zpf pl q).1, q.2.1 + 1, (zpf pl q).2.2) = (q.1, q.2.1 + 1, (zpf pl q).2.2) by rw [f2]]; exact hp)
          | (rw [show ((zpf pl q).1 + 1, q.2.1 + 1, (zpf pl q).2.2) = (q.1 + 1, q.2.1 + 1, 0) by rw [f2, of_decide_eq_true c27]]; exact hp)
      · rw [if_pos (of_decide_eq_true c27)] at hp
        refine at_aload_n dX12_leaf_30 rfl ?_
        refine at_dup dX12_leaf_31 rfl ?_
        refine at_get dX12_leaf_32 fl_X12_204 rfl rfl ?_
        rw [zrd_20]
        refine at_iconst dX12_leaf_35 (v := nI 1) (by decide) ?_
        refine at_iaddN dX12_leaf_36 ?_
        refine at_mput dX12_leaf_37 (pl_X12_204 _) (fun _ => ⟨_, rfl⟩) rfl rfl ?_
        try rw [zrd_s20]
        refine at_vret dX12_leaf_40 rfl (by omega) (by omega) ?_
        first
          | (rw [show ((zpf pl q).1, q.2.1 + 1, (zpf pl q).2.2) = (q.1, q.2.1 + 1, (zpf pl q).2.2) by rw [f2]]; exact hp)
          | (rw [show ((zpf pl q).1 + 1, q.2.1 + 1, (zpf pl q).2.2) = (q.1 + 1, q.2.1 + 1, 0) by rw [f2, of_decide_eq_true c27]]; exact hp)
  · rw [if_neg h50] at hp
    refine at_aload_n dX12_leaf_0 rfl ?_
    refine at_get dX12_leaf_1 fl_X12_213 rfl rfl ?_
    rw [zrd_21]
    refine at_bipush dX12_leaf_4 (v := nI 50) (by decide) ?_
    refine at_neN (tgt := 13) dX12_leaf_6 (by decide) (by omega) (by omega) (fun c6 => ?_) (fun c6 => ?_)
    · refine at_aload_n dX12_leaf_13 rfl ?_
      refine at_dup dX12_leaf_14 rfl ?_
      refine at_get dX12_leaf_15 fl_X12_213 rfl rfl ?_
      rw [zrd_21]
      refine at_iconst dX12_leaf_18 (v := nI 1) (by decide) ?_
      refine at_iaddN dX12_leaf_19 ?_
      refine at_mput dX12_leaf_20 (pl_X12_213 _) (fun _ => ⟨_, rfl⟩) rfl rfl ?_
      rw [zrd_s21]
      refine at_aload_n dX12_leaf_23 rfl ?_
      refine at_callV0 (d := D - 1) dX12_leaf_24 mv_X12_200 rfl (Nat.le_of_ble_eq_true rfl) (zq_r0 (by omega) (by omega) (by omega)) ?_
      refine zm_fine hb ?_
      refine at_if_eqB (tgt := 40) dX12_leaf_27 (by decide) (fun c27 => ?_) (fun c27 => ?_)
      · rw [if_neg (of_decide_eq_false c27)] at hp
        try rw [zrd_s20]
        refine at_vret dX12_leaf_40 rfl (by omega) (by omega) ?_
        first
          | exact hp
          | (rw [show (q.1 + 1, q.2.1 + 1, q.2.2) = (q.1 + 1, q.2.1 + 1, 0) by rw [of_decide_eq_true c27]]; exact hp)
      · rw [if_pos (of_decide_eq_true c27)] at hp
        refine at_aload_n dX12_leaf_30 rfl ?_
        refine at_dup dX12_leaf_31 rfl ?_
        refine at_get dX12_leaf_32 fl_X12_204 rfl rfl ?_
        rw [zrd_20]
        refine at_iconst dX12_leaf_35 (v := nI 1) (by decide) ?_
        refine at_iaddN dX12_leaf_36 ?_
        refine at_mput dX12_leaf_37 (pl_X12_204 _) (fun _ => ⟨_, rfl⟩) rfl rfl ?_
        try rw [zrd_s20]
        refine at_vret dX12_leaf_40 rfl (by omega) (by omega) ?_
        first
          | exact hp
          | (rw [show (q.1 + 1, q.2.1 + 1, q.2.2) = (q.1 + 1, q.2.1 + 1, 0) by rw [of_decide_eq_true c27]]; exact hp)
    · omega
end ZL12

