/-! ===== the Model: reading a text whole, laws ===== -/
/-- tokens by their number: code, value, place; behind the last: 0, 0, the length -/
def zcN (T : Nat → Int32) (z j : Nat) : Nat := match (zTok T z)[j]? with
  | some q => zcode T q.1 q.2
  | none => 0
def zvN (T : Nat → Int32) (z j : Nat) : Nat := match (zTok T z)[j]? with
  | some q => zval T q.1 q.2
  | none => 0
def zpN (T : Nat → Int32) (z j : Nat) : Nat := match (zTok T z)[j]? with
  | some q => q.1
  | none => z
theorem ztok_in (T : Nat → Int32) (z : Nat) : ∀ f k q, q ∈ ztok T z f k → q.1 < z ∧ q.2 = zrun T z q.1
  | 0, k, q, h => by cases h
  | f + 1, k, q, h => by
    unfold ztok at h
    by_cases h1 : z ≤ k
    · rw [if_pos h1] at h; cases h
    · rw [if_neg h1] at h
      by_cases h2 : T k = nI 32
      · rw [if_pos h2] at h; exact ztok_in T z f (k + 1) q h
      · rw [if_neg h2] at h
        rcases List.mem_cons.mp h with rfl | h
        · exact ⟨by show k < z; omega, rfl⟩
        · exact ztok_in T z f _ q h
theorem zword_le (T : Nat → Int32) (a b : Nat) : ∀ us w, zword T a b us w ≤ w + us.length
  | [], w => Nat.zero_le _
  | u :: us, w => by
    unfold zword
    split
    · omega
    · have := zword_le T a b us (w + 1)
      rw [List.length_cons]
      omega
theorem zcode_lt (T : Nat → Int32) (a b : Nat) : zcode T a b < 1000 := by
  unfold zcode
  split
  · have := zword_le T a b zMw 1
    have h : zMw.length = 27 := rfl
    omega
  · split
    · decide
    · have : (T a).toBitVec.toNat % 256 < 256 := Nat.mod_lt _ (by decide)
      omega
theorem znumF_lt (T : Nat → Int32) : ∀ k i x, (∀ j, i ≤ j → j < i + k → zdg (T j) = true) → x < 10000020 → znumF T k i x < 10000020
  | 0, _, _, _, h => h
  | k + 1, i, x, hd, h => by
    unfold znumF
    obtain ⟨y, y1, y2, hy⟩ := zlies_n (by decide) (by decide) (hd i (Nat.le_refl _) (by omega))
    refine znumF_lt T k (i + 1) _ (fun j h1 h2 => hd j (by omega) (by omega)) ?_
    rw [hy, nI_clamp (by omega)]
    split <;> omega
theorem zval_lt {T : Nat → Int32} {z a : Nat} (ha : a < z) : zval T a (zrun T z a) < 100000000 := by
  unfold zval
  by_cases hd : zdg (T a) = true
  · rw [if_pos hd]
    have hs : zsm (T a) = false := by
      cases h : zsm (T a) with
      | false => rfl
      | true => rw [zsm_dg h] at hd; cases hd
    have hr := zrun_le T ha
    have := znumF_lt T (zrun T z a - a) a 0 (fun j h1 h2 => zrun_dg (z := z) hs hd h1 (by omega)) (by decide)
    omega
  · rw [if_neg hd]; decide
theorem zTk_of {σ : zm_S} {T C V P : Nat → Int32} {z N : Nat} (hz : z ≤ 400) (hN : (zTok T z).length = N) (hl : N ≤ z) (h : zTr T C V P (zTok T z)) (h1 : C N = nI 0) (h2 : V N = nI 0) (h3 : P N = nI z) (e1 : σ.2.1 80 = C) (e2 : σ.2.1 81 = V) (e3 : σ.2.1 82 = P) : zTk σ N (zcN T z) (zvN T z) (zpN T z) := by
  have hnone : (zTok T z)[N]? = none := List.getElem?_eq_none (by omega)
  refine ⟨by omega, by unfold zcN; rw [hnone], fun j hj => ?_⟩
  rw [e1, e2, e3]
  rcases Nat.lt_or_ge j N with hj | hj
  · have hq : (zTok T z)[j]? = some (zTok T z)[j] := List.getElem?_eq_getElem (by omega)
    generalize (zTok T z)[j] = q at hq
    obtain ⟨a1, a2⟩ := ztok_in T z 401 0 q (List.mem_of_getElem? hq)
    obtain ⟨b1, b2, b3⟩ := h j q hq
    unfold zcN zvN zpN
    rw [hq]
    refine ⟨b1, b2, b3, zcode_lt _ _ _, ?_, by show q.1 ≤ 400; omega⟩
    show zval T q.1 q.2 < 100000000
    rw [a2]
    exact zval_lt a1
  · obtain rfl : j = N := by omega
    unfold zcN zvN zpN
    rw [hnone]
    exact ⟨h1, h2, h3, by show (0 : Nat) < 1000; decide, by show (0 : Nat) < 100000000; decide, hz⟩
theorem zrd_si (τ : zm_S) (q : zQ) {k : Nat} (h1 : k ≠ 20) (h2 : k ≠ 21) (h3 : k ≠ 22) (x : Int32) : zm_si (zrd τ q) k x = zrd (zm_si τ k x) q := by
  show (_, _) = (_, _)
  congr 1
  funext j
  by_cases e1 : j = k
  · subst e1; simp [upd, zm_si, zrd, h1, h2, h3]
  · by_cases e2 : j = 22
    · subst e2; simp [upd, zm_si, zrd, Ne.symm h3]
    · by_cases e3 : j = 21
      · subst e3; simp [upd, zm_si, zrd, Ne.symm h2]
      · by_cases e4 : j = 20
        · subst e4; simp [upd, zm_si, zrd, Ne.symm h1]
        · simp [upd, zm_si, zrd, e1, e2, e3, e4]
theorem dX12_lays_0 : decode cX12_lays 0 = .ok (.aload_n 0, 1) := by decide +kernel
theorem dX12_lays_1 : decode cX12_lays 1 = .ok (.getfield 42, 3) := by decide +kernel
theorem dX12_lays_4 : decode cX12_lays 4 = .ok (.bipush 77, 2) := by decide +kernel
theorem dX12_lays_6 : decode cX12_lays 6 = .ok (.iload_n 1, 1) := by decide +kernel
theorem dX12_lays_7 : decode cX12_lays 7 = .ok (.iadd, 1) := by decide +kernel
theorem dX12_lays_8 : decode cX12_lays 8 = .ok (.aload_n 0, 1) := by decide +kernel
theorem dX12_lays_9 : decode cX12_lays 9 = .ok (.getfield 184, 3) := by decide +kernel
theorem dX12_lays_12 : decode cX12_lays 12 = .ok (.iastore, 1) := by decide +kernel
theorem dX12_lays_13 : decode cX12_lays 13 = .ok (.iconst 0, 1) := by decide +kernel
theorem dX12_lays_14 : decode cX12_lays 14 = .ok (.istore_n 2, 1) := by decide +kernel
theorem dX12_lays_15 : decode cX12_lays 15 = .ok (.iload_n 2, 1) := by decide +kernel
theorem dX12_lays_16 : decode cX12_lays 16 = .ok (.aload_n 0, 1) := by decide +kernel
theorem dX12_lays_17 : decode cX12_lays 17 = .ok (.getfield 184, 3) := by decide +kernel
theorem dX12_lays_20 : decode cX12_lays 20 = .ok (.if_icmp .ge 52, 3) := by decide +kernel
theorem dX12_lays_23 : decode cX12_lays 23 = .ok (.aload_n 0, 1) := by decide +kernel
theorem dX12_lays_24 : decode cX12_lays 24 = .ok (.getfield 42, 3) := by decide +kernel
theorem dX12_lays_27 : decode cX12_lays 27 = .ok (.bipush 84, 2) := by decide +kernel
theorem dX12_lays_29 : decode cX12_lays 29 = .ok (.sipush 400, 3) := by decide +kernel
theorem dX12_lays_32 : decode cX12_lays 32 = .ok (.iload_n 1, 1) := by decide +kernel
theorem dX12_lays_33 : decode cX12_lays 33 = .ok (.imul, 1) := by decide +kernel
theorem dX12_lays_34 : decode cX12_lays 34 = .ok (.iadd, 1) := by decide +kernel
theorem dX12_lays_35 : decode cX12_lays 35 = .ok (.iload_n 2, 1) := by decide +kernel
theorem dX12_lays_36 : decode cX12_lays 36 = .ok (.iadd, 1) := by decide +kernel
theorem dX12_lays_37 : decode cX12_lays 37 = .ok (.aload_n 0, 1) := by decide +kernel
theorem dX12_lays_38 : decode cX12_lays 38 = .ok (.getfield 71, 3) := by decide +kernel
theorem dX12_lays_41 : decode cX12_lays 41 = .ok (.iload_n 2, 1) := by decide +kernel
theorem dX12_lays_42 : decode cX12_lays 42 = .ok (.iaload, 1) := by decide +kernel
theorem dX12_lays_43 : decode cX12_lays 43 = .ok (.iastore, 1) := by decide +kernel
theorem dX12_lays_44 : decode cX12_lays 44 = .ok (.aload_n 0, 1) := by decide +kernel
theorem dX12_lays_45 : decode cX12_lays 45 = .ok (.getfield 42, 3) := by decide +kernel
theorem dX12_lays_48 : decode cX12_lays 48 = .ok (.sipush 2884, 3) := by decide +kernel
theorem dX12_lays_51 : decode cX12_lays 51 = .ok (.sipush 400, 3) := by decide +kernel
theorem dX12_lays_54 : decode cX12_lays 54 = .ok (.iload_n 1, 1) := by decide +kernel
theorem dX12_lays_55 : decode cX12_lays 55 = .ok (.imul, 1) := by decide +kernel
theorem dX12_lays_56 : decode cX12_lays 56 = .ok (.iadd, 1) := by decide +kernel
theorem dX12_lays_57 : decode cX12_lays 57 = .ok (.iload_n 2, 1) := by decide +kernel
theorem dX12_lays_58 : decode cX12_lays 58 = .ok (.iadd, 1) := by decide +kernel
theorem dX12_lays_59 : decode cX12_lays 59 = .ok (.aload_n 0, 1) := by decide +kernel
theorem dX12_lays_60 : decode cX12_lays 60 = .ok (.getfield 74, 3) := by decide +kernel
theorem dX12_lays_63 : decode cX12_lays 63 = .ok (.iload_n 2, 1) := by decide +kernel
theorem dX12_lays_64 : decode cX12_lays 64 = .ok (.iaload, 1) := by decide +kernel
theorem dX12_lays_65 : decode cX12_lays 65 = .ok (.iastore, 1) := by decide +kernel
theorem dX12_lays_66 : decode cX12_lays 66 = .ok (.iinc 2 1, 3) := by decide +kernel
theorem dX12_lays_69 : decode cX12_lays 69 = .ok (.goto (-54), 3) := by decide +kernel
theorem dX12_lays_72 : decode cX12_lays 72 = .ok (.return_, 1) := by decide +kernel
abbrev mX12_lays : zq_M := (cX12_lays, RX12, "lays", none, 3)
theorem dX12_law_0 : decode cX12_law 0 = .ok (.aload_n 0, 1) := by decide +kernel
theorem dX12_law_1 : decode cX12_law 1 = .ok (.getfield 42, 3) := by decide +kernel
theorem dX12_law_4 : decode cX12_law 4 = .ok (.bipush 75, 2) := by decide +kernel
theorem dX12_law_6 : decode cX12_law 6 = .ok (.iaload, 1) := by decide +kernel
theorem dX12_law_7 : decode cX12_law 7 = .ok (.bipush 6, 2) := by decide +kernel
theorem dX12_law_9 : decode cX12_law 9 = .ok (.if_icmp .ne 15, 3) := by decide +kernel
theorem dX12_law_12 : decode cX12_law 12 = .ok (.aload_n 0, 1) := by decide +kernel
theorem dX12_law_13 : decode cX12_law 13 = .ok (.iconst 0, 1) := by decide +kernel
theorem dX12_law_14 : decode cX12_law 14 = .ok (.putfield 175, 3) := by decide +kernel
theorem dX12_law_17 : decode cX12_law 17 = .ok (.aload_n 0, 1) := by decide +kernel
theorem dX12_law_18 : decode cX12_law 18 = .ok (.bipush (-5), 2) := by decide +kernel
theorem dX12_law_20 : decode cX12_law 20 = .ok (.invokevirtual 135, 3) := by decide +kernel
theorem dX12_law_23 : decode cX12_law 23 = .ok (.ireturn, 1) := by decide +kernel
theorem dX12_law_24 : decode cX12_law 24 = .ok (.aload_n 0, 1) := by decide +kernel
theorem dX12_law_25 : decode cX12_law 25 = .ok (.iconst 0, 1) := by decide +kernel
theorem dX12_law_26 : decode cX12_law 26 = .ok (.invokevirtual 273, 3) := by decide +kernel
theorem dX12_law_29 : decode cX12_law 29 = .ok (.ifCond .ne 10, 3) := by decide +kernel
theorem dX12_law_32 : decode cX12_law 32 = .ok (.aload_n 0, 1) := by decide +kernel
theorem dX12_law_33 : decode cX12_law 33 = .ok (.bipush (-6), 2) := by decide +kernel
theorem dX12_law_35 : decode cX12_law 35 = .ok (.invokevirtual 135, 3) := by decide +kernel
theorem dX12_law_38 : decode cX12_law 38 = .ok (.ireturn, 1) := by decide +kernel
theorem dX12_law_39 : decode cX12_law 39 = .ok (.aload_n 0, 1) := by decide +kernel
theorem dX12_law_40 : decode cX12_law 40 = .ok (.aload_n 0, 1) := by decide +kernel
theorem dX12_law_41 : decode cX12_law 41 = .ok (.getfield 42, 3) := by decide +kernel
theorem dX12_law_44 : decode cX12_law 44 = .ok (.bipush 75, 2) := by decide +kernel
theorem dX12_law_46 : decode cX12_law 46 = .ok (.iaload, 1) := by decide +kernel
theorem dX12_law_47 : decode cX12_law 47 = .ok (.invokevirtual 277, 3) := by decide +kernel
theorem dX12_law_50 : decode cX12_law 50 = .ok (.aload_n 0, 1) := by decide +kernel
theorem dX12_law_51 : decode cX12_law 51 = .ok (.getfield 42, 3) := by decide +kernel
theorem dX12_law_54 : decode cX12_law 54 = .ok (.bipush 75, 2) := by decide +kernel
theorem dX12_law_56 : decode cX12_law 56 = .ok (.dup2, 1) := by decide +kernel
theorem dX12_law_57 : decode cX12_law 57 = .ok (.iaload, 1) := by decide +kernel
theorem dX12_law_58 : decode cX12_law 58 = .ok (.iconst 1, 1) := by decide +kernel
theorem dX12_law_59 : decode cX12_law 59 = .ok (.iadd, 1) := by decide +kernel
theorem dX12_law_60 : decode cX12_law 60 = .ok (.iastore, 1) := by decide +kernel
theorem dX12_law_61 : decode cX12_law 61 = .ok (.aload_n 0, 1) := by decide +kernel
theorem dX12_law_62 : decode cX12_law 62 = .ok (.aload_n 0, 1) := by decide +kernel
theorem dX12_law_63 : decode cX12_law 63 = .ok (.getfield 42, 3) := by decide +kernel
theorem dX12_law_66 : decode cX12_law 66 = .ok (.bipush 75, 2) := by decide +kernel
theorem dX12_law_68 : decode cX12_law 68 = .ok (.iaload, 1) := by decide +kernel
theorem dX12_law_69 : decode cX12_law 69 = .ok (.iconst 1, 1) := by decide +kernel
theorem dX12_law_70 : decode cX12_law 70 = .ok (.isub, 1) := by decide +kernel
theorem dX12_law_71 : decode cX12_law 71 = .ok (.invokevirtual 14, 3) := by decide +kernel
theorem dX12_law_74 : decode cX12_law 74 = .ok (.ireturn, 1) := by decide +kernel
abbrev mX12_law : zq_M := (cX12_law, RX12, "law", (some .int), 1)
theorem dX12_force_0 : decode cX12_force 0 = .ok (.aload_n 0, 1) := by decide +kernel
theorem dX12_force_1 : decode cX12_force 1 = .ok (.iload_n 1, 1) := by decide +kernel
theorem dX12_force_2 : decode cX12_force 2 = .ok (.invokevirtual 280, 3) := by decide +kernel
theorem dX12_force_5 : decode cX12_force 5 = .ok (.ifCond .ne 10, 3) := by decide +kernel
theorem dX12_force_8 : decode cX12_force 8 = .ok (.aload_n 0, 1) := by decide +kernel
theorem dX12_force_9 : decode cX12_force 9 = .ok (.bipush (-2), 2) := by decide +kernel
theorem dX12_force_11 : decode cX12_force 11 = .ok (.invokevirtual 135, 3) := by decide +kernel
theorem dX12_force_14 : decode cX12_force 14 = .ok (.ireturn, 1) := by decide +kernel
theorem dX12_force_15 : decode cX12_force 15 = .ok (.aload_n 0, 1) := by decide +kernel
theorem dX12_force_16 : decode cX12_force 16 = .ok (.getfield 42, 3) := by decide +kernel
theorem dX12_force_19 : decode cX12_force 19 = .ok (.bipush 76, 2) := by decide +kernel
theorem dX12_force_21 : decode cX12_force 21 = .ok (.iaload, 1) := by decide +kernel
theorem dX12_force_22 : decode cX12_force 22 = .ok (.istore_n 2, 1) := by decide +kernel
theorem dX12_force_23 : decode cX12_force 23 = .ok (.aload_n 0, 1) := by decide +kernel
theorem dX12_force_24 : decode cX12_force 24 = .ok (.getfield 42, 3) := by decide +kernel
theorem dX12_force_27 : decode cX12_force 27 = .ok (.bipush 76, 2) := by decide +kernel
theorem dX12_force_29 : decode cX12_force 29 = .ok (.iload_n 1, 1) := by decide +kernel
theorem dX12_force_30 : decode cX12_force 30 = .ok (.iastore, 1) := by decide +kernel
theorem dX12_force_31 : decode cX12_force 31 = .ok (.aload_n 0, 1) := by decide +kernel
theorem dX12_force_32 : decode cX12_force 32 = .ok (.iload_n 2, 1) := by decide +kernel
theorem dX12_force_33 : decode cX12_force 33 = .ok (.invokevirtual 14, 3) := by decide +kernel
theorem dX12_force_36 : decode cX12_force 36 = .ok (.ireturn, 1) := by decide +kernel
abbrev mX12_force : zq_M := (cX12_force, RX12, "force", (some .int), 3)
theorem dX12_isLaw_0 : decode cX12_isLaw 0 = .ok (.iload_n 1, 1) := by decide +kernel
theorem dX12_isLaw_1 : decode cX12_isLaw 1 = .ok (.iconst (-1), 1) := by decide +kernel
theorem dX12_isLaw_2 : decode cX12_isLaw 2 = .ok (.aload_n 0, 1) := by decide +kernel
theorem dX12_isLaw_3 : decode cX12_isLaw 3 = .ok (.getfield 42, 3) := by decide +kernel
theorem dX12_isLaw_6 : decode cX12_isLaw 6 = .ok (.bipush 75, 2) := by decide +kernel
theorem dX12_isLaw_8 : decode cX12_isLaw 8 = .ok (.iaload, 1) := by decide +kernel
theorem dX12_isLaw_9 : decode cX12_isLaw 9 = .ok (.iconst 1, 1) := by decide +kernel
theorem dX12_isLaw_10 : decode cX12_isLaw 10 = .ok (.isub, 1) := by decide +kernel
theorem dX12_isLaw_11 : decode cX12_isLaw 11 = .ok (.invokestatic 18, 3) := by decide +kernel
theorem dX12_isLaw_14 : decode cX12_isLaw 14 = .ok (.ireturn, 1) := by decide +kernel
abbrev mX12_isLaw : zq_M := (cX12_isLaw, RX12, "isLaw", (some .boolean), 2)
section ZL18
variable {l : Launch} {G : zq_G} {D n fw lw : Nat} {o : Bool} {σ : zm_S} {ρ : Nat → zq_E} {post : Option Value → Nat → (Nat → zq_E) → Prop}
/-- the reader's answer on a tape of z bytes -/
def zAns (T : Nat → Int32) (z fw lw : Nat) (o : Bool) : zQ := zpAll (zcN T z) (zvN T z) (zpN T z) fw lw o (zTok T z).length
theorem zm_reads {z : Nat} (hD : 40 ≤ D) (hw : zWr σ) (h14 : σ.1 14 = nI z) (hz : z ≤ 400) (hW : zWd σ fw lw o)
    (hp : ∀ C V P, zTr (σ.2.1 78) C V P (zTok (σ.2.1 78) z) → (zTok (σ.2.1 78) z).length ≤ z → (zAns (σ.2.1 78) z fw lw o).2.2 ≤ 1000 → post (some (.int (zb (decide ((zAns (σ.2.1 78) z fw lw o).2.2 = 0))))) n (zm_h (zm_si (zrd (zm_si (zsp σ C V P (zTok (σ.2.1 78) z).length) 14 0) (zAns (σ.2.1 78) z fw lw o)) 15 (zlast (zAns (σ.2.1 78) z fw lw o).2.2)) ρ)) : zq_Runs l G D 0 0 yX12_reads [.ref 70] n (zm_h σ ρ) post := by
  refine zq_enter (cc := cX12_reads) (nL := 2) (ret := (some .boolean)) cw_X12_reads (by decide) rfl (Nat.le_of_ble_eq_true rfl) ?_
  refine at_aload_n dX12_reads_0 rfl ?_
  refine at_aload_n dX12_reads_1 rfl ?_
  refine at_get dX12_reads_2 fl_X12_175 rfl rfl ?_
  rw [h14]
  refine at_callV1 (d := D - 1) dX12_reads_5 mv_X12_264 rfl (Nat.le_of_ble_eq_true rfl) (zq_r0 (by omega) (by omega) (by omega)) ?_
  refine zm_splits (by omega) hw hz (fun C V P g1 g2 g3 g4 g5 => ?_)
  have hp := hp C V P g1 g2
  unfold zAns at hp
  generalize hNN : (zTok (σ.2.1 78) z).length = N at *
  have hTk : zTk (zm_si (zsp σ C V P N) 14 0) N (zcN (σ.2.1 78) z) (zvN (σ.2.1 78) z) (zpN (σ.2.1 78) z) := zTk_of hz hNN g2 g1 g3 g4 g5 (zsp_80 σ C V P N) (zsp_81 σ C V P N) (zsp_82 σ C V P N)
  generalize zcN (σ.2.1 78) z = c at *
  generalize zvN (σ.2.1 78) z = v at *
  generalize zpN (σ.2.1 78) z = pl at *
  have hN := hTk.1
  have hpl := zTk_pl hTk
  have hWd : zWd (zm_si (zsp σ C V P N) 14 0) fw lw o := by
    obtain ⟨w1, w2, w3, w4⟩ := hW
    exact ⟨w1, w2, w3, w4⟩
  have hq0 : zqk N (0, 0, 0) := ⟨Nat.zero_le _, Nat.zero_le _, fun _ => Nat.le_refl _, Nat.zero_le _⟩
  have g1q := zgd_one (v := v) (lw := lw) (o := o) hN hTk.2.1 hpl hWd.2.2.2.1 (0, 0, 0) hq0
  have hloop := fun Q (hk : ∀ x : Int32, zqk N Q → zq_At l G (zq_rm D 0 0) mX12_reads (zq_QF G post 0 0) 73 [(0, .ref 70)] [] n (zm_h (zrd (zm_si (zsp σ C V P N) 14 0) Q) ρ) 0 0) hQ => zm_reads_loop (l := l) (G := G) (D := D) (n := n) (ρ := ρ) (post := post) (by omega) hTk hWd Q hk 402 1 (zpOne c v pl fw lw o (0, 0, 0)) g1q.1 (by omega) (by omega) hQ
  have h19 : ∀ q, (zrd (zm_si (zsp σ C V P N) 14 0) q).1 19 = nI N := fun q => (zrd_o _ q (by decide) (by decide) (by decide)).trans (zsp_19 σ C V P N)
  unfold zpAll at hp
  generalize hCs : zpCs c v pl fw lw o 402 1 (zpOne c v pl fw lw o (0, 0, 0)) = Q at *
  refine at_aload_n dX12_reads_8 rfl ?_
  refine at_iconst dX12_reads_9 (v := nI 0) (by decide) ?_
  refine at_mput dX12_reads_10 (pl_X12_175 _) (fun _ => ⟨_, rfl⟩) rfl rfl ?_
  refine at_aload_n dX12_reads_13 rfl ?_
  refine at_iconst dX12_reads_14 (v := nI 0) (by decide) ?_
  refine at_mput dX12_reads_15 (pl_X12_204 _) (fun _ => ⟨_, rfl⟩) rfl rfl ?_
  refine at_aload_n dX12_reads_18 rfl ?_
  refine at_iconst dX12_reads_19 (v := nI 0) (by decide) ?_
  refine at_mput dX12_reads_20 (pl_X12_213 _) (fun _ => ⟨_, rfl⟩) rfl rfl ?_
  refine at_aload_n dX12_reads_23 rfl ?_
  refine at_iconst dX12_reads_24 (v := -1) rfl ?_
  refine at_mput dX12_reads_25 (pl_X12_197 _) (fun _ => ⟨_, rfl⟩) rfl rfl ?_
  change zq_At l G (zq_rm D 0 0) _ (zq_QF G post 0 0) _ _ _ n (zm_h (zrd (zm_si (zsp σ C V P N) 14 0) (0, 0, 0)) ρ) _ _
  refine at_aload_n dX12_reads_28 rfl ?_
  refine at_callV0 (d := D - 1) dX12_reads_29 mv_X12_267 rfl (Nat.le_of_ble_eq_true rfl) (zq_r0 (by omega) (by omega) (by omega)) ?_
  refine zm_readOne (by omega) hTk hWd hq0 ?_
  refine at_iconst dX12_reads_32 (v := nI 1) (by decide) ?_
  refine at_istore_n dX12_reads_33 rfl (by decide) ?_
  refine hloop Q (fun _ hqQ => ?_) rfl
  have hf := zgd_f hpl Q hqQ
  have hq1 := hqQ.1
  refine at_aload_n dX12_reads_73 rfl ?_
  refine at_callV0 (d := D - 1) dX12_reads_74 mv_X12_200 rfl (Nat.le_of_ble_eq_true rfl) (zq_r0 (by omega) (by omega) (by omega)) ?_
  refine zm_fine hqQ.2.1 ?_
  refine at_if_eqB (tgt := 95) dX12_reads_77 (by decide) (fun c77 => ?_) (fun c77 => ?_)
  · rw [if_neg (fun h => of_decide_eq_false c77 h.1)] at hp
    have hp := hp hqQ.2.1
    refine at_aload_n dX12_reads_95 rfl ?_
    refine at_aload_n dX12_reads_96 rfl ?_
    refine at_get dX12_reads_97 fl_X12_197 rfl rfl ?_
    rw [zrd_22]
    refine at_mput dX12_reads_100 (pl_X12_68 _) (fun _ => ⟨_, rfl⟩) rfl rfl ?_
    rw [zrd_si _ _ (by decide) (by decide) (by decide)] at hp ⊢
    refine at_aload_n dX12_reads_103 rfl ?_
    refine at_callV0 (d := D - 1) dX12_reads_104 mv_X12_200 rfl (Nat.le_of_ble_eq_true rfl) (zq_r0 (by omega) (by omega) (by omega)) ?_
    refine zm_fine hqQ.2.1 ?_
    refine at_zret dX12_reads_107 rfl (by omega) (by omega) (zb_01 _) ?_
    exact hp
  · refine at_aload_n dX12_reads_80 rfl ?_
    refine at_get dX12_reads_81 fl_X12_204 rfl rfl ?_
    rw [zrd_20]
    refine at_aload_n dX12_reads_84 rfl ?_
    refine at_get dX12_reads_85 fl_X12_184 rfl rfl ?_
    rw [h19]
    refine at_geN (tgt := 95) dX12_reads_88 (by decide) (by omega) (by omega) (fun c88 => ?_) (fun c88 => ?_)
    · rw [if_neg (fun h => by omega)] at hp
      have hp := hp hqQ.2.1
      refine at_aload_n dX12_reads_95 rfl ?_
      refine at_aload_n dX12_reads_96 rfl ?_
      refine at_get dX12_reads_97 fl_X12_197 rfl rfl ?_
      rw [zrd_22]
      refine at_mput dX12_reads_100 (pl_X12_68 _) (fun _ => ⟨_, rfl⟩) rfl rfl ?_
      rw [zrd_si _ _ (by decide) (by decide) (by decide)] at hp ⊢
      refine at_aload_n dX12_reads_103 rfl ?_
      refine at_callV0 (d := D - 1) dX12_reads_104 mv_X12_200 rfl (Nat.le_of_ble_eq_true rfl) (zq_r0 (by omega) (by omega) (by omega)) ?_
      refine zm_fine hqQ.2.1 ?_
      refine at_zret dX12_reads_107 rfl (by omega) (by omega) (zb_01 _) ?_
      exact hp
    · rw [if_pos ⟨of_decide_eq_true c77, c88⟩] at hp
      have hp := hp hf.1.2.1
      refine at_aload_n dX12_reads_91 rfl ?_
      refine at_callV0 (d := D - 1) dX12_reads_92 mv_X12_210 rfl (Nat.le_of_ble_eq_true rfl) (zq_r0 (by omega) (by omega) (by omega)) ?_
      refine zm_faults (by omega) hTk hqQ.1 hqQ.2.1 ?_
      refine at_aload_n dX12_reads_95 rfl ?_
      refine at_aload_n dX12_reads_96 rfl ?_
      refine at_get dX12_reads_97 fl_X12_197 rfl rfl ?_
      rw [zrd_22]
      refine at_mput dX12_reads_100 (pl_X12_68 _) (fun _ => ⟨_, rfl⟩) rfl rfl ?_
      rw [zrd_si _ _ (by decide) (by decide) (by decide)] at hp ⊢
      refine at_aload_n dX12_reads_103 rfl ?_
      refine at_callV0 (d := D - 1) dX12_reads_104 mv_X12_200 rfl (Nat.le_of_ble_eq_true rfl) (zq_r0 (by omega) (by omega) (by omega)) ?_
      refine zm_fine hf.1.2.1 ?_
      refine at_zret dX12_reads_107 rfl (by omega) (by omega) (zb_01 _) ?_
      exact hp
end ZL18

