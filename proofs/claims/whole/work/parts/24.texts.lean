/-! ===== the Model: tests, clauses, texts, laws ===== -/
theorem dX12_reads_0 : decode cX12_reads 0 = .ok (.aload_n 0, 1) := by decide +kernel
theorem dX12_reads_1 : decode cX12_reads 1 = .ok (.aload_n 0, 1) := by decide +kernel
theorem dX12_reads_2 : decode cX12_reads 2 = .ok (.getfield 175, 3) := by decide +kernel
theorem dX12_reads_5 : decode cX12_reads 5 = .ok (.invokevirtual 264, 3) := by decide +kernel
theorem dX12_reads_8 : decode cX12_reads 8 = .ok (.aload_n 0, 1) := by decide +kernel
theorem dX12_reads_9 : decode cX12_reads 9 = .ok (.iconst 0, 1) := by decide +kernel
theorem dX12_reads_10 : decode cX12_reads 10 = .ok (.putfield 175, 3) := by decide +kernel
theorem dX12_reads_13 : decode cX12_reads 13 = .ok (.aload_n 0, 1) := by decide +kernel
theorem dX12_reads_14 : decode cX12_reads 14 = .ok (.iconst 0, 1) := by decide +kernel
theorem dX12_reads_15 : decode cX12_reads 15 = .ok (.putfield 204, 3) := by decide +kernel
theorem dX12_reads_18 : decode cX12_reads 18 = .ok (.aload_n 0, 1) := by decide +kernel
theorem dX12_reads_19 : decode cX12_reads 19 = .ok (.iconst 0, 1) := by decide +kernel
theorem dX12_reads_20 : decode cX12_reads 20 = .ok (.putfield 213, 3) := by decide +kernel
theorem dX12_reads_23 : decode cX12_reads 23 = .ok (.aload_n 0, 1) := by decide +kernel
theorem dX12_reads_24 : decode cX12_reads 24 = .ok (.iconst (-1), 1) := by decide +kernel
theorem dX12_reads_25 : decode cX12_reads 25 = .ok (.putfield 197, 3) := by decide +kernel
theorem dX12_reads_28 : decode cX12_reads 28 = .ok (.aload_n 0, 1) := by decide +kernel
theorem dX12_reads_29 : decode cX12_reads 29 = .ok (.invokevirtual 267, 3) := by decide +kernel
theorem dX12_reads_32 : decode cX12_reads 32 = .ok (.iconst 1, 1) := by decide +kernel
theorem dX12_reads_33 : decode cX12_reads 33 = .ok (.istore_n 1, 1) := by decide +kernel
theorem dX12_reads_34 : decode cX12_reads 34 = .ok (.aload_n 0, 1) := by decide +kernel
theorem dX12_reads_35 : decode cX12_reads 35 = .ok (.bipush 59, 2) := by decide +kernel
theorem dX12_reads_37 : decode cX12_reads 37 = .ok (.invokestatic 245, 3) := by decide +kernel
theorem dX12_reads_40 : decode cX12_reads 40 = .ok (.invokevirtual 207, 3) := by decide +kernel
theorem dX12_reads_43 : decode cX12_reads 43 = .ok (.ifCond .eq 30, 3) := by decide +kernel
theorem dX12_reads_46 : decode cX12_reads 46 = .ok (.iload_n 1, 1) := by decide +kernel
theorem dX12_reads_47 : decode cX12_reads 47 = .ok (.bipush 12, 2) := by decide +kernel
theorem dX12_reads_49 : decode cX12_reads 49 = .ok (.if_icmp .ne 7, 3) := by decide +kernel
theorem dX12_reads_52 : decode cX12_reads 52 = .ok (.aload_n 0, 1) := by decide +kernel
theorem dX12_reads_53 : decode cX12_reads 53 = .ok (.invokevirtual 210, 3) := by decide +kernel
theorem dX12_reads_56 : decode cX12_reads 56 = .ok (.aload_n 0, 1) := by decide +kernel
theorem dX12_reads_57 : decode cX12_reads 57 = .ok (.invokevirtual 200, 3) := by decide +kernel
theorem dX12_reads_60 : decode cX12_reads 60 = .ok (.ifCond .eq 7, 3) := by decide +kernel
theorem dX12_reads_63 : decode cX12_reads 63 = .ok (.aload_n 0, 1) := by decide +kernel
theorem dX12_reads_64 : decode cX12_reads 64 = .ok (.invokevirtual 267, 3) := by decide +kernel
theorem dX12_reads_67 : decode cX12_reads 67 = .ok (.iinc 1 1, 3) := by decide +kernel
theorem dX12_reads_70 : decode cX12_reads 70 = .ok (.goto (-36), 3) := by decide +kernel
theorem dX12_reads_73 : decode cX12_reads 73 = .ok (.aload_n 0, 1) := by decide +kernel
theorem dX12_reads_74 : decode cX12_reads 74 = .ok (.invokevirtual 200, 3) := by decide +kernel
theorem dX12_reads_77 : decode cX12_reads 77 = .ok (.ifCond .eq 18, 3) := by decide +kernel
theorem dX12_reads_80 : decode cX12_reads 80 = .ok (.aload_n 0, 1) := by decide +kernel
theorem dX12_reads_81 : decode cX12_reads 81 = .ok (.getfield 204, 3) := by decide +kernel
theorem dX12_reads_84 : decode cX12_reads 84 = .ok (.aload_n 0, 1) := by decide +kernel
theorem dX12_reads_85 : decode cX12_reads 85 = .ok (.getfield 184, 3) := by decide +kernel
theorem dX12_reads_88 : decode cX12_reads 88 = .ok (.if_icmp .ge 7, 3) := by decide +kernel
theorem dX12_reads_91 : decode cX12_reads 91 = .ok (.aload_n 0, 1) := by decide +kernel
theorem dX12_reads_92 : decode cX12_reads 92 = .ok (.invokevirtual 210, 3) := by decide +kernel
theorem dX12_reads_95 : decode cX12_reads 95 = .ok (.aload_n 0, 1) := by decide +kernel
theorem dX12_reads_96 : decode cX12_reads 96 = .ok (.aload_n 0, 1) := by decide +kernel
theorem dX12_reads_97 : decode cX12_reads 97 = .ok (.getfield 197, 3) := by decide +kernel
theorem dX12_reads_100 : decode cX12_reads 100 = .ok (.putfield 68, 3) := by decide +kernel
theorem dX12_reads_103 : decode cX12_reads 103 = .ok (.aload_n 0, 1) := by decide +kernel
theorem dX12_reads_104 : decode cX12_reads 104 = .ok (.invokevirtual 200, 3) := by decide +kernel
theorem dX12_reads_107 : decode cX12_reads 107 = .ok (.ireturn, 1) := by decide +kernel
abbrev mX12_reads : zq_M := (cX12_reads, RX12, "reads", (some .boolean), 2)
theorem dX12_readsAs_0 : decode cX12_readsAs 0 = .ok (.aload_n 0, 1) := by decide +kernel
theorem dX12_readsAs_1 : decode cX12_readsAs 1 = .ok (.iload_n 1, 1) := by decide +kernel
theorem dX12_readsAs_2 : decode cX12_readsAs 2 = .ok (.putfield 229, 3) := by decide +kernel
theorem dX12_readsAs_5 : decode cX12_readsAs 5 = .ok (.aload_n 0, 1) := by decide +kernel
theorem dX12_readsAs_6 : decode cX12_readsAs 6 = .ok (.iload_n 1, 1) := by decide +kernel
theorem dX12_readsAs_7 : decode cX12_readsAs 7 = .ok (.ifCond .eq 8, 3) := by decide +kernel
theorem dX12_readsAs_10 : decode cX12_readsAs 10 = .ok (.bipush 15, 2) := by decide +kernel
theorem dX12_readsAs_12 : decode cX12_readsAs 12 = .ok (.goto 5, 3) := by decide +kernel
theorem dX12_readsAs_15 : decode cX12_readsAs 15 = .ok (.bipush 8, 2) := by decide +kernel
theorem dX12_readsAs_17 : decode cX12_readsAs 17 = .ok (.putfield 255, 3) := by decide +kernel
theorem dX12_readsAs_20 : decode cX12_readsAs 20 = .ok (.aload_n 0, 1) := by decide +kernel
theorem dX12_readsAs_21 : decode cX12_readsAs 21 = .ok (.iload_n 1, 1) := by decide +kernel
theorem dX12_readsAs_22 : decode cX12_readsAs 22 = .ok (.ifCond .eq 8, 3) := by decide +kernel
theorem dX12_readsAs_25 : decode cX12_readsAs 25 = .ok (.bipush 21, 2) := by decide +kernel
theorem dX12_readsAs_27 : decode cX12_readsAs 27 = .ok (.goto 5, 3) := by decide +kernel
theorem dX12_readsAs_30 : decode cX12_readsAs 30 = .ok (.bipush 15, 2) := by decide +kernel
theorem dX12_readsAs_32 : decode cX12_readsAs 32 = .ok (.putfield 258, 3) := by decide +kernel
theorem dX12_readsAs_35 : decode cX12_readsAs 35 = .ok (.aload_n 0, 1) := by decide +kernel
theorem dX12_readsAs_36 : decode cX12_readsAs 36 = .ok (.invokevirtual 270, 3) := by decide +kernel
theorem dX12_readsAs_39 : decode cX12_readsAs 39 = .ok (.ireturn, 1) := by decide +kernel
abbrev mX12_readsAs : zq_M := (cX12_readsAs, RX12, "readsAs", (some .boolean), 2)
section ZL15
variable {l : Launch} {G : zq_G} {n N fw lw : Nat} {o : Bool} {σ : zm_S} {ρ : Nat → zq_E} {c v pl : Nat → Nat}
theorem zm_readBoth_loop {D d : Nat} {post : Option Value → Nat → (Nat → zq_E) → Prop} {P : zQ → zQ} (hD : 2 ≤ D) (hT : zTk σ N c v pl) (hP : zgd N P)
    (HP : ∀ (q' : zQ) (post' : Option Value → Nat → (Nat → zq_E) → Prop), zqk N q' → post' none n (zm_h (zrd σ (P q')) ρ) → zq_Runs l G (D - 1) 0 0 yX12_readPlain [.ref 70, .int (nI d)] n (zm_h (zrd σ q') ρ) post') : ∀ (f : Nat) (q : zQ), zqk N q → N - q.1 < f → post none n (zm_h (zrd σ (zpL c [6] P f q)) ρ) → zq_At l G (zq_rm D 0 0) mX12_readBoth (zq_QF G post 0 0) 5 [(0, .ref 70), (1, .int (nI d))] [] n (zm_h (zrd σ q) ρ) 0 0 := by
  have hN := hT.1
  intro f
  induction f with
  | zero => intro q hq hf; omega
  | succ f ih =>
    intro q hq hf hp
    unfold zpL at hp
    refine at_aload_n dX12_readBoth_5 rfl ?_
    refine at_bipush dX12_readBoth_6 (v := nI 6) (by decide) ?_
    refine at_callV1 (d := D - 1) dX12_readBoth_8 mv_X12_207 rfl (Nat.le_of_ble_eq_true rfl) (zq_r0 (by omega) (by omega) (by omega)) ?_
    refine zm_takes0 (by omega) (by decide) hT hq.1 hq.2.1 ?_
    refine at_if_eqB (tgt := 22) dX12_readBoth_11 (by decide) (fun c11 => ?_) (fun c11 => ?_)
    · rw [if_neg (by rw [c11]; decide)]
      rw [if_neg (by simp [c11])] at hp
      refine at_vret dX12_readBoth_22 rfl (by omega) (by omega) ?_
      exact hp
    · rw [if_pos c11]
      obtain ⟨g1, g2⟩ := zpt_lt hT.2.1 hq.1 (by decide) c11
      have hqn := zqk_n hq hN g1 g2
      have gP := hP (zpn q) hqn
      rw [if_pos (by simp [c11])] at hp
      have hgo := ih _ gP.1 (by have h3 := gP.2.1; have : (zpn q).1 = q.1 + 1 := rfl; omega) hp
      refine at_aload_n dX12_readBoth_14 rfl ?_
      refine at_iload_n dX12_readBoth_15 rfl ?_
      refine at_callV1 (d := D - 1) dX12_readBoth_16 mv_X12_242 rfl (Nat.le_of_ble_eq_true rfl) (zq_r0 (by omega) (by omega) (by omega)) ?_
      refine HP (zpn q) _ hqn ?_
      refine at_goto (tgt := 5) dX12_readBoth_19 (by decide) ?_
      exact hgo
theorem zm_readTest0_loop {D d : Nat} {post : Option Value → Nat → (Nat → zq_E) → Prop} {P : zQ → zQ} (hD : 2 ≤ D) (hT : zTk σ N c v pl) (hP : zgd N P)
    (HP : ∀ (q' : zQ) (post' : Option Value → Nat → (Nat → zq_E) → Prop), zqk N q' → post' none n (zm_h (zrd σ (P q')) ρ) → zq_Runs l G (D - 1) 0 0 yX12_readBoth [.ref 70, .int (nI d)] n (zm_h (zrd σ q') ρ) post') : ∀ (f : Nat) (q : zQ), zqk N q → N - q.1 < f → post none n (zm_h (zrd σ (zpL c [5] P f q)) ρ) → zq_At l G (zq_rm D 0 0) mX12_readTest (zq_QF G post 0 0) 5 [(0, .ref 70), (1, .int (nI d))] [] n (zm_h (zrd σ q) ρ) 0 0 := by
  have hN := hT.1
  intro f
  induction f with
  | zero => intro q hq hf; omega
  | succ f ih =>
    intro q hq hf hp
    unfold zpL at hp
    refine at_aload_n dX12_readTest_5 rfl ?_
    refine at_iconst dX12_readTest_6 (v := nI 5) (by decide) ?_
    refine at_callV1 (d := D - 1) dX12_readTest_7 mv_X12_207 rfl (Nat.le_of_ble_eq_true rfl) (zq_r0 (by omega) (by omega) (by omega)) ?_
    refine zm_takes0 (by omega) (by decide) hT hq.1 hq.2.1 ?_
    refine at_if_eqB (tgt := 21) dX12_readTest_10 (by decide) (fun c10 => ?_) (fun c10 => ?_)
    · rw [if_neg (by rw [c10]; decide)]
      rw [if_neg (by simp [c10])] at hp
      refine at_vret dX12_readTest_21 rfl (by omega) (by omega) ?_
      exact hp
    · rw [if_pos c10]
      obtain ⟨g1, g2⟩ := zpt_lt hT.2.1 hq.1 (by decide) c10
      have hqn := zqk_n hq hN g1 g2
      have gP := hP (zpn q) hqn
      rw [if_pos (by simp [c10])] at hp
      have hgo := ih _ gP.1 (by have h3 := gP.2.1; have : (zpn q).1 = q.1 + 1 := rfl; omega) hp
      refine at_aload_n dX12_readTest_13 rfl ?_
      refine at_iload_n dX12_readTest_14 rfl ?_
      refine at_callV1 (d := D - 1) dX12_readTest_15 mv_X12_239 rfl (Nat.le_of_ble_eq_true rfl) (zq_r0 (by omega) (by omega) (by omega)) ?_
      refine HP (zpn q) _ hqn ?_
      refine at_goto (tgt := 5) dX12_readTest_18 (by decide) ?_
      exact hgo
theorem zm_readBoth {D d : Nat} {q : zQ} {post : Option Value → Nat → (Nat → zq_E) → Prop} {P : zQ → zQ} (hD : 2 ≤ D) (hT : zTk σ N c v pl) (hP : zgd N P) (hq : zqk N q)
    (HP : ∀ (q' : zQ) (post' : Option Value → Nat → (Nat → zq_E) → Prop), zqk N q' → post' none n (zm_h (zrd σ (P q')) ρ) → zq_Runs l G (D - 1) 0 0 yX12_readPlain [.ref 70, .int (nI d)] n (zm_h (zrd σ q') ρ) post')
    (hp : post none n (zm_h (zrd σ (zpBoth c P q)) ρ)) : zq_Runs l G D 0 0 yX12_readBoth [.ref 70, .int (nI d)] n (zm_h (zrd σ q) ρ) post := by
  have hN := hT.1
  refine zq_enter (cc := cX12_readBoth) (nL := 2) (ret := none) cw_X12_readBoth (by decide) rfl (Nat.le_of_ble_eq_true rfl) ?_
  refine at_aload_n dX12_readBoth_0 rfl ?_
  refine at_iload_n dX12_readBoth_1 rfl ?_
  refine at_callV1 (d := D - 1) dX12_readBoth_2 mv_X12_242 rfl (Nat.le_of_ble_eq_true rfl) (zq_r0 (by omega) (by omega) (by omega)) ?_
  refine HP q _ hq ?_
  exact zm_readBoth_loop hD hT hP HP 402 (P q) (hP q hq).1 (by omega) hp
theorem zm_readTest (hT : zTk σ N c v pl) (hW : zWd σ fw lw o) : ∀ (d D : Nat) (q : zQ) (post : Option Value → Nat → (Nat → zq_E) → Prop), d ≤ 8 → 3 * d + 9 ≤ D → zqk N q → post none n (zm_h (zrd σ (zpT c v pl fw lw o d q)) ρ) → zq_Runs l G D 0 0 yX12_readTest [.ref 70, .int (nI (8 - d))] n (zm_h (zrd σ q) ρ) post := by
  have hN := hT.1
  have hpl := zTk_pl hT
  intro d
  induction d with
  | zero =>
    intro D q post hd hD hq hp
    have gP := zgd_Pl (o := o) (lw := lw) (v := v) hN hT.2.1 hpl hW.2.2.2.1 0
    have HP : ∀ (q' : zQ) (post' : Option Value → Nat → (Nat → zq_E) → Prop), zqk N q' → post' none n (zm_h (zrd σ (zpBoth c (zpPl c v pl fw lw o 0) q')) ρ) → zq_Runs l G (D - 1) 0 0 yX12_readBoth [.ref 70, .int (nI (8 - 0))] n (zm_h (zrd σ q') ρ) post' := fun q' post' hq' hp' => zm_readBoth (by omega) hT gP hq' (fun q2 post2 hq2 hp2 => zm_readPlain (by omega) (by omega) hT hW hq2 (fun h => absurd rfl h) hp2) hp'
    rw [zpT_eq] at hp
    refine zq_enter (cc := cX12_readTest) (nL := 2) (ret := none) cw_X12_readTest (by decide) rfl (Nat.le_of_ble_eq_true rfl) ?_
    refine at_aload_n dX12_readTest_0 rfl ?_
    refine at_iload_n dX12_readTest_1 rfl ?_
    refine at_callV1 (d := D - 1) dX12_readTest_2 mv_X12_239 rfl (Nat.le_of_ble_eq_true rfl) (zq_r0 (by omega) (by omega) (by omega)) ?_
    refine HP q _ hq ?_
    exact zm_readTest0_loop (by omega) hT (zgd_both hN hT.2.1 gP) HP 402 _ (zgd_both hN hT.2.1 gP q hq).1 (by omega) hp
  | succ d ih =>
    intro D q post hd hD hq hp
    have gP := zgd_Pl (o := o) (lw := lw) (v := v) hN hT.2.1 hpl hW.2.2.2.1 (d + 1)
    have HP : ∀ (q' : zQ) (post' : Option Value → Nat → (Nat → zq_E) → Prop), zqk N q' → post' none n (zm_h (zrd σ (zpBoth c (zpPl c v pl fw lw o (d + 1)) q')) ρ) → zq_Runs l G (D - 1) 0 0 yX12_readBoth [.ref 70, .int (nI (8 - (d + 1)))] n (zm_h (zrd σ q') ρ) post' := fun q' post' hq' hp' => zm_readBoth (by omega) hT gP hq' (fun q2 post2 hq2 hp2 => zm_readPlain (by omega) (by omega) hT hW hq2 (fun _ q3 post3 hq3 hp3 => by
      rw [show 8 - (d + 1) + 1 = 8 - d by omega]
      exact ih (D - 1 - 1 - 1) q3 post3 (by omega) (by omega) hq3 hp3) hp2) hp'
    rw [zpT_eq] at hp
    refine zq_enter (cc := cX12_readTest) (nL := 2) (ret := none) cw_X12_readTest (by decide) rfl (Nat.le_of_ble_eq_true rfl) ?_
    refine at_aload_n dX12_readTest_0 rfl ?_
    refine at_iload_n dX12_readTest_1 rfl ?_
    refine at_callV1 (d := D - 1) dX12_readTest_2 mv_X12_239 rfl (Nat.le_of_ble_eq_true rfl) (zq_r0 (by omega) (by omega) (by omega)) ?_
    refine HP q _ hq ?_
    exact zm_readTest0_loop (by omega) hT (zgd_both hN hT.2.1 gP) HP 402 _ (zgd_both hN hT.2.1 gP q hq).1 (by omega) hp
theorem zpn_k (hT : zTk σ N c v pl) {q : zQ} {k : Nat} (hq : zqk N q) (hk : k ≠ 0) (h : zpt c q k = true) : zqk N (zpn q) := by
  obtain ⟨a1, a2⟩ := zpt_lt hT.2.1 hq.1 hk h
  exact zqk_n hq hT.1 a1 a2
theorem zm_readClause {D : Nat} {q : zQ} {post : Option Value → Nat → (Nat → zq_E) → Prop} (hD : 36 ≤ D) (hT : zTk σ N c v pl) (hW : zWd σ fw lw o) (hq : zqk N q) (hp : post none n (zm_h (zrd σ (zpClause c v pl fw lw o q)) ρ)) : zq_Runs l G D 0 0 yX12_readClause [.ref 70] n (zm_h (zrd σ q) ρ) post := by
  have hN := hT.1
  have hpl := zTk_pl hT
  have gS := fun q' (hq' : zqk N q') => zgd_S (v := v) (lw := lw) (o := o) hN hT.2.1 hpl hW.2.2.2.1 8 q' hq'
  unfold zpClause at hp
  refine zq_enter (cc := cX12_readClause) (nL := 1) (ret := none) cw_X12_readClause (by decide) rfl (Nat.le_of_ble_eq_true rfl) ?_
  refine at_aload_n dX12_readClause_0 rfl ?_
  refine at_iconst dX12_readClause_1 (v := nI 1) (by decide) ?_
  refine at_callV1 (d := D - 1) dX12_readClause_2 mv_X12_207 rfl (Nat.le_of_ble_eq_true rfl) (zq_r0 (by omega) (by omega) (by omega)) ?_
  refine zm_takes0 (by omega) (by decide) hT hq.1 hq.2.1 ?_
  refine at_if_neB (tgt := 16) dX12_readClause_5 (by decide) (fun c5 => ?_) (fun c5 => ?_)
  · rw [if_pos c5] at hp ⊢
    have hqn := zpn_k hT hq (by decide) c5
    refine at_aload_n dX12_readClause_16 rfl ?_
    refine at_iconst dX12_readClause_17 (v := nI 0) (by decide) ?_
    refine at_callV1 (d := D - 1) dX12_readClause_18 mv_X12_216 rfl (Nat.le_of_ble_eq_true rfl) (zq_r0 (by omega) (by omega) (by omega)) ?_
    refine zm_readSum hT hW 8 (D - 1) (zpn q) _ (by decide) (by omega) hqn ?_
    have hq2 := (gS (zpn q) hqn).1
    refine at_goto (tgt := 29) dX12_readClause_21 (by decide) ?_
    unfold zpIf at hp
    refine at_aload_n dX12_readClause_29 rfl ?_
    refine at_iconst dX12_readClause_30 (v := nI 4) (by decide) ?_
    refine at_callV1 (d := D - 1) dX12_readClause_31 mv_X12_207 rfl (Nat.le_of_ble_eq_true rfl) (zq_r0 (by omega) (by omega) (by omega)) ?_
    refine zm_takes0 (by omega) (by decide) hT hq2.1 hq2.2.1 ?_
    refine at_if_eqB (tgt := 42) dX12_readClause_34 (by decide) (fun c34 => ?_) (fun c34 => ?_)
    · rw [if_neg (by rw [c34]; decide)] at hp ⊢
      refine at_vret dX12_readClause_42 rfl (by omega) (by omega) ?_
      exact hp
    · rw [if_pos c34] at hp ⊢
      have hq3 := zpn_k hT hq2 (by decide) c34
      refine at_aload_n dX12_readClause_37 rfl ?_
      refine at_iconst dX12_readClause_38 (v := nI 0) (by decide) ?_
      refine at_callV1 (d := D - 1) dX12_readClause_39 mv_X12_222 rfl (Nat.le_of_ble_eq_true rfl) (zq_r0 (by omega) (by omega) (by omega)) ?_
      refine zm_readTest hT hW 8 (D - 1) _ _ (by decide) (by omega) hq3 ?_
      refine at_vret dX12_readClause_42 rfl (by omega) (by omega) ?_
      exact hp
  · rw [if_neg (by rw [c5]; decide)] at hp ⊢
    refine at_aload_n dX12_readClause_8 rfl ?_
    refine at_iconst dX12_readClause_9 (v := nI 2) (by decide) ?_
    refine at_callV1 (d := D - 1) dX12_readClause_10 mv_X12_207 rfl (Nat.le_of_ble_eq_true rfl) (zq_r0 (by omega) (by omega) (by omega)) ?_
    refine zm_takes0 (by omega) (by decide) hT hq.1 hq.2.1 ?_
    refine at_if_eqB (tgt := 24) dX12_readClause_13 (by decide) (fun c13 => ?_) (fun c13 => ?_)
    · rw [if_neg (by rw [c13]; decide)] at hp ⊢
      have hq2 := (zgd_mu hN hT.2.1 hpl (k := 3) (by decide) q hq).1
      refine at_aload_n dX12_readClause_24 rfl ?_
      refine at_iconst dX12_readClause_25 (v := nI 3) (by decide) ?_
      refine at_callV1 (d := D - 1) dX12_readClause_26 mv_X12_219 rfl (Nat.le_of_ble_eq_true rfl) (zq_r0 (by omega) (by omega) (by omega)) ?_
      refine zm_must (by omega) (by decide) hT hq.1 hq.2.1 ?_
      unfold zpIf at hp
      refine at_aload_n dX12_readClause_29 rfl ?_
      refine at_iconst dX12_readClause_30 (v := nI 4) (by decide) ?_
      refine at_callV1 (d := D - 1) dX12_readClause_31 mv_X12_207 rfl (Nat.le_of_ble_eq_true rfl) (zq_r0 (by omega) (by omega) (by omega)) ?_
      refine zm_takes0 (by omega) (by decide) hT hq2.1 hq2.2.1 ?_
      refine at_if_eqB (tgt := 42) dX12_readClause_34 (by decide) (fun c34 => ?_) (fun c34 => ?_)
      · rw [if_neg (by rw [c34]; decide)] at hp ⊢
        refine at_vret dX12_readClause_42 rfl (by omega) (by omega) ?_
        exact hp
      · rw [if_pos c34] at hp ⊢
        have hq3 := zpn_k hT hq2 (by decide) c34
        refine at_aload_n dX12_readClause_37 rfl ?_
        refine at_iconst dX12_readClause_38 (v := nI 0) (by decide) ?_
        refine at_callV1 (d := D - 1) dX12_readClause_39 mv_X12_222 rfl (Nat.le_of_ble_eq_true rfl) (zq_r0 (by omega) (by omega) (by omega)) ?_
        refine zm_readTest hT hW 8 (D - 1) _ _ (by decide) (by omega) hq3 ?_
        refine at_vret dX12_readClause_42 rfl (by omega) (by omega) ?_
        exact hp
    · rw [if_pos c13] at hp ⊢
      have hqn := zpn_k hT hq (by decide) c13
      refine at_aload_n dX12_readClause_16 rfl ?_
      refine at_iconst dX12_readClause_17 (v := nI 0) (by decide) ?_
      refine at_callV1 (d := D - 1) dX12_readClause_18 mv_X12_216 rfl (Nat.le_of_ble_eq_true rfl) (zq_r0 (by omega) (by omega) (by omega)) ?_
      refine zm_readSum hT hW 8 (D - 1) (zpn q) _ (by decide) (by omega) hqn ?_
      have hq2 := (gS (zpn q) hqn).1
      refine at_goto (tgt := 29) dX12_readClause_21 (by decide) ?_
      unfold zpIf at hp
      refine at_aload_n dX12_readClause_29 rfl ?_
      refine at_iconst dX12_readClause_30 (v := nI 4) (by decide) ?_
      refine at_callV1 (d := D - 1) dX12_readClause_31 mv_X12_207 rfl (Nat.le_of_ble_eq_true rfl) (zq_r0 (by omega) (by omega) (by omega)) ?_
      refine zm_takes0 (by omega) (by decide) hT hq2.1 hq2.2.1 ?_
      refine at_if_eqB (tgt := 42) dX12_readClause_34 (by decide) (fun c34 => ?_) (fun c34 => ?_)
      · rw [if_neg (by rw [c34]; decide)] at hp ⊢
        refine at_vret dX12_readClause_42 rfl (by omega) (by omega) ?_
        exact hp
      · rw [if_pos c34] at hp ⊢
        have hq3 := zpn_k hT hq2 (by decide) c34
        refine at_aload_n dX12_readClause_37 rfl ?_
        refine at_iconst dX12_readClause_38 (v := nI 0) (by decide) ?_
        refine at_callV1 (d := D - 1) dX12_readClause_39 mv_X12_222 rfl (Nat.le_of_ble_eq_true rfl) (zq_r0 (by omega) (by omega) (by omega)) ?_
        refine zm_readTest hT hW 8 (D - 1) _ _ (by decide) (by omega) hq3 ?_
        refine at_vret dX12_readClause_42 rfl (by omega) (by omega) ?_
        exact hp
theorem zm_readOrder {D : Nat} {q : zQ} {post : Option Value → Nat → (Nat → zq_E) → Prop} (hD : 36 ≤ D) (hT : zTk σ N c v pl) (hW : zWd σ fw lw o) (hq : zqk N q) (hp : post none n (zm_h (zrd σ (zpOrder c v pl fw lw o q)) ρ)) : zq_Runs l G D 0 0 yX12_readOrder [.ref 70] n (zm_h (zrd σ q) ρ) post := by
  have hN := hT.1
  have hpl := zTk_pl hT
  have gS := fun q' (hq' : zqk N q') => (zgd_S (v := v) (lw := lw) (o := o) hN hT.2.1 hpl hW.2.2.2.1 8 q' hq').1
  have gM := fun k (hk : k ≠ 0) q' (hq' : zqk N q') => (zgd_mu hN hT.2.1 hpl (k := k) hk q' hq').1
  unfold zpOrder at hp
  have tail : ∀ q2 : zQ, zqk N q2 → post none n (zm_h (zrd σ (zpIf c v pl fw lw o (zpTimes c v pl q2))) ρ) → zq_At l G (zq_rm D 0 0) mX12_readOrder (zq_QF G post 0 0) 71 [(0, .ref 70)] [] n (zm_h (zrd σ q2) ρ) 0 0 := by
    intro q2 hq2 hp
    unfold zpTimes at hp
    refine at_aload_n dX12_readOrder_71 rfl ?_
    refine at_bipush dX12_readOrder_72 (v := nI 27) (by decide) ?_
    refine at_callV1 (d := D - 1) dX12_readOrder_74 mv_X12_207 rfl (Nat.le_of_ble_eq_true rfl) (zq_r0 (by omega) (by omega) (by omega)) ?_
    refine zm_takes0 (by omega) (by decide) hT hq2.1 hq2.2.1 ?_
    refine at_if_eqB (tgt := 87) dX12_readOrder_77 (by decide) (fun c77 => ?_) (fun c77 => ?_)
    · rw [if_neg (by rw [c77]; decide)] at hp ⊢
      have hq3 := hq2
      unfold zpIf at hp
      refine at_aload_n dX12_readOrder_87 rfl ?_
      refine at_iconst dX12_readOrder_88 (v := nI 4) (by decide) ?_
      refine at_callV1 (d := D - 1) dX12_readOrder_89 mv_X12_207 rfl (Nat.le_of_ble_eq_true rfl) (zq_r0 (by omega) (by omega) (by omega)) ?_
      refine zm_takes0 (by omega) (by decide) hT hq3.1 hq3.2.1 ?_
      refine at_if_eqB (tgt := 100) dX12_readOrder_92 (by decide) (fun c92 => ?_) (fun c92 => ?_)
      · rw [if_neg (by rw [c92]; decide)] at hp ⊢
        refine at_vret dX12_readOrder_100 rfl (by omega) (by omega) ?_
        exact hp
      · rw [if_pos c92] at hp ⊢
        have hq4 := zpn_k hT hq3 (by decide) c92
        refine at_aload_n dX12_readOrder_95 rfl ?_
        refine at_iconst dX12_readOrder_96 (v := nI 0) (by decide) ?_
        refine at_callV1 (d := D - 1) dX12_readOrder_97 mv_X12_222 rfl (Nat.le_of_ble_eq_true rfl) (zq_r0 (by omega) (by omega) (by omega)) ?_
        refine zm_readTest hT hW 8 (D - 1) _ _ (by decide) (by omega) hq4 ?_
        refine at_vret dX12_readOrder_100 rfl (by omega) (by omega) ?_
        exact hp
    · rw [if_pos c77] at hp ⊢
      have hqn := zpn_k hT hq2 (by decide) c77
      have hq3 := (zgd_num (v := v) hN hT.2.1 hpl (lo := 1) (hi := 20) (zpn q2) hqn).1
      refine at_aload_n dX12_readOrder_80 rfl ?_
      refine at_iconst dX12_readOrder_81 (v := nI 1) (by decide) ?_
      refine at_bipush dX12_readOrder_82 (v := nI 20) (by decide) ?_
      refine at_callV2 (d := D - 1) dX12_readOrder_84 mv_X12_225 rfl (Nat.le_of_ble_eq_true rfl) (zq_r0 (by omega) (by omega) (by omega)) ?_
      refine zm_mustNumber (by omega) hT hqn (by decide) (by decide) ?_
      unfold zpIf at hp
      refine at_aload_n dX12_readOrder_87 rfl ?_
      refine at_iconst dX12_readOrder_88 (v := nI 4) (by decide) ?_
      refine at_callV1 (d := D - 1) dX12_readOrder_89 mv_X12_207 rfl (Nat.le_of_ble_eq_true rfl) (zq_r0 (by omega) (by omega) (by omega)) ?_
      refine zm_takes0 (by omega) (by decide) hT hq3.1 hq3.2.1 ?_
      refine at_if_eqB (tgt := 100) dX12_readOrder_92 (by decide) (fun c92 => ?_) (fun c92 => ?_)
      · rw [if_neg (by rw [c92]; decide)] at hp ⊢
        refine at_vret dX12_readOrder_100 rfl (by omega) (by omega) ?_
        exact hp
      · rw [if_pos c92] at hp ⊢
        have hq4 := zpn_k hT hq3 (by decide) c92
        refine at_aload_n dX12_readOrder_95 rfl ?_
        refine at_iconst dX12_readOrder_96 (v := nI 0) (by decide) ?_
        refine at_callV1 (d := D - 1) dX12_readOrder_97 mv_X12_222 rfl (Nat.le_of_ble_eq_true rfl) (zq_r0 (by omega) (by omega) (by omega)) ?_
        refine zm_readTest hT hW 8 (D - 1) _ _ (by decide) (by omega) hq4 ?_
        refine at_vret dX12_readOrder_100 rfl (by omega) (by omega) ?_
        exact hp
  refine zq_enter (cc := cX12_readOrder) (nL := 1) (ret := none) cw_X12_readOrder (by decide) rfl (Nat.le_of_ble_eq_true rfl) ?_
  refine at_aload_n dX12_readOrder_0 rfl ?_
  refine at_bipush dX12_readOrder_1 (v := nI 22) (by decide) ?_
  refine at_callV1 (d := D - 1) dX12_readOrder_3 mv_X12_207 rfl (Nat.le_of_ble_eq_true rfl) (zq_r0 (by omega) (by omega) (by omega)) ?_
  refine zm_takes0 (by omega) (by decide) hT hq.1 hq.2.1 ?_
  refine at_if_eqB (tgt := 39) dX12_readOrder_6 (by decide) (fun c6 => ?_) (fun c6 => ?_)
  · rw [if_neg (by rw [c6]; decide)] at hp ⊢
    refine at_aload_n dX12_readOrder_39 rfl ?_
    refine at_bipush dX12_readOrder_40 (v := nI 24) (by decide) ?_
    refine at_callV1 (d := D - 1) dX12_readOrder_42 mv_X12_207 rfl (Nat.le_of_ble_eq_true rfl) (zq_r0 (by omega) (by omega) (by omega)) ?_
    refine zm_takes0 (by omega) (by decide) hT hq.1 hq.2.1 ?_
    refine at_if_neB (tgt := 57) dX12_readOrder_45 (by decide) (fun c45 => ?_) (fun c45 => ?_)
    · rw [if_pos c45] at hp ⊢
      have hqn := zpn_k hT hq (by decide) c45
      have k5 := gS (zpn q) hqn
      refine at_aload_n dX12_readOrder_57 rfl ?_
      refine at_iconst dX12_readOrder_58 (v := nI 0) (by decide) ?_
      refine at_callV1 (d := D - 1) dX12_readOrder_59 mv_X12_216 rfl (Nat.le_of_ble_eq_true rfl) (zq_r0 (by omega) (by omega) (by omega)) ?_
      refine zm_readSum hT hW 8 (D - 1) (zpn q) _ (by decide) (by omega) hqn ?_
      refine at_goto (tgt := 71) dX12_readOrder_62 (by decide) ?_
      exact tail _ k5 hp
    · rw [if_neg (by rw [c45]; decide)] at hp ⊢
      refine at_aload_n dX12_readOrder_48 rfl ?_
      refine at_bipush dX12_readOrder_49 (v := nI 25) (by decide) ?_
      refine at_callV1 (d := D - 1) dX12_readOrder_51 mv_X12_207 rfl (Nat.le_of_ble_eq_true rfl) (zq_r0 (by omega) (by omega) (by omega)) ?_
      refine zm_takes0 (by omega) (by decide) hT hq.1 hq.2.1 ?_
      refine at_if_eqB (tgt := 65) dX12_readOrder_54 (by decide) (fun c54 => ?_) (fun c54 => ?_)
      · rw [if_neg (by rw [c54]; decide)] at hp ⊢
        have k5 := gM 26 (by decide) q hq
        refine at_aload_n dX12_readOrder_65 rfl ?_
        refine at_bipush dX12_readOrder_66 (v := nI 26) (by decide) ?_
        refine at_callV1 (d := D - 1) dX12_readOrder_68 mv_X12_219 rfl (Nat.le_of_ble_eq_true rfl) (zq_r0 (by omega) (by omega) (by omega)) ?_
        refine zm_must (by omega) (by decide) hT hq.1 hq.2.1 ?_
        exact tail _ k5 hp
      · rw [if_pos c54] at hp ⊢
        have hqn := zpn_k hT hq (by decide) c54
        have k5 := gS (zpn q) hqn
        refine at_aload_n dX12_readOrder_57 rfl ?_
        refine at_iconst dX12_readOrder_58 (v := nI 0) (by decide) ?_
        refine at_callV1 (d := D - 1) dX12_readOrder_59 mv_X12_216 rfl (Nat.le_of_ble_eq_true rfl) (zq_r0 (by omega) (by omega) (by omega)) ?_
        refine zm_readSum hT hW 8 (D - 1) (zpn q) _ (by decide) (by omega) hqn ?_
        refine at_goto (tgt := 71) dX12_readOrder_62 (by decide) ?_
        exact tail _ k5 hp
  · rw [if_pos c6] at hp ⊢
    have hqn := zpn_k hT hq (by decide) c6
    have k1 := gS (zpn q) hqn
    have k2 := gM 11 (by decide) _ k1
    have k3 := gS _ k2
    have k4 := gM 23 (by decide) _ k3
    have k5 := gS _ k4
    refine at_aload_n dX12_readOrder_9 rfl ?_
    refine at_iconst dX12_readOrder_10 (v := nI 0) (by decide) ?_
    refine at_callV1 (d := D - 1) dX12_readOrder_11 mv_X12_216 rfl (Nat.le_of_ble_eq_true rfl) (zq_r0 (by omega) (by omega) (by omega)) ?_
    refine zm_readSum hT hW 8 (D - 1) (zpn q) _ (by decide) (by omega) hqn ?_
    refine at_aload_n dX12_readOrder_14 rfl ?_
    refine at_bipush dX12_readOrder_15 (v := nI 11) (by decide) ?_
    refine at_callV1 (d := D - 1) dX12_readOrder_17 mv_X12_219 rfl (Nat.le_of_ble_eq_true rfl) (zq_r0 (by omega) (by omega) (by omega)) ?_
    refine zm_must (by omega) (by decide) hT k1.1 k1.2.1 ?_
    refine at_aload_n dX12_readOrder_20 rfl ?_
    refine at_iconst dX12_readOrder_21 (v := nI 0) (by decide) ?_
    refine at_callV1 (d := D - 1) dX12_readOrder_22 mv_X12_216 rfl (Nat.le_of_ble_eq_true rfl) (zq_r0 (by omega) (by omega) (by omega)) ?_
    refine zm_readSum hT hW 8 (D - 1) _ _ (by decide) (by omega) k2 ?_
    refine at_aload_n dX12_readOrder_25 rfl ?_
    refine at_bipush dX12_readOrder_26 (v := nI 23) (by decide) ?_
    refine at_callV1 (d := D - 1) dX12_readOrder_28 mv_X12_219 rfl (Nat.le_of_ble_eq_true rfl) (zq_r0 (by omega) (by omega) (by omega)) ?_
    refine zm_must (by omega) (by decide) hT k3.1 k3.2.1 ?_
    refine at_aload_n dX12_readOrder_31 rfl ?_
    refine at_iconst dX12_readOrder_32 (v := nI 0) (by decide) ?_
    refine at_callV1 (d := D - 1) dX12_readOrder_33 mv_X12_216 rfl (Nat.le_of_ble_eq_true rfl) (zq_r0 (by omega) (by omega) (by omega)) ?_
    refine zm_readSum hT hW 8 (D - 1) _ _ (by decide) (by omega) k4 ?_
    refine at_goto (tgt := 71) dX12_readOrder_36 (by decide) ?_
    exact tail _ k5 hp
theorem zm_readOne {D : Nat} {q : zQ} {post : Option Value → Nat → (Nat → zq_E) → Prop} (hD : 37 ≤ D) (hT : zTk σ N c v pl) (hW : zWd σ fw lw o) (hq : zqk N q) (hp : post none n (zm_h (zrd σ (zpOne c v pl fw lw o q)) ρ)) : zq_Runs l G D 0 0 yX12_readOne [.ref 70] n (zm_h (zrd σ q) ρ) post := by
  unfold zpOne at hp
  refine zq_enter (cc := cX12_readOne) (nL := 1) (ret := none) cw_X12_readOne (by decide) rfl (Nat.le_of_ble_eq_true rfl) ?_
  refine at_aload_n dX12_readOne_0 rfl ?_
  refine at_get dX12_readOne_1 fl_X12_229 rfl rfl ?_
  rw [(zrd_o σ q (by decide) (by decide) (by decide)).trans hW.2.2.1]
  refine at_if_eqB (tgt := 14) dX12_readOne_4 (by decide) (fun c4 => ?_) (fun c4 => ?_)
  · rw [if_neg (by rw [c4]; decide)] at hp
    refine at_aload_n dX12_readOne_14 rfl ?_
    refine at_callV0 (d := D - 1) dX12_readOne_15 mv_X12_236 rfl (Nat.le_of_ble_eq_true rfl) (zq_r0 (by omega) (by omega) (by omega)) ?_
    refine zm_readClause (by omega) hT hW hq ?_
    refine at_vret dX12_readOne_18 rfl (by omega) (by omega) ?_
    exact hp
  · rw [if_pos c4] at hp
    refine at_aload_n dX12_readOne_7 rfl ?_
    refine at_callV0 (d := D - 1) dX12_readOne_8 mv_X12_233 rfl (Nat.le_of_ble_eq_true rfl) (zq_r0 (by omega) (by omega) (by omega)) ?_
    refine zm_readOrder (by omega) hT hW hq ?_
    refine at_goto (tgt := 18) dX12_readOne_11 (by decide) ?_
    refine at_vret dX12_readOne_18 rfl (by omega) (by omega) ?_
    exact hp
/-- the clauses behind the first: k left of the eleven that may still come, f the fuel -/
def zpCs (c v pl : Nat → Nat) (fw lw : Nat) (o : Bool) : Nat → Nat → zQ → zQ
  | 0, _, q => q
  | f + 1, i, q => if zpt c q 159 = true then zpCs c v pl fw lw o f (i + 1) (if (if i = 12 then zpf pl (zpn q) else zpn q).2.2 = 0 then zpOne c v pl fw lw o (if i = 12 then zpf pl (zpn q) else zpn q) else (if i = 12 then zpf pl (zpn q) else zpn q)) else q
/-- a whole text -/
def zpAll (c v pl : Nat → Nat) (fw lw : Nat) (o : Bool) (N : Nat) : zQ := if (zpCs c v pl fw lw o 402 1 (zpOne c v pl fw lw o (0, 0, 0))).2.2 = 0 ∧ (zpCs c v pl fw lw o 402 1 (zpOne c v pl fw lw o (0, 0, 0))).1 < N then zpf pl (zpCs c v pl fw lw o 402 1 (zpOne c v pl fw lw o (0, 0, 0))) else zpCs c v pl fw lw o 402 1 (zpOne c v pl fw lw o (0, 0, 0))
theorem zTk_x (hT : zTk σ N c v pl) {σ' : zm_S} (h : σ'.2.1 = σ.2.1) : zTk σ' N c v pl := by
  unfold zTk
  rw [h]
  exact hT
theorem zm_reads_loop {D : Nat} {post : Option Value → Nat → (Nat → zq_E) → Prop} (hD : 38 ≤ D) (hT : zTk σ N c v pl) (hW : zWd σ fw lw o) (Q : zQ) (hk : ∀ x : Int32, zqk N Q → zq_At l G (zq_rm D 0 0) mX12_reads (zq_QF G post 0 0) 73 [(0, .ref 70)] [] n (zm_h (zrd σ Q) ρ) 0 0) : ∀ (f i : Nat) (q : zQ), zqk N q → N - q.1 < f → i + f < 1000 → zpCs c v pl fw lw o f i q = Q → zq_At l G (zq_rm D 0 0) mX12_reads (zq_QF G post 0 0) 34 [(0, .ref 70), (1, .int (nI i))] [] n (zm_h (zrd σ q) ρ) 0 0 := by
  have hN := hT.1
  have hpl := zTk_pl hT
  intro f
  induction f with
  | zero => intro i q hq hf; omega
  | succ f ih =>
    intro i q hq hf hi hQ
    unfold zpCs at hQ
    refine at_aload_n dX12_reads_34 rfl ?_
    refine at_bipush dX12_reads_35 (v := nI 59) (by decide) ?_
    refine at_callS1 (d := D - 1) dX12_reads_37 ms_X12_245 (Nat.le_of_ble_eq_true rfl) (zq_r0 (by omega) (by omega) (by omega)) ?_
    refine zm_sign ?_
    refine at_callV1 (d := D - 1) dX12_reads_40 mv_X12_207 rfl (Nat.le_of_ble_eq_true rfl) (zq_r0 (by omega) (by omega) (by omega)) ?_
    refine zm_takes0 (by omega) (by decide) hT hq.1 hq.2.1 ?_
    refine at_if_eqB (tgt := 73) dX12_reads_43 (by decide) (fun c43 => ?_) (fun c43 => ?_)
    · rw [if_neg (by rw [c43]; decide)] at hQ ⊢
      subst hQ
      exact at_lv [0] (hk 0 hq)
    · rw [if_pos c43] at hQ ⊢
      have hqn := zpn_k hT hq (by decide) c43
      have hn1 : (zpn q).1 = q.1 + 1 := rfl
      have g1 := zgd_f hpl (zpn q) hqn
      have hq0 : (zpn q).2.2 = 0 := (zpt_lt hT.2.1 hq.1 (by decide) c43).2
      have hlt : q.1 < N := (zpt_lt hT.2.1 hq.1 (by decide) c43).1
      refine at_iload_n dX12_reads_46 rfl ?_
      refine at_bipush dX12_reads_47 (v := nI 12) (by decide) ?_
      refine at_neN (tgt := 56) dX12_reads_49 (by decide) (by omega) (by omega) (fun c49 => ?_) (fun c49 => ?_)
      · rw [if_neg c49, if_pos hq0] at hQ
        have g2 := zgd_one (v := v) (lw := lw) (o := o) hN hT.2.1 hpl hW.2.2.2.1 (zpn q) hqn
        have hn := ih (i + 1) _ g2.1 (by have := g2.2.1; omega) (by omega) hQ
        refine at_aload_n dX12_reads_56 rfl ?_
        refine at_callV0 (d := D - 1) dX12_reads_57 mv_X12_200 rfl (Nat.le_of_ble_eq_true rfl) (zq_r0 (by omega) (by omega) (by omega)) ?_
        refine zm_fine hqn.2.1 ?_
        refine at_if_eqB (tgt := 67) dX12_reads_60 (by decide) (fun c60 => ?_) (fun c60 => ?_)
        · exact absurd hq0 (of_decide_eq_false c60)
        · refine at_aload_n dX12_reads_63 rfl ?_
          refine at_callV0 (d := D - 1) dX12_reads_64 mv_X12_267 rfl (Nat.le_of_ble_eq_true rfl) (zq_r0 (by omega) (by omega) (by omega)) ?_
          refine zm_readOne (by omega) hT hW hqn ?_
          refine at_iincN dX12_reads_67 rfl (by decide) ?_
          refine at_goto (tgt := 34) dX12_reads_70 (by decide) ?_
          exact hn
      · rw [if_pos c49] at hQ
        have hb : (zpf pl (zpn q)).2.2 ≠ 0 := by unfold zpf; rw [if_pos hq0]; exact Nat.succ_ne_zero _
        rw [if_neg hb] at hQ
        have hn := ih (i + 1) _ g1.1 (by have := g1.2.1; omega) (by omega) hQ
        refine at_aload_n dX12_reads_52 rfl ?_
        refine at_callV0 (d := D - 1) dX12_reads_53 mv_X12_210 rfl (Nat.le_of_ble_eq_true rfl) (zq_r0 (by omega) (by omega) (by omega)) ?_
        refine zm_faults (by omega) hT hqn.1 hqn.2.1 ?_
        refine at_aload_n dX12_reads_56 rfl ?_
        refine at_callV0 (d := D - 1) dX12_reads_57 mv_X12_200 rfl (Nat.le_of_ble_eq_true rfl) (zq_r0 (by omega) (by omega) (by omega)) ?_
        refine zm_fine g1.1.2.1 ?_
        refine at_if_eqB (tgt := 67) dX12_reads_60 (by decide) (fun c60 => ?_) (fun c60 => ?_)
        · refine at_iincN dX12_reads_67 rfl (by decide) ?_
          refine at_goto (tgt := 34) dX12_reads_70 (by decide) ?_
          exact hn
        · exact absurd (of_decide_eq_true c60) hb
end ZL15

