/-! ===== the class: an order, as often as it says ===== -/
theorem zbind3 {e1 e2 e3 : Option Int} {f : Int → Int → Int → Option zRS} {S : zRS} (h : (e1.bind fun a => e2.bind fun b => e3.bind fun d => f a b d) = some S) : ∃ a b d, f a b d = some S := by
  cases e1 with
  | none => cases h
  | some a =>
    cases e2 with
    | none => cases h
    | some b =>
      cases e3 with
      | none => cases h
      | some d => exact ⟨a, b, d, h⟩
section ZK29
variable {l : Launch} {G : zq_G} {D n : Nat} {κ κ' : zl_S} {σ : zm_S} {ρ : Nat → zq_E} {m hn t : Nat} {Ls : Nat → List zLC} {post : Option Value → Nat → (Nat → zq_E) → Prop} {S : zRS} {Lo : Option (List zLC)}
theorem zc_rc_loop {tx cl cp sz N cr d0 : Nat} {cd : Nat → Nat × Nat} {F : Nat → Int32} {C : zOC} {K0 : Nat → Int32} (hD : 12 ≤ D) (hT : zTxc (zm_h σ ρ) tx cl cp sz) (hcp : zCp (zm_h σ ρ) cp N cd) (hcr : 70 ≤ cr ∧ zm_h σ ρ cr = zce F) (hO : zOcl cd N F C) (hd0 : d0 + 20 ≤ 100000) (R : Option zRS)
    (hno : ∀ κ', R = none → zOf κ' κ → post (some (.int (nI 0))) n (zl_h κ' (zm_h σ ρ)))
    (hok : ∀ κ' S', R = some S' → zOf κ' κ → zRC κ' ρ n m hn t Ls S' → (∀ q, 20 ≤ q → S'.1 q = K0 q) → S'.2.2.1 ≤ d0 + 20 → post (some (.int (nI 1))) n (zl_h κ' (zm_h σ ρ))) :
    ∀ f k S κ', k + f = C.2.2.1 → zRC κ' ρ n m hn t Ls S → zLoK S.1 Ls = Lo → (∀ q, 20 ≤ q → S.1 q = K0 q) → zOf κ' κ → S.2.2.1 ≤ d0 + k → ztimes m Lo C f S = R → zq_At l G (zq_rm D 0 0) mX11_runClause (zq_QF G post 0 0) 8 [(0, .ref 8), (1, .ref tx), (2, .ref cr), (3, .int (nI k))] [] n (zl_h κ' (zm_h σ ρ)) 0 0 := by
  have hF : ∀ κ', zl_h κ' (zm_h σ ρ) cr = .inr (1, [.int (F 0), .int (F 1), .int (F 2), .int (F 3), .int (F 4), .int (F 5)]) := fun κ' => (zl_hi _ _ (Or.inr hcr.1)).trans hcr.2
  have hF1 := hO.2.2.1.2.2
  have hC20 := hO.2.2.1.2.1
  have hN8 := hcp
  obtain ⟨code0, -, -, hN800, -⟩ := hN8
  intro f
  induction f with
  | zero =>
    intro k S κ' hk hR hL hq hof hd hQ
    have hp := hok κ' S hQ.symm hof hR hq (by omega)
    refine at_iload_n dX11_runClause_8 rfl ?_
    refine at_aload_n dX11_runClause_9 rfl ?_
    refine at_get dX11_runClause_10 fl_X11_352 (hF _) rfl ?_
    rw [hF1]
    refine at_geN (tgt := 71) dX11_runClause_13 (by decide) (by omega) (by omega) (fun c13 => ?_) (fun c13 => ?_)
    · refine at_iconst dX11_runClause_71 (v := nI 1) (by decide) ?_
      refine at_zret dX11_runClause_72 rfl (by omega) (by omega) (by first | exact Or.inl rfl | exact Or.inr rfl | assumption) ?_
      exact hp
    · omega
  | succ f ih =>
    intro k S κ' hk hR hL hq hof hd hQ
    obtain ⟨r1, r2, r3, r4, r5, r6⟩ := hR
    have hQ : (zone m Lo C S).bind (ztimes m Lo C f) = R := hQ
    unfold zone at hQ
    refine at_iload_n dX11_runClause_8 rfl ?_
    refine at_aload_n dX11_runClause_9 rfl ?_
    refine at_get dX11_runClause_10 fl_X11_352 (hF _) rfl ?_
    rw [hF1]
    refine at_geN (tgt := 71) dX11_runClause_13 (by decide) (by omega) (by omega) (fun c13 => ?_) (fun c13 => ?_)
    · omega
    · refine at_aload_n dX11_runClause_16 rfl ?_
      refine at_callV0 (d := D - 1) dX11_runClause_17 mv_X11_357 (zl_o rfl) (Nat.le_of_ble_eq_true rfl) (zq_r0 (by omega) (by omega) (by omega)) ?_
      refine zc_fillOrderWords (by omega) r1 (fun g hg => ?_)
      have hE := zEv_o r1.1 r2 r3 r4 r5 r6 hg
      have q1 : g 1 = nI S.2.2.1 := hg.2.1.trans r2
      have q2 : g 2 = zI S.2.2.2 := hg.2.2.1.trans r3
      have hE8 : zEv true (zovW m S) ((zl_sA κ' 68 g).2.1 68) := by rw [zlA_s]; exact hE
      have hbT : zBe (zovW m S) C.2.2.2 := by
        rcases hO.2.2.2.2.2.1 with ⟨-, e⟩ | e
        · rw [e]
          intro x hx
          have hx : some (1 : Int) = some x := hx
          cases hx; omega
        · exact (zHas_v hN800 e hE).1
      refine at_aload_n dX11_runClause_20 rfl ?_
      refine at_get dX11_runClause_21 fl_X11_54 (zl_o rfl) rfl ?_
      refine at_get dX11_runClause_24 fl_X11_360 (zl_o rfl) rfl ?_
      refine at_aload_n dX11_runClause_27 rfl ?_
      refine at_aload_n dX11_runClause_28 rfl ?_
      refine at_get dX11_runClause_29 fl_X11_364 (hF _) rfl ?_
      refine at_aload_n dX11_runClause_32 rfl ?_
      refine at_get dX11_runClause_33 fl_X11_79 (zl_o rfl) rfl ?_
      refine at_iconst dX11_runClause_36 (v := nI 1) (by decide) ?_
      refine at_callV4 (d := D - 1) dX11_runClause_37 mv_X11_367 (zl_o rfl) (Nat.le_of_ble_eq_true rfl) (zq_r0 (by omega) (by omega) (by omega)) ?_
      refine zc_reckon (o := true) (W := zovW m S) (by omega) hT hcp rfl (by decide) rfl hE8 (C.2.2.2 (zovW m S)) (zrI (C.2.2.2 (zovW m S))) ?_ (fun a => ?_)
      · rcases hO.2.2.2.2.2.1 with ⟨e1, e⟩ | e
        · exact Or.inl ⟨e1, by rw [e]; rfl⟩
        · exact Or.inr ⟨_, e, rfl, rfl⟩
      have hO4 : zOf (zl_sA (zl_sA κ' 68 g) 54 a) κ := zOf_4 (zOf_8 hof)
      have hC4 : zCI (zl_sA (zl_sA κ' 68 g) 54 a) ρ n S.1 m hn t Ls S.2.1 := zCI_4 (zCI_8 r1)
      have e68 : (zl_sA (zl_sA κ' 68 g) 54 a).2.1 68 = g := (zlA_o _ (by decide) _).trans (zlA_s _ _ _)
      generalize hκ4 : zl_sA (zl_sA κ' 68 g) 54 a = κ4 at *
      have w1 : κ4.2.1 68 1 = nI S.2.2.1 := by rw [e68]; exact q1
      have w2 : κ4.2.1 68 2 = zI S.2.2.2 := by rw [e68]; exact q2
      refine at_iconst dX11_runClause_40 (v := nI 1) (by decide) ?_
      refine at_icmp_ne (tgt := 65) dX11_runClause_41 (by decide) (fun c41 => ?_) (fun c41 => ?_)
      · have hne : ¬ C.2.2.2 (zovW m S) = some 1 := fun e => c41 (by rw [e]; rfl)
        rw [if_neg hne] at hQ
        have hgo := ih (k + 1) S κ4 (by omega) ⟨hC4, w1, w2, r4, r5, r6⟩ hL hq hO4 (by omega) hQ
        refine at_iincN dX11_runClause_65 rfl (by decide) ?_
        refine at_goto (tgt := 8) dX11_runClause_68 (by decide) ?_
        exact at_lv [0, 1, 2, 3] hgo
      · rw [if_pos (zrI_1 hbT c41)] at hQ
        refine at_aload_n dX11_runClause_44 rfl ?_
        refine at_aload_n dX11_runClause_45 rfl ?_
        refine at_aload_n dX11_runClause_46 rfl ?_
        refine at_callV2 (d := D - 1) dX11_runClause_47 mv_X11_373 (zl_o rfl) (Nat.le_of_ble_eq_true rfl) (zq_r0 (by omega) (by omega) (by omega)) ?_
        refine zc_runDeed (by omega) hC4 w1 w2 hT hcp hcr hO (by rw [e68]; exact hE) (fun κ5 v e s1 s2 => ?_) (fun κ5 v S' e s1 s2 s3 s4 s5 s6 s7 s8 => ?_) r5 r6
        · rw [hL] at e
          have hp := hno κ5 (by rw [← hQ, e]; rfl) (zOf_t s1 hO4)
          refine at_if_ge (tgt := 55) dX11_runClause_50 (by decide) (fun c50 => ?_) (fun c50 => ?_)
          · exact absurd c50 (by rw [Int32.not_le]; exact s2)
          · refine at_iconst dX11_runClause_53 (v := nI 0) (by decide) ?_
            refine at_zret dX11_runClause_54 rfl (by omega) (by omega) (by first | exact Or.inl rfl | exact Or.inr rfl | assumption) ?_
            exact hp
        · rw [hL] at e
          rw [e] at hQ
          obtain ⟨av, bv, dv, e3⟩ := zbind3 e
          have hKI : zKI S.1 m Lo := hL ▸ zKW_KI r1.1
          have z3 := zone3_ok hKI ⟨r5, r6⟩ e3
          have hL' : zLoK S'.1 Ls = Lo := by rw [← hL]; unfold zLoK; rw [z3.2.2 76 (by decide)]
          have hgo := ih (k + 1) S' (zl_sA κ5 68 (upd (κ5.2.1 68) 1 (nI (S.2.2.1 + 1)))) (by omega) ⟨zCI_8 s2, by rw [zlA_s, upd_s, s5], by rw [zlA_s, upd_o _ (by decide)]; exact s4, by omega, s6, s7⟩ hL' (fun q h20 => (z3.2.2 q h20).trans (hq q h20)) (zOf_8 (zOf_t s1 hO4)) (by omega) hQ
          refine at_if_ge (tgt := 55) dX11_runClause_50 (by decide) (fun c50 => ?_) (fun c50 => ?_)
          · refine at_aload_n dX11_runClause_55 rfl ?_
            refine at_get dX11_runClause_56 fl_X11_79 (zl_o rfl) rfl ?_
            refine at_iconst dX11_runClause_59 (v := nI 1) (by decide) ?_
            refine at_dup2 dX11_runClause_60 rfl rfl ?_
            refine at_lald2 (a := 68) dX11_runClause_61 rfl rfl (by show _ < 19; omega) (by decide) ?_
            rw [s3]
            refine at_iconst dX11_runClause_62 (v := nI 1) (by decide) ?_
            refine at_iaddN dX11_runClause_63 ?_
            skip
            refine at_last2 (a := 68) dX11_runClause_64 rfl rfl (by show _ < 19; omega) (by decide) ?_
            refine at_iincN dX11_runClause_65 rfl (by decide) ?_
            refine at_goto (tgt := 8) dX11_runClause_68 (by decide) ?_
            exact at_lv [0, 1, 2, 3] hgo
          · exact absurd s8 c50
theorem zc_runClause {tx cl cp sz N cr : Nat} {cd : Nat → Nat × Nat} {F : Nat → Int32} {C : zOC} (hD : 14 ≤ D) (hT : zTxc (zm_h σ ρ) tx cl cp sz) (hcp : zCp (zm_h σ ρ) cp N cd) (hcr : 70 ≤ cr ∧ zm_h σ ρ cr = zce F) (hO : zOcl cd N F C) (hd : S.2.2.1 + 20 ≤ 100000) (hR : zRC κ ρ n m hn t Ls S) (hL : zLoK S.1 Ls = Lo)
    (hno : ∀ κ', ztimes m Lo C C.2.2.1 S = none → zOf κ' κ → post (some (.int (nI 0))) n (zl_h κ' (zm_h σ ρ)))
    (hok : ∀ κ' S', ztimes m Lo C C.2.2.1 S = some S' → zOf κ' κ → zRC κ' ρ n m hn t Ls S' → (∀ q, 20 ≤ q → S'.1 q = S.1 q) → S'.2.2.1 ≤ S.2.2.1 + 20 → post (some (.int (nI 1))) n (zl_h κ' (zm_h σ ρ))) : zq_Runs l G D 0 0 yX11_runClause [.ref 8, .ref tx, .ref cr] n (zl_h κ (zm_h σ ρ)) post := by
  refine zq_enter (cc := cX11_runClause) (nL := 4) (ret := (some .boolean)) cw_X11_runClause (by decide) rfl (Nat.le_of_ble_eq_true rfl) ?_
  refine at_aload_n dX11_runClause_0 rfl ?_
  refine at_ifnonnull (tgt := 6) dX11_runClause_1 (by decide) ?_
  refine at_iconst dX11_runClause_6 (v := nI 0) (by decide) ?_
  refine at_istore_n dX11_runClause_7 rfl (by decide) ?_
  exact zc_rc_loop (by omega) hT hcp hcr hO hd _ hno hok _ 0 S κ (Nat.zero_add _) hR hL (fun _ _ => rfl) (zOf_r κ) (by omega) rfl
end ZK29

