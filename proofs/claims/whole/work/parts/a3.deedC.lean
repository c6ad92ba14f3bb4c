/-! ===== the class: an order, once ===== -/
theorem zswO_le (rk x w : Nat → Nat) {m : Nat} : ∀ k a c, zswO rk x w m k a c ≤ c + k * m := by
  intro k
  induction k with
  | zero => intro a c; show c ≤ _; omega
  | succ k ih =>
    intro a c
    have h1 := zswI_le rk x w a (m - (a + 1)) (a + 1) c
    have h2 := ih (a + 1) (zswI rk x w a (m - (a + 1)) (a + 1) c)
    rw [Nat.succ_mul]
    show zswO rk x w m k (a + 1) _ ≤ _
    omega
section ZK28
variable {l : Launch} {G : zq_G} {D n n' b : Nat} {κ κ' : zl_S} {σ τ : zm_S} {ρ ρ' : Nat → zq_E} {K K' : Nat → Int32} {m hn t z : Nat} {Ls : Nat → List zLC} {Λ Λ' : List Nat} {post : Option Value → Nat → (Nat → zq_E) → Prop} {S : zRS}
theorem zEv_o {g : Nat → Int32} (hK : zKW S.1 m hn t Ls) (h1 : κ.2.1 68 1 = nI S.2.2.1) (h2 : κ.2.1 68 2 = zI S.2.2.2) (b1 : S.2.2.1 ≤ 100000) (b2 : -1 ≤ S.2.2.2) (b3 : S.2.2.2 ≤ 99) (hg : zWo κ S.1 m 7 g) : zEv true (zovW m S) g := by
  have hm7 := hK.1.2.1
  obtain ⟨a0, a1, a2, a3, a4, a5⟩ := hg
  obtain ⟨d, d9, ed⟩ := hK.2.2.2.1
  intro c k hv
  unfold zv9
  rcases hv with ⟨h, _⟩ | ⟨-, ⟨c1, c2, rfl⟩ | ⟨c1, k6⟩⟩
  · cases h
  · rcases (show c = 15 ∨ c = 16 ∨ c = 17 ∨ c = 18 ∨ c = 19 by omega) with rfl | rfl | rfl | rfl | rfl
    · show (S.1 19).toInt = (g 0).toInt ∧ -1000000000 ≤ (S.1 19).toInt ∧ (S.1 19).toInt ≤ 1000000000
      rw [a0, ed, nI_toInt (by omega)]
      omega
    · show (S.2.2.1 : Int) = (g 1).toInt ∧ -1000000000 ≤ (S.2.2.1 : Int) ∧ (S.2.2.1 : Int) ≤ 1000000000
      rw [a1, h1, nI_toInt (by omega)]
      omega
    · show S.2.2.2 = (g 2).toInt ∧ -1000000000 ≤ S.2.2.2 ∧ S.2.2.2 ≤ 1000000000
      rw [a2, h2, zI_toInt (by omega) (by omega)]
      omega
    · show (zfind (zbk (zrkK S.1) (zX1 S.1) (zW1 S.1)) (-1) (m - 1) 0 0).toInt = (g 3).toInt ∧ -1000000000 ≤ (zfind (zbk (zrkK S.1) (zX1 S.1) (zW1 S.1)) (-1) (m - 1) 0 0).toInt ∧ (zfind (zbk (zrkK S.1) (zX1 S.1) (zW1 S.1)) (-1) (m - 1) 0 0).toInt ≤ 1000000000
      obtain ⟨q, q7, e, -⟩ := zrt_cnt (zrkK S.1) (zX1 S.1) (zW1 S.1) hm7
      rw [a3, e, nI_toInt (by omega)]
      omega
    · show (zswO (zrkK S.1) (zX1 S.1) (zW1 S.1) m m 0 0 : Int) = (g 4).toInt ∧ -1000000000 ≤ (zswO (zrkK S.1) (zX1 S.1) (zW1 S.1) m m 0 0 : Int) ∧ (zswO (zrkK S.1) (zX1 S.1) (zW1 S.1) m m 0 0 : Int) ≤ 1000000000
      have hle := zswO_le (zrkK S.1) (zX1 S.1) (zW1 S.1) (m := m) m 0 0
      have hmm : m * m ≤ 7 * 7 := Nat.mul_le_mul hm7 hm7
      rw [a4, nI_toInt (by omega)]
      omega
  · rcases c1 with rfl | rfl
    · show (if k < m then (zW1 S.1 k : Int) else -1) = (g (5 + k)).toInt ∧ -1000000000 ≤ (if k < m then (zW1 S.1 k : Int) else -1) ∧ (if k < m then (zW1 S.1 k : Int) else -1) ≤ 1000000000
      rw [(a5 k (by omega)).1]
      by_cases e : k < m
      · have := (hK.1.2.2.2 k e).2
        rw [if_pos e, if_pos e, nI_toInt (by omega)]
        omega
      · rw [if_neg e, if_neg e]
        decide
    · show (if k < m then (zX1 S.1 k : Int) else -1) = (g (12 + k)).toInt ∧ -1000000000 ≤ (if k < m then (zX1 S.1 k : Int) else -1) ∧ (if k < m then (zX1 S.1 k : Int) else -1) ≤ 1000000000
      rw [(a5 k (by omega)).2]
      by_cases e : k < m
      · have := (hK.1.2.2.1 k e).2.2.1
        rw [if_pos e, if_pos e, nI_toInt (by omega)]
        omega
      · rw [if_neg e, if_neg e]
        decide
/-- what an order is to do comes to numbers, or not -/
theorem zbrk_ne {x : Int} (h1 : -1000000000 ≤ x) (h2 : x ≤ 1000000000) : ¬ zI x = zBrk := fun e => by
  have e2 : (zI x).toInt = zBrk.toInt := by rw [e]
  rw [zI_toInt (by omega) (by omega), show zBrk.toInt = -2000000000 by decide] at e2
  omega
theorem zc_runDeed {tx cl cp sz N cr : Nat} {cd : Nat → Nat × Nat} {F : Nat → Int32} {C : zOC} (hD : 10 ≤ D) (hC : zCI κ ρ n S.1 m hn t Ls S.2.1) (h1 : κ.2.1 68 1 = nI S.2.2.1) (h2 : κ.2.1 68 2 = zI S.2.2.2) (hT : zTxc (zm_h σ ρ) tx cl cp sz) (hcp : zCp (zm_h σ ρ) cp N cd) (hcr : 70 ≤ cr ∧ zm_h σ ρ cr = zce F) (hO : zOcl cd N F C) (hE : zEv true (zovW m S) (κ.2.1 68))
    (hno : ∀ κ' v, ((C.2.1.1 (zovW m S)).bind fun a => (C.2.1.2.1 (zovW m S)).bind fun b => (C.2.1.2.2 (zovW m S)).bind fun d => zone3 m (zLoK S.1 Ls) C.1 S a b d) = none → zOf κ' κ → v < 0 → post (some (.int v)) n (zl_h κ' (zm_h σ ρ)))
    (hok : ∀ κ' v S', ((C.2.1.1 (zovW m S)).bind fun a => (C.2.1.2.1 (zovW m S)).bind fun b => (C.2.1.2.2 (zovW m S)).bind fun d => zone3 m (zLoK S.1 Ls) C.1 S a b d) = some S' → zOf κ' κ → zCI κ' ρ n S'.1 m hn t Ls S'.2.1 → κ'.2.1 68 1 = nI S.2.2.1 → κ'.2.1 68 2 = zI S'.2.2.2 → S'.2.2.1 = S.2.2.1 + 1 → -1 ≤ S'.2.2.2 → S'.2.2.2 ≤ 99 → 0 ≤ v → post (some (.int v)) n (zl_h κ' (zm_h σ ρ)))
    (b2 : -1 ≤ S.2.2.2) (b3 : S.2.2.2 ≤ 99) : zq_Runs l G D 0 0 yX11_runDeed [.ref 8, .ref tx, .ref cr] n (zl_h κ (zm_h σ ρ)) post := by
  obtain ⟨o1, o2, o3, o4, o5, o6, o7, o8⟩ := hO
  have hF : ∀ κ', zl_h κ' (zm_h σ ρ) cr = .inr (1, [.int (F 0), .int (F 1), .int (F 2), .int (F 3), .int (F 4), .int (F 5)]) := fun κ' => (zl_hi _ _ (Or.inr hcr.1)).trans hcr.2
  have hN8 := hcp
  obtain ⟨code0, -, -, hN800, -⟩ := hN8
  have hs1 : (F 2 = -1 ∧ zrI (C.2.1.1 (zovW m S)) = nI 0) ∨ ∃ e, zHas true cd N (F 2) e ∧ e (zovW m S) = C.2.1.1 (zovW m S) ∧ zrI (C.2.1.1 (zovW m S)) = zrI (C.2.1.1 (zovW m S)) := by
    by_cases e : C.1 = 3
    · exact Or.inl ⟨(o8 e).1, by rw [(o8 e).2]; rfl⟩
    · exact Or.inr ⟨_, o4 e, rfl, rfl⟩
  have hs2 : (F 3 = -1 ∧ zrI (C.2.1.2.1 (zovW m S)) = nI 0) ∨ ∃ e, zHas true cd N (F 3) e ∧ e (zovW m S) = C.2.1.2.1 (zovW m S) ∧ zrI (C.2.1.2.1 (zovW m S)) = zrI (C.2.1.2.1 (zovW m S)) := by
    by_cases e : C.1 = 0
    · exact Or.inr ⟨_, (o5 e).1, rfl, rfl⟩
    · exact Or.inl ⟨(o7 e).1, by rw [(o7 e).2.2]; rfl⟩
  have hs3 : (F 4 = -1 ∧ zrI (C.2.1.2.2 (zovW m S)) = nI 0) ∨ ∃ e, zHas true cd N (F 4) e ∧ e (zovW m S) = C.2.1.2.2 (zovW m S) ∧ zrI (C.2.1.2.2 (zovW m S)) = zrI (C.2.1.2.2 (zovW m S)) := by
    by_cases e : C.1 = 0
    · exact Or.inr ⟨_, (o5 e).2, rfl, rfl⟩
    · exact Or.inl ⟨(o7 e).2.1, by rw [(o7 e).2.2]; rfl⟩
  have bz : zBe (zovW m S) (zx_num 0) := fun x hx => by
    have hx : some (0 : Int) = some x := hx
    cases hx; omega
  have bb1 : zBe (zovW m S) C.2.1.1 := by
    by_cases e : C.1 = 3
    · rw [(o8 e).2]; exact bz
    · exact (zHas_v hN800 (o4 e) hE).1
  have bb2 : zBe (zovW m S) C.2.1.2.1 := by
    by_cases e : C.1 = 0
    · exact (zHas_v hN800 (o5 e).1 hE).1
    · rw [(o7 e).2.2]; exact bz
  have bb3 : zBe (zovW m S) C.2.1.2.2 := by
    by_cases e : C.1 = 0
    · exact (zHas_v hN800 (o5 e).2 hE).1
    · rw [(o7 e).2.2]; exact bz
  have e8 : ∀ a : Nat → Int32, (zl_sA κ 54 a).2.1 68 = κ.2.1 68 := fun a => zlA_o _ (by decide) _
  have z3 : ∀ a b d, zone3 m (zLoK S.1 Ls) C.1 S a b d = if zdC C.1 (zI a) (zI b) (zI d) S.1 m (zLoK S.1 Ls) = 0 then some (zdK C.1 (zI a) (zI b) (zI d) S.1, zpush (zdD C.1 (zI a) (zI b) S.1) S.2.1, S.2.2.1 + 1, if C.1 = 0 then zdT C.1 (zI a) (zI b) (zI d) S.1 m (zLoK S.1 Ls) else S.2.2.2) else none := fun _ _ _ => rfl
  have hneg : ∀ q, q = 1 ∨ q = 2 ∨ q = 3 → -(nI q) < (0 : Int32) := fun q hq => by rcases hq with rfl | rfl | rfl <;> decide
  have hKI := zKW_KI hC.1
  refine zq_enter (cc := cX11_runDeed) (nL := 8) (ret := (some .int)) cw_X11_runDeed (by decide) rfl (Nat.le_of_ble_eq_true rfl) ?_
  refine at_aload_n dX11_runDeed_0 rfl ?_
  refine at_get dX11_runDeed_1 fl_X11_54 (zl_o rfl) rfl ?_
  refine at_get dX11_runDeed_4 fl_X11_360 (zl_o rfl) rfl ?_
  refine at_astore_n dX11_runDeed_7 rfl (by decide) ?_
  refine at_aload_n dX11_runDeed_8 rfl ?_
  refine at_aload_n dX11_runDeed_9 rfl ?_
  refine at_aload_n dX11_runDeed_10 rfl ?_
  refine at_get dX11_runDeed_11 fl_X11_377 (hF _) rfl ?_
  refine at_aload_n dX11_runDeed_14 rfl ?_
  refine at_get dX11_runDeed_15 fl_X11_79 (zl_o rfl) rfl ?_
  refine at_iconst dX11_runDeed_18 (v := nI 0) (by decide) ?_
  refine at_callV4 (d := D - 1) dX11_runDeed_19 mv_X11_367 (zl_o rfl) (Nat.le_of_ble_eq_true rfl) (zq_r0 (by omega) (by omega) (by omega)) ?_
  refine zc_reckon (o := true) (W := zovW m S) (by omega) hT hcp rfl (by decide) rfl hE _ _ hs1 (fun a1 => ?_)
  refine at_istore dX11_runDeed_22 (by decide) ?_
  refine at_aload_n dX11_runDeed_24 rfl ?_
  refine at_aload_n dX11_runDeed_25 rfl ?_
  refine at_aload_n dX11_runDeed_26 rfl ?_
  refine at_get dX11_runDeed_27 fl_X11_380 (hF _) rfl ?_
  refine at_aload_n dX11_runDeed_30 rfl ?_
  refine at_get dX11_runDeed_31 fl_X11_79 (zl_o rfl) rfl ?_
  refine at_iconst dX11_runDeed_34 (v := nI 0) (by decide) ?_
  refine at_callV4 (d := D - 1) dX11_runDeed_35 mv_X11_367 (zl_o rfl) (Nat.le_of_ble_eq_true rfl) (zq_r0 (by omega) (by omega) (by omega)) ?_
  refine zc_reckon (o := true) (W := zovW m S) (by omega) hT hcp rfl (by decide) rfl (by rw [e8]; exact hE) _ _ hs2 (fun a2 => ?_)
  rw [zlA_A]
  refine at_istore dX11_runDeed_38 (by decide) ?_
  refine at_aload_n dX11_runDeed_40 rfl ?_
  refine at_aload_n dX11_runDeed_41 rfl ?_
  refine at_aload_n dX11_runDeed_42 rfl ?_
  refine at_get dX11_runDeed_43 fl_X11_383 (hF _) rfl ?_
  refine at_aload_n dX11_runDeed_46 rfl ?_
  refine at_get dX11_runDeed_47 fl_X11_79 (zl_o rfl) rfl ?_
  refine at_iconst dX11_runDeed_50 (v := nI 0) (by decide) ?_
  refine at_callV4 (d := D - 1) dX11_runDeed_51 mv_X11_367 (zl_o rfl) (Nat.le_of_ble_eq_true rfl) (zq_r0 (by omega) (by omega) (by omega)) ?_
  refine zc_reckon (o := true) (W := zovW m S) (by omega) hT hcp rfl (by decide) rfl (by rw [e8]; exact hE) _ _ hs3 (fun a3 => ?_)
  rw [zlA_A]
  have hO4 : zOf (zl_sA κ 54 a3) κ := zOf_4 (zOf_r κ)
  have hC4 := zCI_4 (g := a3) hC
  have e84 := e8 a3
  generalize hκ4 : zl_sA κ 54 a3 = κ4 at *
  refine at_istore dX11_runDeed_54 (by decide) ?_
  refine at_iload dX11_runDeed_56 rfl ?_
  refine at_ldcw dX11_runDeed_58 (v := -2000000000) kc_X11_386 ?_
  refine at_icmp_eq (tgt := 80) dX11_runDeed_61 (by decide) (fun c61 => ?_) (fun c61 => ?_)
  · have hp := hno κ4 (-3) (by rw [zrI_n bb1 c61]; rfl) hO4 (by decide)
    refine at_bipush dX11_runDeed_80 (v := -3) (by decide) ?_
    refine at_iret dX11_runDeed_82 rfl (by omega) (by omega) ?_
    exact hp
  · obtain ⟨av, ra⟩ := zrI_s c61
    refine at_iload dX11_runDeed_64 rfl ?_
    refine at_ldcw dX11_runDeed_66 (v := -2000000000) kc_X11_386 ?_
    refine at_icmp_eq (tgt := 80) dX11_runDeed_69 (by decide) (fun c69 => ?_) (fun c69 => ?_)
    · have hp := hno κ4 (-3) (by rw [ra, zrI_n bb2 c69]; rfl) hO4 (by decide)
      refine at_bipush dX11_runDeed_80 (v := -3) (by decide) ?_
      refine at_iret dX11_runDeed_82 rfl (by omega) (by omega) ?_
      exact hp
    · obtain ⟨bv, rb⟩ := zrI_s c69
      refine at_iload dX11_runDeed_72 rfl ?_
      refine at_ldcw dX11_runDeed_74 (v := -2000000000) kc_X11_386 ?_
      refine at_icmp_ne (tgt := 83) dX11_runDeed_77 (by decide) (fun c77 => ?_) (fun c77 => ?_)
      · obtain ⟨dv, rd⟩ := zrI_s c77
        have hbind : ((C.2.1.1 (zovW m S)).bind fun a => (C.2.1.2.1 (zovW m S)).bind fun b => (C.2.1.2.2 (zovW m S)).bind fun d => zone3 m (zLoK S.1 Ls) C.1 S a b d) = zone3 m (zLoK S.1 Ls) C.1 S av bv dv := by rw [ra, rb, rd]; rfl
        rw [hbind, z3] at hno hok
        refine at_aload_n dX11_runDeed_83 rfl ?_
        refine at_get dX11_runDeed_84 fl_X11_387 (hF _) rfl ?_
        rw [o2, ra, rb, rd, show zrI (some av) = zI av from rfl, show zrI (some bv) = zI bv from rfl, show zrI (some dv) = zI dv from rfl]
        generalize hh : C.1 = h at *
        rcases (show h = 0 ∨ h = 1 ∨ h = 2 ∨ h = 3 by omega) with rfl | rfl | rfl | rfl
        · refine at_tableIn (tgt := 112) dX11_runDeed_87 (by decide) (by decide) rfl (by decide) ?_
          refine at_aload_n dX11_runDeed_112 rfl ?_
          refine at_iload dX11_runDeed_113 rfl ?_
          refine at_iload dX11_runDeed_115 rfl ?_
          refine at_iload dX11_runDeed_117 rfl ?_
          refine at_callV3 (d := D - 1) dX11_runDeed_119 mv_X11_222 (zl_o rfl) (Nat.le_of_ble_eq_true rfl) (zq_r0 (by omega) (by omega) (by omega)) ?_
          refine zc_strokeNow (by omega) hC4 (fun κ5 e s => ?_) (fun κ5 e s1 s2 => ?_)
          · have hp := hno (zl_sA κ5 68 (upd (κ5.2.1 68) 2 (-(nI (zdC 0 (zI av) (zI bv) (zI dv) S.1 m (zLoK S.1 Ls)))))) (-(nI (zdC 0 (zI av) (zI bv) (zI dv) S.1 m (zLoK S.1 Ls)))) (if_neg e) (zOf_8 (zOf_t (zOf_d (zDf_s s)) hO4)) (hneg _ (zdC_in e))
            refine at_istore dX11_runDeed_122 (by decide) ?_
            refine at_aload_n dX11_runDeed_124 rfl ?_
            refine at_get dX11_runDeed_125 fl_X11_79 (zl_o rfl) rfl ?_
            refine at_iconst dX11_runDeed_128 (v := nI 2) (by decide) ?_
            refine at_iload dX11_runDeed_129 rfl ?_
            refine at_last2 (a := 68) dX11_runDeed_131 rfl rfl (by show _ < 19; omega) (by decide) ?_
            refine at_iload dX11_runDeed_132 rfl ?_
            refine at_iret dX11_runDeed_134 rfl (by omega) (by omega) ?_
            exact hp
          · have hb := zdT_b hKI e
            have e68 : κ5.2.1 68 = κ.2.1 68 := (s2.2.1 68 (by omega) (by decide) (by decide) (by decide)).trans e84
            have hp := hok (zl_sA κ5 68 (upd (κ5.2.1 68) 2 (zI (zdT 0 (zI av) (zI bv) (zI dv) S.1 m (zLoK S.1 Ls))))) (zI (zdT 0 (zI av) (zI bv) (zI dv) S.1 m (zLoK S.1 Ls))) _ (if_pos e) (zOf_8 (zOf_t (zOf_d s2) hO4)) (zCI_8 s1) (by rw [zlA_s, upd_o _ (by decide), e68]; exact h1) (by rw [zlA_s, upd_s]; rfl) rfl (by show -1 ≤ zdT 0 (zI av) (zI bv) (zI dv) S.1 m (zLoK S.1 Ls); omega) (hb.2.2 rfl) (zI_ge hb.1 (by omega))
            refine at_istore dX11_runDeed_122 (by decide) ?_
            refine at_aload_n dX11_runDeed_124 rfl ?_
            refine at_get dX11_runDeed_125 fl_X11_79 (zl_o rfl) rfl ?_
            refine at_iconst dX11_runDeed_128 (v := nI 2) (by decide) ?_
            refine at_iload dX11_runDeed_129 rfl ?_
            refine at_last2 (a := 68) dX11_runDeed_131 rfl rfl (by show _ < 19; omega) (by decide) ?_
            refine at_iload dX11_runDeed_132 rfl ?_
            refine at_iret dX11_runDeed_134 rfl (by omega) (by omega) ?_
            exact hp
        · refine at_tableIn (tgt := 135) dX11_runDeed_87 (by decide) (by decide) rfl (by decide) ?_
          refine at_aload_n dX11_runDeed_135 rfl ?_
          refine at_iload dX11_runDeed_136 rfl ?_
          refine at_callV1 (d := D - 1) dX11_runDeed_138 mv_X11_229 (zl_o rfl) (Nat.le_of_ble_eq_true rfl) (zq_r0 (by omega) (by omega) (by omega)) ?_
          refine zc_swapNow (by omega) hC4 (zI bv) (zI dv) (fun e => ?_) (fun κ5 e s1 s2 => ?_)
          · have hp := hno κ4 _ (if_neg e) hO4 (hneg _ (zdC_in e))
            refine at_iret dX11_runDeed_141 rfl (by omega) (by omega) ?_
            exact hp
          · have hb := zdT_b hKI e
            have e68 : κ5.2.1 68 = κ.2.1 68 := (s2.2.1 68 (by omega) (by decide) (by decide) (by decide)).trans e84
            have hp := hok κ5 (zI (zdT 1 (zI av) (zI bv) (zI dv) S.1 m (zLoK S.1 Ls))) _ (if_pos e) (zOf_t (zOf_d s2) hO4) s1 (by rw [e68]; exact h1) (by rw [e68]; exact h2) rfl b2 b3 (zI_ge hb.1 (by omega))
            refine at_iret dX11_runDeed_141 rfl (by omega) (by omega) ?_
            exact hp
        · refine at_tableIn (tgt := 142) dX11_runDeed_87 (by decide) (by decide) rfl (by decide) ?_
          refine at_aload_n dX11_runDeed_142 rfl ?_
          refine at_iload dX11_runDeed_143 rfl ?_
          refine at_callV1 (d := D - 1) dX11_runDeed_145 mv_X11_232 (zl_o rfl) (Nat.le_of_ble_eq_true rfl) (zq_r0 (by omega) (by omega) (by omega)) ?_
          refine zc_decreeNow (by omega) hC4 (zI bv) (zI dv) (fun e => ?_) (fun κ5 e s1 s2 => ?_)
          · have hp := hno κ4 _ (if_neg e) hO4 (hneg _ (zdC_in e))
            refine at_iret dX11_runDeed_148 rfl (by omega) (by omega) ?_
            exact hp
          · have hb := zdT_b hKI e
            have e68 : κ5.2.1 68 = κ.2.1 68 := (s2.2.1 68 (by omega) (by decide) (by decide) (by decide)).trans e84
            have hp := hok κ5 (zI (zdT 2 (zI av) (zI bv) (zI dv) S.1 m (zLoK S.1 Ls))) _ (if_pos e) (zOf_t (zOf_d s2) hO4) s1 (by rw [e68]; exact h1) (by rw [e68]; exact h2) rfl b2 b3 (zI_ge hb.1 (by omega))
            refine at_iret dX11_runDeed_148 rfl (by omega) (by omega) ?_
            exact hp
        · refine at_tableOut (tgt := 149) dX11_runDeed_87 (Or.inr (by decide)) (by decide) ?_
          refine at_aload_n dX11_runDeed_149 rfl ?_
          refine at_callV0 (d := D - 1) dX11_runDeed_150 mv_X11_235 (zl_o rfl) (Nat.le_of_ble_eq_true rfl) (zq_r0 (by omega) (by omega) (by omega)) ?_
          refine zc_passNow (by omega) hC4 (zI av) (zI bv) (zI dv) (fun e => ?_) (fun κ5 e s1 s2 => ?_)
          · have hp := hno κ4 _ (if_neg e) hO4 (hneg _ (zdC_in e))
            refine at_iret dX11_runDeed_153 rfl (by omega) (by omega) ?_
            exact hp
          · have hb := zdT_b hKI e
            have e68 : κ5.2.1 68 = κ.2.1 68 := (s2.2.1 68 (by omega) (by decide) (by decide) (by decide)).trans e84
            have hp := hok κ5 (zI (zdT 3 (zI av) (zI bv) (zI dv) S.1 m (zLoK S.1 Ls))) _ (if_pos e) (zOf_t (zOf_d s2) hO4) s1 (by rw [e68]; exact h1) (by rw [e68]; exact h2) rfl b2 b3 (zI_ge hb.1 (by omega))
            refine at_iret dX11_runDeed_153 rfl (by omega) (by omega) ?_
            exact hp
      · have hp := hno κ4 (-3) (by rw [ra, rb, zrI_n bb3 c77]; rfl) hO4 (by decide)
        refine at_bipush dX11_runDeed_80 (v := -3) (by decide) ?_
        refine at_iret dX11_runDeed_82 rfl (by omega) (by omega) ?_
        exact hp
end ZK28

